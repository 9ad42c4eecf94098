set_option maxRecDepth 20000 in
theorem ggX11_ask_X11_bad : GoodIn wsX11_ask wsX11_bad := goodIn_r _ [19, 20, 35, 36, 37, 38, 39, 40, 41, 42, 43, 44, 45, 46, 47, 48, 49, 50, 51, 52] rfl (by decide +kernel)
set_option maxRecDepth 20000 in
theorem gX11_ask_X11_bad : GoodIn wsX11_ask (wsV RX11 68 RX11 yX11_bad wsX11_bad) := goodIn_app (goodIn_of _ (by decide +kernel)) ggX11_ask_X11_bad
set_option maxRecDepth 20000 in
theorem ggX11_ask_X11_isOne : GoodIn wsX11_ask wsX11_isOne := goodIn_r _ [7, 8, 9, 10, 6, 11, 12, 13, 14, 15, 35, 36, 37, 38, 39, 40, 41, 42, 43, 44, 45, 46, 47, 48, 49, 50, 51, 52] rfl (by decide +kernel)
set_option maxRecDepth 20000 in
theorem gX11_ask_X11_isOne : GoodIn wsX11_ask (wsV RX11 123 RX11 yX11_isOne wsX11_isOne) := goodIn_app (goodIn_of _ (by decide +kernel)) ggX11_ask_X11_isOne
set_option maxRecDepth 20000 in
theorem ggX11_ask_X11_kindsOfEgg : GoodIn wsX11_ask wsX11_kindsOfEgg := goodIn_r _ [24, 12, 25, 26, 6, 27, 35, 36, 37, 38, 39, 40, 41, 42, 43, 44, 45, 46, 47, 48, 49, 50, 51, 52] rfl (by decide +kernel)
set_option maxRecDepth 20000 in
theorem gX11_ask_X11_kindsOfEgg : GoodIn wsX11_ask (wsV RX11 171 RX11 yX11_kindsOfEgg wsX11_kindsOfEgg) := goodIn_app (goodIn_of _ (by decide +kernel)) ggX11_ask_X11_kindsOfEgg
set_option maxRecDepth 20000 in
theorem ggX11_ask_X11_mayAs : GoodIn wsX11_ask wsX11_mayAs := goodIn_r _ [27] rfl (by decide +kernel)
set_option maxRecDepth 20000 in
theorem gX11_ask_X11_mayAs : GoodIn wsX11_ask (va_wsS RX11 94 yX11_mayAs wsX11_mayAs) := goodIn_app (goodIn_of _ (by decide +kernel)) ggX11_ask_X11_mayAs
set_option maxRecDepth 20000 in
theorem ggX11_ask_X11_mostAlike : GoodIn wsX11_ask wsX11_mostAlike := goodIn_r _ [31, 2, 32, 33, 6, 34, 35, 36, 37, 38, 39, 40, 41, 42, 43, 44, 45, 46, 47, 48, 49, 50, 51, 52] rfl (by decide +kernel)
set_option maxRecDepth 20000 in
theorem gX11_ask_X11_mostAlike : GoodIn wsX11_ask (wsV RX11 165 RX11 yX11_mostAlike wsX11_mostAlike) := goodIn_app (goodIn_of _ (by decide +kernel)) ggX11_ask_X11_mostAlike
set_option maxRecDepth 20000 in
theorem ggX11_kindsOfEgg_X11_mayAs : GoodIn wsX11_kindsOfEgg wsX11_mayAs := goodIn_r _ [5] rfl (by decide +kernel)
set_option maxRecDepth 20000 in
theorem gX11_kindsOfEgg_X11_mayAs : GoodIn wsX11_kindsOfEgg (va_wsS RX11 94 yX11_mayAs wsX11_mayAs) := goodIn_app (goodIn_of _ (by decide +kernel)) ggX11_kindsOfEgg_X11_mayAs
set_option maxRecDepth 20000 in
theorem ggX11_kindsOfOne_X11_runsAs : GoodIn wsX11_kindsOfOne wsX11_runsAs := goodIn_r _ [5] rfl (by decide +kernel)
set_option maxRecDepth 20000 in
theorem gX11_kindsOfOne_X11_runsAs : GoodIn wsX11_kindsOfOne (va_wsS RX11 86 yX11_runsAs wsX11_runsAs) := goodIn_app (goodIn_of _ (by decide +kernel)) ggX11_kindsOfOne_X11_runsAs
set_option maxRecDepth 20000 in
theorem ggX11_look_X11_bad : GoodIn wsX11_look wsX11_bad := goodIn_r _ [19, 20, 35, 36, 37, 38, 39, 40, 41, 42, 43, 44, 45, 46, 47, 48, 49, 50, 51, 52] rfl (by decide +kernel)
set_option maxRecDepth 20000 in
theorem gX11_look_X11_bad : GoodIn wsX11_look (wsV RX11 68 RX11 yX11_bad wsX11_bad) := goodIn_app (goodIn_of _ (by decide +kernel)) ggX11_look_X11_bad
set_option maxRecDepth 20000 in
theorem ggX11_look_X11_isOne : GoodIn wsX11_look wsX11_isOne := goodIn_r _ [8, 9, 10, 11, 7, 12, 3, 13, 14, 15, 35, 36, 37, 38, 39, 40, 41, 42, 43, 44, 45, 46, 47, 48, 49, 50, 51, 52] rfl (by decide +kernel)
set_option maxRecDepth 20000 in
theorem gX11_look_X11_isOne : GoodIn wsX11_look (wsV RX11 123 RX11 yX11_isOne wsX11_isOne) := goodIn_app (goodIn_of _ (by decide +kernel)) ggX11_look_X11_isOne
set_option maxRecDepth 20000 in
theorem ggX11_look_X11_kindsOfOne : GoodIn wsX11_look wsX11_kindsOfOne := goodIn_r _ [24, 3, 25, 26, 7, 27, 35, 36, 37, 38, 39, 40, 41, 42, 43, 44, 45, 46, 47, 48, 49, 50, 51, 52] rfl (by decide +kernel)
set_option maxRecDepth 20000 in
theorem gX11_look_X11_kindsOfOne : GoodIn wsX11_look (wsV RX11 168 RX11 yX11_kindsOfOne wsX11_kindsOfOne) := goodIn_app (goodIn_of _ (by decide +kernel)) ggX11_look_X11_kindsOfOne
set_option maxRecDepth 20000 in
theorem ggX11_look_X11_mostAlike : GoodIn wsX11_look wsX11_mostAlike := goodIn_r _ [31, 2, 32, 33, 7, 34, 35, 36, 37, 38, 39, 40, 41, 42, 43, 44, 45, 46, 47, 48, 49, 50, 51, 52] rfl (by decide +kernel)
set_option maxRecDepth 20000 in
theorem gX11_look_X11_mostAlike : GoodIn wsX11_look (wsV RX11 165 RX11 yX11_mostAlike wsX11_mostAlike) := goodIn_app (goodIn_of _ (by decide +kernel)) ggX11_look_X11_mostAlike
set_option maxRecDepth 20000 in
theorem ggX11_look_X11_runsAs : GoodIn wsX11_look wsX11_runsAs := goodIn_r _ [27] rfl (by decide +kernel)
set_option maxRecDepth 20000 in
theorem gX11_look_X11_runsAs : GoodIn wsX11_look (va_wsS RX11 86 yX11_runsAs wsX11_runsAs) := goodIn_app (goodIn_of _ (by decide +kernel)) ggX11_look_X11_runsAs
set_option maxRecDepth 20000 in
theorem ggX11_mostAlike_X11_has : GoodIn wsX11_mostAlike wsX11_has := goodIn_r _ [5] rfl (by decide +kernel)
set_option maxRecDepth 20000 in
theorem gX11_mostAlike_X11_has : GoodIn wsX11_mostAlike (va_wsS RX11 161 yX11_has wsX11_has) := goodIn_app (goodIn_of _ (by decide +kernel)) ggX11_mostAlike_X11_has
set_option maxRecDepth 20000 in
theorem ggX11_pair_X11_bad : GoodIn wsX11_pair wsX11_bad := goodIn_r _ [19, 20, 58, 59, 60, 61, 62, 63, 64, 65, 66, 67, 68, 69, 70, 71, 72, 73, 74, 75] rfl (by decide +kernel)
set_option maxRecDepth 20000 in
theorem gX11_pair_X11_bad : GoodIn wsX11_pair (wsV RX11 68 RX11 yX11_bad wsX11_bad) := goodIn_app (goodIn_of _ (by decide +kernel)) ggX11_pair_X11_bad
set_option maxRecDepth 20000 in
theorem ggX11_pair_X11_goAhead : GoodIn wsX11_pair wsX11_goAhead := goodIn_r _ [28, 1, 29, 30, 6, 31, 32, 33, 34, 35, 36, 37, 38, 39, 40, 41, 42, 43, 44, 45, 46, 47, 48, 49, 58, 59, 60, 61, 62, 63, 64, 65, 66, 67, 68, 69, 70, 71, 72, 73, 74, 75] rfl (by decide +kernel)
set_option maxRecDepth 20000 in
theorem gX11_pair_X11_goAhead : GoodIn wsX11_pair (wsV RX11 140 RX11 yX11_goAhead wsX11_goAhead) := goodIn_app (goodIn_of _ (by decide +kernel)) ggX11_pair_X11_goAhead
set_option maxRecDepth 20000 in
theorem ggX11_pair_X11_isOne : GoodIn wsX11_pair wsX11_isOne := goodIn_r _ [7, 8, 9, 10, 6, 11, 12, 13, 14, 15, 58, 59, 60, 61, 62, 63, 64, 65, 66, 67, 68, 69, 70, 71, 72, 73, 74, 75] rfl (by decide +kernel)
set_option maxRecDepth 20000 in
theorem gX11_pair_X11_isOne : GoodIn wsX11_pair (wsV RX11 123 RX11 yX11_isOne wsX11_isOne) := goodIn_app (goodIn_of _ (by decide +kernel)) ggX11_pair_X11_isOne
set_option maxRecDepth 20000 in
theorem ggX11_pair_X11_layHand : GoodIn wsX11_pair wsX11_layHand := goodIn_r _ [24, 1, 12, 58, 59, 60, 61, 62, 63, 64, 65, 66, 67, 68, 69, 70, 71, 72, 73, 74, 75] rfl (by decide +kernel)
set_option maxRecDepth 20000 in
theorem gX11_pair_X11_layHand : GoodIn wsX11_pair (wsV RX11 137 RX11 yX11_layHand wsX11_layHand) := goodIn_app (goodIn_of _ (by decide +kernel)) ggX11_pair_X11_layHand
set_option maxRecDepth 20000 in
theorem ggX11_pair_X11_rests : GoodIn wsX11_pair wsX11_rests := goodIn_r _ [53, 2, 12, 54, 55, 56, 6, 57, 58, 59, 60, 61, 62, 63, 64, 65, 66, 67, 68, 69, 70, 71, 72, 73, 74, 75] rfl (by decide +kernel)
set_option maxRecDepth 20000 in
theorem gX11_pair_X11_rests : GoodIn wsX11_pair (wsV RX11 178 RX11 yX11_rests wsX11_rests) := goodIn_app (goodIn_of _ (by decide +kernel)) ggX11_pair_X11_rests
set_option maxRecDepth 20000 in
theorem ggX11_rests_X11_getsBy : GoodIn wsX11_rests wsX11_getsBy := goodIn_r _ [7] rfl (by decide +kernel)
set_option maxRecDepth 20000 in
theorem gX11_rests_X11_getsBy : GoodIn wsX11_rests (wsV RX11 174 RX11 yX11_getsBy wsX11_getsBy) := goodIn_app (goodIn_of _ (by decide +kernel)) ggX11_rests_X11_getsBy
set_option maxRecDepth 20000 in
theorem ggX11_tell_X11_bad : GoodIn wsX11_tell wsX11_bad := goodIn_r _ [19, 20, 35, 36, 37, 38, 39, 40, 41, 42, 43, 44, 45, 46, 47, 48, 49, 50, 51, 52] rfl (by decide +kernel)
set_option maxRecDepth 20000 in
theorem gX11_tell_X11_bad : GoodIn wsX11_tell (wsV RX11 68 RX11 yX11_bad wsX11_bad) := goodIn_app (goodIn_of _ (by decide +kernel)) ggX11_tell_X11_bad
set_option maxRecDepth 20000 in
theorem ggX11_tell_X11_isOne : GoodIn wsX11_tell wsX11_isOne := goodIn_r _ [8, 9, 10, 11, 7, 12, 3, 13, 14, 15, 35, 36, 37, 38, 39, 40, 41, 42, 43, 44, 45, 46, 47, 48, 49, 50, 51, 52] rfl (by decide +kernel)
set_option maxRecDepth 20000 in
theorem gX11_tell_X11_isOne : GoodIn wsX11_tell (wsV RX11 123 RX11 yX11_isOne wsX11_isOne) := goodIn_app (goodIn_of _ (by decide +kernel)) ggX11_tell_X11_isOne
set_option maxRecDepth 20000 in
theorem ggX11_tell_X11_legsOf : GoodIn wsX11_tell wsX11_legsOf := goodIn_r _ [24, 3, 25, 26, 7, 27, 35, 36, 37, 38, 39, 40, 41, 42, 43, 44, 45, 46, 47, 48, 49, 50, 51, 52] rfl (by decide +kernel)
set_option maxRecDepth 20000 in
theorem gX11_tell_X11_legsOf : GoodIn wsX11_tell (wsV RX11 158 RX11 yX11_legsOf wsX11_legsOf) := goodIn_app (goodIn_of _ (by decide +kernel)) ggX11_tell_X11_legsOf
set_option maxRecDepth 20000 in
theorem ggX11_tell_X11_mostAlike : GoodIn wsX11_tell wsX11_mostAlike := goodIn_r _ [31, 2, 32, 33, 7, 34, 35, 36, 37, 38, 39, 40, 41, 42, 43, 44, 45, 46, 47, 48, 49, 50, 51, 52] rfl (by decide +kernel)
set_option maxRecDepth 20000 in
theorem gX11_tell_X11_mostAlike : GoodIn wsX11_tell (wsV RX11 165 RX11 yX11_mostAlike wsX11_mostAlike) := goodIn_app (goodIn_of _ (by decide +kernel)) ggX11_tell_X11_mostAlike
set_option maxRecDepth 20000 in
theorem ggX11_tell_X11_runsAs : GoodIn wsX11_tell wsX11_runsAs := goodIn_r _ [27] rfl (by decide +kernel)
set_option maxRecDepth 20000 in
theorem gX11_tell_X11_runsAs : GoodIn wsX11_tell (va_wsS RX11 86 yX11_runsAs wsX11_runsAs) := goodIn_app (goodIn_of _ (by decide +kernel)) ggX11_tell_X11_runsAs
theorem dX11_ask_0 : decode cX11_ask 0 = .ok (.aload_n 0, 1) := by decide +kernel
theorem dX11_ask_1 : decode cX11_ask 1 = .ok (.iload_n 1, 1) := by decide +kernel
theorem dX11_ask_101 : decode cX11_ask 101 = .ok (.goto 5, 3) := by decide +kernel
theorem dX11_ask_104 : decode cX11_ask 104 = .ok (.iload 4, 2) := by decide +kernel
theorem dX11_ask_106 : decode cX11_ask 106 = .ok (.istore 4, 2) := by decide +kernel
theorem dX11_ask_108 : decode cX11_ask 108 = .ok (.iinc 5 1, 3) := by decide +kernel
theorem dX11_ask_11 : decode cX11_ask 11 = .ok (.invokevirtual 68, 3) := by decide +kernel
theorem dX11_ask_111 : decode cX11_ask 111 = .ok (.goto (-81), 3) := by decide +kernel
theorem dX11_ask_114 : decode cX11_ask 114 = .ok (.iload_n 3, 1) := by decide +kernel
theorem dX11_ask_115 : decode cX11_ask 115 = .ok (.ireturn, 1) := by decide +kernel
theorem dX11_ask_14 : decode cX11_ask 14 = .ok (.ireturn, 1) := by decide +kernel
theorem dX11_ask_15 : decode cX11_ask 15 = .ok (.aload_n 0, 1) := by decide +kernel
theorem dX11_ask_16 : decode cX11_ask 16 = .ok (.iload_n 1, 1) := by decide +kernel
theorem dX11_ask_17 : decode cX11_ask 17 = .ok (.invokevirtual 171, 3) := by decide +kernel
theorem dX11_ask_2 : decode cX11_ask 2 = .ok (.invokevirtual 123, 3) := by decide +kernel
theorem dX11_ask_20 : decode cX11_ask 20 = .ok (.istore_n 2, 1) := by decide +kernel
theorem dX11_ask_21 : decode cX11_ask 21 = .ok (.iconst (-1), 1) := by decide +kernel
theorem dX11_ask_22 : decode cX11_ask 22 = .ok (.istore_n 3, 1) := by decide +kernel
theorem dX11_ask_23 : decode cX11_ask 23 = .ok (.ldc 150, 2) := by decide +kernel
theorem dX11_ask_25 : decode cX11_ask 25 = .ok (.istore 4, 2) := by decide +kernel
theorem dX11_ask_27 : decode cX11_ask 27 = .ok (.iconst 0, 1) := by decide +kernel
theorem dX11_ask_28 : decode cX11_ask 28 = .ok (.istore 5, 2) := by decide +kernel
theorem dX11_ask_30 : decode cX11_ask 30 = .ok (.iload 5, 2) := by decide +kernel
theorem dX11_ask_32 : decode cX11_ask 32 = .ok (.bipush 20, 2) := by decide +kernel
theorem dX11_ask_34 : decode cX11_ask 34 = .ok (.if_icmp .ge 80, 3) := by decide +kernel
theorem dX11_ask_37 : decode cX11_ask 37 = .ok (.iload_n 2, 1) := by decide +kernel
theorem dX11_ask_38 : decode cX11_ask 38 = .ok (.ifCond .le 76, 3) := by decide +kernel
theorem dX11_ask_41 : decode cX11_ask 41 = .ok (.iconst 0, 1) := by decide +kernel
theorem dX11_ask_42 : decode cX11_ask 42 = .ok (.istore 6, 2) := by decide +kernel
theorem dX11_ask_44 : decode cX11_ask 44 = .ok (.iload 6, 2) := by decide +kernel
theorem dX11_ask_46 : decode cX11_ask 46 = .ok (.bipush 6, 2) := by decide +kernel
theorem dX11_ask_48 : decode cX11_ask 48 = .ok (.if_icmp .ge 23, 3) := by decide +kernel
theorem dX11_ask_5 : decode cX11_ask 5 = .ok (.ifCond .ne 10, 3) := by decide +kernel
theorem dX11_ask_51 : decode cX11_ask 51 = .ok (.aload_n 0, 1) := by decide +kernel
theorem dX11_ask_52 : decode cX11_ask 52 = .ok (.getfield 33, 3) := by decide +kernel
theorem dX11_ask_55 : decode cX11_ask 55 = .ok (.iload 6, 2) := by decide +kernel
theorem dX11_ask_57 : decode cX11_ask 57 = .ok (.iload 6, 2) := by decide +kernel
theorem dX11_ask_59 : decode cX11_ask 59 = .ok (.iload 5, 2) := by decide +kernel
theorem dX11_ask_61 : decode cX11_ask 61 = .ok (.invokestatic 94, 3) := by decide +kernel
theorem dX11_ask_64 : decode cX11_ask 64 = .ok (.iastore, 1) := by decide +kernel
theorem dX11_ask_65 : decode cX11_ask 65 = .ok (.iinc 6 1, 3) := by decide +kernel
theorem dX11_ask_68 : decode cX11_ask 68 = .ok (.goto (-24), 3) := by decide +kernel
theorem dX11_ask_71 : decode cX11_ask 71 = .ok (.aload_n 0, 1) := by decide +kernel
theorem dX11_ask_72 : decode cX11_ask 72 = .ok (.iload_n 2, 1) := by decide +kernel
theorem dX11_ask_73 : decode cX11_ask 73 = .ok (.invokevirtual 165, 3) := by decide +kernel
theorem dX11_ask_76 : decode cX11_ask 76 = .ok (.istore 6, 2) := by decide +kernel
theorem dX11_ask_78 : decode cX11_ask 78 = .ok (.iload 6, 2) := by decide +kernel
theorem dX11_ask_8 : decode cX11_ask 8 = .ok (.aload_n 0, 1) := by decide +kernel
theorem dX11_ask_80 : decode cX11_ask 80 = .ok (.iload 4, 2) := by decide +kernel
theorem dX11_ask_82 : decode cX11_ask 82 = .ok (.if_icmp .ge 8, 3) := by decide +kernel
theorem dX11_ask_85 : decode cX11_ask 85 = .ok (.iload 5, 2) := by decide +kernel
theorem dX11_ask_87 : decode cX11_ask 87 = .ok (.goto 4, 3) := by decide +kernel
theorem dX11_ask_9 : decode cX11_ask 9 = .ok (.bipush (-2), 2) := by decide +kernel
theorem dX11_ask_90 : decode cX11_ask 90 = .ok (.iload_n 3, 1) := by decide +kernel
theorem dX11_ask_91 : decode cX11_ask 91 = .ok (.istore_n 3, 1) := by decide +kernel
theorem dX11_ask_92 : decode cX11_ask 92 = .ok (.iload 6, 2) := by decide +kernel
theorem dX11_ask_94 : decode cX11_ask 94 = .ok (.iload 4, 2) := by decide +kernel
theorem dX11_ask_96 : decode cX11_ask 96 = .ok (.if_icmp .ge 8, 3) := by decide +kernel
theorem dX11_ask_99 : decode cX11_ask 99 = .ok (.iload 6, 2) := by decide +kernel
theorem dX11_getsBy_0 : decode cX11_getsBy 0 = .ok (.iload_n 2, 1) := by decide +kernel
theorem dX11_getsBy_1 : decode cX11_getsBy 1 = .ok (.iload_n 1, 1) := by decide +kernel
theorem dX11_getsBy_12 : decode cX11_getsBy 12 = .ok (.iconst 0, 1) := by decide +kernel
theorem dX11_getsBy_13 : decode cX11_getsBy 13 = .ok (.iadd, 1) := by decide +kernel
theorem dX11_getsBy_14 : decode cX11_getsBy 14 = .ok (.ireturn, 1) := by decide +kernel
theorem dX11_getsBy_2 : decode cX11_getsBy 2 = .ok (.isub, 1) := by decide +kernel
theorem dX11_getsBy_3 : decode cX11_getsBy 3 = .ok (.iload_n 2, 1) := by decide +kernel
theorem dX11_getsBy_4 : decode cX11_getsBy 4 = .ok (.iload_n 3, 1) := by decide +kernel
theorem dX11_getsBy_5 : decode cX11_getsBy 5 = .ok (.if_icmp .le 7, 3) := by decide +kernel
theorem dX11_getsBy_8 : decode cX11_getsBy 8 = .ok (.iconst 3, 1) := by decide +kernel
theorem dX11_getsBy_9 : decode cX11_getsBy 9 = .ok (.goto 4, 3) := by decide +kernel
theorem dX11_kindsOfEgg_0 : decode cX11_kindsOfEgg 0 = .ok (.iconst 0, 1) := by decide +kernel
theorem dX11_kindsOfEgg_1 : decode cX11_kindsOfEgg 1 = .ok (.istore_n 2, 1) := by decide +kernel
theorem dX11_kindsOfEgg_10 : decode cX11_kindsOfEgg 10 = .ok (.iconst 1, 1) := by decide +kernel
theorem dX11_kindsOfEgg_102 : decode cX11_kindsOfEgg 102 = .ok (.iconst 0, 1) := by decide +kernel
theorem dX11_kindsOfEgg_103 : decode cX11_kindsOfEgg 103 = .ok (.ior, 1) := by decide +kernel
theorem dX11_kindsOfEgg_104 : decode cX11_kindsOfEgg 104 = .ok (.istore_n 2, 1) := by decide +kernel
theorem dX11_kindsOfEgg_105 : decode cX11_kindsOfEgg 105 = .ok (.iinc 3 1, 3) := by decide +kernel
theorem dX11_kindsOfEgg_108 : decode cX11_kindsOfEgg 108 = .ok (.goto (-104), 3) := by decide +kernel
theorem dX11_kindsOfEgg_11 : decode cX11_kindsOfEgg 11 = .ok (.istore 4, 2) := by decide +kernel
theorem dX11_kindsOfEgg_111 : decode cX11_kindsOfEgg 111 = .ok (.iload_n 2, 1) := by decide +kernel
theorem dX11_kindsOfEgg_112 : decode cX11_kindsOfEgg 112 = .ok (.ireturn, 1) := by decide +kernel
theorem dX11_kindsOfEgg_13 : decode cX11_kindsOfEgg 13 = .ok (.iconst 0, 1) := by decide +kernel
theorem dX11_kindsOfEgg_14 : decode cX11_kindsOfEgg 14 = .ok (.istore 5, 2) := by decide +kernel
theorem dX11_kindsOfEgg_16 : decode cX11_kindsOfEgg 16 = .ok (.iload 5, 2) := by decide +kernel
theorem dX11_kindsOfEgg_18 : decode cX11_kindsOfEgg 18 = .ok (.aload_n 0, 1) := by decide +kernel
theorem dX11_kindsOfEgg_19 : decode cX11_kindsOfEgg 19 = .ok (.getfield 7, 3) := by decide +kernel
theorem dX11_kindsOfEgg_2 : decode cX11_kindsOfEgg 2 = .ok (.iconst 0, 1) := by decide +kernel
theorem dX11_kindsOfEgg_22 : decode cX11_kindsOfEgg 22 = .ok (.iconst 3, 1) := by decide +kernel
theorem dX11_kindsOfEgg_23 : decode cX11_kindsOfEgg 23 = .ok (.iaload, 1) := by decide +kernel
theorem dX11_kindsOfEgg_24 : decode cX11_kindsOfEgg 24 = .ok (.if_icmp .ge 66, 3) := by decide +kernel
theorem dX11_kindsOfEgg_27 : decode cX11_kindsOfEgg 27 = .ok (.bipush 105, 2) := by decide +kernel
theorem dX11_kindsOfEgg_29 : decode cX11_kindsOfEgg 29 = .ok (.iconst 3, 1) := by decide +kernel
theorem dX11_kindsOfEgg_3 : decode cX11_kindsOfEgg 3 = .ok (.istore_n 3, 1) := by decide +kernel
theorem dX11_kindsOfEgg_30 : decode cX11_kindsOfEgg 30 = .ok (.iload 5, 2) := by decide +kernel
theorem dX11_kindsOfEgg_32 : decode cX11_kindsOfEgg 32 = .ok (.imul, 1) := by decide +kernel
theorem dX11_kindsOfEgg_33 : decode cX11_kindsOfEgg 33 = .ok (.iadd, 1) := by decide +kernel
theorem dX11_kindsOfEgg_34 : decode cX11_kindsOfEgg 34 = .ok (.istore 6, 2) := by decide +kernel
theorem dX11_kindsOfEgg_36 : decode cX11_kindsOfEgg 36 = .ok (.iload 4, 2) := by decide +kernel
theorem dX11_kindsOfEgg_38 : decode cX11_kindsOfEgg 38 = .ok (.ifCond .eq 43, 3) := by decide +kernel
theorem dX11_kindsOfEgg_4 : decode cX11_kindsOfEgg 4 = .ok (.iload_n 3, 1) := by decide +kernel
theorem dX11_kindsOfEgg_41 : decode cX11_kindsOfEgg 41 = .ok (.aload_n 0, 1) := by decide +kernel
theorem dX11_kindsOfEgg_42 : decode cX11_kindsOfEgg 42 = .ok (.getfield 7, 3) := by decide +kernel
theorem dX11_kindsOfEgg_45 : decode cX11_kindsOfEgg 45 = .ok (.iload 6, 2) := by decide +kernel
theorem dX11_kindsOfEgg_47 : decode cX11_kindsOfEgg 47 = .ok (.iaload, 1) := by decide +kernel
theorem dX11_kindsOfEgg_48 : decode cX11_kindsOfEgg 48 = .ok (.iload_n 1, 1) := by decide +kernel
theorem dX11_kindsOfEgg_49 : decode cX11_kindsOfEgg 49 = .ok (.if_icmp .ne 28, 3) := by decide +kernel
theorem dX11_kindsOfEgg_5 : decode cX11_kindsOfEgg 5 = .ok (.bipush 6, 2) := by decide +kernel
theorem dX11_kindsOfEgg_52 : decode cX11_kindsOfEgg 52 = .ok (.iload_n 3, 1) := by decide +kernel
theorem dX11_kindsOfEgg_53 : decode cX11_kindsOfEgg 53 = .ok (.aload_n 0, 1) := by decide +kernel
theorem dX11_kindsOfEgg_54 : decode cX11_kindsOfEgg 54 = .ok (.getfield 7, 3) := by decide +kernel
theorem dX11_kindsOfEgg_57 : decode cX11_kindsOfEgg 57 = .ok (.iload 6, 2) := by decide +kernel
theorem dX11_kindsOfEgg_59 : decode cX11_kindsOfEgg 59 = .ok (.iconst 1, 1) := by decide +kernel
theorem dX11_kindsOfEgg_60 : decode cX11_kindsOfEgg 60 = .ok (.iadd, 1) := by decide +kernel
theorem dX11_kindsOfEgg_61 : decode cX11_kindsOfEgg 61 = .ok (.iaload, 1) := by decide +kernel
theorem dX11_kindsOfEgg_62 : decode cX11_kindsOfEgg 62 = .ok (.invokestatic 94, 3) := by decide +kernel
theorem dX11_kindsOfEgg_65 : decode cX11_kindsOfEgg 65 = .ok (.aload_n 0, 1) := by decide +kernel
theorem dX11_kindsOfEgg_66 : decode cX11_kindsOfEgg 66 = .ok (.getfield 7, 3) := by decide +kernel
theorem dX11_kindsOfEgg_69 : decode cX11_kindsOfEgg 69 = .ok (.iload 6, 2) := by decide +kernel
theorem dX11_kindsOfEgg_7 : decode cX11_kindsOfEgg 7 = .ok (.if_icmp .ge 104, 3) := by decide +kernel
theorem dX11_kindsOfEgg_71 : decode cX11_kindsOfEgg 71 = .ok (.iconst 2, 1) := by decide +kernel
theorem dX11_kindsOfEgg_72 : decode cX11_kindsOfEgg 72 = .ok (.iadd, 1) := by decide +kernel
theorem dX11_kindsOfEgg_73 : decode cX11_kindsOfEgg 73 = .ok (.iaload, 1) := by decide +kernel
theorem dX11_kindsOfEgg_74 : decode cX11_kindsOfEgg 74 = .ok (.if_icmp .ne 7, 3) := by decide +kernel
theorem dX11_kindsOfEgg_77 : decode cX11_kindsOfEgg 77 = .ok (.iconst 1, 1) := by decide +kernel
theorem dX11_kindsOfEgg_78 : decode cX11_kindsOfEgg 78 = .ok (.goto 4, 3) := by decide +kernel
theorem dX11_kindsOfEgg_81 : decode cX11_kindsOfEgg 81 = .ok (.iconst 0, 1) := by decide +kernel
theorem dX11_kindsOfEgg_82 : decode cX11_kindsOfEgg 82 = .ok (.istore 4, 2) := by decide +kernel
theorem dX11_kindsOfEgg_84 : decode cX11_kindsOfEgg 84 = .ok (.iinc 5 1, 3) := by decide +kernel
theorem dX11_kindsOfEgg_87 : decode cX11_kindsOfEgg 87 = .ok (.goto (-71), 3) := by decide +kernel
theorem dX11_kindsOfEgg_90 : decode cX11_kindsOfEgg 90 = .ok (.iload_n 2, 1) := by decide +kernel
theorem dX11_kindsOfEgg_91 : decode cX11_kindsOfEgg 91 = .ok (.iload 4, 2) := by decide +kernel
theorem dX11_kindsOfEgg_93 : decode cX11_kindsOfEgg 93 = .ok (.ifCond .eq 9, 3) := by decide +kernel
theorem dX11_kindsOfEgg_96 : decode cX11_kindsOfEgg 96 = .ok (.iconst 1, 1) := by decide +kernel
theorem dX11_kindsOfEgg_97 : decode cX11_kindsOfEgg 97 = .ok (.iload_n 3, 1) := by decide +kernel
theorem dX11_kindsOfEgg_98 : decode cX11_kindsOfEgg 98 = .ok (.ishl, 1) := by decide +kernel
theorem dX11_kindsOfEgg_99 : decode cX11_kindsOfEgg 99 = .ok (.goto 4, 3) := by decide +kernel
theorem dX11_kindsOfOne_0 : decode cX11_kindsOfOne 0 = .ok (.iconst 0, 1) := by decide +kernel
theorem dX11_kindsOfOne_1 : decode cX11_kindsOfOne 1 = .ok (.istore_n 2, 1) := by decide +kernel
theorem dX11_kindsOfOne_10 : decode cX11_kindsOfOne 10 = .ok (.iconst 1, 1) := by decide +kernel
theorem dX11_kindsOfOne_100 : decode cX11_kindsOfOne 100 = .ok (.istore 4, 2) := by decide +kernel
theorem dX11_kindsOfOne_102 : decode cX11_kindsOfOne 102 = .ok (.iinc 5 1, 3) := by decide +kernel
theorem dX11_kindsOfOne_105 : decode cX11_kindsOfOne 105 = .ok (.goto (-89), 3) := by decide +kernel
theorem dX11_kindsOfOne_108 : decode cX11_kindsOfOne 108 = .ok (.iload_n 2, 1) := by decide +kernel
theorem dX11_kindsOfOne_109 : decode cX11_kindsOfOne 109 = .ok (.iload 4, 2) := by decide +kernel
theorem dX11_kindsOfOne_11 : decode cX11_kindsOfOne 11 = .ok (.istore 4, 2) := by decide +kernel
theorem dX11_kindsOfOne_111 : decode cX11_kindsOfOne 111 = .ok (.ifCond .eq 9, 3) := by decide +kernel
theorem dX11_kindsOfOne_114 : decode cX11_kindsOfOne 114 = .ok (.iconst 1, 1) := by decide +kernel
theorem dX11_kindsOfOne_115 : decode cX11_kindsOfOne 115 = .ok (.iload_n 3, 1) := by decide +kernel
theorem dX11_kindsOfOne_116 : decode cX11_kindsOfOne 116 = .ok (.ishl, 1) := by decide +kernel
theorem dX11_kindsOfOne_117 : decode cX11_kindsOfOne 117 = .ok (.goto 4, 3) := by decide +kernel
theorem dX11_kindsOfOne_120 : decode cX11_kindsOfOne 120 = .ok (.iconst 0, 1) := by decide +kernel
theorem dX11_kindsOfOne_121 : decode cX11_kindsOfOne 121 = .ok (.ior, 1) := by decide +kernel
theorem dX11_kindsOfOne_122 : decode cX11_kindsOfOne 122 = .ok (.istore_n 2, 1) := by decide +kernel
theorem dX11_kindsOfOne_123 : decode cX11_kindsOfOne 123 = .ok (.iinc 3 1, 3) := by decide +kernel
theorem dX11_kindsOfOne_126 : decode cX11_kindsOfOne 126 = .ok (.goto (-122), 3) := by decide +kernel
theorem dX11_kindsOfOne_129 : decode cX11_kindsOfOne 129 = .ok (.iload_n 2, 1) := by decide +kernel
theorem dX11_kindsOfOne_13 : decode cX11_kindsOfOne 13 = .ok (.iconst 0, 1) := by decide +kernel
theorem dX11_kindsOfOne_130 : decode cX11_kindsOfOne 130 = .ok (.ireturn, 1) := by decide +kernel
theorem dX11_kindsOfOne_14 : decode cX11_kindsOfOne 14 = .ok (.istore 5, 2) := by decide +kernel
theorem dX11_kindsOfOne_16 : decode cX11_kindsOfOne 16 = .ok (.iload 5, 2) := by decide +kernel
theorem dX11_kindsOfOne_18 : decode cX11_kindsOfOne 18 = .ok (.aload_n 0, 1) := by decide +kernel
theorem dX11_kindsOfOne_19 : decode cX11_kindsOfOne 19 = .ok (.getfield 7, 3) := by decide +kernel
theorem dX11_kindsOfOne_2 : decode cX11_kindsOfOne 2 = .ok (.iconst 0, 1) := by decide +kernel
theorem dX11_kindsOfOne_22 : decode cX11_kindsOfOne 22 = .ok (.iconst 2, 1) := by decide +kernel
theorem dX11_kindsOfOne_23 : decode cX11_kindsOfOne 23 = .ok (.iaload, 1) := by decide +kernel
theorem dX11_kindsOfOne_24 : decode cX11_kindsOfOne 24 = .ok (.if_icmp .ge 84, 3) := by decide +kernel
theorem dX11_kindsOfOne_27 : decode cX11_kindsOfOne 27 = .ok (.bipush 75, 2) := by decide +kernel
theorem dX11_kindsOfOne_29 : decode cX11_kindsOfOne 29 = .ok (.iconst 5, 1) := by decide +kernel
theorem dX11_kindsOfOne_3 : decode cX11_kindsOfOne 3 = .ok (.istore_n 3, 1) := by decide +kernel
theorem dX11_kindsOfOne_30 : decode cX11_kindsOfOne 30 = .ok (.iload 5, 2) := by decide +kernel
theorem dX11_kindsOfOne_32 : decode cX11_kindsOfOne 32 = .ok (.imul, 1) := by decide +kernel
theorem dX11_kindsOfOne_33 : decode cX11_kindsOfOne 33 = .ok (.iadd, 1) := by decide +kernel
theorem dX11_kindsOfOne_34 : decode cX11_kindsOfOne 34 = .ok (.istore 6, 2) := by decide +kernel
theorem dX11_kindsOfOne_36 : decode cX11_kindsOfOne 36 = .ok (.iload 4, 2) := by decide +kernel
theorem dX11_kindsOfOne_38 : decode cX11_kindsOfOne 38 = .ok (.ifCond .eq 61, 3) := by decide +kernel
theorem dX11_kindsOfOne_4 : decode cX11_kindsOfOne 4 = .ok (.iload_n 3, 1) := by decide +kernel
theorem dX11_kindsOfOne_41 : decode cX11_kindsOfOne 41 = .ok (.aload_n 0, 1) := by decide +kernel
theorem dX11_kindsOfOne_42 : decode cX11_kindsOfOne 42 = .ok (.getfield 7, 3) := by decide +kernel
theorem dX11_kindsOfOne_45 : decode cX11_kindsOfOne 45 = .ok (.iload 6, 2) := by decide +kernel
theorem dX11_kindsOfOne_47 : decode cX11_kindsOfOne 47 = .ok (.iaload, 1) := by decide +kernel
theorem dX11_kindsOfOne_48 : decode cX11_kindsOfOne 48 = .ok (.iload_n 1, 1) := by decide +kernel
theorem dX11_kindsOfOne_49 : decode cX11_kindsOfOne 49 = .ok (.if_icmp .ne 46, 3) := by decide +kernel
theorem dX11_kindsOfOne_5 : decode cX11_kindsOfOne 5 = .ok (.bipush 6, 2) := by decide +kernel
theorem dX11_kindsOfOne_52 : decode cX11_kindsOfOne 52 = .ok (.iload_n 3, 1) := by decide +kernel
theorem dX11_kindsOfOne_53 : decode cX11_kindsOfOne 53 = .ok (.aload_n 0, 1) := by decide +kernel
theorem dX11_kindsOfOne_54 : decode cX11_kindsOfOne 54 = .ok (.getfield 7, 3) := by decide +kernel
theorem dX11_kindsOfOne_57 : decode cX11_kindsOfOne 57 = .ok (.iload 6, 2) := by decide +kernel
theorem dX11_kindsOfOne_59 : decode cX11_kindsOfOne 59 = .ok (.iconst 1, 1) := by decide +kernel
theorem dX11_kindsOfOne_60 : decode cX11_kindsOfOne 60 = .ok (.iadd, 1) := by decide +kernel
theorem dX11_kindsOfOne_61 : decode cX11_kindsOfOne 61 = .ok (.iaload, 1) := by decide +kernel
theorem dX11_kindsOfOne_62 : decode cX11_kindsOfOne 62 = .ok (.aload_n 0, 1) := by decide +kernel
theorem dX11_kindsOfOne_63 : decode cX11_kindsOfOne 63 = .ok (.getfield 7, 3) := by decide +kernel
theorem dX11_kindsOfOne_66 : decode cX11_kindsOfOne 66 = .ok (.iload 6, 2) := by decide +kernel
theorem dX11_kindsOfOne_68 : decode cX11_kindsOfOne 68 = .ok (.iconst 3, 1) := by decide +kernel
theorem dX11_kindsOfOne_69 : decode cX11_kindsOfOne 69 = .ok (.iadd, 1) := by decide +kernel
theorem dX11_kindsOfOne_7 : decode cX11_kindsOfOne 7 = .ok (.if_icmp .ge 122, 3) := by decide +kernel
theorem dX11_kindsOfOne_70 : decode cX11_kindsOfOne 70 = .ok (.iaload, 1) := by decide +kernel
theorem dX11_kindsOfOne_71 : decode cX11_kindsOfOne 71 = .ok (.aload_n 0, 1) := by decide +kernel
theorem dX11_kindsOfOne_72 : decode cX11_kindsOfOne 72 = .ok (.getfield 7, 3) := by decide +kernel
theorem dX11_kindsOfOne_75 : decode cX11_kindsOfOne 75 = .ok (.iload 6, 2) := by decide +kernel
theorem dX11_kindsOfOne_77 : decode cX11_kindsOfOne 77 = .ok (.iconst 2, 1) := by decide +kernel
theorem dX11_kindsOfOne_78 : decode cX11_kindsOfOne 78 = .ok (.iadd, 1) := by decide +kernel
theorem dX11_kindsOfOne_79 : decode cX11_kindsOfOne 79 = .ok (.iaload, 1) := by decide +kernel
theorem dX11_kindsOfOne_80 : decode cX11_kindsOfOne 80 = .ok (.invokestatic 86, 3) := by decide +kernel
theorem dX11_kindsOfOne_83 : decode cX11_kindsOfOne 83 = .ok (.aload_n 0, 1) := by decide +kernel
theorem dX11_kindsOfOne_84 : decode cX11_kindsOfOne 84 = .ok (.getfield 7, 3) := by decide +kernel
theorem dX11_kindsOfOne_87 : decode cX11_kindsOfOne 87 = .ok (.iload 6, 2) := by decide +kernel
theorem dX11_kindsOfOne_89 : decode cX11_kindsOfOne 89 = .ok (.iconst 4, 1) := by decide +kernel
theorem dX11_kindsOfOne_90 : decode cX11_kindsOfOne 90 = .ok (.iadd, 1) := by decide +kernel
theorem dX11_kindsOfOne_91 : decode cX11_kindsOfOne 91 = .ok (.iaload, 1) := by decide +kernel
theorem dX11_kindsOfOne_92 : decode cX11_kindsOfOne 92 = .ok (.if_icmp .ne 7, 3) := by decide +kernel
theorem dX11_kindsOfOne_95 : decode cX11_kindsOfOne 95 = .ok (.iconst 1, 1) := by decide +kernel
theorem dX11_kindsOfOne_96 : decode cX11_kindsOfOne 96 = .ok (.goto 4, 3) := by decide +kernel
theorem dX11_kindsOfOne_99 : decode cX11_kindsOfOne 99 = .ok (.iconst 0, 1) := by decide +kernel
theorem dX11_look_0 : decode cX11_look 0 = .ok (.aload_n 0, 1) := by decide +kernel
theorem dX11_look_1 : decode cX11_look 1 = .ok (.iload_n 1, 1) := by decide +kernel
theorem dX11_look_100 : decode cX11_look 100 = .ok (.if_icmp .ge 8, 3) := by decide +kernel
theorem dX11_look_103 : decode cX11_look 103 = .ok (.iload 5, 2) := by decide +kernel
theorem dX11_look_105 : decode cX11_look 105 = .ok (.goto 4, 3) := by decide +kernel
theorem dX11_look_108 : decode cX11_look 108 = .ok (.iload_n 3, 1) := by decide +kernel
theorem dX11_look_109 : decode cX11_look 109 = .ok (.istore_n 3, 1) := by decide +kernel
theorem dX11_look_11 : decode cX11_look 11 = .ok (.invokevirtual 68, 3) := by decide +kernel
theorem dX11_look_110 : decode cX11_look 110 = .ok (.iload 6, 2) := by decide +kernel
theorem dX11_look_112 : decode cX11_look 112 = .ok (.iload 4, 2) := by decide +kernel
theorem dX11_look_114 : decode cX11_look 114 = .ok (.if_icmp .ge 8, 3) := by decide +kernel
theorem dX11_look_117 : decode cX11_look 117 = .ok (.iload 6, 2) := by decide +kernel
theorem dX11_look_119 : decode cX11_look 119 = .ok (.goto 5, 3) := by decide +kernel
theorem dX11_look_122 : decode cX11_look 122 = .ok (.iload 4, 2) := by decide +kernel
theorem dX11_look_124 : decode cX11_look 124 = .ok (.istore 4, 2) := by decide +kernel
theorem dX11_look_126 : decode cX11_look 126 = .ok (.iinc 5 1, 3) := by decide +kernel
theorem dX11_look_129 : decode cX11_look 129 = .ok (.goto (-99), 3) := by decide +kernel
theorem dX11_look_132 : decode cX11_look 132 = .ok (.iload_n 3, 1) := by decide +kernel
theorem dX11_look_133 : decode cX11_look 133 = .ok (.ireturn, 1) := by decide +kernel
theorem dX11_look_14 : decode cX11_look 14 = .ok (.ireturn, 1) := by decide +kernel
theorem dX11_look_15 : decode cX11_look 15 = .ok (.aload_n 0, 1) := by decide +kernel
theorem dX11_look_16 : decode cX11_look 16 = .ok (.iload_n 1, 1) := by decide +kernel
theorem dX11_look_17 : decode cX11_look 17 = .ok (.invokevirtual 168, 3) := by decide +kernel
theorem dX11_look_2 : decode cX11_look 2 = .ok (.invokevirtual 123, 3) := by decide +kernel
theorem dX11_look_20 : decode cX11_look 20 = .ok (.istore_n 2, 1) := by decide +kernel
theorem dX11_look_21 : decode cX11_look 21 = .ok (.iconst (-1), 1) := by decide +kernel
theorem dX11_look_22 : decode cX11_look 22 = .ok (.istore_n 3, 1) := by decide +kernel
theorem dX11_look_23 : decode cX11_look 23 = .ok (.ldc 150, 2) := by decide +kernel
theorem dX11_look_25 : decode cX11_look 25 = .ok (.istore 4, 2) := by decide +kernel
theorem dX11_look_27 : decode cX11_look 27 = .ok (.iconst 0, 1) := by decide +kernel
theorem dX11_look_28 : decode cX11_look 28 = .ok (.istore 5, 2) := by decide +kernel
theorem dX11_look_30 : decode cX11_look 30 = .ok (.iload 5, 2) := by decide +kernel
theorem dX11_look_32 : decode cX11_look 32 = .ok (.sipush 200, 3) := by decide +kernel
theorem dX11_look_35 : decode cX11_look 35 = .ok (.if_icmp .ge 97, 3) := by decide +kernel
theorem dX11_look_38 : decode cX11_look 38 = .ok (.iload_n 2, 1) := by decide +kernel
theorem dX11_look_39 : decode cX11_look 39 = .ok (.ifCond .le 93, 3) := by decide +kernel
theorem dX11_look_42 : decode cX11_look 42 = .ok (.iconst 0, 1) := by decide +kernel
theorem dX11_look_43 : decode cX11_look 43 = .ok (.istore 6, 2) := by decide +kernel
theorem dX11_look_45 : decode cX11_look 45 = .ok (.iload 6, 2) := by decide +kernel
theorem dX11_look_47 : decode cX11_look 47 = .ok (.bipush 6, 2) := by decide +kernel
theorem dX11_look_49 : decode cX11_look 49 = .ok (.if_icmp .ge 40, 3) := by decide +kernel
theorem dX11_look_5 : decode cX11_look 5 = .ok (.ifCond .ne 10, 3) := by decide +kernel
theorem dX11_look_52 : decode cX11_look 52 = .ok (.aload_n 0, 1) := by decide +kernel
theorem dX11_look_53 : decode cX11_look 53 = .ok (.getfield 33, 3) := by decide +kernel
theorem dX11_look_56 : decode cX11_look 56 = .ok (.iload 6, 2) := by decide +kernel
theorem dX11_look_58 : decode cX11_look 58 = .ok (.iload 6, 2) := by decide +kernel
theorem dX11_look_60 : decode cX11_look 60 = .ok (.aload_n 0, 1) := by decide +kernel
theorem dX11_look_61 : decode cX11_look 61 = .ok (.getfield 7, 3) := by decide +kernel
theorem dX11_look_64 : decode cX11_look 64 = .ok (.bipush 43, 2) := by decide +kernel
theorem dX11_look_66 : decode cX11_look 66 = .ok (.iload_n 1, 1) := by decide +kernel
theorem dX11_look_67 : decode cX11_look 67 = .ok (.iadd, 1) := by decide +kernel
theorem dX11_look_68 : decode cX11_look 68 = .ok (.iaload, 1) := by decide +kernel
theorem dX11_look_69 : decode cX11_look 69 = .ok (.iload 5, 2) := by decide +kernel
theorem dX11_look_71 : decode cX11_look 71 = .ok (.bipush 10, 2) := by decide +kernel
theorem dX11_look_73 : decode cX11_look 73 = .ok (.irem, 1) := by decide +kernel
theorem dX11_look_74 : decode cX11_look 74 = .ok (.iload 5, 2) := by decide +kernel
theorem dX11_look_76 : decode cX11_look 76 = .ok (.bipush 10, 2) := by decide +kernel
theorem dX11_look_78 : decode cX11_look 78 = .ok (.idiv, 1) := by decide +kernel
theorem dX11_look_79 : decode cX11_look 79 = .ok (.invokestatic 86, 3) := by decide +kernel
theorem dX11_look_8 : decode cX11_look 8 = .ok (.aload_n 0, 1) := by decide +kernel
theorem dX11_look_82 : decode cX11_look 82 = .ok (.iastore, 1) := by decide +kernel
theorem dX11_look_83 : decode cX11_look 83 = .ok (.iinc 6 1, 3) := by decide +kernel
theorem dX11_look_86 : decode cX11_look 86 = .ok (.goto (-41), 3) := by decide +kernel
theorem dX11_look_89 : decode cX11_look 89 = .ok (.aload_n 0, 1) := by decide +kernel
theorem dX11_look_9 : decode cX11_look 9 = .ok (.bipush (-2), 2) := by decide +kernel
theorem dX11_look_90 : decode cX11_look 90 = .ok (.iload_n 2, 1) := by decide +kernel
theorem dX11_look_91 : decode cX11_look 91 = .ok (.invokevirtual 165, 3) := by decide +kernel
theorem dX11_look_94 : decode cX11_look 94 = .ok (.istore 6, 2) := by decide +kernel
theorem dX11_look_96 : decode cX11_look 96 = .ok (.iload 6, 2) := by decide +kernel
theorem dX11_look_98 : decode cX11_look 98 = .ok (.iload 4, 2) := by decide +kernel
theorem dX11_mostAlike_0 : decode cX11_mostAlike 0 = .ok (.iconst 0, 1) := by decide +kernel
theorem dX11_mostAlike_1 : decode cX11_mostAlike 1 = .ok (.istore_n 2, 1) := by decide +kernel
theorem dX11_mostAlike_10 : decode cX11_mostAlike 10 = .ok (.iconst 0, 1) := by decide +kernel
theorem dX11_mostAlike_11 : decode cX11_mostAlike 11 = .ok (.istore 4, 2) := by decide +kernel
theorem dX11_mostAlike_13 : decode cX11_mostAlike 13 = .ok (.iconst 0, 1) := by decide +kernel
theorem dX11_mostAlike_14 : decode cX11_mostAlike 14 = .ok (.istore 5, 2) := by decide +kernel
theorem dX11_mostAlike_16 : decode cX11_mostAlike 16 = .ok (.iload 5, 2) := by decide +kernel
theorem dX11_mostAlike_18 : decode cX11_mostAlike 18 = .ok (.bipush 10, 2) := by decide +kernel
theorem dX11_mostAlike_2 : decode cX11_mostAlike 2 = .ok (.iconst 0, 1) := by decide +kernel
theorem dX11_mostAlike_20 : decode cX11_mostAlike 20 = .ok (.if_icmp .ge 52, 3) := by decide +kernel
theorem dX11_mostAlike_23 : decode cX11_mostAlike 23 = .ok (.iload_n 1, 1) := by decide +kernel
theorem dX11_mostAlike_24 : decode cX11_mostAlike 24 = .ok (.iload_n 3, 1) := by decide +kernel
theorem dX11_mostAlike_25 : decode cX11_mostAlike 25 = .ok (.invokestatic 161, 3) := by decide +kernel
theorem dX11_mostAlike_28 : decode cX11_mostAlike 28 = .ok (.ifCond .eq 44, 3) := by decide +kernel
theorem dX11_mostAlike_3 : decode cX11_mostAlike 3 = .ok (.istore_n 3, 1) := by decide +kernel
theorem dX11_mostAlike_31 : decode cX11_mostAlike 31 = .ok (.iload 4, 2) := by decide +kernel
theorem dX11_mostAlike_33 : decode cX11_mostAlike 33 = .ok (.iload_n 1, 1) := by decide +kernel
theorem dX11_mostAlike_34 : decode cX11_mostAlike 34 = .ok (.iload 5, 2) := by decide +kernel
theorem dX11_mostAlike_36 : decode cX11_mostAlike 36 = .ok (.invokestatic 161, 3) := by decide +kernel
theorem dX11_mostAlike_39 : decode cX11_mostAlike 39 = .ok (.ifCond .eq 23, 3) := by decide +kernel
theorem dX11_mostAlike_4 : decode cX11_mostAlike 4 = .ok (.iload_n 3, 1) := by decide +kernel
theorem dX11_mostAlike_42 : decode cX11_mostAlike 42 = .ok (.aload_n 0, 1) := by decide +kernel
theorem dX11_mostAlike_43 : decode cX11_mostAlike 43 = .ok (.getfield 33, 3) := by decide +kernel
theorem dX11_mostAlike_46 : decode cX11_mostAlike 46 = .ok (.iload_n 3, 1) := by decide +kernel
theorem dX11_mostAlike_47 : decode cX11_mostAlike 47 = .ok (.iaload, 1) := by decide +kernel
theorem dX11_mostAlike_48 : decode cX11_mostAlike 48 = .ok (.aload_n 0, 1) := by decide +kernel
theorem dX11_mostAlike_49 : decode cX11_mostAlike 49 = .ok (.getfield 33, 3) := by decide +kernel
theorem dX11_mostAlike_5 : decode cX11_mostAlike 5 = .ok (.bipush 10, 2) := by decide +kernel
theorem dX11_mostAlike_52 : decode cX11_mostAlike 52 = .ok (.iload 5, 2) := by decide +kernel
theorem dX11_mostAlike_54 : decode cX11_mostAlike 54 = .ok (.iaload, 1) := by decide +kernel
theorem dX11_mostAlike_55 : decode cX11_mostAlike 55 = .ok (.if_icmp .ne 7, 3) := by decide +kernel
theorem dX11_mostAlike_58 : decode cX11_mostAlike 58 = .ok (.iconst 1, 1) := by decide +kernel
theorem dX11_mostAlike_59 : decode cX11_mostAlike 59 = .ok (.goto 4, 3) := by decide +kernel
theorem dX11_mostAlike_62 : decode cX11_mostAlike 62 = .ok (.iconst 0, 1) := by decide +kernel
theorem dX11_mostAlike_63 : decode cX11_mostAlike 63 = .ok (.iadd, 1) := by decide +kernel
theorem dX11_mostAlike_64 : decode cX11_mostAlike 64 = .ok (.istore 4, 2) := by decide +kernel
theorem dX11_mostAlike_66 : decode cX11_mostAlike 66 = .ok (.iinc 5 1, 3) := by decide +kernel
theorem dX11_mostAlike_69 : decode cX11_mostAlike 69 = .ok (.goto (-53), 3) := by decide +kernel
theorem dX11_mostAlike_7 : decode cX11_mostAlike 7 = .ok (.if_icmp .ge 84, 3) := by decide +kernel
theorem dX11_mostAlike_72 : decode cX11_mostAlike 72 = .ok (.iload 4, 2) := by decide +kernel
theorem dX11_mostAlike_74 : decode cX11_mostAlike 74 = .ok (.iload_n 2, 1) := by decide +kernel
theorem dX11_mostAlike_75 : decode cX11_mostAlike 75 = .ok (.if_icmp .le 8, 3) := by decide +kernel
theorem dX11_mostAlike_78 : decode cX11_mostAlike 78 = .ok (.iload 4, 2) := by decide +kernel
theorem dX11_mostAlike_80 : decode cX11_mostAlike 80 = .ok (.goto 4, 3) := by decide +kernel
theorem dX11_mostAlike_83 : decode cX11_mostAlike 83 = .ok (.iload_n 2, 1) := by decide +kernel
theorem dX11_mostAlike_84 : decode cX11_mostAlike 84 = .ok (.istore_n 2, 1) := by decide +kernel
theorem dX11_mostAlike_85 : decode cX11_mostAlike 85 = .ok (.iinc 3 1, 3) := by decide +kernel
theorem dX11_mostAlike_88 : decode cX11_mostAlike 88 = .ok (.goto (-84), 3) := by decide +kernel
theorem dX11_mostAlike_91 : decode cX11_mostAlike 91 = .ok (.iload_n 2, 1) := by decide +kernel
theorem dX11_mostAlike_92 : decode cX11_mostAlike 92 = .ok (.ireturn, 1) := by decide +kernel
theorem dX11_pair_0 : decode cX11_pair 0 = .ok (.aload_n 0, 1) := by decide +kernel
theorem dX11_pair_1 : decode cX11_pair 1 = .ok (.iload_n 1, 1) := by decide +kernel
theorem dX11_pair_10 : decode cX11_pair 10 = .ok (.invokevirtual 123, 3) := by decide +kernel
theorem dX11_pair_102 : decode cX11_pair 102 = .ok (.iconst 5, 1) := by decide +kernel
theorem dX11_pair_103 : decode cX11_pair 103 = .ok (.iload_n 2, 1) := by decide +kernel
theorem dX11_pair_104 : decode cX11_pair 104 = .ok (.iadd, 1) := by decide +kernel
theorem dX11_pair_105 : decode cX11_pair 105 = .ok (.iaload, 1) := by decide +kernel
theorem dX11_pair_106 : decode cX11_pair 106 = .ok (.iastore, 1) := by decide +kernel
theorem dX11_pair_107 : decode cX11_pair 107 = .ok (.iinc 4 1, 3) := by decide +kernel
theorem dX11_pair_110 : decode cX11_pair 110 = .ok (.goto (-74), 3) := by decide +kernel
theorem dX11_pair_113 : decode cX11_pair 113 = .ok (.iconst 0, 1) := by decide +kernel
theorem dX11_pair_114 : decode cX11_pair 114 = .ok (.istore 4, 2) := by decide +kernel
theorem dX11_pair_116 : decode cX11_pair 116 = .ok (.iconst 0, 1) := by decide +kernel
theorem dX11_pair_117 : decode cX11_pair 117 = .ok (.istore 5, 2) := by decide +kernel
theorem dX11_pair_119 : decode cX11_pair 119 = .ok (.iload 5, 2) := by decide +kernel
theorem dX11_pair_121 : decode cX11_pair 121 = .ok (.bipush 100, 2) := by decide +kernel
theorem dX11_pair_123 : decode cX11_pair 123 = .ok (.if_icmp .ge 40, 3) := by decide +kernel
theorem dX11_pair_126 : decode cX11_pair 126 = .ok (.aload_n 0, 1) := by decide +kernel
theorem dX11_pair_127 : decode cX11_pair 127 = .ok (.iload_n 1, 1) := by decide +kernel
theorem dX11_pair_128 : decode cX11_pair 128 = .ok (.iload_n 2, 1) := by decide +kernel
theorem dX11_pair_129 : decode cX11_pair 129 = .ok (.iload 5, 2) := by decide +kernel
theorem dX11_pair_13 : decode cX11_pair 13 = .ok (.ifCond .eq 13, 3) := by decide +kernel
theorem dX11_pair_131 : decode cX11_pair 131 = .ok (.bipush 10, 2) := by decide +kernel
theorem dX11_pair_133 : decode cX11_pair 133 = .ok (.idiv, 1) := by decide +kernel
theorem dX11_pair_134 : decode cX11_pair 134 = .ok (.iload 5, 2) := by decide +kernel
theorem dX11_pair_136 : decode cX11_pair 136 = .ok (.bipush 10, 2) := by decide +kernel
theorem dX11_pair_138 : decode cX11_pair 138 = .ok (.irem, 1) := by decide +kernel
theorem dX11_pair_139 : decode cX11_pair 139 = .ok (.invokevirtual 178, 3) := by decide +kernel
theorem dX11_pair_142 : decode cX11_pair 142 = .ok (.ifCond .eq 15, 3) := by decide +kernel
theorem dX11_pair_145 : decode cX11_pair 145 = .ok (.iload 4, 2) := by decide +kernel
theorem dX11_pair_147 : decode cX11_pair 147 = .ok (.iload_n 3, 1) := by decide +kernel
theorem dX11_pair_148 : decode cX11_pair 148 = .ok (.if_icmp .ne 6, 3) := by decide +kernel
theorem dX11_pair_151 : decode cX11_pair 151 = .ok (.iload 5, 2) := by decide +kernel
theorem dX11_pair_153 : decode cX11_pair 153 = .ok (.ireturn, 1) := by decide +kernel
theorem dX11_pair_154 : decode cX11_pair 154 = .ok (.iinc 4 1, 3) := by decide +kernel
theorem dX11_pair_157 : decode cX11_pair 157 = .ok (.iinc 5 1, 3) := by decide +kernel
theorem dX11_pair_16 : decode cX11_pair 16 = .ok (.iload_n 1, 1) := by decide +kernel
theorem dX11_pair_160 : decode cX11_pair 160 = .ok (.goto (-41), 3) := by decide +kernel
theorem dX11_pair_163 : decode cX11_pair 163 = .ok (.iload_n 3, 1) := by decide +kernel
theorem dX11_pair_164 : decode cX11_pair 164 = .ok (.iconst (-1), 1) := by decide +kernel
theorem dX11_pair_165 : decode cX11_pair 165 = .ok (.if_icmp .ne 8, 3) := by decide +kernel
theorem dX11_pair_168 : decode cX11_pair 168 = .ok (.iload 4, 2) := by decide +kernel
theorem dX11_pair_17 : decode cX11_pair 17 = .ok (.iload_n 2, 1) := by decide +kernel
theorem dX11_pair_170 : decode cX11_pair 170 = .ok (.goto 5, 3) := by decide +kernel
theorem dX11_pair_173 : decode cX11_pair 173 = .ok (.bipush (-5), 2) := by decide +kernel
theorem dX11_pair_175 : decode cX11_pair 175 = .ok (.ireturn, 1) := by decide +kernel
theorem dX11_pair_18 : decode cX11_pair 18 = .ok (.if_icmp .eq 8, 3) := by decide +kernel
theorem dX11_pair_2 : decode cX11_pair 2 = .ok (.invokevirtual 123, 3) := by decide +kernel
theorem dX11_pair_21 : decode cX11_pair 21 = .ok (.iload_n 3, 1) := by decide +kernel
theorem dX11_pair_22 : decode cX11_pair 22 = .ok (.iconst (-1), 1) := by decide +kernel
theorem dX11_pair_23 : decode cX11_pair 23 = .ok (.if_icmp .ge 10, 3) := by decide +kernel
theorem dX11_pair_26 : decode cX11_pair 26 = .ok (.aload_n 0, 1) := by decide +kernel
theorem dX11_pair_27 : decode cX11_pair 27 = .ok (.bipush (-10), 2) := by decide +kernel
theorem dX11_pair_29 : decode cX11_pair 29 = .ok (.invokevirtual 68, 3) := by decide +kernel
theorem dX11_pair_32 : decode cX11_pair 32 = .ok (.ireturn, 1) := by decide +kernel
theorem dX11_pair_33 : decode cX11_pair 33 = .ok (.iconst 0, 1) := by decide +kernel
theorem dX11_pair_34 : decode cX11_pair 34 = .ok (.istore 4, 2) := by decide +kernel
theorem dX11_pair_36 : decode cX11_pair 36 = .ok (.iload 4, 2) := by decide +kernel
theorem dX11_pair_38 : decode cX11_pair 38 = .ok (.bipush 10, 2) := by decide +kernel
theorem dX11_pair_40 : decode cX11_pair 40 = .ok (.if_icmp .ge 73, 3) := by decide +kernel
theorem dX11_pair_43 : decode cX11_pair 43 = .ok (.aload_n 0, 1) := by decide +kernel
theorem dX11_pair_44 : decode cX11_pair 44 = .ok (.invokevirtual 137, 3) := by decide +kernel
theorem dX11_pair_47 : decode cX11_pair 47 = .ok (.aload_n 0, 1) := by decide +kernel
theorem dX11_pair_48 : decode cX11_pair 48 = .ok (.getfield 27, 3) := by decide +kernel
theorem dX11_pair_5 : decode cX11_pair 5 = .ok (.ifCond .eq 21, 3) := by decide +kernel
theorem dX11_pair_51 : decode cX11_pair 51 = .ok (.bipush 11, 2) := by decide +kernel
theorem dX11_pair_53 : decode cX11_pair 53 = .ok (.iload_n 1, 1) := by decide +kernel
theorem dX11_pair_54 : decode cX11_pair 54 = .ok (.iadd, 1) := by decide +kernel
theorem dX11_pair_55 : decode cX11_pair 55 = .ok (.iload 4, 2) := by decide +kernel
theorem dX11_pair_57 : decode cX11_pair 57 = .ok (.iastore, 1) := by decide +kernel
theorem dX11_pair_58 : decode cX11_pair 58 = .ok (.aload_n 0, 1) := by decide +kernel
theorem dX11_pair_59 : decode cX11_pair 59 = .ok (.getfield 27, 3) := by decide +kernel
theorem dX11_pair_62 : decode cX11_pair 62 = .ok (.bipush 11, 2) := by decide +kernel
theorem dX11_pair_64 : decode cX11_pair 64 = .ok (.iload_n 2, 1) := by decide +kernel
theorem dX11_pair_65 : decode cX11_pair 65 = .ok (.iadd, 1) := by decide +kernel
theorem dX11_pair_66 : decode cX11_pair 66 = .ok (.iload 4, 2) := by decide +kernel
theorem dX11_pair_68 : decode cX11_pair 68 = .ok (.iastore, 1) := by decide +kernel
theorem dX11_pair_69 : decode cX11_pair 69 = .ok (.aload_n 0, 1) := by decide +kernel
theorem dX11_pair_70 : decode cX11_pair 70 = .ok (.iconst 5, 1) := by decide +kernel
theorem dX11_pair_71 : decode cX11_pair 71 = .ok (.invokevirtual 140, 3) := by decide +kernel
theorem dX11_pair_74 : decode cX11_pair 74 = .ok (.aload_n 0, 1) := by decide +kernel
theorem dX11_pair_75 : decode cX11_pair 75 = .ok (.getfield 36, 3) := by decide +kernel
theorem dX11_pair_78 : decode cX11_pair 78 = .ok (.iload 4, 2) := by decide +kernel
theorem dX11_pair_8 : decode cX11_pair 8 = .ok (.aload_n 0, 1) := by decide +kernel
theorem dX11_pair_80 : decode cX11_pair 80 = .ok (.aload_n 0, 1) := by decide +kernel
theorem dX11_pair_81 : decode cX11_pair 81 = .ok (.getfield 27, 3) := by decide +kernel
theorem dX11_pair_84 : decode cX11_pair 84 = .ok (.iconst 5, 1) := by decide +kernel
theorem dX11_pair_85 : decode cX11_pair 85 = .ok (.iload_n 1, 1) := by decide +kernel
theorem dX11_pair_86 : decode cX11_pair 86 = .ok (.iadd, 1) := by decide +kernel
theorem dX11_pair_87 : decode cX11_pair 87 = .ok (.iaload, 1) := by decide +kernel
theorem dX11_pair_88 : decode cX11_pair 88 = .ok (.iastore, 1) := by decide +kernel
theorem dX11_pair_89 : decode cX11_pair 89 = .ok (.aload_n 0, 1) := by decide +kernel
theorem dX11_pair_9 : decode cX11_pair 9 = .ok (.iload_n 2, 1) := by decide +kernel
theorem dX11_pair_90 : decode cX11_pair 90 = .ok (.getfield 36, 3) := by decide +kernel
theorem dX11_pair_93 : decode cX11_pair 93 = .ok (.bipush 10, 2) := by decide +kernel
theorem dX11_pair_95 : decode cX11_pair 95 = .ok (.iload 4, 2) := by decide +kernel
theorem dX11_pair_97 : decode cX11_pair 97 = .ok (.iadd, 1) := by decide +kernel
theorem dX11_pair_98 : decode cX11_pair 98 = .ok (.aload_n 0, 1) := by decide +kernel
theorem dX11_pair_99 : decode cX11_pair 99 = .ok (.getfield 27, 3) := by decide +kernel
theorem dX11_rests_0 : decode cX11_rests 0 = .ok (.iconst 1, 1) := by decide +kernel
theorem dX11_rests_1 : decode cX11_rests 1 = .ok (.istore 5, 2) := by decide +kernel
theorem dX11_rests_102 : decode cX11_rests 102 = .ok (.aload_n 0, 1) := by decide +kernel
theorem dX11_rests_103 : decode cX11_rests 103 = .ok (.aload_n 0, 1) := by decide +kernel
theorem dX11_rests_104 : decode cX11_rests 104 = .ok (.getfield 7, 3) := by decide +kernel
theorem dX11_rests_107 : decode cX11_rests 107 = .ok (.iconst 5, 1) := by decide +kernel
theorem dX11_rests_108 : decode cX11_rests 108 = .ok (.iload_n 2, 1) := by decide +kernel
theorem dX11_rests_109 : decode cX11_rests 109 = .ok (.iadd, 1) := by decide +kernel
theorem dX11_rests_11 : decode cX11_rests 11 = .ok (.aload_n 0, 1) := by decide +kernel
theorem dX11_rests_110 : decode cX11_rests 110 = .ok (.iaload, 1) := by decide +kernel
theorem dX11_rests_111 : decode cX11_rests 111 = .ok (.iload 7, 2) := by decide +kernel
theorem dX11_rests_113 : decode cX11_rests 113 = .ok (.iload 6, 2) := by decide +kernel
theorem dX11_rests_115 : decode cX11_rests 115 = .ok (.invokevirtual 174, 3) := by decide +kernel
theorem dX11_rests_118 : decode cX11_rests 118 = .ok (.if_icmp .gt 7, 3) := by decide +kernel
theorem dX11_rests_12 : decode cX11_rests 12 = .ok (.getfield 36, 3) := by decide +kernel
theorem dX11_rests_121 : decode cX11_rests 121 = .ok (.iconst 1, 1) := by decide +kernel
theorem dX11_rests_122 : decode cX11_rests 122 = .ok (.goto 4, 3) := by decide +kernel
theorem dX11_rests_125 : decode cX11_rests 125 = .ok (.iconst 0, 1) := by decide +kernel
theorem dX11_rests_126 : decode cX11_rests 126 = .ok (.istore 5, 2) := by decide +kernel
theorem dX11_rests_128 : decode cX11_rests 128 = .ok (.iinc 8 1, 3) := by decide +kernel
theorem dX11_rests_131 : decode cX11_rests 131 = .ok (.goto (-105), 3) := by decide +kernel
theorem dX11_rests_134 : decode cX11_rests 134 = .ok (.iload 5, 2) := by decide +kernel
theorem dX11_rests_136 : decode cX11_rests 136 = .ok (.ireturn, 1) := by decide +kernel
theorem dX11_rests_15 : decode cX11_rests 15 = .ok (.bipush 10, 2) := by decide +kernel
theorem dX11_rests_17 : decode cX11_rests 17 = .ok (.iload 4, 2) := by decide +kernel
theorem dX11_rests_19 : decode cX11_rests 19 = .ok (.iadd, 1) := by decide +kernel
theorem dX11_rests_20 : decode cX11_rests 20 = .ok (.iaload, 1) := by decide +kernel
theorem dX11_rests_21 : decode cX11_rests 21 = .ok (.istore 7, 2) := by decide +kernel
theorem dX11_rests_23 : decode cX11_rests 23 = .ok (.iconst 0, 1) := by decide +kernel
theorem dX11_rests_24 : decode cX11_rests 24 = .ok (.istore 8, 2) := by decide +kernel
theorem dX11_rests_26 : decode cX11_rests 26 = .ok (.iload 8, 2) := by decide +kernel
theorem dX11_rests_28 : decode cX11_rests 28 = .ok (.bipush 10, 2) := by decide +kernel
theorem dX11_rests_3 : decode cX11_rests 3 = .ok (.aload_n 0, 1) := by decide +kernel
theorem dX11_rests_30 : decode cX11_rests 30 = .ok (.if_icmp .ge 104, 3) := by decide +kernel
theorem dX11_rests_33 : decode cX11_rests 33 = .ok (.iload 5, 2) := by decide +kernel
theorem dX11_rests_35 : decode cX11_rests 35 = .ok (.ifCond .eq 90, 3) := by decide +kernel
theorem dX11_rests_38 : decode cX11_rests 38 = .ok (.aload_n 0, 1) := by decide +kernel
theorem dX11_rests_39 : decode cX11_rests 39 = .ok (.aload_n 0, 1) := by decide +kernel
theorem dX11_rests_4 : decode cX11_rests 4 = .ok (.getfield 36, 3) := by decide +kernel
theorem dX11_rests_40 : decode cX11_rests 40 = .ok (.getfield 7, 3) := by decide +kernel
theorem dX11_rests_43 : decode cX11_rests 43 = .ok (.iconst 5, 1) := by decide +kernel
theorem dX11_rests_44 : decode cX11_rests 44 = .ok (.iload_n 1, 1) := by decide +kernel
theorem dX11_rests_45 : decode cX11_rests 45 = .ok (.iadd, 1) := by decide +kernel
theorem dX11_rests_46 : decode cX11_rests 46 = .ok (.iaload, 1) := by decide +kernel
theorem dX11_rests_47 : decode cX11_rests 47 = .ok (.aload_n 0, 1) := by decide +kernel
theorem dX11_rests_48 : decode cX11_rests 48 = .ok (.getfield 36, 3) := by decide +kernel
theorem dX11_rests_51 : decode cX11_rests 51 = .ok (.iload 8, 2) := by decide +kernel
theorem dX11_rests_53 : decode cX11_rests 53 = .ok (.iaload, 1) := by decide +kernel
theorem dX11_rests_54 : decode cX11_rests 54 = .ok (.iload 7, 2) := by decide +kernel
theorem dX11_rests_56 : decode cX11_rests 56 = .ok (.invokevirtual 174, 3) := by decide +kernel
theorem dX11_rests_59 : decode cX11_rests 59 = .ok (.aload_n 0, 1) := by decide +kernel
theorem dX11_rests_60 : decode cX11_rests 60 = .ok (.aload_n 0, 1) := by decide +kernel
theorem dX11_rests_61 : decode cX11_rests 61 = .ok (.getfield 7, 3) := by decide +kernel
theorem dX11_rests_64 : decode cX11_rests 64 = .ok (.iconst 5, 1) := by decide +kernel
theorem dX11_rests_65 : decode cX11_rests 65 = .ok (.iload_n 1, 1) := by decide +kernel
theorem dX11_rests_66 : decode cX11_rests 66 = .ok (.iadd, 1) := by decide +kernel
theorem dX11_rests_67 : decode cX11_rests 67 = .ok (.iaload, 1) := by decide +kernel
theorem dX11_rests_68 : decode cX11_rests 68 = .ok (.iload 6, 2) := by decide +kernel
theorem dX11_rests_7 : decode cX11_rests 7 = .ok (.iload_n 3, 1) := by decide +kernel
theorem dX11_rests_70 : decode cX11_rests 70 = .ok (.iload 7, 2) := by decide +kernel
theorem dX11_rests_72 : decode cX11_rests 72 = .ok (.invokevirtual 174, 3) := by decide +kernel
theorem dX11_rests_75 : decode cX11_rests 75 = .ok (.if_icmp .gt 50, 3) := by decide +kernel
theorem dX11_rests_78 : decode cX11_rests 78 = .ok (.aload_n 0, 1) := by decide +kernel
theorem dX11_rests_79 : decode cX11_rests 79 = .ok (.aload_n 0, 1) := by decide +kernel
theorem dX11_rests_8 : decode cX11_rests 8 = .ok (.iaload, 1) := by decide +kernel
theorem dX11_rests_80 : decode cX11_rests 80 = .ok (.getfield 7, 3) := by decide +kernel
theorem dX11_rests_83 : decode cX11_rests 83 = .ok (.iconst 5, 1) := by decide +kernel
theorem dX11_rests_84 : decode cX11_rests 84 = .ok (.iload_n 2, 1) := by decide +kernel
theorem dX11_rests_85 : decode cX11_rests 85 = .ok (.iadd, 1) := by decide +kernel
theorem dX11_rests_86 : decode cX11_rests 86 = .ok (.iaload, 1) := by decide +kernel
theorem dX11_rests_87 : decode cX11_rests 87 = .ok (.aload_n 0, 1) := by decide +kernel
theorem dX11_rests_88 : decode cX11_rests 88 = .ok (.getfield 36, 3) := by decide +kernel
theorem dX11_rests_9 : decode cX11_rests 9 = .ok (.istore 6, 2) := by decide +kernel
theorem dX11_rests_91 : decode cX11_rests 91 = .ok (.bipush 10, 2) := by decide +kernel
theorem dX11_rests_93 : decode cX11_rests 93 = .ok (.iload 8, 2) := by decide +kernel
theorem dX11_rests_95 : decode cX11_rests 95 = .ok (.iadd, 1) := by decide +kernel
theorem dX11_rests_96 : decode cX11_rests 96 = .ok (.iaload, 1) := by decide +kernel
theorem dX11_rests_97 : decode cX11_rests 97 = .ok (.iload 6, 2) := by decide +kernel
theorem dX11_rests_99 : decode cX11_rests 99 = .ok (.invokevirtual 174, 3) := by decide +kernel
theorem dX11_tell_0 : decode cX11_tell 0 = .ok (.aload_n 0, 1) := by decide +kernel
theorem dX11_tell_1 : decode cX11_tell 1 = .ok (.iload_n 1, 1) := by decide +kernel
theorem dX11_tell_100 : decode cX11_tell 100 = .ok (.if_icmp .ge 8, 3) := by decide +kernel
theorem dX11_tell_103 : decode cX11_tell 103 = .ok (.iload 5, 2) := by decide +kernel
theorem dX11_tell_105 : decode cX11_tell 105 = .ok (.goto 4, 3) := by decide +kernel
theorem dX11_tell_108 : decode cX11_tell 108 = .ok (.iload_n 3, 1) := by decide +kernel
theorem dX11_tell_109 : decode cX11_tell 109 = .ok (.istore_n 3, 1) := by decide +kernel
theorem dX11_tell_11 : decode cX11_tell 11 = .ok (.invokevirtual 68, 3) := by decide +kernel
theorem dX11_tell_110 : decode cX11_tell 110 = .ok (.iload 6, 2) := by decide +kernel
theorem dX11_tell_112 : decode cX11_tell 112 = .ok (.iload 4, 2) := by decide +kernel
theorem dX11_tell_114 : decode cX11_tell 114 = .ok (.if_icmp .ge 8, 3) := by decide +kernel
theorem dX11_tell_117 : decode cX11_tell 117 = .ok (.iload 6, 2) := by decide +kernel
theorem dX11_tell_119 : decode cX11_tell 119 = .ok (.goto 5, 3) := by decide +kernel
theorem dX11_tell_122 : decode cX11_tell 122 = .ok (.iload 4, 2) := by decide +kernel
theorem dX11_tell_124 : decode cX11_tell 124 = .ok (.istore 4, 2) := by decide +kernel
theorem dX11_tell_126 : decode cX11_tell 126 = .ok (.iinc 5 1, 3) := by decide +kernel
theorem dX11_tell_129 : decode cX11_tell 129 = .ok (.goto (-99), 3) := by decide +kernel
theorem dX11_tell_132 : decode cX11_tell 132 = .ok (.iload_n 3, 1) := by decide +kernel
theorem dX11_tell_133 : decode cX11_tell 133 = .ok (.ireturn, 1) := by decide +kernel
theorem dX11_tell_14 : decode cX11_tell 14 = .ok (.ireturn, 1) := by decide +kernel
theorem dX11_tell_15 : decode cX11_tell 15 = .ok (.aload_n 0, 1) := by decide +kernel
theorem dX11_tell_16 : decode cX11_tell 16 = .ok (.iload_n 1, 1) := by decide +kernel
theorem dX11_tell_17 : decode cX11_tell 17 = .ok (.invokevirtual 158, 3) := by decide +kernel
theorem dX11_tell_2 : decode cX11_tell 2 = .ok (.invokevirtual 123, 3) := by decide +kernel
theorem dX11_tell_20 : decode cX11_tell 20 = .ok (.istore_n 2, 1) := by decide +kernel
theorem dX11_tell_21 : decode cX11_tell 21 = .ok (.iconst (-1), 1) := by decide +kernel
theorem dX11_tell_22 : decode cX11_tell 22 = .ok (.istore_n 3, 1) := by decide +kernel
theorem dX11_tell_23 : decode cX11_tell 23 = .ok (.ldc 150, 2) := by decide +kernel
theorem dX11_tell_25 : decode cX11_tell 25 = .ok (.istore 4, 2) := by decide +kernel
theorem dX11_tell_27 : decode cX11_tell 27 = .ok (.iconst 0, 1) := by decide +kernel
theorem dX11_tell_28 : decode cX11_tell 28 = .ok (.istore 5, 2) := by decide +kernel
theorem dX11_tell_30 : decode cX11_tell 30 = .ok (.iload 5, 2) := by decide +kernel
theorem dX11_tell_32 : decode cX11_tell 32 = .ok (.sipush 200, 3) := by decide +kernel
theorem dX11_tell_35 : decode cX11_tell 35 = .ok (.if_icmp .ge 97, 3) := by decide +kernel
theorem dX11_tell_38 : decode cX11_tell 38 = .ok (.iload_n 2, 1) := by decide +kernel
theorem dX11_tell_39 : decode cX11_tell 39 = .ok (.ifCond .le 93, 3) := by decide +kernel
theorem dX11_tell_42 : decode cX11_tell 42 = .ok (.iconst 1, 1) := by decide +kernel
theorem dX11_tell_43 : decode cX11_tell 43 = .ok (.istore 6, 2) := by decide +kernel
theorem dX11_tell_45 : decode cX11_tell 45 = .ok (.iload 6, 2) := by decide +kernel
theorem dX11_tell_47 : decode cX11_tell 47 = .ok (.bipush 10, 2) := by decide +kernel
theorem dX11_tell_49 : decode cX11_tell 49 = .ok (.if_icmp .ge 40, 3) := by decide +kernel
theorem dX11_tell_5 : decode cX11_tell 5 = .ok (.ifCond .ne 10, 3) := by decide +kernel
theorem dX11_tell_52 : decode cX11_tell 52 = .ok (.aload_n 0, 1) := by decide +kernel
theorem dX11_tell_53 : decode cX11_tell 53 = .ok (.getfield 33, 3) := by decide +kernel
theorem dX11_tell_56 : decode cX11_tell 56 = .ok (.iload 6, 2) := by decide +kernel
theorem dX11_tell_58 : decode cX11_tell 58 = .ok (.aload_n 0, 1) := by decide +kernel
theorem dX11_tell_59 : decode cX11_tell 59 = .ok (.getfield 7, 3) := by decide +kernel
theorem dX11_tell_62 : decode cX11_tell 62 = .ok (.bipush 37, 2) := by decide +kernel
theorem dX11_tell_64 : decode cX11_tell 64 = .ok (.iload_n 1, 1) := by decide +kernel
theorem dX11_tell_65 : decode cX11_tell 65 = .ok (.iadd, 1) := by decide +kernel
theorem dX11_tell_66 : decode cX11_tell 66 = .ok (.iaload, 1) := by decide +kernel
theorem dX11_tell_67 : decode cX11_tell 67 = .ok (.iload 6, 2) := by decide +kernel
theorem dX11_tell_69 : decode cX11_tell 69 = .ok (.iload 5, 2) := by decide +kernel
theorem dX11_tell_71 : decode cX11_tell 71 = .ok (.bipush 10, 2) := by decide +kernel
theorem dX11_tell_73 : decode cX11_tell 73 = .ok (.irem, 1) := by decide +kernel
theorem dX11_tell_74 : decode cX11_tell 74 = .ok (.iload 5, 2) := by decide +kernel
theorem dX11_tell_76 : decode cX11_tell 76 = .ok (.bipush 10, 2) := by decide +kernel
theorem dX11_tell_78 : decode cX11_tell 78 = .ok (.idiv, 1) := by decide +kernel
theorem dX11_tell_79 : decode cX11_tell 79 = .ok (.invokestatic 86, 3) := by decide +kernel
theorem dX11_tell_8 : decode cX11_tell 8 = .ok (.aload_n 0, 1) := by decide +kernel
theorem dX11_tell_82 : decode cX11_tell 82 = .ok (.iastore, 1) := by decide +kernel
theorem dX11_tell_83 : decode cX11_tell 83 = .ok (.iinc 6 1, 3) := by decide +kernel
theorem dX11_tell_86 : decode cX11_tell 86 = .ok (.goto (-41), 3) := by decide +kernel
theorem dX11_tell_89 : decode cX11_tell 89 = .ok (.aload_n 0, 1) := by decide +kernel
theorem dX11_tell_9 : decode cX11_tell 9 = .ok (.bipush (-2), 2) := by decide +kernel
theorem dX11_tell_90 : decode cX11_tell 90 = .ok (.iload_n 2, 1) := by decide +kernel
theorem dX11_tell_91 : decode cX11_tell 91 = .ok (.invokevirtual 165, 3) := by decide +kernel
theorem dX11_tell_94 : decode cX11_tell 94 = .ok (.istore 6, 2) := by decide +kernel
theorem dX11_tell_96 : decode cX11_tell 96 = .ok (.iload 6, 2) := by decide +kernel
theorem dX11_tell_98 : decode cX11_tell 98 = .ok (.iload 4, 2) := by decide +kernel
theorem mm_X11_strong_c156 : Cond.constantLong RX11 156 (2) ∈ wsX11_strong := by decide +kernel
theorem hdV_X11_legsOf : yX11_legsOf.cls = RX11 ∧ yX11_legsOf.cls ≠ "java/lang/invoke/MethodHandle" ∧ yX11_legsOf.cls ≠ "java/lang/invoke/VarHandle" ∧ (parseMethodDescriptor yX11_legsOf.desc).map (fun d => d.parameters.length) = some 1 := by decide +kernel
theorem hdS_X11_has : yX11_has.cls ≠ "java/lang/invoke/MethodHandle" ∧ yX11_has.cls ≠ "java/lang/invoke/VarHandle" ∧ (parseMethodDescriptor yX11_has.desc).map (fun d => d.parameters.length) = some 2 := by decide +kernel
theorem in_X11_mostAlike_X11 : ∀ w ∈ wsX110, w ∈ wsX11_mostAlike := by decide +kernel
theorem lk_X11_mostAlike_33 : Cond.fieldLink RX11 33 "EggSpoonsModel" "tells" "[I" ∈ wsX11_mostAlike := by decide +kernel
set_option maxHeartbeats 4000000 in
set_option maxRecDepth 100000 in
/-- mostAlike -/
theorem m_mostAlike (l : Launch) (X : EX) (m0 : Nat) (ma : Nat → Nat) (la : Int64) (lb : Int64) (n : Nat) (t : Nat → Nat) (v : Nat → Int32) (ft : Nat → Int32) (x1 : Int32) (hI_n : n ≤ 150) (hI_t : InT t) (sz : Nat) : Met l yX11_mostAlike wsX11_mostAlike ({ frames := 1, cells := 0, slots := 0, locals := 21 } : Room) (pE X [.ref m0, .int x1] (@HAppend.hAppend va_W va_W va_W _ (mW m0 ma la lb n t v) ([((ma 8), .inl (X.2.1, 10, .inl ft))])) sz) (qI (fun (r : Int32) (u : Unit) => True) X (fun (u : Unit) => []) [] sz) 0 0 (va_A [] sz) := by
  refine mk_met (B := (fun _ => True)) (A := (va_A [] sz)) (cc := cX11_mostAlike) (maxL := 6) (ret := (some .int)) (by decide) rfl (Nat.le_of_ble_eq_true rfl) k_ro k_a (fun p e s m below meth c S zr zlk znm zsz G ls hl => ?_)
  have S : CallFix p m c cX11_mostAlike 6 s _ wsX11_mostAlike RX11 := S
  have zx := S.1
  have zb := S.2.1
  have hl : lv_has ls 6 [(0, .ref m0), (1, .int x1)] := hl
  have hO_t := hI_t
  obtain ⟨ht0_t, ht1_t⟩ := hO_t
  refine lv_iconst (v := 0) zx zb dX11_mostAlike_0 (by decide) ?_
  refine lv_istore_n (lv' := [(2, .int 0), (0, .ref m0), (1, .int x1)]) zx zb dX11_mostAlike_1 rfl hl (by decide) rfl (fun ls hl => ?_)
  refine lv_iconst (v := 0) zx zb dX11_mostAlike_2 (by decide) ?_
  refine lv_istore_n (lv' := [(3, .int 0), (2, .int 0), (0, .ref m0), (1, .int x1)]) zx zb dX11_mostAlike_3 rfl hl (by decide) rfl (fun ls hl => ?_)
  refine k_loop (P := ∀ (zm : Nat) (k4 : Nat) (x4_2 : Int32) (H : Heap) (locs : List Loc) (ls : Array Slot), 10 + 1 ≤ k4 + zm → (k4 ≤ 10) → wd X (fun _ => True) (va_A [] sz) s (@HAppend.hAppend va_W va_W va_W _ (mW m0 ma la lb n t v) ([((ma 8), .inl (X.2.1, 10, .inl ft))])) H locs → lv_has ls 6 [(3, .int (nI k4)), (2, .int x4_2), (0, .ref m0), (1, .int x1)] → W p l e _ s m _ below meth c H locs _ _ _ (F0 m 4 ls [])) (fun loop => loop (10 + 1) 0 0 _ _ _ (by omega) (by omega) G hl) ?_
  intro zm
  induction zm with
  | zero => intro k4 x4_2 H locs ls zz q_hk_k4 _ _; exact absurd zz (by omega)
  | succ zm ih4 =>
    intro k4 x4_2 H locs ls zm_4 hk_k4 G hl
    refine lv_iload_n zx zb dX11_mostAlike_4 rfl (lv_at hl 0 rfl) ?_
    refine lv_bipush (v := 10) zx zb dX11_mostAlike_5 (by decide) ?_
    refine lv_icmp_ge (tgt := 91) zx zb dX11_mostAlike_7 (by decide) (fun c_1 => ?_) (fun c_1 => ?_)
    · have fc_1 := j_le (a := 10) (b := k4) (by omega) (by omega) c_1
      refine lv_iload_n zx zb dX11_mostAlike_91 rfl (lv_at hl 1 rfl) ?_
      exact e_int S zr zlk (vp_nar_int _) G () [] rfl rfl (Or.inl rfl) (trivial) dX11_mostAlike_92
    · have fc_1 := j_nle (a := 10) (b := k4) (by omega) (by omega) c_1
      refine lv_iconst (v := 0) zx zb dX11_mostAlike_10 (by decide) ?_
      refine lv_istore (lv' := [(4, .int 0), (3, .int (nI k4)), (2, .int x4_2), (0, .ref m0), (1, .int x1)]) zx zb dX11_mostAlike_11 hl (by decide) rfl (fun ls hl => ?_)
      refine lv_iconst (v := 0) zx zb dX11_mostAlike_13 (by decide) ?_
      refine lv_istore (lv' := [(5, .int 0), (4, .int 0), (3, .int (nI k4)), (2, .int x4_2), (0, .ref m0), (1, .int x1)]) zx zb dX11_mostAlike_14 hl (by decide) rfl (fun ls hl => ?_)
      refine k_loop (P := ∀ (zm : Nat) (k16 : Nat) (x16_4 : Int32) (H : Heap) (locs : List Loc) (ls : Array Slot), 10 + 1 ≤ k16 + zm → (k16 ≤ 10) → wd X (fun _ => True) (va_A [] sz) s (@HAppend.hAppend va_W va_W va_W _ (mW m0 ma la lb n t v) ([((ma 8), .inl (X.2.1, 10, .inl ft))])) H locs → lv_has ls 6 [(5, .int (nI k16)), (4, .int x16_4), (3, .int (nI k4)), (2, .int x4_2), (0, .ref m0), (1, .int x1)] → W p l e _ s m _ below meth c H locs _ _ _ (F0 m 16 ls [])) (fun loop => loop (10 + 1) 0 0 _ _ _ (by omega) (by omega) G hl) ?_
      intro zm
      induction zm with
      | zero => intro k16 x16_4 H locs ls zz q_hk_k16 _ _; exact absurd zz (by omega)
      | succ zm ih16 =>
        intro k16 x16_4 H locs ls zm_16 hk_k16 G hl
        refine lv_iload zx zb dX11_mostAlike_16 (lv_at hl 0 rfl) ?_
        refine lv_bipush (v := 10) zx zb dX11_mostAlike_18 (by decide) ?_
        refine k_cutW (PP := fun Wx => ∀ (H : Heap) (locs : List Loc) (ls : Array Slot), wd X (fun _ => True) (va_A [] sz) s (@HAppend.hAppend va_W va_W va_W _ (mW m0 ma la lb n t v) ([((ma 8), .inl (X.2.1, 10, .inl ft))])) H locs → lv_has ls 6 [(5, .int (nI k16)), (4, .int x16_4), (3, .int (nI k4)), (2, .int x4_2), (0, .ref m0), (1, .int x1)] → Wx (F0 m 72 ls []) H locs) ?_ ?_
        · intro join_20
          refine lv_icmp_ge (tgt := 72) zx zb dX11_mostAlike_20 (by decide) (fun c_2 => ?_) (fun c_2 => ?_)
          · have fc_2 := j_le (a := 10) (b := k16) (by omega) (by omega) c_2
            exact join_20  _ _ _  G hl
          · have fc_2 := j_nle (a := 10) (b := k16) (by omega) (by omega) c_2
            refine lv_iload_n zx zb dX11_mostAlike_23 rfl (lv_at hl 5 rfl) ?_
            refine lv_iload_n zx zb dX11_mostAlike_24 rfl (lv_at hl 2 rfl) ?_
            refine o_ri (cells' := 0) (slots' := 0) G rfl rfl (n_S (As := [.int x1, .int (nI k4)]) (rest := []) S G (m_has l X x1 (nI k4) H.size) gX11_mostAlike_X11_has rfl rfl rfl hdS_X11_has ⟨Nat.le_of_ble_eq_true rfl, Nat.le_of_ble_eq_true rfl⟩ [] rfl rfl rfl hl.1 (Nat.le_of_ble_eq_true rfl) dX11_mostAlike_25 ⟨Nat.le_of_ble_eq_true rfl, Nat.le_of_ble_eq_true rfl⟩) (fun r_3 u_3 H locs hp_3 G => ?_)
            have G : wd X (fun _ => True) (va_A [] sz) s (@HAppend.hAppend va_W va_W va_W _ (mW m0 ma la lb n t v) ([((ma 8), .inl (X.2.1, 10, .inl ft))])) H locs := G
            refine lv_if_eq (tgt := 72) zx zb dX11_mostAlike_28 (by decide) (fun c_4 => ?_) (fun c_4 => ?_)
            · exact join_20  _ _ _  G hl
            · refine lv_iload zx zb dX11_mostAlike_31 (lv_at hl 1 rfl) ?_
              refine lv_iload_n zx zb dX11_mostAlike_33 rfl (lv_at hl 5 rfl) ?_
              refine lv_iload zx zb dX11_mostAlike_34 (lv_at hl 0 rfl) ?_
              refine o_ri (cells' := 0) (slots' := 0) G rfl rfl (n_S (As := [.int x1, .int (nI k16)]) (rest := [.int x16_4]) S G (m_has l X x1 (nI k16) H.size) gX11_mostAlike_X11_has rfl rfl rfl hdS_X11_has ⟨Nat.le_of_ble_eq_true rfl, Nat.le_of_ble_eq_true rfl⟩ [] rfl rfl rfl hl.1 (Nat.le_of_ble_eq_true rfl) dX11_mostAlike_36 ⟨Nat.le_of_ble_eq_true rfl, Nat.le_of_ble_eq_true rfl⟩) (fun r_5 u_5 H locs hp_5 G => ?_)
              have G : wd X (fun _ => True) (va_A [] sz) s (@HAppend.hAppend va_W va_W va_W _ (mW m0 ma la lb n t v) ([((ma 8), .inl (X.2.1, 10, .inl ft))])) H locs := G
              refine k_cutW (PP := fun Wx => ∀ (x_7 : Int32) (H : Heap) (locs : List Loc) (ls : Array Slot), (x_7 = 0 ∨ x_7 = 1) → wd X (fun _ => True) (va_A [] sz) s (@HAppend.hAppend va_W va_W va_W _ (mW m0 ma la lb n t v) ([((ma 8), .inl (X.2.1, 10, .inl ft))])) H locs → lv_has ls 6 [(5, .int (nI k16)), (4, .int x16_4), (3, .int (nI k4)), (2, .int x4_2), (0, .ref m0), (1, .int x1)] → Wx (F0 m 63 ls [.int x_7, .int x16_4]) H locs) ?_ ?_
              · intro join_39
                refine lv_if_eq (tgt := 62) zx zb dX11_mostAlike_39 (by decide) (fun c_6 => ?_) (fun c_6 => ?_)
                · refine lv_iconst (v := 0) zx zb dX11_mostAlike_62 (by decide) ?_
                  exact join_39 0 _ _ _ (by first | assumption | exact Or.inl rfl | exact Or.inr rfl) G hl
                · refine lv_aload_n zx zb dX11_mostAlike_42 rfl (lv_at hl 4 rfl) ?_
                  refine r_get (C := RX11) (T := TX11) (N := 18) (ci := 9) (v := .ref (ma 8)) S in_X11_mostAlike_X11 G 0 rfl rfl 8 (by decide) lk_X11_mostAlike_33 rfl dX11_mostAlike_43 ?_
                  refine lv_iload_n zx zb dX11_mostAlike_46 rfl (lv_at hl 2 rfl) ?_
                  refine r_iald S G 1 rfl (vp_in_nI (by omega) (by decide)) rfl dX11_mostAlike_47 ?_
                  refine k_itE (fun y_8 => ?_)
                  refine lv_aload_n zx zb dX11_mostAlike_48 rfl (lv_at hl 4 rfl) ?_
                  refine r_get (C := RX11) (T := TX11) (N := 18) (ci := 9) (v := .ref (ma 8)) S in_X11_mostAlike_X11 G 0 rfl rfl 8 (by decide) lk_X11_mostAlike_33 rfl dX11_mostAlike_49 ?_
                  refine lv_iload zx zb dX11_mostAlike_52 (lv_at hl 0 rfl) ?_
                  refine r_iald S G 1 rfl (vp_in_nI (by omega) (by decide)) rfl dX11_mostAlike_54 ?_
                  refine k_itE (fun y_9 => ?_)
                  refine lv_icmp_ne (tgt := 62) zx zb dX11_mostAlike_55 (by decide) (fun c_10 => ?_) (fun c_10 => ?_)
                  · refine lv_iconst (v := 0) zx zb dX11_mostAlike_62 (by decide) ?_
                    exact join_39 0 _ _ _ (by first | assumption | exact Or.inl rfl | exact Or.inr rfl) G hl
                  · refine lv_iconst (v := 1) zx zb dX11_mostAlike_58 (by decide) ?_
                    refine lv_goto (tgt := 63) zx zb dX11_mostAlike_59 (by decide) ?_
                    exact join_39 1 _ _ _ (by first | assumption | exact Or.inl rfl | exact Or.inr rfl) G hl
              · intro x_7 H locs ls hk_x_7 G hl
                refine r_iadd (v := (x16_4 + x_7)) S rfl dX11_mostAlike_63 ?_
                refine lv_istore (lv' := [(4, .int (x16_4 + x_7)), (5, .int (nI k16)), (3, .int (nI k4)), (2, .int x4_2), (0, .ref m0), (1, .int x1)]) zx zb dX11_mostAlike_64 hl (by decide) rfl (fun ls hl => ?_)
                refine lv_iinc (v := (nI (k16 + 1))) (lv' := [(5, .int (nI (k16 + 1))), (4, .int (x16_4 + x_7)), (3, .int (nI k4)), (2, .int x4_2), (0, .ref m0), (1, .int x1)]) zx zb dX11_mostAlike_66 hl (k := 1) rfl (nI_add k16 1) (by decide) rfl (fun ls hl => ?_)
                refine lv_goto (tgt := 16) zx zb dX11_mostAlike_69 (by decide) ?_
                exact ih16 (k16 + 1) (x16_4 + x_7) _ _ _ (by omega) (by omega) G hl
        · intro  H locs ls  G hl
          refine lv_iload zx zb dX11_mostAlike_72 (lv_at hl 1 rfl) ?_
          refine lv_iload_n zx zb dX11_mostAlike_74 rfl (lv_at hl 3 rfl) ?_
          refine k_cutW (PP := fun Wx => ∀ (x_12 : Int32) (H : Heap) (locs : List Loc) (ls : Array Slot), wd X (fun _ => True) (va_A [] sz) s (@HAppend.hAppend va_W va_W va_W _ (mW m0 ma la lb n t v) ([((ma 8), .inl (X.2.1, 10, .inl ft))])) H locs → lv_has ls 6 [(5, .int (nI k16)), (4, .int x16_4), (3, .int (nI k4)), (2, .int x4_2), (0, .ref m0), (1, .int x1)] → Wx (F0 m 84 ls [.int x_12]) H locs) ?_ ?_
          · intro join_75
            refine lv_icmp_le (tgt := 83) zx zb dX11_mostAlike_75 (by decide) (fun c_11 => ?_) (fun c_11 => ?_)
            · refine lv_iload_n zx zb dX11_mostAlike_83 rfl (lv_at hl 3 rfl) ?_
              exact join_75 x4_2 _ _ _  G hl
            · refine lv_iload zx zb dX11_mostAlike_78 (lv_at hl 1 rfl) ?_
              refine lv_goto (tgt := 84) zx zb dX11_mostAlike_80 (by decide) ?_
              exact join_75 x16_4 _ _ _  G hl
          · intro x_12 H locs ls  G hl
            refine lv_istore_n (lv' := [(2, .int x_12), (5, .int (nI k16)), (4, .int x16_4), (3, .int (nI k4)), (0, .ref m0), (1, .int x1)]) zx zb dX11_mostAlike_84 rfl hl (by decide) rfl (fun ls hl => ?_)
            refine lv_iinc (v := (nI (k4 + 1))) (lv' := [(3, .int (nI (k4 + 1))), (2, .int x_12), (5, .int (nI k16)), (4, .int x16_4), (0, .ref m0), (1, .int x1)]) zx zb dX11_mostAlike_85 hl (k := 3) rfl (nI_add k4 1) (by decide) rfl (fun ls hl => ?_)
            refine lv_goto (tgt := 4) zx zb dX11_mostAlike_88 (by decide) ?_
            have hl := lv_sub hl (l' := [(3, .int (nI (k4 + 1))), (2, .int x_12), (0, .ref m0), (1, .int x1)]) [0, 1, 4, 5] rfl
            exact ih4 (k4 + 1) x_12 _ _ _ (by omega) (by omega) G hl
theorem in_X11_kindsOfOne_X11 : ∀ w ∈ wsX110, w ∈ wsX11_kindsOfOne := by decide +kernel
theorem lk_X11_kindsOfOne_7 : Cond.fieldLink RX11 7 "EggSpoonsModel" "all" "[I" ∈ wsX11_kindsOfOne := by decide +kernel
set_option maxHeartbeats 4000000 in
set_option maxRecDepth 100000 in
/-- kindsOfOne -/
theorem m_kindsOfOne (l : Launch) (X : EX) (m0 : Nat) (ma : Nat → Nat) (la : Int64) (lb : Int64) (n : Nat) (t : Nat → Nat) (v : Nat → Int32) (fa : Nat → Int32) (c0 : Nat) (c1 : Nat) (c2 : Nat) (c3 : Nat) (c4 : Nat) (x1 : Int32) (hI_n : n ≤ 150) (hI_t : InT t) (hI_fa : InA fa c0 c1 c2 c3 c4) (sz : Nat) : Met l yX11_kindsOfOne wsX11_kindsOfOne ({ frames := 1, cells := 0, slots := 0, locals := 26 } : Room) (pE X [.ref m0, .int x1] (@HAppend.hAppend va_W va_W va_W _ (mW m0 ma la lb n t v) ([((ma 0), .inl (X.2.1, 371, .inl fa))])) sz) (qI (fun (r : Int32) (u : Unit) => True) X (fun (u : Unit) => []) [] sz) 0 0 (va_A [] sz) := by
  refine mk_met (B := (fun _ => True)) (A := (va_A [] sz)) (cc := cX11_kindsOfOne) (maxL := 7) (ret := (some .int)) (by decide) rfl (Nat.le_of_ble_eq_true rfl) k_ro k_a (fun p e s m below meth c S zr zlk znm zsz G ls hl => ?_)
  have S : CallFix p m c cX11_kindsOfOne 7 s _ wsX11_kindsOfOne RX11 := S
  have zx := S.1
  have zb := S.2.1
  have hl : lv_has ls 7 [(0, .ref m0), (1, .int x1)] := hl
  have hO_t := hI_t
  obtain ⟨ht0_t, ht1_t⟩ := hO_t
  have hO_fa := hI_fa.2
  obtain ⟨hm0_fa, hm1_fa, hm2_fa, hm3_fa, hm4_fa⟩ := hO_fa
  refine lv_iconst (v := 0) zx zb dX11_kindsOfOne_0 (by decide) ?_
  refine lv_istore_n (lv' := [(2, .int 0), (0, .ref m0), (1, .int x1)]) zx zb dX11_kindsOfOne_1 rfl hl (by decide) rfl (fun ls hl => ?_)
  refine lv_iconst (v := 0) zx zb dX11_kindsOfOne_2 (by decide) ?_
  refine lv_istore_n (lv' := [(3, .int 0), (2, .int 0), (0, .ref m0), (1, .int x1)]) zx zb dX11_kindsOfOne_3 rfl hl (by decide) rfl (fun ls hl => ?_)
  refine k_loop (P := ∀ (zm : Nat) (k4 : Nat) (x4_2 : Int32) (H : Heap) (locs : List Loc) (ls : Array Slot), 6 + 1 ≤ k4 + zm → (k4 ≤ 6) → wd X (fun _ => True) (va_A [] sz) s (@HAppend.hAppend va_W va_W va_W _ (mW m0 ma la lb n t v) ([((ma 0), .inl (X.2.1, 371, .inl fa))])) H locs → lv_has ls 7 [(3, .int (nI k4)), (2, .int x4_2), (0, .ref m0), (1, .int x1)] → W p l e _ s m _ below meth c H locs _ _ _ (F0 m 4 ls [])) (fun loop => loop (6 + 1) 0 0 _ _ _ (by omega) (by omega) G hl) ?_
  intro zm
  induction zm with
  | zero => intro k4 x4_2 H locs ls zz q_hk_k4 _ _; exact absurd zz (by omega)
  | succ zm ih4 =>
    intro k4 x4_2 H locs ls zm_4 hk_k4 G hl
    refine lv_iload_n zx zb dX11_kindsOfOne_4 rfl (lv_at hl 0 rfl) ?_
    refine lv_bipush (v := 6) zx zb dX11_kindsOfOne_5 (by decide) ?_
    refine lv_icmp_ge (tgt := 129) zx zb dX11_kindsOfOne_7 (by decide) (fun c_1 => ?_) (fun c_1 => ?_)
    · have fc_1 := j_le (a := 6) (b := k4) (by omega) (by omega) c_1
      refine lv_iload_n zx zb dX11_kindsOfOne_129 rfl (lv_at hl 1 rfl) ?_
      exact e_int S zr zlk (vp_nar_int _) G () [] rfl rfl (Or.inl rfl) (trivial) dX11_kindsOfOne_130
    · have fc_1 := j_nle (a := 6) (b := k4) (by omega) (by omega) c_1
      refine lv_iconst (v := 1) zx zb dX11_kindsOfOne_10 (by decide) ?_
      refine lv_istore (lv' := [(4, .int 1), (3, .int (nI k4)), (2, .int x4_2), (0, .ref m0), (1, .int x1)]) zx zb dX11_kindsOfOne_11 hl (by decide) rfl (fun ls hl => ?_)
      refine lv_iconst (v := 0) zx zb dX11_kindsOfOne_13 (by decide) ?_
      refine lv_istore (lv' := [(5, .int 0), (4, .int 1), (3, .int (nI k4)), (2, .int x4_2), (0, .ref m0), (1, .int x1)]) zx zb dX11_kindsOfOne_14 hl (by decide) rfl (fun ls hl => ?_)
      refine k_loop (P := ∀ (zm : Nat) (k16 : Nat) (x16_4 : Int32) (H : Heap) (locs : List Loc) (ls : Array Slot), c2 + 1 ≤ k16 + zm → (k16 ≤ c2) → wd X (fun _ => True) (va_A [] sz) s (@HAppend.hAppend va_W va_W va_W _ (mW m0 ma la lb n t v) ([((ma 0), .inl (X.2.1, 371, .inl fa))])) H locs → lv_has ls 7 [(5, .int (nI k16)), (4, .int x16_4), (3, .int (nI k4)), (2, .int x4_2), (0, .ref m0), (1, .int x1)] → W p l e _ s m _ below meth c H locs _ _ _ (F0 m 16 ls [])) (fun loop => loop (c2 + 1) 0 1 _ _ _ (by omega) (by omega) G hl) ?_
      intro zm
      induction zm with
      | zero => intro k16 x16_4 H locs ls zz q_hk_k16 _ _; exact absurd zz (by omega)
      | succ zm ih16 =>
        intro k16 x16_4 H locs ls zm_16 hk_k16 G hl
        refine lv_iload zx zb dX11_kindsOfOne_16 (lv_at hl 0 rfl) ?_
        refine lv_aload_n zx zb dX11_kindsOfOne_18 rfl (lv_at hl 4 rfl) ?_
        refine r_get (C := RX11) (T := TX11) (N := 18) (ci := 9) (v := .ref (ma 0)) S in_X11_kindsOfOne_X11 G 0 rfl rfl 0 (by decide) lk_X11_kindsOfOne_7 rfl dX11_kindsOfOne_19 ?_
        refine lv_iconst (v := 2) zx zb dX11_kindsOfOne_22 (by decide) ?_
        refine r_iald (v := (nI c2)) S G 1 rfl (k_vp (by decide)) hI_fa.1.2.2.1 dX11_kindsOfOne_23 ?_
        refine lv_icmp_ge (tgt := 108) zx zb dX11_kindsOfOne_24 (by decide) (fun c_3 => ?_) (fun c_3 => ?_)
        · have fc_3 := j_le (a := c2) (b := k16) (by omega) (by omega) c_3
          refine lv_iload_n zx zb dX11_kindsOfOne_108 rfl (lv_at hl 3 rfl) ?_
          refine lv_iload zx zb dX11_kindsOfOne_109 (lv_at hl 1 rfl) ?_
          refine k_cutW (PP := fun Wx => ∀ (x_5 : Int32) (H : Heap) (locs : List Loc) (ls : Array Slot), wd X (fun _ => True) (va_A [] sz) s (@HAppend.hAppend va_W va_W va_W _ (mW m0 ma la lb n t v) ([((ma 0), .inl (X.2.1, 371, .inl fa))])) H locs → lv_has ls 7 [(5, .int (nI k16)), (4, .int x16_4), (3, .int (nI k4)), (2, .int x4_2), (0, .ref m0), (1, .int x1)] → Wx (F0 m 121 ls [.int x_5, .int x4_2]) H locs) ?_ ?_
          · intro join_111
            refine lv_if_eq (tgt := 120) zx zb dX11_kindsOfOne_111 (by decide) (fun c_4 => ?_) (fun c_4 => ?_)
            · refine lv_iconst (v := 0) zx zb dX11_kindsOfOne_120 (by decide) ?_
              exact join_111 0 _ _ _  G hl
            · refine lv_iconst (v := 1) zx zb dX11_kindsOfOne_114 (by decide) ?_
              refine lv_iload_n zx zb dX11_kindsOfOne_115 rfl (lv_at hl 2 rfl) ?_
              refine lv_ishl zx zb dX11_kindsOfOne_116 ?_
              refine k_itE (fun y_6 => ?_)
              refine lv_goto (tgt := 121) zx zb dX11_kindsOfOne_117 (by decide) ?_
              exact join_111 y_6 _ _ _  G hl
          · intro x_5 H locs ls  G hl
            refine lv_ior zx zb dX11_kindsOfOne_121 ?_
            refine k_itE (fun y_7 => ?_)
            refine lv_istore_n (lv' := [(2, .int y_7), (5, .int (nI k16)), (4, .int x16_4), (3, .int (nI k4)), (0, .ref m0), (1, .int x1)]) zx zb dX11_kindsOfOne_122 rfl hl (by decide) rfl (fun ls hl => ?_)
            refine lv_iinc (v := (nI (k4 + 1))) (lv' := [(3, .int (nI (k4 + 1))), (2, .int y_7), (5, .int (nI k16)), (4, .int x16_4), (0, .ref m0), (1, .int x1)]) zx zb dX11_kindsOfOne_123 hl (k := 3) rfl (nI_add k4 1) (by decide) rfl (fun ls hl => ?_)
            refine lv_goto (tgt := 4) zx zb dX11_kindsOfOne_126 (by decide) ?_
            have hl := lv_sub hl (l' := [(3, .int (nI (k4 + 1))), (2, .int y_7), (0, .ref m0), (1, .int x1)]) [0, 1, 4, 5] rfl
            exact ih4 (k4 + 1) y_7 _ _ _ (by omega) (by omega) G hl
        · have fc_3 := j_nle (a := c2) (b := k16) (by omega) (by omega) c_3
          refine lv_bipush (v := 75) zx zb dX11_kindsOfOne_27 (by decide) ?_
          refine lv_iconst (v := 5) zx zb dX11_kindsOfOne_29 (by decide) ?_
          refine lv_iload zx zb dX11_kindsOfOne_30 (lv_at hl 0 rfl) ?_
          refine r_imul (v := (nI (5 * k16))) S (pk_mul 5 k16) dX11_kindsOfOne_32 ?_
          refine r_iadd (v := (nI (75 + (5 * k16)))) S (nI_add 75 (5 * k16)) dX11_kindsOfOne_33 ?_
          refine lv_istore (lv' := [(6, .int (nI (75 + (5 * k16)))), (5, .int (nI k16)), (4, .int x16_4), (3, .int (nI k4)), (2, .int x4_2), (0, .ref m0), (1, .int x1)]) zx zb dX11_kindsOfOne_34 hl (by decide) rfl (fun ls hl => ?_)
          refine lv_iload zx zb dX11_kindsOfOne_36 (lv_at hl 2 rfl) ?_
          refine k_cutW (PP := fun Wx => ∀ (x_9 : Int32) (H : Heap) (locs : List Loc) (ls : Array Slot), (x_9 = 0 ∨ x_9 = 1) → wd X (fun _ => True) (va_A [] sz) s (@HAppend.hAppend va_W va_W va_W _ (mW m0 ma la lb n t v) ([((ma 0), .inl (X.2.1, 371, .inl fa))])) H locs → lv_has ls 7 [(6, .int (nI (75 + (5 * k16)))), (5, .int (nI k16)), (4, .int x16_4), (3, .int (nI k4)), (2, .int x4_2), (0, .ref m0), (1, .int x1)] → Wx (F0 m 100 ls [.int x_9]) H locs) ?_ ?_
          · intro join_38
            refine lv_if_eq (tgt := 99) zx zb dX11_kindsOfOne_38 (by decide) (fun c_8 => ?_) (fun c_8 => ?_)
            · refine lv_iconst (v := 0) zx zb dX11_kindsOfOne_99 (by decide) ?_
              exact join_38 0 _ _ _ (by first | assumption | exact Or.inl rfl | exact Or.inr rfl) G hl
            · refine lv_aload_n zx zb dX11_kindsOfOne_41 rfl (lv_at hl 5 rfl) ?_
              refine r_get (C := RX11) (T := TX11) (N := 18) (ci := 9) (v := .ref (ma 0)) S in_X11_kindsOfOne_X11 G 0 rfl rfl 0 (by decide) lk_X11_kindsOfOne_7 rfl dX11_kindsOfOne_42 ?_
              refine lv_iload zx zb dX11_kindsOfOne_45 (lv_at hl 0 rfl) ?_
              refine r_iald S G 1 rfl (vp_in_nI (by omega) (by decide)) rfl dX11_kindsOfOne_47 ?_
              refine k_itE (fun y_10 => ?_)
              refine lv_iload_n zx zb dX11_kindsOfOne_48 rfl (lv_at hl 6 rfl) ?_
              refine lv_icmp_ne (tgt := 95) zx zb dX11_kindsOfOne_49 (by decide) (fun c_11 => ?_) (fun c_11 => ?_)
              · refine lv_iconst (v := 1) zx zb dX11_kindsOfOne_95 (by decide) ?_
                refine lv_goto (tgt := 100) zx zb dX11_kindsOfOne_96 (by decide) ?_
                exact join_38 1 _ _ _ (by first | assumption | exact Or.inl rfl | exact Or.inr rfl) G hl
              · refine lv_iload_n zx zb dX11_kindsOfOne_52 rfl (lv_at hl 3 rfl) ?_
                refine lv_aload_n zx zb dX11_kindsOfOne_53 rfl (lv_at hl 5 rfl) ?_
                refine r_get (C := RX11) (T := TX11) (N := 18) (ci := 9) (v := .ref (ma 0)) S in_X11_kindsOfOne_X11 G 0 rfl rfl 0 (by decide) lk_X11_kindsOfOne_7 rfl dX11_kindsOfOne_54 ?_
                refine lv_iload zx zb dX11_kindsOfOne_57 (lv_at hl 0 rfl) ?_
                refine lv_iconst (v := 1) zx zb dX11_kindsOfOne_59 (by decide) ?_
                refine r_iadd (v := (nI ((75 + (5 * k16)) + 1))) S (nI_add (75 + (5 * k16)) 1) dX11_kindsOfOne_60 ?_
                refine r_iald S G 1 rfl (vp_in_nI (by omega) (by decide)) rfl dX11_kindsOfOne_61 ?_
                refine k_itE (fun y_12 => ?_)
                refine lv_aload_n zx zb dX11_kindsOfOne_62 rfl (lv_at hl 5 rfl) ?_
                refine r_get (C := RX11) (T := TX11) (N := 18) (ci := 9) (v := .ref (ma 0)) S in_X11_kindsOfOne_X11 G 0 rfl rfl 0 (by decide) lk_X11_kindsOfOne_7 rfl dX11_kindsOfOne_63 ?_
                refine lv_iload zx zb dX11_kindsOfOne_66 (lv_at hl 0 rfl) ?_
                refine lv_iconst (v := 3) zx zb dX11_kindsOfOne_68 (by decide) ?_
                refine r_iadd (v := (nI ((75 + (5 * k16)) + 3))) S (nI_add (75 + (5 * k16)) 3) dX11_kindsOfOne_69 ?_
                refine r_iald S G 1 rfl (vp_in_nI (by omega) (by decide)) rfl dX11_kindsOfOne_70 ?_
                refine k_itE (fun y_13 => ?_)
                refine lv_aload_n zx zb dX11_kindsOfOne_71 rfl (lv_at hl 5 rfl) ?_
                refine r_get (C := RX11) (T := TX11) (N := 18) (ci := 9) (v := .ref (ma 0)) S in_X11_kindsOfOne_X11 G 0 rfl rfl 0 (by decide) lk_X11_kindsOfOne_7 rfl dX11_kindsOfOne_72 ?_
                refine lv_iload zx zb dX11_kindsOfOne_75 (lv_at hl 0 rfl) ?_
                refine lv_iconst (v := 2) zx zb dX11_kindsOfOne_77 (by decide) ?_
                refine r_iadd (v := (nI ((75 + (5 * k16)) + 2))) S (nI_add (75 + (5 * k16)) 2) dX11_kindsOfOne_78 ?_
                refine r_iald S G 1 rfl (vp_in_nI (by omega) (by decide)) rfl dX11_kindsOfOne_79 ?_
                refine k_itE (fun y_14 => ?_)
                refine o_ri (cells' := 0) (slots' := 0) G rfl rfl (n_S (As := [.int (nI k4), .int y_12, .int y_13, .int y_14]) (rest := []) S G (m_runsAs l X (nI k4) y_12 y_13 y_14 H.size) gX11_kindsOfOne_X11_runsAs rfl rfl rfl hdS_X11_runsAs ⟨Nat.le_of_ble_eq_true rfl, Nat.le_of_ble_eq_true rfl⟩ [] rfl rfl rfl hl.1 (Nat.le_of_ble_eq_true rfl) dX11_kindsOfOne_80 ⟨Nat.le_of_ble_eq_true rfl, Nat.le_of_ble_eq_true rfl⟩) (fun r_15 u_15 H locs hp_15 G => ?_)
                have G : wd X (fun _ => True) (va_A [] sz) s (@HAppend.hAppend va_W va_W va_W _ (mW m0 ma la lb n t v) ([((ma 0), .inl (X.2.1, 371, .inl fa))])) H locs := G
                refine lv_aload_n zx zb dX11_kindsOfOne_83 rfl (lv_at hl 5 rfl) ?_
                refine r_get (C := RX11) (T := TX11) (N := 18) (ci := 9) (v := .ref (ma 0)) S in_X11_kindsOfOne_X11 G 0 rfl rfl 0 (by decide) lk_X11_kindsOfOne_7 rfl dX11_kindsOfOne_84 ?_
                refine lv_iload zx zb dX11_kindsOfOne_87 (lv_at hl 0 rfl) ?_
                refine lv_iconst (v := 4) zx zb dX11_kindsOfOne_89 (by decide) ?_
                refine r_iadd (v := (nI ((75 + (5 * k16)) + 4))) S (nI_add (75 + (5 * k16)) 4) dX11_kindsOfOne_90 ?_
                refine r_iald S G 1 rfl (vp_in_nI (by omega) (by decide)) rfl dX11_kindsOfOne_91 ?_
                refine k_itE (fun y_16 => ?_)
                refine lv_icmp_ne (tgt := 99) zx zb dX11_kindsOfOne_92 (by decide) (fun c_17 => ?_) (fun c_17 => ?_)
                · refine lv_iconst (v := 0) zx zb dX11_kindsOfOne_99 (by decide) ?_
                  exact join_38 0 _ _ _ (by first | assumption | exact Or.inl rfl | exact Or.inr rfl) G hl
                · refine lv_iconst (v := 1) zx zb dX11_kindsOfOne_95 (by decide) ?_
                  refine lv_goto (tgt := 100) zx zb dX11_kindsOfOne_96 (by decide) ?_
                  exact join_38 1 _ _ _ (by first | assumption | exact Or.inl rfl | exact Or.inr rfl) G hl
          · intro x_9 H locs ls hk_x_9 G hl
            refine lv_istore (lv' := [(4, .int x_9), (6, .int (nI (75 + (5 * k16)))), (5, .int (nI k16)), (3, .int (nI k4)), (2, .int x4_2), (0, .ref m0), (1, .int x1)]) zx zb dX11_kindsOfOne_100 hl (by decide) rfl (fun ls hl => ?_)
            refine lv_iinc (v := (nI (k16 + 1))) (lv' := [(5, .int (nI (k16 + 1))), (4, .int x_9), (6, .int (nI (75 + (5 * k16)))), (3, .int (nI k4)), (2, .int x4_2), (0, .ref m0), (1, .int x1)]) zx zb dX11_kindsOfOne_102 hl (k := 2) rfl (nI_add k16 1) (by decide) rfl (fun ls hl => ?_)
            refine lv_goto (tgt := 16) zx zb dX11_kindsOfOne_105 (by decide) ?_
            have hl := lv_sub hl (l' := [(5, .int (nI (k16 + 1))), (4, .int x_9), (3, .int (nI k4)), (2, .int x4_2), (0, .ref m0), (1, .int x1)]) [0, 1, 3, 4, 5, 6] rfl
            exact ih16 (k16 + 1) x_9 _ _ _ (by omega) (by omega) G hl
theorem in_X11_kindsOfEgg_X11 : ∀ w ∈ wsX110, w ∈ wsX11_kindsOfEgg := by decide +kernel
theorem lk_X11_kindsOfEgg_7 : Cond.fieldLink RX11 7 "EggSpoonsModel" "all" "[I" ∈ wsX11_kindsOfEgg := by decide +kernel
set_option maxHeartbeats 4000000 in
set_option maxRecDepth 100000 in
/-- kindsOfEgg -/
theorem m_kindsOfEgg (l : Launch) (X : EX) (m0 : Nat) (ma : Nat → Nat) (la : Int64) (lb : Int64) (n : Nat) (t : Nat → Nat) (v : Nat → Int32) (fa : Nat → Int32) (c0 : Nat) (c1 : Nat) (c2 : Nat) (c3 : Nat) (c4 : Nat) (x1 : Int32) (hI_n : n ≤ 150) (hI_t : InT t) (hI_fa : InA fa c0 c1 c2 c3 c4) (sz : Nat) : Met l yX11_kindsOfEgg wsX11_kindsOfEgg ({ frames := 1, cells := 0, slots := 0, locals := 22 } : Room) (pE X [.ref m0, .int x1] (@HAppend.hAppend va_W va_W va_W _ (mW m0 ma la lb n t v) ([((ma 0), .inl (X.2.1, 371, .inl fa))])) sz) (qI (fun (r : Int32) (u : Unit) => True) X (fun (u : Unit) => []) [] sz) 0 0 (va_A [] sz) := by
  refine mk_met (B := (fun _ => True)) (A := (va_A [] sz)) (cc := cX11_kindsOfEgg) (maxL := 7) (ret := (some .int)) (by decide) rfl (Nat.le_of_ble_eq_true rfl) k_ro k_a (fun p e s m below meth c S zr zlk znm zsz G ls hl => ?_)
  have S : CallFix p m c cX11_kindsOfEgg 7 s _ wsX11_kindsOfEgg RX11 := S
  have zx := S.1
  have zb := S.2.1
  have hl : lv_has ls 7 [(0, .ref m0), (1, .int x1)] := hl
  have hO_t := hI_t
  obtain ⟨ht0_t, ht1_t⟩ := hO_t
  have hO_fa := hI_fa.2
  obtain ⟨hm0_fa, hm1_fa, hm2_fa, hm3_fa, hm4_fa⟩ := hO_fa
  refine lv_iconst (v := 0) zx zb dX11_kindsOfEgg_0 (by decide) ?_
  refine lv_istore_n (lv' := [(2, .int 0), (0, .ref m0), (1, .int x1)]) zx zb dX11_kindsOfEgg_1 rfl hl (by decide) rfl (fun ls hl => ?_)
  refine lv_iconst (v := 0) zx zb dX11_kindsOfEgg_2 (by decide) ?_
  refine lv_istore_n (lv' := [(3, .int 0), (2, .int 0), (0, .ref m0), (1, .int x1)]) zx zb dX11_kindsOfEgg_3 rfl hl (by decide) rfl (fun ls hl => ?_)
  refine k_loop (P := ∀ (zm : Nat) (k4 : Nat) (x4_2 : Int32) (H : Heap) (locs : List Loc) (ls : Array Slot), 6 + 1 ≤ k4 + zm → (k4 ≤ 6) → wd X (fun _ => True) (va_A [] sz) s (@HAppend.hAppend va_W va_W va_W _ (mW m0 ma la lb n t v) ([((ma 0), .inl (X.2.1, 371, .inl fa))])) H locs → lv_has ls 7 [(3, .int (nI k4)), (2, .int x4_2), (0, .ref m0), (1, .int x1)] → W p l e _ s m _ below meth c H locs _ _ _ (F0 m 4 ls [])) (fun loop => loop (6 + 1) 0 0 _ _ _ (by omega) (by omega) G hl) ?_
  intro zm
  induction zm with
  | zero => intro k4 x4_2 H locs ls zz q_hk_k4 _ _; exact absurd zz (by omega)
  | succ zm ih4 =>
    intro k4 x4_2 H locs ls zm_4 hk_k4 G hl
    refine lv_iload_n zx zb dX11_kindsOfEgg_4 rfl (lv_at hl 0 rfl) ?_
    refine lv_bipush (v := 6) zx zb dX11_kindsOfEgg_5 (by decide) ?_
    refine lv_icmp_ge (tgt := 111) zx zb dX11_kindsOfEgg_7 (by decide) (fun c_1 => ?_) (fun c_1 => ?_)
    · have fc_1 := j_le (a := 6) (b := k4) (by omega) (by omega) c_1
      refine lv_iload_n zx zb dX11_kindsOfEgg_111 rfl (lv_at hl 1 rfl) ?_
      exact e_int S zr zlk (vp_nar_int _) G () [] rfl rfl (Or.inl rfl) (trivial) dX11_kindsOfEgg_112
    · have fc_1 := j_nle (a := 6) (b := k4) (by omega) (by omega) c_1
      refine lv_iconst (v := 1) zx zb dX11_kindsOfEgg_10 (by decide) ?_
      refine lv_istore (lv' := [(4, .int 1), (3, .int (nI k4)), (2, .int x4_2), (0, .ref m0), (1, .int x1)]) zx zb dX11_kindsOfEgg_11 hl (by decide) rfl (fun ls hl => ?_)
      refine lv_iconst (v := 0) zx zb dX11_kindsOfEgg_13 (by decide) ?_
      refine lv_istore (lv' := [(5, .int 0), (4, .int 1), (3, .int (nI k4)), (2, .int x4_2), (0, .ref m0), (1, .int x1)]) zx zb dX11_kindsOfEgg_14 hl (by decide) rfl (fun ls hl => ?_)
      refine k_loop (P := ∀ (zm : Nat) (k16 : Nat) (x16_4 : Int32) (H : Heap) (locs : List Loc) (ls : Array Slot), c3 + 1 ≤ k16 + zm → (k16 ≤ c3) → wd X (fun _ => True) (va_A [] sz) s (@HAppend.hAppend va_W va_W va_W _ (mW m0 ma la lb n t v) ([((ma 0), .inl (X.2.1, 371, .inl fa))])) H locs → lv_has ls 7 [(5, .int (nI k16)), (4, .int x16_4), (3, .int (nI k4)), (2, .int x4_2), (0, .ref m0), (1, .int x1)] → W p l e _ s m _ below meth c H locs _ _ _ (F0 m 16 ls [])) (fun loop => loop (c3 + 1) 0 1 _ _ _ (by omega) (by omega) G hl) ?_
      intro zm
      induction zm with
      | zero => intro k16 x16_4 H locs ls zz q_hk_k16 _ _; exact absurd zz (by omega)
      | succ zm ih16 =>
        intro k16 x16_4 H locs ls zm_16 hk_k16 G hl
        refine lv_iload zx zb dX11_kindsOfEgg_16 (lv_at hl 0 rfl) ?_
        refine lv_aload_n zx zb dX11_kindsOfEgg_18 rfl (lv_at hl 4 rfl) ?_
        refine r_get (C := RX11) (T := TX11) (N := 18) (ci := 9) (v := .ref (ma 0)) S in_X11_kindsOfEgg_X11 G 0 rfl rfl 0 (by decide) lk_X11_kindsOfEgg_7 rfl dX11_kindsOfEgg_19 ?_
        refine lv_iconst (v := 3) zx zb dX11_kindsOfEgg_22 (by decide) ?_
        refine r_iald (v := (nI c3)) S G 1 rfl (k_vp (by decide)) hI_fa.1.2.2.2.1 dX11_kindsOfEgg_23 ?_
        refine lv_icmp_ge (tgt := 90) zx zb dX11_kindsOfEgg_24 (by decide) (fun c_3 => ?_) (fun c_3 => ?_)
        · have fc_3 := j_le (a := c3) (b := k16) (by omega) (by omega) c_3
          refine lv_iload_n zx zb dX11_kindsOfEgg_90 rfl (lv_at hl 3 rfl) ?_
          refine lv_iload zx zb dX11_kindsOfEgg_91 (lv_at hl 1 rfl) ?_
          refine k_cutW (PP := fun Wx => ∀ (x_5 : Int32) (H : Heap) (locs : List Loc) (ls : Array Slot), wd X (fun _ => True) (va_A [] sz) s (@HAppend.hAppend va_W va_W va_W _ (mW m0 ma la lb n t v) ([((ma 0), .inl (X.2.1, 371, .inl fa))])) H locs → lv_has ls 7 [(5, .int (nI k16)), (4, .int x16_4), (3, .int (nI k4)), (2, .int x4_2), (0, .ref m0), (1, .int x1)] → Wx (F0 m 103 ls [.int x_5, .int x4_2]) H locs) ?_ ?_
          · intro join_93
            refine lv_if_eq (tgt := 102) zx zb dX11_kindsOfEgg_93 (by decide) (fun c_4 => ?_) (fun c_4 => ?_)
            · refine lv_iconst (v := 0) zx zb dX11_kindsOfEgg_102 (by decide) ?_
              exact join_93 0 _ _ _  G hl
            · refine lv_iconst (v := 1) zx zb dX11_kindsOfEgg_96 (by decide) ?_
              refine lv_iload_n zx zb dX11_kindsOfEgg_97 rfl (lv_at hl 2 rfl) ?_
              refine lv_ishl zx zb dX11_kindsOfEgg_98 ?_
              refine k_itE (fun y_6 => ?_)
              refine lv_goto (tgt := 103) zx zb dX11_kindsOfEgg_99 (by decide) ?_
              exact join_93 y_6 _ _ _  G hl
          · intro x_5 H locs ls  G hl
            refine lv_ior zx zb dX11_kindsOfEgg_103 ?_
            refine k_itE (fun y_7 => ?_)
            refine lv_istore_n (lv' := [(2, .int y_7), (5, .int (nI k16)), (4, .int x16_4), (3, .int (nI k4)), (0, .ref m0), (1, .int x1)]) zx zb dX11_kindsOfEgg_104 rfl hl (by decide) rfl (fun ls hl => ?_)
            refine lv_iinc (v := (nI (k4 + 1))) (lv' := [(3, .int (nI (k4 + 1))), (2, .int y_7), (5, .int (nI k16)), (4, .int x16_4), (0, .ref m0), (1, .int x1)]) zx zb dX11_kindsOfEgg_105 hl (k := 3) rfl (nI_add k4 1) (by decide) rfl (fun ls hl => ?_)
            refine lv_goto (tgt := 4) zx zb dX11_kindsOfEgg_108 (by decide) ?_
            have hl := lv_sub hl (l' := [(3, .int (nI (k4 + 1))), (2, .int y_7), (0, .ref m0), (1, .int x1)]) [0, 1, 4, 5] rfl
            exact ih4 (k4 + 1) y_7 _ _ _ (by omega) (by omega) G hl
        · have fc_3 := j_nle (a := c3) (b := k16) (by omega) (by omega) c_3
          refine lv_bipush (v := 105) zx zb dX11_kindsOfEgg_27 (by decide) ?_
          refine lv_iconst (v := 3) zx zb dX11_kindsOfEgg_29 (by decide) ?_
          refine lv_iload zx zb dX11_kindsOfEgg_30 (lv_at hl 0 rfl) ?_
          refine r_imul (v := (nI (3 * k16))) S (pk_mul 3 k16) dX11_kindsOfEgg_32 ?_
          refine r_iadd (v := (nI (105 + (3 * k16)))) S (nI_add 105 (3 * k16)) dX11_kindsOfEgg_33 ?_
          refine lv_istore (lv' := [(6, .int (nI (105 + (3 * k16)))), (5, .int (nI k16)), (4, .int x16_4), (3, .int (nI k4)), (2, .int x4_2), (0, .ref m0), (1, .int x1)]) zx zb dX11_kindsOfEgg_34 hl (by decide) rfl (fun ls hl => ?_)
          refine lv_iload zx zb dX11_kindsOfEgg_36 (lv_at hl 2 rfl) ?_
          refine k_cutW (PP := fun Wx => ∀ (x_9 : Int32) (H : Heap) (locs : List Loc) (ls : Array Slot), (x_9 = 0 ∨ x_9 = 1) → wd X (fun _ => True) (va_A [] sz) s (@HAppend.hAppend va_W va_W va_W _ (mW m0 ma la lb n t v) ([((ma 0), .inl (X.2.1, 371, .inl fa))])) H locs → lv_has ls 7 [(6, .int (nI (105 + (3 * k16)))), (5, .int (nI k16)), (4, .int x16_4), (3, .int (nI k4)), (2, .int x4_2), (0, .ref m0), (1, .int x1)] → Wx (F0 m 82 ls [.int x_9]) H locs) ?_ ?_
          · intro join_38
            refine lv_if_eq (tgt := 81) zx zb dX11_kindsOfEgg_38 (by decide) (fun c_8 => ?_) (fun c_8 => ?_)
            · refine lv_iconst (v := 0) zx zb dX11_kindsOfEgg_81 (by decide) ?_
              exact join_38 0 _ _ _ (by first | assumption | exact Or.inl rfl | exact Or.inr rfl) G hl
            · refine lv_aload_n zx zb dX11_kindsOfEgg_41 rfl (lv_at hl 5 rfl) ?_
              refine r_get (C := RX11) (T := TX11) (N := 18) (ci := 9) (v := .ref (ma 0)) S in_X11_kindsOfEgg_X11 G 0 rfl rfl 0 (by decide) lk_X11_kindsOfEgg_7 rfl dX11_kindsOfEgg_42 ?_
              refine lv_iload zx zb dX11_kindsOfEgg_45 (lv_at hl 0 rfl) ?_
              refine r_iald S G 1 rfl (vp_in_nI (by omega) (by decide)) rfl dX11_kindsOfEgg_47 ?_
              refine k_itE (fun y_10 => ?_)
              refine lv_iload_n zx zb dX11_kindsOfEgg_48 rfl (lv_at hl 6 rfl) ?_
              refine lv_icmp_ne (tgt := 77) zx zb dX11_kindsOfEgg_49 (by decide) (fun c_11 => ?_) (fun c_11 => ?_)
              · refine lv_iconst (v := 1) zx zb dX11_kindsOfEgg_77 (by decide) ?_
                refine lv_goto (tgt := 82) zx zb dX11_kindsOfEgg_78 (by decide) ?_
                exact join_38 1 _ _ _ (by first | assumption | exact Or.inl rfl | exact Or.inr rfl) G hl
              · refine lv_iload_n zx zb dX11_kindsOfEgg_52 rfl (lv_at hl 3 rfl) ?_
                refine lv_aload_n zx zb dX11_kindsOfEgg_53 rfl (lv_at hl 5 rfl) ?_
                refine r_get (C := RX11) (T := TX11) (N := 18) (ci := 9) (v := .ref (ma 0)) S in_X11_kindsOfEgg_X11 G 0 rfl rfl 0 (by decide) lk_X11_kindsOfEgg_7 rfl dX11_kindsOfEgg_54 ?_
                refine lv_iload zx zb dX11_kindsOfEgg_57 (lv_at hl 0 rfl) ?_
                refine lv_iconst (v := 1) zx zb dX11_kindsOfEgg_59 (by decide) ?_
                refine r_iadd (v := (nI ((105 + (3 * k16)) + 1))) S (nI_add (105 + (3 * k16)) 1) dX11_kindsOfEgg_60 ?_
                refine r_iald S G 1 rfl (vp_in_nI (by omega) (by decide)) rfl dX11_kindsOfEgg_61 ?_
                refine k_itE (fun y_12 => ?_)
                refine o_ri (cells' := 0) (slots' := 0) G rfl rfl (n_S (As := [.int (nI k4), .int y_12]) (rest := []) S G (m_mayAs l X (nI k4) y_12 H.size) gX11_kindsOfEgg_X11_mayAs rfl rfl rfl hdS_X11_mayAs ⟨Nat.le_of_ble_eq_true rfl, Nat.le_of_ble_eq_true rfl⟩ [] rfl rfl rfl hl.1 (Nat.le_of_ble_eq_true rfl) dX11_kindsOfEgg_62 ⟨Nat.le_of_ble_eq_true rfl, Nat.le_of_ble_eq_true rfl⟩) (fun r_13 u_13 H locs hp_13 G => ?_)
                have G : wd X (fun _ => True) (va_A [] sz) s (@HAppend.hAppend va_W va_W va_W _ (mW m0 ma la lb n t v) ([((ma 0), .inl (X.2.1, 371, .inl fa))])) H locs := G
                refine lv_aload_n zx zb dX11_kindsOfEgg_65 rfl (lv_at hl 5 rfl) ?_
                refine r_get (C := RX11) (T := TX11) (N := 18) (ci := 9) (v := .ref (ma 0)) S in_X11_kindsOfEgg_X11 G 0 rfl rfl 0 (by decide) lk_X11_kindsOfEgg_7 rfl dX11_kindsOfEgg_66 ?_
                refine lv_iload zx zb dX11_kindsOfEgg_69 (lv_at hl 0 rfl) ?_
                refine lv_iconst (v := 2) zx zb dX11_kindsOfEgg_71 (by decide) ?_
                refine r_iadd (v := (nI ((105 + (3 * k16)) + 2))) S (nI_add (105 + (3 * k16)) 2) dX11_kindsOfEgg_72 ?_
                refine r_iald S G 1 rfl (vp_in_nI (by omega) (by decide)) rfl dX11_kindsOfEgg_73 ?_
                refine k_itE (fun y_14 => ?_)
                refine lv_icmp_ne (tgt := 81) zx zb dX11_kindsOfEgg_74 (by decide) (fun c_15 => ?_) (fun c_15 => ?_)
                · refine lv_iconst (v := 0) zx zb dX11_kindsOfEgg_81 (by decide) ?_
                  exact join_38 0 _ _ _ (by first | assumption | exact Or.inl rfl | exact Or.inr rfl) G hl
                · refine lv_iconst (v := 1) zx zb dX11_kindsOfEgg_77 (by decide) ?_
                  refine lv_goto (tgt := 82) zx zb dX11_kindsOfEgg_78 (by decide) ?_
                  exact join_38 1 _ _ _ (by first | assumption | exact Or.inl rfl | exact Or.inr rfl) G hl
          · intro x_9 H locs ls hk_x_9 G hl
            refine lv_istore (lv' := [(4, .int x_9), (6, .int (nI (105 + (3 * k16)))), (5, .int (nI k16)), (3, .int (nI k4)), (2, .int x4_2), (0, .ref m0), (1, .int x1)]) zx zb dX11_kindsOfEgg_82 hl (by decide) rfl (fun ls hl => ?_)
            refine lv_iinc (v := (nI (k16 + 1))) (lv' := [(5, .int (nI (k16 + 1))), (4, .int x_9), (6, .int (nI (105 + (3 * k16)))), (3, .int (nI k4)), (2, .int x4_2), (0, .ref m0), (1, .int x1)]) zx zb dX11_kindsOfEgg_84 hl (k := 2) rfl (nI_add k16 1) (by decide) rfl (fun ls hl => ?_)
            refine lv_goto (tgt := 16) zx zb dX11_kindsOfEgg_87 (by decide) ?_
            have hl := lv_sub hl (l' := [(5, .int (nI (k16 + 1))), (4, .int x_9), (3, .int (nI k4)), (2, .int x4_2), (0, .ref m0), (1, .int x1)]) [0, 1, 3, 4, 5, 6] rfl
            exact ih16 (k16 + 1) x_9 _ _ _ (by omega) (by omega) G hl
theorem mm_X11_tell_c150 : Cond.constant RX11 150 (1000000) ∈ wsX11_tell := by decide +kernel
theorem in_X11_tell_X11 : ∀ w ∈ wsX110, w ∈ wsX11_tell := by decide +kernel
theorem lk_X11_tell_33 : Cond.fieldLink RX11 33 "EggSpoonsModel" "tells" "[I" ∈ wsX11_tell := by decide +kernel
theorem lk_X11_tell_7 : Cond.fieldLink RX11 7 "EggSpoonsModel" "all" "[I" ∈ wsX11_tell := by decide +kernel
theorem hdV_X11_mostAlike : yX11_mostAlike.cls = RX11 ∧ yX11_mostAlike.cls ≠ "java/lang/invoke/MethodHandle" ∧ yX11_mostAlike.cls ≠ "java/lang/invoke/VarHandle" ∧ (parseMethodDescriptor yX11_mostAlike.desc).map (fun d => d.parameters.length) = some 1 := by decide +kernel
set_option maxHeartbeats 4000000 in
set_option maxRecDepth 100000 in
/-- tell -/
theorem m_tell (l : Launch) (X : EX) (m0 : Nat) (ma : Nat → Nat) (la : Int64) (lb : Int64) (n : Nat) (t : Nat → Nat) (v : Nat → Int32) (fa : Nat → Int32) (c0 : Nat) (c1 : Nat) (c2 : Nat) (c3 : Nat) (c4 : Nat) (ft : Nat → Int32) (fr : Nat → Int32) (x1 : Int32) (hI_n : n ≤ 150) (hI_t : InT t) (hI_fa : InA fa c0 c1 c2 c3 c4) (sz : Nat) : Met l yX11_tell wsX11_tell ({ frames := 2, cells := 0, slots := 0, locals := 52 } : Room) (pE X [.ref m0, .int x1] (@HAppend.hAppend va_W va_W va_W _ (mW m0 ma la lb n t v) (@HAppend.hAppend va_W va_W va_W _ ([((ma 0), .inl (X.2.1, 371, .inl fa))]) (@HAppend.hAppend va_W va_W va_W _ ([((ma 8), .inl (X.2.1, 10, .inl ft))]) ([((ma 3), .inl (X.2.1, 3, .inl fr))])))) sz) (qI (fun (r : Int32) (u : (Nat → Int32) × (Nat → Int32)) => (True)) X (fun (u : (Nat → Int32) × (Nat → Int32)) => @HAppend.hAppend va_W va_W va_W _ (mW m0 ma la lb n t v) (@HAppend.hAppend va_W va_W va_W _ ([((ma 0), .inl (X.2.1, 371, .inl fa))]) (@HAppend.hAppend va_W va_W va_W _ ([((ma 8), .inl (X.2.1, 10, .inl u.1))]) ([((ma 3), .inl (X.2.1, 3, .inl u.2))])))) (@HAppend.hAppend va_W va_W va_W _ (mW m0 ma la lb n t v) (@HAppend.hAppend va_W va_W va_W _ ([((ma 0), .inl (X.2.1, 371, .inl fa))]) (@HAppend.hAppend va_W va_W va_W _ ([((ma 8), .inl (X.2.1, 10, .inl ft))]) ([((ma 3), .inl (X.2.1, 3, .inl fr))])))) sz) 0 0 (va_A (@HAppend.hAppend va_W va_W va_W _ (mW m0 ma la lb n t v) (@HAppend.hAppend va_W va_W va_W _ ([((ma 0), .inl (X.2.1, 371, .inl fa))]) (@HAppend.hAppend va_W va_W va_W _ ([((ma 8), .inl (X.2.1, 10, .inl ft))]) ([((ma 3), .inl (X.2.1, 3, .inl fr))])))) sz) := by
  refine mk_met (B := (va_A (@HAppend.hAppend va_W va_W va_W _ (mW m0 ma la lb n t v) (@HAppend.hAppend va_W va_W va_W _ ([((ma 0), .inl (X.2.1, 371, .inl fa))]) (@HAppend.hAppend va_W va_W va_W _ ([((ma 8), .inl (X.2.1, 10, .inl ft))]) ([((ma 3), .inl (X.2.1, 3, .inl fr))])))) sz)) (A := (va_A (@HAppend.hAppend va_W va_W va_W _ (mW m0 ma la lb n t v) (@HAppend.hAppend va_W va_W va_W _ ([((ma 0), .inl (X.2.1, 371, .inl fa))]) (@HAppend.hAppend va_W va_W va_W _ ([((ma 8), .inl (X.2.1, 10, .inl ft))]) ([((ma 3), .inl (X.2.1, 3, .inl fr))])))) sz)) (cc := cX11_tell) (maxL := 7) (ret := (some .int)) (by decide) rfl (Nat.le_of_ble_eq_true rfl) k_w k_a (fun p e s m below meth c S zr zlk znm zsz G ls hl => ?_)
  have S : CallFix p m c cX11_tell 7 s _ wsX11_tell RX11 := S
  have zx := S.1
  have zb := S.2.1
  have hl : lv_has ls 7 [(0, .ref m0), (1, .int x1)] := hl
  have hO_t := hI_t
  obtain ⟨ht0_t, ht1_t⟩ := hO_t
  have hO_fa := hI_fa.2
  obtain ⟨hm0_fa, hm1_fa, hm2_fa, hm3_fa, hm4_fa⟩ := hO_fa
  refine lv_aload_n zx zb dX11_tell_0 rfl (lv_at hl 0 rfl) ?_
  refine lv_iload_n zx zb dX11_tell_1 rfl (lv_at hl 1 rfl) ?_
  refine o_ri (cells' := 0) (slots' := 0) G rfl rfl (n_V (As := [.int x1]) (rest := []) (C := RX11) (T := TX11) (N := 18) (ci := 9) S G (m_isOne l X m0 ma la lb n t v fa c0 c1 c2 c3 c4 x1 hI_n hI_t hI_fa s.heap.size) gX11_tell_X11_isOne rfl rfl rfl hdV_X11_isOne ⟨Nat.le_of_ble_eq_true rfl, Nat.le_of_ble_eq_true rfl⟩ [0, 1] rfl rfl 0 rfl rfl rfl hl.1 (Nat.le_of_ble_eq_true rfl) dX11_tell_2 ⟨Nat.le_of_ble_eq_true rfl, Nat.le_of_ble_eq_true rfl⟩) (fun r_1 u_1 H locs hp_1 G => ?_)
  have G : wd X (va_A (@HAppend.hAppend va_W va_W va_W _ (mW m0 ma la lb n t v) (@HAppend.hAppend va_W va_W va_W _ ([((ma 0), .inl (X.2.1, 371, .inl fa))]) (@HAppend.hAppend va_W va_W va_W _ ([((ma 8), .inl (X.2.1, 10, .inl ft))]) ([((ma 3), .inl (X.2.1, 3, .inl fr))])))) sz) (va_A (@HAppend.hAppend va_W va_W va_W _ (mW m0 ma la lb n t v) (@HAppend.hAppend va_W va_W va_W _ ([((ma 0), .inl (X.2.1, 371, .inl fa))]) (@HAppend.hAppend va_W va_W va_W _ ([((ma 8), .inl (X.2.1, 10, .inl ft))]) ([((ma 3), .inl (X.2.1, 3, .inl fr))])))) sz) s (@HAppend.hAppend va_W va_W va_W _ (mW m0 ma la lb n t v) (@HAppend.hAppend va_W va_W va_W _ ([((ma 0), .inl (X.2.1, 371, .inl fa))]) (@HAppend.hAppend va_W va_W va_W _ ([((ma 8), .inl (X.2.1, 10, .inl ft))]) ([((ma 3), .inl (X.2.1, 3, .inl fr))])))) H locs := G
  rcases hp_1 with ⟨rfl, hj_1⟩ | ⟨rfl, hj_1⟩
  · obtain ⟨j_1, hj_1, rfl⟩ := hj_1
    refine lv_if_ne (tgt := 15) zx zb dX11_tell_5 (by decide) (fun c_2 => ?_) (fun c_2 => absurd c_2 (by decide))
    refine lv_aload_n zx zb dX11_tell_15 rfl (lv_at hl 0 rfl) ?_
    refine lv_iload_n zx zb dX11_tell_16 rfl (lv_at hl 1 rfl) ?_
    refine o_ri (cells' := 0) (slots' := 0) G rfl rfl (n_V (As := [.int (nI j_1)]) (rest := []) (C := RX11) (T := TX11) (N := 18) (ci := 9) S G (m_legsOf l X m0 ma la lb n t v fa c0 c1 c2 c3 c4 j_1 hI_n hI_t hI_fa (by omega) H.size) gX11_tell_X11_legsOf rfl rfl rfl hdV_X11_legsOf ⟨Nat.le_of_ble_eq_true rfl, Nat.le_of_ble_eq_true rfl⟩ [0, 1] rfl rfl 0 rfl rfl rfl hl.1 (Nat.le_of_ble_eq_true rfl) dX11_tell_17 ⟨Nat.le_of_ble_eq_true rfl, Nat.le_of_ble_eq_true rfl⟩) (fun r_3 u_3 H locs hp_3 G => ?_)
    have G : wd X (va_A (@HAppend.hAppend va_W va_W va_W _ (mW m0 ma la lb n t v) (@HAppend.hAppend va_W va_W va_W _ ([((ma 0), .inl (X.2.1, 371, .inl fa))]) (@HAppend.hAppend va_W va_W va_W _ ([((ma 8), .inl (X.2.1, 10, .inl ft))]) ([((ma 3), .inl (X.2.1, 3, .inl fr))])))) sz) (va_A (@HAppend.hAppend va_W va_W va_W _ (mW m0 ma la lb n t v) (@HAppend.hAppend va_W va_W va_W _ ([((ma 0), .inl (X.2.1, 371, .inl fa))]) (@HAppend.hAppend va_W va_W va_W _ ([((ma 8), .inl (X.2.1, 10, .inl ft))]) ([((ma 3), .inl (X.2.1, 3, .inl fr))])))) sz) s (@HAppend.hAppend va_W va_W va_W _ (mW m0 ma la lb n t v) (@HAppend.hAppend va_W va_W va_W _ ([((ma 0), .inl (X.2.1, 371, .inl fa))]) (@HAppend.hAppend va_W va_W va_W _ ([((ma 8), .inl (X.2.1, 10, .inl ft))]) ([((ma 3), .inl (X.2.1, 3, .inl fr))])))) H locs := G
    refine lv_istore_n (lv' := [(2, .int r_3), (0, .ref m0), (1, .int (nI j_1))]) zx zb dX11_tell_20 rfl hl (by decide) rfl (fun ls hl => ?_)
    refine lv_iconst (v := (-1)) zx zb dX11_tell_21 (by decide) ?_
    refine lv_istore_n (lv' := [(3, .int (-1)), (2, .int r_3), (0, .ref m0), (1, .int (nI j_1))]) zx zb dX11_tell_22 rfl hl (by decide) rfl (fun ls hl => ?_)
    refine lv_ldc zx zb S.2.2.2.1 (S.2.2.2.2 _ mm_X11_tell_c150) dX11_tell_23 ?_
    refine lv_istore (lv' := [(4, .int 1000000), (3, .int (-1)), (2, .int r_3), (0, .ref m0), (1, .int (nI j_1))]) zx zb dX11_tell_25 hl (by decide) rfl (fun ls hl => ?_)
    refine lv_iconst (v := 0) zx zb dX11_tell_27 (by decide) ?_
    refine lv_istore (lv' := [(5, .int 0), (4, .int 1000000), (3, .int (-1)), (2, .int r_3), (0, .ref m0), (1, .int (nI j_1))]) zx zb dX11_tell_28 hl (by decide) rfl (fun ls hl => ?_)
    refine k_loop (P := ∀ (zm : Nat) (k30 : Nat) (x30_4 : Int32) (x30_3 : Int32) (f30_2 : Nat → Int32) (H : Heap) (locs : List Loc) (ls : Array Slot), 200 + 1 ≤ k30 + zm → (k30 ≤ 200) → wd X (va_A (@HAppend.hAppend va_W va_W va_W _ (mW m0 ma la lb n t v) (@HAppend.hAppend va_W va_W va_W _ ([((ma 0), .inl (X.2.1, 371, .inl fa))]) (@HAppend.hAppend va_W va_W va_W _ ([((ma 8), .inl (X.2.1, 10, .inl ft))]) ([((ma 3), .inl (X.2.1, 3, .inl fr))])))) sz) (va_A (@HAppend.hAppend va_W va_W va_W _ (mW m0 ma la lb n t v) (@HAppend.hAppend va_W va_W va_W _ ([((ma 0), .inl (X.2.1, 371, .inl fa))]) (@HAppend.hAppend va_W va_W va_W _ ([((ma 8), .inl (X.2.1, 10, .inl ft))]) ([((ma 3), .inl (X.2.1, 3, .inl fr))])))) sz) s (@HAppend.hAppend va_W va_W va_W _ (mW m0 ma la lb n t v) (@HAppend.hAppend va_W va_W va_W _ ([((ma 0), .inl (X.2.1, 371, .inl fa))]) (@HAppend.hAppend va_W va_W va_W _ ([((ma 8), .inl (X.2.1, 10, .inl f30_2))]) ([((ma 3), .inl (X.2.1, 3, .inl fr))])))) H locs → lv_has ls 7 [(5, .int (nI k30)), (4, .int x30_4), (3, .int x30_3), (2, .int r_3), (0, .ref m0), (1, .int (nI j_1))] → W p l e _ s m _ below meth c H locs _ _ _ (F0 m 30 ls [])) (fun loop => loop (200 + 1) 0 1000000 (-1) ft _ _ _ (by omega) (by omega) G hl) ?_
    intro zm
    induction zm with
    | zero => intro k30 x30_4 x30_3 f30_2 H locs ls zz q_hk_k30 _ _; exact absurd zz (by omega)
    | succ zm ih30 =>
      intro k30 x30_4 x30_3 f30_2 H locs ls zm_30 hk_k30 G hl
      refine lv_iload zx zb dX11_tell_30 (lv_at hl 0 rfl) ?_
      refine lv_sipush (v := 200) zx zb dX11_tell_32 (by decide) ?_
      refine k_cutW (PP := fun Wx => ∀ (H : Heap) (locs : List Loc) (ls : Array Slot), wd X (va_A (@HAppend.hAppend va_W va_W va_W _ (mW m0 ma la lb n t v) (@HAppend.hAppend va_W va_W va_W _ ([((ma 0), .inl (X.2.1, 371, .inl fa))]) (@HAppend.hAppend va_W va_W va_W _ ([((ma 8), .inl (X.2.1, 10, .inl ft))]) ([((ma 3), .inl (X.2.1, 3, .inl fr))])))) sz) (va_A (@HAppend.hAppend va_W va_W va_W _ (mW m0 ma la lb n t v) (@HAppend.hAppend va_W va_W va_W _ ([((ma 0), .inl (X.2.1, 371, .inl fa))]) (@HAppend.hAppend va_W va_W va_W _ ([((ma 8), .inl (X.2.1, 10, .inl ft))]) ([((ma 3), .inl (X.2.1, 3, .inl fr))])))) sz) s (@HAppend.hAppend va_W va_W va_W _ (mW m0 ma la lb n t v) (@HAppend.hAppend va_W va_W va_W _ ([((ma 0), .inl (X.2.1, 371, .inl fa))]) (@HAppend.hAppend va_W va_W va_W _ ([((ma 8), .inl (X.2.1, 10, .inl f30_2))]) ([((ma 3), .inl (X.2.1, 3, .inl fr))])))) H locs → lv_has ls 7 [(5, .int (nI k30)), (4, .int x30_4), (3, .int x30_3), (2, .int r_3), (0, .ref m0), (1, .int (nI j_1))] → Wx (F0 m 132 ls []) H locs) ?_ ?_
      · intro join_35
        refine lv_icmp_ge (tgt := 132) zx zb dX11_tell_35 (by decide) (fun c_4 => ?_) (fun c_4 => ?_)
        · have fc_4 := j_le (a := 200) (b := k30) (by omega) (by omega) c_4
          exact join_35  _ _ _  G hl
        · have fc_4 := j_nle (a := 200) (b := k30) (by omega) (by omega) c_4
          refine lv_iload_n zx zb dX11_tell_38 rfl (lv_at hl 3 rfl) ?_
          refine lv_if_le (tgt := 132) zx zb dX11_tell_39 (by decide) (fun c_5 => ?_) (fun c_5 => ?_)
          · exact join_35  _ _ _  G hl
          · refine lv_iconst (v := 1) zx zb dX11_tell_42 (by decide) ?_
            refine lv_istore (lv' := [(6, .int 1), (5, .int (nI k30)), (4, .int x30_4), (3, .int x30_3), (2, .int r_3), (0, .ref m0), (1, .int (nI j_1))]) zx zb dX11_tell_43 hl (by decide) rfl (fun ls hl => ?_)
            refine k_loop (P := ∀ (zm : Nat) (k45 : Nat) (f45_2 : Nat → Int32) (H : Heap) (locs : List Loc) (ls : Array Slot), 10 + 1 ≤ k45 + zm → (k45 ≤ 10) → wd X (va_A (@HAppend.hAppend va_W va_W va_W _ (mW m0 ma la lb n t v) (@HAppend.hAppend va_W va_W va_W _ ([((ma 0), .inl (X.2.1, 371, .inl fa))]) (@HAppend.hAppend va_W va_W va_W _ ([((ma 8), .inl (X.2.1, 10, .inl ft))]) ([((ma 3), .inl (X.2.1, 3, .inl fr))])))) sz) (va_A (@HAppend.hAppend va_W va_W va_W _ (mW m0 ma la lb n t v) (@HAppend.hAppend va_W va_W va_W _ ([((ma 0), .inl (X.2.1, 371, .inl fa))]) (@HAppend.hAppend va_W va_W va_W _ ([((ma 8), .inl (X.2.1, 10, .inl ft))]) ([((ma 3), .inl (X.2.1, 3, .inl fr))])))) sz) s (@HAppend.hAppend va_W va_W va_W _ (mW m0 ma la lb n t v) (@HAppend.hAppend va_W va_W va_W _ ([((ma 0), .inl (X.2.1, 371, .inl fa))]) (@HAppend.hAppend va_W va_W va_W _ ([((ma 8), .inl (X.2.1, 10, .inl f45_2))]) ([((ma 3), .inl (X.2.1, 3, .inl fr))])))) H locs → lv_has ls 7 [(6, .int (nI k45)), (5, .int (nI k30)), (4, .int x30_4), (3, .int x30_3), (2, .int r_3), (0, .ref m0), (1, .int (nI j_1))] → W p l e _ s m _ below meth c H locs _ _ _ (F0 m 45 ls [])) (fun loop => loop (10 + 1) 1 f30_2 _ _ _ (by omega) (by omega) G hl) ?_
            intro zm
            induction zm with
            | zero => intro k45 f45_2 H locs ls zz q_hk_k45 _ _; exact absurd zz (by omega)
            | succ zm ih45 =>
              intro k45 f45_2 H locs ls zm_45 hk_k45 G hl
              refine lv_iload zx zb dX11_tell_45 (lv_at hl 0 rfl) ?_
              refine lv_bipush (v := 10) zx zb dX11_tell_47 (by decide) ?_
              refine lv_icmp_ge (tgt := 89) zx zb dX11_tell_49 (by decide) (fun c_6 => ?_) (fun c_6 => ?_)
              · have fc_6 := j_le (a := 10) (b := k45) (by omega) (by omega) c_6
                refine lv_aload_n zx zb dX11_tell_89 rfl (lv_at hl 5 rfl) ?_
                refine lv_iload_n zx zb dX11_tell_90 rfl (lv_at hl 4 rfl) ?_
                refine o_ri (cells' := 0) (slots' := 0) G rfl rfl (n_V (As := [.int r_3]) (rest := []) (C := RX11) (T := TX11) (N := 18) (ci := 9) S G (m_mostAlike l X m0 ma la lb n t v f45_2 r_3 hI_n hI_t H.size) gX11_tell_X11_mostAlike rfl rfl rfl hdV_X11_mostAlike ⟨Nat.le_of_ble_eq_true rfl, Nat.le_of_ble_eq_true rfl⟩ [0, 2] rfl rfl 0 rfl rfl rfl hl.1 (Nat.le_of_ble_eq_true rfl) dX11_tell_91 ⟨Nat.le_of_ble_eq_true rfl, Nat.le_of_ble_eq_true rfl⟩) (fun r_7 u_7 H locs hp_7 G => ?_)
                have G : wd X (va_A (@HAppend.hAppend va_W va_W va_W _ (mW m0 ma la lb n t v) (@HAppend.hAppend va_W va_W va_W _ ([((ma 0), .inl (X.2.1, 371, .inl fa))]) (@HAppend.hAppend va_W va_W va_W _ ([((ma 8), .inl (X.2.1, 10, .inl ft))]) ([((ma 3), .inl (X.2.1, 3, .inl fr))])))) sz) (va_A (@HAppend.hAppend va_W va_W va_W _ (mW m0 ma la lb n t v) (@HAppend.hAppend va_W va_W va_W _ ([((ma 0), .inl (X.2.1, 371, .inl fa))]) (@HAppend.hAppend va_W va_W va_W _ ([((ma 8), .inl (X.2.1, 10, .inl ft))]) ([((ma 3), .inl (X.2.1, 3, .inl fr))])))) sz) s (@HAppend.hAppend va_W va_W va_W _ (mW m0 ma la lb n t v) (@HAppend.hAppend va_W va_W va_W _ ([((ma 0), .inl (X.2.1, 371, .inl fa))]) (@HAppend.hAppend va_W va_W va_W _ ([((ma 8), .inl (X.2.1, 10, .inl f45_2))]) ([((ma 3), .inl (X.2.1, 3, .inl fr))])))) H locs := G
                refine lv_istore (lv' := [(6, .int r_7), (5, .int (nI k30)), (4, .int x30_4), (3, .int x30_3), (2, .int r_3), (0, .ref m0), (1, .int (nI j_1))]) zx zb dX11_tell_94 hl (by decide) rfl (fun ls hl => ?_)
                refine lv_iload zx zb dX11_tell_96 (lv_at hl 0 rfl) ?_
                refine lv_iload zx zb dX11_tell_98 (lv_at hl 2 rfl) ?_
                refine k_cutW (PP := fun Wx => ∀ (x_9 : Int32) (H : Heap) (locs : List Loc) (ls : Array Slot), wd X (va_A (@HAppend.hAppend va_W va_W va_W _ (mW m0 ma la lb n t v) (@HAppend.hAppend va_W va_W va_W _ ([((ma 0), .inl (X.2.1, 371, .inl fa))]) (@HAppend.hAppend va_W va_W va_W _ ([((ma 8), .inl (X.2.1, 10, .inl ft))]) ([((ma 3), .inl (X.2.1, 3, .inl fr))])))) sz) (va_A (@HAppend.hAppend va_W va_W va_W _ (mW m0 ma la lb n t v) (@HAppend.hAppend va_W va_W va_W _ ([((ma 0), .inl (X.2.1, 371, .inl fa))]) (@HAppend.hAppend va_W va_W va_W _ ([((ma 8), .inl (X.2.1, 10, .inl ft))]) ([((ma 3), .inl (X.2.1, 3, .inl fr))])))) sz) s (@HAppend.hAppend va_W va_W va_W _ (mW m0 ma la lb n t v) (@HAppend.hAppend va_W va_W va_W _ ([((ma 0), .inl (X.2.1, 371, .inl fa))]) (@HAppend.hAppend va_W va_W va_W _ ([((ma 8), .inl (X.2.1, 10, .inl f45_2))]) ([((ma 3), .inl (X.2.1, 3, .inl fr))])))) H locs → lv_has ls 7 [(6, .int r_7), (5, .int (nI k30)), (4, .int x30_4), (3, .int x30_3), (2, .int r_3), (0, .ref m0), (1, .int (nI j_1))] → Wx (F0 m 109 ls [.int x_9]) H locs) ?_ ?_
                · intro join_100
                  refine lv_icmp_ge (tgt := 108) zx zb dX11_tell_100 (by decide) (fun c_8 => ?_) (fun c_8 => ?_)
                  · refine lv_iload_n zx zb dX11_tell_108 rfl (lv_at hl 3 rfl) ?_
                    exact join_100 x30_3 _ _ _  G hl
                  · refine lv_iload zx zb dX11_tell_103 (lv_at hl 1 rfl) ?_
                    refine lv_goto (tgt := 109) zx zb dX11_tell_105 (by decide) ?_
                    exact join_100 (nI k30) _ _ _  G hl
                · intro x_9 H locs ls  G hl
                  refine lv_istore_n (lv' := [(3, .int x_9), (6, .int r_7), (5, .int (nI k30)), (4, .int x30_4), (2, .int r_3), (0, .ref m0), (1, .int (nI j_1))]) zx zb dX11_tell_109 rfl hl (by decide) rfl (fun ls hl => ?_)
                  refine lv_iload zx zb dX11_tell_110 (lv_at hl 1 rfl) ?_
                  refine lv_iload zx zb dX11_tell_112 (lv_at hl 3 rfl) ?_
                  refine k_cutW (PP := fun Wx => ∀ (x_11 : Int32) (H : Heap) (locs : List Loc) (ls : Array Slot), wd X (va_A (@HAppend.hAppend va_W va_W va_W _ (mW m0 ma la lb n t v) (@HAppend.hAppend va_W va_W va_W _ ([((ma 0), .inl (X.2.1, 371, .inl fa))]) (@HAppend.hAppend va_W va_W va_W _ ([((ma 8), .inl (X.2.1, 10, .inl ft))]) ([((ma 3), .inl (X.2.1, 3, .inl fr))])))) sz) (va_A (@HAppend.hAppend va_W va_W va_W _ (mW m0 ma la lb n t v) (@HAppend.hAppend va_W va_W va_W _ ([((ma 0), .inl (X.2.1, 371, .inl fa))]) (@HAppend.hAppend va_W va_W va_W _ ([((ma 8), .inl (X.2.1, 10, .inl ft))]) ([((ma 3), .inl (X.2.1, 3, .inl fr))])))) sz) s (@HAppend.hAppend va_W va_W va_W _ (mW m0 ma la lb n t v) (@HAppend.hAppend va_W va_W va_W _ ([((ma 0), .inl (X.2.1, 371, .inl fa))]) (@HAppend.hAppend va_W va_W va_W _ ([((ma 8), .inl (X.2.1, 10, .inl f45_2))]) ([((ma 3), .inl (X.2.1, 3, .inl fr))])))) H locs → lv_has ls 7 [(3, .int x_9), (6, .int r_7), (5, .int (nI k30)), (4, .int x30_4), (2, .int r_3), (0, .ref m0), (1, .int (nI j_1))] → Wx (F0 m 124 ls [.int x_11]) H locs) ?_ ?_
                  · intro join_114
                    refine lv_icmp_ge (tgt := 122) zx zb dX11_tell_114 (by decide) (fun c_10 => ?_) (fun c_10 => ?_)
                    · refine lv_iload zx zb dX11_tell_122 (lv_at hl 3 rfl) ?_
                      exact join_114 x30_4 _ _ _  G hl
                    · refine lv_iload zx zb dX11_tell_117 (lv_at hl 1 rfl) ?_
                      refine lv_goto (tgt := 124) zx zb dX11_tell_119 (by decide) ?_
                      exact join_114 r_7 _ _ _  G hl
                  · intro x_11 H locs ls  G hl
                    refine lv_istore (lv' := [(4, .int x_11), (3, .int x_9), (6, .int r_7), (5, .int (nI k30)), (2, .int r_3), (0, .ref m0), (1, .int (nI j_1))]) zx zb dX11_tell_124 hl (by decide) rfl (fun ls hl => ?_)
                    refine lv_iinc (v := (nI (k30 + 1))) (lv' := [(5, .int (nI (k30 + 1))), (4, .int x_11), (3, .int x_9), (6, .int r_7), (2, .int r_3), (0, .ref m0), (1, .int (nI j_1))]) zx zb dX11_tell_126 hl (k := 3) rfl (nI_add k30 1) (by decide) rfl (fun ls hl => ?_)
                    refine lv_goto (tgt := 30) zx zb dX11_tell_129 (by decide) ?_
                    have hl := lv_sub hl (l' := [(5, .int (nI (k30 + 1))), (4, .int x_11), (3, .int x_9), (2, .int r_3), (0, .ref m0), (1, .int (nI j_1))]) [0, 1, 2, 4, 5, 6] rfl
                    exact ih30 (k30 + 1) x_11 x_9 f45_2 _ _ _ (by omega) (by omega) G hl
              · have fc_6 := j_nle (a := 10) (b := k45) (by omega) (by omega) c_6
                refine lv_aload_n zx zb dX11_tell_52 rfl (lv_at hl 5 rfl) ?_
                refine r_get (C := RX11) (T := TX11) (N := 18) (ci := 9) (v := .ref (ma 8)) S in_X11_tell_X11 G 0 rfl rfl 8 (by decide) lk_X11_tell_33 rfl dX11_tell_53 ?_
                refine lv_iload zx zb dX11_tell_56 (lv_at hl 0 rfl) ?_
                refine lv_aload_n zx zb dX11_tell_58 rfl (lv_at hl 5 rfl) ?_
                refine r_get (C := RX11) (T := TX11) (N := 18) (ci := 9) (v := .ref (ma 0)) S in_X11_tell_X11 G 0 rfl rfl 0 (by decide) lk_X11_tell_7 rfl dX11_tell_59 ?_
                refine lv_bipush (v := 37) zx zb dX11_tell_62 (by decide) ?_
                refine lv_iload_n zx zb dX11_tell_64 rfl (lv_at hl 6 rfl) ?_
                refine r_iadd (v := (nI (37 + j_1))) S (nI_add 37 j_1) dX11_tell_65 ?_
                refine r_iald S G 1 rfl (vp_in_nI (by omega) (by decide)) rfl dX11_tell_66 ?_
                refine k_itE (fun y_12 => ?_)
                refine lv_iload zx zb dX11_tell_67 (lv_at hl 0 rfl) ?_
                refine lv_iload zx zb dX11_tell_69 (lv_at hl 1 rfl) ?_
                refine lv_bipush (v := 10) zx zb dX11_tell_71 (by decide) ?_
                refine lv_irem zx zb dX11_tell_73 (by decide) ?_
                refine k_it (v := (nI (k30 % 10))) (pk_rem (d := 10) (by omega) (by decide) (by decide)) ?_
                refine lv_iload zx zb dX11_tell_74 (lv_at hl 1 rfl) ?_
                refine lv_bipush (v := 10) zx zb dX11_tell_76 (by decide) ?_
                refine lv_idiv zx zb dX11_tell_78 (by decide) ?_
                refine k_it (v := (nI (k30 / 10))) (pk_div (d := 10) (by omega) (by decide) (by decide)) ?_
                refine o_ri (cells' := 0) (slots' := 0) G rfl rfl (n_S (As := [.int y_12, .int (nI k45), .int (nI (k30 % 10)), .int (nI (k30 / 10))]) (rest := [.int (nI k45), .ref (ma 8)]) S G (m_runsAs l X y_12 (nI k45) (nI (k30 % 10)) (nI (k30 / 10)) H.size) gX11_tell_X11_runsAs rfl rfl rfl hdS_X11_runsAs ⟨Nat.le_of_ble_eq_true rfl, Nat.le_of_ble_eq_true rfl⟩ [] rfl rfl rfl hl.1 (Nat.le_of_ble_eq_true rfl) dX11_tell_79 ⟨Nat.le_of_ble_eq_true rfl, Nat.le_of_ble_eq_true rfl⟩) (fun r_13 u_13 H locs hp_13 G => ?_)
                have G : wd X (va_A (@HAppend.hAppend va_W va_W va_W _ (mW m0 ma la lb n t v) (@HAppend.hAppend va_W va_W va_W _ ([((ma 0), .inl (X.2.1, 371, .inl fa))]) (@HAppend.hAppend va_W va_W va_W _ ([((ma 8), .inl (X.2.1, 10, .inl ft))]) ([((ma 3), .inl (X.2.1, 3, .inl fr))])))) sz) (va_A (@HAppend.hAppend va_W va_W va_W _ (mW m0 ma la lb n t v) (@HAppend.hAppend va_W va_W va_W _ ([((ma 0), .inl (X.2.1, 371, .inl fa))]) (@HAppend.hAppend va_W va_W va_W _ ([((ma 8), .inl (X.2.1, 10, .inl ft))]) ([((ma 3), .inl (X.2.1, 3, .inl fr))])))) sz) s (@HAppend.hAppend va_W va_W va_W _ (mW m0 ma la lb n t v) (@HAppend.hAppend va_W va_W va_W _ ([((ma 0), .inl (X.2.1, 371, .inl fa))]) (@HAppend.hAppend va_W va_W va_W _ ([((ma 8), .inl (X.2.1, 10, .inl f45_2))]) ([((ma 3), .inl (X.2.1, 3, .inl fr))])))) H locs := G
                refine r_iast S G 2 rfl (vp_in_nI (by omega) (by decide)) dX11_tell_82 (fun H locs G => ?_)
                obtain ⟨f_14, G⟩ : ∃ f_14 : Nat → Int32, wd X (va_A (@HAppend.hAppend va_W va_W va_W _ (mW m0 ma la lb n t v) (@HAppend.hAppend va_W va_W va_W _ ([((ma 0), .inl (X.2.1, 371, .inl fa))]) (@HAppend.hAppend va_W va_W va_W _ ([((ma 8), .inl (X.2.1, 10, .inl ft))]) ([((ma 3), .inl (X.2.1, 3, .inl fr))])))) sz) (va_A (@HAppend.hAppend va_W va_W va_W _ (mW m0 ma la lb n t v) (@HAppend.hAppend va_W va_W va_W _ ([((ma 0), .inl (X.2.1, 371, .inl fa))]) (@HAppend.hAppend va_W va_W va_W _ ([((ma 8), .inl (X.2.1, 10, .inl ft))]) ([((ma 3), .inl (X.2.1, 3, .inl fr))])))) sz) s (@HAppend.hAppend va_W va_W va_W _ (mW m0 ma la lb n t v) (@HAppend.hAppend va_W va_W va_W _ ([((ma 0), .inl (X.2.1, 371, .inl fa))]) (@HAppend.hAppend va_W va_W va_W _ ([((ma 8), .inl (X.2.1, 10, .inl f_14))]) ([((ma 3), .inl (X.2.1, 3, .inl fr))])))) H locs := ⟨_, G⟩
                refine lv_iinc (v := (nI (k45 + 1))) (lv' := [(6, .int (nI (k45 + 1))), (5, .int (nI k30)), (4, .int x30_4), (3, .int x30_3), (2, .int r_3), (0, .ref m0), (1, .int (nI j_1))]) zx zb dX11_tell_83 hl (k := 0) rfl (nI_add k45 1) (by decide) rfl (fun ls hl => ?_)
                refine lv_goto (tgt := 45) zx zb dX11_tell_86 (by decide) ?_
                exact ih45 (k45 + 1) f_14 _ _ _ (by omega) (by omega) G hl
      · intro  H locs ls  G hl
        refine lv_iload_n zx zb dX11_tell_132 rfl (lv_at hl 2 rfl) ?_
        exact e_int S zr zlk (vp_nar_int _) G (f30_2, fr) [0, 1, 2, 3] rfl rfl (Or.inr rfl) (trivial) dX11_tell_133
  · refine lv_if_ne (tgt := 15) zx zb dX11_tell_5 (by decide) (fun c_15 => absurd (by decide) c_15) (fun c_15 => ?_)
    refine lv_aload_n zx zb dX11_tell_8 rfl (lv_at hl 0 rfl) ?_
    refine lv_bipush (v := (-2)) zx zb dX11_tell_9 (by decide) ?_
    refine b_wi (cells' := 0) (slots' := 0) (wr := @HAppend.hAppend va_W va_W va_W _ ([((ma 0), .inl (X.2.1, 371, .inl fa))]) ([((ma 8), .inl (X.2.1, 10, .inl ft))])) G rfl rfl [0, 3] [1, 2] rfl rfl rfl rfl (n_V (As := [.int (-2)]) (rest := []) (C := RX11) (T := TX11) (N := 18) (ci := 9) S G (m_bad l X m0 ma la lb n t v fr (-2) hI_n hI_t H.size) gX11_tell_X11_bad rfl rfl rfl hdV_X11_bad ⟨Nat.le_of_ble_eq_true rfl, Nat.le_of_ble_eq_true rfl⟩ [0, 3] rfl rfl 0 rfl rfl rfl hl.1 (Nat.le_of_ble_eq_true rfl) dX11_tell_11 ⟨Nat.le_of_ble_eq_true rfl, Nat.le_of_ble_eq_true rfl⟩) (fun r_16 u_16 H locs hp_16 G => ?_)
    obtain ⟨f_16, rfl⟩ : ∃ z, z = u_16 := ⟨_, rfl⟩
    have hq_16 := hp_16
    have G : wd X (va_A (@HAppend.hAppend va_W va_W va_W _ (mW m0 ma la lb n t v) (@HAppend.hAppend va_W va_W va_W _ ([((ma 0), .inl (X.2.1, 371, .inl fa))]) (@HAppend.hAppend va_W va_W va_W _ ([((ma 8), .inl (X.2.1, 10, .inl ft))]) ([((ma 3), .inl (X.2.1, 3, .inl fr))])))) sz) (va_A (@HAppend.hAppend va_W va_W va_W _ (mW m0 ma la lb n t v) (@HAppend.hAppend va_W va_W va_W _ ([((ma 0), .inl (X.2.1, 371, .inl fa))]) (@HAppend.hAppend va_W va_W va_W _ ([((ma 8), .inl (X.2.1, 10, .inl ft))]) ([((ma 3), .inl (X.2.1, 3, .inl fr))])))) sz) s (@HAppend.hAppend va_W va_W va_W _ ([((ma 0), .inl (X.2.1, 371, .inl fa))]) (@HAppend.hAppend va_W va_W va_W _ ([((ma 8), .inl (X.2.1, 10, .inl ft))]) (@HAppend.hAppend va_W va_W va_W _ (mW m0 ma la lb n t v) ([((ma 3), .inl (X.2.1, 3, .inl f_16))])))) H locs := G
    obtain rfl := hq_16
    exact e_int S zr zlk (vp_nar_int _) G (ft, f_16) [2, 0, 1, 3] rfl rfl (Or.inr rfl) (trivial) dX11_tell_14
theorem hdV_X11_kindsOfOne : yX11_kindsOfOne.cls = RX11 ∧ yX11_kindsOfOne.cls ≠ "java/lang/invoke/MethodHandle" ∧ yX11_kindsOfOne.cls ≠ "java/lang/invoke/VarHandle" ∧ (parseMethodDescriptor yX11_kindsOfOne.desc).map (fun d => d.parameters.length) = some 1 := by decide +kernel
theorem mm_X11_look_c150 : Cond.constant RX11 150 (1000000) ∈ wsX11_look := by decide +kernel
theorem in_X11_look_X11 : ∀ w ∈ wsX110, w ∈ wsX11_look := by decide +kernel
theorem lk_X11_look_33 : Cond.fieldLink RX11 33 "EggSpoonsModel" "tells" "[I" ∈ wsX11_look := by decide +kernel
theorem lk_X11_look_7 : Cond.fieldLink RX11 7 "EggSpoonsModel" "all" "[I" ∈ wsX11_look := by decide +kernel
set_option maxHeartbeats 4000000 in
set_option maxRecDepth 100000 in
/-- look -/
theorem m_look (l : Launch) (X : EX) (m0 : Nat) (ma : Nat → Nat) (la : Int64) (lb : Int64) (n : Nat) (t : Nat → Nat) (v : Nat → Int32) (fa : Nat → Int32) (c0 : Nat) (c1 : Nat) (c2 : Nat) (c3 : Nat) (c4 : Nat) (ft : Nat → Int32) (fr : Nat → Int32) (x1 : Int32) (hI_n : n ≤ 150) (hI_t : InT t) (hI_fa : InA fa c0 c1 c2 c3 c4) (sz : Nat) : Met l yX11_look wsX11_look ({ frames := 2, cells := 0, slots := 0, locals := 52 } : Room) (pE X [.ref m0, .int x1] (@HAppend.hAppend va_W va_W va_W _ (mW m0 ma la lb n t v) (@HAppend.hAppend va_W va_W va_W _ ([((ma 0), .inl (X.2.1, 371, .inl fa))]) (@HAppend.hAppend va_W va_W va_W _ ([((ma 8), .inl (X.2.1, 10, .inl ft))]) ([((ma 3), .inl (X.2.1, 3, .inl fr))])))) sz) (qI (fun (r : Int32) (u : (Nat → Int32) × (Nat → Int32)) => (True)) X (fun (u : (Nat → Int32) × (Nat → Int32)) => @HAppend.hAppend va_W va_W va_W _ (mW m0 ma la lb n t v) (@HAppend.hAppend va_W va_W va_W _ ([((ma 0), .inl (X.2.1, 371, .inl fa))]) (@HAppend.hAppend va_W va_W va_W _ ([((ma 8), .inl (X.2.1, 10, .inl u.1))]) ([((ma 3), .inl (X.2.1, 3, .inl u.2))])))) (@HAppend.hAppend va_W va_W va_W _ (mW m0 ma la lb n t v) (@HAppend.hAppend va_W va_W va_W _ ([((ma 0), .inl (X.2.1, 371, .inl fa))]) (@HAppend.hAppend va_W va_W va_W _ ([((ma 8), .inl (X.2.1, 10, .inl ft))]) ([((ma 3), .inl (X.2.1, 3, .inl fr))])))) sz) 0 0 (va_A (@HAppend.hAppend va_W va_W va_W _ (mW m0 ma la lb n t v) (@HAppend.hAppend va_W va_W va_W _ ([((ma 0), .inl (X.2.1, 371, .inl fa))]) (@HAppend.hAppend va_W va_W va_W _ ([((ma 8), .inl (X.2.1, 10, .inl ft))]) ([((ma 3), .inl (X.2.1, 3, .inl fr))])))) sz) := by
  refine mk_met (B := (va_A (@HAppend.hAppend va_W va_W va_W _ (mW m0 ma la lb n t v) (@HAppend.hAppend va_W va_W va_W _ ([((ma 0), .inl (X.2.1, 371, .inl fa))]) (@HAppend.hAppend va_W va_W va_W _ ([((ma 8), .inl (X.2.1, 10, .inl ft))]) ([((ma 3), .inl (X.2.1, 3, .inl fr))])))) sz)) (A := (va_A (@HAppend.hAppend va_W va_W va_W _ (mW m0 ma la lb n t v) (@HAppend.hAppend va_W va_W va_W _ ([((ma 0), .inl (X.2.1, 371, .inl fa))]) (@HAppend.hAppend va_W va_W va_W _ ([((ma 8), .inl (X.2.1, 10, .inl ft))]) ([((ma 3), .inl (X.2.1, 3, .inl fr))])))) sz)) (cc := cX11_look) (maxL := 7) (ret := (some .int)) (by decide) rfl (Nat.le_of_ble_eq_true rfl) k_w k_a (fun p e s m below meth c S zr zlk znm zsz G ls hl => ?_)
  have S : CallFix p m c cX11_look 7 s _ wsX11_look RX11 := S
  have zx := S.1
  have zb := S.2.1
  have hl : lv_has ls 7 [(0, .ref m0), (1, .int x1)] := hl
  have hO_t := hI_t
  obtain ⟨ht0_t, ht1_t⟩ := hO_t
  have hO_fa := hI_fa.2
  obtain ⟨hm0_fa, hm1_fa, hm2_fa, hm3_fa, hm4_fa⟩ := hO_fa
  refine lv_aload_n zx zb dX11_look_0 rfl (lv_at hl 0 rfl) ?_
  refine lv_iload_n zx zb dX11_look_1 rfl (lv_at hl 1 rfl) ?_
  refine o_ri (cells' := 0) (slots' := 0) G rfl rfl (n_V (As := [.int x1]) (rest := []) (C := RX11) (T := TX11) (N := 18) (ci := 9) S G (m_isOne l X m0 ma la lb n t v fa c0 c1 c2 c3 c4 x1 hI_n hI_t hI_fa s.heap.size) gX11_look_X11_isOne rfl rfl rfl hdV_X11_isOne ⟨Nat.le_of_ble_eq_true rfl, Nat.le_of_ble_eq_true rfl⟩ [0, 1] rfl rfl 0 rfl rfl rfl hl.1 (Nat.le_of_ble_eq_true rfl) dX11_look_2 ⟨Nat.le_of_ble_eq_true rfl, Nat.le_of_ble_eq_true rfl⟩) (fun r_1 u_1 H locs hp_1 G => ?_)
  have G : wd X (va_A (@HAppend.hAppend va_W va_W va_W _ (mW m0 ma la lb n t v) (@HAppend.hAppend va_W va_W va_W _ ([((ma 0), .inl (X.2.1, 371, .inl fa))]) (@HAppend.hAppend va_W va_W va_W _ ([((ma 8), .inl (X.2.1, 10, .inl ft))]) ([((ma 3), .inl (X.2.1, 3, .inl fr))])))) sz) (va_A (@HAppend.hAppend va_W va_W va_W _ (mW m0 ma la lb n t v) (@HAppend.hAppend va_W va_W va_W _ ([((ma 0), .inl (X.2.1, 371, .inl fa))]) (@HAppend.hAppend va_W va_W va_W _ ([((ma 8), .inl (X.2.1, 10, .inl ft))]) ([((ma 3), .inl (X.2.1, 3, .inl fr))])))) sz) s (@HAppend.hAppend va_W va_W va_W _ (mW m0 ma la lb n t v) (@HAppend.hAppend va_W va_W va_W _ ([((ma 0), .inl (X.2.1, 371, .inl fa))]) (@HAppend.hAppend va_W va_W va_W _ ([((ma 8), .inl (X.2.1, 10, .inl ft))]) ([((ma 3), .inl (X.2.1, 3, .inl fr))])))) H locs := G
  rcases hp_1 with ⟨rfl, hj_1⟩ | ⟨rfl, hj_1⟩
  · obtain ⟨j_1, hj_1, rfl⟩ := hj_1
    refine lv_if_ne (tgt := 15) zx zb dX11_look_5 (by decide) (fun c_2 => ?_) (fun c_2 => absurd c_2 (by decide))
    refine lv_aload_n zx zb dX11_look_15 rfl (lv_at hl 0 rfl) ?_
    refine lv_iload_n zx zb dX11_look_16 rfl (lv_at hl 1 rfl) ?_
    refine o_ri (cells' := 0) (slots' := 0) G rfl rfl (n_V (As := [.int (nI j_1)]) (rest := []) (C := RX11) (T := TX11) (N := 18) (ci := 9) S G (m_kindsOfOne l X m0 ma la lb n t v fa c0 c1 c2 c3 c4 (nI j_1) hI_n hI_t hI_fa H.size) gX11_look_X11_kindsOfOne rfl rfl rfl hdV_X11_kindsOfOne ⟨Nat.le_of_ble_eq_true rfl, Nat.le_of_ble_eq_true rfl⟩ [0, 1] rfl rfl 0 rfl rfl rfl hl.1 (Nat.le_of_ble_eq_true rfl) dX11_look_17 ⟨Nat.le_of_ble_eq_true rfl, Nat.le_of_ble_eq_true rfl⟩) (fun r_3 u_3 H locs hp_3 G => ?_)
    have G : wd X (va_A (@HAppend.hAppend va_W va_W va_W _ (mW m0 ma la lb n t v) (@HAppend.hAppend va_W va_W va_W _ ([((ma 0), .inl (X.2.1, 371, .inl fa))]) (@HAppend.hAppend va_W va_W va_W _ ([((ma 8), .inl (X.2.1, 10, .inl ft))]) ([((ma 3), .inl (X.2.1, 3, .inl fr))])))) sz) (va_A (@HAppend.hAppend va_W va_W va_W _ (mW m0 ma la lb n t v) (@HAppend.hAppend va_W va_W va_W _ ([((ma 0), .inl (X.2.1, 371, .inl fa))]) (@HAppend.hAppend va_W va_W va_W _ ([((ma 8), .inl (X.2.1, 10, .inl ft))]) ([((ma 3), .inl (X.2.1, 3, .inl fr))])))) sz) s (@HAppend.hAppend va_W va_W va_W _ (mW m0 ma la lb n t v) (@HAppend.hAppend va_W va_W va_W _ ([((ma 0), .inl (X.2.1, 371, .inl fa))]) (@HAppend.hAppend va_W va_W va_W _ ([((ma 8), .inl (X.2.1, 10, .inl ft))]) ([((ma 3), .inl (X.2.1, 3, .inl fr))])))) H locs := G
    refine lv_istore_n (lv' := [(2, .int r_3), (0, .ref m0), (1, .int (nI j_1))]) zx zb dX11_look_20 rfl hl (by decide) rfl (fun ls hl => ?_)
    refine lv_iconst (v := (-1)) zx zb dX11_look_21 (by decide) ?_
    refine lv_istore_n (lv' := [(3, .int (-1)), (2, .int r_3), (0, .ref m0), (1, .int (nI j_1))]) zx zb dX11_look_22 rfl hl (by decide) rfl (fun ls hl => ?_)
    refine lv_ldc zx zb S.2.2.2.1 (S.2.2.2.2 _ mm_X11_look_c150) dX11_look_23 ?_
    refine lv_istore (lv' := [(4, .int 1000000), (3, .int (-1)), (2, .int r_3), (0, .ref m0), (1, .int (nI j_1))]) zx zb dX11_look_25 hl (by decide) rfl (fun ls hl => ?_)
    refine lv_iconst (v := 0) zx zb dX11_look_27 (by decide) ?_
    refine lv_istore (lv' := [(5, .int 0), (4, .int 1000000), (3, .int (-1)), (2, .int r_3), (0, .ref m0), (1, .int (nI j_1))]) zx zb dX11_look_28 hl (by decide) rfl (fun ls hl => ?_)
    refine k_loop (P := ∀ (zm : Nat) (k30 : Nat) (x30_4 : Int32) (x30_3 : Int32) (f30_2 : Nat → Int32) (H : Heap) (locs : List Loc) (ls : Array Slot), 200 + 1 ≤ k30 + zm → (k30 ≤ 200) → wd X (va_A (@HAppend.hAppend va_W va_W va_W _ (mW m0 ma la lb n t v) (@HAppend.hAppend va_W va_W va_W _ ([((ma 0), .inl (X.2.1, 371, .inl fa))]) (@HAppend.hAppend va_W va_W va_W _ ([((ma 8), .inl (X.2.1, 10, .inl ft))]) ([((ma 3), .inl (X.2.1, 3, .inl fr))])))) sz) (va_A (@HAppend.hAppend va_W va_W va_W _ (mW m0 ma la lb n t v) (@HAppend.hAppend va_W va_W va_W _ ([((ma 0), .inl (X.2.1, 371, .inl fa))]) (@HAppend.hAppend va_W va_W va_W _ ([((ma 8), .inl (X.2.1, 10, .inl ft))]) ([((ma 3), .inl (X.2.1, 3, .inl fr))])))) sz) s (@HAppend.hAppend va_W va_W va_W _ (mW m0 ma la lb n t v) (@HAppend.hAppend va_W va_W va_W _ ([((ma 0), .inl (X.2.1, 371, .inl fa))]) (@HAppend.hAppend va_W va_W va_W _ ([((ma 8), .inl (X.2.1, 10, .inl f30_2))]) ([((ma 3), .inl (X.2.1, 3, .inl fr))])))) H locs → lv_has ls 7 [(5, .int (nI k30)), (4, .int x30_4), (3, .int x30_3), (2, .int r_3), (0, .ref m0), (1, .int (nI j_1))] → W p l e _ s m _ below meth c H locs _ _ _ (F0 m 30 ls [])) (fun loop => loop (200 + 1) 0 1000000 (-1) ft _ _ _ (by omega) (by omega) G hl) ?_
    intro zm
    induction zm with
    | zero => intro k30 x30_4 x30_3 f30_2 H locs ls zz q_hk_k30 _ _; exact absurd zz (by omega)
    | succ zm ih30 =>
      intro k30 x30_4 x30_3 f30_2 H locs ls zm_30 hk_k30 G hl
      refine lv_iload zx zb dX11_look_30 (lv_at hl 0 rfl) ?_
      refine lv_sipush (v := 200) zx zb dX11_look_32 (by decide) ?_
      refine k_cutW (PP := fun Wx => ∀ (H : Heap) (locs : List Loc) (ls : Array Slot), wd X (va_A (@HAppend.hAppend va_W va_W va_W _ (mW m0 ma la lb n t v) (@HAppend.hAppend va_W va_W va_W _ ([((ma 0), .inl (X.2.1, 371, .inl fa))]) (@HAppend.hAppend va_W va_W va_W _ ([((ma 8), .inl (X.2.1, 10, .inl ft))]) ([((ma 3), .inl (X.2.1, 3, .inl fr))])))) sz) (va_A (@HAppend.hAppend va_W va_W va_W _ (mW m0 ma la lb n t v) (@HAppend.hAppend va_W va_W va_W _ ([((ma 0), .inl (X.2.1, 371, .inl fa))]) (@HAppend.hAppend va_W va_W va_W _ ([((ma 8), .inl (X.2.1, 10, .inl ft))]) ([((ma 3), .inl (X.2.1, 3, .inl fr))])))) sz) s (@HAppend.hAppend va_W va_W va_W _ (mW m0 ma la lb n t v) (@HAppend.hAppend va_W va_W va_W _ ([((ma 0), .inl (X.2.1, 371, .inl fa))]) (@HAppend.hAppend va_W va_W va_W _ ([((ma 8), .inl (X.2.1, 10, .inl f30_2))]) ([((ma 3), .inl (X.2.1, 3, .inl fr))])))) H locs → lv_has ls 7 [(5, .int (nI k30)), (4, .int x30_4), (3, .int x30_3), (2, .int r_3), (0, .ref m0), (1, .int (nI j_1))] → Wx (F0 m 132 ls []) H locs) ?_ ?_
      · intro join_35
        refine lv_icmp_ge (tgt := 132) zx zb dX11_look_35 (by decide) (fun c_4 => ?_) (fun c_4 => ?_)
        · have fc_4 := j_le (a := 200) (b := k30) (by omega) (by omega) c_4
          exact join_35  _ _ _  G hl
        · have fc_4 := j_nle (a := 200) (b := k30) (by omega) (by omega) c_4
          refine lv_iload_n zx zb dX11_look_38 rfl (lv_at hl 3 rfl) ?_
          refine lv_if_le (tgt := 132) zx zb dX11_look_39 (by decide) (fun c_5 => ?_) (fun c_5 => ?_)
          · exact join_35  _ _ _  G hl
          · refine lv_iconst (v := 0) zx zb dX11_look_42 (by decide) ?_
            refine lv_istore (lv' := [(6, .int 0), (5, .int (nI k30)), (4, .int x30_4), (3, .int x30_3), (2, .int r_3), (0, .ref m0), (1, .int (nI j_1))]) zx zb dX11_look_43 hl (by decide) rfl (fun ls hl => ?_)
            refine k_loop (P := ∀ (zm : Nat) (k45 : Nat) (f45_2 : Nat → Int32) (H : Heap) (locs : List Loc) (ls : Array Slot), 6 + 1 ≤ k45 + zm → (k45 ≤ 6) → wd X (va_A (@HAppend.hAppend va_W va_W va_W _ (mW m0 ma la lb n t v) (@HAppend.hAppend va_W va_W va_W _ ([((ma 0), .inl (X.2.1, 371, .inl fa))]) (@HAppend.hAppend va_W va_W va_W _ ([((ma 8), .inl (X.2.1, 10, .inl ft))]) ([((ma 3), .inl (X.2.1, 3, .inl fr))])))) sz) (va_A (@HAppend.hAppend va_W va_W va_W _ (mW m0 ma la lb n t v) (@HAppend.hAppend va_W va_W va_W _ ([((ma 0), .inl (X.2.1, 371, .inl fa))]) (@HAppend.hAppend va_W va_W va_W _ ([((ma 8), .inl (X.2.1, 10, .inl ft))]) ([((ma 3), .inl (X.2.1, 3, .inl fr))])))) sz) s (@HAppend.hAppend va_W va_W va_W _ (mW m0 ma la lb n t v) (@HAppend.hAppend va_W va_W va_W _ ([((ma 0), .inl (X.2.1, 371, .inl fa))]) (@HAppend.hAppend va_W va_W va_W _ ([((ma 8), .inl (X.2.1, 10, .inl f45_2))]) ([((ma 3), .inl (X.2.1, 3, .inl fr))])))) H locs → lv_has ls 7 [(6, .int (nI k45)), (5, .int (nI k30)), (4, .int x30_4), (3, .int x30_3), (2, .int r_3), (0, .ref m0), (1, .int (nI j_1))] → W p l e _ s m _ below meth c H locs _ _ _ (F0 m 45 ls [])) (fun loop => loop (6 + 1) 0 f30_2 _ _ _ (by omega) (by omega) G hl) ?_
            intro zm
            induction zm with
            | zero => intro k45 f45_2 H locs ls zz q_hk_k45 _ _; exact absurd zz (by omega)
            | succ zm ih45 =>
              intro k45 f45_2 H locs ls zm_45 hk_k45 G hl
              refine lv_iload zx zb dX11_look_45 (lv_at hl 0 rfl) ?_
              refine lv_bipush (v := 6) zx zb dX11_look_47 (by decide) ?_
              refine lv_icmp_ge (tgt := 89) zx zb dX11_look_49 (by decide) (fun c_6 => ?_) (fun c_6 => ?_)
              · have fc_6 := j_le (a := 6) (b := k45) (by omega) (by omega) c_6
                refine lv_aload_n zx zb dX11_look_89 rfl (lv_at hl 5 rfl) ?_
                refine lv_iload_n zx zb dX11_look_90 rfl (lv_at hl 4 rfl) ?_
                refine o_ri (cells' := 0) (slots' := 0) G rfl rfl (n_V (As := [.int r_3]) (rest := []) (C := RX11) (T := TX11) (N := 18) (ci := 9) S G (m_mostAlike l X m0 ma la lb n t v f45_2 r_3 hI_n hI_t H.size) gX11_look_X11_mostAlike rfl rfl rfl hdV_X11_mostAlike ⟨Nat.le_of_ble_eq_true rfl, Nat.le_of_ble_eq_true rfl⟩ [0, 2] rfl rfl 0 rfl rfl rfl hl.1 (Nat.le_of_ble_eq_true rfl) dX11_look_91 ⟨Nat.le_of_ble_eq_true rfl, Nat.le_of_ble_eq_true rfl⟩) (fun r_7 u_7 H locs hp_7 G => ?_)
                have G : wd X (va_A (@HAppend.hAppend va_W va_W va_W _ (mW m0 ma la lb n t v) (@HAppend.hAppend va_W va_W va_W _ ([((ma 0), .inl (X.2.1, 371, .inl fa))]) (@HAppend.hAppend va_W va_W va_W _ ([((ma 8), .inl (X.2.1, 10, .inl ft))]) ([((ma 3), .inl (X.2.1, 3, .inl fr))])))) sz) (va_A (@HAppend.hAppend va_W va_W va_W _ (mW m0 ma la lb n t v) (@HAppend.hAppend va_W va_W va_W _ ([((ma 0), .inl (X.2.1, 371, .inl fa))]) (@HAppend.hAppend va_W va_W va_W _ ([((ma 8), .inl (X.2.1, 10, .inl ft))]) ([((ma 3), .inl (X.2.1, 3, .inl fr))])))) sz) s (@HAppend.hAppend va_W va_W va_W _ (mW m0 ma la lb n t v) (@HAppend.hAppend va_W va_W va_W _ ([((ma 0), .inl (X.2.1, 371, .inl fa))]) (@HAppend.hAppend va_W va_W va_W _ ([((ma 8), .inl (X.2.1, 10, .inl f45_2))]) ([((ma 3), .inl (X.2.1, 3, .inl fr))])))) H locs := G
                refine lv_istore (lv' := [(6, .int r_7), (5, .int (nI k30)), (4, .int x30_4), (3, .int x30_3), (2, .int r_3), (0, .ref m0), (1, .int (nI j_1))]) zx zb dX11_look_94 hl (by decide) rfl (fun ls hl => ?_)
                refine lv_iload zx zb dX11_look_96 (lv_at hl 0 rfl) ?_
                refine lv_iload zx zb dX11_look_98 (lv_at hl 2 rfl) ?_
                refine k_cutW (PP := fun Wx => ∀ (x_9 : Int32) (H : Heap) (locs : List Loc) (ls : Array Slot), wd X (va_A (@HAppend.hAppend va_W va_W va_W _ (mW m0 ma la lb n t v) (@HAppend.hAppend va_W va_W va_W _ ([((ma 0), .inl (X.2.1, 371, .inl fa))]) (@HAppend.hAppend va_W va_W va_W _ ([((ma 8), .inl (X.2.1, 10, .inl ft))]) ([((ma 3), .inl (X.2.1, 3, .inl fr))])))) sz) (va_A (@HAppend.hAppend va_W va_W va_W _ (mW m0 ma la lb n t v) (@HAppend.hAppend va_W va_W va_W _ ([((ma 0), .inl (X.2.1, 371, .inl fa))]) (@HAppend.hAppend va_W va_W va_W _ ([((ma 8), .inl (X.2.1, 10, .inl ft))]) ([((ma 3), .inl (X.2.1, 3, .inl fr))])))) sz) s (@HAppend.hAppend va_W va_W va_W _ (mW m0 ma la lb n t v) (@HAppend.hAppend va_W va_W va_W _ ([((ma 0), .inl (X.2.1, 371, .inl fa))]) (@HAppend.hAppend va_W va_W va_W _ ([((ma 8), .inl (X.2.1, 10, .inl f45_2))]) ([((ma 3), .inl (X.2.1, 3, .inl fr))])))) H locs → lv_has ls 7 [(6, .int r_7), (5, .int (nI k30)), (4, .int x30_4), (3, .int x30_3), (2, .int r_3), (0, .ref m0), (1, .int (nI j_1))] → Wx (F0 m 109 ls [.int x_9]) H locs) ?_ ?_
                · intro join_100
                  refine lv_icmp_ge (tgt := 108) zx zb dX11_look_100 (by decide) (fun c_8 => ?_) (fun c_8 => ?_)
                  · refine lv_iload_n zx zb dX11_look_108 rfl (lv_at hl 3 rfl) ?_
                    exact join_100 x30_3 _ _ _  G hl
                  · refine lv_iload zx zb dX11_look_103 (lv_at hl 1 rfl) ?_
                    refine lv_goto (tgt := 109) zx zb dX11_look_105 (by decide) ?_
                    exact join_100 (nI k30) _ _ _  G hl
                · intro x_9 H locs ls  G hl
                  refine lv_istore_n (lv' := [(3, .int x_9), (6, .int r_7), (5, .int (nI k30)), (4, .int x30_4), (2, .int r_3), (0, .ref m0), (1, .int (nI j_1))]) zx zb dX11_look_109 rfl hl (by decide) rfl (fun ls hl => ?_)
                  refine lv_iload zx zb dX11_look_110 (lv_at hl 1 rfl) ?_
                  refine lv_iload zx zb dX11_look_112 (lv_at hl 3 rfl) ?_
                  refine k_cutW (PP := fun Wx => ∀ (x_11 : Int32) (H : Heap) (locs : List Loc) (ls : Array Slot), wd X (va_A (@HAppend.hAppend va_W va_W va_W _ (mW m0 ma la lb n t v) (@HAppend.hAppend va_W va_W va_W _ ([((ma 0), .inl (X.2.1, 371, .inl fa))]) (@HAppend.hAppend va_W va_W va_W _ ([((ma 8), .inl (X.2.1, 10, .inl ft))]) ([((ma 3), .inl (X.2.1, 3, .inl fr))])))) sz) (va_A (@HAppend.hAppend va_W va_W va_W _ (mW m0 ma la lb n t v) (@HAppend.hAppend va_W va_W va_W _ ([((ma 0), .inl (X.2.1, 371, .inl fa))]) (@HAppend.hAppend va_W va_W va_W _ ([((ma 8), .inl (X.2.1, 10, .inl ft))]) ([((ma 3), .inl (X.2.1, 3, .inl fr))])))) sz) s (@HAppend.hAppend va_W va_W va_W _ (mW m0 ma la lb n t v) (@HAppend.hAppend va_W va_W va_W _ ([((ma 0), .inl (X.2.1, 371, .inl fa))]) (@HAppend.hAppend va_W va_W va_W _ ([((ma 8), .inl (X.2.1, 10, .inl f45_2))]) ([((ma 3), .inl (X.2.1, 3, .inl fr))])))) H locs → lv_has ls 7 [(3, .int x_9), (6, .int r_7), (5, .int (nI k30)), (4, .int x30_4), (2, .int r_3), (0, .ref m0), (1, .int (nI j_1))] → Wx (F0 m 124 ls [.int x_11]) H locs) ?_ ?_
                  · intro join_114
                    refine lv_icmp_ge (tgt := 122) zx zb dX11_look_114 (by decide) (fun c_10 => ?_) (fun c_10 => ?_)
                    · refine lv_iload zx zb dX11_look_122 (lv_at hl 3 rfl) ?_
                      exact join_114 x30_4 _ _ _  G hl
                    · refine lv_iload zx zb dX11_look_117 (lv_at hl 1 rfl) ?_
                      refine lv_goto (tgt := 124) zx zb dX11_look_119 (by decide) ?_
                      exact join_114 r_7 _ _ _  G hl
                  · intro x_11 H locs ls  G hl
                    refine lv_istore (lv' := [(4, .int x_11), (3, .int x_9), (6, .int r_7), (5, .int (nI k30)), (2, .int r_3), (0, .ref m0), (1, .int (nI j_1))]) zx zb dX11_look_124 hl (by decide) rfl (fun ls hl => ?_)
                    refine lv_iinc (v := (nI (k30 + 1))) (lv' := [(5, .int (nI (k30 + 1))), (4, .int x_11), (3, .int x_9), (6, .int r_7), (2, .int r_3), (0, .ref m0), (1, .int (nI j_1))]) zx zb dX11_look_126 hl (k := 3) rfl (nI_add k30 1) (by decide) rfl (fun ls hl => ?_)
                    refine lv_goto (tgt := 30) zx zb dX11_look_129 (by decide) ?_
                    have hl := lv_sub hl (l' := [(5, .int (nI (k30 + 1))), (4, .int x_11), (3, .int x_9), (2, .int r_3), (0, .ref m0), (1, .int (nI j_1))]) [0, 1, 2, 4, 5, 6] rfl
                    exact ih30 (k30 + 1) x_11 x_9 f45_2 _ _ _ (by omega) (by omega) G hl
              · have fc_6 := j_nle (a := 6) (b := k45) (by omega) (by omega) c_6
                refine lv_aload_n zx zb dX11_look_52 rfl (lv_at hl 5 rfl) ?_
                refine r_get (C := RX11) (T := TX11) (N := 18) (ci := 9) (v := .ref (ma 8)) S in_X11_look_X11 G 0 rfl rfl 8 (by decide) lk_X11_look_33 rfl dX11_look_53 ?_
                refine lv_iload zx zb dX11_look_56 (lv_at hl 0 rfl) ?_
                refine lv_iload zx zb dX11_look_58 (lv_at hl 0 rfl) ?_
                refine lv_aload_n zx zb dX11_look_60 rfl (lv_at hl 5 rfl) ?_
                refine r_get (C := RX11) (T := TX11) (N := 18) (ci := 9) (v := .ref (ma 0)) S in_X11_look_X11 G 0 rfl rfl 0 (by decide) lk_X11_look_7 rfl dX11_look_61 ?_
                refine lv_bipush (v := 43) zx zb dX11_look_64 (by decide) ?_
                refine lv_iload_n zx zb dX11_look_66 rfl (lv_at hl 6 rfl) ?_
                refine r_iadd (v := (nI (43 + j_1))) S (nI_add 43 j_1) dX11_look_67 ?_
                refine r_iald S G 1 rfl (vp_in_nI (by omega) (by decide)) rfl dX11_look_68 ?_
                refine k_itE (fun y_12 => ?_)
                refine lv_iload zx zb dX11_look_69 (lv_at hl 1 rfl) ?_
                refine lv_bipush (v := 10) zx zb dX11_look_71 (by decide) ?_
                refine lv_irem zx zb dX11_look_73 (by decide) ?_
                refine k_it (v := (nI (k30 % 10))) (pk_rem (d := 10) (by omega) (by decide) (by decide)) ?_
                refine lv_iload zx zb dX11_look_74 (lv_at hl 1 rfl) ?_
                refine lv_bipush (v := 10) zx zb dX11_look_76 (by decide) ?_
                refine lv_idiv zx zb dX11_look_78 (by decide) ?_
                refine k_it (v := (nI (k30 / 10))) (pk_div (d := 10) (by omega) (by decide) (by decide)) ?_
                refine o_ri (cells' := 0) (slots' := 0) G rfl rfl (n_S (As := [.int (nI k45), .int y_12, .int (nI (k30 % 10)), .int (nI (k30 / 10))]) (rest := [.int (nI k45), .ref (ma 8)]) S G (m_runsAs l X (nI k45) y_12 (nI (k30 % 10)) (nI (k30 / 10)) H.size) gX11_look_X11_runsAs rfl rfl rfl hdS_X11_runsAs ⟨Nat.le_of_ble_eq_true rfl, Nat.le_of_ble_eq_true rfl⟩ [] rfl rfl rfl hl.1 (Nat.le_of_ble_eq_true rfl) dX11_look_79 ⟨Nat.le_of_ble_eq_true rfl, Nat.le_of_ble_eq_true rfl⟩) (fun r_13 u_13 H locs hp_13 G => ?_)
                have G : wd X (va_A (@HAppend.hAppend va_W va_W va_W _ (mW m0 ma la lb n t v) (@HAppend.hAppend va_W va_W va_W _ ([((ma 0), .inl (X.2.1, 371, .inl fa))]) (@HAppend.hAppend va_W va_W va_W _ ([((ma 8), .inl (X.2.1, 10, .inl ft))]) ([((ma 3), .inl (X.2.1, 3, .inl fr))])))) sz) (va_A (@HAppend.hAppend va_W va_W va_W _ (mW m0 ma la lb n t v) (@HAppend.hAppend va_W va_W va_W _ ([((ma 0), .inl (X.2.1, 371, .inl fa))]) (@HAppend.hAppend va_W va_W va_W _ ([((ma 8), .inl (X.2.1, 10, .inl ft))]) ([((ma 3), .inl (X.2.1, 3, .inl fr))])))) sz) s (@HAppend.hAppend va_W va_W va_W _ (mW m0 ma la lb n t v) (@HAppend.hAppend va_W va_W va_W _ ([((ma 0), .inl (X.2.1, 371, .inl fa))]) (@HAppend.hAppend va_W va_W va_W _ ([((ma 8), .inl (X.2.1, 10, .inl f45_2))]) ([((ma 3), .inl (X.2.1, 3, .inl fr))])))) H locs := G
                refine r_iast S G 2 rfl (vp_in_nI (by omega) (by decide)) dX11_look_82 (fun H locs G => ?_)
                obtain ⟨f_14, G⟩ : ∃ f_14 : Nat → Int32, wd X (va_A (@HAppend.hAppend va_W va_W va_W _ (mW m0 ma la lb n t v) (@HAppend.hAppend va_W va_W va_W _ ([((ma 0), .inl (X.2.1, 371, .inl fa))]) (@HAppend.hAppend va_W va_W va_W _ ([((ma 8), .inl (X.2.1, 10, .inl ft))]) ([((ma 3), .inl (X.2.1, 3, .inl fr))])))) sz) (va_A (@HAppend.hAppend va_W va_W va_W _ (mW m0 ma la lb n t v) (@HAppend.hAppend va_W va_W va_W _ ([((ma 0), .inl (X.2.1, 371, .inl fa))]) (@HAppend.hAppend va_W va_W va_W _ ([((ma 8), .inl (X.2.1, 10, .inl ft))]) ([((ma 3), .inl (X.2.1, 3, .inl fr))])))) sz) s (@HAppend.hAppend va_W va_W va_W _ (mW m0 ma la lb n t v) (@HAppend.hAppend va_W va_W va_W _ ([((ma 0), .inl (X.2.1, 371, .inl fa))]) (@HAppend.hAppend va_W va_W va_W _ ([((ma 8), .inl (X.2.1, 10, .inl f_14))]) ([((ma 3), .inl (X.2.1, 3, .inl fr))])))) H locs := ⟨_, G⟩
                refine lv_iinc (v := (nI (k45 + 1))) (lv' := [(6, .int (nI (k45 + 1))), (5, .int (nI k30)), (4, .int x30_4), (3, .int x30_3), (2, .int r_3), (0, .ref m0), (1, .int (nI j_1))]) zx zb dX11_look_83 hl (k := 0) rfl (nI_add k45 1) (by decide) rfl (fun ls hl => ?_)
                refine lv_goto (tgt := 45) zx zb dX11_look_86 (by decide) ?_
                exact ih45 (k45 + 1) f_14 _ _ _ (by omega) (by omega) G hl
      · intro  H locs ls  G hl
        refine lv_iload_n zx zb dX11_look_132 rfl (lv_at hl 2 rfl) ?_
        exact e_int S zr zlk (vp_nar_int _) G (f30_2, fr) [0, 1, 2, 3] rfl rfl (Or.inr rfl) (trivial) dX11_look_133
  · refine lv_if_ne (tgt := 15) zx zb dX11_look_5 (by decide) (fun c_15 => absurd (by decide) c_15) (fun c_15 => ?_)
    refine lv_aload_n zx zb dX11_look_8 rfl (lv_at hl 0 rfl) ?_
    refine lv_bipush (v := (-2)) zx zb dX11_look_9 (by decide) ?_
    refine b_wi (cells' := 0) (slots' := 0) (wr := @HAppend.hAppend va_W va_W va_W _ ([((ma 0), .inl (X.2.1, 371, .inl fa))]) ([((ma 8), .inl (X.2.1, 10, .inl ft))])) G rfl rfl [0, 3] [1, 2] rfl rfl rfl rfl (n_V (As := [.int (-2)]) (rest := []) (C := RX11) (T := TX11) (N := 18) (ci := 9) S G (m_bad l X m0 ma la lb n t v fr (-2) hI_n hI_t H.size) gX11_look_X11_bad rfl rfl rfl hdV_X11_bad ⟨Nat.le_of_ble_eq_true rfl, Nat.le_of_ble_eq_true rfl⟩ [0, 3] rfl rfl 0 rfl rfl rfl hl.1 (Nat.le_of_ble_eq_true rfl) dX11_look_11 ⟨Nat.le_of_ble_eq_true rfl, Nat.le_of_ble_eq_true rfl⟩) (fun r_16 u_16 H locs hp_16 G => ?_)
    obtain ⟨f_16, rfl⟩ : ∃ z, z = u_16 := ⟨_, rfl⟩
    have hq_16 := hp_16
    have G : wd X (va_A (@HAppend.hAppend va_W va_W va_W _ (mW m0 ma la lb n t v) (@HAppend.hAppend va_W va_W va_W _ ([((ma 0), .inl (X.2.1, 371, .inl fa))]) (@HAppend.hAppend va_W va_W va_W _ ([((ma 8), .inl (X.2.1, 10, .inl ft))]) ([((ma 3), .inl (X.2.1, 3, .inl fr))])))) sz) (va_A (@HAppend.hAppend va_W va_W va_W _ (mW m0 ma la lb n t v) (@HAppend.hAppend va_W va_W va_W _ ([((ma 0), .inl (X.2.1, 371, .inl fa))]) (@HAppend.hAppend va_W va_W va_W _ ([((ma 8), .inl (X.2.1, 10, .inl ft))]) ([((ma 3), .inl (X.2.1, 3, .inl fr))])))) sz) s (@HAppend.hAppend va_W va_W va_W _ ([((ma 0), .inl (X.2.1, 371, .inl fa))]) (@HAppend.hAppend va_W va_W va_W _ ([((ma 8), .inl (X.2.1, 10, .inl ft))]) (@HAppend.hAppend va_W va_W va_W _ (mW m0 ma la lb n t v) ([((ma 3), .inl (X.2.1, 3, .inl f_16))])))) H locs := G
    obtain rfl := hq_16
    exact e_int S zr zlk (vp_nar_int _) G (ft, f_16) [2, 0, 1, 3] rfl rfl (Or.inr rfl) (trivial) dX11_look_14
theorem hdV_X11_kindsOfEgg : yX11_kindsOfEgg.cls = RX11 ∧ yX11_kindsOfEgg.cls ≠ "java/lang/invoke/MethodHandle" ∧ yX11_kindsOfEgg.cls ≠ "java/lang/invoke/VarHandle" ∧ (parseMethodDescriptor yX11_kindsOfEgg.desc).map (fun d => d.parameters.length) = some 1 := by decide +kernel
theorem mm_X11_ask_c150 : Cond.constant RX11 150 (1000000) ∈ wsX11_ask := by decide +kernel
theorem in_X11_ask_X11 : ∀ w ∈ wsX110, w ∈ wsX11_ask := by decide +kernel
theorem lk_X11_ask_33 : Cond.fieldLink RX11 33 "EggSpoonsModel" "tells" "[I" ∈ wsX11_ask := by decide +kernel
set_option maxHeartbeats 4000000 in
set_option maxRecDepth 100000 in
/-- ask -/
theorem m_ask (l : Launch) (X : EX) (m0 : Nat) (ma : Nat → Nat) (la : Int64) (lb : Int64) (n : Nat) (t : Nat → Nat) (v : Nat → Int32) (fa : Nat → Int32) (c0 : Nat) (c1 : Nat) (c2 : Nat) (c3 : Nat) (c4 : Nat) (ft : Nat → Int32) (fr : Nat → Int32) (x1 : Int32) (hI_n : n ≤ 150) (hI_t : InT t) (hI_fa : InA fa c0 c1 c2 c3 c4) (sz : Nat) : Met l yX11_ask wsX11_ask ({ frames := 2, cells := 0, slots := 0, locals := 48 } : Room) (pE X [.ref m0, .int x1] (@HAppend.hAppend va_W va_W va_W _ (mW m0 ma la lb n t v) (@HAppend.hAppend va_W va_W va_W _ ([((ma 0), .inl (X.2.1, 371, .inl fa))]) (@HAppend.hAppend va_W va_W va_W _ ([((ma 8), .inl (X.2.1, 10, .inl ft))]) ([((ma 3), .inl (X.2.1, 3, .inl fr))])))) sz) (qI (fun (r : Int32) (u : (Nat → Int32) × (Nat → Int32)) => (True)) X (fun (u : (Nat → Int32) × (Nat → Int32)) => @HAppend.hAppend va_W va_W va_W _ (mW m0 ma la lb n t v) (@HAppend.hAppend va_W va_W va_W _ ([((ma 0), .inl (X.2.1, 371, .inl fa))]) (@HAppend.hAppend va_W va_W va_W _ ([((ma 8), .inl (X.2.1, 10, .inl u.1))]) ([((ma 3), .inl (X.2.1, 3, .inl u.2))])))) (@HAppend.hAppend va_W va_W va_W _ (mW m0 ma la lb n t v) (@HAppend.hAppend va_W va_W va_W _ ([((ma 0), .inl (X.2.1, 371, .inl fa))]) (@HAppend.hAppend va_W va_W va_W _ ([((ma 8), .inl (X.2.1, 10, .inl ft))]) ([((ma 3), .inl (X.2.1, 3, .inl fr))])))) sz) 0 0 (va_A (@HAppend.hAppend va_W va_W va_W _ (mW m0 ma la lb n t v) (@HAppend.hAppend va_W va_W va_W _ ([((ma 0), .inl (X.2.1, 371, .inl fa))]) (@HAppend.hAppend va_W va_W va_W _ ([((ma 8), .inl (X.2.1, 10, .inl ft))]) ([((ma 3), .inl (X.2.1, 3, .inl fr))])))) sz) := by
  refine mk_met (B := (va_A (@HAppend.hAppend va_W va_W va_W _ (mW m0 ma la lb n t v) (@HAppend.hAppend va_W va_W va_W _ ([((ma 0), .inl (X.2.1, 371, .inl fa))]) (@HAppend.hAppend va_W va_W va_W _ ([((ma 8), .inl (X.2.1, 10, .inl ft))]) ([((ma 3), .inl (X.2.1, 3, .inl fr))])))) sz)) (A := (va_A (@HAppend.hAppend va_W va_W va_W _ (mW m0 ma la lb n t v) (@HAppend.hAppend va_W va_W va_W _ ([((ma 0), .inl (X.2.1, 371, .inl fa))]) (@HAppend.hAppend va_W va_W va_W _ ([((ma 8), .inl (X.2.1, 10, .inl ft))]) ([((ma 3), .inl (X.2.1, 3, .inl fr))])))) sz)) (cc := cX11_ask) (maxL := 7) (ret := (some .int)) (by decide) rfl (Nat.le_of_ble_eq_true rfl) k_w k_a (fun p e s m below meth c S zr zlk znm zsz G ls hl => ?_)
  have S : CallFix p m c cX11_ask 7 s _ wsX11_ask RX11 := S
  have zx := S.1
  have zb := S.2.1
  have hl : lv_has ls 7 [(0, .ref m0), (1, .int x1)] := hl
  have hO_t := hI_t
  obtain ⟨ht0_t, ht1_t⟩ := hO_t
  have hO_fa := hI_fa.2
  obtain ⟨hm0_fa, hm1_fa, hm2_fa, hm3_fa, hm4_fa⟩ := hO_fa
  refine lv_aload_n zx zb dX11_ask_0 rfl (lv_at hl 0 rfl) ?_
  refine lv_iload_n zx zb dX11_ask_1 rfl (lv_at hl 1 rfl) ?_
  refine o_ri (cells' := 0) (slots' := 0) G rfl rfl (n_V (As := [.int x1]) (rest := []) (C := RX11) (T := TX11) (N := 18) (ci := 9) S G (m_isOne l X m0 ma la lb n t v fa c0 c1 c2 c3 c4 x1 hI_n hI_t hI_fa s.heap.size) gX11_ask_X11_isOne rfl rfl rfl hdV_X11_isOne ⟨Nat.le_of_ble_eq_true rfl, Nat.le_of_ble_eq_true rfl⟩ [0, 1] rfl rfl 0 rfl rfl rfl hl.1 (Nat.le_of_ble_eq_true rfl) dX11_ask_2 ⟨Nat.le_of_ble_eq_true rfl, Nat.le_of_ble_eq_true rfl⟩) (fun r_1 u_1 H locs hp_1 G => ?_)
  have G : wd X (va_A (@HAppend.hAppend va_W va_W va_W _ (mW m0 ma la lb n t v) (@HAppend.hAppend va_W va_W va_W _ ([((ma 0), .inl (X.2.1, 371, .inl fa))]) (@HAppend.hAppend va_W va_W va_W _ ([((ma 8), .inl (X.2.1, 10, .inl ft))]) ([((ma 3), .inl (X.2.1, 3, .inl fr))])))) sz) (va_A (@HAppend.hAppend va_W va_W va_W _ (mW m0 ma la lb n t v) (@HAppend.hAppend va_W va_W va_W _ ([((ma 0), .inl (X.2.1, 371, .inl fa))]) (@HAppend.hAppend va_W va_W va_W _ ([((ma 8), .inl (X.2.1, 10, .inl ft))]) ([((ma 3), .inl (X.2.1, 3, .inl fr))])))) sz) s (@HAppend.hAppend va_W va_W va_W _ (mW m0 ma la lb n t v) (@HAppend.hAppend va_W va_W va_W _ ([((ma 0), .inl (X.2.1, 371, .inl fa))]) (@HAppend.hAppend va_W va_W va_W _ ([((ma 8), .inl (X.2.1, 10, .inl ft))]) ([((ma 3), .inl (X.2.1, 3, .inl fr))])))) H locs := G
  rcases hp_1 with ⟨rfl, hj_1⟩ | ⟨rfl, hj_1⟩
  · obtain ⟨j_1, hj_1, rfl⟩ := hj_1
    refine lv_if_ne (tgt := 15) zx zb dX11_ask_5 (by decide) (fun c_2 => ?_) (fun c_2 => absurd c_2 (by decide))
    refine lv_aload_n zx zb dX11_ask_15 rfl (lv_at hl 0 rfl) ?_
    refine lv_iload_n zx zb dX11_ask_16 rfl (lv_at hl 1 rfl) ?_
    refine o_ri (cells' := 0) (slots' := 0) G rfl rfl (n_V (As := [.int (nI j_1)]) (rest := []) (C := RX11) (T := TX11) (N := 18) (ci := 9) S G (m_kindsOfEgg l X m0 ma la lb n t v fa c0 c1 c2 c3 c4 (nI j_1) hI_n hI_t hI_fa H.size) gX11_ask_X11_kindsOfEgg rfl rfl rfl hdV_X11_kindsOfEgg ⟨Nat.le_of_ble_eq_true rfl, Nat.le_of_ble_eq_true rfl⟩ [0, 1] rfl rfl 0 rfl rfl rfl hl.1 (Nat.le_of_ble_eq_true rfl) dX11_ask_17 ⟨Nat.le_of_ble_eq_true rfl, Nat.le_of_ble_eq_true rfl⟩) (fun r_3 u_3 H locs hp_3 G => ?_)
    have G : wd X (va_A (@HAppend.hAppend va_W va_W va_W _ (mW m0 ma la lb n t v) (@HAppend.hAppend va_W va_W va_W _ ([((ma 0), .inl (X.2.1, 371, .inl fa))]) (@HAppend.hAppend va_W va_W va_W _ ([((ma 8), .inl (X.2.1, 10, .inl ft))]) ([((ma 3), .inl (X.2.1, 3, .inl fr))])))) sz) (va_A (@HAppend.hAppend va_W va_W va_W _ (mW m0 ma la lb n t v) (@HAppend.hAppend va_W va_W va_W _ ([((ma 0), .inl (X.2.1, 371, .inl fa))]) (@HAppend.hAppend va_W va_W va_W _ ([((ma 8), .inl (X.2.1, 10, .inl ft))]) ([((ma 3), .inl (X.2.1, 3, .inl fr))])))) sz) s (@HAppend.hAppend va_W va_W va_W _ (mW m0 ma la lb n t v) (@HAppend.hAppend va_W va_W va_W _ ([((ma 0), .inl (X.2.1, 371, .inl fa))]) (@HAppend.hAppend va_W va_W va_W _ ([((ma 8), .inl (X.2.1, 10, .inl ft))]) ([((ma 3), .inl (X.2.1, 3, .inl fr))])))) H locs := G
    refine lv_istore_n (lv' := [(2, .int r_3), (0, .ref m0), (1, .int (nI j_1))]) zx zb dX11_ask_20 rfl hl (by decide) rfl (fun ls hl => ?_)
    refine lv_iconst (v := (-1)) zx zb dX11_ask_21 (by decide) ?_
    refine lv_istore_n (lv' := [(3, .int (-1)), (2, .int r_3), (0, .ref m0), (1, .int (nI j_1))]) zx zb dX11_ask_22 rfl hl (by decide) rfl (fun ls hl => ?_)
    refine lv_ldc zx zb S.2.2.2.1 (S.2.2.2.2 _ mm_X11_ask_c150) dX11_ask_23 ?_
    refine lv_istore (lv' := [(4, .int 1000000), (3, .int (-1)), (2, .int r_3), (0, .ref m0), (1, .int (nI j_1))]) zx zb dX11_ask_25 hl (by decide) rfl (fun ls hl => ?_)
    refine lv_iconst (v := 0) zx zb dX11_ask_27 (by decide) ?_
    refine lv_istore (lv' := [(5, .int 0), (4, .int 1000000), (3, .int (-1)), (2, .int r_3), (0, .ref m0), (1, .int (nI j_1))]) zx zb dX11_ask_28 hl (by decide) rfl (fun ls hl => ?_)
    refine k_loop (P := ∀ (zm : Nat) (k30 : Nat) (x30_4 : Int32) (x30_3 : Int32) (f30_2 : Nat → Int32) (H : Heap) (locs : List Loc) (ls : Array Slot), 20 + 1 ≤ k30 + zm → (k30 ≤ 20) → wd X (va_A (@HAppend.hAppend va_W va_W va_W _ (mW m0 ma la lb n t v) (@HAppend.hAppend va_W va_W va_W _ ([((ma 0), .inl (X.2.1, 371, .inl fa))]) (@HAppend.hAppend va_W va_W va_W _ ([((ma 8), .inl (X.2.1, 10, .inl ft))]) ([((ma 3), .inl (X.2.1, 3, .inl fr))])))) sz) (va_A (@HAppend.hAppend va_W va_W va_W _ (mW m0 ma la lb n t v) (@HAppend.hAppend va_W va_W va_W _ ([((ma 0), .inl (X.2.1, 371, .inl fa))]) (@HAppend.hAppend va_W va_W va_W _ ([((ma 8), .inl (X.2.1, 10, .inl ft))]) ([((ma 3), .inl (X.2.1, 3, .inl fr))])))) sz) s (@HAppend.hAppend va_W va_W va_W _ (mW m0 ma la lb n t v) (@HAppend.hAppend va_W va_W va_W _ ([((ma 0), .inl (X.2.1, 371, .inl fa))]) (@HAppend.hAppend va_W va_W va_W _ ([((ma 8), .inl (X.2.1, 10, .inl f30_2))]) ([((ma 3), .inl (X.2.1, 3, .inl fr))])))) H locs → lv_has ls 7 [(5, .int (nI k30)), (4, .int x30_4), (3, .int x30_3), (2, .int r_3), (0, .ref m0), (1, .int (nI j_1))] → W p l e _ s m _ below meth c H locs _ _ _ (F0 m 30 ls [])) (fun loop => loop (20 + 1) 0 1000000 (-1) ft _ _ _ (by omega) (by omega) G hl) ?_
    intro zm
    induction zm with
    | zero => intro k30 x30_4 x30_3 f30_2 H locs ls zz q_hk_k30 _ _; exact absurd zz (by omega)
    | succ zm ih30 =>
      intro k30 x30_4 x30_3 f30_2 H locs ls zm_30 hk_k30 G hl
      refine lv_iload zx zb dX11_ask_30 (lv_at hl 0 rfl) ?_
      refine lv_bipush (v := 20) zx zb dX11_ask_32 (by decide) ?_
      refine k_cutW (PP := fun Wx => ∀ (H : Heap) (locs : List Loc) (ls : Array Slot), wd X (va_A (@HAppend.hAppend va_W va_W va_W _ (mW m0 ma la lb n t v) (@HAppend.hAppend va_W va_W va_W _ ([((ma 0), .inl (X.2.1, 371, .inl fa))]) (@HAppend.hAppend va_W va_W va_W _ ([((ma 8), .inl (X.2.1, 10, .inl ft))]) ([((ma 3), .inl (X.2.1, 3, .inl fr))])))) sz) (va_A (@HAppend.hAppend va_W va_W va_W _ (mW m0 ma la lb n t v) (@HAppend.hAppend va_W va_W va_W _ ([((ma 0), .inl (X.2.1, 371, .inl fa))]) (@HAppend.hAppend va_W va_W va_W _ ([((ma 8), .inl (X.2.1, 10, .inl ft))]) ([((ma 3), .inl (X.2.1, 3, .inl fr))])))) sz) s (@HAppend.hAppend va_W va_W va_W _ (mW m0 ma la lb n t v) (@HAppend.hAppend va_W va_W va_W _ ([((ma 0), .inl (X.2.1, 371, .inl fa))]) (@HAppend.hAppend va_W va_W va_W _ ([((ma 8), .inl (X.2.1, 10, .inl f30_2))]) ([((ma 3), .inl (X.2.1, 3, .inl fr))])))) H locs → lv_has ls 7 [(5, .int (nI k30)), (4, .int x30_4), (3, .int x30_3), (2, .int r_3), (0, .ref m0), (1, .int (nI j_1))] → Wx (F0 m 114 ls []) H locs) ?_ ?_
      · intro join_34
        refine lv_icmp_ge (tgt := 114) zx zb dX11_ask_34 (by decide) (fun c_4 => ?_) (fun c_4 => ?_)
        · have fc_4 := j_le (a := 20) (b := k30) (by omega) (by omega) c_4
          exact join_34  _ _ _  G hl
        · have fc_4 := j_nle (a := 20) (b := k30) (by omega) (by omega) c_4
          refine lv_iload_n zx zb dX11_ask_37 rfl (lv_at hl 3 rfl) ?_
          refine lv_if_le (tgt := 114) zx zb dX11_ask_38 (by decide) (fun c_5 => ?_) (fun c_5 => ?_)
          · exact join_34  _ _ _  G hl
          · refine lv_iconst (v := 0) zx zb dX11_ask_41 (by decide) ?_
            refine lv_istore (lv' := [(6, .int 0), (5, .int (nI k30)), (4, .int x30_4), (3, .int x30_3), (2, .int r_3), (0, .ref m0), (1, .int (nI j_1))]) zx zb dX11_ask_42 hl (by decide) rfl (fun ls hl => ?_)
            refine k_loop (P := ∀ (zm : Nat) (k44 : Nat) (f44_2 : Nat → Int32) (H : Heap) (locs : List Loc) (ls : Array Slot), 6 + 1 ≤ k44 + zm → (k44 ≤ 6) → wd X (va_A (@HAppend.hAppend va_W va_W va_W _ (mW m0 ma la lb n t v) (@HAppend.hAppend va_W va_W va_W _ ([((ma 0), .inl (X.2.1, 371, .inl fa))]) (@HAppend.hAppend va_W va_W va_W _ ([((ma 8), .inl (X.2.1, 10, .inl ft))]) ([((ma 3), .inl (X.2.1, 3, .inl fr))])))) sz) (va_A (@HAppend.hAppend va_W va_W va_W _ (mW m0 ma la lb n t v) (@HAppend.hAppend va_W va_W va_W _ ([((ma 0), .inl (X.2.1, 371, .inl fa))]) (@HAppend.hAppend va_W va_W va_W _ ([((ma 8), .inl (X.2.1, 10, .inl ft))]) ([((ma 3), .inl (X.2.1, 3, .inl fr))])))) sz) s (@HAppend.hAppend va_W va_W va_W _ (mW m0 ma la lb n t v) (@HAppend.hAppend va_W va_W va_W _ ([((ma 0), .inl (X.2.1, 371, .inl fa))]) (@HAppend.hAppend va_W va_W va_W _ ([((ma 8), .inl (X.2.1, 10, .inl f44_2))]) ([((ma 3), .inl (X.2.1, 3, .inl fr))])))) H locs → lv_has ls 7 [(6, .int (nI k44)), (5, .int (nI k30)), (4, .int x30_4), (3, .int x30_3), (2, .int r_3), (0, .ref m0), (1, .int (nI j_1))] → W p l e _ s m _ below meth c H locs _ _ _ (F0 m 44 ls [])) (fun loop => loop (6 + 1) 0 f30_2 _ _ _ (by omega) (by omega) G hl) ?_
            intro zm
            induction zm with
            | zero => intro k44 f44_2 H locs ls zz q_hk_k44 _ _; exact absurd zz (by omega)
            | succ zm ih44 =>
              intro k44 f44_2 H locs ls zm_44 hk_k44 G hl
              refine lv_iload zx zb dX11_ask_44 (lv_at hl 0 rfl) ?_
              refine lv_bipush (v := 6) zx zb dX11_ask_46 (by decide) ?_
              refine lv_icmp_ge (tgt := 71) zx zb dX11_ask_48 (by decide) (fun c_6 => ?_) (fun c_6 => ?_)
              · have fc_6 := j_le (a := 6) (b := k44) (by omega) (by omega) c_6
                refine lv_aload_n zx zb dX11_ask_71 rfl (lv_at hl 5 rfl) ?_
                refine lv_iload_n zx zb dX11_ask_72 rfl (lv_at hl 4 rfl) ?_
                refine o_ri (cells' := 0) (slots' := 0) G rfl rfl (n_V (As := [.int r_3]) (rest := []) (C := RX11) (T := TX11) (N := 18) (ci := 9) S G (m_mostAlike l X m0 ma la lb n t v f44_2 r_3 hI_n hI_t H.size) gX11_ask_X11_mostAlike rfl rfl rfl hdV_X11_mostAlike ⟨Nat.le_of_ble_eq_true rfl, Nat.le_of_ble_eq_true rfl⟩ [0, 2] rfl rfl 0 rfl rfl rfl hl.1 (Nat.le_of_ble_eq_true rfl) dX11_ask_73 ⟨Nat.le_of_ble_eq_true rfl, Nat.le_of_ble_eq_true rfl⟩) (fun r_7 u_7 H locs hp_7 G => ?_)
                have G : wd X (va_A (@HAppend.hAppend va_W va_W va_W _ (mW m0 ma la lb n t v) (@HAppend.hAppend va_W va_W va_W _ ([((ma 0), .inl (X.2.1, 371, .inl fa))]) (@HAppend.hAppend va_W va_W va_W _ ([((ma 8), .inl (X.2.1, 10, .inl ft))]) ([((ma 3), .inl (X.2.1, 3, .inl fr))])))) sz) (va_A (@HAppend.hAppend va_W va_W va_W _ (mW m0 ma la lb n t v) (@HAppend.hAppend va_W va_W va_W _ ([((ma 0), .inl (X.2.1, 371, .inl fa))]) (@HAppend.hAppend va_W va_W va_W _ ([((ma 8), .inl (X.2.1, 10, .inl ft))]) ([((ma 3), .inl (X.2.1, 3, .inl fr))])))) sz) s (@HAppend.hAppend va_W va_W va_W _ (mW m0 ma la lb n t v) (@HAppend.hAppend va_W va_W va_W _ ([((ma 0), .inl (X.2.1, 371, .inl fa))]) (@HAppend.hAppend va_W va_W va_W _ ([((ma 8), .inl (X.2.1, 10, .inl f44_2))]) ([((ma 3), .inl (X.2.1, 3, .inl fr))])))) H locs := G
                refine lv_istore (lv' := [(6, .int r_7), (5, .int (nI k30)), (4, .int x30_4), (3, .int x30_3), (2, .int r_3), (0, .ref m0), (1, .int (nI j_1))]) zx zb dX11_ask_76 hl (by decide) rfl (fun ls hl => ?_)
                refine lv_iload zx zb dX11_ask_78 (lv_at hl 0 rfl) ?_
                refine lv_iload zx zb dX11_ask_80 (lv_at hl 2 rfl) ?_
                refine k_cutW (PP := fun Wx => ∀ (x_9 : Int32) (H : Heap) (locs : List Loc) (ls : Array Slot), wd X (va_A (@HAppend.hAppend va_W va_W va_W _ (mW m0 ma la lb n t v) (@HAppend.hAppend va_W va_W va_W _ ([((ma 0), .inl (X.2.1, 371, .inl fa))]) (@HAppend.hAppend va_W va_W va_W _ ([((ma 8), .inl (X.2.1, 10, .inl ft))]) ([((ma 3), .inl (X.2.1, 3, .inl fr))])))) sz) (va_A (@HAppend.hAppend va_W va_W va_W _ (mW m0 ma la lb n t v) (@HAppend.hAppend va_W va_W va_W _ ([((ma 0), .inl (X.2.1, 371, .inl fa))]) (@HAppend.hAppend va_W va_W va_W _ ([((ma 8), .inl (X.2.1, 10, .inl ft))]) ([((ma 3), .inl (X.2.1, 3, .inl fr))])))) sz) s (@HAppend.hAppend va_W va_W va_W _ (mW m0 ma la lb n t v) (@HAppend.hAppend va_W va_W va_W _ ([((ma 0), .inl (X.2.1, 371, .inl fa))]) (@HAppend.hAppend va_W va_W va_W _ ([((ma 8), .inl (X.2.1, 10, .inl f44_2))]) ([((ma 3), .inl (X.2.1, 3, .inl fr))])))) H locs → lv_has ls 7 [(6, .int r_7), (5, .int (nI k30)), (4, .int x30_4), (3, .int x30_3), (2, .int r_3), (0, .ref m0), (1, .int (nI j_1))] → Wx (F0 m 91 ls [.int x_9]) H locs) ?_ ?_
                · intro join_82
                  refine lv_icmp_ge (tgt := 90) zx zb dX11_ask_82 (by decide) (fun c_8 => ?_) (fun c_8 => ?_)
                  · refine lv_iload_n zx zb dX11_ask_90 rfl (lv_at hl 3 rfl) ?_
                    exact join_82 x30_3 _ _ _  G hl
                  · refine lv_iload zx zb dX11_ask_85 (lv_at hl 1 rfl) ?_
                    refine lv_goto (tgt := 91) zx zb dX11_ask_87 (by decide) ?_
                    exact join_82 (nI k30) _ _ _  G hl
                · intro x_9 H locs ls  G hl
                  refine lv_istore_n (lv' := [(3, .int x_9), (6, .int r_7), (5, .int (nI k30)), (4, .int x30_4), (2, .int r_3), (0, .ref m0), (1, .int (nI j_1))]) zx zb dX11_ask_91 rfl hl (by decide) rfl (fun ls hl => ?_)
                  refine lv_iload zx zb dX11_ask_92 (lv_at hl 1 rfl) ?_
                  refine lv_iload zx zb dX11_ask_94 (lv_at hl 3 rfl) ?_
                  refine k_cutW (PP := fun Wx => ∀ (x_11 : Int32) (H : Heap) (locs : List Loc) (ls : Array Slot), wd X (va_A (@HAppend.hAppend va_W va_W va_W _ (mW m0 ma la lb n t v) (@HAppend.hAppend va_W va_W va_W _ ([((ma 0), .inl (X.2.1, 371, .inl fa))]) (@HAppend.hAppend va_W va_W va_W _ ([((ma 8), .inl (X.2.1, 10, .inl ft))]) ([((ma 3), .inl (X.2.1, 3, .inl fr))])))) sz) (va_A (@HAppend.hAppend va_W va_W va_W _ (mW m0 ma la lb n t v) (@HAppend.hAppend va_W va_W va_W _ ([((ma 0), .inl (X.2.1, 371, .inl fa))]) (@HAppend.hAppend va_W va_W va_W _ ([((ma 8), .inl (X.2.1, 10, .inl ft))]) ([((ma 3), .inl (X.2.1, 3, .inl fr))])))) sz) s (@HAppend.hAppend va_W va_W va_W _ (mW m0 ma la lb n t v) (@HAppend.hAppend va_W va_W va_W _ ([((ma 0), .inl (X.2.1, 371, .inl fa))]) (@HAppend.hAppend va_W va_W va_W _ ([((ma 8), .inl (X.2.1, 10, .inl f44_2))]) ([((ma 3), .inl (X.2.1, 3, .inl fr))])))) H locs → lv_has ls 7 [(3, .int x_9), (6, .int r_7), (5, .int (nI k30)), (4, .int x30_4), (2, .int r_3), (0, .ref m0), (1, .int (nI j_1))] → Wx (F0 m 106 ls [.int x_11]) H locs) ?_ ?_
                  · intro join_96
                    refine lv_icmp_ge (tgt := 104) zx zb dX11_ask_96 (by decide) (fun c_10 => ?_) (fun c_10 => ?_)
                    · refine lv_iload zx zb dX11_ask_104 (lv_at hl 3 rfl) ?_
                      exact join_96 x30_4 _ _ _  G hl
                    · refine lv_iload zx zb dX11_ask_99 (lv_at hl 1 rfl) ?_
                      refine lv_goto (tgt := 106) zx zb dX11_ask_101 (by decide) ?_
                      exact join_96 r_7 _ _ _  G hl
                  · intro x_11 H locs ls  G hl
                    refine lv_istore (lv' := [(4, .int x_11), (3, .int x_9), (6, .int r_7), (5, .int (nI k30)), (2, .int r_3), (0, .ref m0), (1, .int (nI j_1))]) zx zb dX11_ask_106 hl (by decide) rfl (fun ls hl => ?_)
                    refine lv_iinc (v := (nI (k30 + 1))) (lv' := [(5, .int (nI (k30 + 1))), (4, .int x_11), (3, .int x_9), (6, .int r_7), (2, .int r_3), (0, .ref m0), (1, .int (nI j_1))]) zx zb dX11_ask_108 hl (k := 3) rfl (nI_add k30 1) (by decide) rfl (fun ls hl => ?_)
                    refine lv_goto (tgt := 30) zx zb dX11_ask_111 (by decide) ?_
                    have hl := lv_sub hl (l' := [(5, .int (nI (k30 + 1))), (4, .int x_11), (3, .int x_9), (2, .int r_3), (0, .ref m0), (1, .int (nI j_1))]) [0, 1, 2, 4, 5, 6] rfl
                    exact ih30 (k30 + 1) x_11 x_9 f44_2 _ _ _ (by omega) (by omega) G hl
              · have fc_6 := j_nle (a := 6) (b := k44) (by omega) (by omega) c_6
                refine lv_aload_n zx zb dX11_ask_51 rfl (lv_at hl 5 rfl) ?_
                refine r_get (C := RX11) (T := TX11) (N := 18) (ci := 9) (v := .ref (ma 8)) S in_X11_ask_X11 G 0 rfl rfl 8 (by decide) lk_X11_ask_33 rfl dX11_ask_52 ?_
                refine lv_iload zx zb dX11_ask_55 (lv_at hl 0 rfl) ?_
                refine lv_iload zx zb dX11_ask_57 (lv_at hl 0 rfl) ?_
                refine lv_iload zx zb dX11_ask_59 (lv_at hl 1 rfl) ?_
                refine o_ri (cells' := 0) (slots' := 0) G rfl rfl (n_S (As := [.int (nI k44), .int (nI k30)]) (rest := [.int (nI k44), .ref (ma 8)]) S G (m_mayAs l X (nI k44) (nI k30) H.size) gX11_ask_X11_mayAs rfl rfl rfl hdS_X11_mayAs ⟨Nat.le_of_ble_eq_true rfl, Nat.le_of_ble_eq_true rfl⟩ [] rfl rfl rfl hl.1 (Nat.le_of_ble_eq_true rfl) dX11_ask_61 ⟨Nat.le_of_ble_eq_true rfl, Nat.le_of_ble_eq_true rfl⟩) (fun r_12 u_12 H locs hp_12 G => ?_)
                have G : wd X (va_A (@HAppend.hAppend va_W va_W va_W _ (mW m0 ma la lb n t v) (@HAppend.hAppend va_W va_W va_W _ ([((ma 0), .inl (X.2.1, 371, .inl fa))]) (@HAppend.hAppend va_W va_W va_W _ ([((ma 8), .inl (X.2.1, 10, .inl ft))]) ([((ma 3), .inl (X.2.1, 3, .inl fr))])))) sz) (va_A (@HAppend.hAppend va_W va_W va_W _ (mW m0 ma la lb n t v) (@HAppend.hAppend va_W va_W va_W _ ([((ma 0), .inl (X.2.1, 371, .inl fa))]) (@HAppend.hAppend va_W va_W va_W _ ([((ma 8), .inl (X.2.1, 10, .inl ft))]) ([((ma 3), .inl (X.2.1, 3, .inl fr))])))) sz) s (@HAppend.hAppend va_W va_W va_W _ (mW m0 ma la lb n t v) (@HAppend.hAppend va_W va_W va_W _ ([((ma 0), .inl (X.2.1, 371, .inl fa))]) (@HAppend.hAppend va_W va_W va_W _ ([((ma 8), .inl (X.2.1, 10, .inl f44_2))]) ([((ma 3), .inl (X.2.1, 3, .inl fr))])))) H locs := G
                refine r_iast S G 2 rfl (vp_in_nI (by omega) (by decide)) dX11_ask_64 (fun H locs G => ?_)
                obtain ⟨f_13, G⟩ : ∃ f_13 : Nat → Int32, wd X (va_A (@HAppend.hAppend va_W va_W va_W _ (mW m0 ma la lb n t v) (@HAppend.hAppend va_W va_W va_W _ ([((ma 0), .inl (X.2.1, 371, .inl fa))]) (@HAppend.hAppend va_W va_W va_W _ ([((ma 8), .inl (X.2.1, 10, .inl ft))]) ([((ma 3), .inl (X.2.1, 3, .inl fr))])))) sz) (va_A (@HAppend.hAppend va_W va_W va_W _ (mW m0 ma la lb n t v) (@HAppend.hAppend va_W va_W va_W _ ([((ma 0), .inl (X.2.1, 371, .inl fa))]) (@HAppend.hAppend va_W va_W va_W _ ([((ma 8), .inl (X.2.1, 10, .inl ft))]) ([((ma 3), .inl (X.2.1, 3, .inl fr))])))) sz) s (@HAppend.hAppend va_W va_W va_W _ (mW m0 ma la lb n t v) (@HAppend.hAppend va_W va_W va_W _ ([((ma 0), .inl (X.2.1, 371, .inl fa))]) (@HAppend.hAppend va_W va_W va_W _ ([((ma 8), .inl (X.2.1, 10, .inl f_13))]) ([((ma 3), .inl (X.2.1, 3, .inl fr))])))) H locs := ⟨_, G⟩
                refine lv_iinc (v := (nI (k44 + 1))) (lv' := [(6, .int (nI (k44 + 1))), (5, .int (nI k30)), (4, .int x30_4), (3, .int x30_3), (2, .int r_3), (0, .ref m0), (1, .int (nI j_1))]) zx zb dX11_ask_65 hl (k := 0) rfl (nI_add k44 1) (by decide) rfl (fun ls hl => ?_)
                refine lv_goto (tgt := 44) zx zb dX11_ask_68 (by decide) ?_
                exact ih44 (k44 + 1) f_13 _ _ _ (by omega) (by omega) G hl
      · intro  H locs ls  G hl
        refine lv_iload_n zx zb dX11_ask_114 rfl (lv_at hl 2 rfl) ?_
        exact e_int S zr zlk (vp_nar_int _) G (f30_2, fr) [0, 1, 2, 3] rfl rfl (Or.inr rfl) (trivial) dX11_ask_115
  · refine lv_if_ne (tgt := 15) zx zb dX11_ask_5 (by decide) (fun c_14 => absurd (by decide) c_14) (fun c_14 => ?_)
    refine lv_aload_n zx zb dX11_ask_8 rfl (lv_at hl 0 rfl) ?_
    refine lv_bipush (v := (-2)) zx zb dX11_ask_9 (by decide) ?_
    refine b_wi (cells' := 0) (slots' := 0) (wr := @HAppend.hAppend va_W va_W va_W _ ([((ma 0), .inl (X.2.1, 371, .inl fa))]) ([((ma 8), .inl (X.2.1, 10, .inl ft))])) G rfl rfl [0, 3] [1, 2] rfl rfl rfl rfl (n_V (As := [.int (-2)]) (rest := []) (C := RX11) (T := TX11) (N := 18) (ci := 9) S G (m_bad l X m0 ma la lb n t v fr (-2) hI_n hI_t H.size) gX11_ask_X11_bad rfl rfl rfl hdV_X11_bad ⟨Nat.le_of_ble_eq_true rfl, Nat.le_of_ble_eq_true rfl⟩ [0, 3] rfl rfl 0 rfl rfl rfl hl.1 (Nat.le_of_ble_eq_true rfl) dX11_ask_11 ⟨Nat.le_of_ble_eq_true rfl, Nat.le_of_ble_eq_true rfl⟩) (fun r_15 u_15 H locs hp_15 G => ?_)
    obtain ⟨f_15, rfl⟩ : ∃ z, z = u_15 := ⟨_, rfl⟩
    have hq_15 := hp_15
    have G : wd X (va_A (@HAppend.hAppend va_W va_W va_W _ (mW m0 ma la lb n t v) (@HAppend.hAppend va_W va_W va_W _ ([((ma 0), .inl (X.2.1, 371, .inl fa))]) (@HAppend.hAppend va_W va_W va_W _ ([((ma 8), .inl (X.2.1, 10, .inl ft))]) ([((ma 3), .inl (X.2.1, 3, .inl fr))])))) sz) (va_A (@HAppend.hAppend va_W va_W va_W _ (mW m0 ma la lb n t v) (@HAppend.hAppend va_W va_W va_W _ ([((ma 0), .inl (X.2.1, 371, .inl fa))]) (@HAppend.hAppend va_W va_W va_W _ ([((ma 8), .inl (X.2.1, 10, .inl ft))]) ([((ma 3), .inl (X.2.1, 3, .inl fr))])))) sz) s (@HAppend.hAppend va_W va_W va_W _ ([((ma 0), .inl (X.2.1, 371, .inl fa))]) (@HAppend.hAppend va_W va_W va_W _ ([((ma 8), .inl (X.2.1, 10, .inl ft))]) (@HAppend.hAppend va_W va_W va_W _ (mW m0 ma la lb n t v) ([((ma 3), .inl (X.2.1, 3, .inl f_15))])))) H locs := G
    obtain rfl := hq_15
    exact e_int S zr zlk (vp_nar_int _) G (ft, f_15) [2, 0, 1, 3] rfl rfl (Or.inr rfl) (trivial) dX11_ask_14
theorem mm_X11_forget_c156 : Cond.constantLong RX11 156 (2) ∈ wsX11_forget := by decide +kernel
theorem in_X11_forget_X11 : ∀ w ∈ wsX110, w ∈ wsX11_forget := by decide +kernel
theorem lk_X11_forget_7 : Cond.fieldLink RX11 7 "EggSpoonsModel" "all" "[I" ∈ wsX11_forget := by decide +kernel
set_option maxHeartbeats 4000000 in
set_option maxRecDepth 100000 in
/-- getsBy -/
theorem m_getsBy (l : Launch) (X : EX) (m0 : Nat) (ma : Nat → Nat) (la : Int64) (lb : Int64) (n : Nat) (t : Nat → Nat) (v : Nat → Int32) (x1 : Int32) (x2 : Int32) (x3 : Int32) (hI_n : n ≤ 150) (hI_t : InT t) (sz : Nat) : Met l yX11_getsBy wsX11_getsBy ({ frames := 0, cells := 0, slots := 0, locals := 0 } : Room) (pE X [.ref m0, .int x1, .int x2, .int x3] (mW m0 ma la lb n t v) sz) (qI (fun (r : Int32) (u : Unit) => True) X (fun (u : Unit) => []) [] sz) 0 0 (va_A [] sz) := by
  refine mk_met (B := (fun _ => True)) (A := (va_A [] sz)) (cc := cX11_getsBy) (maxL := 4) (ret := (some .int)) (by decide) rfl (Nat.le_of_ble_eq_true rfl) k_ro k_a (fun p e s m below meth c S zr zlk znm zsz G ls hl => ?_)
  have S : CallFix p m c cX11_getsBy 4 s _ wsX11_getsBy RX11 := S
  have zx := S.1
  have zb := S.2.1
  have hl : lv_has ls 4 [(0, .ref m0), (1, .int x1), (2, .int x2), (3, .int x3)] := hl
  have hO_t := hI_t
  obtain ⟨ht0_t, ht1_t⟩ := hO_t
  refine lv_iload_n zx zb dX11_getsBy_0 rfl (lv_at hl 2 rfl) ?_
  refine lv_iload_n zx zb dX11_getsBy_1 rfl (lv_at hl 1 rfl) ?_
  refine r_isub (v := (x2 - x1)) S rfl dX11_getsBy_2 ?_
  refine lv_iload_n zx zb dX11_getsBy_3 rfl (lv_at hl 2 rfl) ?_
  refine lv_iload_n zx zb dX11_getsBy_4 rfl (lv_at hl 3 rfl) ?_
  refine k_cutW (PP := fun Wx => ∀ (x_2 : Int32) (H : Heap) (locs : List Loc) (ls : Array Slot), wd X (fun _ => True) (va_A [] sz) s (mW m0 ma la lb n t v) H locs → lv_has ls 4 [(0, .ref m0), (1, .int x1), (2, .int x2), (3, .int x3)] → Wx (F0 m 13 ls [.int x_2, .int (x2 - x1)]) H locs) ?_ ?_
  · intro join_5
    refine lv_icmp_le (tgt := 12) zx zb dX11_getsBy_5 (by decide) (fun c_1 => ?_) (fun c_1 => ?_)
    · refine lv_iconst (v := 0) zx zb dX11_getsBy_12 (by decide) ?_
      exact join_5 0 _ _ _  G hl
    · refine lv_iconst (v := 3) zx zb dX11_getsBy_8 (by decide) ?_
      refine lv_goto (tgt := 13) zx zb dX11_getsBy_9 (by decide) ?_
      exact join_5 3 _ _ _  G hl
  · intro x_2 H locs ls  G hl
    refine r_iadd (v := ((x2 - x1) + x_2)) S rfl dX11_getsBy_13 ?_
    exact e_int S zr zlk (vp_nar_int _) G () [] rfl rfl (Or.inl rfl) (trivial) dX11_getsBy_14
theorem in_X11_rests_X11 : ∀ w ∈ wsX110, w ∈ wsX11_rests := by decide +kernel
theorem lk_X11_rests_36 : Cond.fieldLink RX11 36 "EggSpoonsModel" "behindBy" "[I" ∈ wsX11_rests := by decide +kernel
theorem lk_X11_rests_7 : Cond.fieldLink RX11 7 "EggSpoonsModel" "all" "[I" ∈ wsX11_rests := by decide +kernel
theorem hdV_X11_getsBy : yX11_getsBy.cls = RX11 ∧ yX11_getsBy.cls ≠ "java/lang/invoke/MethodHandle" ∧ yX11_getsBy.cls ≠ "java/lang/invoke/VarHandle" ∧ (parseMethodDescriptor yX11_getsBy.desc).map (fun d => d.parameters.length) = some 3 := by decide +kernel
set_option maxHeartbeats 4000000 in
set_option maxRecDepth 100000 in
/-- rests -/
theorem m_rests (l : Launch) (X : EX) (m0 : Nat) (ma : Nat → Nat) (la : Int64) (lb : Int64) (n : Nat) (t : Nat → Nat) (v : Nat → Int32) (fa : Nat → Int32) (c0 : Nat) (c1 : Nat) (c2 : Nat) (c3 : Nat) (c4 : Nat) (fb : Nat → Int32) (i : Nat) (j : Nat) (u : Nat) (w : Nat) (hI_n : n ≤ 150) (hI_t : InT t) (hI_fa : InA fa c0 c1 c2 c3 c4) (h6 : i < 6) (hj : j < 6) (hu : u < 10) (hw : w < 10) (sz : Nat) : Met l yX11_rests wsX11_rests ({ frames := 1, cells := 0, slots := 0, locals := 23 } : Room) (pE X [.ref m0, .int (nI i), .int (nI j), .int (nI u), .int (nI w)] (@HAppend.hAppend va_W va_W va_W _ (mW m0 ma la lb n t v) (@HAppend.hAppend va_W va_W va_W _ ([((ma 0), .inl (X.2.1, 371, .inl fa))]) ([((ma 9), .inl (X.2.1, 20, .inl fb))]))) sz) (qI (fun (r : Int32) (u : Unit) => r = 0 ∨ r = 1) X (fun (u : Unit) => []) [] sz) 0 0 (va_A [] sz) := by
  refine mk_met (B := (fun _ => True)) (A := (va_A [] sz)) (cc := cX11_rests) (maxL := 9) (ret := (some .boolean)) (by decide) rfl (Nat.le_of_ble_eq_true rfl) k_ro k_a (fun p e s m below meth c S zr zlk znm zsz G ls hl => ?_)
  have S : CallFix p m c cX11_rests 9 s _ wsX11_rests RX11 := S
  have zx := S.1
  have zb := S.2.1
  have hl : lv_has ls 9 [(0, .ref m0), (1, .int (nI i)), (2, .int (nI j)), (3, .int (nI u)), (4, .int (nI w))] := hl
  have hO_t := hI_t
  obtain ⟨ht0_t, ht1_t⟩ := hO_t
  have hO_fa := hI_fa.2
  obtain ⟨hm0_fa, hm1_fa, hm2_fa, hm3_fa, hm4_fa⟩ := hO_fa
  refine lv_iconst (v := 1) zx zb dX11_rests_0 (by decide) ?_
  refine lv_istore (lv' := [(5, .int 1), (0, .ref m0), (1, .int (nI i)), (2, .int (nI j)), (3, .int (nI u)), (4, .int (nI w))]) zx zb dX11_rests_1 hl (by decide) rfl (fun ls hl => ?_)
  refine lv_aload_n zx zb dX11_rests_3 rfl (lv_at hl 1 rfl) ?_
  refine r_get (C := RX11) (T := TX11) (N := 18) (ci := 9) (v := .ref (ma 9)) S in_X11_rests_X11 G 0 rfl rfl 9 (by decide) lk_X11_rests_36 rfl dX11_rests_4 ?_
  refine lv_iload_n zx zb dX11_rests_7 rfl (lv_at hl 4 rfl) ?_
  refine r_iald S G 2 rfl (vp_in_nI (by omega) (by decide)) rfl dX11_rests_8 ?_
  refine k_itE (fun y_1 => ?_)
  refine lv_istore (lv' := [(6, .int y_1), (5, .int 1), (0, .ref m0), (1, .int (nI i)), (2, .int (nI j)), (3, .int (nI u)), (4, .int (nI w))]) zx zb dX11_rests_9 hl (by decide) rfl (fun ls hl => ?_)
  refine lv_aload_n zx zb dX11_rests_11 rfl (lv_at hl 2 rfl) ?_
  refine r_get (C := RX11) (T := TX11) (N := 18) (ci := 9) (v := .ref (ma 9)) S in_X11_rests_X11 G 0 rfl rfl 9 (by decide) lk_X11_rests_36 rfl dX11_rests_12 ?_
  refine lv_bipush (v := 10) zx zb dX11_rests_15 (by decide) ?_
  refine lv_iload zx zb dX11_rests_17 (lv_at hl 6 rfl) ?_
  refine r_iadd (v := (nI (10 + w))) S (nI_add 10 w) dX11_rests_19 ?_
  refine r_iald S G 2 rfl (vp_in_nI (by omega) (by decide)) rfl dX11_rests_20 ?_
  refine k_itE (fun y_2 => ?_)
  refine lv_istore (lv' := [(7, .int y_2), (6, .int y_1), (5, .int 1), (0, .ref m0), (1, .int (nI i)), (2, .int (nI j)), (3, .int (nI u)), (4, .int (nI w))]) zx zb dX11_rests_21 hl (by decide) rfl (fun ls hl => ?_)
  refine lv_iconst (v := 0) zx zb dX11_rests_23 (by decide) ?_
  refine lv_istore (lv' := [(8, .int 0), (7, .int y_2), (6, .int y_1), (5, .int 1), (0, .ref m0), (1, .int (nI i)), (2, .int (nI j)), (3, .int (nI u)), (4, .int (nI w))]) zx zb dX11_rests_24 hl (by decide) rfl (fun ls hl => ?_)
  refine k_loop (P := ∀ (zm : Nat) (k26 : Nat) (x26_5 : Int32) (H : Heap) (locs : List Loc) (ls : Array Slot), 10 + 1 ≤ k26 + zm → (k26 ≤ 10) → (x26_5 = 0 ∨ x26_5 = 1) → wd X (fun _ => True) (va_A [] sz) s (@HAppend.hAppend va_W va_W va_W _ (mW m0 ma la lb n t v) (@HAppend.hAppend va_W va_W va_W _ ([((ma 0), .inl (X.2.1, 371, .inl fa))]) ([((ma 9), .inl (X.2.1, 20, .inl fb))]))) H locs → lv_has ls 9 [(8, .int (nI k26)), (7, .int y_2), (6, .int y_1), (5, .int x26_5), (0, .ref m0), (1, .int (nI i)), (2, .int (nI j)), (3, .int (nI u)), (4, .int (nI w))] → W p l e _ s m _ below meth c H locs _ _ _ (F0 m 26 ls [])) (fun loop => loop (10 + 1) 0 1 _ _ _ (by omega) (by omega) (by first | assumption | exact Or.inl rfl | exact Or.inr rfl) G hl) ?_
  intro zm
  induction zm with
  | zero => intro k26 x26_5 H locs ls zz q_hk_k26 q_hk_x26_5 _ _; exact absurd zz (by omega)
  | succ zm ih26 =>
    intro k26 x26_5 H locs ls zm_26 hk_k26 hk_x26_5 G hl
    refine lv_iload zx zb dX11_rests_26 (lv_at hl 0 rfl) ?_
    refine lv_bipush (v := 10) zx zb dX11_rests_28 (by decide) ?_
    refine lv_icmp_ge (tgt := 134) zx zb dX11_rests_30 (by decide) (fun c_3 => ?_) (fun c_3 => ?_)
    · have fc_3 := j_le (a := 10) (b := k26) (by omega) (by omega) c_3
      refine lv_iload zx zb dX11_rests_134 (lv_at hl 3 rfl) ?_
      exact e_int S zr zlk (k_nb (by assumption)) G () [] rfl rfl (Or.inl rfl) (by assumption) dX11_rests_136
    · have fc_3 := j_nle (a := 10) (b := k26) (by omega) (by omega) c_3
      refine lv_iload zx zb dX11_rests_33 (lv_at hl 3 rfl) ?_
      refine k_cutW (PP := fun Wx => ∀ (x_5 : Int32) (H : Heap) (locs : List Loc) (ls : Array Slot), (x_5 = 0 ∨ x_5 = 1) → wd X (fun _ => True) (va_A [] sz) s (@HAppend.hAppend va_W va_W va_W _ (mW m0 ma la lb n t v) (@HAppend.hAppend va_W va_W va_W _ ([((ma 0), .inl (X.2.1, 371, .inl fa))]) ([((ma 9), .inl (X.2.1, 20, .inl fb))]))) H locs → lv_has ls 9 [(8, .int (nI k26)), (7, .int y_2), (6, .int y_1), (5, .int x26_5), (0, .ref m0), (1, .int (nI i)), (2, .int (nI j)), (3, .int (nI u)), (4, .int (nI w))] → Wx (F0 m 126 ls [.int x_5]) H locs) ?_ ?_
      · intro join_35
        refine lv_if_eq (tgt := 125) zx zb dX11_rests_35 (by decide) (fun c_4 => ?_) (fun c_4 => ?_)
        · refine lv_iconst (v := 0) zx zb dX11_rests_125 (by decide) ?_
          exact join_35 0 _ _ _ (by first | assumption | exact Or.inl rfl | exact Or.inr rfl) G hl
        · refine lv_aload_n zx zb dX11_rests_38 rfl (lv_at hl 4 rfl) ?_
          refine lv_aload_n zx zb dX11_rests_39 rfl (lv_at hl 4 rfl) ?_
          refine r_get (C := RX11) (T := TX11) (N := 18) (ci := 9) (v := .ref (ma 0)) S in_X11_rests_X11 G 0 rfl rfl 0 (by decide) lk_X11_rests_7 rfl dX11_rests_40 ?_
          refine lv_iconst (v := 5) zx zb dX11_rests_43 (by decide) ?_
          refine lv_iload_n zx zb dX11_rests_44 rfl (lv_at hl 5 rfl) ?_
          refine r_iadd (v := (nI (5 + i))) S (nI_add 5 i) dX11_rests_45 ?_
          refine r_iald S G 1 rfl (vp_in_nI (by omega) (by decide)) rfl dX11_rests_46 ?_
          refine k_itE (fun y_6 => ?_)
          refine lv_aload_n zx zb dX11_rests_47 rfl (lv_at hl 4 rfl) ?_
          refine r_get (C := RX11) (T := TX11) (N := 18) (ci := 9) (v := .ref (ma 9)) S in_X11_rests_X11 G 0 rfl rfl 9 (by decide) lk_X11_rests_36 rfl dX11_rests_48 ?_
          refine lv_iload zx zb dX11_rests_51 (lv_at hl 0 rfl) ?_
          refine r_iald S G 2 rfl (vp_in_nI (by omega) (by decide)) rfl dX11_rests_53 ?_
          refine k_itE (fun y_7 => ?_)
          refine lv_iload zx zb dX11_rests_54 (lv_at hl 1 rfl) ?_
          refine o_ri (cells' := 0) (slots' := 0) G rfl rfl (n_V (As := [.int y_6, .int y_7, .int y_2]) (rest := []) (C := RX11) (T := TX11) (N := 18) (ci := 9) S G (m_getsBy l X m0 ma la lb n t v y_6 y_7 y_2 hI_n hI_t H.size) gX11_rests_X11_getsBy rfl rfl rfl hdV_X11_getsBy ⟨Nat.le_of_ble_eq_true rfl, Nat.le_of_ble_eq_true rfl⟩ [0] rfl rfl 0 rfl rfl rfl hl.1 (Nat.le_of_ble_eq_true rfl) dX11_rests_56 ⟨Nat.le_of_ble_eq_true rfl, Nat.le_of_ble_eq_true rfl⟩) (fun r_8 u_8 H locs hp_8 G => ?_)
          have G : wd X (fun _ => True) (va_A [] sz) s (@HAppend.hAppend va_W va_W va_W _ (mW m0 ma la lb n t v) (@HAppend.hAppend va_W va_W va_W _ ([((ma 0), .inl (X.2.1, 371, .inl fa))]) ([((ma 9), .inl (X.2.1, 20, .inl fb))]))) H locs := G
          refine lv_aload_n zx zb dX11_rests_59 rfl (lv_at hl 4 rfl) ?_
          refine lv_aload_n zx zb dX11_rests_60 rfl (lv_at hl 4 rfl) ?_
          refine r_get (C := RX11) (T := TX11) (N := 18) (ci := 9) (v := .ref (ma 0)) S in_X11_rests_X11 G 0 rfl rfl 0 (by decide) lk_X11_rests_7 rfl dX11_rests_61 ?_
          refine lv_iconst (v := 5) zx zb dX11_rests_64 (by decide) ?_
          refine lv_iload_n zx zb dX11_rests_65 rfl (lv_at hl 5 rfl) ?_
          refine r_iadd (v := (nI (5 + i))) S (nI_add 5 i) dX11_rests_66 ?_
          refine r_iald S G 1 rfl (vp_in_nI (by omega) (by decide)) rfl dX11_rests_67 ?_
          refine k_itE (fun y_9 => ?_)
          refine lv_iload zx zb dX11_rests_68 (lv_at hl 2 rfl) ?_
          refine lv_iload zx zb dX11_rests_70 (lv_at hl 1 rfl) ?_
          refine o_ri (cells' := 0) (slots' := 0) G rfl rfl (n_V (As := [.int y_9, .int y_1, .int y_2]) (rest := [.int r_8]) (C := RX11) (T := TX11) (N := 18) (ci := 9) S G (m_getsBy l X m0 ma la lb n t v y_9 y_1 y_2 hI_n hI_t H.size) gX11_rests_X11_getsBy rfl rfl rfl hdV_X11_getsBy ⟨Nat.le_of_ble_eq_true rfl, Nat.le_of_ble_eq_true rfl⟩ [0] rfl rfl 0 rfl rfl rfl hl.1 (Nat.le_of_ble_eq_true rfl) dX11_rests_72 ⟨Nat.le_of_ble_eq_true rfl, Nat.le_of_ble_eq_true rfl⟩) (fun r_10 u_10 H locs hp_10 G => ?_)
          have G : wd X (fun _ => True) (va_A [] sz) s (@HAppend.hAppend va_W va_W va_W _ (mW m0 ma la lb n t v) (@HAppend.hAppend va_W va_W va_W _ ([((ma 0), .inl (X.2.1, 371, .inl fa))]) ([((ma 9), .inl (X.2.1, 20, .inl fb))]))) H locs := G
          refine lv_icmp_gt (tgt := 125) zx zb dX11_rests_75 (by decide) (fun c_11 => ?_) (fun c_11 => ?_)
          · refine lv_iconst (v := 0) zx zb dX11_rests_125 (by decide) ?_
            exact join_35 0 _ _ _ (by first | assumption | exact Or.inl rfl | exact Or.inr rfl) G hl
          · refine lv_aload_n zx zb dX11_rests_78 rfl (lv_at hl 4 rfl) ?_
            refine lv_aload_n zx zb dX11_rests_79 rfl (lv_at hl 4 rfl) ?_
            refine r_get (C := RX11) (T := TX11) (N := 18) (ci := 9) (v := .ref (ma 0)) S in_X11_rests_X11 G 0 rfl rfl 0 (by decide) lk_X11_rests_7 rfl dX11_rests_80 ?_
            refine lv_iconst (v := 5) zx zb dX11_rests_83 (by decide) ?_
            refine lv_iload_n zx zb dX11_rests_84 rfl (lv_at hl 6 rfl) ?_
            refine r_iadd (v := (nI (5 + j))) S (nI_add 5 j) dX11_rests_85 ?_
            refine r_iald S G 1 rfl (vp_in_nI (by omega) (by decide)) rfl dX11_rests_86 ?_
            refine k_itE (fun y_12 => ?_)
            refine lv_aload_n zx zb dX11_rests_87 rfl (lv_at hl 4 rfl) ?_
            refine r_get (C := RX11) (T := TX11) (N := 18) (ci := 9) (v := .ref (ma 9)) S in_X11_rests_X11 G 0 rfl rfl 9 (by decide) lk_X11_rests_36 rfl dX11_rests_88 ?_
            refine lv_bipush (v := 10) zx zb dX11_rests_91 (by decide) ?_
            refine lv_iload zx zb dX11_rests_93 (lv_at hl 0 rfl) ?_
            refine r_iadd (v := (nI (10 + k26))) S (nI_add 10 k26) dX11_rests_95 ?_
            refine r_iald S G 2 rfl (vp_in_nI (by omega) (by decide)) rfl dX11_rests_96 ?_
            refine k_itE (fun y_13 => ?_)
            refine lv_iload zx zb dX11_rests_97 (lv_at hl 2 rfl) ?_
            refine o_ri (cells' := 0) (slots' := 0) G rfl rfl (n_V (As := [.int y_12, .int y_13, .int y_1]) (rest := []) (C := RX11) (T := TX11) (N := 18) (ci := 9) S G (m_getsBy l X m0 ma la lb n t v y_12 y_13 y_1 hI_n hI_t H.size) gX11_rests_X11_getsBy rfl rfl rfl hdV_X11_getsBy ⟨Nat.le_of_ble_eq_true rfl, Nat.le_of_ble_eq_true rfl⟩ [0] rfl rfl 0 rfl rfl rfl hl.1 (Nat.le_of_ble_eq_true rfl) dX11_rests_99 ⟨Nat.le_of_ble_eq_true rfl, Nat.le_of_ble_eq_true rfl⟩) (fun r_14 u_14 H locs hp_14 G => ?_)
            have G : wd X (fun _ => True) (va_A [] sz) s (@HAppend.hAppend va_W va_W va_W _ (mW m0 ma la lb n t v) (@HAppend.hAppend va_W va_W va_W _ ([((ma 0), .inl (X.2.1, 371, .inl fa))]) ([((ma 9), .inl (X.2.1, 20, .inl fb))]))) H locs := G
            refine lv_aload_n zx zb dX11_rests_102 rfl (lv_at hl 4 rfl) ?_
            refine lv_aload_n zx zb dX11_rests_103 rfl (lv_at hl 4 rfl) ?_
            refine r_get (C := RX11) (T := TX11) (N := 18) (ci := 9) (v := .ref (ma 0)) S in_X11_rests_X11 G 0 rfl rfl 0 (by decide) lk_X11_rests_7 rfl dX11_rests_104 ?_
            refine lv_iconst (v := 5) zx zb dX11_rests_107 (by decide) ?_
            refine lv_iload_n zx zb dX11_rests_108 rfl (lv_at hl 6 rfl) ?_
            refine r_iadd (v := (nI (5 + j))) S (nI_add 5 j) dX11_rests_109 ?_
            refine r_iald S G 1 rfl (vp_in_nI (by omega) (by decide)) rfl dX11_rests_110 ?_
            refine k_itE (fun y_15 => ?_)
            refine lv_iload zx zb dX11_rests_111 (lv_at hl 1 rfl) ?_
            refine lv_iload zx zb dX11_rests_113 (lv_at hl 2 rfl) ?_
            refine o_ri (cells' := 0) (slots' := 0) G rfl rfl (n_V (As := [.int y_15, .int y_2, .int y_1]) (rest := [.int r_14]) (C := RX11) (T := TX11) (N := 18) (ci := 9) S G (m_getsBy l X m0 ma la lb n t v y_15 y_2 y_1 hI_n hI_t H.size) gX11_rests_X11_getsBy rfl rfl rfl hdV_X11_getsBy ⟨Nat.le_of_ble_eq_true rfl, Nat.le_of_ble_eq_true rfl⟩ [0] rfl rfl 0 rfl rfl rfl hl.1 (Nat.le_of_ble_eq_true rfl) dX11_rests_115 ⟨Nat.le_of_ble_eq_true rfl, Nat.le_of_ble_eq_true rfl⟩) (fun r_16 u_16 H locs hp_16 G => ?_)
            have G : wd X (fun _ => True) (va_A [] sz) s (@HAppend.hAppend va_W va_W va_W _ (mW m0 ma la lb n t v) (@HAppend.hAppend va_W va_W va_W _ ([((ma 0), .inl (X.2.1, 371, .inl fa))]) ([((ma 9), .inl (X.2.1, 20, .inl fb))]))) H locs := G
            refine lv_icmp_gt (tgt := 125) zx zb dX11_rests_118 (by decide) (fun c_17 => ?_) (fun c_17 => ?_)
            · refine lv_iconst (v := 0) zx zb dX11_rests_125 (by decide) ?_
              exact join_35 0 _ _ _ (by first | assumption | exact Or.inl rfl | exact Or.inr rfl) G hl
            · refine lv_iconst (v := 1) zx zb dX11_rests_121 (by decide) ?_
              refine lv_goto (tgt := 126) zx zb dX11_rests_122 (by decide) ?_
              exact join_35 1 _ _ _ (by first | assumption | exact Or.inl rfl | exact Or.inr rfl) G hl
      · intro x_5 H locs ls hk_x_5 G hl
        refine lv_istore (lv' := [(5, .int x_5), (8, .int (nI k26)), (7, .int y_2), (6, .int y_1), (0, .ref m0), (1, .int (nI i)), (2, .int (nI j)), (3, .int (nI u)), (4, .int (nI w))]) zx zb dX11_rests_126 hl (by decide) rfl (fun ls hl => ?_)
        refine lv_iinc (v := (nI (k26 + 1))) (lv' := [(8, .int (nI (k26 + 1))), (5, .int x_5), (7, .int y_2), (6, .int y_1), (0, .ref m0), (1, .int (nI i)), (2, .int (nI j)), (3, .int (nI u)), (4, .int (nI w))]) zx zb dX11_rests_128 hl (k := 1) rfl (nI_add k26 1) (by decide) rfl (fun ls hl => ?_)
        refine lv_goto (tgt := 26) zx zb dX11_rests_131 (by decide) ?_
        have hl := lv_sub hl (l' := [(8, .int (nI (k26 + 1))), (7, .int y_2), (6, .int y_1), (5, .int x_5), (0, .ref m0), (1, .int (nI i)), (2, .int (nI j)), (3, .int (nI u)), (4, .int (nI w))]) [0, 2, 3, 1, 4, 5, 6, 7, 8] rfl
        exact ih26 (k26 + 1) x_5 _ _ _ (by omega) (by omega) (by first | assumption | exact Or.inl rfl | exact Or.inr rfl) G hl
theorem in_X11_pair_X11 : ∀ w ∈ wsX110, w ∈ wsX11_pair := by decide +kernel
theorem lk_X11_pair_27 : Cond.fieldLink RX11 27 "EggSpoonsModel" "hand" "[I" ∈ wsX11_pair := by decide +kernel
theorem lk_X11_pair_36 : Cond.fieldLink RX11 36 "EggSpoonsModel" "behindBy" "[I" ∈ wsX11_pair := by decide +kernel
theorem hdV_X11_rests : yX11_rests.cls = RX11 ∧ yX11_rests.cls ≠ "java/lang/invoke/MethodHandle" ∧ yX11_rests.cls ≠ "java/lang/invoke/VarHandle" ∧ (parseMethodDescriptor yX11_rests.desc).map (fun d => d.parameters.length) = some 4 := by decide +kernel
set_option maxHeartbeats 4000000 in
set_option maxRecDepth 100000 in
/-- pair -/
theorem m_pair (l : Launch) (X : EX) (m0 : Nat) (ma : Nat → Nat) (la : Int64) (lb : Int64) (n : Nat) (t : Nat → Nat) (v : Nat → Int32) (fa : Nat → Int32) (c0 : Nat) (c1 : Nat) (c2 : Nat) (c3 : Nat) (c4 : Nat) (fh : Nat → Int32) (d0 : Nat) (d1 : Nat) (d2 : Nat) (d3 : Nat) (d4 : Nat) (fb : Nat → Int32) (fr : Nat → Int32) (x1 : Int32) (x2 : Int32) (x3 : Int32) (hI_n : n ≤ 150) (hI_t : InT t) (hI_fa : InA fa c0 c1 c2 c3 c4) (hI_fh : InA fh d0 d1 d2 d3 d4) (sz : Nat) : Met l yX11_pair wsX11_pair ({ frames := 5, cells := 0, slots := 0, locals := 115 } : Room) (pE X [.ref m0, .int x1, .int x2, .int x3] (@HAppend.hAppend va_W va_W va_W _ (mW m0 ma la lb n t v) (@HAppend.hAppend va_W va_W va_W _ ([((ma 0), .inl (X.2.1, 371, .inl fa))]) (@HAppend.hAppend va_W va_W va_W _ ([((ma 6), .inl (X.2.1, 55, .inl fh))]) (@HAppend.hAppend va_W va_W va_W _ ([((ma 9), .inl (X.2.1, 20, .inl fb))]) ([((ma 3), .inl (X.2.1, 3, .inl fr))]))))) sz) (qI (fun (r : Int32) (u : (Nat → Int32) × (Nat) × (Nat) × (Nat) × (Nat) × (Nat) × (Nat → Int32) × (Nat → Int32)) => InA u.1 u.2.1 u.2.2.1 u.2.2.2.1 u.2.2.2.2.1 u.2.2.2.2.2.1 ∧ (True)) X (fun (u : (Nat → Int32) × (Nat) × (Nat) × (Nat) × (Nat) × (Nat) × (Nat → Int32) × (Nat → Int32)) => @HAppend.hAppend va_W va_W va_W _ (mW m0 ma la lb n t v) (@HAppend.hAppend va_W va_W va_W _ ([((ma 0), .inl (X.2.1, 371, .inl fa))]) (@HAppend.hAppend va_W va_W va_W _ ([((ma 6), .inl (X.2.1, 55, .inl u.1))]) (@HAppend.hAppend va_W va_W va_W _ ([((ma 9), .inl (X.2.1, 20, .inl u.2.2.2.2.2.2.1))]) ([((ma 3), .inl (X.2.1, 3, .inl u.2.2.2.2.2.2.2))]))))) (@HAppend.hAppend va_W va_W va_W _ (mW m0 ma la lb n t v) (@HAppend.hAppend va_W va_W va_W _ ([((ma 0), .inl (X.2.1, 371, .inl fa))]) (@HAppend.hAppend va_W va_W va_W _ ([((ma 6), .inl (X.2.1, 55, .inl fh))]) (@HAppend.hAppend va_W va_W va_W _ ([((ma 9), .inl (X.2.1, 20, .inl fb))]) ([((ma 3), .inl (X.2.1, 3, .inl fr))]))))) sz) 0 0 (va_A (@HAppend.hAppend va_W va_W va_W _ (mW m0 ma la lb n t v) (@HAppend.hAppend va_W va_W va_W _ ([((ma 0), .inl (X.2.1, 371, .inl fa))]) (@HAppend.hAppend va_W va_W va_W _ ([((ma 6), .inl (X.2.1, 55, .inl fh))]) (@HAppend.hAppend va_W va_W va_W _ ([((ma 9), .inl (X.2.1, 20, .inl fb))]) ([((ma 3), .inl (X.2.1, 3, .inl fr))]))))) sz) := by
  refine mk_met (B := (va_A (@HAppend.hAppend va_W va_W va_W _ (mW m0 ma la lb n t v) (@HAppend.hAppend va_W va_W va_W _ ([((ma 0), .inl (X.2.1, 371, .inl fa))]) (@HAppend.hAppend va_W va_W va_W _ ([((ma 6), .inl (X.2.1, 55, .inl fh))]) (@HAppend.hAppend va_W va_W va_W _ ([((ma 9), .inl (X.2.1, 20, .inl fb))]) ([((ma 3), .inl (X.2.1, 3, .inl fr))]))))) sz)) (A := (va_A (@HAppend.hAppend va_W va_W va_W _ (mW m0 ma la lb n t v) (@HAppend.hAppend va_W va_W va_W _ ([((ma 0), .inl (X.2.1, 371, .inl fa))]) (@HAppend.hAppend va_W va_W va_W _ ([((ma 6), .inl (X.2.1, 55, .inl fh))]) (@HAppend.hAppend va_W va_W va_W _ ([((ma 9), .inl (X.2.1, 20, .inl fb))]) ([((ma 3), .inl (X.2.1, 3, .inl fr))]))))) sz)) (cc := cX11_pair) (maxL := 6) (ret := (some .int)) (by decide) rfl (Nat.le_of_ble_eq_true rfl) k_w k_a (fun p e s m below meth c S zr zlk znm zsz G ls hl => ?_)
  have S : CallFix p m c cX11_pair 6 s _ wsX11_pair RX11 := S
  have zx := S.1
  have zb := S.2.1
  have hl : lv_has ls 6 [(0, .ref m0), (1, .int x1), (2, .int x2), (3, .int x3)] := hl
  have hO_t := hI_t
  obtain ⟨ht0_t, ht1_t⟩ := hO_t
  have hO_fa := hI_fa.2
  obtain ⟨hm0_fa, hm1_fa, hm2_fa, hm3_fa, hm4_fa⟩ := hO_fa
  have hO_fh := hI_fh.2
  obtain ⟨hm0_fh, hm1_fh, hm2_fh, hm3_fh, hm4_fh⟩ := hO_fh
  refine lv_aload_n zx zb dX11_pair_0 rfl (lv_at hl 0 rfl) ?_
  refine lv_iload_n zx zb dX11_pair_1 rfl (lv_at hl 1 rfl) ?_
  refine o_ri (cells' := 0) (slots' := 0) G rfl rfl (n_V (As := [.int x1]) (rest := []) (C := RX11) (T := TX11) (N := 18) (ci := 9) S G (m_isOne l X m0 ma la lb n t v fa c0 c1 c2 c3 c4 x1 hI_n hI_t hI_fa s.heap.size) gX11_pair_X11_isOne rfl rfl rfl hdV_X11_isOne ⟨Nat.le_of_ble_eq_true rfl, Nat.le_of_ble_eq_true rfl⟩ [0, 1] rfl rfl 0 rfl rfl rfl hl.1 (Nat.le_of_ble_eq_true rfl) dX11_pair_2 ⟨Nat.le_of_ble_eq_true rfl, Nat.le_of_ble_eq_true rfl⟩) (fun r_1 u_1 H locs hp_1 G => ?_)
  have G : wd X (va_A (@HAppend.hAppend va_W va_W va_W _ (mW m0 ma la lb n t v) (@HAppend.hAppend va_W va_W va_W _ ([((ma 0), .inl (X.2.1, 371, .inl fa))]) (@HAppend.hAppend va_W va_W va_W _ ([((ma 6), .inl (X.2.1, 55, .inl fh))]) (@HAppend.hAppend va_W va_W va_W _ ([((ma 9), .inl (X.2.1, 20, .inl fb))]) ([((ma 3), .inl (X.2.1, 3, .inl fr))]))))) sz) (va_A (@HAppend.hAppend va_W va_W va_W _ (mW m0 ma la lb n t v) (@HAppend.hAppend va_W va_W va_W _ ([((ma 0), .inl (X.2.1, 371, .inl fa))]) (@HAppend.hAppend va_W va_W va_W _ ([((ma 6), .inl (X.2.1, 55, .inl fh))]) (@HAppend.hAppend va_W va_W va_W _ ([((ma 9), .inl (X.2.1, 20, .inl fb))]) ([((ma 3), .inl (X.2.1, 3, .inl fr))]))))) sz) s (@HAppend.hAppend va_W va_W va_W _ (mW m0 ma la lb n t v) (@HAppend.hAppend va_W va_W va_W _ ([((ma 0), .inl (X.2.1, 371, .inl fa))]) (@HAppend.hAppend va_W va_W va_W _ ([((ma 6), .inl (X.2.1, 55, .inl fh))]) (@HAppend.hAppend va_W va_W va_W _ ([((ma 9), .inl (X.2.1, 20, .inl fb))]) ([((ma 3), .inl (X.2.1, 3, .inl fr))]))))) H locs := G
  rcases hp_1 with ⟨rfl, hj_1⟩ | ⟨rfl, hj_1⟩
  · obtain ⟨j_1, hj_1, rfl⟩ := hj_1
    refine lv_if_eq (tgt := 26) zx zb dX11_pair_5 (by decide) (fun c_2 => absurd c_2 (by decide)) (fun c_2 => ?_)
    refine lv_aload_n zx zb dX11_pair_8 rfl (lv_at hl 0 rfl) ?_
    refine lv_iload_n zx zb dX11_pair_9 rfl (lv_at hl 2 rfl) ?_
    refine o_ri (cells' := 0) (slots' := 0) G rfl rfl (n_V (As := [.int x2]) (rest := []) (C := RX11) (T := TX11) (N := 18) (ci := 9) S G (m_isOne l X m0 ma la lb n t v fa c0 c1 c2 c3 c4 x2 hI_n hI_t hI_fa H.size) gX11_pair_X11_isOne rfl rfl rfl hdV_X11_isOne ⟨Nat.le_of_ble_eq_true rfl, Nat.le_of_ble_eq_true rfl⟩ [0, 1] rfl rfl 0 rfl rfl rfl hl.1 (Nat.le_of_ble_eq_true rfl) dX11_pair_10 ⟨Nat.le_of_ble_eq_true rfl, Nat.le_of_ble_eq_true rfl⟩) (fun r_3 u_3 H locs hp_3 G => ?_)
    have G : wd X (va_A (@HAppend.hAppend va_W va_W va_W _ (mW m0 ma la lb n t v) (@HAppend.hAppend va_W va_W va_W _ ([((ma 0), .inl (X.2.1, 371, .inl fa))]) (@HAppend.hAppend va_W va_W va_W _ ([((ma 6), .inl (X.2.1, 55, .inl fh))]) (@HAppend.hAppend va_W va_W va_W _ ([((ma 9), .inl (X.2.1, 20, .inl fb))]) ([((ma 3), .inl (X.2.1, 3, .inl fr))]))))) sz) (va_A (@HAppend.hAppend va_W va_W va_W _ (mW m0 ma la lb n t v) (@HAppend.hAppend va_W va_W va_W _ ([((ma 0), .inl (X.2.1, 371, .inl fa))]) (@HAppend.hAppend va_W va_W va_W _ ([((ma 6), .inl (X.2.1, 55, .inl fh))]) (@HAppend.hAppend va_W va_W va_W _ ([((ma 9), .inl (X.2.1, 20, .inl fb))]) ([((ma 3), .inl (X.2.1, 3, .inl fr))]))))) sz) s (@HAppend.hAppend va_W va_W va_W _ (mW m0 ma la lb n t v) (@HAppend.hAppend va_W va_W va_W _ ([((ma 0), .inl (X.2.1, 371, .inl fa))]) (@HAppend.hAppend va_W va_W va_W _ ([((ma 6), .inl (X.2.1, 55, .inl fh))]) (@HAppend.hAppend va_W va_W va_W _ ([((ma 9), .inl (X.2.1, 20, .inl fb))]) ([((ma 3), .inl (X.2.1, 3, .inl fr))]))))) H locs := G
    rcases hp_3 with ⟨rfl, hj_3⟩ | ⟨rfl, hj_3⟩
    · obtain ⟨j_3, hj_3, rfl⟩ := hj_3
      refine lv_if_eq (tgt := 26) zx zb dX11_pair_13 (by decide) (fun c_4 => absurd c_4 (by decide)) (fun c_4 => ?_)
      refine lv_iload_n zx zb dX11_pair_16 rfl (lv_at hl 1 rfl) ?_
      refine lv_iload_n zx zb dX11_pair_17 rfl (lv_at hl 2 rfl) ?_
      refine lv_icmp_eq (tgt := 26) zx zb dX11_pair_18 (by decide) (fun c_5 => ?_) (fun c_5 => ?_)
      · have fc_5 := j_eq (a := j_1) (b := j_3) (by omega) (by omega) c_5
        refine lv_aload_n zx zb dX11_pair_26 rfl (lv_at hl 0 rfl) ?_
        refine lv_bipush (v := (-10)) zx zb dX11_pair_27 (by decide) ?_
        refine b_wi (cells' := 0) (slots' := 0) (wr := @HAppend.hAppend va_W va_W va_W _ ([((ma 0), .inl (X.2.1, 371, .inl fa))]) (@HAppend.hAppend va_W va_W va_W _ ([((ma 6), .inl (X.2.1, 55, .inl fh))]) ([((ma 9), .inl (X.2.1, 20, .inl fb))]))) G rfl rfl [0, 4] [1, 2, 3] rfl rfl rfl rfl (n_V (As := [.int (-10)]) (rest := []) (C := RX11) (T := TX11) (N := 18) (ci := 9) S G (m_bad l X m0 ma la lb n t v fr (-10) hI_n hI_t H.size) gX11_pair_X11_bad rfl rfl rfl hdV_X11_bad ⟨Nat.le_of_ble_eq_true rfl, Nat.le_of_ble_eq_true rfl⟩ [0, 4] rfl rfl 0 rfl rfl rfl hl.1 (Nat.le_of_ble_eq_true rfl) dX11_pair_29 ⟨Nat.le_of_ble_eq_true rfl, Nat.le_of_ble_eq_true rfl⟩) (fun r_6 u_6 H locs hp_6 G => ?_)
        obtain ⟨f_6, rfl⟩ : ∃ z, z = u_6 := ⟨_, rfl⟩
        have hq_6 := hp_6
        have G : wd X (va_A (@HAppend.hAppend va_W va_W va_W _ (mW m0 ma la lb n t v) (@HAppend.hAppend va_W va_W va_W _ ([((ma 0), .inl (X.2.1, 371, .inl fa))]) (@HAppend.hAppend va_W va_W va_W _ ([((ma 6), .inl (X.2.1, 55, .inl fh))]) (@HAppend.hAppend va_W va_W va_W _ ([((ma 9), .inl (X.2.1, 20, .inl fb))]) ([((ma 3), .inl (X.2.1, 3, .inl fr))]))))) sz) (va_A (@HAppend.hAppend va_W va_W va_W _ (mW m0 ma la lb n t v) (@HAppend.hAppend va_W va_W va_W _ ([((ma 0), .inl (X.2.1, 371, .inl fa))]) (@HAppend.hAppend va_W va_W va_W _ ([((ma 6), .inl (X.2.1, 55, .inl fh))]) (@HAppend.hAppend va_W va_W va_W _ ([((ma 9), .inl (X.2.1, 20, .inl fb))]) ([((ma 3), .inl (X.2.1, 3, .inl fr))]))))) sz) s (@HAppend.hAppend va_W va_W va_W _ ([((ma 0), .inl (X.2.1, 371, .inl fa))]) (@HAppend.hAppend va_W va_W va_W _ ([((ma 6), .inl (X.2.1, 55, .inl fh))]) (@HAppend.hAppend va_W va_W va_W _ ([((ma 9), .inl (X.2.1, 20, .inl fb))]) (@HAppend.hAppend va_W va_W va_W _ (mW m0 ma la lb n t v) ([((ma 3), .inl (X.2.1, 3, .inl f_6))]))))) H locs := G
        obtain rfl := hq_6
        exact e_int S zr zlk (vp_nar_int _) G (fh, d0, d1, d2, d3, d4, fb, f_6) [3, 0, 1, 2, 4] rfl rfl (Or.inr rfl) (⟨hI_fh, trivial⟩) dX11_pair_32
      · have fc_5 := j_ne (a := j_1) (b := j_3) c_5
        refine lv_iload_n zx zb dX11_pair_21 rfl (lv_at hl 3 rfl) ?_
        refine lv_iconst (v := (-1)) zx zb dX11_pair_22 (by decide) ?_
        refine lv_icmp_ge (tgt := 33) zx zb dX11_pair_23 (by decide) (fun c_7 => ?_) (fun c_7 => ?_)
        · refine lv_iconst (v := 0) zx zb dX11_pair_33 (by decide) ?_
          refine lv_istore (lv' := [(4, .int 0), (0, .ref m0), (1, .int (nI j_1)), (2, .int (nI j_3)), (3, .int x3)]) zx zb dX11_pair_34 hl (by decide) rfl (fun ls hl => ?_)
          refine k_loop (P := ∀ (zm : Nat) (k36 : Nat) (f36_2 : Nat → Int32) (c036_2 : Nat) (c136_2 : Nat) (c236_2 : Nat) (c336_2 : Nat) (c436_2 : Nat) (f36_3 : Nat → Int32) (H : Heap) (locs : List Loc) (ls : Array Slot), 10 + 1 ≤ k36 + zm → InA f36_2 c036_2 c136_2 c236_2 c336_2 c436_2 → (k36 ≤ 10) → wd X (va_A (@HAppend.hAppend va_W va_W va_W _ (mW m0 ma la lb n t v) (@HAppend.hAppend va_W va_W va_W _ ([((ma 0), .inl (X.2.1, 371, .inl fa))]) (@HAppend.hAppend va_W va_W va_W _ ([((ma 6), .inl (X.2.1, 55, .inl fh))]) (@HAppend.hAppend va_W va_W va_W _ ([((ma 9), .inl (X.2.1, 20, .inl fb))]) ([((ma 3), .inl (X.2.1, 3, .inl fr))]))))) sz) (va_A (@HAppend.hAppend va_W va_W va_W _ (mW m0 ma la lb n t v) (@HAppend.hAppend va_W va_W va_W _ ([((ma 0), .inl (X.2.1, 371, .inl fa))]) (@HAppend.hAppend va_W va_W va_W _ ([((ma 6), .inl (X.2.1, 55, .inl fh))]) (@HAppend.hAppend va_W va_W va_W _ ([((ma 9), .inl (X.2.1, 20, .inl fb))]) ([((ma 3), .inl (X.2.1, 3, .inl fr))]))))) sz) s (@HAppend.hAppend va_W va_W va_W _ (mW m0 ma la lb n t v) (@HAppend.hAppend va_W va_W va_W _ ([((ma 0), .inl (X.2.1, 371, .inl fa))]) (@HAppend.hAppend va_W va_W va_W _ ([((ma 6), .inl (X.2.1, 55, .inl f36_2))]) (@HAppend.hAppend va_W va_W va_W _ ([((ma 9), .inl (X.2.1, 20, .inl f36_3))]) ([((ma 3), .inl (X.2.1, 3, .inl fr))]))))) H locs → lv_has ls 6 [(4, .int (nI k36)), (0, .ref m0), (1, .int (nI j_1)), (2, .int (nI j_3)), (3, .int x3)] → W p l e _ s m _ below meth c H locs _ _ _ (F0 m 36 ls [])) (fun loop => loop (10 + 1) 0 fh d0 d1 d2 d3 d4 fb _ _ _ (by omega) hI_fh (by omega) G hl) ?_
          intro zm
          induction zm with
          | zero => intro k36 f36_2 c036_2 c136_2 c236_2 c336_2 c436_2 f36_3 H locs ls zz q_hI_f36_2 q_hk_k36 _ _; exact absurd zz (by omega)
          | succ zm ih36 =>
            intro k36 f36_2 c036_2 c136_2 c236_2 c336_2 c436_2 f36_3 H locs ls zm_36 hI_f36_2 hk_k36 G hl
            have hO_f36_2 := hI_f36_2.2
            obtain ⟨hm0_f36_2, hm1_f36_2, hm2_f36_2, hm3_f36_2, hm4_f36_2⟩ := hO_f36_2
            refine lv_iload zx zb dX11_pair_36 (lv_at hl 0 rfl) ?_
            refine lv_bipush (v := 10) zx zb dX11_pair_38 (by decide) ?_
            refine lv_icmp_ge (tgt := 113) zx zb dX11_pair_40 (by decide) (fun c_8 => ?_) (fun c_8 => ?_)
            · have fc_8 := j_le (a := 10) (b := k36) (by omega) (by omega) c_8
              refine lv_iconst (v := 0) zx zb dX11_pair_113 (by decide) ?_
              refine lv_istore (lv' := [(4, .int 0), (0, .ref m0), (1, .int (nI j_1)), (2, .int (nI j_3)), (3, .int x3)]) zx zb dX11_pair_114 hl (by decide) rfl (fun ls hl => ?_)
              refine lv_iconst (v := 0) zx zb dX11_pair_116 (by decide) ?_
              refine lv_istore (lv' := [(5, .int 0), (4, .int 0), (0, .ref m0), (1, .int (nI j_1)), (2, .int (nI j_3)), (3, .int x3)]) zx zb dX11_pair_117 hl (by decide) rfl (fun ls hl => ?_)
              refine k_loop (P := ∀ (zm : Nat) (k119 : Nat) (x119_4 : Int32) (H : Heap) (locs : List Loc) (ls : Array Slot), 100 + 1 ≤ k119 + zm → (k119 ≤ 100) → wd X (va_A (@HAppend.hAppend va_W va_W va_W _ (mW m0 ma la lb n t v) (@HAppend.hAppend va_W va_W va_W _ ([((ma 0), .inl (X.2.1, 371, .inl fa))]) (@HAppend.hAppend va_W va_W va_W _ ([((ma 6), .inl (X.2.1, 55, .inl fh))]) (@HAppend.hAppend va_W va_W va_W _ ([((ma 9), .inl (X.2.1, 20, .inl fb))]) ([((ma 3), .inl (X.2.1, 3, .inl fr))]))))) sz) (va_A (@HAppend.hAppend va_W va_W va_W _ (mW m0 ma la lb n t v) (@HAppend.hAppend va_W va_W va_W _ ([((ma 0), .inl (X.2.1, 371, .inl fa))]) (@HAppend.hAppend va_W va_W va_W _ ([((ma 6), .inl (X.2.1, 55, .inl fh))]) (@HAppend.hAppend va_W va_W va_W _ ([((ma 9), .inl (X.2.1, 20, .inl fb))]) ([((ma 3), .inl (X.2.1, 3, .inl fr))]))))) sz) s (@HAppend.hAppend va_W va_W va_W _ (mW m0 ma la lb n t v) (@HAppend.hAppend va_W va_W va_W _ ([((ma 0), .inl (X.2.1, 371, .inl fa))]) (@HAppend.hAppend va_W va_W va_W _ ([((ma 6), .inl (X.2.1, 55, .inl f36_2))]) (@HAppend.hAppend va_W va_W va_W _ ([((ma 9), .inl (X.2.1, 20, .inl f36_3))]) ([((ma 3), .inl (X.2.1, 3, .inl fr))]))))) H locs → lv_has ls 6 [(5, .int (nI k119)), (4, .int x119_4), (0, .ref m0), (1, .int (nI j_1)), (2, .int (nI j_3)), (3, .int x3)] → W p l e _ s m _ below meth c H locs _ _ _ (F0 m 119 ls [])) (fun loop => loop (100 + 1) 0 0 _ _ _ (by omega) (by omega) G hl) ?_
              intro zm
              induction zm with
              | zero => intro k119 x119_4 H locs ls zz q_hk_k119 _ _; exact absurd zz (by omega)
              | succ zm ih119 =>
                intro k119 x119_4 H locs ls zm_119 hk_k119 G hl
                refine lv_iload zx zb dX11_pair_119 (lv_at hl 0 rfl) ?_
                refine lv_bipush (v := 100) zx zb dX11_pair_121 (by decide) ?_
                refine lv_icmp_ge (tgt := 163) zx zb dX11_pair_123 (by decide) (fun c_9 => ?_) (fun c_9 => ?_)
                · have fc_9 := j_le (a := 100) (b := k119) (by omega) (by omega) c_9
                  refine lv_iload_n zx zb dX11_pair_163 rfl (lv_at hl 5 rfl) ?_
                  refine lv_iconst (v := (-1)) zx zb dX11_pair_164 (by decide) ?_
                  refine k_cutW (PP := fun Wx => ∀ (x_11 : Int32) (H : Heap) (locs : List Loc) (ls : Array Slot), wd X (va_A (@HAppend.hAppend va_W va_W va_W _ (mW m0 ma la lb n t v) (@HAppend.hAppend va_W va_W va_W _ ([((ma 0), .inl (X.2.1, 371, .inl fa))]) (@HAppend.hAppend va_W va_W va_W _ ([((ma 6), .inl (X.2.1, 55, .inl fh))]) (@HAppend.hAppend va_W va_W va_W _ ([((ma 9), .inl (X.2.1, 20, .inl fb))]) ([((ma 3), .inl (X.2.1, 3, .inl fr))]))))) sz) (va_A (@HAppend.hAppend va_W va_W va_W _ (mW m0 ma la lb n t v) (@HAppend.hAppend va_W va_W va_W _ ([((ma 0), .inl (X.2.1, 371, .inl fa))]) (@HAppend.hAppend va_W va_W va_W _ ([((ma 6), .inl (X.2.1, 55, .inl fh))]) (@HAppend.hAppend va_W va_W va_W _ ([((ma 9), .inl (X.2.1, 20, .inl fb))]) ([((ma 3), .inl (X.2.1, 3, .inl fr))]))))) sz) s (@HAppend.hAppend va_W va_W va_W _ (mW m0 ma la lb n t v) (@HAppend.hAppend va_W va_W va_W _ ([((ma 0), .inl (X.2.1, 371, .inl fa))]) (@HAppend.hAppend va_W va_W va_W _ ([((ma 6), .inl (X.2.1, 55, .inl f36_2))]) (@HAppend.hAppend va_W va_W va_W _ ([((ma 9), .inl (X.2.1, 20, .inl f36_3))]) ([((ma 3), .inl (X.2.1, 3, .inl fr))]))))) H locs → lv_has ls 6 [(5, .int (nI k119)), (4, .int x119_4), (0, .ref m0), (1, .int (nI j_1)), (2, .int (nI j_3)), (3, .int x3)] → Wx (F0 m 175 ls [.int x_11]) H locs) ?_ ?_
                  · intro join_165
                    refine lv_icmp_ne (tgt := 173) zx zb dX11_pair_165 (by decide) (fun c_10 => ?_) (fun c_10 => ?_)
                    · refine lv_bipush (v := (-5)) zx zb dX11_pair_173 (by decide) ?_
                      exact join_165 (-5) _ _ _  G hl
                    · refine lv_iload zx zb dX11_pair_168 (lv_at hl 1 rfl) ?_
                      refine lv_goto (tgt := 175) zx zb dX11_pair_170 (by decide) ?_
                      exact join_165 x119_4 _ _ _  G hl
                  · intro x_11 H locs ls  G hl
                    exact e_int S zr zlk (vp_nar_int _) G (f36_2, c036_2, c136_2, c236_2, c336_2, c436_2, f36_3, fr) [0, 1, 2, 3, 4] rfl rfl (Or.inr rfl) (⟨hI_f36_2, trivial⟩) dX11_pair_175
                · have fc_9 := j_nle (a := 100) (b := k119) (by omega) (by omega) c_9
                  refine lv_aload_n zx zb dX11_pair_126 rfl (lv_at hl 2 rfl) ?_
                  refine lv_iload_n zx zb dX11_pair_127 rfl (lv_at hl 3 rfl) ?_
                  refine lv_iload_n zx zb dX11_pair_128 rfl (lv_at hl 4 rfl) ?_
                  refine lv_iload zx zb dX11_pair_129 (lv_at hl 0 rfl) ?_
                  refine lv_bipush (v := 10) zx zb dX11_pair_131 (by decide) ?_
                  refine lv_idiv zx zb dX11_pair_133 (by decide) ?_
                  refine k_it (v := (nI (k119 / 10))) (pk_div (d := 10) (by omega) (by decide) (by decide)) ?_
                  refine lv_iload zx zb dX11_pair_134 (lv_at hl 0 rfl) ?_
                  refine lv_bipush (v := 10) zx zb dX11_pair_136 (by decide) ?_
                  refine lv_irem zx zb dX11_pair_138 (by decide) ?_
                  refine k_it (v := (nI (k119 % 10))) (pk_rem (d := 10) (by omega) (by decide) (by decide)) ?_
                  refine o_ri (cells' := 0) (slots' := 0) G rfl rfl (n_V (As := [.int (nI j_1), .int (nI j_3), .int (nI (k119 / 10)), .int (nI (k119 % 10))]) (rest := []) (C := RX11) (T := TX11) (N := 18) (ci := 9) S G (m_rests l X m0 ma la lb n t v fa c0 c1 c2 c3 c4 f36_3 j_1 j_3 (k119 / 10) (k119 % 10) hI_n hI_t hI_fa (by omega) (by omega) (by omega) (by omega) H.size) gX11_pair_X11_rests rfl rfl rfl hdV_X11_rests ⟨Nat.le_of_ble_eq_true rfl, Nat.le_of_ble_eq_true rfl⟩ [0, 1, 3] rfl rfl 0 rfl rfl rfl hl.1 (Nat.le_of_ble_eq_true rfl) dX11_pair_139 ⟨Nat.le_of_ble_eq_true rfl, Nat.le_of_ble_eq_true rfl⟩) (fun r_12 u_12 H locs hp_12 G => ?_)
                  have G : wd X (va_A (@HAppend.hAppend va_W va_W va_W _ (mW m0 ma la lb n t v) (@HAppend.hAppend va_W va_W va_W _ ([((ma 0), .inl (X.2.1, 371, .inl fa))]) (@HAppend.hAppend va_W va_W va_W _ ([((ma 6), .inl (X.2.1, 55, .inl fh))]) (@HAppend.hAppend va_W va_W va_W _ ([((ma 9), .inl (X.2.1, 20, .inl fb))]) ([((ma 3), .inl (X.2.1, 3, .inl fr))]))))) sz) (va_A (@HAppend.hAppend va_W va_W va_W _ (mW m0 ma la lb n t v) (@HAppend.hAppend va_W va_W va_W _ ([((ma 0), .inl (X.2.1, 371, .inl fa))]) (@HAppend.hAppend va_W va_W va_W _ ([((ma 6), .inl (X.2.1, 55, .inl fh))]) (@HAppend.hAppend va_W va_W va_W _ ([((ma 9), .inl (X.2.1, 20, .inl fb))]) ([((ma 3), .inl (X.2.1, 3, .inl fr))]))))) sz) s (@HAppend.hAppend va_W va_W va_W _ (mW m0 ma la lb n t v) (@HAppend.hAppend va_W va_W va_W _ ([((ma 0), .inl (X.2.1, 371, .inl fa))]) (@HAppend.hAppend va_W va_W va_W _ ([((ma 6), .inl (X.2.1, 55, .inl f36_2))]) (@HAppend.hAppend va_W va_W va_W _ ([((ma 9), .inl (X.2.1, 20, .inl f36_3))]) ([((ma 3), .inl (X.2.1, 3, .inl fr))]))))) H locs := G
                  refine lv_if_eq (tgt := 157) zx zb dX11_pair_142 (by decide) (fun c_13 => ?_) (fun c_13 => ?_)
                  · refine lv_iinc (v := (nI (k119 + 1))) (lv' := [(5, .int (nI (k119 + 1))), (4, .int x119_4), (0, .ref m0), (1, .int (nI j_1)), (2, .int (nI j_3)), (3, .int x3)]) zx zb dX11_pair_157 hl (k := 0) rfl (nI_add k119 1) (by decide) rfl (fun ls hl => ?_)
                    refine lv_goto (tgt := 119) zx zb dX11_pair_160 (by decide) ?_
                    exact ih119 (k119 + 1) x119_4 _ _ _ (by omega) (by omega) G hl
                  · refine lv_iload zx zb dX11_pair_145 (lv_at hl 1 rfl) ?_
                    refine lv_iload_n zx zb dX11_pair_147 rfl (lv_at hl 5 rfl) ?_
                    refine lv_icmp_ne (tgt := 154) zx zb dX11_pair_148 (by decide) (fun c_14 => ?_) (fun c_14 => ?_)
                    · refine lv_iinc (v := (x119_4 + 1)) (lv' := [(4, .int (x119_4 + 1)), (5, .int (nI k119)), (0, .ref m0), (1, .int (nI j_1)), (2, .int (nI j_3)), (3, .int x3)]) zx zb dX11_pair_154 hl (k := 1) rfl rfl (by decide) rfl (fun ls hl => ?_)
                      refine lv_iinc (v := (nI (k119 + 1))) (lv' := [(5, .int (nI (k119 + 1))), (4, .int (x119_4 + 1)), (0, .ref m0), (1, .int (nI j_1)), (2, .int (nI j_3)), (3, .int x3)]) zx zb dX11_pair_157 hl (k := 1) rfl (nI_add k119 1) (by decide) rfl (fun ls hl => ?_)
                      refine lv_goto (tgt := 119) zx zb dX11_pair_160 (by decide) ?_
                      exact ih119 (k119 + 1) (x119_4 + 1) _ _ _ (by omega) (by omega) G hl
                    · refine lv_iload zx zb dX11_pair_151 (lv_at hl 0 rfl) ?_
                      exact e_int S zr zlk (vp_nar_int _) G (f36_2, c036_2, c136_2, c236_2, c336_2, c436_2, f36_3, fr) [0, 1, 2, 3, 4] rfl rfl (Or.inr rfl) (⟨hI_f36_2, trivial⟩) dX11_pair_153
            · have fc_8 := j_nle (a := 10) (b := k36) (by omega) (by omega) c_8
              refine lv_aload_n zx zb dX11_pair_43 rfl (lv_at hl 1 rfl) ?_
              refine b_wv (cells' := 0) (slots' := 0) (wr := @HAppend.hAppend va_W va_W va_W _ ([((ma 9), .inl (X.2.1, 20, .inl f36_3))]) ([((ma 3), .inl (X.2.1, 3, .inl fr))])) G rfl rfl [0, 1, 2] [3, 4] rfl rfl rfl rfl (n_V (As := []) (rest := []) (C := RX11) (T := TX11) (N := 18) (ci := 9) S G (m_layHand l X m0 ma la lb n t v fa c0 c1 c2 c3 c4 f36_2 c036_2 c136_2 c236_2 c336_2 c436_2 hI_n hI_t hI_fa hI_f36_2 H.size) gX11_pair_X11_layHand rfl rfl rfl hdV_X11_layHand ⟨Nat.le_of_ble_eq_true rfl, Nat.le_of_ble_eq_true rfl⟩ [0, 1, 2] rfl rfl 0 rfl rfl rfl hl.1 (Nat.le_of_ble_eq_true rfl) dX11_pair_44 ⟨Nat.le_of_ble_eq_true rfl, Nat.le_of_ble_eq_true rfl⟩) (fun u_15 H locs hp_15 G => ?_)
              obtain ⟨f_15a, c0_15b, c1_15c, c2_15d, c3_15e, c4_15f⟩ := u_15
              try dsimp only at hp_15
              obtain ⟨hI_f_15a, hq_15⟩ := hp_15
              have hO_f_15a := hI_f_15a.2
              obtain ⟨hm0_f_15a, hm1_f_15a, hm2_f_15a, hm3_f_15a, hm4_f_15a⟩ := hO_f_15a
              have G : wd X (va_A (@HAppend.hAppend va_W va_W va_W _ (mW m0 ma la lb n t v) (@HAppend.hAppend va_W va_W va_W _ ([((ma 0), .inl (X.2.1, 371, .inl fa))]) (@HAppend.hAppend va_W va_W va_W _ ([((ma 6), .inl (X.2.1, 55, .inl fh))]) (@HAppend.hAppend va_W va_W va_W _ ([((ma 9), .inl (X.2.1, 20, .inl fb))]) ([((ma 3), .inl (X.2.1, 3, .inl fr))]))))) sz) (va_A (@HAppend.hAppend va_W va_W va_W _ (mW m0 ma la lb n t v) (@HAppend.hAppend va_W va_W va_W _ ([((ma 0), .inl (X.2.1, 371, .inl fa))]) (@HAppend.hAppend va_W va_W va_W _ ([((ma 6), .inl (X.2.1, 55, .inl fh))]) (@HAppend.hAppend va_W va_W va_W _ ([((ma 9), .inl (X.2.1, 20, .inl fb))]) ([((ma 3), .inl (X.2.1, 3, .inl fr))]))))) sz) s (@HAppend.hAppend va_W va_W va_W _ ([((ma 9), .inl (X.2.1, 20, .inl f36_3))]) (@HAppend.hAppend va_W va_W va_W _ ([((ma 3), .inl (X.2.1, 3, .inl fr))]) (@HAppend.hAppend va_W va_W va_W _ (mW m0 ma la lb n t v) (@HAppend.hAppend va_W va_W va_W _ ([((ma 0), .inl (X.2.1, 371, .inl fa))]) ([((ma 6), .inl (X.2.1, 55, .inl f_15a))]))))) H locs := G
              refine lv_aload_n zx zb dX11_pair_47 rfl (lv_at hl 1 rfl) ?_
              refine r_get (C := RX11) (T := TX11) (N := 18) (ci := 9) (v := .ref (ma 6)) S in_X11_pair_X11 G 2 rfl rfl 6 (by decide) lk_X11_pair_27 rfl dX11_pair_48 ?_
              refine lv_bipush (v := 11) zx zb dX11_pair_51 (by decide) ?_
              refine lv_iload_n zx zb dX11_pair_53 rfl (lv_at hl 2 rfl) ?_
              refine r_iadd (v := (nI (11 + j_1))) S (nI_add 11 j_1) dX11_pair_54 ?_
              refine lv_iload zx zb dX11_pair_55 (lv_at hl 0 rfl) ?_
              refine r_iast S G 4 rfl (vp_in_nI (by omega) (by decide)) dX11_pair_57 (fun H locs G => ?_)
              obtain ⟨f_16, hI_f_16, hE_f_16, G⟩ : ∃ f_16 : Nat → Int32, InA f_16 c0_15b c1_15c c2_15d c3_15e c4_15f ∧ f_16 = upd f_15a (nI (11 + j_1)).toNatClampNeg (nI k36) ∧ wd X (va_A (@HAppend.hAppend va_W va_W va_W _ (mW m0 ma la lb n t v) (@HAppend.hAppend va_W va_W va_W _ ([((ma 0), .inl (X.2.1, 371, .inl fa))]) (@HAppend.hAppend va_W va_W va_W _ ([((ma 6), .inl (X.2.1, 55, .inl fh))]) (@HAppend.hAppend va_W va_W va_W _ ([((ma 9), .inl (X.2.1, 20, .inl fb))]) ([((ma 3), .inl (X.2.1, 3, .inl fr))]))))) sz) (va_A (@HAppend.hAppend va_W va_W va_W _ (mW m0 ma la lb n t v) (@HAppend.hAppend va_W va_W va_W _ ([((ma 0), .inl (X.2.1, 371, .inl fa))]) (@HAppend.hAppend va_W va_W va_W _ ([((ma 6), .inl (X.2.1, 55, .inl fh))]) (@HAppend.hAppend va_W va_W va_W _ ([((ma 9), .inl (X.2.1, 20, .inl fb))]) ([((ma 3), .inl (X.2.1, 3, .inl fr))]))))) sz) s (@HAppend.hAppend va_W va_W va_W _ ([((ma 9), .inl (X.2.1, 20, .inl f36_3))]) (@HAppend.hAppend va_W va_W va_W _ ([((ma 3), .inl (X.2.1, 3, .inl fr))]) (@HAppend.hAppend va_W va_W va_W _ (mW m0 ma la lb n t v) (@HAppend.hAppend va_W va_W va_W _ ([((ma 0), .inl (X.2.1, 371, .inl fa))]) ([((ma 6), .inl (X.2.1, 55, .inl f_16))]))))) H locs := ⟨_, InA_o hI_f_15a (by rw [nI_clamp (by omega)]; omega), rfl, G⟩
              refine lv_aload_n zx zb dX11_pair_58 rfl (lv_at hl 1 rfl) ?_
              refine r_get (C := RX11) (T := TX11) (N := 18) (ci := 9) (v := .ref (ma 6)) S in_X11_pair_X11 G 2 rfl rfl 6 (by decide) lk_X11_pair_27 rfl dX11_pair_59 ?_
              refine lv_bipush (v := 11) zx zb dX11_pair_62 (by decide) ?_
              refine lv_iload_n zx zb dX11_pair_64 rfl (lv_at hl 3 rfl) ?_
              refine r_iadd (v := (nI (11 + j_3))) S (nI_add 11 j_3) dX11_pair_65 ?_
              refine lv_iload zx zb dX11_pair_66 (lv_at hl 0 rfl) ?_
              refine r_iast S G 4 rfl (vp_in_nI (by omega) (by decide)) dX11_pair_68 (fun H locs G => ?_)
              obtain ⟨f_17, hI_f_17, hE_f_17, G⟩ : ∃ f_17 : Nat → Int32, InA f_17 c0_15b c1_15c c2_15d c3_15e c4_15f ∧ f_17 = upd f_16 (nI (11 + j_3)).toNatClampNeg (nI k36) ∧ wd X (va_A (@HAppend.hAppend va_W va_W va_W _ (mW m0 ma la lb n t v) (@HAppend.hAppend va_W va_W va_W _ ([((ma 0), .inl (X.2.1, 371, .inl fa))]) (@HAppend.hAppend va_W va_W va_W _ ([((ma 6), .inl (X.2.1, 55, .inl fh))]) (@HAppend.hAppend va_W va_W va_W _ ([((ma 9), .inl (X.2.1, 20, .inl fb))]) ([((ma 3), .inl (X.2.1, 3, .inl fr))]))))) sz) (va_A (@HAppend.hAppend va_W va_W va_W _ (mW m0 ma la lb n t v) (@HAppend.hAppend va_W va_W va_W _ ([((ma 0), .inl (X.2.1, 371, .inl fa))]) (@HAppend.hAppend va_W va_W va_W _ ([((ma 6), .inl (X.2.1, 55, .inl fh))]) (@HAppend.hAppend va_W va_W va_W _ ([((ma 9), .inl (X.2.1, 20, .inl fb))]) ([((ma 3), .inl (X.2.1, 3, .inl fr))]))))) sz) s (@HAppend.hAppend va_W va_W va_W _ ([((ma 9), .inl (X.2.1, 20, .inl f36_3))]) (@HAppend.hAppend va_W va_W va_W _ ([((ma 3), .inl (X.2.1, 3, .inl fr))]) (@HAppend.hAppend va_W va_W va_W _ (mW m0 ma la lb n t v) (@HAppend.hAppend va_W va_W va_W _ ([((ma 0), .inl (X.2.1, 371, .inl fa))]) ([((ma 6), .inl (X.2.1, 55, .inl f_17))]))))) H locs := ⟨_, InA_o hI_f_16 (by rw [nI_clamp (by omega)]; omega), rfl, G⟩
              refine lv_aload_n zx zb dX11_pair_69 rfl (lv_at hl 1 rfl) ?_
              refine lv_iconst (v := 5) zx zb dX11_pair_70 (by decide) ?_
              refine b_wv (cells' := 0) (slots' := 0) (wr := @HAppend.hAppend va_W va_W va_W _ ([((ma 9), .inl (X.2.1, 20, .inl f36_3))]) (@HAppend.hAppend va_W va_W va_W _ ([((ma 3), .inl (X.2.1, 3, .inl fr))]) ([((ma 0), .inl (X.2.1, 371, .inl fa))]))) G rfl rfl [2, 4] [0, 1, 3] rfl rfl rfl rfl (n_V (As := [.int 5]) (rest := []) (C := RX11) (T := TX11) (N := 18) (ci := 9) S G (m_goAhead l X m0 ma la lb n t v f_17 c0_15b c1_15c c2_15d c3_15e c4_15f 5 hI_n hI_t hI_f_17 (by omega) H.size) gX11_pair_X11_goAhead rfl rfl rfl hdV_X11_goAhead ⟨Nat.le_of_ble_eq_true rfl, Nat.le_of_ble_eq_true rfl⟩ [2, 4] rfl rfl 2 rfl rfl rfl hl.1 (Nat.le_of_ble_eq_true rfl) dX11_pair_71 ⟨Nat.le_of_ble_eq_true rfl, Nat.le_of_ble_eq_true rfl⟩) (fun u_18 H locs hp_18 G => ?_)
              obtain ⟨f_18, rfl⟩ : ∃ z, z = u_18 := ⟨_, rfl⟩
              obtain ⟨hI_f_18, hq_18⟩ := hp_18
              have G : wd X (va_A (@HAppend.hAppend va_W va_W va_W _ (mW m0 ma la lb n t v) (@HAppend.hAppend va_W va_W va_W _ ([((ma 0), .inl (X.2.1, 371, .inl fa))]) (@HAppend.hAppend va_W va_W va_W _ ([((ma 6), .inl (X.2.1, 55, .inl fh))]) (@HAppend.hAppend va_W va_W va_W _ ([((ma 9), .inl (X.2.1, 20, .inl fb))]) ([((ma 3), .inl (X.2.1, 3, .inl fr))]))))) sz) (va_A (@HAppend.hAppend va_W va_W va_W _ (mW m0 ma la lb n t v) (@HAppend.hAppend va_W va_W va_W _ ([((ma 0), .inl (X.2.1, 371, .inl fa))]) (@HAppend.hAppend va_W va_W va_W _ ([((ma 6), .inl (X.2.1, 55, .inl fh))]) (@HAppend.hAppend va_W va_W va_W _ ([((ma 9), .inl (X.2.1, 20, .inl fb))]) ([((ma 3), .inl (X.2.1, 3, .inl fr))]))))) sz) s (@HAppend.hAppend va_W va_W va_W _ ([((ma 9), .inl (X.2.1, 20, .inl f36_3))]) (@HAppend.hAppend va_W va_W va_W _ ([((ma 3), .inl (X.2.1, 3, .inl fr))]) (@HAppend.hAppend va_W va_W va_W _ ([((ma 0), .inl (X.2.1, 371, .inl fa))]) (@HAppend.hAppend va_W va_W va_W _ (mW m0 ma la lb n t v) ([((ma 6), .inl (X.2.1, 55, .inl f_18))]))))) H locs := G
              refine lv_aload_n zx zb dX11_pair_74 rfl (lv_at hl 1 rfl) ?_
              refine r_get (C := RX11) (T := TX11) (N := 18) (ci := 9) (v := .ref (ma 9)) S in_X11_pair_X11 G 3 rfl rfl 9 (by decide) lk_X11_pair_36 rfl dX11_pair_75 ?_
              refine lv_iload zx zb dX11_pair_78 (lv_at hl 0 rfl) ?_
              refine lv_aload_n zx zb dX11_pair_80 rfl (lv_at hl 1 rfl) ?_
              refine r_get (C := RX11) (T := TX11) (N := 18) (ci := 9) (v := .ref (ma 6)) S in_X11_pair_X11 G 3 rfl rfl 6 (by decide) lk_X11_pair_27 rfl dX11_pair_81 ?_
              refine lv_iconst (v := 5) zx zb dX11_pair_84 (by decide) ?_
              refine lv_iload_n zx zb dX11_pair_85 rfl (lv_at hl 2 rfl) ?_
              refine r_iadd (v := (nI (5 + j_1))) S (nI_add 5 j_1) dX11_pair_86 ?_
              refine r_iald S G 4 rfl (vp_in_nI (by omega) (by decide)) rfl dX11_pair_87 ?_
              refine k_itE (fun y_19 => ?_)
              refine r_iast S G 0 rfl (vp_in_nI (by omega) (by decide)) dX11_pair_88 (fun H locs G => ?_)
              obtain ⟨f_20, G⟩ : ∃ f_20 : Nat → Int32, wd X (va_A (@HAppend.hAppend va_W va_W va_W _ (mW m0 ma la lb n t v) (@HAppend.hAppend va_W va_W va_W _ ([((ma 0), .inl (X.2.1, 371, .inl fa))]) (@HAppend.hAppend va_W va_W va_W _ ([((ma 6), .inl (X.2.1, 55, .inl fh))]) (@HAppend.hAppend va_W va_W va_W _ ([((ma 9), .inl (X.2.1, 20, .inl fb))]) ([((ma 3), .inl (X.2.1, 3, .inl fr))]))))) sz) (va_A (@HAppend.hAppend va_W va_W va_W _ (mW m0 ma la lb n t v) (@HAppend.hAppend va_W va_W va_W _ ([((ma 0), .inl (X.2.1, 371, .inl fa))]) (@HAppend.hAppend va_W va_W va_W _ ([((ma 6), .inl (X.2.1, 55, .inl fh))]) (@HAppend.hAppend va_W va_W va_W _ ([((ma 9), .inl (X.2.1, 20, .inl fb))]) ([((ma 3), .inl (X.2.1, 3, .inl fr))]))))) sz) s (@HAppend.hAppend va_W va_W va_W _ ([((ma 9), .inl (X.2.1, 20, .inl f_20))]) (@HAppend.hAppend va_W va_W va_W _ ([((ma 3), .inl (X.2.1, 3, .inl fr))]) (@HAppend.hAppend va_W va_W va_W _ ([((ma 0), .inl (X.2.1, 371, .inl fa))]) (@HAppend.hAppend va_W va_W va_W _ (mW m0 ma la lb n t v) ([((ma 6), .inl (X.2.1, 55, .inl f_18))]))))) H locs := ⟨_, G⟩
              refine lv_aload_n zx zb dX11_pair_89 rfl (lv_at hl 1 rfl) ?_
              refine r_get (C := RX11) (T := TX11) (N := 18) (ci := 9) (v := .ref (ma 9)) S in_X11_pair_X11 G 3 rfl rfl 9 (by decide) lk_X11_pair_36 rfl dX11_pair_90 ?_
              refine lv_bipush (v := 10) zx zb dX11_pair_93 (by decide) ?_
              refine lv_iload zx zb dX11_pair_95 (lv_at hl 0 rfl) ?_
              refine r_iadd (v := (nI (10 + k36))) S (nI_add 10 k36) dX11_pair_97 ?_
              refine lv_aload_n zx zb dX11_pair_98 rfl (lv_at hl 1 rfl) ?_
              refine r_get (C := RX11) (T := TX11) (N := 18) (ci := 9) (v := .ref (ma 6)) S in_X11_pair_X11 G 3 rfl rfl 6 (by decide) lk_X11_pair_27 rfl dX11_pair_99 ?_
              refine lv_iconst (v := 5) zx zb dX11_pair_102 (by decide) ?_
              refine lv_iload_n zx zb dX11_pair_103 rfl (lv_at hl 3 rfl) ?_
              refine r_iadd (v := (nI (5 + j_3))) S (nI_add 5 j_3) dX11_pair_104 ?_
              refine r_iald S G 4 rfl (vp_in_nI (by omega) (by decide)) rfl dX11_pair_105 ?_
              refine k_itE (fun y_21 => ?_)
              refine r_iast S G 0 rfl (vp_in_nI (by omega) (by decide)) dX11_pair_106 (fun H locs G => ?_)
              obtain ⟨f_22, G⟩ : ∃ f_22 : Nat → Int32, wd X (va_A (@HAppend.hAppend va_W va_W va_W _ (mW m0 ma la lb n t v) (@HAppend.hAppend va_W va_W va_W _ ([((ma 0), .inl (X.2.1, 371, .inl fa))]) (@HAppend.hAppend va_W va_W va_W _ ([((ma 6), .inl (X.2.1, 55, .inl fh))]) (@HAppend.hAppend va_W va_W va_W _ ([((ma 9), .inl (X.2.1, 20, .inl fb))]) ([((ma 3), .inl (X.2.1, 3, .inl fr))]))))) sz) (va_A (@HAppend.hAppend va_W va_W va_W _ (mW m0 ma la lb n t v) (@HAppend.hAppend va_W va_W va_W _ ([((ma 0), .inl (X.2.1, 371, .inl fa))]) (@HAppend.hAppend va_W va_W va_W _ ([((ma 6), .inl (X.2.1, 55, .inl fh))]) (@HAppend.hAppend va_W va_W va_W _ ([((ma 9), .inl (X.2.1, 20, .inl fb))]) ([((ma 3), .inl (X.2.1, 3, .inl fr))]))))) sz) s (@HAppend.hAppend va_W va_W va_W _ ([((ma 9), .inl (X.2.1, 20, .inl f_22))]) (@HAppend.hAppend va_W va_W va_W _ ([((ma 3), .inl (X.2.1, 3, .inl fr))]) (@HAppend.hAppend va_W va_W va_W _ ([((ma 0), .inl (X.2.1, 371, .inl fa))]) (@HAppend.hAppend va_W va_W va_W _ (mW m0 ma la lb n t v) ([((ma 6), .inl (X.2.1, 55, .inl f_18))]))))) H locs := ⟨_, G⟩
              refine lv_iinc (v := (nI (k36 + 1))) (lv' := [(4, .int (nI (k36 + 1))), (0, .ref m0), (1, .int (nI j_1)), (2, .int (nI j_3)), (3, .int x3)]) zx zb dX11_pair_107 hl (k := 0) rfl (nI_add k36 1) (by decide) rfl (fun ls hl => ?_)
              refine lv_goto (tgt := 36) zx zb dX11_pair_110 (by decide) ?_
              have G : wd X (va_A (@HAppend.hAppend va_W va_W va_W _ (mW m0 ma la lb n t v) (@HAppend.hAppend va_W va_W va_W _ ([((ma 0), .inl (X.2.1, 371, .inl fa))]) (@HAppend.hAppend va_W va_W va_W _ ([((ma 6), .inl (X.2.1, 55, .inl fh))]) (@HAppend.hAppend va_W va_W va_W _ ([((ma 9), .inl (X.2.1, 20, .inl fb))]) ([((ma 3), .inl (X.2.1, 3, .inl fr))]))))) sz) (va_A (@HAppend.hAppend va_W va_W va_W _ (mW m0 ma la lb n t v) (@HAppend.hAppend va_W va_W va_W _ ([((ma 0), .inl (X.2.1, 371, .inl fa))]) (@HAppend.hAppend va_W va_W va_W _ ([((ma 6), .inl (X.2.1, 55, .inl fh))]) (@HAppend.hAppend va_W va_W va_W _ ([((ma 9), .inl (X.2.1, 20, .inl fb))]) ([((ma 3), .inl (X.2.1, 3, .inl fr))]))))) sz) s (@HAppend.hAppend va_W va_W va_W _ (mW m0 ma la lb n t v) (@HAppend.hAppend va_W va_W va_W _ ([((ma 0), .inl (X.2.1, 371, .inl fa))]) (@HAppend.hAppend va_W va_W va_W _ ([((ma 6), .inl (X.2.1, 55, .inl f_18))]) (@HAppend.hAppend va_W va_W va_W _ ([((ma 9), .inl (X.2.1, 20, .inl f_22))]) ([((ma 3), .inl (X.2.1, 3, .inl fr))]))))) H locs := wd_sub G [3, 2, 4, 0, 1] rfl rfl
              exact ih36 (k36 + 1) f_18 c0_15b c1_15c c2_15d c3_15e c4_15f f_22 _ _ _ (by omega) hI_f_18 (by omega) G hl
        · refine lv_aload_n zx zb dX11_pair_26 rfl (lv_at hl 0 rfl) ?_
          refine lv_bipush (v := (-10)) zx zb dX11_pair_27 (by decide) ?_
          refine b_wi (cells' := 0) (slots' := 0) (wr := @HAppend.hAppend va_W va_W va_W _ ([((ma 0), .inl (X.2.1, 371, .inl fa))]) (@HAppend.hAppend va_W va_W va_W _ ([((ma 6), .inl (X.2.1, 55, .inl fh))]) ([((ma 9), .inl (X.2.1, 20, .inl fb))]))) G rfl rfl [0, 4] [1, 2, 3] rfl rfl rfl rfl (n_V (As := [.int (-10)]) (rest := []) (C := RX11) (T := TX11) (N := 18) (ci := 9) S G (m_bad l X m0 ma la lb n t v fr (-10) hI_n hI_t H.size) gX11_pair_X11_bad rfl rfl rfl hdV_X11_bad ⟨Nat.le_of_ble_eq_true rfl, Nat.le_of_ble_eq_true rfl⟩ [0, 4] rfl rfl 0 rfl rfl rfl hl.1 (Nat.le_of_ble_eq_true rfl) dX11_pair_29 ⟨Nat.le_of_ble_eq_true rfl, Nat.le_of_ble_eq_true rfl⟩) (fun r_23 u_23 H locs hp_23 G => ?_)
          obtain ⟨f_23, rfl⟩ : ∃ z, z = u_23 := ⟨_, rfl⟩
          have hq_23 := hp_23
          have G : wd X (va_A (@HAppend.hAppend va_W va_W va_W _ (mW m0 ma la lb n t v) (@HAppend.hAppend va_W va_W va_W _ ([((ma 0), .inl (X.2.1, 371, .inl fa))]) (@HAppend.hAppend va_W va_W va_W _ ([((ma 6), .inl (X.2.1, 55, .inl fh))]) (@HAppend.hAppend va_W va_W va_W _ ([((ma 9), .inl (X.2.1, 20, .inl fb))]) ([((ma 3), .inl (X.2.1, 3, .inl fr))]))))) sz) (va_A (@HAppend.hAppend va_W va_W va_W _ (mW m0 ma la lb n t v) (@HAppend.hAppend va_W va_W va_W _ ([((ma 0), .inl (X.2.1, 371, .inl fa))]) (@HAppend.hAppend va_W va_W va_W _ ([((ma 6), .inl (X.2.1, 55, .inl fh))]) (@HAppend.hAppend va_W va_W va_W _ ([((ma 9), .inl (X.2.1, 20, .inl fb))]) ([((ma 3), .inl (X.2.1, 3, .inl fr))]))))) sz) s (@HAppend.hAppend va_W va_W va_W _ ([((ma 0), .inl (X.2.1, 371, .inl fa))]) (@HAppend.hAppend va_W va_W va_W _ ([((ma 6), .inl (X.2.1, 55, .inl fh))]) (@HAppend.hAppend va_W va_W va_W _ ([((ma 9), .inl (X.2.1, 20, .inl fb))]) (@HAppend.hAppend va_W va_W va_W _ (mW m0 ma la lb n t v) ([((ma 3), .inl (X.2.1, 3, .inl f_23))]))))) H locs := G
          obtain rfl := hq_23
          exact e_int S zr zlk (vp_nar_int _) G (fh, d0, d1, d2, d3, d4, fb, f_23) [3, 0, 1, 2, 4] rfl rfl (Or.inr rfl) (⟨hI_fh, trivial⟩) dX11_pair_32
    · refine lv_if_eq (tgt := 26) zx zb dX11_pair_13 (by decide) (fun c_24 => ?_) (fun c_24 => absurd (by decide) c_24)
      refine lv_aload_n zx zb dX11_pair_26 rfl (lv_at hl 0 rfl) ?_
      refine lv_bipush (v := (-10)) zx zb dX11_pair_27 (by decide) ?_
      refine b_wi (cells' := 0) (slots' := 0) (wr := @HAppend.hAppend va_W va_W va_W _ ([((ma 0), .inl (X.2.1, 371, .inl fa))]) (@HAppend.hAppend va_W va_W va_W _ ([((ma 6), .inl (X.2.1, 55, .inl fh))]) ([((ma 9), .inl (X.2.1, 20, .inl fb))]))) G rfl rfl [0, 4] [1, 2, 3] rfl rfl rfl rfl (n_V (As := [.int (-10)]) (rest := []) (C := RX11) (T := TX11) (N := 18) (ci := 9) S G (m_bad l X m0 ma la lb n t v fr (-10) hI_n hI_t H.size) gX11_pair_X11_bad rfl rfl rfl hdV_X11_bad ⟨Nat.le_of_ble_eq_true rfl, Nat.le_of_ble_eq_true rfl⟩ [0, 4] rfl rfl 0 rfl rfl rfl hl.1 (Nat.le_of_ble_eq_true rfl) dX11_pair_29 ⟨Nat.le_of_ble_eq_true rfl, Nat.le_of_ble_eq_true rfl⟩) (fun r_25 u_25 H locs hp_25 G => ?_)
      obtain ⟨f_25, rfl⟩ : ∃ z, z = u_25 := ⟨_, rfl⟩
      have hq_25 := hp_25
      have G : wd X (va_A (@HAppend.hAppend va_W va_W va_W _ (mW m0 ma la lb n t v) (@HAppend.hAppend va_W va_W va_W _ ([((ma 0), .inl (X.2.1, 371, .inl fa))]) (@HAppend.hAppend va_W va_W va_W _ ([((ma 6), .inl (X.2.1, 55, .inl fh))]) (@HAppend.hAppend va_W va_W va_W _ ([((ma 9), .inl (X.2.1, 20, .inl fb))]) ([((ma 3), .inl (X.2.1, 3, .inl fr))]))))) sz) (va_A (@HAppend.hAppend va_W va_W va_W _ (mW m0 ma la lb n t v) (@HAppend.hAppend va_W va_W va_W _ ([((ma 0), .inl (X.2.1, 371, .inl fa))]) (@HAppend.hAppend va_W va_W va_W _ ([((ma 6), .inl (X.2.1, 55, .inl fh))]) (@HAppend.hAppend va_W va_W va_W _ ([((ma 9), .inl (X.2.1, 20, .inl fb))]) ([((ma 3), .inl (X.2.1, 3, .inl fr))]))))) sz) s (@HAppend.hAppend va_W va_W va_W _ ([((ma 0), .inl (X.2.1, 371, .inl fa))]) (@HAppend.hAppend va_W va_W va_W _ ([((ma 6), .inl (X.2.1, 55, .inl fh))]) (@HAppend.hAppend va_W va_W va_W _ ([((ma 9), .inl (X.2.1, 20, .inl fb))]) (@HAppend.hAppend va_W va_W va_W _ (mW m0 ma la lb n t v) ([((ma 3), .inl (X.2.1, 3, .inl f_25))]))))) H locs := G
      obtain rfl := hq_25
      exact e_int S zr zlk (vp_nar_int _) G (fh, d0, d1, d2, d3, d4, fb, f_25) [3, 0, 1, 2, 4] rfl rfl (Or.inr rfl) (⟨hI_fh, trivial⟩) dX11_pair_32
  · refine lv_if_eq (tgt := 26) zx zb dX11_pair_5 (by decide) (fun c_26 => ?_) (fun c_26 => absurd (by decide) c_26)
    refine lv_aload_n zx zb dX11_pair_26 rfl (lv_at hl 0 rfl) ?_
    refine lv_bipush (v := (-10)) zx zb dX11_pair_27 (by decide) ?_
    refine b_wi (cells' := 0) (slots' := 0) (wr := @HAppend.hAppend va_W va_W va_W _ ([((ma 0), .inl (X.2.1, 371, .inl fa))]) (@HAppend.hAppend va_W va_W va_W _ ([((ma 6), .inl (X.2.1, 55, .inl fh))]) ([((ma 9), .inl (X.2.1, 20, .inl fb))]))) G rfl rfl [0, 4] [1, 2, 3] rfl rfl rfl rfl (n_V (As := [.int (-10)]) (rest := []) (C := RX11) (T := TX11) (N := 18) (ci := 9) S G (m_bad l X m0 ma la lb n t v fr (-10) hI_n hI_t H.size) gX11_pair_X11_bad rfl rfl rfl hdV_X11_bad ⟨Nat.le_of_ble_eq_true rfl, Nat.le_of_ble_eq_true rfl⟩ [0, 4] rfl rfl 0 rfl rfl rfl hl.1 (Nat.le_of_ble_eq_true rfl) dX11_pair_29 ⟨Nat.le_of_ble_eq_true rfl, Nat.le_of_ble_eq_true rfl⟩) (fun r_27 u_27 H locs hp_27 G => ?_)
    obtain ⟨f_27, rfl⟩ : ∃ z, z = u_27 := ⟨_, rfl⟩
    have hq_27 := hp_27
    have G : wd X (va_A (@HAppend.hAppend va_W va_W va_W _ (mW m0 ma la lb n t v) (@HAppend.hAppend va_W va_W va_W _ ([((ma 0), .inl (X.2.1, 371, .inl fa))]) (@HAppend.hAppend va_W va_W va_W _ ([((ma 6), .inl (X.2.1, 55, .inl fh))]) (@HAppend.hAppend va_W va_W va_W _ ([((ma 9), .inl (X.2.1, 20, .inl fb))]) ([((ma 3), .inl (X.2.1, 3, .inl fr))]))))) sz) (va_A (@HAppend.hAppend va_W va_W va_W _ (mW m0 ma la lb n t v) (@HAppend.hAppend va_W va_W va_W _ ([((ma 0), .inl (X.2.1, 371, .inl fa))]) (@HAppend.hAppend va_W va_W va_W _ ([((ma 6), .inl (X.2.1, 55, .inl fh))]) (@HAppend.hAppend va_W va_W va_W _ ([((ma 9), .inl (X.2.1, 20, .inl fb))]) ([((ma 3), .inl (X.2.1, 3, .inl fr))]))))) sz) s (@HAppend.hAppend va_W va_W va_W _ ([((ma 0), .inl (X.2.1, 371, .inl fa))]) (@HAppend.hAppend va_W va_W va_W _ ([((ma 6), .inl (X.2.1, 55, .inl fh))]) (@HAppend.hAppend va_W va_W va_W _ ([((ma 9), .inl (X.2.1, 20, .inl fb))]) (@HAppend.hAppend va_W va_W va_W _ (mW m0 ma la lb n t v) ([((ma 3), .inl (X.2.1, 3, .inl f_27))]))))) H locs := G
    obtain rfl := hq_27
    exact e_int S zr zlk (vp_nar_int _) G (fh, d0, d1, d2, d3, d4, fb, f_27) [3, 0, 1, 2, 4] rfl rfl (Or.inr rfl) (⟨hI_fh, trivial⟩) dX11_pair_32
