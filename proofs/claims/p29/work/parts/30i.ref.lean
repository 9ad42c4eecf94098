set_option maxRecDepth 20000 in
theorem ggX11_ask_X11_bad : GoodIn wsX11_ask wsX11_bad := goodIn_r _ [19, 20, 35, 36, 37, 38, 39, 40, 41, 42, 43, 44, 45, 46, 47, 48, 49, 50, 51, 52] rfl (by decide +kernel)
set_option maxRecDepth 20000 in
theorem gX11_ask_X11_bad : GoodIn wsX11_ask (wsV RX11 68 RX11 yX11_bad wsX11_bad) := goodIn_app (goodIn_of _ (by decide +kernel)) ggX11_ask_X11_bad
set_option maxRecDepth 20000 in
theorem ggX11_ask_X11_isOne : GoodIn wsX11_ask wsX11_isOne := goodIn_r _ [7, 8, 9, 10, 6, 11, 12, 13, 14, 15, 35, 36, 37, 38, 39, 40, 41, 42, 43, 44, 45, 46, 47, 48, 49, 50, 51, 52] rfl (by decide +kernel)
set_option maxRecDepth 20000 in
theorem gX11_ask_X11_isOne : GoodIn wsX11_ask (wsV RX11 123 RX11 yX11_isOne wsX11_isOne) := goodIn_app (goodIn_of _ (by decide +kernel)) ggX11_ask_X11_isOne
set_option maxRecDepth 20000 in
theorem ggX11_ask_X11_kindsOfEgg : GoodIn wsX11_ask wsX11_kindsOfEgg := goodIn_r _ [24, 12, 25, 26, 6, 27, 35, 36, 37, 38, 39, 40, 41, 42, 43, 44, 45, 46, 47, 48, 49, 50, 51, 52] rfl (by decide +kernel)
set_option maxRecDepth 20000 in
theorem gX11_ask_X11_kindsOfEgg : GoodIn wsX11_ask (wsV RX11 171 RX11 yX11_kindsOfEgg wsX11_kindsOfEgg) := goodIn_app (goodIn_of _ (by decide +kernel)) ggX11_ask_X11_kindsOfEgg
set_option maxRecDepth 20000 in
theorem ggX11_ask_X11_mayAs : GoodIn wsX11_ask wsX11_mayAs := goodIn_r _ [27] rfl (by decide +kernel)
set_option maxRecDepth 20000 in
theorem gX11_ask_X11_mayAs : GoodIn wsX11_ask (va_wsS RX11 94 yX11_mayAs wsX11_mayAs) := goodIn_app (goodIn_of _ (by decide +kernel)) ggX11_ask_X11_mayAs
set_option maxRecDepth 20000 in
theorem ggX11_ask_X11_mostAlike : GoodIn wsX11_ask wsX11_mostAlike := goodIn_r _ [31, 2, 32, 33, 6, 34, 35, 36, 37, 38, 39, 40, 41, 42, 43, 44, 45, 46, 47, 48, 49, 50, 51, 52] rfl (by decide +kernel)
set_option maxRecDepth 20000 in
theorem gX11_ask_X11_mostAlike : GoodIn wsX11_ask (wsV RX11 165 RX11 yX11_mostAlike wsX11_mostAlike) := goodIn_app (goodIn_of _ (by decide +kernel)) ggX11_ask_X11_mostAlike
set_option maxRecDepth 20000 in
theorem ggX11_look_X11_bad : GoodIn wsX11_look wsX11_bad := goodIn_r _ [19, 20, 35, 36, 37, 38, 39, 40, 41, 42, 43, 44, 45, 46, 47, 48, 49, 50, 51, 52] rfl (by decide +kernel)
set_option maxRecDepth 20000 in
theorem gX11_look_X11_bad : GoodIn wsX11_look (wsV RX11 68 RX11 yX11_bad wsX11_bad) := goodIn_app (goodIn_of _ (by decide +kernel)) ggX11_look_X11_bad
set_option maxRecDepth 20000 in
theorem ggX11_look_X11_isOne : GoodIn wsX11_look wsX11_isOne := goodIn_r _ [8, 9, 10, 11, 7, 12, 3, 13, 14, 15, 35, 36, 37, 38, 39, 40, 41, 42, 43, 44, 45, 46, 47, 48, 49, 50, 51, 52] rfl (by decide +kernel)
set_option maxRecDepth 20000 in
theorem gX11_look_X11_isOne : GoodIn wsX11_look (wsV RX11 123 RX11 yX11_isOne wsX11_isOne) := goodIn_app (goodIn_of _ (by decide +kernel)) ggX11_look_X11_isOne
set_option maxRecDepth 20000 in
theorem ggX11_look_X11_kindsOfOne : GoodIn wsX11_look wsX11_kindsOfOne := goodIn_r _ [24, 3, 25, 26, 7, 27, 35, 36, 37, 38, 39, 40, 41, 42, 43, 44, 45, 46, 47, 48, 49, 50, 51, 52] rfl (by decide +kernel)
set_option maxRecDepth 20000 in
theorem gX11_look_X11_kindsOfOne : GoodIn wsX11_look (wsV RX11 168 RX11 yX11_kindsOfOne wsX11_kindsOfOne) := goodIn_app (goodIn_of _ (by decide +kernel)) ggX11_look_X11_kindsOfOne
set_option maxRecDepth 20000 in
theorem ggX11_look_X11_mostAlike : GoodIn wsX11_look wsX11_mostAlike := goodIn_r _ [31, 2, 32, 33, 7, 34, 35, 36, 37, 38, 39, 40, 41, 42, 43, 44, 45, 46, 47, 48, 49, 50, 51, 52] rfl (by decide +kernel)
set_option maxRecDepth 20000 in
theorem gX11_look_X11_mostAlike : GoodIn wsX11_look (wsV RX11 165 RX11 yX11_mostAlike wsX11_mostAlike) := goodIn_app (goodIn_of _ (by decide +kernel)) ggX11_look_X11_mostAlike
set_option maxRecDepth 20000 in
theorem ggX11_look_X11_runsAs : GoodIn wsX11_look wsX11_runsAs := goodIn_r _ [27] rfl (by decide +kernel)
set_option maxRecDepth 20000 in
theorem gX11_look_X11_runsAs : GoodIn wsX11_look (va_wsS RX11 86 yX11_runsAs wsX11_runsAs) := goodIn_app (goodIn_of _ (by decide +kernel)) ggX11_look_X11_runsAs
set_option maxRecDepth 20000 in
theorem ggX11_tell_X11_bad : GoodIn wsX11_tell wsX11_bad := goodIn_r _ [19, 20, 35, 36, 37, 38, 39, 40, 41, 42, 43, 44, 45, 46, 47, 48, 49, 50, 51, 52] rfl (by decide +kernel)
set_option maxRecDepth 20000 in
theorem gX11_tell_X11_bad : GoodIn wsX11_tell (wsV RX11 68 RX11 yX11_bad wsX11_bad) := goodIn_app (goodIn_of _ (by decide +kernel)) ggX11_tell_X11_bad
set_option maxRecDepth 20000 in
theorem ggX11_tell_X11_isOne : GoodIn wsX11_tell wsX11_isOne := goodIn_r _ [8, 9, 10, 11, 7, 12, 3, 13, 14, 15, 35, 36, 37, 38, 39, 40, 41, 42, 43, 44, 45, 46, 47, 48, 49, 50, 51, 52] rfl (by decide +kernel)
set_option maxRecDepth 20000 in
theorem gX11_tell_X11_isOne : GoodIn wsX11_tell (wsV RX11 123 RX11 yX11_isOne wsX11_isOne) := goodIn_app (goodIn_of _ (by decide +kernel)) ggX11_tell_X11_isOne
set_option maxRecDepth 20000 in
theorem ggX11_tell_X11_legsOf : GoodIn wsX11_tell wsX11_legsOf := goodIn_r _ [24, 3, 25, 26, 7, 27, 35, 36, 37, 38, 39, 40, 41, 42, 43, 44, 45, 46, 47, 48, 49, 50, 51, 52] rfl (by decide +kernel)
set_option maxRecDepth 20000 in
theorem gX11_tell_X11_legsOf : GoodIn wsX11_tell (wsV RX11 158 RX11 yX11_legsOf wsX11_legsOf) := goodIn_app (goodIn_of _ (by decide +kernel)) ggX11_tell_X11_legsOf
set_option maxRecDepth 20000 in
theorem ggX11_tell_X11_mostAlike : GoodIn wsX11_tell wsX11_mostAlike := goodIn_r _ [31, 2, 32, 33, 7, 34, 35, 36, 37, 38, 39, 40, 41, 42, 43, 44, 45, 46, 47, 48, 49, 50, 51, 52] rfl (by decide +kernel)
set_option maxRecDepth 20000 in
theorem gX11_tell_X11_mostAlike : GoodIn wsX11_tell (wsV RX11 165 RX11 yX11_mostAlike wsX11_mostAlike) := goodIn_app (goodIn_of _ (by decide +kernel)) ggX11_tell_X11_mostAlike
set_option maxRecDepth 20000 in
theorem ggX11_tell_X11_runsAs : GoodIn wsX11_tell wsX11_runsAs := goodIn_r _ [27] rfl (by decide +kernel)
set_option maxRecDepth 20000 in
theorem gX11_tell_X11_runsAs : GoodIn wsX11_tell (va_wsS RX11 86 yX11_runsAs wsX11_runsAs) := goodIn_app (goodIn_of _ (by decide +kernel)) ggX11_tell_X11_runsAs
theorem dX11_ask_0 : decode cX11_ask 0 = .ok (.aload_n 0, 1) := by decide +kernel
theorem dX11_ask_1 : decode cX11_ask 1 = .ok (.iload_n 1, 1) := by decide +kernel
theorem dX11_ask_101 : decode cX11_ask 101 = .ok (.goto 5, 3) := by decide +kernel
theorem dX11_ask_104 : decode cX11_ask 104 = .ok (.iload 4, 2) := by decide +kernel
theorem dX11_ask_106 : decode cX11_ask 106 = .ok (.istore 4, 2) := by decide +kernel
theorem dX11_ask_108 : decode cX11_ask 108 = .ok (.iinc 5 1, 3) := by decide +kernel
theorem dX11_ask_11 : decode cX11_ask 11 = .ok (.invokevirtual 68, 3) := by decide +kernel
theorem dX11_ask_111 : decode cX11_ask 111 = .ok (.goto (-81), 3) := by decide +kernel
theorem dX11_ask_114 : decode cX11_ask 114 = .ok (.iload_n 3, 1) := by decide +kernel
theorem dX11_ask_115 : decode cX11_ask 115 = .ok (.ireturn, 1) := by decide +kernel
theorem dX11_ask_14 : decode cX11_ask 14 = .ok (.ireturn, 1) := by decide +kernel
theorem dX11_ask_15 : decode cX11_ask 15 = .ok (.aload_n 0, 1) := by decide +kernel
theorem dX11_ask_16 : decode cX11_ask 16 = .ok (.iload_n 1, 1) := by decide +kernel
theorem dX11_ask_17 : decode cX11_ask 17 = .ok (.invokevirtual 171, 3) := by decide +kernel
theorem dX11_ask_2 : decode cX11_ask 2 = .ok (.invokevirtual 123, 3) := by decide +kernel
theorem dX11_ask_20 : decode cX11_ask 20 = .ok (.istore_n 2, 1) := by decide +kernel
theorem dX11_ask_21 : decode cX11_ask 21 = .ok (.iconst (-1), 1) := by decide +kernel
theorem dX11_ask_22 : decode cX11_ask 22 = .ok (.istore_n 3, 1) := by decide +kernel
theorem dX11_ask_23 : decode cX11_ask 23 = .ok (.ldc 150, 2) := by decide +kernel
theorem dX11_ask_25 : decode cX11_ask 25 = .ok (.istore 4, 2) := by decide +kernel
theorem dX11_ask_27 : decode cX11_ask 27 = .ok (.iconst 0, 1) := by decide +kernel
theorem dX11_ask_28 : decode cX11_ask 28 = .ok (.istore 5, 2) := by decide +kernel
theorem dX11_ask_30 : decode cX11_ask 30 = .ok (.iload 5, 2) := by decide +kernel
theorem dX11_ask_32 : decode cX11_ask 32 = .ok (.bipush 20, 2) := by decide +kernel
theorem dX11_ask_34 : decode cX11_ask 34 = .ok (.if_icmp .ge 80, 3) := by decide +kernel
theorem dX11_ask_37 : decode cX11_ask 37 = .ok (.iload_n 2, 1) := by decide +kernel
theorem dX11_ask_38 : decode cX11_ask 38 = .ok (.ifCond .le 76, 3) := by decide +kernel
theorem dX11_ask_41 : decode cX11_ask 41 = .ok (.iconst 0, 1) := by decide +kernel
theorem dX11_ask_42 : decode cX11_ask 42 = .ok (.istore 6, 2) := by decide +kernel
theorem dX11_ask_44 : decode cX11_ask 44 = .ok (.iload 6, 2) := by decide +kernel
theorem dX11_ask_46 : decode cX11_ask 46 = .ok (.bipush 6, 2) := by decide +kernel
theorem dX11_ask_48 : decode cX11_ask 48 = .ok (.if_icmp .ge 23, 3) := by decide +kernel
theorem dX11_ask_5 : decode cX11_ask 5 = .ok (.ifCond .ne 10, 3) := by decide +kernel
theorem dX11_ask_51 : decode cX11_ask 51 = .ok (.aload_n 0, 1) := by decide +kernel
theorem dX11_ask_52 : decode cX11_ask 52 = .ok (.getfield 33, 3) := by decide +kernel
theorem dX11_ask_55 : decode cX11_ask 55 = .ok (.iload 6, 2) := by decide +kernel
theorem dX11_ask_57 : decode cX11_ask 57 = .ok (.iload 6, 2) := by decide +kernel
theorem dX11_ask_59 : decode cX11_ask 59 = .ok (.iload 5, 2) := by decide +kernel
theorem dX11_ask_61 : decode cX11_ask 61 = .ok (.invokestatic 94, 3) := by decide +kernel
theorem dX11_ask_64 : decode cX11_ask 64 = .ok (.iastore, 1) := by decide +kernel
theorem dX11_ask_65 : decode cX11_ask 65 = .ok (.iinc 6 1, 3) := by decide +kernel
theorem dX11_ask_68 : decode cX11_ask 68 = .ok (.goto (-24), 3) := by decide +kernel
theorem dX11_ask_71 : decode cX11_ask 71 = .ok (.aload_n 0, 1) := by decide +kernel
theorem dX11_ask_72 : decode cX11_ask 72 = .ok (.iload_n 2, 1) := by decide +kernel
theorem dX11_ask_73 : decode cX11_ask 73 = .ok (.invokevirtual 165, 3) := by decide +kernel
theorem dX11_ask_76 : decode cX11_ask 76 = .ok (.istore 6, 2) := by decide +kernel
theorem dX11_ask_78 : decode cX11_ask 78 = .ok (.iload 6, 2) := by decide +kernel
theorem dX11_ask_8 : decode cX11_ask 8 = .ok (.aload_n 0, 1) := by decide +kernel
theorem dX11_ask_80 : decode cX11_ask 80 = .ok (.iload 4, 2) := by decide +kernel
theorem dX11_ask_82 : decode cX11_ask 82 = .ok (.if_icmp .ge 8, 3) := by decide +kernel
theorem dX11_ask_85 : decode cX11_ask 85 = .ok (.iload 5, 2) := by decide +kernel
theorem dX11_ask_87 : decode cX11_ask 87 = .ok (.goto 4, 3) := by decide +kernel
theorem dX11_ask_9 : decode cX11_ask 9 = .ok (.bipush (-2), 2) := by decide +kernel
theorem dX11_ask_90 : decode cX11_ask 90 = .ok (.iload_n 3, 1) := by decide +kernel
theorem dX11_ask_91 : decode cX11_ask 91 = .ok (.istore_n 3, 1) := by decide +kernel
theorem dX11_ask_92 : decode cX11_ask 92 = .ok (.iload 6, 2) := by decide +kernel
theorem dX11_ask_94 : decode cX11_ask 94 = .ok (.iload 4, 2) := by decide +kernel
theorem dX11_ask_96 : decode cX11_ask 96 = .ok (.if_icmp .ge 8, 3) := by decide +kernel
theorem dX11_ask_99 : decode cX11_ask 99 = .ok (.iload 6, 2) := by decide +kernel
theorem dX11_look_0 : decode cX11_look 0 = .ok (.aload_n 0, 1) := by decide +kernel
theorem dX11_look_1 : decode cX11_look 1 = .ok (.iload_n 1, 1) := by decide +kernel
theorem dX11_look_100 : decode cX11_look 100 = .ok (.if_icmp .ge 8, 3) := by decide +kernel
theorem dX11_look_103 : decode cX11_look 103 = .ok (.iload 5, 2) := by decide +kernel
theorem dX11_look_105 : decode cX11_look 105 = .ok (.goto 4, 3) := by decide +kernel
theorem dX11_look_108 : decode cX11_look 108 = .ok (.iload_n 3, 1) := by decide +kernel
theorem dX11_look_109 : decode cX11_look 109 = .ok (.istore_n 3, 1) := by decide +kernel
theorem dX11_look_11 : decode cX11_look 11 = .ok (.invokevirtual 68, 3) := by decide +kernel
theorem dX11_look_110 : decode cX11_look 110 = .ok (.iload 6, 2) := by decide +kernel
theorem dX11_look_112 : decode cX11_look 112 = .ok (.iload 4, 2) := by decide +kernel
theorem dX11_look_114 : decode cX11_look 114 = .ok (.if_icmp .ge 8, 3) := by decide +kernel
theorem dX11_look_117 : decode cX11_look 117 = .ok (.iload 6, 2) := by decide +kernel
theorem dX11_look_119 : decode cX11_look 119 = .ok (.goto 5, 3) := by decide +kernel
theorem dX11_look_122 : decode cX11_look 122 = .ok (.iload 4, 2) := by decide +kernel
theorem dX11_look_124 : decode cX11_look 124 = .ok (.istore 4, 2) := by decide +kernel
theorem dX11_look_126 : decode cX11_look 126 = .ok (.iinc 5 1, 3) := by decide +kernel
theorem dX11_look_129 : decode cX11_look 129 = .ok (.goto (-99), 3) := by decide +kernel
theorem dX11_look_132 : decode cX11_look 132 = .ok (.iload_n 3, 1) := by decide +kernel
theorem dX11_look_133 : decode cX11_look 133 = .ok (.ireturn, 1) := by decide +kernel
theorem dX11_look_14 : decode cX11_look 14 = .ok (.ireturn, 1) := by decide +kernel
theorem dX11_look_15 : decode cX11_look 15 = .ok (.aload_n 0, 1) := by decide +kernel
theorem dX11_look_16 : decode cX11_look 16 = .ok (.iload_n 1, 1) := by decide +kernel
theorem dX11_look_17 : decode cX11_look 17 = .ok (.invokevirtual 168, 3) := by decide +kernel
theorem dX11_look_2 : decode cX11_look 2 = .ok (.invokevirtual 123, 3) := by decide +kernel
theorem dX11_look_20 : decode cX11_look 20 = .ok (.istore_n 2, 1) := by decide +kernel
theorem dX11_look_21 : decode cX11_look 21 = .ok (.iconst (-1), 1) := by decide +kernel
theorem dX11_look_22 : decode cX11_look 22 = .ok (.istore_n 3, 1) := by decide +kernel
theorem dX11_look_23 : decode cX11_look 23 = .ok (.ldc 150, 2) := by decide +kernel
theorem dX11_look_25 : decode cX11_look 25 = .ok (.istore 4, 2) := by decide +kernel
theorem dX11_look_27 : decode cX11_look 27 = .ok (.iconst 0, 1) := by decide +kernel
theorem dX11_look_28 : decode cX11_look 28 = .ok (.istore 5, 2) := by decide +kernel
theorem dX11_look_30 : decode cX11_look 30 = .ok (.iload 5, 2) := by decide +kernel
theorem dX11_look_32 : decode cX11_look 32 = .ok (.sipush 200, 3) := by decide +kernel
theorem dX11_look_35 : decode cX11_look 35 = .ok (.if_icmp .ge 97, 3) := by decide +kernel
theorem dX11_look_38 : decode cX11_look 38 = .ok (.iload_n 2, 1) := by decide +kernel
theorem dX11_look_39 : decode cX11_look 39 = .ok (.ifCond .le 93, 3) := by decide +kernel
theorem dX11_look_42 : decode cX11_look 42 = .ok (.iconst 0, 1) := by decide +kernel
theorem dX11_look_43 : decode cX11_look 43 = .ok (.istore 6, 2) := by decide +kernel
theorem dX11_look_45 : decode cX11_look 45 = .ok (.iload 6, 2) := by decide +kernel
theorem dX11_look_47 : decode cX11_look 47 = .ok (.bipush 6, 2) := by decide +kernel
theorem dX11_look_49 : decode cX11_look 49 = .ok (.if_icmp .ge 40, 3) := by decide +kernel
theorem dX11_look_5 : decode cX11_look 5 = .ok (.ifCond .ne 10, 3) := by decide +kernel
theorem dX11_look_52 : decode cX11_look 52 = .ok (.aload_n 0, 1) := by decide +kernel
theorem dX11_look_53 : decode cX11_look 53 = .ok (.getfield 33, 3) := by decide +kernel
theorem dX11_look_56 : decode cX11_look 56 = .ok (.iload 6, 2) := by decide +kernel
theorem dX11_look_58 : decode cX11_look 58 = .ok (.iload 6, 2) := by decide +kernel
theorem dX11_look_60 : decode cX11_look 60 = .ok (.aload_n 0, 1) := by decide +kernel
theorem dX11_look_61 : decode cX11_look 61 = .ok (.getfield 7, 3) := by decide +kernel
theorem dX11_look_64 : decode cX11_look 64 = .ok (.bipush 43, 2) := by decide +kernel
theorem dX11_look_66 : decode cX11_look 66 = .ok (.iload_n 1, 1) := by decide +kernel
theorem dX11_look_67 : decode cX11_look 67 = .ok (.iadd, 1) := by decide +kernel
theorem dX11_look_68 : decode cX11_look 68 = .ok (.iaload, 1) := by decide +kernel
theorem dX11_look_69 : decode cX11_look 69 = .ok (.iload 5, 2) := by decide +kernel
theorem dX11_look_71 : decode cX11_look 71 = .ok (.bipush 10, 2) := by decide +kernel
theorem dX11_look_73 : decode cX11_look 73 = .ok (.irem, 1) := by decide +kernel
theorem dX11_look_74 : decode cX11_look 74 = .ok (.iload 5, 2) := by decide +kernel
theorem dX11_look_76 : decode cX11_look 76 = .ok (.bipush 10, 2) := by decide +kernel
theorem dX11_look_78 : decode cX11_look 78 = .ok (.idiv, 1) := by decide +kernel
theorem dX11_look_79 : decode cX11_look 79 = .ok (.invokestatic 86, 3) := by decide +kernel
theorem dX11_look_8 : decode cX11_look 8 = .ok (.aload_n 0, 1) := by decide +kernel
theorem dX11_look_82 : decode cX11_look 82 = .ok (.iastore, 1) := by decide +kernel
theorem dX11_look_83 : decode cX11_look 83 = .ok (.iinc 6 1, 3) := by decide +kernel
theorem dX11_look_86 : decode cX11_look 86 = .ok (.goto (-41), 3) := by decide +kernel
theorem dX11_look_89 : decode cX11_look 89 = .ok (.aload_n 0, 1) := by decide +kernel
theorem dX11_look_9 : decode cX11_look 9 = .ok (.bipush (-2), 2) := by decide +kernel
theorem dX11_look_90 : decode cX11_look 90 = .ok (.iload_n 2, 1) := by decide +kernel
theorem dX11_look_91 : decode cX11_look 91 = .ok (.invokevirtual 165, 3) := by decide +kernel
theorem dX11_look_94 : decode cX11_look 94 = .ok (.istore 6, 2) := by decide +kernel
theorem dX11_look_96 : decode cX11_look 96 = .ok (.iload 6, 2) := by decide +kernel
theorem dX11_look_98 : decode cX11_look 98 = .ok (.iload 4, 2) := by decide +kernel
theorem dX11_tell_0 : decode cX11_tell 0 = .ok (.aload_n 0, 1) := by decide +kernel
theorem dX11_tell_1 : decode cX11_tell 1 = .ok (.iload_n 1, 1) := by decide +kernel
theorem dX11_tell_100 : decode cX11_tell 100 = .ok (.if_icmp .ge 8, 3) := by decide +kernel
theorem dX11_tell_103 : decode cX11_tell 103 = .ok (.iload 5, 2) := by decide +kernel
theorem dX11_tell_105 : decode cX11_tell 105 = .ok (.goto 4, 3) := by decide +kernel
theorem dX11_tell_108 : decode cX11_tell 108 = .ok (.iload_n 3, 1) := by decide +kernel
theorem dX11_tell_109 : decode cX11_tell 109 = .ok (.istore_n 3, 1) := by decide +kernel
theorem dX11_tell_11 : decode cX11_tell 11 = .ok (.invokevirtual 68, 3) := by decide +kernel
theorem dX11_tell_110 : decode cX11_tell 110 = .ok (.iload 6, 2) := by decide +kernel
theorem dX11_tell_112 : decode cX11_tell 112 = .ok (.iload 4, 2) := by decide +kernel
theorem dX11_tell_114 : decode cX11_tell 114 = .ok (.if_icmp .ge 8, 3) := by decide +kernel
theorem dX11_tell_117 : decode cX11_tell 117 = .ok (.iload 6, 2) := by decide +kernel
theorem dX11_tell_119 : decode cX11_tell 119 = .ok (.goto 5, 3) := by decide +kernel
theorem dX11_tell_122 : decode cX11_tell 122 = .ok (.iload 4, 2) := by decide +kernel
theorem dX11_tell_124 : decode cX11_tell 124 = .ok (.istore 4, 2) := by decide +kernel
theorem dX11_tell_126 : decode cX11_tell 126 = .ok (.iinc 5 1, 3) := by decide +kernel
theorem dX11_tell_129 : decode cX11_tell 129 = .ok (.goto (-99), 3) := by decide +kernel
theorem dX11_tell_132 : decode cX11_tell 132 = .ok (.iload_n 3, 1) := by decide +kernel
theorem dX11_tell_133 : decode cX11_tell 133 = .ok (.ireturn, 1) := by decide +kernel
theorem dX11_tell_14 : decode cX11_tell 14 = .ok (.ireturn, 1) := by decide +kernel
theorem dX11_tell_15 : decode cX11_tell 15 = .ok (.aload_n 0, 1) := by decide +kernel
theorem dX11_tell_16 : decode cX11_tell 16 = .ok (.iload_n 1, 1) := by decide +kernel
theorem dX11_tell_17 : decode cX11_tell 17 = .ok (.invokevirtual 158, 3) := by decide +kernel
theorem dX11_tell_2 : decode cX11_tell 2 = .ok (.invokevirtual 123, 3) := by decide +kernel
theorem dX11_tell_20 : decode cX11_tell 20 = .ok (.istore_n 2, 1) := by decide +kernel
theorem dX11_tell_21 : decode cX11_tell 21 = .ok (.iconst (-1), 1) := by decide +kernel
theorem dX11_tell_22 : decode cX11_tell 22 = .ok (.istore_n 3, 1) := by decide +kernel
theorem dX11_tell_23 : decode cX11_tell 23 = .ok (.ldc 150, 2) := by decide +kernel
theorem dX11_tell_25 : decode cX11_tell 25 = .ok (.istore 4, 2) := by decide +kernel
theorem dX11_tell_27 : decode cX11_tell 27 = .ok (.iconst 0, 1) := by decide +kernel
theorem dX11_tell_28 : decode cX11_tell 28 = .ok (.istore 5, 2) := by decide +kernel
theorem dX11_tell_30 : decode cX11_tell 30 = .ok (.iload 5, 2) := by decide +kernel
theorem dX11_tell_32 : decode cX11_tell 32 = .ok (.sipush 200, 3) := by decide +kernel
theorem dX11_tell_35 : decode cX11_tell 35 = .ok (.if_icmp .ge 97, 3) := by decide +kernel
theorem dX11_tell_38 : decode cX11_tell 38 = .ok (.iload_n 2, 1) := by decide +kernel
theorem dX11_tell_39 : decode cX11_tell 39 = .ok (.ifCond .le 93, 3) := by decide +kernel
theorem dX11_tell_42 : decode cX11_tell 42 = .ok (.iconst 1, 1) := by decide +kernel
theorem dX11_tell_43 : decode cX11_tell 43 = .ok (.istore 6, 2) := by decide +kernel
theorem dX11_tell_45 : decode cX11_tell 45 = .ok (.iload 6, 2) := by decide +kernel
theorem dX11_tell_47 : decode cX11_tell 47 = .ok (.bipush 10, 2) := by decide +kernel
theorem dX11_tell_49 : decode cX11_tell 49 = .ok (.if_icmp .ge 40, 3) := by decide +kernel
theorem dX11_tell_5 : decode cX11_tell 5 = .ok (.ifCond .ne 10, 3) := by decide +kernel
theorem dX11_tell_52 : decode cX11_tell 52 = .ok (.aload_n 0, 1) := by decide +kernel
theorem dX11_tell_53 : decode cX11_tell 53 = .ok (.getfield 33, 3) := by decide +kernel
theorem dX11_tell_56 : decode cX11_tell 56 = .ok (.iload 6, 2) := by decide +kernel
theorem dX11_tell_58 : decode cX11_tell 58 = .ok (.aload_n 0, 1) := by decide +kernel
theorem dX11_tell_59 : decode cX11_tell 59 = .ok (.getfield 7, 3) := by decide +kernel
theorem dX11_tell_62 : decode cX11_tell 62 = .ok (.bipush 37, 2) := by decide +kernel
theorem dX11_tell_64 : decode cX11_tell 64 = .ok (.iload_n 1, 1) := by decide +kernel
theorem dX11_tell_65 : decode cX11_tell 65 = .ok (.iadd, 1) := by decide +kernel
theorem dX11_tell_66 : decode cX11_tell 66 = .ok (.iaload, 1) := by decide +kernel
theorem dX11_tell_67 : decode cX11_tell 67 = .ok (.iload 6, 2) := by decide +kernel
theorem dX11_tell_69 : decode cX11_tell 69 = .ok (.iload 5, 2) := by decide +kernel
theorem dX11_tell_71 : decode cX11_tell 71 = .ok (.bipush 10, 2) := by decide +kernel
theorem dX11_tell_73 : decode cX11_tell 73 = .ok (.irem, 1) := by decide +kernel
theorem dX11_tell_74 : decode cX11_tell 74 = .ok (.iload 5, 2) := by decide +kernel
theorem dX11_tell_76 : decode cX11_tell 76 = .ok (.bipush 10, 2) := by decide +kernel
theorem dX11_tell_78 : decode cX11_tell 78 = .ok (.idiv, 1) := by decide +kernel
theorem dX11_tell_79 : decode cX11_tell 79 = .ok (.invokestatic 86, 3) := by decide +kernel
theorem dX11_tell_8 : decode cX11_tell 8 = .ok (.aload_n 0, 1) := by decide +kernel
theorem dX11_tell_82 : decode cX11_tell 82 = .ok (.iastore, 1) := by decide +kernel
theorem dX11_tell_83 : decode cX11_tell 83 = .ok (.iinc 6 1, 3) := by decide +kernel
theorem dX11_tell_86 : decode cX11_tell 86 = .ok (.goto (-41), 3) := by decide +kernel
theorem dX11_tell_89 : decode cX11_tell 89 = .ok (.aload_n 0, 1) := by decide +kernel
theorem dX11_tell_9 : decode cX11_tell 9 = .ok (.bipush (-2), 2) := by decide +kernel
theorem dX11_tell_90 : decode cX11_tell 90 = .ok (.iload_n 2, 1) := by decide +kernel
theorem dX11_tell_91 : decode cX11_tell 91 = .ok (.invokevirtual 165, 3) := by decide +kernel
theorem dX11_tell_94 : decode cX11_tell 94 = .ok (.istore 6, 2) := by decide +kernel
theorem dX11_tell_96 : decode cX11_tell 96 = .ok (.iload 6, 2) := by decide +kernel
theorem dX11_tell_98 : decode cX11_tell 98 = .ok (.iload 4, 2) := by decide +kernel
set_option maxHeartbeats 4000000 in
set_option maxRecDepth 100000 in
theorem y_tell (l : Launch) (X : EX) (m0 : Nat) (ma : Nat → Nat) (la : Int64) (lb : Int64) (n : Nat) (t : Nat → Nat) (v : Nat → Int32) (fa : Nat → Int32) (c0 : Nat) (c1 : Nat) (c2 : Nat) (c3 : Nat) (c4 : Nat) (ft : Nat → Int32) (fr : Nat → Int32) (x1 : Int32) (hI_n : n ≤ 150) (hI_t : InT t) (hI_fa : InA fa c0 c1 c2 c3 c4) (sz : Nat) : Met l yX11_tell wsX11_tell ({ frames := 2, cells := 0, slots := 0, locals := 52 } : Room) (pE X [.ref m0, .int x1] (@HAppend.hAppend va_W va_W va_W _ (mW m0 ma la lb n t v) (@HAppend.hAppend va_W va_W va_W _ ([((ma 0), .inl (X.2.1, 371, .inl fa))]) (@HAppend.hAppend va_W va_W va_W _ ([((ma 8), .inl (X.2.1, 10, .inl ft))]) ([((ma 3), .inl (X.2.1, 3, .inl fr))])))) sz) (qI (fun (r : Int32) (u : (Nat → Int32) × (Nat → Int32)) => (r = ansF (thP c0 x1) (telF (setF (fun l => fitP c1 (fun k => fa (55 + (4 * k))) (fun _ => nI l) (fun k => fa ((55 + (4 * k)) + 1)) (fun k => fa ((55 + (4 * k)) + 2)) (fun k => fa ((55 + (4 * k)) + 3)) x1 (fa (37 + x1.toNatClampNeg))) 1 9) (fa (37 + x1.toNatClampNeg))))) X (fun (u : (Nat → Int32) × (Nat → Int32)) => @HAppend.hAppend va_W va_W va_W _ (mW m0 ma la lb n t v) (@HAppend.hAppend va_W va_W va_W _ ([((ma 0), .inl (X.2.1, 371, .inl fa))]) (@HAppend.hAppend va_W va_W va_W _ ([((ma 8), .inl (X.2.1, 10, .inl u.1))]) ([((ma 3), .inl (X.2.1, 3, .inl u.2))])))) (@HAppend.hAppend va_W va_W va_W _ (mW m0 ma la lb n t v) (@HAppend.hAppend va_W va_W va_W _ ([((ma 0), .inl (X.2.1, 371, .inl fa))]) (@HAppend.hAppend va_W va_W va_W _ ([((ma 8), .inl (X.2.1, 10, .inl ft))]) ([((ma 3), .inl (X.2.1, 3, .inl fr))])))) sz) 0 0 (va_A (@HAppend.hAppend va_W va_W va_W _ (mW m0 ma la lb n t v) (@HAppend.hAppend va_W va_W va_W _ ([((ma 0), .inl (X.2.1, 371, .inl fa))]) (@HAppend.hAppend va_W va_W va_W _ ([((ma 8), .inl (X.2.1, 10, .inl ft))]) ([((ma 3), .inl (X.2.1, 3, .inl fr))])))) sz) := by
  refine mk_met (B := (va_A (@HAppend.hAppend va_W va_W va_W _ (mW m0 ma la lb n t v) (@HAppend.hAppend va_W va_W va_W _ ([((ma 0), .inl (X.2.1, 371, .inl fa))]) (@HAppend.hAppend va_W va_W va_W _ ([((ma 8), .inl (X.2.1, 10, .inl ft))]) ([((ma 3), .inl (X.2.1, 3, .inl fr))])))) sz)) (A := (va_A (@HAppend.hAppend va_W va_W va_W _ (mW m0 ma la lb n t v) (@HAppend.hAppend va_W va_W va_W _ ([((ma 0), .inl (X.2.1, 371, .inl fa))]) (@HAppend.hAppend va_W va_W va_W _ ([((ma 8), .inl (X.2.1, 10, .inl ft))]) ([((ma 3), .inl (X.2.1, 3, .inl fr))])))) sz)) (cc := cX11_tell) (maxL := 7) (ret := (some .int)) (by decide) rfl (Nat.le_of_ble_eq_true rfl) k_w k_a (fun p e s m below meth c S zr zlk znm zsz G ls hl => ?_)
  have S : CallFix p m c cX11_tell 7 s _ wsX11_tell RX11 := S
  have zx := S.1
  have zb := S.2.1
  have hl : lv_has ls 7 [(0, .ref m0), (1, .int x1)] := hl
  have hO_t := hI_t
  obtain ⟨ht0_t, ht1_t⟩ := hO_t
  have hO_fa := hI_fa.2
  obtain ⟨hm0_fa, hm1_fa, hm2_fa, hm3_fa, hm4_fa⟩ := hO_fa
  refine lv_aload_n zx zb dX11_tell_0 rfl (lv_at hl 0 rfl) ?_
  refine lv_iload_n zx zb dX11_tell_1 rfl (lv_at hl 1 rfl) ?_
  refine o_ri (cells' := 0) (slots' := 0) G rfl rfl (n_V (As := [.int x1]) (rest := []) (C := RX11) (T := TX11) (N := 18) (ci := 9) S G (m_isOne l X m0 ma la lb n t v fa c0 c1 c2 c3 c4 x1 hI_n hI_t hI_fa s.heap.size) gX11_tell_X11_isOne rfl rfl rfl hdV_X11_isOne ⟨Nat.le_of_ble_eq_true rfl, Nat.le_of_ble_eq_true rfl⟩ [0, 1] rfl rfl 0 rfl rfl rfl hl.1 (Nat.le_of_ble_eq_true rfl) dX11_tell_2 ⟨Nat.le_of_ble_eq_true rfl, Nat.le_of_ble_eq_true rfl⟩) (fun r_1 u_1 H locs hp_1 G => ?_)
  have G : wd X (va_A (@HAppend.hAppend va_W va_W va_W _ (mW m0 ma la lb n t v) (@HAppend.hAppend va_W va_W va_W _ ([((ma 0), .inl (X.2.1, 371, .inl fa))]) (@HAppend.hAppend va_W va_W va_W _ ([((ma 8), .inl (X.2.1, 10, .inl ft))]) ([((ma 3), .inl (X.2.1, 3, .inl fr))])))) sz) (va_A (@HAppend.hAppend va_W va_W va_W _ (mW m0 ma la lb n t v) (@HAppend.hAppend va_W va_W va_W _ ([((ma 0), .inl (X.2.1, 371, .inl fa))]) (@HAppend.hAppend va_W va_W va_W _ ([((ma 8), .inl (X.2.1, 10, .inl ft))]) ([((ma 3), .inl (X.2.1, 3, .inl fr))])))) sz) s (@HAppend.hAppend va_W va_W va_W _ (mW m0 ma la lb n t v) (@HAppend.hAppend va_W va_W va_W _ ([((ma 0), .inl (X.2.1, 371, .inl fa))]) (@HAppend.hAppend va_W va_W va_W _ ([((ma 8), .inl (X.2.1, 10, .inl ft))]) ([((ma 3), .inl (X.2.1, 3, .inl fr))])))) H locs := G
  rcases hp_1 with ⟨rfl, hj_1⟩ | ⟨rfl, hj_1⟩
  · obtain ⟨j_1, hj_1, rfl⟩ := hj_1
    refine lv_if_ne (tgt := 15) zx zb dX11_tell_5 (by decide) (fun c_2 => ?_) (fun c_2 => absurd c_2 (by decide))
    refine lv_aload_n zx zb dX11_tell_15 rfl (lv_at hl 0 rfl) ?_
    refine lv_iload_n zx zb dX11_tell_16 rfl (lv_at hl 1 rfl) ?_
    refine o_ri (cells' := 0) (slots' := 0) G rfl rfl (n_V (As := [.int (nI j_1)]) (rest := []) (C := RX11) (T := TX11) (N := 18) (ci := 9) S G (y_legsOf l X m0 ma la lb n t v fa c0 c1 c2 c3 c4 j_1 hI_n hI_t hI_fa (by omega) H.size) gX11_tell_X11_legsOf rfl rfl rfl hdV_X11_legsOf ⟨Nat.le_of_ble_eq_true rfl, Nat.le_of_ble_eq_true rfl⟩ [0, 1] rfl rfl 0 rfl rfl rfl hl.1 (Nat.le_of_ble_eq_true rfl) dX11_tell_17 ⟨Nat.le_of_ble_eq_true rfl, Nat.le_of_ble_eq_true rfl⟩) (fun r_3 u_3 H locs hp_3 G => ?_)
    have G : wd X (va_A (@HAppend.hAppend va_W va_W va_W _ (mW m0 ma la lb n t v) (@HAppend.hAppend va_W va_W va_W _ ([((ma 0), .inl (X.2.1, 371, .inl fa))]) (@HAppend.hAppend va_W va_W va_W _ ([((ma 8), .inl (X.2.1, 10, .inl ft))]) ([((ma 3), .inl (X.2.1, 3, .inl fr))])))) sz) (va_A (@HAppend.hAppend va_W va_W va_W _ (mW m0 ma la lb n t v) (@HAppend.hAppend va_W va_W va_W _ ([((ma 0), .inl (X.2.1, 371, .inl fa))]) (@HAppend.hAppend va_W va_W va_W _ ([((ma 8), .inl (X.2.1, 10, .inl ft))]) ([((ma 3), .inl (X.2.1, 3, .inl fr))])))) sz) s (@HAppend.hAppend va_W va_W va_W _ (mW m0 ma la lb n t v) (@HAppend.hAppend va_W va_W va_W _ ([((ma 0), .inl (X.2.1, 371, .inl fa))]) (@HAppend.hAppend va_W va_W va_W _ ([((ma 8), .inl (X.2.1, 10, .inl ft))]) ([((ma 3), .inl (X.2.1, 3, .inl fr))])))) H locs := G
    refine lv_istore_n (lv' := [(2, .int r_3), (0, .ref m0), (1, .int (nI j_1))]) zx zb dX11_tell_20 rfl hl (by decide) rfl (fun ls hl => ?_)
    refine lv_iconst (v := (-1)) zx zb dX11_tell_21 (by decide) ?_
    refine lv_istore_n (lv' := [(3, .int (-1)), (2, .int r_3), (0, .ref m0), (1, .int (nI j_1))]) zx zb dX11_tell_22 rfl hl (by decide) rfl (fun ls hl => ?_)
    refine lv_ldc zx zb S.2.2.2.1 (S.2.2.2.2 _ mm_X11_tell_c150) dX11_tell_23 ?_
    refine lv_istore (lv' := [(4, .int 1000000), (3, .int (-1)), (2, .int r_3), (0, .ref m0), (1, .int (nI j_1))]) zx zb dX11_tell_25 hl (by decide) rfl (fun ls hl => ?_)
    refine lv_iconst (v := 0) zx zb dX11_tell_27 (by decide) ?_
    refine lv_istore (lv' := [(5, .int 0), (4, .int 1000000), (3, .int (-1)), (2, .int r_3), (0, .ref m0), (1, .int (nI j_1))]) zx zb dX11_tell_28 hl (by decide) rfl (fun ls hl => ?_)
    refine k_loop (P := ∀ (zm : Nat) (n30_5 : Nat) (n30_4 : Nat) (x30_3 : Int32) (f30_2 : Nat → Int32) (H : Heap) (locs : List Loc) (ls : Array Slot), ((200 - n30_5) < zm) → ((n30_5 ≤ 200 ∧ (n30_5 = 0 ∨ 0 < r_3)) ∧ x30_3 = (lkB (fun a => topM r_3 (fun g => reachP (fa (37 + j_1)) (nI g) (nI (a / 10)) (nI (a % 10))) 10) 1000000 n30_5).1 ∧ n30_4 = (lkB (fun a => topM r_3 (fun g => reachP (fa (37 + j_1)) (nI g) (nI (a / 10)) (nI (a % 10))) 10) 1000000 n30_5).2) → (n30_5 ≤ 200) → (n30_4 ≤ 1000000) → wd X (va_A (@HAppend.hAppend va_W va_W va_W _ (mW m0 ma la lb n t v) (@HAppend.hAppend va_W va_W va_W _ ([((ma 0), .inl (X.2.1, 371, .inl fa))]) (@HAppend.hAppend va_W va_W va_W _ ([((ma 8), .inl (X.2.1, 10, .inl ft))]) ([((ma 3), .inl (X.2.1, 3, .inl fr))])))) sz) (va_A (@HAppend.hAppend va_W va_W va_W _ (mW m0 ma la lb n t v) (@HAppend.hAppend va_W va_W va_W _ ([((ma 0), .inl (X.2.1, 371, .inl fa))]) (@HAppend.hAppend va_W va_W va_W _ ([((ma 8), .inl (X.2.1, 10, .inl ft))]) ([((ma 3), .inl (X.2.1, 3, .inl fr))])))) sz) s (@HAppend.hAppend va_W va_W va_W _ (mW m0 ma la lb n t v) (@HAppend.hAppend va_W va_W va_W _ ([((ma 0), .inl (X.2.1, 371, .inl fa))]) (@HAppend.hAppend va_W va_W va_W _ ([((ma 8), .inl (X.2.1, 10, .inl f30_2))]) ([((ma 3), .inl (X.2.1, 3, .inl fr))])))) H locs → lv_has ls 7 [(5, .int (nI n30_5)), (4, .int (nI n30_4)), (3, .int x30_3), (2, .int r_3), (0, .ref m0), (1, .int (nI j_1))] → W p l e _ s m _ below meth c H locs _ _ _ (F0 m 30 ls [])) (fun loop => loop ((200 - 0) + 1) 0 1000000 (-1) ft _ _ _ (by omega) ⟨⟨by omega, Or.inl rfl⟩, rfl, rfl⟩ (by omega) (by omega) G hl) ?_
    intro zm
    induction zm with
    | zero => intro n30_5 n30_4 x30_3 f30_2 H locs ls zz q_x0 q_hk_n30_5 q_hk_n30_4 _ _; exact absurd zz (by omega)
    | succ zm ih30 =>
      intro n30_5 n30_4 x30_3 f30_2 H locs ls zm_30 hx30_0 hk_n30_5 hk_n30_4 G hl
      refine lv_iload zx zb dX11_tell_30 (lv_at hl 0 rfl) ?_
      refine lv_sipush (v := 200) zx zb dX11_tell_32 (by decide) ?_
      refine lv_icmp_ge (tgt := 132) zx zb dX11_tell_35 (by decide) (fun c_4 => ?_) (fun c_4 => ?_)
      · have fc_4 := j_le (a := 200) (b := n30_5) (by omega) (by omega) c_4
        refine lv_iload_n zx zb dX11_tell_132 rfl (lv_at hl 2 rfl) ?_
        have hST : x30_3 = telF r_3 (fa (37 + j_1)) := lk_endM hx30_0.1.2 (Or.inl (by omega)) (by decide) hx30_0.2.1
        exact e_int S zr zlk (vp_nar_int _) G (f30_2, fr) [0, 1, 2, 3] rfl rfl (Or.inr rfl) (by rw [ansF_t ⟨_, hj_1, rfl⟩]; rw [hST, hp_3]; rw [nI_clamp (by first | omega | (dsimp only; omega))]) dX11_tell_133
      · have fc_4 := j_nle (a := 200) (b := n30_5) (by omega) (by omega) c_4
        refine lv_iload_n zx zb dX11_tell_38 rfl (lv_at hl 3 rfl) ?_
        refine lv_if_le (tgt := 132) zx zb dX11_tell_39 (by decide) (fun c_5 => ?_) (fun c_5 => ?_)
        · refine lv_iload_n zx zb dX11_tell_132 rfl (lv_at hl 2 rfl) ?_
          have hST : x30_3 = telF r_3 (fa (37 + j_1)) := lk_endM hx30_0.1.2 (Or.inr (Int32.not_lt.mpr c_5)) (by decide) hx30_0.2.1
          exact e_int S zr zlk (vp_nar_int _) G (f30_2, fr) [0, 1, 2, 3] rfl rfl (Or.inr rfl) (by rw [ansF_t ⟨_, hj_1, rfl⟩]; rw [hST, hp_3]; rw [nI_clamp (by first | omega | (dsimp only; omega))]) dX11_tell_133
        · refine lv_iconst (v := 1) zx zb dX11_tell_42 (by decide) ?_
          refine lv_istore (lv' := [(6, .int 1), (5, .int (nI n30_5)), (4, .int (nI n30_4)), (3, .int x30_3), (2, .int r_3), (0, .ref m0), (1, .int (nI j_1))]) zx zb dX11_tell_43 hl (by decide) rfl (fun ls hl => ?_)
          refine k_loop (P := ∀ (zm : Nat) (n45_6 : Nat) (f45_2 : Nat → Int32) (H : Heap) (locs : List Loc) (ls : Array Slot), ((10 - n45_6) < zm) → ((1 ≤ n45_6 ∧ n45_6 ≤ 10) ∧ ∀ g : Nat, 1 ≤ g → g < n45_6 → f45_2 g = (fun g => reachP (fa (37 + j_1)) (nI g) (nI (n30_5 / 10)) (nI (n30_5 % 10))) g) → (n45_6 ≤ 10) → wd X (va_A (@HAppend.hAppend va_W va_W va_W _ (mW m0 ma la lb n t v) (@HAppend.hAppend va_W va_W va_W _ ([((ma 0), .inl (X.2.1, 371, .inl fa))]) (@HAppend.hAppend va_W va_W va_W _ ([((ma 8), .inl (X.2.1, 10, .inl ft))]) ([((ma 3), .inl (X.2.1, 3, .inl fr))])))) sz) (va_A (@HAppend.hAppend va_W va_W va_W _ (mW m0 ma la lb n t v) (@HAppend.hAppend va_W va_W va_W _ ([((ma 0), .inl (X.2.1, 371, .inl fa))]) (@HAppend.hAppend va_W va_W va_W _ ([((ma 8), .inl (X.2.1, 10, .inl ft))]) ([((ma 3), .inl (X.2.1, 3, .inl fr))])))) sz) s (@HAppend.hAppend va_W va_W va_W _ (mW m0 ma la lb n t v) (@HAppend.hAppend va_W va_W va_W _ ([((ma 0), .inl (X.2.1, 371, .inl fa))]) (@HAppend.hAppend va_W va_W va_W _ ([((ma 8), .inl (X.2.1, 10, .inl f45_2))]) ([((ma 3), .inl (X.2.1, 3, .inl fr))])))) H locs → lv_has ls 7 [(6, .int (nI n45_6)), (5, .int (nI n30_5)), (4, .int (nI n30_4)), (3, .int x30_3), (2, .int r_3), (0, .ref m0), (1, .int (nI j_1))] → W p l e _ s m _ below meth c H locs _ _ _ (F0 m 45 ls [])) (fun loop => loop ((10 - 1) + 1) 1 f30_2 _ _ _ (by omega) ⟨by omega, fun g h1 h2 => absurd h2 (by omega)⟩ (by omega) G hl) ?_
          intro zm
          induction zm with
          | zero => intro n45_6 f45_2 H locs ls zz q_x0 q_hk_n45_6 _ _; exact absurd zz (by omega)
          | succ zm ih45 =>
            intro n45_6 f45_2 H locs ls zm_45 hx45_0 hk_n45_6 G hl
            refine lv_iload zx zb dX11_tell_45 (lv_at hl 0 rfl) ?_
            refine lv_bipush (v := 10) zx zb dX11_tell_47 (by decide) ?_
            refine lv_icmp_ge (tgt := 89) zx zb dX11_tell_49 (by decide) (fun c_6 => ?_) (fun c_6 => ?_)
            · have fc_6 := j_le (a := 10) (b := n45_6) (by omega) (by omega) c_6
              refine lv_aload_n zx zb dX11_tell_89 rfl (lv_at hl 5 rfl) ?_
              refine lv_iload_n zx zb dX11_tell_90 rfl (lv_at hl 4 rfl) ?_
              refine o_ri (cells' := 0) (slots' := 0) G rfl rfl (n_V (As := [.int r_3]) (rest := []) (C := RX11) (T := TX11) (N := 18) (ci := 9) S G (y_mostAlike l X m0 ma la lb n t v f45_2 r_3 hI_n hI_t H.size) gX11_tell_X11_mostAlike rfl rfl rfl hdV_X11_mostAlike ⟨Nat.le_of_ble_eq_true rfl, Nat.le_of_ble_eq_true rfl⟩ [0, 2] rfl rfl 0 rfl rfl rfl hl.1 (Nat.le_of_ble_eq_true rfl) dX11_tell_91 ⟨Nat.le_of_ble_eq_true rfl, Nat.le_of_ble_eq_true rfl⟩) (fun r_7 u_7 H locs hp_7 G => ?_)
              have G : wd X (va_A (@HAppend.hAppend va_W va_W va_W _ (mW m0 ma la lb n t v) (@HAppend.hAppend va_W va_W va_W _ ([((ma 0), .inl (X.2.1, 371, .inl fa))]) (@HAppend.hAppend va_W va_W va_W _ ([((ma 8), .inl (X.2.1, 10, .inl ft))]) ([((ma 3), .inl (X.2.1, 3, .inl fr))])))) sz) (va_A (@HAppend.hAppend va_W va_W va_W _ (mW m0 ma la lb n t v) (@HAppend.hAppend va_W va_W va_W _ ([((ma 0), .inl (X.2.1, 371, .inl fa))]) (@HAppend.hAppend va_W va_W va_W _ ([((ma 8), .inl (X.2.1, 10, .inl ft))]) ([((ma 3), .inl (X.2.1, 3, .inl fr))])))) sz) s (@HAppend.hAppend va_W va_W va_W _ (mW m0 ma la lb n t v) (@HAppend.hAppend va_W va_W va_W _ ([((ma 0), .inl (X.2.1, 371, .inl fa))]) (@HAppend.hAppend va_W va_W va_W _ ([((ma 8), .inl (X.2.1, 10, .inl f45_2))]) ([((ma 3), .inl (X.2.1, 3, .inl fr))])))) H locs := G
              obtain ⟨w_7, ew_7, rfl⟩ : ∃ w : Nat, w = topM _ _ 10 ∧ r_7 = nI w := ⟨_, rfl, hp_7⟩
              have hw_7 : w_7 ≤ 10 := by rw [ew_7]; exact top10 10
              have hT0 : w_7 = (fun a => topM r_3 (fun g => reachP (fa (37 + j_1)) (nI g) (nI (a / 10)) (nI (a % 10))) 10) n30_5 := ew_7.trans (topM_c (fun b hb h => hx45_0.2 b ((set_l hp_3).2 b hb h).1 (by have := ((set_l hp_3).2 b hb h).2; omega)) 10 (by decide))
              refine lv_istore (lv' := [(6, .int (nI w_7)), (5, .int (nI n30_5)), (4, .int (nI n30_4)), (3, .int x30_3), (2, .int r_3), (0, .ref m0), (1, .int (nI j_1))]) zx zb dX11_tell_94 hl (by decide) rfl (fun ls hl => ?_)
              refine lv_iload zx zb dX11_tell_96 (lv_at hl 0 rfl) ?_
              refine lv_iload zx zb dX11_tell_98 (lv_at hl 2 rfl) ?_
              refine lv_icmp_ge (tgt := 108) zx zb dX11_tell_100 (by decide) (fun c_8 => ?_) (fun c_8 => ?_)
              · have fc_8 := j_le (a := n30_4) (b := w_7) (by omega) (by omega) c_8
                refine lv_iload_n zx zb dX11_tell_108 rfl (lv_at hl 3 rfl) ?_
                refine lv_istore_n (lv' := [(3, .int x30_3), (6, .int (nI w_7)), (5, .int (nI n30_5)), (4, .int (nI n30_4)), (2, .int r_3), (0, .ref m0), (1, .int (nI j_1))]) zx zb dX11_tell_109 rfl hl (by decide) rfl (fun ls hl => ?_)
                refine lv_iload zx zb dX11_tell_110 (lv_at hl 1 rfl) ?_
                refine lv_iload zx zb dX11_tell_112 (lv_at hl 3 rfl) ?_
                refine lv_icmp_ge (tgt := 122) zx zb dX11_tell_114 (by decide) (fun c_9 => ?_) (fun c_9 => absurd (c_8) c_9)
                refine lv_iload zx zb dX11_tell_122 (lv_at hl 3 rfl) ?_
                refine lv_istore (lv' := [(4, .int (nI n30_4)), (3, .int x30_3), (6, .int (nI w_7)), (5, .int (nI n30_5)), (2, .int r_3), (0, .ref m0), (1, .int (nI j_1))]) zx zb dX11_tell_124 hl (by decide) rfl (fun ls hl => ?_)
                refine lv_iinc (v := (nI (n30_5 + 1))) (lv' := [(5, .int (nI (n30_5 + 1))), (4, .int (nI n30_4)), (3, .int x30_3), (6, .int (nI w_7)), (2, .int r_3), (0, .ref m0), (1, .int (nI j_1))]) zx zb dX11_tell_126 hl (k := 3) rfl (nI_add n30_5 1) (by decide) rfl (fun ls hl => ?_)
                refine lv_goto (tgt := 30) zx zb dX11_tell_129 (by decide) ?_
                have hl := lv_sub hl (l' := [(5, .int (nI (n30_5 + 1))), (4, .int (nI n30_4)), (3, .int x30_3), (2, .int r_3), (0, .ref m0), (1, .int (nI j_1))]) [0, 1, 2, 4, 5, 6] rfl
                exact ih30 (n30_5 + 1) n30_4 x30_3 f45_2 _ _ _ (by omega) ⟨⟨by omega, Or.inr (Int32.not_le.mp c_5)⟩, lkB_f hx30_0.2.1 hx30_0.2.2 hT0 (by omega)⟩ (by omega) (by omega) G hl
              · have fc_8 := j_nle (a := n30_4) (b := w_7) (by omega) (by omega) c_8
                refine lv_iload zx zb dX11_tell_103 (lv_at hl 1 rfl) ?_
                refine lv_goto (tgt := 109) zx zb dX11_tell_105 (by decide) ?_
                refine lv_istore_n (lv' := [(3, .int (nI n30_5)), (6, .int (nI w_7)), (5, .int (nI n30_5)), (4, .int (nI n30_4)), (2, .int r_3), (0, .ref m0), (1, .int (nI j_1))]) zx zb dX11_tell_109 rfl hl (by decide) rfl (fun ls hl => ?_)
                refine lv_iload zx zb dX11_tell_110 (lv_at hl 1 rfl) ?_
                refine lv_iload zx zb dX11_tell_112 (lv_at hl 3 rfl) ?_
                refine lv_icmp_ge (tgt := 122) zx zb dX11_tell_114 (by decide) (fun c_10 => absurd c_10 (c_8)) (fun c_10 => ?_)
                refine lv_iload zx zb dX11_tell_117 (lv_at hl 1 rfl) ?_
                refine lv_goto (tgt := 124) zx zb dX11_tell_119 (by decide) ?_
                refine lv_istore (lv' := [(4, .int (nI w_7)), (3, .int (nI n30_5)), (6, .int (nI w_7)), (5, .int (nI n30_5)), (2, .int r_3), (0, .ref m0), (1, .int (nI j_1))]) zx zb dX11_tell_124 hl (by decide) rfl (fun ls hl => ?_)
                refine lv_iinc (v := (nI (n30_5 + 1))) (lv' := [(5, .int (nI (n30_5 + 1))), (4, .int (nI w_7)), (3, .int (nI n30_5)), (6, .int (nI w_7)), (2, .int r_3), (0, .ref m0), (1, .int (nI j_1))]) zx zb dX11_tell_126 hl (k := 3) rfl (nI_add n30_5 1) (by decide) rfl (fun ls hl => ?_)
                refine lv_goto (tgt := 30) zx zb dX11_tell_129 (by decide) ?_
                have hl := lv_sub hl (l' := [(5, .int (nI (n30_5 + 1))), (4, .int (nI w_7)), (3, .int (nI n30_5)), (2, .int r_3), (0, .ref m0), (1, .int (nI j_1))]) [0, 1, 2, 4, 5, 6] rfl
                exact ih30 (n30_5 + 1) w_7 (nI n30_5) f45_2 _ _ _ (by omega) ⟨⟨by omega, Or.inr (Int32.not_le.mp c_5)⟩, lkB_t hx30_0.2.2 hT0 (by omega)⟩ (by omega) (by omega) G hl
            · have fc_6 := j_nle (a := 10) (b := n45_6) (by omega) (by omega) c_6
              refine lv_aload_n zx zb dX11_tell_52 rfl (lv_at hl 5 rfl) ?_
              refine r_get (C := RX11) (T := TX11) (N := 18) (ci := 9) (v := .ref (ma 8)) S in_X11_tell_X11 G 0 rfl rfl 8 (by decide) lk_X11_tell_33 rfl dX11_tell_53 ?_
              refine lv_iload zx zb dX11_tell_56 (lv_at hl 0 rfl) ?_
              refine lv_aload_n zx zb dX11_tell_58 rfl (lv_at hl 5 rfl) ?_
              refine r_get (C := RX11) (T := TX11) (N := 18) (ci := 9) (v := .ref (ma 0)) S in_X11_tell_X11 G 0 rfl rfl 0 (by decide) lk_X11_tell_7 rfl dX11_tell_59 ?_
              refine lv_bipush (v := 37) zx zb dX11_tell_62 (by decide) ?_
              refine lv_iload_n zx zb dX11_tell_64 rfl (lv_at hl 6 rfl) ?_
              refine r_iadd (v := (nI (37 + j_1))) S (nI_add 37 j_1) dX11_tell_65 ?_
              refine r_iald (v := (fa (37 + j_1))) S G 1 rfl (vp_in_nI (by omega) (by decide)) (congrArg fa (nI_clamp (by omega))) dX11_tell_66 ?_
              refine lv_iload zx zb dX11_tell_67 (lv_at hl 0 rfl) ?_
              refine lv_iload zx zb dX11_tell_69 (lv_at hl 1 rfl) ?_
              refine lv_bipush (v := 10) zx zb dX11_tell_71 (by decide) ?_
              refine lv_irem zx zb dX11_tell_73 (by decide) ?_
              refine k_it (v := (nI (n30_5 % 10))) (pk_rem (d := 10) (by omega) (by decide) (by decide)) ?_
              refine lv_iload zx zb dX11_tell_74 (lv_at hl 1 rfl) ?_
              refine lv_bipush (v := 10) zx zb dX11_tell_76 (by decide) ?_
              refine lv_idiv zx zb dX11_tell_78 (by decide) ?_
              refine k_it (v := (nI (n30_5 / 10))) (pk_div (d := 10) (by omega) (by decide) (by decide)) ?_
              refine o_ri (cells' := 0) (slots' := 0) G rfl rfl (n_S (As := [.int (fa (37 + j_1)), .int (nI n45_6), .int (nI (n30_5 % 10)), .int (nI (n30_5 / 10))]) (rest := [.int (nI n45_6), .ref (ma 8)]) S G (y_runsAs l X (fa (37 + j_1)) (nI n45_6) (nI (n30_5 % 10)) (nI (n30_5 / 10)) H.size) gX11_tell_X11_runsAs rfl rfl rfl hdS_X11_runsAs ⟨Nat.le_of_ble_eq_true rfl, Nat.le_of_ble_eq_true rfl⟩ [] rfl rfl rfl hl.1 (Nat.le_of_ble_eq_true rfl) dX11_tell_79 ⟨Nat.le_of_ble_eq_true rfl, Nat.le_of_ble_eq_true rfl⟩) (fun r_12 u_12 H locs hp_12 G => ?_)
              have G : wd X (va_A (@HAppend.hAppend va_W va_W va_W _ (mW m0 ma la lb n t v) (@HAppend.hAppend va_W va_W va_W _ ([((ma 0), .inl (X.2.1, 371, .inl fa))]) (@HAppend.hAppend va_W va_W va_W _ ([((ma 8), .inl (X.2.1, 10, .inl ft))]) ([((ma 3), .inl (X.2.1, 3, .inl fr))])))) sz) (va_A (@HAppend.hAppend va_W va_W va_W _ (mW m0 ma la lb n t v) (@HAppend.hAppend va_W va_W va_W _ ([((ma 0), .inl (X.2.1, 371, .inl fa))]) (@HAppend.hAppend va_W va_W va_W _ ([((ma 8), .inl (X.2.1, 10, .inl ft))]) ([((ma 3), .inl (X.2.1, 3, .inl fr))])))) sz) s (@HAppend.hAppend va_W va_W va_W _ (mW m0 ma la lb n t v) (@HAppend.hAppend va_W va_W va_W _ ([((ma 0), .inl (X.2.1, 371, .inl fa))]) (@HAppend.hAppend va_W va_W va_W _ ([((ma 8), .inl (X.2.1, 10, .inl f45_2))]) ([((ma 3), .inl (X.2.1, 3, .inl fr))])))) H locs := G
              obtain rfl := hp_12
              refine r_iast S G 2 rfl (vp_in_nI (by omega) (by decide)) dX11_tell_82 (fun H locs G => ?_)
              obtain ⟨f_13, hE_f_13, G⟩ : ∃ f_13 : Nat → Int32, f_13 = upd f45_2 ((nI n45_6)).toNatClampNeg (reachP (fa (37 + j_1)) (nI n45_6) (nI (n30_5 / 10)) (nI (n30_5 % 10))) ∧ wd X (va_A (@HAppend.hAppend va_W va_W va_W _ (mW m0 ma la lb n t v) (@HAppend.hAppend va_W va_W va_W _ ([((ma 0), .inl (X.2.1, 371, .inl fa))]) (@HAppend.hAppend va_W va_W va_W _ ([((ma 8), .inl (X.2.1, 10, .inl ft))]) ([((ma 3), .inl (X.2.1, 3, .inl fr))])))) sz) (va_A (@HAppend.hAppend va_W va_W va_W _ (mW m0 ma la lb n t v) (@HAppend.hAppend va_W va_W va_W _ ([((ma 0), .inl (X.2.1, 371, .inl fa))]) (@HAppend.hAppend va_W va_W va_W _ ([((ma 8), .inl (X.2.1, 10, .inl ft))]) ([((ma 3), .inl (X.2.1, 3, .inl fr))])))) sz) s (@HAppend.hAppend va_W va_W va_W _ (mW m0 ma la lb n t v) (@HAppend.hAppend va_W va_W va_W _ ([((ma 0), .inl (X.2.1, 371, .inl fa))]) (@HAppend.hAppend va_W va_W va_W _ ([((ma 8), .inl (X.2.1, 10, .inl f_13))]) ([((ma 3), .inl (X.2.1, 3, .inl fr))])))) H locs := ⟨_, rfl, G⟩
              refine lv_iinc (v := (nI (n45_6 + 1))) (lv' := [(6, .int (nI (n45_6 + 1))), (5, .int (nI n30_5)), (4, .int (nI n30_4)), (3, .int x30_3), (2, .int r_3), (0, .ref m0), (1, .int (nI j_1))]) zx zb dX11_tell_83 hl (k := 0) rfl (nI_add n45_6 1) (by decide) rfl (fun ls hl => ?_)
              refine lv_goto (tgt := 45) zx zb dX11_tell_86 (by decide) ?_
              exact ih45 (n45_6 + 1) f_13 _ _ _ (by omega) ⟨by omega, k_til hx45_0.2 hE_f_13 (nI_clamp (by omega)) rfl⟩ (by omega) G hl
  · refine lv_if_ne (tgt := 15) zx zb dX11_tell_5 (by decide) (fun c_14 => absurd (by decide) c_14) (fun c_14 => ?_)
    refine lv_aload_n zx zb dX11_tell_8 rfl (lv_at hl 0 rfl) ?_
    refine lv_bipush (v := (-2)) zx zb dX11_tell_9 (by decide) ?_
    refine b_wi (cells' := 0) (slots' := 0) (wr := @HAppend.hAppend va_W va_W va_W _ ([((ma 0), .inl (X.2.1, 371, .inl fa))]) ([((ma 8), .inl (X.2.1, 10, .inl ft))])) G rfl rfl [0, 3] [1, 2] rfl rfl rfl rfl (n_V (As := [.int (-2)]) (rest := []) (C := RX11) (T := TX11) (N := 18) (ci := 9) S G (m_bad l X m0 ma la lb n t v fr (-2) hI_n hI_t H.size) gX11_tell_X11_bad rfl rfl rfl hdV_X11_bad ⟨Nat.le_of_ble_eq_true rfl, Nat.le_of_ble_eq_true rfl⟩ [0, 3] rfl rfl 0 rfl rfl rfl hl.1 (Nat.le_of_ble_eq_true rfl) dX11_tell_11 ⟨Nat.le_of_ble_eq_true rfl, Nat.le_of_ble_eq_true rfl⟩) (fun r_15 u_15 H locs hp_15 G => ?_)
    obtain ⟨f_15, rfl⟩ : ∃ z, z = u_15 := ⟨_, rfl⟩
    have hq_15 := hp_15
    have G : wd X (va_A (@HAppend.hAppend va_W va_W va_W _ (mW m0 ma la lb n t v) (@HAppend.hAppend va_W va_W va_W _ ([((ma 0), .inl (X.2.1, 371, .inl fa))]) (@HAppend.hAppend va_W va_W va_W _ ([((ma 8), .inl (X.2.1, 10, .inl ft))]) ([((ma 3), .inl (X.2.1, 3, .inl fr))])))) sz) (va_A (@HAppend.hAppend va_W va_W va_W _ (mW m0 ma la lb n t v) (@HAppend.hAppend va_W va_W va_W _ ([((ma 0), .inl (X.2.1, 371, .inl fa))]) (@HAppend.hAppend va_W va_W va_W _ ([((ma 8), .inl (X.2.1, 10, .inl ft))]) ([((ma 3), .inl (X.2.1, 3, .inl fr))])))) sz) s (@HAppend.hAppend va_W va_W va_W _ ([((ma 0), .inl (X.2.1, 371, .inl fa))]) (@HAppend.hAppend va_W va_W va_W _ ([((ma 8), .inl (X.2.1, 10, .inl ft))]) (@HAppend.hAppend va_W va_W va_W _ (mW m0 ma la lb n t v) ([((ma 3), .inl (X.2.1, 3, .inl f_15))])))) H locs := G
    obtain rfl := hq_15
    exact e_int S zr zlk (vp_nar_int _) G (ft, f_15) [2, 0, 1, 3] rfl rfl (Or.inr rfl) ((ansF_f (fun h => hj_1 h)).symm) dX11_tell_14
set_option maxHeartbeats 4000000 in
set_option maxRecDepth 100000 in
theorem y_look (l : Launch) (X : EX) (m0 : Nat) (ma : Nat → Nat) (la : Int64) (lb : Int64) (n : Nat) (t : Nat → Nat) (v : Nat → Int32) (fa : Nat → Int32) (c0 : Nat) (c1 : Nat) (c2 : Nat) (c3 : Nat) (c4 : Nat) (ft : Nat → Int32) (fr : Nat → Int32) (x1 : Int32) (hI_n : n ≤ 150) (hI_t : InT t) (hI_fa : InA fa c0 c1 c2 c3 c4) (sz : Nat) : Met l yX11_look wsX11_look ({ frames := 2, cells := 0, slots := 0, locals := 52 } : Room) (pE X [.ref m0, .int x1] (@HAppend.hAppend va_W va_W va_W _ (mW m0 ma la lb n t v) (@HAppend.hAppend va_W va_W va_W _ ([((ma 0), .inl (X.2.1, 371, .inl fa))]) (@HAppend.hAppend va_W va_W va_W _ ([((ma 8), .inl (X.2.1, 10, .inl ft))]) ([((ma 3), .inl (X.2.1, 3, .inl fr))])))) sz) (qI (fun (r : Int32) (u : (Nat → Int32) × (Nat → Int32)) => (r = ansF (thP c0 x1) (looF (setF (fun l => fitP c2 (fun k => fa (75 + (5 * k))) (fun k => fa ((75 + (5 * k)) + 1)) (fun k => fa ((75 + (5 * k)) + 2)) (fun k => fa ((75 + (5 * k)) + 3)) (fun k => fa ((75 + (5 * k)) + 4)) x1 (nI l)) 0 6) (fa (43 + x1.toNatClampNeg))))) X (fun (u : (Nat → Int32) × (Nat → Int32)) => @HAppend.hAppend va_W va_W va_W _ (mW m0 ma la lb n t v) (@HAppend.hAppend va_W va_W va_W _ ([((ma 0), .inl (X.2.1, 371, .inl fa))]) (@HAppend.hAppend va_W va_W va_W _ ([((ma 8), .inl (X.2.1, 10, .inl u.1))]) ([((ma 3), .inl (X.2.1, 3, .inl u.2))])))) (@HAppend.hAppend va_W va_W va_W _ (mW m0 ma la lb n t v) (@HAppend.hAppend va_W va_W va_W _ ([((ma 0), .inl (X.2.1, 371, .inl fa))]) (@HAppend.hAppend va_W va_W va_W _ ([((ma 8), .inl (X.2.1, 10, .inl ft))]) ([((ma 3), .inl (X.2.1, 3, .inl fr))])))) sz) 0 0 (va_A (@HAppend.hAppend va_W va_W va_W _ (mW m0 ma la lb n t v) (@HAppend.hAppend va_W va_W va_W _ ([((ma 0), .inl (X.2.1, 371, .inl fa))]) (@HAppend.hAppend va_W va_W va_W _ ([((ma 8), .inl (X.2.1, 10, .inl ft))]) ([((ma 3), .inl (X.2.1, 3, .inl fr))])))) sz) := by
  refine mk_met (B := (va_A (@HAppend.hAppend va_W va_W va_W _ (mW m0 ma la lb n t v) (@HAppend.hAppend va_W va_W va_W _ ([((ma 0), .inl (X.2.1, 371, .inl fa))]) (@HAppend.hAppend va_W va_W va_W _ ([((ma 8), .inl (X.2.1, 10, .inl ft))]) ([((ma 3), .inl (X.2.1, 3, .inl fr))])))) sz)) (A := (va_A (@HAppend.hAppend va_W va_W va_W _ (mW m0 ma la lb n t v) (@HAppend.hAppend va_W va_W va_W _ ([((ma 0), .inl (X.2.1, 371, .inl fa))]) (@HAppend.hAppend va_W va_W va_W _ ([((ma 8), .inl (X.2.1, 10, .inl ft))]) ([((ma 3), .inl (X.2.1, 3, .inl fr))])))) sz)) (cc := cX11_look) (maxL := 7) (ret := (some .int)) (by decide) rfl (Nat.le_of_ble_eq_true rfl) k_w k_a (fun p e s m below meth c S zr zlk znm zsz G ls hl => ?_)
  have S : CallFix p m c cX11_look 7 s _ wsX11_look RX11 := S
  have zx := S.1
  have zb := S.2.1
  have hl : lv_has ls 7 [(0, .ref m0), (1, .int x1)] := hl
  have hO_t := hI_t
  obtain ⟨ht0_t, ht1_t⟩ := hO_t
  have hO_fa := hI_fa.2
  obtain ⟨hm0_fa, hm1_fa, hm2_fa, hm3_fa, hm4_fa⟩ := hO_fa
  refine lv_aload_n zx zb dX11_look_0 rfl (lv_at hl 0 rfl) ?_
  refine lv_iload_n zx zb dX11_look_1 rfl (lv_at hl 1 rfl) ?_
  refine o_ri (cells' := 0) (slots' := 0) G rfl rfl (n_V (As := [.int x1]) (rest := []) (C := RX11) (T := TX11) (N := 18) (ci := 9) S G (m_isOne l X m0 ma la lb n t v fa c0 c1 c2 c3 c4 x1 hI_n hI_t hI_fa s.heap.size) gX11_look_X11_isOne rfl rfl rfl hdV_X11_isOne ⟨Nat.le_of_ble_eq_true rfl, Nat.le_of_ble_eq_true rfl⟩ [0, 1] rfl rfl 0 rfl rfl rfl hl.1 (Nat.le_of_ble_eq_true rfl) dX11_look_2 ⟨Nat.le_of_ble_eq_true rfl, Nat.le_of_ble_eq_true rfl⟩) (fun r_1 u_1 H locs hp_1 G => ?_)
  have G : wd X (va_A (@HAppend.hAppend va_W va_W va_W _ (mW m0 ma la lb n t v) (@HAppend.hAppend va_W va_W va_W _ ([((ma 0), .inl (X.2.1, 371, .inl fa))]) (@HAppend.hAppend va_W va_W va_W _ ([((ma 8), .inl (X.2.1, 10, .inl ft))]) ([((ma 3), .inl (X.2.1, 3, .inl fr))])))) sz) (va_A (@HAppend.hAppend va_W va_W va_W _ (mW m0 ma la lb n t v) (@HAppend.hAppend va_W va_W va_W _ ([((ma 0), .inl (X.2.1, 371, .inl fa))]) (@HAppend.hAppend va_W va_W va_W _ ([((ma 8), .inl (X.2.1, 10, .inl ft))]) ([((ma 3), .inl (X.2.1, 3, .inl fr))])))) sz) s (@HAppend.hAppend va_W va_W va_W _ (mW m0 ma la lb n t v) (@HAppend.hAppend va_W va_W va_W _ ([((ma 0), .inl (X.2.1, 371, .inl fa))]) (@HAppend.hAppend va_W va_W va_W _ ([((ma 8), .inl (X.2.1, 10, .inl ft))]) ([((ma 3), .inl (X.2.1, 3, .inl fr))])))) H locs := G
  rcases hp_1 with ⟨rfl, hj_1⟩ | ⟨rfl, hj_1⟩
  · obtain ⟨j_1, hj_1, rfl⟩ := hj_1
    refine lv_if_ne (tgt := 15) zx zb dX11_look_5 (by decide) (fun c_2 => ?_) (fun c_2 => absurd c_2 (by decide))
    refine lv_aload_n zx zb dX11_look_15 rfl (lv_at hl 0 rfl) ?_
    refine lv_iload_n zx zb dX11_look_16 rfl (lv_at hl 1 rfl) ?_
    refine o_ri (cells' := 0) (slots' := 0) G rfl rfl (n_V (As := [.int (nI j_1)]) (rest := []) (C := RX11) (T := TX11) (N := 18) (ci := 9) S G (y_kindsOfOne l X m0 ma la lb n t v fa c0 c1 c2 c3 c4 (nI j_1) hI_n hI_t hI_fa H.size) gX11_look_X11_kindsOfOne rfl rfl rfl hdV_X11_kindsOfOne ⟨Nat.le_of_ble_eq_true rfl, Nat.le_of_ble_eq_true rfl⟩ [0, 1] rfl rfl 0 rfl rfl rfl hl.1 (Nat.le_of_ble_eq_true rfl) dX11_look_17 ⟨Nat.le_of_ble_eq_true rfl, Nat.le_of_ble_eq_true rfl⟩) (fun r_3 u_3 H locs hp_3 G => ?_)
    have G : wd X (va_A (@HAppend.hAppend va_W va_W va_W _ (mW m0 ma la lb n t v) (@HAppend.hAppend va_W va_W va_W _ ([((ma 0), .inl (X.2.1, 371, .inl fa))]) (@HAppend.hAppend va_W va_W va_W _ ([((ma 8), .inl (X.2.1, 10, .inl ft))]) ([((ma 3), .inl (X.2.1, 3, .inl fr))])))) sz) (va_A (@HAppend.hAppend va_W va_W va_W _ (mW m0 ma la lb n t v) (@HAppend.hAppend va_W va_W va_W _ ([((ma 0), .inl (X.2.1, 371, .inl fa))]) (@HAppend.hAppend va_W va_W va_W _ ([((ma 8), .inl (X.2.1, 10, .inl ft))]) ([((ma 3), .inl (X.2.1, 3, .inl fr))])))) sz) s (@HAppend.hAppend va_W va_W va_W _ (mW m0 ma la lb n t v) (@HAppend.hAppend va_W va_W va_W _ ([((ma 0), .inl (X.2.1, 371, .inl fa))]) (@HAppend.hAppend va_W va_W va_W _ ([((ma 8), .inl (X.2.1, 10, .inl ft))]) ([((ma 3), .inl (X.2.1, 3, .inl fr))])))) H locs := G
    refine lv_istore_n (lv' := [(2, .int r_3), (0, .ref m0), (1, .int (nI j_1))]) zx zb dX11_look_20 rfl hl (by decide) rfl (fun ls hl => ?_)
    refine lv_iconst (v := (-1)) zx zb dX11_look_21 (by decide) ?_
    refine lv_istore_n (lv' := [(3, .int (-1)), (2, .int r_3), (0, .ref m0), (1, .int (nI j_1))]) zx zb dX11_look_22 rfl hl (by decide) rfl (fun ls hl => ?_)
    refine lv_ldc zx zb S.2.2.2.1 (S.2.2.2.2 _ mm_X11_look_c150) dX11_look_23 ?_
    refine lv_istore (lv' := [(4, .int 1000000), (3, .int (-1)), (2, .int r_3), (0, .ref m0), (1, .int (nI j_1))]) zx zb dX11_look_25 hl (by decide) rfl (fun ls hl => ?_)
    refine lv_iconst (v := 0) zx zb dX11_look_27 (by decide) ?_
    refine lv_istore (lv' := [(5, .int 0), (4, .int 1000000), (3, .int (-1)), (2, .int r_3), (0, .ref m0), (1, .int (nI j_1))]) zx zb dX11_look_28 hl (by decide) rfl (fun ls hl => ?_)
    refine k_loop (P := ∀ (zm : Nat) (n30_5 : Nat) (n30_4 : Nat) (x30_3 : Int32) (f30_2 : Nat → Int32) (H : Heap) (locs : List Loc) (ls : Array Slot), ((200 - n30_5) < zm) → ((n30_5 ≤ 200 ∧ (n30_5 = 0 ∨ 0 < r_3)) ∧ x30_3 = (lkB (fun a => topM r_3 (fun g => reachP (nI g) (fa (43 + j_1)) (nI (a / 10)) (nI (a % 10))) 10) 1000000 n30_5).1 ∧ n30_4 = (lkB (fun a => topM r_3 (fun g => reachP (nI g) (fa (43 + j_1)) (nI (a / 10)) (nI (a % 10))) 10) 1000000 n30_5).2) → (n30_5 ≤ 200) → (n30_4 ≤ 1000000) → wd X (va_A (@HAppend.hAppend va_W va_W va_W _ (mW m0 ma la lb n t v) (@HAppend.hAppend va_W va_W va_W _ ([((ma 0), .inl (X.2.1, 371, .inl fa))]) (@HAppend.hAppend va_W va_W va_W _ ([((ma 8), .inl (X.2.1, 10, .inl ft))]) ([((ma 3), .inl (X.2.1, 3, .inl fr))])))) sz) (va_A (@HAppend.hAppend va_W va_W va_W _ (mW m0 ma la lb n t v) (@HAppend.hAppend va_W va_W va_W _ ([((ma 0), .inl (X.2.1, 371, .inl fa))]) (@HAppend.hAppend va_W va_W va_W _ ([((ma 8), .inl (X.2.1, 10, .inl ft))]) ([((ma 3), .inl (X.2.1, 3, .inl fr))])))) sz) s (@HAppend.hAppend va_W va_W va_W _ (mW m0 ma la lb n t v) (@HAppend.hAppend va_W va_W va_W _ ([((ma 0), .inl (X.2.1, 371, .inl fa))]) (@HAppend.hAppend va_W va_W va_W _ ([((ma 8), .inl (X.2.1, 10, .inl f30_2))]) ([((ma 3), .inl (X.2.1, 3, .inl fr))])))) H locs → lv_has ls 7 [(5, .int (nI n30_5)), (4, .int (nI n30_4)), (3, .int x30_3), (2, .int r_3), (0, .ref m0), (1, .int (nI j_1))] → W p l e _ s m _ below meth c H locs _ _ _ (F0 m 30 ls [])) (fun loop => loop ((200 - 0) + 1) 0 1000000 (-1) ft _ _ _ (by omega) ⟨⟨by omega, Or.inl rfl⟩, rfl, rfl⟩ (by omega) (by omega) G hl) ?_
    intro zm
    induction zm with
    | zero => intro n30_5 n30_4 x30_3 f30_2 H locs ls zz q_x0 q_hk_n30_5 q_hk_n30_4 _ _; exact absurd zz (by omega)
    | succ zm ih30 =>
      intro n30_5 n30_4 x30_3 f30_2 H locs ls zm_30 hx30_0 hk_n30_5 hk_n30_4 G hl
      refine lv_iload zx zb dX11_look_30 (lv_at hl 0 rfl) ?_
      refine lv_sipush (v := 200) zx zb dX11_look_32 (by decide) ?_
      refine lv_icmp_ge (tgt := 132) zx zb dX11_look_35 (by decide) (fun c_4 => ?_) (fun c_4 => ?_)
      · have fc_4 := j_le (a := 200) (b := n30_5) (by omega) (by omega) c_4
        refine lv_iload_n zx zb dX11_look_132 rfl (lv_at hl 2 rfl) ?_
        have hST : x30_3 = looF r_3 (fa (43 + j_1)) := lk_endM hx30_0.1.2 (Or.inl (by omega)) (by decide) hx30_0.2.1
        exact e_int S zr zlk (vp_nar_int _) G (f30_2, fr) [0, 1, 2, 3] rfl rfl (Or.inr rfl) (by rw [ansF_t ⟨_, hj_1, rfl⟩]; rw [hST, hp_3]; rw [nI_clamp (by first | omega | (dsimp only; omega))]) dX11_look_133
      · have fc_4 := j_nle (a := 200) (b := n30_5) (by omega) (by omega) c_4
        refine lv_iload_n zx zb dX11_look_38 rfl (lv_at hl 3 rfl) ?_
        refine lv_if_le (tgt := 132) zx zb dX11_look_39 (by decide) (fun c_5 => ?_) (fun c_5 => ?_)
        · refine lv_iload_n zx zb dX11_look_132 rfl (lv_at hl 2 rfl) ?_
          have hST : x30_3 = looF r_3 (fa (43 + j_1)) := lk_endM hx30_0.1.2 (Or.inr (Int32.not_lt.mpr c_5)) (by decide) hx30_0.2.1
          exact e_int S zr zlk (vp_nar_int _) G (f30_2, fr) [0, 1, 2, 3] rfl rfl (Or.inr rfl) (by rw [ansF_t ⟨_, hj_1, rfl⟩]; rw [hST, hp_3]; rw [nI_clamp (by first | omega | (dsimp only; omega))]) dX11_look_133
        · refine lv_iconst (v := 0) zx zb dX11_look_42 (by decide) ?_
          refine lv_istore (lv' := [(6, .int 0), (5, .int (nI n30_5)), (4, .int (nI n30_4)), (3, .int x30_3), (2, .int r_3), (0, .ref m0), (1, .int (nI j_1))]) zx zb dX11_look_43 hl (by decide) rfl (fun ls hl => ?_)
          refine k_loop (P := ∀ (zm : Nat) (n45_6 : Nat) (f45_2 : Nat → Int32) (H : Heap) (locs : List Loc) (ls : Array Slot), ((6 - n45_6) < zm) → ((0 ≤ n45_6 ∧ n45_6 ≤ 6) ∧ ∀ g : Nat, 0 ≤ g → g < n45_6 → f45_2 g = (fun g => reachP (nI g) (fa (43 + j_1)) (nI (n30_5 / 10)) (nI (n30_5 % 10))) g) → (n45_6 ≤ 6) → wd X (va_A (@HAppend.hAppend va_W va_W va_W _ (mW m0 ma la lb n t v) (@HAppend.hAppend va_W va_W va_W _ ([((ma 0), .inl (X.2.1, 371, .inl fa))]) (@HAppend.hAppend va_W va_W va_W _ ([((ma 8), .inl (X.2.1, 10, .inl ft))]) ([((ma 3), .inl (X.2.1, 3, .inl fr))])))) sz) (va_A (@HAppend.hAppend va_W va_W va_W _ (mW m0 ma la lb n t v) (@HAppend.hAppend va_W va_W va_W _ ([((ma 0), .inl (X.2.1, 371, .inl fa))]) (@HAppend.hAppend va_W va_W va_W _ ([((ma 8), .inl (X.2.1, 10, .inl ft))]) ([((ma 3), .inl (X.2.1, 3, .inl fr))])))) sz) s (@HAppend.hAppend va_W va_W va_W _ (mW m0 ma la lb n t v) (@HAppend.hAppend va_W va_W va_W _ ([((ma 0), .inl (X.2.1, 371, .inl fa))]) (@HAppend.hAppend va_W va_W va_W _ ([((ma 8), .inl (X.2.1, 10, .inl f45_2))]) ([((ma 3), .inl (X.2.1, 3, .inl fr))])))) H locs → lv_has ls 7 [(6, .int (nI n45_6)), (5, .int (nI n30_5)), (4, .int (nI n30_4)), (3, .int x30_3), (2, .int r_3), (0, .ref m0), (1, .int (nI j_1))] → W p l e _ s m _ below meth c H locs _ _ _ (F0 m 45 ls [])) (fun loop => loop ((6 - 0) + 1) 0 f30_2 _ _ _ (by omega) ⟨by omega, fun g h1 h2 => absurd h2 (by omega)⟩ (by omega) G hl) ?_
          intro zm
          induction zm with
          | zero => intro n45_6 f45_2 H locs ls zz q_x0 q_hk_n45_6 _ _; exact absurd zz (by omega)
          | succ zm ih45 =>
            intro n45_6 f45_2 H locs ls zm_45 hx45_0 hk_n45_6 G hl
            refine lv_iload zx zb dX11_look_45 (lv_at hl 0 rfl) ?_
            refine lv_bipush (v := 6) zx zb dX11_look_47 (by decide) ?_
            refine lv_icmp_ge (tgt := 89) zx zb dX11_look_49 (by decide) (fun c_6 => ?_) (fun c_6 => ?_)
            · have fc_6 := j_le (a := 6) (b := n45_6) (by omega) (by omega) c_6
              refine lv_aload_n zx zb dX11_look_89 rfl (lv_at hl 5 rfl) ?_
              refine lv_iload_n zx zb dX11_look_90 rfl (lv_at hl 4 rfl) ?_
              refine o_ri (cells' := 0) (slots' := 0) G rfl rfl (n_V (As := [.int r_3]) (rest := []) (C := RX11) (T := TX11) (N := 18) (ci := 9) S G (y_mostAlike l X m0 ma la lb n t v f45_2 r_3 hI_n hI_t H.size) gX11_look_X11_mostAlike rfl rfl rfl hdV_X11_mostAlike ⟨Nat.le_of_ble_eq_true rfl, Nat.le_of_ble_eq_true rfl⟩ [0, 2] rfl rfl 0 rfl rfl rfl hl.1 (Nat.le_of_ble_eq_true rfl) dX11_look_91 ⟨Nat.le_of_ble_eq_true rfl, Nat.le_of_ble_eq_true rfl⟩) (fun r_7 u_7 H locs hp_7 G => ?_)
              have G : wd X (va_A (@HAppend.hAppend va_W va_W va_W _ (mW m0 ma la lb n t v) (@HAppend.hAppend va_W va_W va_W _ ([((ma 0), .inl (X.2.1, 371, .inl fa))]) (@HAppend.hAppend va_W va_W va_W _ ([((ma 8), .inl (X.2.1, 10, .inl ft))]) ([((ma 3), .inl (X.2.1, 3, .inl fr))])))) sz) (va_A (@HAppend.hAppend va_W va_W va_W _ (mW m0 ma la lb n t v) (@HAppend.hAppend va_W va_W va_W _ ([((ma 0), .inl (X.2.1, 371, .inl fa))]) (@HAppend.hAppend va_W va_W va_W _ ([((ma 8), .inl (X.2.1, 10, .inl ft))]) ([((ma 3), .inl (X.2.1, 3, .inl fr))])))) sz) s (@HAppend.hAppend va_W va_W va_W _ (mW m0 ma la lb n t v) (@HAppend.hAppend va_W va_W va_W _ ([((ma 0), .inl (X.2.1, 371, .inl fa))]) (@HAppend.hAppend va_W va_W va_W _ ([((ma 8), .inl (X.2.1, 10, .inl f45_2))]) ([((ma 3), .inl (X.2.1, 3, .inl fr))])))) H locs := G
              obtain ⟨w_7, ew_7, rfl⟩ : ∃ w : Nat, w = topM _ _ 10 ∧ r_7 = nI w := ⟨_, rfl, hp_7⟩
              have hw_7 : w_7 ≤ 10 := by rw [ew_7]; exact top10 10
              have hT0 : w_7 = (fun a => topM r_3 (fun g => reachP (nI g) (fa (43 + j_1)) (nI (a / 10)) (nI (a % 10))) 10) n30_5 := ew_7.trans (topM_c (fun b hb h => hx45_0.2 b ((set_k hp_3).2 b hb h).1 (by have := ((set_k hp_3).2 b hb h).2; omega)) 10 (by decide))
              refine lv_istore (lv' := [(6, .int (nI w_7)), (5, .int (nI n30_5)), (4, .int (nI n30_4)), (3, .int x30_3), (2, .int r_3), (0, .ref m0), (1, .int (nI j_1))]) zx zb dX11_look_94 hl (by decide) rfl (fun ls hl => ?_)
              refine lv_iload zx zb dX11_look_96 (lv_at hl 0 rfl) ?_
              refine lv_iload zx zb dX11_look_98 (lv_at hl 2 rfl) ?_
              refine lv_icmp_ge (tgt := 108) zx zb dX11_look_100 (by decide) (fun c_8 => ?_) (fun c_8 => ?_)
              · have fc_8 := j_le (a := n30_4) (b := w_7) (by omega) (by omega) c_8
                refine lv_iload_n zx zb dX11_look_108 rfl (lv_at hl 3 rfl) ?_
                refine lv_istore_n (lv' := [(3, .int x30_3), (6, .int (nI w_7)), (5, .int (nI n30_5)), (4, .int (nI n30_4)), (2, .int r_3), (0, .ref m0), (1, .int (nI j_1))]) zx zb dX11_look_109 rfl hl (by decide) rfl (fun ls hl => ?_)
                refine lv_iload zx zb dX11_look_110 (lv_at hl 1 rfl) ?_
                refine lv_iload zx zb dX11_look_112 (lv_at hl 3 rfl) ?_
                refine lv_icmp_ge (tgt := 122) zx zb dX11_look_114 (by decide) (fun c_9 => ?_) (fun c_9 => absurd (c_8) c_9)
                refine lv_iload zx zb dX11_look_122 (lv_at hl 3 rfl) ?_
                refine lv_istore (lv' := [(4, .int (nI n30_4)), (3, .int x30_3), (6, .int (nI w_7)), (5, .int (nI n30_5)), (2, .int r_3), (0, .ref m0), (1, .int (nI j_1))]) zx zb dX11_look_124 hl (by decide) rfl (fun ls hl => ?_)
                refine lv_iinc (v := (nI (n30_5 + 1))) (lv' := [(5, .int (nI (n30_5 + 1))), (4, .int (nI n30_4)), (3, .int x30_3), (6, .int (nI w_7)), (2, .int r_3), (0, .ref m0), (1, .int (nI j_1))]) zx zb dX11_look_126 hl (k := 3) rfl (nI_add n30_5 1) (by decide) rfl (fun ls hl => ?_)
                refine lv_goto (tgt := 30) zx zb dX11_look_129 (by decide) ?_
                have hl := lv_sub hl (l' := [(5, .int (nI (n30_5 + 1))), (4, .int (nI n30_4)), (3, .int x30_3), (2, .int r_3), (0, .ref m0), (1, .int (nI j_1))]) [0, 1, 2, 4, 5, 6] rfl
                exact ih30 (n30_5 + 1) n30_4 x30_3 f45_2 _ _ _ (by omega) ⟨⟨by omega, Or.inr (Int32.not_le.mp c_5)⟩, lkB_f hx30_0.2.1 hx30_0.2.2 hT0 (by omega)⟩ (by omega) (by omega) G hl
              · have fc_8 := j_nle (a := n30_4) (b := w_7) (by omega) (by omega) c_8
                refine lv_iload zx zb dX11_look_103 (lv_at hl 1 rfl) ?_
                refine lv_goto (tgt := 109) zx zb dX11_look_105 (by decide) ?_
                refine lv_istore_n (lv' := [(3, .int (nI n30_5)), (6, .int (nI w_7)), (5, .int (nI n30_5)), (4, .int (nI n30_4)), (2, .int r_3), (0, .ref m0), (1, .int (nI j_1))]) zx zb dX11_look_109 rfl hl (by decide) rfl (fun ls hl => ?_)
                refine lv_iload zx zb dX11_look_110 (lv_at hl 1 rfl) ?_
                refine lv_iload zx zb dX11_look_112 (lv_at hl 3 rfl) ?_
                refine lv_icmp_ge (tgt := 122) zx zb dX11_look_114 (by decide) (fun c_10 => absurd c_10 (c_8)) (fun c_10 => ?_)
                refine lv_iload zx zb dX11_look_117 (lv_at hl 1 rfl) ?_
                refine lv_goto (tgt := 124) zx zb dX11_look_119 (by decide) ?_
                refine lv_istore (lv' := [(4, .int (nI w_7)), (3, .int (nI n30_5)), (6, .int (nI w_7)), (5, .int (nI n30_5)), (2, .int r_3), (0, .ref m0), (1, .int (nI j_1))]) zx zb dX11_look_124 hl (by decide) rfl (fun ls hl => ?_)
                refine lv_iinc (v := (nI (n30_5 + 1))) (lv' := [(5, .int (nI (n30_5 + 1))), (4, .int (nI w_7)), (3, .int (nI n30_5)), (6, .int (nI w_7)), (2, .int r_3), (0, .ref m0), (1, .int (nI j_1))]) zx zb dX11_look_126 hl (k := 3) rfl (nI_add n30_5 1) (by decide) rfl (fun ls hl => ?_)
                refine lv_goto (tgt := 30) zx zb dX11_look_129 (by decide) ?_
                have hl := lv_sub hl (l' := [(5, .int (nI (n30_5 + 1))), (4, .int (nI w_7)), (3, .int (nI n30_5)), (2, .int r_3), (0, .ref m0), (1, .int (nI j_1))]) [0, 1, 2, 4, 5, 6] rfl
                exact ih30 (n30_5 + 1) w_7 (nI n30_5) f45_2 _ _ _ (by omega) ⟨⟨by omega, Or.inr (Int32.not_le.mp c_5)⟩, lkB_t hx30_0.2.2 hT0 (by omega)⟩ (by omega) (by omega) G hl
            · have fc_6 := j_nle (a := 6) (b := n45_6) (by omega) (by omega) c_6
              refine lv_aload_n zx zb dX11_look_52 rfl (lv_at hl 5 rfl) ?_
              refine r_get (C := RX11) (T := TX11) (N := 18) (ci := 9) (v := .ref (ma 8)) S in_X11_look_X11 G 0 rfl rfl 8 (by decide) lk_X11_look_33 rfl dX11_look_53 ?_
              refine lv_iload zx zb dX11_look_56 (lv_at hl 0 rfl) ?_
              refine lv_iload zx zb dX11_look_58 (lv_at hl 0 rfl) ?_
              refine lv_aload_n zx zb dX11_look_60 rfl (lv_at hl 5 rfl) ?_
              refine r_get (C := RX11) (T := TX11) (N := 18) (ci := 9) (v := .ref (ma 0)) S in_X11_look_X11 G 0 rfl rfl 0 (by decide) lk_X11_look_7 rfl dX11_look_61 ?_
              refine lv_bipush (v := 43) zx zb dX11_look_64 (by decide) ?_
              refine lv_iload_n zx zb dX11_look_66 rfl (lv_at hl 6 rfl) ?_
              refine r_iadd (v := (nI (43 + j_1))) S (nI_add 43 j_1) dX11_look_67 ?_
              refine r_iald (v := (fa (43 + j_1))) S G 1 rfl (vp_in_nI (by omega) (by decide)) (congrArg fa (nI_clamp (by omega))) dX11_look_68 ?_
              refine lv_iload zx zb dX11_look_69 (lv_at hl 1 rfl) ?_
              refine lv_bipush (v := 10) zx zb dX11_look_71 (by decide) ?_
              refine lv_irem zx zb dX11_look_73 (by decide) ?_
              refine k_it (v := (nI (n30_5 % 10))) (pk_rem (d := 10) (by omega) (by decide) (by decide)) ?_
              refine lv_iload zx zb dX11_look_74 (lv_at hl 1 rfl) ?_
              refine lv_bipush (v := 10) zx zb dX11_look_76 (by decide) ?_
              refine lv_idiv zx zb dX11_look_78 (by decide) ?_
              refine k_it (v := (nI (n30_5 / 10))) (pk_div (d := 10) (by omega) (by decide) (by decide)) ?_
              refine o_ri (cells' := 0) (slots' := 0) G rfl rfl (n_S (As := [.int (nI n45_6), .int (fa (43 + j_1)), .int (nI (n30_5 % 10)), .int (nI (n30_5 / 10))]) (rest := [.int (nI n45_6), .ref (ma 8)]) S G (y_runsAs l X (nI n45_6) (fa (43 + j_1)) (nI (n30_5 % 10)) (nI (n30_5 / 10)) H.size) gX11_look_X11_runsAs rfl rfl rfl hdS_X11_runsAs ⟨Nat.le_of_ble_eq_true rfl, Nat.le_of_ble_eq_true rfl⟩ [] rfl rfl rfl hl.1 (Nat.le_of_ble_eq_true rfl) dX11_look_79 ⟨Nat.le_of_ble_eq_true rfl, Nat.le_of_ble_eq_true rfl⟩) (fun r_12 u_12 H locs hp_12 G => ?_)
              have G : wd X (va_A (@HAppend.hAppend va_W va_W va_W _ (mW m0 ma la lb n t v) (@HAppend.hAppend va_W va_W va_W _ ([((ma 0), .inl (X.2.1, 371, .inl fa))]) (@HAppend.hAppend va_W va_W va_W _ ([((ma 8), .inl (X.2.1, 10, .inl ft))]) ([((ma 3), .inl (X.2.1, 3, .inl fr))])))) sz) (va_A (@HAppend.hAppend va_W va_W va_W _ (mW m0 ma la lb n t v) (@HAppend.hAppend va_W va_W va_W _ ([((ma 0), .inl (X.2.1, 371, .inl fa))]) (@HAppend.hAppend va_W va_W va_W _ ([((ma 8), .inl (X.2.1, 10, .inl ft))]) ([((ma 3), .inl (X.2.1, 3, .inl fr))])))) sz) s (@HAppend.hAppend va_W va_W va_W _ (mW m0 ma la lb n t v) (@HAppend.hAppend va_W va_W va_W _ ([((ma 0), .inl (X.2.1, 371, .inl fa))]) (@HAppend.hAppend va_W va_W va_W _ ([((ma 8), .inl (X.2.1, 10, .inl f45_2))]) ([((ma 3), .inl (X.2.1, 3, .inl fr))])))) H locs := G
              obtain rfl := hp_12
              refine r_iast S G 2 rfl (vp_in_nI (by omega) (by decide)) dX11_look_82 (fun H locs G => ?_)
              obtain ⟨f_13, hE_f_13, G⟩ : ∃ f_13 : Nat → Int32, f_13 = upd f45_2 ((nI n45_6)).toNatClampNeg (reachP (nI n45_6) (fa (43 + j_1)) (nI (n30_5 / 10)) (nI (n30_5 % 10))) ∧ wd X (va_A (@HAppend.hAppend va_W va_W va_W _ (mW m0 ma la lb n t v) (@HAppend.hAppend va_W va_W va_W _ ([((ma 0), .inl (X.2.1, 371, .inl fa))]) (@HAppend.hAppend va_W va_W va_W _ ([((ma 8), .inl (X.2.1, 10, .inl ft))]) ([((ma 3), .inl (X.2.1, 3, .inl fr))])))) sz) (va_A (@HAppend.hAppend va_W va_W va_W _ (mW m0 ma la lb n t v) (@HAppend.hAppend va_W va_W va_W _ ([((ma 0), .inl (X.2.1, 371, .inl fa))]) (@HAppend.hAppend va_W va_W va_W _ ([((ma 8), .inl (X.2.1, 10, .inl ft))]) ([((ma 3), .inl (X.2.1, 3, .inl fr))])))) sz) s (@HAppend.hAppend va_W va_W va_W _ (mW m0 ma la lb n t v) (@HAppend.hAppend va_W va_W va_W _ ([((ma 0), .inl (X.2.1, 371, .inl fa))]) (@HAppend.hAppend va_W va_W va_W _ ([((ma 8), .inl (X.2.1, 10, .inl f_13))]) ([((ma 3), .inl (X.2.1, 3, .inl fr))])))) H locs := ⟨_, rfl, G⟩
              refine lv_iinc (v := (nI (n45_6 + 1))) (lv' := [(6, .int (nI (n45_6 + 1))), (5, .int (nI n30_5)), (4, .int (nI n30_4)), (3, .int x30_3), (2, .int r_3), (0, .ref m0), (1, .int (nI j_1))]) zx zb dX11_look_83 hl (k := 0) rfl (nI_add n45_6 1) (by decide) rfl (fun ls hl => ?_)
              refine lv_goto (tgt := 45) zx zb dX11_look_86 (by decide) ?_
              exact ih45 (n45_6 + 1) f_13 _ _ _ (by omega) ⟨by omega, k_til hx45_0.2 hE_f_13 (nI_clamp (by omega)) rfl⟩ (by omega) G hl
  · refine lv_if_ne (tgt := 15) zx zb dX11_look_5 (by decide) (fun c_14 => absurd (by decide) c_14) (fun c_14 => ?_)
    refine lv_aload_n zx zb dX11_look_8 rfl (lv_at hl 0 rfl) ?_
    refine lv_bipush (v := (-2)) zx zb dX11_look_9 (by decide) ?_
    refine b_wi (cells' := 0) (slots' := 0) (wr := @HAppend.hAppend va_W va_W va_W _ ([((ma 0), .inl (X.2.1, 371, .inl fa))]) ([((ma 8), .inl (X.2.1, 10, .inl ft))])) G rfl rfl [0, 3] [1, 2] rfl rfl rfl rfl (n_V (As := [.int (-2)]) (rest := []) (C := RX11) (T := TX11) (N := 18) (ci := 9) S G (m_bad l X m0 ma la lb n t v fr (-2) hI_n hI_t H.size) gX11_look_X11_bad rfl rfl rfl hdV_X11_bad ⟨Nat.le_of_ble_eq_true rfl, Nat.le_of_ble_eq_true rfl⟩ [0, 3] rfl rfl 0 rfl rfl rfl hl.1 (Nat.le_of_ble_eq_true rfl) dX11_look_11 ⟨Nat.le_of_ble_eq_true rfl, Nat.le_of_ble_eq_true rfl⟩) (fun r_15 u_15 H locs hp_15 G => ?_)
    obtain ⟨f_15, rfl⟩ : ∃ z, z = u_15 := ⟨_, rfl⟩
    have hq_15 := hp_15
    have G : wd X (va_A (@HAppend.hAppend va_W va_W va_W _ (mW m0 ma la lb n t v) (@HAppend.hAppend va_W va_W va_W _ ([((ma 0), .inl (X.2.1, 371, .inl fa))]) (@HAppend.hAppend va_W va_W va_W _ ([((ma 8), .inl (X.2.1, 10, .inl ft))]) ([((ma 3), .inl (X.2.1, 3, .inl fr))])))) sz) (va_A (@HAppend.hAppend va_W va_W va_W _ (mW m0 ma la lb n t v) (@HAppend.hAppend va_W va_W va_W _ ([((ma 0), .inl (X.2.1, 371, .inl fa))]) (@HAppend.hAppend va_W va_W va_W _ ([((ma 8), .inl (X.2.1, 10, .inl ft))]) ([((ma 3), .inl (X.2.1, 3, .inl fr))])))) sz) s (@HAppend.hAppend va_W va_W va_W _ ([((ma 0), .inl (X.2.1, 371, .inl fa))]) (@HAppend.hAppend va_W va_W va_W _ ([((ma 8), .inl (X.2.1, 10, .inl ft))]) (@HAppend.hAppend va_W va_W va_W _ (mW m0 ma la lb n t v) ([((ma 3), .inl (X.2.1, 3, .inl f_15))])))) H locs := G
    obtain rfl := hq_15
    exact e_int S zr zlk (vp_nar_int _) G (ft, f_15) [2, 0, 1, 3] rfl rfl (Or.inr rfl) ((ansF_f (fun h => hj_1 h)).symm) dX11_look_14
set_option maxHeartbeats 4000000 in
set_option maxRecDepth 100000 in
theorem y_ask (l : Launch) (X : EX) (m0 : Nat) (ma : Nat → Nat) (la : Int64) (lb : Int64) (n : Nat) (t : Nat → Nat) (v : Nat → Int32) (fa : Nat → Int32) (c0 : Nat) (c1 : Nat) (c2 : Nat) (c3 : Nat) (c4 : Nat) (ft : Nat → Int32) (fr : Nat → Int32) (x1 : Int32) (hI_n : n ≤ 150) (hI_t : InT t) (hI_fa : InA fa c0 c1 c2 c3 c4) (sz : Nat) : Met l yX11_ask wsX11_ask ({ frames := 2, cells := 0, slots := 0, locals := 48 } : Room) (pE X [.ref m0, .int x1] (@HAppend.hAppend va_W va_W va_W _ (mW m0 ma la lb n t v) (@HAppend.hAppend va_W va_W va_W _ ([((ma 0), .inl (X.2.1, 371, .inl fa))]) (@HAppend.hAppend va_W va_W va_W _ ([((ma 8), .inl (X.2.1, 10, .inl ft))]) ([((ma 3), .inl (X.2.1, 3, .inl fr))])))) sz) (qI (fun (r : Int32) (u : (Nat → Int32) × (Nat → Int32)) => (r = ansF (thP c0 x1) (askF (setF (fun l => eggP c3 (fun k => fa (105 + (3 * k))) (fun k => fa ((105 + (3 * k)) + 1)) (fun k => fa ((105 + (3 * k)) + 2)) x1 (nI l)) 0 6)))) X (fun (u : (Nat → Int32) × (Nat → Int32)) => @HAppend.hAppend va_W va_W va_W _ (mW m0 ma la lb n t v) (@HAppend.hAppend va_W va_W va_W _ ([((ma 0), .inl (X.2.1, 371, .inl fa))]) (@HAppend.hAppend va_W va_W va_W _ ([((ma 8), .inl (X.2.1, 10, .inl u.1))]) ([((ma 3), .inl (X.2.1, 3, .inl u.2))])))) (@HAppend.hAppend va_W va_W va_W _ (mW m0 ma la lb n t v) (@HAppend.hAppend va_W va_W va_W _ ([((ma 0), .inl (X.2.1, 371, .inl fa))]) (@HAppend.hAppend va_W va_W va_W _ ([((ma 8), .inl (X.2.1, 10, .inl ft))]) ([((ma 3), .inl (X.2.1, 3, .inl fr))])))) sz) 0 0 (va_A (@HAppend.hAppend va_W va_W va_W _ (mW m0 ma la lb n t v) (@HAppend.hAppend va_W va_W va_W _ ([((ma 0), .inl (X.2.1, 371, .inl fa))]) (@HAppend.hAppend va_W va_W va_W _ ([((ma 8), .inl (X.2.1, 10, .inl ft))]) ([((ma 3), .inl (X.2.1, 3, .inl fr))])))) sz) := by
  refine mk_met (B := (va_A (@HAppend.hAppend va_W va_W va_W _ (mW m0 ma la lb n t v) (@HAppend.hAppend va_W va_W va_W _ ([((ma 0), .inl (X.2.1, 371, .inl fa))]) (@HAppend.hAppend va_W va_W va_W _ ([((ma 8), .inl (X.2.1, 10, .inl ft))]) ([((ma 3), .inl (X.2.1, 3, .inl fr))])))) sz)) (A := (va_A (@HAppend.hAppend va_W va_W va_W _ (mW m0 ma la lb n t v) (@HAppend.hAppend va_W va_W va_W _ ([((ma 0), .inl (X.2.1, 371, .inl fa))]) (@HAppend.hAppend va_W va_W va_W _ ([((ma 8), .inl (X.2.1, 10, .inl ft))]) ([((ma 3), .inl (X.2.1, 3, .inl fr))])))) sz)) (cc := cX11_ask) (maxL := 7) (ret := (some .int)) (by decide) rfl (Nat.le_of_ble_eq_true rfl) k_w k_a (fun p e s m below meth c S zr zlk znm zsz G ls hl => ?_)
  have S : CallFix p m c cX11_ask 7 s _ wsX11_ask RX11 := S
  have zx := S.1
  have zb := S.2.1
  have hl : lv_has ls 7 [(0, .ref m0), (1, .int x1)] := hl
  have hO_t := hI_t
  obtain ⟨ht0_t, ht1_t⟩ := hO_t
  have hO_fa := hI_fa.2
  obtain ⟨hm0_fa, hm1_fa, hm2_fa, hm3_fa, hm4_fa⟩ := hO_fa
  refine lv_aload_n zx zb dX11_ask_0 rfl (lv_at hl 0 rfl) ?_
  refine lv_iload_n zx zb dX11_ask_1 rfl (lv_at hl 1 rfl) ?_
  refine o_ri (cells' := 0) (slots' := 0) G rfl rfl (n_V (As := [.int x1]) (rest := []) (C := RX11) (T := TX11) (N := 18) (ci := 9) S G (m_isOne l X m0 ma la lb n t v fa c0 c1 c2 c3 c4 x1 hI_n hI_t hI_fa s.heap.size) gX11_ask_X11_isOne rfl rfl rfl hdV_X11_isOne ⟨Nat.le_of_ble_eq_true rfl, Nat.le_of_ble_eq_true rfl⟩ [0, 1] rfl rfl 0 rfl rfl rfl hl.1 (Nat.le_of_ble_eq_true rfl) dX11_ask_2 ⟨Nat.le_of_ble_eq_true rfl, Nat.le_of_ble_eq_true rfl⟩) (fun r_1 u_1 H locs hp_1 G => ?_)
  have G : wd X (va_A (@HAppend.hAppend va_W va_W va_W _ (mW m0 ma la lb n t v) (@HAppend.hAppend va_W va_W va_W _ ([((ma 0), .inl (X.2.1, 371, .inl fa))]) (@HAppend.hAppend va_W va_W va_W _ ([((ma 8), .inl (X.2.1, 10, .inl ft))]) ([((ma 3), .inl (X.2.1, 3, .inl fr))])))) sz) (va_A (@HAppend.hAppend va_W va_W va_W _ (mW m0 ma la lb n t v) (@HAppend.hAppend va_W va_W va_W _ ([((ma 0), .inl (X.2.1, 371, .inl fa))]) (@HAppend.hAppend va_W va_W va_W _ ([((ma 8), .inl (X.2.1, 10, .inl ft))]) ([((ma 3), .inl (X.2.1, 3, .inl fr))])))) sz) s (@HAppend.hAppend va_W va_W va_W _ (mW m0 ma la lb n t v) (@HAppend.hAppend va_W va_W va_W _ ([((ma 0), .inl (X.2.1, 371, .inl fa))]) (@HAppend.hAppend va_W va_W va_W _ ([((ma 8), .inl (X.2.1, 10, .inl ft))]) ([((ma 3), .inl (X.2.1, 3, .inl fr))])))) H locs := G
  rcases hp_1 with ⟨rfl, hj_1⟩ | ⟨rfl, hj_1⟩
  · obtain ⟨j_1, hj_1, rfl⟩ := hj_1
    refine lv_if_ne (tgt := 15) zx zb dX11_ask_5 (by decide) (fun c_2 => ?_) (fun c_2 => absurd c_2 (by decide))
    refine lv_aload_n zx zb dX11_ask_15 rfl (lv_at hl 0 rfl) ?_
    refine lv_iload_n zx zb dX11_ask_16 rfl (lv_at hl 1 rfl) ?_
    refine o_ri (cells' := 0) (slots' := 0) G rfl rfl (n_V (As := [.int (nI j_1)]) (rest := []) (C := RX11) (T := TX11) (N := 18) (ci := 9) S G (y_kindsOfEgg l X m0 ma la lb n t v fa c0 c1 c2 c3 c4 (nI j_1) hI_n hI_t hI_fa H.size) gX11_ask_X11_kindsOfEgg rfl rfl rfl hdV_X11_kindsOfEgg ⟨Nat.le_of_ble_eq_true rfl, Nat.le_of_ble_eq_true rfl⟩ [0, 1] rfl rfl 0 rfl rfl rfl hl.1 (Nat.le_of_ble_eq_true rfl) dX11_ask_17 ⟨Nat.le_of_ble_eq_true rfl, Nat.le_of_ble_eq_true rfl⟩) (fun r_3 u_3 H locs hp_3 G => ?_)
    have G : wd X (va_A (@HAppend.hAppend va_W va_W va_W _ (mW m0 ma la lb n t v) (@HAppend.hAppend va_W va_W va_W _ ([((ma 0), .inl (X.2.1, 371, .inl fa))]) (@HAppend.hAppend va_W va_W va_W _ ([((ma 8), .inl (X.2.1, 10, .inl ft))]) ([((ma 3), .inl (X.2.1, 3, .inl fr))])))) sz) (va_A (@HAppend.hAppend va_W va_W va_W _ (mW m0 ma la lb n t v) (@HAppend.hAppend va_W va_W va_W _ ([((ma 0), .inl (X.2.1, 371, .inl fa))]) (@HAppend.hAppend va_W va_W va_W _ ([((ma 8), .inl (X.2.1, 10, .inl ft))]) ([((ma 3), .inl (X.2.1, 3, .inl fr))])))) sz) s (@HAppend.hAppend va_W va_W va_W _ (mW m0 ma la lb n t v) (@HAppend.hAppend va_W va_W va_W _ ([((ma 0), .inl (X.2.1, 371, .inl fa))]) (@HAppend.hAppend va_W va_W va_W _ ([((ma 8), .inl (X.2.1, 10, .inl ft))]) ([((ma 3), .inl (X.2.1, 3, .inl fr))])))) H locs := G
    refine lv_istore_n (lv' := [(2, .int r_3), (0, .ref m0), (1, .int (nI j_1))]) zx zb dX11_ask_20 rfl hl (by decide) rfl (fun ls hl => ?_)
    refine lv_iconst (v := (-1)) zx zb dX11_ask_21 (by decide) ?_
    refine lv_istore_n (lv' := [(3, .int (-1)), (2, .int r_3), (0, .ref m0), (1, .int (nI j_1))]) zx zb dX11_ask_22 rfl hl (by decide) rfl (fun ls hl => ?_)
    refine lv_ldc zx zb S.2.2.2.1 (S.2.2.2.2 _ mm_X11_ask_c150) dX11_ask_23 ?_
    refine lv_istore (lv' := [(4, .int 1000000), (3, .int (-1)), (2, .int r_3), (0, .ref m0), (1, .int (nI j_1))]) zx zb dX11_ask_25 hl (by decide) rfl (fun ls hl => ?_)
    refine lv_iconst (v := 0) zx zb dX11_ask_27 (by decide) ?_
    refine lv_istore (lv' := [(5, .int 0), (4, .int 1000000), (3, .int (-1)), (2, .int r_3), (0, .ref m0), (1, .int (nI j_1))]) zx zb dX11_ask_28 hl (by decide) rfl (fun ls hl => ?_)
    refine k_loop (P := ∀ (zm : Nat) (n30_5 : Nat) (n30_4 : Nat) (x30_3 : Int32) (f30_2 : Nat → Int32) (H : Heap) (locs : List Loc) (ls : Array Slot), ((20 - n30_5) < zm) → ((n30_5 ≤ 20 ∧ (n30_5 = 0 ∨ 0 < r_3)) ∧ x30_3 = (lkB (fun a => topM r_3 (fun g => limitP (nI g) (nI a)) 10) 1000000 n30_5).1 ∧ n30_4 = (lkB (fun a => topM r_3 (fun g => limitP (nI g) (nI a)) 10) 1000000 n30_5).2) → (n30_5 ≤ 20) → (n30_4 ≤ 1000000) → wd X (va_A (@HAppend.hAppend va_W va_W va_W _ (mW m0 ma la lb n t v) (@HAppend.hAppend va_W va_W va_W _ ([((ma 0), .inl (X.2.1, 371, .inl fa))]) (@HAppend.hAppend va_W va_W va_W _ ([((ma 8), .inl (X.2.1, 10, .inl ft))]) ([((ma 3), .inl (X.2.1, 3, .inl fr))])))) sz) (va_A (@HAppend.hAppend va_W va_W va_W _ (mW m0 ma la lb n t v) (@HAppend.hAppend va_W va_W va_W _ ([((ma 0), .inl (X.2.1, 371, .inl fa))]) (@HAppend.hAppend va_W va_W va_W _ ([((ma 8), .inl (X.2.1, 10, .inl ft))]) ([((ma 3), .inl (X.2.1, 3, .inl fr))])))) sz) s (@HAppend.hAppend va_W va_W va_W _ (mW m0 ma la lb n t v) (@HAppend.hAppend va_W va_W va_W _ ([((ma 0), .inl (X.2.1, 371, .inl fa))]) (@HAppend.hAppend va_W va_W va_W _ ([((ma 8), .inl (X.2.1, 10, .inl f30_2))]) ([((ma 3), .inl (X.2.1, 3, .inl fr))])))) H locs → lv_has ls 7 [(5, .int (nI n30_5)), (4, .int (nI n30_4)), (3, .int x30_3), (2, .int r_3), (0, .ref m0), (1, .int (nI j_1))] → W p l e _ s m _ below meth c H locs _ _ _ (F0 m 30 ls [])) (fun loop => loop ((20 - 0) + 1) 0 1000000 (-1) ft _ _ _ (by omega) ⟨⟨by omega, Or.inl rfl⟩, rfl, rfl⟩ (by omega) (by omega) G hl) ?_
    intro zm
    induction zm with
    | zero => intro n30_5 n30_4 x30_3 f30_2 H locs ls zz q_x0 q_hk_n30_5 q_hk_n30_4 _ _; exact absurd zz (by omega)
    | succ zm ih30 =>
      intro n30_5 n30_4 x30_3 f30_2 H locs ls zm_30 hx30_0 hk_n30_5 hk_n30_4 G hl
      refine lv_iload zx zb dX11_ask_30 (lv_at hl 0 rfl) ?_
      refine lv_bipush (v := 20) zx zb dX11_ask_32 (by decide) ?_
      refine lv_icmp_ge (tgt := 114) zx zb dX11_ask_34 (by decide) (fun c_4 => ?_) (fun c_4 => ?_)
      · have fc_4 := j_le (a := 20) (b := n30_5) (by omega) (by omega) c_4
        refine lv_iload_n zx zb dX11_ask_114 rfl (lv_at hl 2 rfl) ?_
        have hST : x30_3 = askF r_3 := lk_endM hx30_0.1.2 (Or.inl (by omega)) (by decide) hx30_0.2.1
        exact e_int S zr zlk (vp_nar_int _) G (f30_2, fr) [0, 1, 2, 3] rfl rfl (Or.inr rfl) (by rw [ansF_t ⟨_, hj_1, rfl⟩]; rw [hST, hp_3]) dX11_ask_115
      · have fc_4 := j_nle (a := 20) (b := n30_5) (by omega) (by omega) c_4
        refine lv_iload_n zx zb dX11_ask_37 rfl (lv_at hl 3 rfl) ?_
        refine lv_if_le (tgt := 114) zx zb dX11_ask_38 (by decide) (fun c_5 => ?_) (fun c_5 => ?_)
        · refine lv_iload_n zx zb dX11_ask_114 rfl (lv_at hl 2 rfl) ?_
          have hST : x30_3 = askF r_3 := lk_endM hx30_0.1.2 (Or.inr (Int32.not_lt.mpr c_5)) (by decide) hx30_0.2.1
          exact e_int S zr zlk (vp_nar_int _) G (f30_2, fr) [0, 1, 2, 3] rfl rfl (Or.inr rfl) (by rw [ansF_t ⟨_, hj_1, rfl⟩]; rw [hST, hp_3]) dX11_ask_115
        · refine lv_iconst (v := 0) zx zb dX11_ask_41 (by decide) ?_
          refine lv_istore (lv' := [(6, .int 0), (5, .int (nI n30_5)), (4, .int (nI n30_4)), (3, .int x30_3), (2, .int r_3), (0, .ref m0), (1, .int (nI j_1))]) zx zb dX11_ask_42 hl (by decide) rfl (fun ls hl => ?_)
          refine k_loop (P := ∀ (zm : Nat) (n44_6 : Nat) (f44_2 : Nat → Int32) (H : Heap) (locs : List Loc) (ls : Array Slot), ((6 - n44_6) < zm) → ((0 ≤ n44_6 ∧ n44_6 ≤ 6) ∧ ∀ g : Nat, 0 ≤ g → g < n44_6 → f44_2 g = (fun g => limitP (nI g) (nI n30_5)) g) → (n44_6 ≤ 6) → wd X (va_A (@HAppend.hAppend va_W va_W va_W _ (mW m0 ma la lb n t v) (@HAppend.hAppend va_W va_W va_W _ ([((ma 0), .inl (X.2.1, 371, .inl fa))]) (@HAppend.hAppend va_W va_W va_W _ ([((ma 8), .inl (X.2.1, 10, .inl ft))]) ([((ma 3), .inl (X.2.1, 3, .inl fr))])))) sz) (va_A (@HAppend.hAppend va_W va_W va_W _ (mW m0 ma la lb n t v) (@HAppend.hAppend va_W va_W va_W _ ([((ma 0), .inl (X.2.1, 371, .inl fa))]) (@HAppend.hAppend va_W va_W va_W _ ([((ma 8), .inl (X.2.1, 10, .inl ft))]) ([((ma 3), .inl (X.2.1, 3, .inl fr))])))) sz) s (@HAppend.hAppend va_W va_W va_W _ (mW m0 ma la lb n t v) (@HAppend.hAppend va_W va_W va_W _ ([((ma 0), .inl (X.2.1, 371, .inl fa))]) (@HAppend.hAppend va_W va_W va_W _ ([((ma 8), .inl (X.2.1, 10, .inl f44_2))]) ([((ma 3), .inl (X.2.1, 3, .inl fr))])))) H locs → lv_has ls 7 [(6, .int (nI n44_6)), (5, .int (nI n30_5)), (4, .int (nI n30_4)), (3, .int x30_3), (2, .int r_3), (0, .ref m0), (1, .int (nI j_1))] → W p l e _ s m _ below meth c H locs _ _ _ (F0 m 44 ls [])) (fun loop => loop ((6 - 0) + 1) 0 f30_2 _ _ _ (by omega) ⟨by omega, fun g h1 h2 => absurd h2 (by omega)⟩ (by omega) G hl) ?_
          intro zm
          induction zm with
          | zero => intro n44_6 f44_2 H locs ls zz q_x0 q_hk_n44_6 _ _; exact absurd zz (by omega)
          | succ zm ih44 =>
            intro n44_6 f44_2 H locs ls zm_44 hx44_0 hk_n44_6 G hl
            refine lv_iload zx zb dX11_ask_44 (lv_at hl 0 rfl) ?_
            refine lv_bipush (v := 6) zx zb dX11_ask_46 (by decide) ?_
            refine lv_icmp_ge (tgt := 71) zx zb dX11_ask_48 (by decide) (fun c_6 => ?_) (fun c_6 => ?_)
            · have fc_6 := j_le (a := 6) (b := n44_6) (by omega) (by omega) c_6
              refine lv_aload_n zx zb dX11_ask_71 rfl (lv_at hl 5 rfl) ?_
              refine lv_iload_n zx zb dX11_ask_72 rfl (lv_at hl 4 rfl) ?_
              refine o_ri (cells' := 0) (slots' := 0) G rfl rfl (n_V (As := [.int r_3]) (rest := []) (C := RX11) (T := TX11) (N := 18) (ci := 9) S G (y_mostAlike l X m0 ma la lb n t v f44_2 r_3 hI_n hI_t H.size) gX11_ask_X11_mostAlike rfl rfl rfl hdV_X11_mostAlike ⟨Nat.le_of_ble_eq_true rfl, Nat.le_of_ble_eq_true rfl⟩ [0, 2] rfl rfl 0 rfl rfl rfl hl.1 (Nat.le_of_ble_eq_true rfl) dX11_ask_73 ⟨Nat.le_of_ble_eq_true rfl, Nat.le_of_ble_eq_true rfl⟩) (fun r_7 u_7 H locs hp_7 G => ?_)
              have G : wd X (va_A (@HAppend.hAppend va_W va_W va_W _ (mW m0 ma la lb n t v) (@HAppend.hAppend va_W va_W va_W _ ([((ma 0), .inl (X.2.1, 371, .inl fa))]) (@HAppend.hAppend va_W va_W va_W _ ([((ma 8), .inl (X.2.1, 10, .inl ft))]) ([((ma 3), .inl (X.2.1, 3, .inl fr))])))) sz) (va_A (@HAppend.hAppend va_W va_W va_W _ (mW m0 ma la lb n t v) (@HAppend.hAppend va_W va_W va_W _ ([((ma 0), .inl (X.2.1, 371, .inl fa))]) (@HAppend.hAppend va_W va_W va_W _ ([((ma 8), .inl (X.2.1, 10, .inl ft))]) ([((ma 3), .inl (X.2.1, 3, .inl fr))])))) sz) s (@HAppend.hAppend va_W va_W va_W _ (mW m0 ma la lb n t v) (@HAppend.hAppend va_W va_W va_W _ ([((ma 0), .inl (X.2.1, 371, .inl fa))]) (@HAppend.hAppend va_W va_W va_W _ ([((ma 8), .inl (X.2.1, 10, .inl f44_2))]) ([((ma 3), .inl (X.2.1, 3, .inl fr))])))) H locs := G
              obtain ⟨w_7, ew_7, rfl⟩ : ∃ w : Nat, w = topM _ _ 10 ∧ r_7 = nI w := ⟨_, rfl, hp_7⟩
              have hw_7 : w_7 ≤ 10 := by rw [ew_7]; exact top10 10
              have hT0 : w_7 = (fun a => topM r_3 (fun g => limitP (nI g) (nI a)) 10) n30_5 := ew_7.trans (topM_c (fun b hb h => hx44_0.2 b ((set_k hp_3).2 b hb h).1 (by have := ((set_k hp_3).2 b hb h).2; omega)) 10 (by decide))
              refine lv_istore (lv' := [(6, .int (nI w_7)), (5, .int (nI n30_5)), (4, .int (nI n30_4)), (3, .int x30_3), (2, .int r_3), (0, .ref m0), (1, .int (nI j_1))]) zx zb dX11_ask_76 hl (by decide) rfl (fun ls hl => ?_)
              refine lv_iload zx zb dX11_ask_78 (lv_at hl 0 rfl) ?_
              refine lv_iload zx zb dX11_ask_80 (lv_at hl 2 rfl) ?_
              refine lv_icmp_ge (tgt := 90) zx zb dX11_ask_82 (by decide) (fun c_8 => ?_) (fun c_8 => ?_)
              · have fc_8 := j_le (a := n30_4) (b := w_7) (by omega) (by omega) c_8
                refine lv_iload_n zx zb dX11_ask_90 rfl (lv_at hl 3 rfl) ?_
                refine lv_istore_n (lv' := [(3, .int x30_3), (6, .int (nI w_7)), (5, .int (nI n30_5)), (4, .int (nI n30_4)), (2, .int r_3), (0, .ref m0), (1, .int (nI j_1))]) zx zb dX11_ask_91 rfl hl (by decide) rfl (fun ls hl => ?_)
                refine lv_iload zx zb dX11_ask_92 (lv_at hl 1 rfl) ?_
                refine lv_iload zx zb dX11_ask_94 (lv_at hl 3 rfl) ?_
                refine lv_icmp_ge (tgt := 104) zx zb dX11_ask_96 (by decide) (fun c_9 => ?_) (fun c_9 => absurd (c_8) c_9)
                refine lv_iload zx zb dX11_ask_104 (lv_at hl 3 rfl) ?_
                refine lv_istore (lv' := [(4, .int (nI n30_4)), (3, .int x30_3), (6, .int (nI w_7)), (5, .int (nI n30_5)), (2, .int r_3), (0, .ref m0), (1, .int (nI j_1))]) zx zb dX11_ask_106 hl (by decide) rfl (fun ls hl => ?_)
                refine lv_iinc (v := (nI (n30_5 + 1))) (lv' := [(5, .int (nI (n30_5 + 1))), (4, .int (nI n30_4)), (3, .int x30_3), (6, .int (nI w_7)), (2, .int r_3), (0, .ref m0), (1, .int (nI j_1))]) zx zb dX11_ask_108 hl (k := 3) rfl (nI_add n30_5 1) (by decide) rfl (fun ls hl => ?_)
                refine lv_goto (tgt := 30) zx zb dX11_ask_111 (by decide) ?_
                have hl := lv_sub hl (l' := [(5, .int (nI (n30_5 + 1))), (4, .int (nI n30_4)), (3, .int x30_3), (2, .int r_3), (0, .ref m0), (1, .int (nI j_1))]) [0, 1, 2, 4, 5, 6] rfl
                exact ih30 (n30_5 + 1) n30_4 x30_3 f44_2 _ _ _ (by omega) ⟨⟨by omega, Or.inr (Int32.not_le.mp c_5)⟩, lkB_f hx30_0.2.1 hx30_0.2.2 hT0 (by omega)⟩ (by omega) (by omega) G hl
              · have fc_8 := j_nle (a := n30_4) (b := w_7) (by omega) (by omega) c_8
                refine lv_iload zx zb dX11_ask_85 (lv_at hl 1 rfl) ?_
                refine lv_goto (tgt := 91) zx zb dX11_ask_87 (by decide) ?_
                refine lv_istore_n (lv' := [(3, .int (nI n30_5)), (6, .int (nI w_7)), (5, .int (nI n30_5)), (4, .int (nI n30_4)), (2, .int r_3), (0, .ref m0), (1, .int (nI j_1))]) zx zb dX11_ask_91 rfl hl (by decide) rfl (fun ls hl => ?_)
                refine lv_iload zx zb dX11_ask_92 (lv_at hl 1 rfl) ?_
                refine lv_iload zx zb dX11_ask_94 (lv_at hl 3 rfl) ?_
                refine lv_icmp_ge (tgt := 104) zx zb dX11_ask_96 (by decide) (fun c_10 => absurd c_10 (c_8)) (fun c_10 => ?_)
                refine lv_iload zx zb dX11_ask_99 (lv_at hl 1 rfl) ?_
                refine lv_goto (tgt := 106) zx zb dX11_ask_101 (by decide) ?_
                refine lv_istore (lv' := [(4, .int (nI w_7)), (3, .int (nI n30_5)), (6, .int (nI w_7)), (5, .int (nI n30_5)), (2, .int r_3), (0, .ref m0), (1, .int (nI j_1))]) zx zb dX11_ask_106 hl (by decide) rfl (fun ls hl => ?_)
                refine lv_iinc (v := (nI (n30_5 + 1))) (lv' := [(5, .int (nI (n30_5 + 1))), (4, .int (nI w_7)), (3, .int (nI n30_5)), (6, .int (nI w_7)), (2, .int r_3), (0, .ref m0), (1, .int (nI j_1))]) zx zb dX11_ask_108 hl (k := 3) rfl (nI_add n30_5 1) (by decide) rfl (fun ls hl => ?_)
                refine lv_goto (tgt := 30) zx zb dX11_ask_111 (by decide) ?_
                have hl := lv_sub hl (l' := [(5, .int (nI (n30_5 + 1))), (4, .int (nI w_7)), (3, .int (nI n30_5)), (2, .int r_3), (0, .ref m0), (1, .int (nI j_1))]) [0, 1, 2, 4, 5, 6] rfl
                exact ih30 (n30_5 + 1) w_7 (nI n30_5) f44_2 _ _ _ (by omega) ⟨⟨by omega, Or.inr (Int32.not_le.mp c_5)⟩, lkB_t hx30_0.2.2 hT0 (by omega)⟩ (by omega) (by omega) G hl
            · have fc_6 := j_nle (a := 6) (b := n44_6) (by omega) (by omega) c_6
              refine lv_aload_n zx zb dX11_ask_51 rfl (lv_at hl 5 rfl) ?_
              refine r_get (C := RX11) (T := TX11) (N := 18) (ci := 9) (v := .ref (ma 8)) S in_X11_ask_X11 G 0 rfl rfl 8 (by decide) lk_X11_ask_33 rfl dX11_ask_52 ?_
              refine lv_iload zx zb dX11_ask_55 (lv_at hl 0 rfl) ?_
              refine lv_iload zx zb dX11_ask_57 (lv_at hl 0 rfl) ?_
              refine lv_iload zx zb dX11_ask_59 (lv_at hl 1 rfl) ?_
              refine o_ri (cells' := 0) (slots' := 0) G rfl rfl (n_S (As := [.int (nI n44_6), .int (nI n30_5)]) (rest := [.int (nI n44_6), .ref (ma 8)]) S G (y_mayAs l X (nI n44_6) (nI n30_5) H.size) gX11_ask_X11_mayAs rfl rfl rfl hdS_X11_mayAs ⟨Nat.le_of_ble_eq_true rfl, Nat.le_of_ble_eq_true rfl⟩ [] rfl rfl rfl hl.1 (Nat.le_of_ble_eq_true rfl) dX11_ask_61 ⟨Nat.le_of_ble_eq_true rfl, Nat.le_of_ble_eq_true rfl⟩) (fun r_11 u_11 H locs hp_11 G => ?_)
              have G : wd X (va_A (@HAppend.hAppend va_W va_W va_W _ (mW m0 ma la lb n t v) (@HAppend.hAppend va_W va_W va_W _ ([((ma 0), .inl (X.2.1, 371, .inl fa))]) (@HAppend.hAppend va_W va_W va_W _ ([((ma 8), .inl (X.2.1, 10, .inl ft))]) ([((ma 3), .inl (X.2.1, 3, .inl fr))])))) sz) (va_A (@HAppend.hAppend va_W va_W va_W _ (mW m0 ma la lb n t v) (@HAppend.hAppend va_W va_W va_W _ ([((ma 0), .inl (X.2.1, 371, .inl fa))]) (@HAppend.hAppend va_W va_W va_W _ ([((ma 8), .inl (X.2.1, 10, .inl ft))]) ([((ma 3), .inl (X.2.1, 3, .inl fr))])))) sz) s (@HAppend.hAppend va_W va_W va_W _ (mW m0 ma la lb n t v) (@HAppend.hAppend va_W va_W va_W _ ([((ma 0), .inl (X.2.1, 371, .inl fa))]) (@HAppend.hAppend va_W va_W va_W _ ([((ma 8), .inl (X.2.1, 10, .inl f44_2))]) ([((ma 3), .inl (X.2.1, 3, .inl fr))])))) H locs := G
              obtain rfl := hp_11
              refine r_iast S G 2 rfl (vp_in_nI (by omega) (by decide)) dX11_ask_64 (fun H locs G => ?_)
              obtain ⟨f_12, hE_f_12, G⟩ : ∃ f_12 : Nat → Int32, f_12 = upd f44_2 ((nI n44_6)).toNatClampNeg (limitP (nI n44_6) (nI n30_5)) ∧ wd X (va_A (@HAppend.hAppend va_W va_W va_W _ (mW m0 ma la lb n t v) (@HAppend.hAppend va_W va_W va_W _ ([((ma 0), .inl (X.2.1, 371, .inl fa))]) (@HAppend.hAppend va_W va_W va_W _ ([((ma 8), .inl (X.2.1, 10, .inl ft))]) ([((ma 3), .inl (X.2.1, 3, .inl fr))])))) sz) (va_A (@HAppend.hAppend va_W va_W va_W _ (mW m0 ma la lb n t v) (@HAppend.hAppend va_W va_W va_W _ ([((ma 0), .inl (X.2.1, 371, .inl fa))]) (@HAppend.hAppend va_W va_W va_W _ ([((ma 8), .inl (X.2.1, 10, .inl ft))]) ([((ma 3), .inl (X.2.1, 3, .inl fr))])))) sz) s (@HAppend.hAppend va_W va_W va_W _ (mW m0 ma la lb n t v) (@HAppend.hAppend va_W va_W va_W _ ([((ma 0), .inl (X.2.1, 371, .inl fa))]) (@HAppend.hAppend va_W va_W va_W _ ([((ma 8), .inl (X.2.1, 10, .inl f_12))]) ([((ma 3), .inl (X.2.1, 3, .inl fr))])))) H locs := ⟨_, rfl, G⟩
              refine lv_iinc (v := (nI (n44_6 + 1))) (lv' := [(6, .int (nI (n44_6 + 1))), (5, .int (nI n30_5)), (4, .int (nI n30_4)), (3, .int x30_3), (2, .int r_3), (0, .ref m0), (1, .int (nI j_1))]) zx zb dX11_ask_65 hl (k := 0) rfl (nI_add n44_6 1) (by decide) rfl (fun ls hl => ?_)
              refine lv_goto (tgt := 44) zx zb dX11_ask_68 (by decide) ?_
              exact ih44 (n44_6 + 1) f_12 _ _ _ (by omega) ⟨by omega, k_til hx44_0.2 hE_f_12 (nI_clamp (by omega)) rfl⟩ (by omega) G hl
  · refine lv_if_ne (tgt := 15) zx zb dX11_ask_5 (by decide) (fun c_13 => absurd (by decide) c_13) (fun c_13 => ?_)
    refine lv_aload_n zx zb dX11_ask_8 rfl (lv_at hl 0 rfl) ?_
    refine lv_bipush (v := (-2)) zx zb dX11_ask_9 (by decide) ?_
    refine b_wi (cells' := 0) (slots' := 0) (wr := @HAppend.hAppend va_W va_W va_W _ ([((ma 0), .inl (X.2.1, 371, .inl fa))]) ([((ma 8), .inl (X.2.1, 10, .inl ft))])) G rfl rfl [0, 3] [1, 2] rfl rfl rfl rfl (n_V (As := [.int (-2)]) (rest := []) (C := RX11) (T := TX11) (N := 18) (ci := 9) S G (m_bad l X m0 ma la lb n t v fr (-2) hI_n hI_t H.size) gX11_ask_X11_bad rfl rfl rfl hdV_X11_bad ⟨Nat.le_of_ble_eq_true rfl, Nat.le_of_ble_eq_true rfl⟩ [0, 3] rfl rfl 0 rfl rfl rfl hl.1 (Nat.le_of_ble_eq_true rfl) dX11_ask_11 ⟨Nat.le_of_ble_eq_true rfl, Nat.le_of_ble_eq_true rfl⟩) (fun r_14 u_14 H locs hp_14 G => ?_)
    obtain ⟨f_14, rfl⟩ : ∃ z, z = u_14 := ⟨_, rfl⟩
    have hq_14 := hp_14
    have G : wd X (va_A (@HAppend.hAppend va_W va_W va_W _ (mW m0 ma la lb n t v) (@HAppend.hAppend va_W va_W va_W _ ([((ma 0), .inl (X.2.1, 371, .inl fa))]) (@HAppend.hAppend va_W va_W va_W _ ([((ma 8), .inl (X.2.1, 10, .inl ft))]) ([((ma 3), .inl (X.2.1, 3, .inl fr))])))) sz) (va_A (@HAppend.hAppend va_W va_W va_W _ (mW m0 ma la lb n t v) (@HAppend.hAppend va_W va_W va_W _ ([((ma 0), .inl (X.2.1, 371, .inl fa))]) (@HAppend.hAppend va_W va_W va_W _ ([((ma 8), .inl (X.2.1, 10, .inl ft))]) ([((ma 3), .inl (X.2.1, 3, .inl fr))])))) sz) s (@HAppend.hAppend va_W va_W va_W _ ([((ma 0), .inl (X.2.1, 371, .inl fa))]) (@HAppend.hAppend va_W va_W va_W _ ([((ma 8), .inl (X.2.1, 10, .inl ft))]) (@HAppend.hAppend va_W va_W va_W _ (mW m0 ma la lb n t v) ([((ma 3), .inl (X.2.1, 3, .inl f_14))])))) H locs := G
    obtain rfl := hq_14
    exact e_int S zr zlk (vp_nar_int _) G (ft, f_14) [2, 0, 1, 3] rfl rfl (Or.inr rfl) ((ansF_f (fun h => hj_1 h)).symm) dX11_ask_14
