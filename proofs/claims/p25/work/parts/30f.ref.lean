set_option maxRecDepth 20000 in
theorem ggX11_isSmall_X11_in : GoodIn wsX11_isSmall wsX11_in := goodIn_r _ [6] rfl (by decide +kernel)
set_option maxRecDepth 20000 in
theorem gX11_isSmall_X11_in : GoodIn wsX11_isSmall (va_wsS RX11 56 yX11_in wsX11_in) := goodIn_app (goodIn_of _ (by decide +kernel)) ggX11_isSmall_X11_in
set_option maxRecDepth 20000 in
theorem ggX11_races_X11_bad : GoodIn wsX11_races wsX11_bad := goodIn_r _ [18, 19, 57, 58, 59, 60, 61, 62, 63, 64, 65, 66, 67, 68, 69, 70, 71, 72, 73, 74] rfl (by decide +kernel)
set_option maxRecDepth 20000 in
theorem gX11_races_X11_bad : GoodIn wsX11_races (wsV RX11 68 RX11 yX11_bad wsX11_bad) := goodIn_app (goodIn_of _ (by decide +kernel)) ggX11_races_X11_bad
set_option maxRecDepth 20000 in
theorem ggX11_races_X11_goTick : GoodIn wsX11_races wsX11_goTick := goodIn_r _ [35, 36, 37, 13, 38, 39, 40, 41, 42, 43, 44, 45, 46, 47, 48, 49, 50, 51, 52, 53] rfl (by decide +kernel)
set_option maxRecDepth 20000 in
theorem gX11_races_X11_goTick : GoodIn wsX11_races (va_wsS RX11 109 yX11_goTick wsX11_goTick) := goodIn_app (goodIn_of _ (by decide +kernel)) ggX11_races_X11_goTick
set_option maxRecDepth 20000 in
theorem ggX11_races_X11_in : GoodIn wsX11_races wsX11_in := goodIn_r _ [14] rfl (by decide +kernel)
set_option maxRecDepth 20000 in
theorem gX11_races_X11_in : GoodIn wsX11_races (va_wsS RX11 56 yX11_in wsX11_in) := goodIn_app (goodIn_of _ (by decide +kernel)) ggX11_races_X11_in
set_option maxRecDepth 20000 in
theorem ggX11_races_X11_isOne : GoodIn wsX11_races wsX11_isOne := goodIn_r _ [28, 29, 30, 31, 13, 32, 24, 11, 12, 14, 57, 58, 59, 60, 61, 62, 63, 64, 65, 66, 67, 68, 69, 70, 71, 72, 73, 74] rfl (by decide +kernel)
set_option maxRecDepth 20000 in
theorem gX11_races_X11_isOne : GoodIn wsX11_races (wsV RX11 123 RX11 yX11_isOne wsX11_isOne) := goodIn_app (goodIn_of _ (by decide +kernel)) ggX11_races_X11_isOne
set_option maxRecDepth 20000 in
theorem ggX11_races_X11_layHand : GoodIn wsX11_races wsX11_layHand := goodIn_r _ [23, 8, 24, 57, 58, 59, 60, 61, 62, 63, 64, 65, 66, 67, 68, 69, 70, 71, 72, 73, 74] rfl (by decide +kernel)
set_option maxRecDepth 20000 in
theorem gX11_races_X11_layHand : GoodIn wsX11_races (wsV RX11 137 RX11 yX11_layHand wsX11_layHand) := goodIn_app (goodIn_of _ (by decide +kernel)) ggX11_races_X11_layHand
set_option maxRecDepth 20000 in
theorem ggX11_races_X11_manyHome : GoodIn wsX11_races wsX11_manyHome := goodIn_r _ [56, 36, 37, 13, 38] rfl (by decide +kernel)
set_option maxRecDepth 20000 in
theorem gX11_races_X11_manyHome : GoodIn wsX11_races (va_wsS RX11 119 yX11_manyHome wsX11_manyHome) := goodIn_app (goodIn_of _ (by decide +kernel)) ggX11_races_X11_manyHome
set_option maxRecDepth 20000 in
theorem ggX11_stumble_X11_bad : GoodIn wsX11_stumble wsX11_bad := goodIn_r _ [21, 22, 54, 55, 56, 57, 58, 59, 60, 61, 62, 63, 64, 65, 66, 67, 68, 69, 70, 71] rfl (by decide +kernel)
set_option maxRecDepth 20000 in
theorem gX11_stumble_X11_bad : GoodIn wsX11_stumble (wsV RX11 68 RX11 yX11_bad wsX11_bad) := goodIn_app (goodIn_of _ (by decide +kernel)) ggX11_stumble_X11_bad
set_option maxRecDepth 20000 in
theorem ggX11_stumble_X11_fraction : GoodIn wsX11_stumble wsX11_fraction := goodIn_r _ [51, 52, 53, 54, 55, 56, 57, 58, 59, 60, 61, 62, 63, 64, 65, 66, 67, 68, 69, 70, 71] rfl (by decide +kernel)
set_option maxRecDepth 20000 in
theorem gX11_stumble_X11_fraction : GoodIn wsX11_stumble (wsV RX11 187 RX11 yX11_fraction wsX11_fraction) := goodIn_app (goodIn_of _ (by decide +kernel)) ggX11_stumble_X11_fraction
set_option maxRecDepth 20000 in
theorem ggX11_stumble_X11_goOne : GoodIn wsX11_stumble wsX11_goOne := goodIn_r _ [35, 36, 37, 8, 38, 39, 40, 41, 42, 43, 44, 45, 46, 47] rfl (by decide +kernel)
set_option maxRecDepth 20000 in
theorem gX11_stumble_X11_goOne : GoodIn wsX11_stumble (va_wsS RX11 105 yX11_goOne wsX11_goOne) := goodIn_app (goodIn_of _ (by decide +kernel)) ggX11_stumble_X11_goOne
set_option maxRecDepth 20000 in
theorem ggX11_stumble_X11_has : GoodIn wsX11_stumble wsX11_has := goodIn_r _ [29] rfl (by decide +kernel)
set_option maxRecDepth 20000 in
theorem gX11_stumble_X11_has : GoodIn wsX11_stumble (va_wsS RX11 161 yX11_has wsX11_has) := goodIn_app (goodIn_of _ (by decide +kernel)) ggX11_stumble_X11_has
set_option maxRecDepth 20000 in
theorem ggX11_stumble_X11_in : GoodIn wsX11_stumble wsX11_in := goodIn_r _ [17] rfl (by decide +kernel)
set_option maxRecDepth 20000 in
theorem gX11_stumble_X11_in : GoodIn wsX11_stumble (va_wsS RX11 56 yX11_in wsX11_in) := goodIn_app (goodIn_of _ (by decide +kernel)) ggX11_stumble_X11_in
set_option maxRecDepth 20000 in
theorem ggX11_stumble_X11_isHome : GoodIn wsX11_stumble wsX11_isHome := goodIn_r _ [32] rfl (by decide +kernel)
set_option maxRecDepth 20000 in
theorem gX11_stumble_X11_isHome : GoodIn wsX11_stumble (va_wsS RX11 101 yX11_isHome wsX11_isHome) := goodIn_app (goodIn_of _ (by decide +kernel)) ggX11_stumble_X11_isHome
set_option maxRecDepth 20000 in
theorem ggX11_stumble_X11_isOne : GoodIn wsX11_stumble wsX11_isOne := goodIn_r _ [9, 10, 11, 12, 8, 13, 14, 15, 16, 17, 54, 55, 56, 57, 58, 59, 60, 61, 62, 63, 64, 65, 66, 67, 68, 69, 70, 71] rfl (by decide +kernel)
set_option maxRecDepth 20000 in
theorem gX11_stumble_X11_isOne : GoodIn wsX11_stumble (wsV RX11 123 RX11 yX11_isOne wsX11_isOne) := goodIn_app (goodIn_of _ (by decide +kernel)) ggX11_stumble_X11_isOne
set_option maxRecDepth 20000 in
theorem ggX11_stumble_X11_layHand : GoodIn wsX11_stumble wsX11_layHand := goodIn_r _ [26, 4, 14, 54, 55, 56, 57, 58, 59, 60, 61, 62, 63, 64, 65, 66, 67, 68, 69, 70, 71] rfl (by decide +kernel)
set_option maxRecDepth 20000 in
theorem gX11_stumble_X11_layHand : GoodIn wsX11_stumble (wsV RX11 137 RX11 yX11_layHand wsX11_layHand) := goodIn_app (goodIn_of _ (by decide +kernel)) ggX11_stumble_X11_layHand
set_option maxRecDepth 20000 in
theorem ggX11_type_X11_bad : GoodIn wsX11_type wsX11_bad := goodIn_r _ [11, 12, 17, 18, 19, 20, 21, 22, 23, 24, 25, 26, 27, 28, 29, 30, 31, 32, 33, 34] rfl (by decide +kernel)
set_option maxRecDepth 20000 in
theorem gX11_type_X11_bad : GoodIn wsX11_type (wsV RX11 68 RX11 yX11_bad wsX11_bad) := goodIn_app (goodIn_of _ (by decide +kernel)) ggX11_type_X11_bad
set_option maxRecDepth 20000 in
theorem ggX11_type_X11_full : GoodIn wsX11_type wsX11_full := goodIn_r _ [16, 12, 17, 18, 19, 20, 21, 22, 23, 24, 25, 26, 27, 28, 29, 30, 31, 32, 33, 34] rfl (by decide +kernel)
set_option maxRecDepth 20000 in
theorem gX11_type_X11_full : GoodIn wsX11_type (wsV RX11 79 RX11 yX11_full wsX11_full) := goodIn_app (goodIn_of _ (by decide +kernel)) ggX11_type_X11_full
set_option maxRecDepth 20000 in
theorem ggX11_type_X11_in : GoodIn wsX11_type wsX11_in := goodIn_r _ [7] rfl (by decide +kernel)
set_option maxRecDepth 20000 in
theorem gX11_type_X11_in : GoodIn wsX11_type (va_wsS RX11 56 yX11_in wsX11_in) := goodIn_app (goodIn_of _ (by decide +kernel)) ggX11_type_X11_in
theorem dX11_clear_0 : decode cX11_clear 0 = .ok (.aload_n 0, 1) := by decide +kernel
theorem dX11_clear_1 : decode cX11_clear 1 = .ok (.getfield 205, 3) := by decide +kernel
theorem dX11_clear_10 : decode cX11_clear 10 = .ok (.iload_n 1, 1) := by decide +kernel
theorem dX11_clear_11 : decode cX11_clear 11 = .ok (.ireturn, 1) := by decide +kernel
theorem dX11_clear_4 : decode cX11_clear 4 = .ok (.istore_n 1, 1) := by decide +kernel
theorem dX11_clear_5 : decode cX11_clear 5 = .ok (.aload_n 0, 1) := by decide +kernel
theorem dX11_clear_6 : decode cX11_clear 6 = .ok (.iconst 0, 1) := by decide +kernel
theorem dX11_clear_7 : decode cX11_clear 7 = .ok (.putfield 205, 3) := by decide +kernel
theorem dX11_fraction_0 : decode cX11_fraction 0 = .ok (.lload_n 1, 1) := by decide +kernel
theorem dX11_fraction_1 : decode cX11_fraction 1 = .ok (.lstore 5, 2) := by decide +kernel
theorem dX11_fraction_10 : decode cX11_fraction 10 = .ok (.ifCond .eq 21, 3) := by decide +kernel
theorem dX11_fraction_13 : decode cX11_fraction 13 = .ok (.lload 5, 2) := by decide +kernel
theorem dX11_fraction_15 : decode cX11_fraction 15 = .ok (.lload 7, 2) := by decide +kernel
theorem dX11_fraction_17 : decode cX11_fraction 17 = .ok (.lrem, 1) := by decide +kernel
theorem dX11_fraction_18 : decode cX11_fraction 18 = .ok (.lstore 9, 2) := by decide +kernel
theorem dX11_fraction_20 : decode cX11_fraction 20 = .ok (.lload 7, 2) := by decide +kernel
theorem dX11_fraction_22 : decode cX11_fraction 22 = .ok (.lstore 5, 2) := by decide +kernel
theorem dX11_fraction_24 : decode cX11_fraction 24 = .ok (.lload 9, 2) := by decide +kernel
theorem dX11_fraction_26 : decode cX11_fraction 26 = .ok (.lstore 7, 2) := by decide +kernel
theorem dX11_fraction_28 : decode cX11_fraction 28 = .ok (.goto (-22), 3) := by decide +kernel
theorem dX11_fraction_3 : decode cX11_fraction 3 = .ok (.lload_n 3, 1) := by decide +kernel
theorem dX11_fraction_31 : decode cX11_fraction 31 = .ok (.aload_n 0, 1) := by decide +kernel
theorem dX11_fraction_32 : decode cX11_fraction 32 = .ok (.lload_n 1, 1) := by decide +kernel
theorem dX11_fraction_33 : decode cX11_fraction 33 = .ok (.lload 5, 2) := by decide +kernel
theorem dX11_fraction_35 : decode cX11_fraction 35 = .ok (.ldiv, 1) := by decide +kernel
theorem dX11_fraction_36 : decode cX11_fraction 36 = .ok (.putfield 182, 3) := by decide +kernel
theorem dX11_fraction_39 : decode cX11_fraction 39 = .ok (.aload_n 0, 1) := by decide +kernel
theorem dX11_fraction_4 : decode cX11_fraction 4 = .ok (.lstore 7, 2) := by decide +kernel
theorem dX11_fraction_40 : decode cX11_fraction 40 = .ok (.lload_n 3, 1) := by decide +kernel
theorem dX11_fraction_41 : decode cX11_fraction 41 = .ok (.lload 5, 2) := by decide +kernel
theorem dX11_fraction_43 : decode cX11_fraction 43 = .ok (.ldiv, 1) := by decide +kernel
theorem dX11_fraction_44 : decode cX11_fraction 44 = .ok (.putfield 23, 3) := by decide +kernel
theorem dX11_fraction_47 : decode cX11_fraction 47 = .ok (.return_, 1) := by decide +kernel
theorem dX11_fraction_6 : decode cX11_fraction 6 = .ok (.lload 7, 2) := by decide +kernel
theorem dX11_fraction_8 : decode cX11_fraction 8 = .ok (.lconst 0, 1) := by decide +kernel
theorem dX11_fraction_9 : decode cX11_fraction 9 = .ok (.lcmp, 1) := by decide +kernel
theorem dX11_isSmall_0 : decode cX11_isSmall 0 = .ok (.iload_n 0, 1) := by decide +kernel
theorem dX11_isSmall_1 : decode cX11_isSmall 1 = .ok (.i2l, 1) := by decide +kernel
theorem dX11_isSmall_11 : decode cX11_isSmall 11 = .ok (.ireturn, 1) := by decide +kernel
theorem dX11_isSmall_2 : decode cX11_isSmall 2 = .ok (.ldc2_w 209, 3) := by decide +kernel
theorem dX11_isSmall_5 : decode cX11_isSmall 5 = .ok (.ldc2_w 211, 3) := by decide +kernel
theorem dX11_isSmall_8 : decode cX11_isSmall 8 = .ok (.invokestatic 56, 3) := by decide +kernel
theorem dX11_races_0 : decode cX11_races 0 = .ok (.iload_n 1, 1) := by decide +kernel
theorem dX11_races_1 : decode cX11_races 1 = .ok (.i2l, 1) := by decide +kernel
theorem dX11_races_100 : decode cX11_races 100 = .ok (.l2i, 1) := by decide +kernel
theorem dX11_races_101 : decode cX11_races 101 = .ok (.iastore, 1) := by decide +kernel
theorem dX11_races_102 : decode cX11_races 102 = .ok (.aload_n 0, 1) := by decide +kernel
theorem dX11_races_103 : decode cX11_races 103 = .ok (.getfield 27, 3) := by decide +kernel
theorem dX11_races_106 : decode cX11_races 106 = .ok (.invokestatic 109, 3) := by decide +kernel
theorem dX11_races_109 : decode cX11_races 109 = .ok (.iinc 5 1, 3) := by decide +kernel
theorem dX11_races_112 : decode cX11_races 112 = .ok (.goto (-71), 3) := by decide +kernel
theorem dX11_races_115 : decode cX11_races 115 = .ok (.aload_n 0, 1) := by decide +kernel
theorem dX11_races_116 : decode cX11_races 116 = .ok (.getfield 27, 3) := by decide +kernel
theorem dX11_races_119 : decode cX11_races 119 = .ok (.invokestatic 119, 3) := by decide +kernel
theorem dX11_races_12 : decode cX11_races 12 = .ok (.iload_n 2, 1) := by decide +kernel
theorem dX11_races_122 : decode cX11_races 122 = .ok (.ireturn, 1) := by decide +kernel
theorem dX11_races_13 : decode cX11_races 13 = .ok (.i2l, 1) := by decide +kernel
theorem dX11_races_14 : decode cX11_races 14 = .ok (.lconst 0, 1) := by decide +kernel
theorem dX11_races_15 : decode cX11_races 15 = .ok (.ldc2_w 66, 3) := by decide +kernel
theorem dX11_races_18 : decode cX11_races 18 = .ok (.invokestatic 56, 3) := by decide +kernel
theorem dX11_races_2 : decode cX11_races 2 = .ok (.lconst 0, 1) := by decide +kernel
theorem dX11_races_21 : decode cX11_races 21 = .ok (.ifCond .ne 10, 3) := by decide +kernel
theorem dX11_races_24 : decode cX11_races 24 = .ok (.aload_n 0, 1) := by decide +kernel
theorem dX11_races_25 : decode cX11_races 25 = .ok (.bipush (-2), 2) := by decide +kernel
theorem dX11_races_27 : decode cX11_races 27 = .ok (.invokevirtual 68, 3) := by decide +kernel
theorem dX11_races_3 : decode cX11_races 3 = .ok (.ldc2_w 191, 3) := by decide +kernel
theorem dX11_races_30 : decode cX11_races 30 = .ok (.ireturn, 1) := by decide +kernel
theorem dX11_races_31 : decode cX11_races 31 = .ok (.iload_n 1, 1) := by decide +kernel
theorem dX11_races_32 : decode cX11_races 32 = .ok (.i2l, 1) := by decide +kernel
theorem dX11_races_33 : decode cX11_races 33 = .ok (.lstore_n 3, 1) := by decide +kernel
theorem dX11_races_34 : decode cX11_races 34 = .ok (.aload_n 0, 1) := by decide +kernel
theorem dX11_races_35 : decode cX11_races 35 = .ok (.invokevirtual 137, 3) := by decide +kernel
theorem dX11_races_38 : decode cX11_races 38 = .ok (.iconst 0, 1) := by decide +kernel
theorem dX11_races_39 : decode cX11_races 39 = .ok (.istore 5, 2) := by decide +kernel
theorem dX11_races_41 : decode cX11_races 41 = .ok (.iload 5, 2) := by decide +kernel
theorem dX11_races_43 : decode cX11_races 43 = .ok (.iload_n 2, 1) := by decide +kernel
theorem dX11_races_44 : decode cX11_races 44 = .ok (.if_icmp .ge 71, 3) := by decide +kernel
theorem dX11_races_47 : decode cX11_races 47 = .ok (.lload_n 3, 1) := by decide +kernel
theorem dX11_races_48 : decode cX11_races 48 = .ok (.ldc2_w 193, 3) := by decide +kernel
theorem dX11_races_51 : decode cX11_races 51 = .ok (.lmul, 1) := by decide +kernel
theorem dX11_races_52 : decode cX11_races 52 = .ok (.ldc2_w 195, 3) := by decide +kernel
theorem dX11_races_55 : decode cX11_races 55 = .ok (.ladd, 1) := by decide +kernel
theorem dX11_races_56 : decode cX11_races 56 = .ok (.ldc2_w 197, 3) := by decide +kernel
theorem dX11_races_59 : decode cX11_races 59 = .ok (.lrem, 1) := by decide +kernel
theorem dX11_races_6 : decode cX11_races 6 = .ok (.invokestatic 56, 3) := by decide +kernel
theorem dX11_races_60 : decode cX11_races 60 = .ok (.lstore_n 3, 1) := by decide +kernel
theorem dX11_races_61 : decode cX11_races 61 = .ok (.lload_n 3, 1) := by decide +kernel
theorem dX11_races_62 : decode cX11_races 62 = .ok (.ldc2_w 199, 3) := by decide +kernel
theorem dX11_races_65 : decode cX11_races 65 = .ok (.ldiv, 1) := by decide +kernel
theorem dX11_races_66 : decode cX11_races 66 = .ok (.ldc2_w 185, 3) := by decide +kernel
theorem dX11_races_69 : decode cX11_races 69 = .ok (.lrem, 1) := by decide +kernel
theorem dX11_races_70 : decode cX11_races 70 = .ok (.l2i, 1) := by decide +kernel
theorem dX11_races_71 : decode cX11_races 71 = .ok (.istore 6, 2) := by decide +kernel
theorem dX11_races_73 : decode cX11_races 73 = .ok (.aload_n 0, 1) := by decide +kernel
theorem dX11_races_74 : decode cX11_races 74 = .ok (.iload 6, 2) := by decide +kernel
theorem dX11_races_76 : decode cX11_races 76 = .ok (.invokevirtual 123, 3) := by decide +kernel
theorem dX11_races_79 : decode cX11_races 79 = .ok (.ifCond .eq 23, 3) := by decide +kernel
theorem dX11_races_82 : decode cX11_races 82 = .ok (.aload_n 0, 1) := by decide +kernel
theorem dX11_races_83 : decode cX11_races 83 = .ok (.getfield 27, 3) := by decide +kernel
theorem dX11_races_86 : decode cX11_races 86 = .ok (.bipush 11, 2) := by decide +kernel
theorem dX11_races_88 : decode cX11_races 88 = .ok (.iload 6, 2) := by decide +kernel
theorem dX11_races_9 : decode cX11_races 9 = .ok (.ifCond .eq 15, 3) := by decide +kernel
theorem dX11_races_90 : decode cX11_races 90 = .ok (.iadd, 1) := by decide +kernel
theorem dX11_races_91 : decode cX11_races 91 = .ok (.lload_n 3, 1) := by decide +kernel
theorem dX11_races_92 : decode cX11_races 92 = .ok (.ldc2_w 201, 3) := by decide +kernel
theorem dX11_races_95 : decode cX11_races 95 = .ok (.ldiv, 1) := by decide +kernel
theorem dX11_races_96 : decode cX11_races 96 = .ok (.ldc2_w 64, 3) := by decide +kernel
theorem dX11_races_99 : decode cX11_races 99 = .ok (.lrem, 1) := by decide +kernel
theorem dX11_stumble_0 : decode cX11_stumble 0 = .ok (.aload_n 0, 1) := by decide +kernel
theorem dX11_stumble_1 : decode cX11_stumble 1 = .ok (.iload_n 1, 1) := by decide +kernel
theorem dX11_stumble_10 : decode cX11_stumble 10 = .ok (.lconst 0, 1) := by decide +kernel
theorem dX11_stumble_100 : decode cX11_stumble 100 = .ok (.istore 12, 2) := by decide +kernel
theorem dX11_stumble_102 : decode cX11_stumble 102 = .ok (.iload 12, 2) := by decide +kernel
theorem dX11_stumble_104 : decode cX11_stumble 104 = .ok (.iload_n 3, 1) := by decide +kernel
theorem dX11_stumble_105 : decode cX11_stumble 105 = .ok (.if_icmp .ge 73, 3) := by decide +kernel
theorem dX11_stumble_108 : decode cX11_stumble 108 = .ok (.lload 10, 2) := by decide +kernel
theorem dX11_stumble_11 : decode cX11_stumble 11 = .ok (.ldc2_w 66, 3) := by decide +kernel
theorem dX11_stumble_110 : decode cX11_stumble 110 = .ok (.iload 9, 2) := by decide +kernel
theorem dX11_stumble_112 : decode cX11_stumble 112 = .ok (.iload 12, 2) := by decide +kernel
theorem dX11_stumble_114 : decode cX11_stumble 114 = .ok (.invokestatic 161, 3) := by decide +kernel
theorem dX11_stumble_117 : decode cX11_stumble 117 = .ok (.ifCond .eq 9, 3) := by decide +kernel
theorem dX11_stumble_120 : decode cX11_stumble 120 = .ok (.iload 4, 2) := by decide +kernel
theorem dX11_stumble_122 : decode cX11_stumble 122 = .ok (.i2l, 1) := by decide +kernel
theorem dX11_stumble_123 : decode cX11_stumble 123 = .ok (.goto 9, 3) := by decide +kernel
theorem dX11_stumble_126 : decode cX11_stumble 126 = .ok (.bipush 10, 2) := by decide +kernel
theorem dX11_stumble_128 : decode cX11_stumble 128 = .ok (.iload 4, 2) := by decide +kernel
theorem dX11_stumble_130 : decode cX11_stumble 130 = .ok (.isub, 1) := by decide +kernel
theorem dX11_stumble_131 : decode cX11_stumble 131 = .ok (.i2l, 1) := by decide +kernel
theorem dX11_stumble_132 : decode cX11_stumble 132 = .ok (.lmul, 1) := by decide +kernel
theorem dX11_stumble_133 : decode cX11_stumble 133 = .ok (.lstore 10, 2) := by decide +kernel
theorem dX11_stumble_135 : decode cX11_stumble 135 = .ok (.aload_n 0, 1) := by decide +kernel
theorem dX11_stumble_136 : decode cX11_stumble 136 = .ok (.getfield 27, 3) := by decide +kernel
theorem dX11_stumble_139 : decode cX11_stumble 139 = .ok (.bipush 35, 2) := by decide +kernel
theorem dX11_stumble_14 : decode cX11_stumble 14 = .ok (.invokestatic 56, 3) := by decide +kernel
theorem dX11_stumble_141 : decode cX11_stumble 141 = .ok (.dup2, 1) := by decide +kernel
theorem dX11_stumble_142 : decode cX11_stumble 142 = .ok (.iaload, 1) := by decide +kernel
theorem dX11_stumble_143 : decode cX11_stumble 143 = .ok (.iconst 1, 1) := by decide +kernel
theorem dX11_stumble_144 : decode cX11_stumble 144 = .ok (.iadd, 1) := by decide +kernel
theorem dX11_stumble_145 : decode cX11_stumble 145 = .ok (.iastore, 1) := by decide +kernel
theorem dX11_stumble_146 : decode cX11_stumble 146 = .ok (.aload_n 0, 1) := by decide +kernel
theorem dX11_stumble_147 : decode cX11_stumble 147 = .ok (.getfield 27, 3) := by decide +kernel
theorem dX11_stumble_150 : decode cX11_stumble 150 = .ok (.iload_n 1, 1) := by decide +kernel
theorem dX11_stumble_151 : decode cX11_stumble 151 = .ok (.invokestatic 101, 3) := by decide +kernel
theorem dX11_stumble_154 : decode cX11_stumble 154 = .ok (.ifCond .ne 18, 3) := by decide +kernel
theorem dX11_stumble_157 : decode cX11_stumble 157 = .ok (.aload_n 0, 1) := by decide +kernel
theorem dX11_stumble_158 : decode cX11_stumble 158 = .ok (.getfield 27, 3) := by decide +kernel
theorem dX11_stumble_161 : decode cX11_stumble 161 = .ok (.iload_n 1, 1) := by decide +kernel
theorem dX11_stumble_162 : decode cX11_stumble 162 = .ok (.iload 9, 2) := by decide +kernel
theorem dX11_stumble_164 : decode cX11_stumble 164 = .ok (.iload 12, 2) := by decide +kernel
theorem dX11_stumble_166 : decode cX11_stumble 166 = .ok (.invokestatic 161, 3) := by decide +kernel
theorem dX11_stumble_169 : decode cX11_stumble 169 = .ok (.invokestatic 105, 3) := by decide +kernel
theorem dX11_stumble_17 : decode cX11_stumble 17 = .ok (.ifCond .eq 28, 3) := by decide +kernel
theorem dX11_stumble_172 : decode cX11_stumble 172 = .ok (.iinc 12 1, 3) := by decide +kernel
theorem dX11_stumble_175 : decode cX11_stumble 175 = .ok (.goto (-73), 3) := by decide +kernel
theorem dX11_stumble_178 : decode cX11_stumble 178 = .ok (.lload 5, 2) := by decide +kernel
theorem dX11_stumble_180 : decode cX11_stumble 180 = .ok (.aload_n 0, 1) := by decide +kernel
theorem dX11_stumble_181 : decode cX11_stumble 181 = .ok (.getfield 27, 3) := by decide +kernel
theorem dX11_stumble_184 : decode cX11_stumble 184 = .ok (.iconst 5, 1) := by decide +kernel
theorem dX11_stumble_185 : decode cX11_stumble 185 = .ok (.iload_n 1, 1) := by decide +kernel
theorem dX11_stumble_186 : decode cX11_stumble 186 = .ok (.iadd, 1) := by decide +kernel
theorem dX11_stumble_187 : decode cX11_stumble 187 = .ok (.iaload, 1) := by decide +kernel
theorem dX11_stumble_188 : decode cX11_stumble 188 = .ok (.iload_n 2, 1) := by decide +kernel
theorem dX11_stumble_189 : decode cX11_stumble 189 = .ok (.if_icmp .lt 8, 3) := by decide +kernel
theorem dX11_stumble_192 : decode cX11_stumble 192 = .ok (.lload 10, 2) := by decide +kernel
theorem dX11_stumble_194 : decode cX11_stumble 194 = .ok (.goto 4, 3) := by decide +kernel
theorem dX11_stumble_197 : decode cX11_stumble 197 = .ok (.lconst 0, 1) := by decide +kernel
theorem dX11_stumble_198 : decode cX11_stumble 198 = .ok (.ladd, 1) := by decide +kernel
theorem dX11_stumble_199 : decode cX11_stumble 199 = .ok (.lstore 5, 2) := by decide +kernel
theorem dX11_stumble_2 : decode cX11_stumble 2 = .ok (.invokevirtual 123, 3) := by decide +kernel
theorem dX11_stumble_20 : decode cX11_stumble 20 = .ok (.iload_n 3, 1) := by decide +kernel
theorem dX11_stumble_201 : decode cX11_stumble 201 = .ok (.iinc 9 1, 3) := by decide +kernel
theorem dX11_stumble_204 : decode cX11_stumble 204 = .ok (.goto (-120), 3) := by decide +kernel
theorem dX11_stumble_207 : decode cX11_stumble 207 = .ok (.aload_n 0, 1) := by decide +kernel
theorem dX11_stumble_208 : decode cX11_stumble 208 = .ok (.lload 5, 2) := by decide +kernel
theorem dX11_stumble_21 : decode cX11_stumble 21 = .ok (.i2l, 1) := by decide +kernel
theorem dX11_stumble_210 : decode cX11_stumble 210 = .ok (.lload 7, 2) := by decide +kernel
theorem dX11_stumble_212 : decode cX11_stumble 212 = .ok (.invokevirtual 187, 3) := by decide +kernel
theorem dX11_stumble_215 : decode cX11_stumble 215 = .ok (.iconst 1, 1) := by decide +kernel
theorem dX11_stumble_216 : decode cX11_stumble 216 = .ok (.ireturn, 1) := by decide +kernel
theorem dX11_stumble_22 : decode cX11_stumble 22 = .ok (.lconst 0, 1) := by decide +kernel
theorem dX11_stumble_23 : decode cX11_stumble 23 = .ok (.ldc2_w 185, 3) := by decide +kernel
theorem dX11_stumble_26 : decode cX11_stumble 26 = .ok (.invokestatic 56, 3) := by decide +kernel
theorem dX11_stumble_29 : decode cX11_stumble 29 = .ok (.ifCond .eq 16, 3) := by decide +kernel
theorem dX11_stumble_32 : decode cX11_stumble 32 = .ok (.iload 4, 2) := by decide +kernel
theorem dX11_stumble_34 : decode cX11_stumble 34 = .ok (.i2l, 1) := by decide +kernel
theorem dX11_stumble_35 : decode cX11_stumble 35 = .ok (.lconst 0, 1) := by decide +kernel
theorem dX11_stumble_36 : decode cX11_stumble 36 = .ok (.ldc2_w 64, 3) := by decide +kernel
theorem dX11_stumble_39 : decode cX11_stumble 39 = .ok (.invokestatic 56, 3) := by decide +kernel
theorem dX11_stumble_42 : decode cX11_stumble 42 = .ok (.ifCond .ne 10, 3) := by decide +kernel
theorem dX11_stumble_45 : decode cX11_stumble 45 = .ok (.aload_n 0, 1) := by decide +kernel
theorem dX11_stumble_46 : decode cX11_stumble 46 = .ok (.bipush (-2), 2) := by decide +kernel
theorem dX11_stumble_48 : decode cX11_stumble 48 = .ok (.invokevirtual 68, 3) := by decide +kernel
theorem dX11_stumble_5 : decode cX11_stumble 5 = .ok (.ifCond .eq 40, 3) := by decide +kernel
theorem dX11_stumble_51 : decode cX11_stumble 51 = .ok (.ireturn, 1) := by decide +kernel
theorem dX11_stumble_52 : decode cX11_stumble 52 = .ok (.lconst 0, 1) := by decide +kernel
theorem dX11_stumble_53 : decode cX11_stumble 53 = .ok (.lstore 5, 2) := by decide +kernel
theorem dX11_stumble_55 : decode cX11_stumble 55 = .ok (.lconst 1, 1) := by decide +kernel
theorem dX11_stumble_56 : decode cX11_stumble 56 = .ok (.lstore 7, 2) := by decide +kernel
theorem dX11_stumble_58 : decode cX11_stumble 58 = .ok (.iconst 0, 1) := by decide +kernel
theorem dX11_stumble_59 : decode cX11_stumble 59 = .ok (.istore 9, 2) := by decide +kernel
theorem dX11_stumble_61 : decode cX11_stumble 61 = .ok (.iload 9, 2) := by decide +kernel
theorem dX11_stumble_63 : decode cX11_stumble 63 = .ok (.iload_n 3, 1) := by decide +kernel
theorem dX11_stumble_64 : decode cX11_stumble 64 = .ok (.if_icmp .ge 17, 3) := by decide +kernel
theorem dX11_stumble_67 : decode cX11_stumble 67 = .ok (.lload 7, 2) := by decide +kernel
theorem dX11_stumble_69 : decode cX11_stumble 69 = .ok (.ldc2_w 64, 3) := by decide +kernel
theorem dX11_stumble_72 : decode cX11_stumble 72 = .ok (.lmul, 1) := by decide +kernel
theorem dX11_stumble_73 : decode cX11_stumble 73 = .ok (.lstore 7, 2) := by decide +kernel
theorem dX11_stumble_75 : decode cX11_stumble 75 = .ok (.iinc 9 1, 3) := by decide +kernel
theorem dX11_stumble_78 : decode cX11_stumble 78 = .ok (.goto (-17), 3) := by decide +kernel
theorem dX11_stumble_8 : decode cX11_stumble 8 = .ok (.iload_n 2, 1) := by decide +kernel
theorem dX11_stumble_81 : decode cX11_stumble 81 = .ok (.iconst 0, 1) := by decide +kernel
theorem dX11_stumble_82 : decode cX11_stumble 82 = .ok (.istore 9, 2) := by decide +kernel
theorem dX11_stumble_84 : decode cX11_stumble 84 = .ok (.iload 9, 2) := by decide +kernel
theorem dX11_stumble_86 : decode cX11_stumble 86 = .ok (.iconst 1, 1) := by decide +kernel
theorem dX11_stumble_87 : decode cX11_stumble 87 = .ok (.iload_n 3, 1) := by decide +kernel
theorem dX11_stumble_88 : decode cX11_stumble 88 = .ok (.ishl, 1) := by decide +kernel
theorem dX11_stumble_89 : decode cX11_stumble 89 = .ok (.if_icmp .ge 118, 3) := by decide +kernel
theorem dX11_stumble_9 : decode cX11_stumble 9 = .ok (.i2l, 1) := by decide +kernel
theorem dX11_stumble_92 : decode cX11_stumble 92 = .ok (.lconst 1, 1) := by decide +kernel
theorem dX11_stumble_93 : decode cX11_stumble 93 = .ok (.lstore 10, 2) := by decide +kernel
theorem dX11_stumble_95 : decode cX11_stumble 95 = .ok (.aload_n 0, 1) := by decide +kernel
theorem dX11_stumble_96 : decode cX11_stumble 96 = .ok (.invokevirtual 137, 3) := by decide +kernel
theorem dX11_stumble_99 : decode cX11_stumble 99 = .ok (.iconst 0, 1) := by decide +kernel
theorem dX11_type_0 : decode cX11_type 0 = .ok (.iload_n 1, 1) := by decide +kernel
theorem dX11_type_1 : decode cX11_type 1 = .ok (.i2l, 1) := by decide +kernel
theorem dX11_type_12 : decode cX11_type 12 = .ok (.aload_n 0, 1) := by decide +kernel
theorem dX11_type_13 : decode cX11_type 13 = .ok (.bipush (-2), 2) := by decide +kernel
theorem dX11_type_15 : decode cX11_type 15 = .ok (.invokevirtual 68, 3) := by decide +kernel
theorem dX11_type_18 : decode cX11_type 18 = .ok (.ireturn, 1) := by decide +kernel
theorem dX11_type_19 : decode cX11_type 19 = .ok (.aload_n 0, 1) := by decide +kernel
theorem dX11_type_2 : decode cX11_type 2 = .ok (.lconst 0, 1) := by decide +kernel
theorem dX11_type_20 : decode cX11_type 20 = .ok (.getfield 205, 3) := by decide +kernel
theorem dX11_type_23 : decode cX11_type 23 = .ok (.sipush 150, 3) := by decide +kernel
theorem dX11_type_26 : decode cX11_type 26 = .ok (.if_icmp .ne 8, 3) := by decide +kernel
theorem dX11_type_29 : decode cX11_type 29 = .ok (.aload_n 0, 1) := by decide +kernel
theorem dX11_type_3 : decode cX11_type 3 = .ok (.ldc2_w 203, 3) := by decide +kernel
theorem dX11_type_30 : decode cX11_type 30 = .ok (.invokevirtual 79, 3) := by decide +kernel
theorem dX11_type_33 : decode cX11_type 33 = .ok (.ireturn, 1) := by decide +kernel
theorem dX11_type_34 : decode cX11_type 34 = .ok (.aload_n 0, 1) := by decide +kernel
theorem dX11_type_35 : decode cX11_type 35 = .ok (.getfield 39, 3) := by decide +kernel
theorem dX11_type_38 : decode cX11_type 38 = .ok (.aload_n 0, 1) := by decide +kernel
theorem dX11_type_39 : decode cX11_type 39 = .ok (.getfield 205, 3) := by decide +kernel
theorem dX11_type_42 : decode cX11_type 42 = .ok (.iload_n 1, 1) := by decide +kernel
theorem dX11_type_43 : decode cX11_type 43 = .ok (.iastore, 1) := by decide +kernel
theorem dX11_type_44 : decode cX11_type 44 = .ok (.aload_n 0, 1) := by decide +kernel
theorem dX11_type_45 : decode cX11_type 45 = .ok (.dup, 1) := by decide +kernel
theorem dX11_type_46 : decode cX11_type 46 = .ok (.getfield 205, 3) := by decide +kernel
theorem dX11_type_49 : decode cX11_type 49 = .ok (.iconst 1, 1) := by decide +kernel
theorem dX11_type_50 : decode cX11_type 50 = .ok (.iadd, 1) := by decide +kernel
theorem dX11_type_51 : decode cX11_type 51 = .ok (.putfield 205, 3) := by decide +kernel
theorem dX11_type_54 : decode cX11_type 54 = .ok (.aload_n 0, 1) := by decide +kernel
theorem dX11_type_55 : decode cX11_type 55 = .ok (.getfield 205, 3) := by decide +kernel
theorem dX11_type_58 : decode cX11_type 58 = .ok (.ireturn, 1) := by decide +kernel
theorem dX11_type_6 : decode cX11_type 6 = .ok (.invokestatic 56, 3) := by decide +kernel
theorem dX11_type_9 : decode cX11_type 9 = .ok (.ifCond .ne 10, 3) := by decide +kernel
theorem mm_X11_type_c203 : Cond.constantLong RX11 203 (127) ∈ wsX11_type := by decide +kernel
theorem in_X11_type_X11 : ∀ w ∈ wsX110, w ∈ wsX11_type := by decide +kernel
theorem lk_X11_type_205 : Cond.fieldLink RX11 205 "EggSpoonsModel" "bytesLong" "I" ∈ wsX11_type := by decide +kernel
theorem lk_X11_type_39 : Cond.fieldLink RX11 39 "EggSpoonsModel" "bytes" "[I" ∈ wsX11_type := by decide +kernel
set_option maxHeartbeats 4000000 in
set_option maxRecDepth 100000 in
/-- type -/
theorem m_type (l : Launch) (X : EX) (m0 : Nat) (ma : Nat → Nat) (la : Int64) (lb : Int64) (n : Nat) (t : Nat → Nat) (v : Nat → Int32) (fd : Nat → Int32) (fr : Nat → Int32) (x1 : Int32) (hI_n : n ≤ 150) (hI_t : InT t) (sz : Nat) : Met l yX11_type wsX11_type ({ frames := 1, cells := 0, slots := 0, locals := 25 } : Room) (pE X [.ref m0, .int x1] (@HAppend.hAppend va_W va_W va_W _ (mW m0 ma la lb n t v) (@HAppend.hAppend va_W va_W va_W _ ([((ma 10), .inl (X.2.1, 150, .inl fd))]) ([((ma 3), .inl (X.2.1, 3, .inl fr))]))) sz) (qI (fun (r : Int32) (u : (Nat) × (Nat → Int32) × (Nat → Int32)) => u.1 ≤ 150 ∧ ((r, (u.1, u.2.1)) = typF x1 n fd)) X (fun (u : (Nat) × (Nat → Int32) × (Nat → Int32)) => @HAppend.hAppend va_W va_W va_W _ (mW m0 ma la lb u.1 t v) (@HAppend.hAppend va_W va_W va_W _ ([((ma 10), .inl (X.2.1, 150, .inl u.2.1))]) ([((ma 3), .inl (X.2.1, 3, .inl u.2.2))]))) (@HAppend.hAppend va_W va_W va_W _ (mW m0 ma la lb n t v) (@HAppend.hAppend va_W va_W va_W _ ([((ma 10), .inl (X.2.1, 150, .inl fd))]) ([((ma 3), .inl (X.2.1, 3, .inl fr))]))) sz) 0 0 (va_A (@HAppend.hAppend va_W va_W va_W _ (mW m0 ma la lb n t v) (@HAppend.hAppend va_W va_W va_W _ ([((ma 10), .inl (X.2.1, 150, .inl fd))]) ([((ma 3), .inl (X.2.1, 3, .inl fr))]))) sz) := by
  refine mk_met (B := (va_A (@HAppend.hAppend va_W va_W va_W _ (mW m0 ma la lb n t v) (@HAppend.hAppend va_W va_W va_W _ ([((ma 10), .inl (X.2.1, 150, .inl fd))]) ([((ma 3), .inl (X.2.1, 3, .inl fr))]))) sz)) (A := (va_A (@HAppend.hAppend va_W va_W va_W _ (mW m0 ma la lb n t v) (@HAppend.hAppend va_W va_W va_W _ ([((ma 10), .inl (X.2.1, 150, .inl fd))]) ([((ma 3), .inl (X.2.1, 3, .inl fr))]))) sz)) (cc := cX11_type) (maxL := 2) (ret := (some .int)) (by decide) rfl (Nat.le_of_ble_eq_true rfl) k_w k_a (fun p e s m below meth c S zr zlk znm zsz G ls hl => ?_)
  have S : CallFix p m c cX11_type 2 s _ wsX11_type RX11 := S
  have zx := S.1
  have zb := S.2.1
  have hl : lv_has ls 2 [(0, .ref m0), (1, .int x1)] := hl
  have hO_t := hI_t
  obtain ⟨ht0_t, ht1_t⟩ := hO_t
  refine lv_iload_n zx zb dX11_type_0 rfl (lv_at hl 1 rfl) ?_
  refine lv_i2l (v := (Int32.toInt64 x1)) zx zb dX11_type_1 rfl ?_
  refine lv_lconst (v := (Int32.toInt64 0)) zx zb dX11_type_2 (by decide) ?_
  refine lv_ldc2 zx zb S.2.2.2.1 (S.2.2.2.2 _ mm_X11_type_c203) dX11_type_3 ?_
  refine k_ld (v := (Int32.toInt64 127)) (by decide) ?_
  refine o_ri (cells' := 0) (slots' := 0) G rfl rfl (n_S (As := [.long (Int32.toInt64 x1), .long (Int32.toInt64 0), .long (Int32.toInt64 127)]) (rest := []) S G (m_in l X x1 0 127 s.heap.size) gX11_type_X11_in rfl rfl rfl hdS_X11_in ⟨Nat.le_of_ble_eq_true rfl, Nat.le_of_ble_eq_true rfl⟩ [] rfl rfl rfl hl.1 (Nat.le_of_ble_eq_true rfl) dX11_type_6 ⟨Nat.le_of_ble_eq_true rfl, Nat.le_of_ble_eq_true rfl⟩) (fun r_1 u_1 H locs hp_1 G => ?_)
  have G : wd X (va_A (@HAppend.hAppend va_W va_W va_W _ (mW m0 ma la lb n t v) (@HAppend.hAppend va_W va_W va_W _ ([((ma 10), .inl (X.2.1, 150, .inl fd))]) ([((ma 3), .inl (X.2.1, 3, .inl fr))]))) sz) (va_A (@HAppend.hAppend va_W va_W va_W _ (mW m0 ma la lb n t v) (@HAppend.hAppend va_W va_W va_W _ ([((ma 10), .inl (X.2.1, 150, .inl fd))]) ([((ma 3), .inl (X.2.1, 3, .inl fr))]))) sz) s (@HAppend.hAppend va_W va_W va_W _ (mW m0 ma la lb n t v) (@HAppend.hAppend va_W va_W va_W _ ([((ma 10), .inl (X.2.1, 150, .inl fd))]) ([((ma 3), .inl (X.2.1, 3, .inl fr))]))) H locs := G
  rcases hp_1 with ⟨rfl, hw_1⟩ | ⟨rfl, hw_1⟩
  · obtain ⟨j_1, ⟨ja_1, jb_1⟩, rfl⟩ := k_natR (a := 0) (b := 127) hw_1 rfl rfl (by decide) (by decide)
    refine lv_if_ne (tgt := 19) zx zb dX11_type_9 (by decide) (fun c_2 => ?_) (fun c_2 => absurd c_2 (by decide))
    refine lv_aload_n zx zb dX11_type_19 rfl (lv_at hl 0 rfl) ?_
    refine r_get (C := RX11) (T := TX11) (N := 18) (ci := 9) (v := .int (nI n)) S in_X11_type_X11 G 0 rfl rfl 11 (by decide) lk_X11_type_205 rfl dX11_type_20 ?_
    refine lv_sipush (v := 150) zx zb dX11_type_23 (by decide) ?_
    refine lv_icmp_ne (tgt := 34) zx zb dX11_type_26 (by decide) (fun c_3 => ?_) (fun c_3 => ?_)
    · have fc_3 := j_ne (a := n) (b := 150) c_3
      refine lv_aload_n zx zb dX11_type_34 rfl (lv_at hl 0 rfl) ?_
      refine r_get (C := RX11) (T := TX11) (N := 18) (ci := 9) (v := .ref (ma 10)) S in_X11_type_X11 G 0 rfl rfl 10 (by decide) lk_X11_type_39 rfl dX11_type_35 ?_
      refine lv_aload_n zx zb dX11_type_38 rfl (lv_at hl 0 rfl) ?_
      refine r_get (C := RX11) (T := TX11) (N := 18) (ci := 9) (v := .int (nI n)) S in_X11_type_X11 G 0 rfl rfl 11 (by decide) lk_X11_type_205 rfl dX11_type_39 ?_
      refine lv_iload_n zx zb dX11_type_42 rfl (lv_at hl 1 rfl) ?_
      refine r_iast S G 1 rfl (vp_in_nI (by omega) (by decide)) dX11_type_43 (fun H locs G => ?_)
      obtain ⟨f_4, hE_f_4, G⟩ : ∃ f_4 : Nat → Int32, f_4 = upd fd ((nI n)).toNatClampNeg (nI j_1) ∧ wd X (va_A (@HAppend.hAppend va_W va_W va_W _ (mW m0 ma la lb n t v) (@HAppend.hAppend va_W va_W va_W _ ([((ma 10), .inl (X.2.1, 150, .inl fd))]) ([((ma 3), .inl (X.2.1, 3, .inl fr))]))) sz) (va_A (@HAppend.hAppend va_W va_W va_W _ (mW m0 ma la lb n t v) (@HAppend.hAppend va_W va_W va_W _ ([((ma 10), .inl (X.2.1, 150, .inl fd))]) ([((ma 3), .inl (X.2.1, 3, .inl fr))]))) sz) s (@HAppend.hAppend va_W va_W va_W _ (mW m0 ma la lb n t v) (@HAppend.hAppend va_W va_W va_W _ ([((ma 10), .inl (X.2.1, 150, .inl f_4))]) ([((ma 3), .inl (X.2.1, 3, .inl fr))]))) H locs := ⟨_, rfl, G⟩
      refine lv_aload_n zx zb dX11_type_44 rfl (lv_at hl 0 rfl) ?_
      refine lv_dup zx zb dX11_type_45 rfl ?_
      refine r_get (C := RX11) (T := TX11) (N := 18) (ci := 9) (v := .int (nI n)) S in_X11_type_X11 G 0 rfl rfl 11 (by decide) lk_X11_type_205 rfl dX11_type_46 ?_
      refine lv_iconst (v := 1) zx zb dX11_type_49 (by decide) ?_
      refine r_iadd (v := (nI (n + 1))) S (nI_add n 1) dX11_type_50 ?_
      refine r_put (C := RX11) (T := TX11) (N := 18) (ci := 9) (v := .int (nI (n + 1))) S in_X11_type_X11 tyX11_ok nmX11 G 0 rfl rfl 11 (by decide) lk_X11_type_205 rfl (vp_nar_int _) rfl (Nat.le_of_ble_eq_true rfl) dX11_type_51 (fun H locs G => ?_)
      obtain ⟨n_5, hI_n_5, hE_n_5, G⟩ : ∃ n_5 : Nat, n_5 ≤ 150 ∧ n_5 = (n + 1) ∧ wd X (va_A (@HAppend.hAppend va_W va_W va_W _ (mW m0 ma la lb n t v) (@HAppend.hAppend va_W va_W va_W _ ([((ma 10), .inl (X.2.1, 150, .inl fd))]) ([((ma 3), .inl (X.2.1, 3, .inl fr))]))) sz) (va_A (@HAppend.hAppend va_W va_W va_W _ (mW m0 ma la lb n t v) (@HAppend.hAppend va_W va_W va_W _ ([((ma 10), .inl (X.2.1, 150, .inl fd))]) ([((ma 3), .inl (X.2.1, 3, .inl fr))]))) sz) s (@HAppend.hAppend va_W va_W va_W _ (mW m0 ma la lb n_5 t v) (@HAppend.hAppend va_W va_W va_W _ ([((ma 10), .inl (X.2.1, 150, .inl f_4))]) ([((ma 3), .inl (X.2.1, 3, .inl fr))]))) H locs := ⟨(n + 1), by omega, rfl, G⟩
      refine lv_aload_n zx zb dX11_type_54 rfl (lv_at hl 0 rfl) ?_
      refine r_get (C := RX11) (T := TX11) (N := 18) (ci := 9) (v := .int (nI n_5)) S in_X11_type_X11 G 0 rfl rfl 11 (by decide) lk_X11_type_205 rfl dX11_type_55 ?_
      have hzF : ((nI n_5), (n_5, f_4)) = typF (nI j_1) n fd := by rw [typF_p hw_1 (by omega), hE_f_4, nI_clamp (by omega), show n_5 = n + 1 from by omega]
      exact e_int S zr zlk (vp_nar_int _) G (n_5, f_4, fr) [0, 1, 2] rfl rfl (Or.inr rfl) (⟨hI_n_5, hzF⟩) dX11_type_58
    · have fc_3 := j_eq (a := n) (b := 150) (by omega) (by omega) c_3
      refine lv_aload_n zx zb dX11_type_29 rfl (lv_at hl 0 rfl) ?_
      refine b_wi (cells' := 0) (slots' := 0) (wr := [((ma 10), .inl (X.2.1, 150, .inl fd))]) G rfl rfl [0, 2] [1] rfl rfl rfl rfl (n_V (As := []) (rest := []) (C := RX11) (T := TX11) (N := 18) (ci := 9) S G (m_full l X m0 ma la lb n t v fr hI_n hI_t H.size) gX11_type_X11_full rfl rfl rfl hdV_X11_full ⟨Nat.le_of_ble_eq_true rfl, Nat.le_of_ble_eq_true rfl⟩ [0, 2] rfl rfl 0 rfl rfl rfl hl.1 (Nat.le_of_ble_eq_true rfl) dX11_type_30 ⟨Nat.le_of_ble_eq_true rfl, Nat.le_of_ble_eq_true rfl⟩) (fun r_6 u_6 H locs hp_6 G => ?_)
      obtain ⟨f_6, rfl⟩ : ∃ z, z = u_6 := ⟨_, rfl⟩
      have hq_6 := hp_6
      have G : wd X (va_A (@HAppend.hAppend va_W va_W va_W _ (mW m0 ma la lb n t v) (@HAppend.hAppend va_W va_W va_W _ ([((ma 10), .inl (X.2.1, 150, .inl fd))]) ([((ma 3), .inl (X.2.1, 3, .inl fr))]))) sz) (va_A (@HAppend.hAppend va_W va_W va_W _ (mW m0 ma la lb n t v) (@HAppend.hAppend va_W va_W va_W _ ([((ma 10), .inl (X.2.1, 150, .inl fd))]) ([((ma 3), .inl (X.2.1, 3, .inl fr))]))) sz) s (@HAppend.hAppend va_W va_W va_W _ ([((ma 10), .inl (X.2.1, 150, .inl fd))]) (@HAppend.hAppend va_W va_W va_W _ (mW m0 ma la lb n t v) ([((ma 3), .inl (X.2.1, 3, .inl f_6))]))) H locs := G
      obtain rfl := hq_6
      have hzF : ((-4), (n, fd)) = typF (nI j_1) n fd := (typF_f hw_1 (by omega)).symm
      exact e_int S zr zlk (vp_nar_int _) G (n, fd, f_6) [1, 0, 2] rfl rfl (Or.inr rfl) (⟨hI_n, hzF⟩) dX11_type_33
  · refine lv_if_ne (tgt := 19) zx zb dX11_type_9 (by decide) (fun c_7 => absurd (by decide) c_7) (fun c_7 => ?_)
    refine lv_aload_n zx zb dX11_type_12 rfl (lv_at hl 0 rfl) ?_
    refine lv_bipush (v := (-2)) zx zb dX11_type_13 (by decide) ?_
    refine b_wi (cells' := 0) (slots' := 0) (wr := [((ma 10), .inl (X.2.1, 150, .inl fd))]) G rfl rfl [0, 2] [1] rfl rfl rfl rfl (n_V (As := [.int (-2)]) (rest := []) (C := RX11) (T := TX11) (N := 18) (ci := 9) S G (m_bad l X m0 ma la lb n t v fr (-2) hI_n hI_t H.size) gX11_type_X11_bad rfl rfl rfl hdV_X11_bad ⟨Nat.le_of_ble_eq_true rfl, Nat.le_of_ble_eq_true rfl⟩ [0, 2] rfl rfl 0 rfl rfl rfl hl.1 (Nat.le_of_ble_eq_true rfl) dX11_type_15 ⟨Nat.le_of_ble_eq_true rfl, Nat.le_of_ble_eq_true rfl⟩) (fun r_8 u_8 H locs hp_8 G => ?_)
    obtain ⟨f_8, rfl⟩ : ∃ z, z = u_8 := ⟨_, rfl⟩
    have hq_8 := hp_8
    have G : wd X (va_A (@HAppend.hAppend va_W va_W va_W _ (mW m0 ma la lb n t v) (@HAppend.hAppend va_W va_W va_W _ ([((ma 10), .inl (X.2.1, 150, .inl fd))]) ([((ma 3), .inl (X.2.1, 3, .inl fr))]))) sz) (va_A (@HAppend.hAppend va_W va_W va_W _ (mW m0 ma la lb n t v) (@HAppend.hAppend va_W va_W va_W _ ([((ma 10), .inl (X.2.1, 150, .inl fd))]) ([((ma 3), .inl (X.2.1, 3, .inl fr))]))) sz) s (@HAppend.hAppend va_W va_W va_W _ ([((ma 10), .inl (X.2.1, 150, .inl fd))]) (@HAppend.hAppend va_W va_W va_W _ (mW m0 ma la lb n t v) ([((ma 3), .inl (X.2.1, 3, .inl f_8))]))) H locs := G
    obtain rfl := hq_8
    have hzF : ((-2), (n, fd)) = typF x1 n fd := (typF_n (fun h => hw_1 h)).symm
    exact e_int S zr zlk (vp_nar_int _) G (n, fd, f_8) [1, 0, 2] rfl rfl (Or.inr rfl) (⟨hI_n, hzF⟩) dX11_type_18
theorem in_X11_clear_X11 : ∀ w ∈ wsX110, w ∈ wsX11_clear := by decide +kernel
theorem lk_X11_clear_205 : Cond.fieldLink RX11 205 "EggSpoonsModel" "bytesLong" "I" ∈ wsX11_clear := by decide +kernel
set_option maxHeartbeats 4000000 in
set_option maxRecDepth 100000 in
/-- clear -/
theorem m_clear (l : Launch) (X : EX) (m0 : Nat) (ma : Nat → Nat) (la : Int64) (lb : Int64) (n : Nat) (t : Nat → Nat) (v : Nat → Int32) (hI_n : n ≤ 150) (hI_t : InT t) (sz : Nat) : Met l yX11_clear wsX11_clear ({ frames := 0, cells := 0, slots := 0, locals := 0 } : Room) (pE X [.ref m0] (mW m0 ma la lb n t v) sz) (qI (fun (r : Int32) (u : (Nat)) => u ≤ 150 ∧ (r = nI n ∧ u = 0)) X (fun (u : (Nat)) => mW m0 ma la lb u t v) (mW m0 ma la lb n t v) sz) 0 0 (va_A (mW m0 ma la lb n t v) sz) := by
  refine mk_met (B := (va_A (mW m0 ma la lb n t v) sz)) (A := (va_A (mW m0 ma la lb n t v) sz)) (cc := cX11_clear) (maxL := 2) (ret := (some .int)) (by decide) rfl (Nat.le_of_ble_eq_true rfl) k_w k_a (fun p e s m below meth c S zr zlk znm zsz G ls hl => ?_)
  have S : CallFix p m c cX11_clear 2 s _ wsX11_clear RX11 := S
  have zx := S.1
  have zb := S.2.1
  have hl : lv_has ls 2 [(0, .ref m0)] := hl
  have hO_t := hI_t
  obtain ⟨ht0_t, ht1_t⟩ := hO_t
  refine lv_aload_n zx zb dX11_clear_0 rfl (lv_at hl 0 rfl) ?_
  refine r_get (C := RX11) (T := TX11) (N := 18) (ci := 9) (v := .int (nI n)) S in_X11_clear_X11 G 0 rfl rfl 11 (by decide) lk_X11_clear_205 rfl dX11_clear_1 ?_
  refine lv_istore_n (lv' := [(1, .int (nI n)), (0, .ref m0)]) zx zb dX11_clear_4 rfl hl (by decide) rfl (fun ls hl => ?_)
  refine lv_aload_n zx zb dX11_clear_5 rfl (lv_at hl 1 rfl) ?_
  refine lv_iconst (v := 0) zx zb dX11_clear_6 (by decide) ?_
  refine r_put (C := RX11) (T := TX11) (N := 18) (ci := 9) (v := .int 0) S in_X11_clear_X11 tyX11_ok nmX11 G 0 rfl rfl 11 (by decide) lk_X11_clear_205 rfl (vp_nar_int _) rfl (Nat.le_of_ble_eq_true rfl) dX11_clear_7 (fun H locs G => ?_)
  obtain ⟨n_1, hI_n_1, hE_n_1, G⟩ : ∃ n_1 : Nat, n_1 ≤ 150 ∧ n_1 = 0 ∧ wd X (va_A (mW m0 ma la lb n t v) sz) (va_A (mW m0 ma la lb n t v) sz) s (mW m0 ma la lb n_1 t v) H locs := ⟨0, by omega, rfl, G⟩
  refine lv_iload_n zx zb dX11_clear_10 rfl (lv_at hl 0 rfl) ?_
  exact e_int S zr zlk (vp_nar_int _) G (n_1) [0] rfl rfl (Or.inr rfl) (⟨hI_n_1, ⟨rfl, hE_n_1⟩⟩) dX11_clear_11
theorem mm_X11_isSmall_c209 : Cond.constantLong RX11 209 (97) ∈ wsX11_isSmall := by decide +kernel
theorem mm_X11_isSmall_c211 : Cond.constantLong RX11 211 (122) ∈ wsX11_isSmall := by decide +kernel
theorem mm_X11_isFigure_c213 : Cond.constantLong RX11 213 (48) ∈ wsX11_isFigure := by decide +kernel
theorem mm_X11_isFigure_c215 : Cond.constantLong RX11 215 (57) ∈ wsX11_isFigure := by decide +kernel
theorem in_X11_lookAt_X11 : ∀ w ∈ wsX110, w ∈ wsX11_lookAt := by decide +kernel
theorem lk_X11_lookAt_217 : Cond.fieldLink RX11 217 "EggSpoonsModel" "tokenAt" "I" ∈ wsX11_lookAt := by decide +kernel
theorem lk_X11_lookAt_205 : Cond.fieldLink RX11 205 "EggSpoonsModel" "bytesLong" "I" ∈ wsX11_lookAt := by decide +kernel
theorem lk_X11_lookAt_39 : Cond.fieldLink RX11 39 "EggSpoonsModel" "bytes" "[I" ∈ wsX11_lookAt := by decide +kernel
theorem lk_X11_lookAt_220 : Cond.fieldLink RX11 220 "EggSpoonsModel" "tokenLong" "I" ∈ wsX11_lookAt := by decide +kernel
theorem lk_X11_lookAt_223 : Cond.fieldLink RX11 223 "EggSpoonsModel" "token" "I" ∈ wsX11_lookAt := by decide +kernel
theorem lk_X11_lookAt_226 : Cond.fieldLink RX11 226 "EggSpoonsModel" "value" "I" ∈ wsX11_lookAt := by decide +kernel
theorem hdS_X11_isSmall : yX11_isSmall.cls ≠ "java/lang/invoke/MethodHandle" ∧ yX11_isSmall.cls ≠ "java/lang/invoke/VarHandle" ∧ (parseMethodDescriptor yX11_isSmall.desc).map (fun d => d.parameters.length) = some 1 := by decide +kernel
theorem hdS_X11_isFigure : yX11_isFigure.cls ≠ "java/lang/invoke/MethodHandle" ∧ yX11_isFigure.cls ≠ "java/lang/invoke/VarHandle" ∧ (parseMethodDescriptor yX11_isFigure.desc).map (fun d => d.parameters.length) = some 1 := by decide +kernel
theorem in_X11_goBehind_X11 : ∀ w ∈ wsX110, w ∈ wsX11_goBehind := by decide +kernel
theorem lk_X11_goBehind_217 : Cond.fieldLink RX11 217 "EggSpoonsModel" "tokenAt" "I" ∈ wsX11_goBehind := by decide +kernel
theorem lk_X11_goBehind_220 : Cond.fieldLink RX11 220 "EggSpoonsModel" "tokenLong" "I" ∈ wsX11_goBehind := by decide +kernel
theorem hdV_X11_lookAt : yX11_lookAt.cls = RX11 ∧ yX11_lookAt.cls ≠ "java/lang/invoke/MethodHandle" ∧ yX11_lookAt.cls ≠ "java/lang/invoke/VarHandle" ∧ (parseMethodDescriptor yX11_lookAt.desc).map (fun d => d.parameters.length) = some 1 := by decide +kernel
theorem in_X11_spells_X11 : ∀ w ∈ wsX110, w ∈ wsX11_spells := by decide +kernel
theorem lk_X11_spells_223 : Cond.fieldLink RX11 223 "EggSpoonsModel" "token" "I" ∈ wsX11_spells := by decide +kernel
theorem lk_X11_spells_220 : Cond.fieldLink RX11 220 "EggSpoonsModel" "tokenLong" "I" ∈ wsX11_spells := by decide +kernel
theorem lk_X11_spells_39 : Cond.fieldLink RX11 39 "EggSpoonsModel" "bytes" "[I" ∈ wsX11_spells := by decide +kernel
theorem lk_X11_spells_217 : Cond.fieldLink RX11 217 "EggSpoonsModel" "tokenAt" "I" ∈ wsX11_spells := by decide +kernel
theorem in_X11_takes_X11 : ∀ w ∈ wsX110, w ∈ wsX11_takes := by decide +kernel
theorem lk_X11_takes_223 : Cond.fieldLink RX11 223 "EggSpoonsModel" "token" "I" ∈ wsX11_takes := by decide +kernel
theorem lk_X11_takes_226 : Cond.fieldLink RX11 226 "EggSpoonsModel" "value" "I" ∈ wsX11_takes := by decide +kernel
theorem lk_X11_takes_45 : Cond.fieldLink RX11 45 "EggSpoonsModel" "values" "[I" ∈ wsX11_takes := by decide +kernel
theorem hdV_X11_goBehind : yX11_goBehind.cls = RX11 ∧ yX11_goBehind.cls ≠ "java/lang/invoke/MethodHandle" ∧ yX11_goBehind.cls ≠ "java/lang/invoke/VarHandle" ∧ (parseMethodDescriptor yX11_goBehind.desc).map (fun d => d.parameters.length) = some 0 := by decide +kernel
theorem in_X11_takesOne_X11 : ∀ w ∈ wsX110, w ∈ wsX11_takesOne := by decide +kernel
theorem lk_X11_takesOne_42 : Cond.fieldLink RX11 42 "EggSpoonsModel" "anew" "[I" ∈ wsX11_takesOne := by decide +kernel
theorem hdV_X11_takes : yX11_takes.cls = RX11 ∧ yX11_takes.cls ≠ "java/lang/invoke/MethodHandle" ∧ yX11_takes.cls ≠ "java/lang/invoke/VarHandle" ∧ (parseMethodDescriptor yX11_takes.desc).map (fun d => d.parameters.length) = some 3 := by decide +kernel
theorem lk_X11_takesOne_45 : Cond.fieldLink RX11 45 "EggSpoonsModel" "values" "[I" ∈ wsX11_takesOne := by decide +kernel
theorem in_X11_takesSpeed_X11 : ∀ w ∈ wsX110, w ∈ wsX11_takesSpeed := by decide +kernel
theorem lk_X11_takesSpeed_42 : Cond.fieldLink RX11 42 "EggSpoonsModel" "anew" "[I" ∈ wsX11_takesSpeed := by decide +kernel
theorem lk_X11_takesSpeed_45 : Cond.fieldLink RX11 45 "EggSpoonsModel" "values" "[I" ∈ wsX11_takesSpeed := by decide +kernel
theorem in_X11_takesStart_X11 : ∀ w ∈ wsX110, w ∈ wsX11_takesStart := by decide +kernel
theorem lk_X11_takesStart_223 : Cond.fieldLink RX11 223 "EggSpoonsModel" "token" "I" ∈ wsX11_takesStart := by decide +kernel
theorem lk_X11_takesStart_226 : Cond.fieldLink RX11 226 "EggSpoonsModel" "value" "I" ∈ wsX11_takesStart := by decide +kernel
theorem lk_X11_takesStart_42 : Cond.fieldLink RX11 42 "EggSpoonsModel" "anew" "[I" ∈ wsX11_takesStart := by decide +kernel
theorem lk_X11_takesStart_45 : Cond.fieldLink RX11 45 "EggSpoonsModel" "values" "[I" ∈ wsX11_takesStart := by decide +kernel
theorem in_X11_takesGo_X11 : ∀ w ∈ wsX110, w ∈ wsX11_takesGo := by decide +kernel
theorem lk_X11_takesGo_42 : Cond.fieldLink RX11 42 "EggSpoonsModel" "anew" "[I" ∈ wsX11_takesGo := by decide +kernel
theorem lk_X11_takesGo_45 : Cond.fieldLink RX11 45 "EggSpoonsModel" "values" "[I" ∈ wsX11_takesGo := by decide +kernel
theorem hdV_X11_spells : yX11_spells.cls = RX11 ∧ yX11_spells.cls ≠ "java/lang/invoke/MethodHandle" ∧ yX11_spells.cls ≠ "java/lang/invoke/VarHandle" ∧ (parseMethodDescriptor yX11_spells.desc).map (fun d => d.parameters.length) = some 7 := by decide +kernel
theorem hdV_X11_takesGo : yX11_takesGo.cls = RX11 ∧ yX11_takesGo.cls ≠ "java/lang/invoke/MethodHandle" ∧ yX11_takesGo.cls ≠ "java/lang/invoke/VarHandle" ∧ (parseMethodDescriptor yX11_takesGo.desc).map (fun d => d.parameters.length) = some 0 := by decide +kernel
theorem hdV_X11_takesStart : yX11_takesStart.cls = RX11 ∧ yX11_takesStart.cls ≠ "java/lang/invoke/MethodHandle" ∧ yX11_takesStart.cls ≠ "java/lang/invoke/VarHandle" ∧ (parseMethodDescriptor yX11_takesStart.desc).map (fun d => d.parameters.length) = some 0 := by decide +kernel
theorem hdV_X11_takesSpeed : yX11_takesSpeed.cls = RX11 ∧ yX11_takesSpeed.cls ≠ "java/lang/invoke/MethodHandle" ∧ yX11_takesSpeed.cls ≠ "java/lang/invoke/VarHandle" ∧ (parseMethodDescriptor yX11_takesSpeed.desc).map (fun d => d.parameters.length) = some 0 := by decide +kernel
theorem hdV_X11_takesOne : yX11_takesOne.cls = RX11 ∧ yX11_takesOne.cls ≠ "java/lang/invoke/MethodHandle" ∧ yX11_takesOne.cls ≠ "java/lang/invoke/VarHandle" ∧ (parseMethodDescriptor yX11_takesOne.desc).map (fun d => d.parameters.length) = some 0 := by decide +kernel
theorem in_X11_read_X11 : ∀ w ∈ wsX110, w ∈ wsX11_read := by decide +kernel
theorem lk_X11_read_217 : Cond.fieldLink RX11 217 "EggSpoonsModel" "tokenAt" "I" ∈ wsX11_read := by decide +kernel
theorem lk_X11_read_223 : Cond.fieldLink RX11 223 "EggSpoonsModel" "token" "I" ∈ wsX11_read := by decide +kernel
theorem lk_X11_read_42 : Cond.fieldLink RX11 42 "EggSpoonsModel" "anew" "[I" ∈ wsX11_read := by decide +kernel
theorem lk_X11_read_45 : Cond.fieldLink RX11 45 "EggSpoonsModel" "values" "[I" ∈ wsX11_read := by decide +kernel
theorem lk_X11_read_7 : Cond.fieldLink RX11 7 "EggSpoonsModel" "all" "[I" ∈ wsX11_read := by decide +kernel
theorem hdV_X11_takesItem : yX11_takesItem.cls = RX11 ∧ yX11_takesItem.cls ≠ "java/lang/invoke/MethodHandle" ∧ yX11_takesItem.cls ≠ "java/lang/invoke/VarHandle" ∧ (parseMethodDescriptor yX11_takesItem.desc).map (fun d => d.parameters.length) = some 0 := by decide +kernel
theorem in_X11_fraction_X11 : ∀ w ∈ wsX110, w ∈ wsX11_fraction := by decide +kernel
theorem lk_X11_fraction_182 : Cond.fieldLink RX11 182 "EggSpoonsModel" "above" "J" ∈ wsX11_fraction := by decide +kernel
theorem lk_X11_fraction_23 : Cond.fieldLink RX11 23 "EggSpoonsModel" "below" "J" ∈ wsX11_fraction := by decide +kernel
set_option maxHeartbeats 4000000 in
set_option maxRecDepth 100000 in
/-- fraction -/
theorem m_fraction (l : Launch) (X : EX) (m0 : Nat) (ma : Nat → Nat) (la : Int64) (lb : Int64) (n : Nat) (t : Nat → Nat) (v : Nat → Int32) (x1 : Int64) (x2 : Int64) (hI_n : n ≤ 150) (hI_t : InT t) (h2 : ¬ x2 = 0) (sz : Nat) : Met l yX11_fraction wsX11_fraction ({ frames := 0, cells := 0, slots := 0, locals := 0 } : Room) (pE X [.ref m0, .long x1, .long x2] (mW m0 ma la lb n t v) sz) (qV (fun (u : (Int64) × (Int64)) => (True)) X (fun (u : (Int64) × (Int64)) => mW m0 ma u.1 u.2 n t v) (mW m0 ma la lb n t v) sz) 0 0 (va_A (mW m0 ma la lb n t v) sz) := by
  refine mk_met (B := (va_A (mW m0 ma la lb n t v) sz)) (A := (va_A (mW m0 ma la lb n t v) sz)) (cc := cX11_fraction) (maxL := 11) (ret := none) (by decide) rfl (Nat.le_of_ble_eq_true rfl) k_w k_a (fun p e s m below meth c S zr zlk znm zsz G ls hl => ?_)
  have S : CallFix p m c cX11_fraction 11 s _ wsX11_fraction RX11 := S
  have zx := S.1
  have zb := S.2.1
  have hl : lv_has ls 11 [(0, .ref m0), (1, .long x1), (3, .long x2)] := hl
  have hO_t := hI_t
  obtain ⟨ht0_t, ht1_t⟩ := hO_t
  refine lv_lload_n zx zb dX11_fraction_0 rfl (lv_at hl 1 rfl) ?_
  refine lv_lstore (lv' := [(5, .long x1), (0, .ref m0), (1, .long x1), (3, .long x2)]) zx zb dX11_fraction_1 hl (by decide) rfl (fun ls hl => ?_)
  refine lv_lload_n zx zb dX11_fraction_3 rfl (lv_at hl 3 rfl) ?_
  refine lv_lstore (lv' := [(7, .long x2), (5, .long x1), (0, .ref m0), (1, .long x1), (3, .long x2)]) zx zb dX11_fraction_4 hl (by decide) rfl (fun ls hl => ?_)
  refine k_loop (P := ∀ (zm : Nat) (x6_7 : Int64) (x6_5 : Int64) (H : Heap) (locs : List Loc) (ls : Array Slot), ((x6_7).toInt.natAbs < zm) → (¬ (x6_5 = 0 ∧ x6_7 = 0)) → wd X (va_A (mW m0 ma la lb n t v) sz) (va_A (mW m0 ma la lb n t v) sz) s (mW m0 ma la lb n t v) H locs → lv_has ls 11 [(7, .long x6_7), (5, .long x6_5), (0, .ref m0), (1, .long x1), (3, .long x2)] → W p l e _ s m _ below meth c H locs _ _ _ (F0 m 6 ls [])) (fun loop => loop ((x2).toInt.natAbs + 1) x2 x1 _ _ _ (by omega) (by first | exact fun q => h2 q.2 | exact fun q => hb q.1)  G hl) ?_
  intro zm
  induction zm with
  | zero => intro x6_7 x6_5 H locs ls zz q_x0 _ _; exact absurd zz (by omega)
  | succ zm ih6 =>
    intro x6_7 x6_5 H locs ls zm_6 hx6_0 G hl
    refine lv_lload zx zb dX11_fraction_6 (lv_at hl 0 rfl) ?_
    refine lv_lconst (v := (Int32.toInt64 0)) zx zb dX11_fraction_8 (by decide) ?_
    refine W.lcmp zx zb dX11_fraction_9 ?_
    refine lv_if_eq (tgt := 31) zx zb dX11_fraction_10 (by decide) (fun c_1 => ?_) (fun c_1 => ?_)
    · refine lv_aload_n zx zb dX11_fraction_31 rfl (lv_at hl 2 rfl) ?_
      refine lv_lload_n zx zb dX11_fraction_32 rfl (lv_at hl 3 rfl) ?_
      refine lv_lload zx zb dX11_fraction_33 (lv_at hl 1 rfl) ?_
      refine lv_ldiv zx zb dX11_fraction_35 (k_a0 hx6_0 c_1) ?_
      refine k_ldE (fun y_2 => ?_)
      refine r_put (C := RX11) (T := TX11) (N := 18) (ci := 9) (v := .long y_2) S in_X11_fraction_X11 tyX11_ok nmX11 G 0 rfl rfl 4 (by decide) lk_X11_fraction_182 rfl rfl rfl (Nat.le_of_ble_eq_true rfl) dX11_fraction_36 (fun H locs G => ?_)
      obtain ⟨l_3, G⟩ : ∃ l_3 : Int64, wd X (va_A (mW m0 ma la lb n t v) sz) (va_A (mW m0 ma la lb n t v) sz) s (mW m0 ma l_3 lb n t v) H locs := ⟨_, G⟩
      refine lv_aload_n zx zb dX11_fraction_39 rfl (lv_at hl 2 rfl) ?_
      refine lv_lload_n zx zb dX11_fraction_40 rfl (lv_at hl 4 rfl) ?_
      refine lv_lload zx zb dX11_fraction_41 (lv_at hl 1 rfl) ?_
      refine lv_ldiv zx zb dX11_fraction_43 (k_a0 hx6_0 c_1) ?_
      refine k_ldE (fun y_4 => ?_)
      refine r_put (C := RX11) (T := TX11) (N := 18) (ci := 9) (v := .long y_4) S in_X11_fraction_X11 tyX11_ok nmX11 G 0 rfl rfl 5 (by decide) lk_X11_fraction_23 rfl rfl rfl (Nat.le_of_ble_eq_true rfl) dX11_fraction_44 (fun H locs G => ?_)
      obtain ⟨l_5, G⟩ : ∃ l_5 : Int64, wd X (va_A (mW m0 ma la lb n t v) sz) (va_A (mW m0 ma la lb n t v) sz) s (mW m0 ma l_3 l_5 n t v) H locs := ⟨_, G⟩
      exact e_void S zr zlk G (l_3, l_5) [0] rfl rfl (Or.inr rfl) (trivial) dX11_fraction_47
    · refine lv_lload zx zb dX11_fraction_13 (lv_at hl 1 rfl) ?_
      refine lv_lload zx zb dX11_fraction_15 (lv_at hl 0 rfl) ?_
      have hb := k_lnz c_1
      refine lv_lrem zx zb dX11_fraction_17 hb ?_
      obtain ⟨zr0, hzr0, ezr0⟩ : ∃ z : Int64, z.toInt.natAbs < (x6_7).toInt.natAbs ∧ x6_5 - x6_5 / x6_7 * x6_7 = z := ⟨_, k_rem hb, rfl⟩
      refine k_ld ezr0 ?_
      refine lv_lstore (lv' := [(9, .long zr0), (7, .long x6_7), (5, .long x6_5), (0, .ref m0), (1, .long x1), (3, .long x2)]) zx zb dX11_fraction_18 hl (by decide) rfl (fun ls hl => ?_)
      refine lv_lload zx zb dX11_fraction_20 (lv_at hl 1 rfl) ?_
      refine lv_lstore (lv' := [(5, .long x6_7), (9, .long zr0), (7, .long x6_7), (0, .ref m0), (1, .long x1), (3, .long x2)]) zx zb dX11_fraction_22 hl (by decide) rfl (fun ls hl => ?_)
      refine lv_lload zx zb dX11_fraction_24 (lv_at hl 1 rfl) ?_
      refine lv_lstore (lv' := [(7, .long zr0), (5, .long x6_7), (9, .long zr0), (0, .ref m0), (1, .long x1), (3, .long x2)]) zx zb dX11_fraction_26 hl (by decide) rfl (fun ls hl => ?_)
      refine lv_goto (tgt := 6) zx zb dX11_fraction_28 (by decide) ?_
      have hl := lv_sub hl (l' := [(7, .long zr0), (5, .long x6_7), (0, .ref m0), (1, .long x1), (3, .long x2)]) [0, 1, 3, 4, 5] rfl
      exact ih6 zr0 x6_7 _ _ _ (by omega) (by first | exact fun q => h2 q.2 | exact fun q => hb q.1)  G hl
theorem mm_X11_stumble_c66 : Cond.constantLong RX11 66 (60) ∈ wsX11_stumble := by decide +kernel
theorem mm_X11_stumble_c185 : Cond.constantLong RX11 185 (6) ∈ wsX11_stumble := by decide +kernel
theorem mm_X11_stumble_c64 : Cond.constantLong RX11 64 (10) ∈ wsX11_stumble := by decide +kernel
theorem in_X11_stumble_X11 : ∀ w ∈ wsX110, w ∈ wsX11_stumble := by decide +kernel
theorem lk_X11_stumble_27 : Cond.fieldLink RX11 27 "EggSpoonsModel" "hand" "[I" ∈ wsX11_stumble := by decide +kernel
theorem hdV_X11_fraction : yX11_fraction.cls = RX11 ∧ yX11_fraction.cls ≠ "java/lang/invoke/MethodHandle" ∧ yX11_fraction.cls ≠ "java/lang/invoke/VarHandle" ∧ (parseMethodDescriptor yX11_fraction.desc).map (fun d => d.parameters.length) = some 2 := by decide +kernel
set_option maxHeartbeats 4000000 in
set_option maxRecDepth 100000 in
/-- stumble -/
theorem m_stumble (l : Launch) (X : EX) (m0 : Nat) (ma : Nat → Nat) (la : Int64) (lb : Int64) (n : Nat) (t : Nat → Nat) (v : Nat → Int32) (fa : Nat → Int32) (c0 : Nat) (c1 : Nat) (c2 : Nat) (c3 : Nat) (c4 : Nat) (fh : Nat → Int32) (d0 : Nat) (d1 : Nat) (d2 : Nat) (d3 : Nat) (d4 : Nat) (fr : Nat → Int32) (x1 : Int32) (x2 : Int32) (x3 : Int32) (x4 : Int32) (hI_n : n ≤ 150) (hI_t : InT t) (hI_fa : InA fa c0 c1 c2 c3 c4) (hI_fh : InA fh d0 d1 d2 d3 d4) (sz : Nat) : Met l yX11_stumble wsX11_stumble ({ frames := 3, cells := 0, slots := 0, locals := 72 } : Room) (pE X [.ref m0, .int x1, .int x2, .int x3, .int x4] (@HAppend.hAppend va_W va_W va_W _ (mW m0 ma la lb n t v) (@HAppend.hAppend va_W va_W va_W _ ([((ma 0), .inl (X.2.1, 371, .inl fa))]) (@HAppend.hAppend va_W va_W va_W _ ([((ma 6), .inl (X.2.1, 55, .inl fh))]) ([((ma 3), .inl (X.2.1, 3, .inl fr))])))) sz) (qI (fun (r : Int32) (u : (Int64) × (Int64) × (Nat → Int32) × (Nat) × (Nat) × (Nat) × (Nat) × (Nat) × (Nat → Int32)) => InA u.2.2.1 u.2.2.2.1 u.2.2.2.2.1 u.2.2.2.2.2.1 u.2.2.2.2.2.2.1 u.2.2.2.2.2.2.2.1 ∧ (r = stuF (thP c0 x1 ∧ ((0 : Int32) ≤ x2 ∧ x2 ≤ 60) ∧ ((0 : Int32) ≤ x3 ∧ x3 ≤ 6) ∧ ((0 : Int32) ≤ x4 ∧ x4 ≤ 10)))) X (fun (u : (Int64) × (Int64) × (Nat → Int32) × (Nat) × (Nat) × (Nat) × (Nat) × (Nat) × (Nat → Int32)) => @HAppend.hAppend va_W va_W va_W _ (mW m0 ma u.1 u.2.1 n t v) (@HAppend.hAppend va_W va_W va_W _ ([((ma 0), .inl (X.2.1, 371, .inl fa))]) (@HAppend.hAppend va_W va_W va_W _ ([((ma 6), .inl (X.2.1, 55, .inl u.2.2.1))]) ([((ma 3), .inl (X.2.1, 3, .inl u.2.2.2.2.2.2.2.2))])))) (@HAppend.hAppend va_W va_W va_W _ (mW m0 ma la lb n t v) (@HAppend.hAppend va_W va_W va_W _ ([((ma 0), .inl (X.2.1, 371, .inl fa))]) (@HAppend.hAppend va_W va_W va_W _ ([((ma 6), .inl (X.2.1, 55, .inl fh))]) ([((ma 3), .inl (X.2.1, 3, .inl fr))])))) sz) 0 0 (va_A (@HAppend.hAppend va_W va_W va_W _ (mW m0 ma la lb n t v) (@HAppend.hAppend va_W va_W va_W _ ([((ma 0), .inl (X.2.1, 371, .inl fa))]) (@HAppend.hAppend va_W va_W va_W _ ([((ma 6), .inl (X.2.1, 55, .inl fh))]) ([((ma 3), .inl (X.2.1, 3, .inl fr))])))) sz) := by
  refine mk_met (B := (va_A (@HAppend.hAppend va_W va_W va_W _ (mW m0 ma la lb n t v) (@HAppend.hAppend va_W va_W va_W _ ([((ma 0), .inl (X.2.1, 371, .inl fa))]) (@HAppend.hAppend va_W va_W va_W _ ([((ma 6), .inl (X.2.1, 55, .inl fh))]) ([((ma 3), .inl (X.2.1, 3, .inl fr))])))) sz)) (A := (va_A (@HAppend.hAppend va_W va_W va_W _ (mW m0 ma la lb n t v) (@HAppend.hAppend va_W va_W va_W _ ([((ma 0), .inl (X.2.1, 371, .inl fa))]) (@HAppend.hAppend va_W va_W va_W _ ([((ma 6), .inl (X.2.1, 55, .inl fh))]) ([((ma 3), .inl (X.2.1, 3, .inl fr))])))) sz)) (cc := cX11_stumble) (maxL := 13) (ret := (some .int)) (by decide) rfl (Nat.le_of_ble_eq_true rfl) k_w k_a (fun p e s m below meth c S zr zlk znm zsz G ls hl => ?_)
  have S : CallFix p m c cX11_stumble 13 s _ wsX11_stumble RX11 := S
  have zx := S.1
  have zb := S.2.1
  have hl : lv_has ls 13 [(0, .ref m0), (1, .int x1), (2, .int x2), (3, .int x3), (4, .int x4)] := hl
  have hO_t := hI_t
  obtain ⟨ht0_t, ht1_t⟩ := hO_t
  have hO_fa := hI_fa.2
  obtain ⟨hm0_fa, hm1_fa, hm2_fa, hm3_fa, hm4_fa⟩ := hO_fa
  have hO_fh := hI_fh.2
  obtain ⟨hm0_fh, hm1_fh, hm2_fh, hm3_fh, hm4_fh⟩ := hO_fh
  refine lv_aload_n zx zb dX11_stumble_0 rfl (lv_at hl 0 rfl) ?_
  refine lv_iload_n zx zb dX11_stumble_1 rfl (lv_at hl 1 rfl) ?_
  refine o_ri (cells' := 0) (slots' := 0) G rfl rfl (n_V (As := [.int x1]) (rest := []) (C := RX11) (T := TX11) (N := 18) (ci := 9) S G (m_isOne l X m0 ma la lb n t v fa c0 c1 c2 c3 c4 x1 hI_n hI_t hI_fa s.heap.size) gX11_stumble_X11_isOne rfl rfl rfl hdV_X11_isOne ⟨Nat.le_of_ble_eq_true rfl, Nat.le_of_ble_eq_true rfl⟩ [0, 1] rfl rfl 0 rfl rfl rfl hl.1 (Nat.le_of_ble_eq_true rfl) dX11_stumble_2 ⟨Nat.le_of_ble_eq_true rfl, Nat.le_of_ble_eq_true rfl⟩) (fun r_1 u_1 H locs hp_1 G => ?_)
  have G : wd X (va_A (@HAppend.hAppend va_W va_W va_W _ (mW m0 ma la lb n t v) (@HAppend.hAppend va_W va_W va_W _ ([((ma 0), .inl (X.2.1, 371, .inl fa))]) (@HAppend.hAppend va_W va_W va_W _ ([((ma 6), .inl (X.2.1, 55, .inl fh))]) ([((ma 3), .inl (X.2.1, 3, .inl fr))])))) sz) (va_A (@HAppend.hAppend va_W va_W va_W _ (mW m0 ma la lb n t v) (@HAppend.hAppend va_W va_W va_W _ ([((ma 0), .inl (X.2.1, 371, .inl fa))]) (@HAppend.hAppend va_W va_W va_W _ ([((ma 6), .inl (X.2.1, 55, .inl fh))]) ([((ma 3), .inl (X.2.1, 3, .inl fr))])))) sz) s (@HAppend.hAppend va_W va_W va_W _ (mW m0 ma la lb n t v) (@HAppend.hAppend va_W va_W va_W _ ([((ma 0), .inl (X.2.1, 371, .inl fa))]) (@HAppend.hAppend va_W va_W va_W _ ([((ma 6), .inl (X.2.1, 55, .inl fh))]) ([((ma 3), .inl (X.2.1, 3, .inl fr))])))) H locs := G
  rcases hp_1 with ⟨rfl, hj_1⟩ | ⟨rfl, hj_1⟩
  · obtain ⟨j_1, hj_1, rfl⟩ := hj_1
    refine lv_if_eq (tgt := 45) zx zb dX11_stumble_5 (by decide) (fun c_2 => absurd c_2 (by decide)) (fun c_2 => ?_)
    refine lv_iload_n zx zb dX11_stumble_8 rfl (lv_at hl 2 rfl) ?_
    refine lv_i2l (v := (Int32.toInt64 x2)) zx zb dX11_stumble_9 rfl ?_
    refine lv_lconst (v := (Int32.toInt64 0)) zx zb dX11_stumble_10 (by decide) ?_
    refine lv_ldc2 zx zb S.2.2.2.1 (S.2.2.2.2 _ mm_X11_stumble_c66) dX11_stumble_11 ?_
    refine k_ld (v := (Int32.toInt64 60)) (by decide) ?_
    refine o_ri (cells' := 0) (slots' := 0) G rfl rfl (n_S (As := [.long (Int32.toInt64 x2), .long (Int32.toInt64 0), .long (Int32.toInt64 60)]) (rest := []) S G (m_in l X x2 0 60 H.size) gX11_stumble_X11_in rfl rfl rfl hdS_X11_in ⟨Nat.le_of_ble_eq_true rfl, Nat.le_of_ble_eq_true rfl⟩ [] rfl rfl rfl hl.1 (Nat.le_of_ble_eq_true rfl) dX11_stumble_14 ⟨Nat.le_of_ble_eq_true rfl, Nat.le_of_ble_eq_true rfl⟩) (fun r_3 u_3 H locs hp_3 G => ?_)
    have G : wd X (va_A (@HAppend.hAppend va_W va_W va_W _ (mW m0 ma la lb n t v) (@HAppend.hAppend va_W va_W va_W _ ([((ma 0), .inl (X.2.1, 371, .inl fa))]) (@HAppend.hAppend va_W va_W va_W _ ([((ma 6), .inl (X.2.1, 55, .inl fh))]) ([((ma 3), .inl (X.2.1, 3, .inl fr))])))) sz) (va_A (@HAppend.hAppend va_W va_W va_W _ (mW m0 ma la lb n t v) (@HAppend.hAppend va_W va_W va_W _ ([((ma 0), .inl (X.2.1, 371, .inl fa))]) (@HAppend.hAppend va_W va_W va_W _ ([((ma 6), .inl (X.2.1, 55, .inl fh))]) ([((ma 3), .inl (X.2.1, 3, .inl fr))])))) sz) s (@HAppend.hAppend va_W va_W va_W _ (mW m0 ma la lb n t v) (@HAppend.hAppend va_W va_W va_W _ ([((ma 0), .inl (X.2.1, 371, .inl fa))]) (@HAppend.hAppend va_W va_W va_W _ ([((ma 6), .inl (X.2.1, 55, .inl fh))]) ([((ma 3), .inl (X.2.1, 3, .inl fr))])))) H locs := G
    rcases hp_3 with ⟨rfl, hw_3⟩ | ⟨rfl, hw_3⟩
    · obtain ⟨j_3, ⟨ja_3, jb_3⟩, rfl⟩ := k_natR (a := 0) (b := 60) hw_3 rfl rfl (by decide) (by decide)
      refine lv_if_eq (tgt := 45) zx zb dX11_stumble_17 (by decide) (fun c_4 => absurd c_4 (by decide)) (fun c_4 => ?_)
      refine lv_iload_n zx zb dX11_stumble_20 rfl (lv_at hl 3 rfl) ?_
      refine lv_i2l (v := (Int32.toInt64 x3)) zx zb dX11_stumble_21 rfl ?_
      refine lv_lconst (v := (Int32.toInt64 0)) zx zb dX11_stumble_22 (by decide) ?_
      refine lv_ldc2 zx zb S.2.2.2.1 (S.2.2.2.2 _ mm_X11_stumble_c185) dX11_stumble_23 ?_
      refine k_ld (v := (Int32.toInt64 6)) (by decide) ?_
      refine o_ri (cells' := 0) (slots' := 0) G rfl rfl (n_S (As := [.long (Int32.toInt64 x3), .long (Int32.toInt64 0), .long (Int32.toInt64 6)]) (rest := []) S G (m_in l X x3 0 6 H.size) gX11_stumble_X11_in rfl rfl rfl hdS_X11_in ⟨Nat.le_of_ble_eq_true rfl, Nat.le_of_ble_eq_true rfl⟩ [] rfl rfl rfl hl.1 (Nat.le_of_ble_eq_true rfl) dX11_stumble_26 ⟨Nat.le_of_ble_eq_true rfl, Nat.le_of_ble_eq_true rfl⟩) (fun r_5 u_5 H locs hp_5 G => ?_)
      have G : wd X (va_A (@HAppend.hAppend va_W va_W va_W _ (mW m0 ma la lb n t v) (@HAppend.hAppend va_W va_W va_W _ ([((ma 0), .inl (X.2.1, 371, .inl fa))]) (@HAppend.hAppend va_W va_W va_W _ ([((ma 6), .inl (X.2.1, 55, .inl fh))]) ([((ma 3), .inl (X.2.1, 3, .inl fr))])))) sz) (va_A (@HAppend.hAppend va_W va_W va_W _ (mW m0 ma la lb n t v) (@HAppend.hAppend va_W va_W va_W _ ([((ma 0), .inl (X.2.1, 371, .inl fa))]) (@HAppend.hAppend va_W va_W va_W _ ([((ma 6), .inl (X.2.1, 55, .inl fh))]) ([((ma 3), .inl (X.2.1, 3, .inl fr))])))) sz) s (@HAppend.hAppend va_W va_W va_W _ (mW m0 ma la lb n t v) (@HAppend.hAppend va_W va_W va_W _ ([((ma 0), .inl (X.2.1, 371, .inl fa))]) (@HAppend.hAppend va_W va_W va_W _ ([((ma 6), .inl (X.2.1, 55, .inl fh))]) ([((ma 3), .inl (X.2.1, 3, .inl fr))])))) H locs := G
      rcases hp_5 with ⟨rfl, hw_5⟩ | ⟨rfl, hw_5⟩
      · obtain ⟨j_5, ⟨ja_5, jb_5⟩, rfl⟩ := k_natR (a := 0) (b := 6) hw_5 rfl rfl (by decide) (by decide)
        refine lv_if_eq (tgt := 45) zx zb dX11_stumble_29 (by decide) (fun c_6 => absurd c_6 (by decide)) (fun c_6 => ?_)
        refine lv_iload zx zb dX11_stumble_32 (lv_at hl 4 rfl) ?_
        refine lv_i2l (v := (Int32.toInt64 x4)) zx zb dX11_stumble_34 rfl ?_
        refine lv_lconst (v := (Int32.toInt64 0)) zx zb dX11_stumble_35 (by decide) ?_
        refine lv_ldc2 zx zb S.2.2.2.1 (S.2.2.2.2 _ mm_X11_stumble_c64) dX11_stumble_36 ?_
        refine k_ld (v := (Int32.toInt64 10)) (by decide) ?_
        refine o_ri (cells' := 0) (slots' := 0) G rfl rfl (n_S (As := [.long (Int32.toInt64 x4), .long (Int32.toInt64 0), .long (Int32.toInt64 10)]) (rest := []) S G (m_in l X x4 0 10 H.size) gX11_stumble_X11_in rfl rfl rfl hdS_X11_in ⟨Nat.le_of_ble_eq_true rfl, Nat.le_of_ble_eq_true rfl⟩ [] rfl rfl rfl hl.1 (Nat.le_of_ble_eq_true rfl) dX11_stumble_39 ⟨Nat.le_of_ble_eq_true rfl, Nat.le_of_ble_eq_true rfl⟩) (fun r_7 u_7 H locs hp_7 G => ?_)
        have G : wd X (va_A (@HAppend.hAppend va_W va_W va_W _ (mW m0 ma la lb n t v) (@HAppend.hAppend va_W va_W va_W _ ([((ma 0), .inl (X.2.1, 371, .inl fa))]) (@HAppend.hAppend va_W va_W va_W _ ([((ma 6), .inl (X.2.1, 55, .inl fh))]) ([((ma 3), .inl (X.2.1, 3, .inl fr))])))) sz) (va_A (@HAppend.hAppend va_W va_W va_W _ (mW m0 ma la lb n t v) (@HAppend.hAppend va_W va_W va_W _ ([((ma 0), .inl (X.2.1, 371, .inl fa))]) (@HAppend.hAppend va_W va_W va_W _ ([((ma 6), .inl (X.2.1, 55, .inl fh))]) ([((ma 3), .inl (X.2.1, 3, .inl fr))])))) sz) s (@HAppend.hAppend va_W va_W va_W _ (mW m0 ma la lb n t v) (@HAppend.hAppend va_W va_W va_W _ ([((ma 0), .inl (X.2.1, 371, .inl fa))]) (@HAppend.hAppend va_W va_W va_W _ ([((ma 6), .inl (X.2.1, 55, .inl fh))]) ([((ma 3), .inl (X.2.1, 3, .inl fr))])))) H locs := G
        rcases hp_7 with ⟨rfl, hw_7⟩ | ⟨rfl, hw_7⟩
        · obtain ⟨j_7, ⟨ja_7, jb_7⟩, rfl⟩ := k_natR (a := 0) (b := 10) hw_7 rfl rfl (by decide) (by decide)
          refine lv_if_ne (tgt := 52) zx zb dX11_stumble_42 (by decide) (fun c_8 => ?_) (fun c_8 => absurd c_8 (by decide))
          refine lv_lconst (v := (Int32.toInt64 0)) zx zb dX11_stumble_52 (by decide) ?_
          refine lv_lstore (lv' := [(5, .long (Int32.toInt64 0)), (0, .ref m0), (1, .int (nI j_1)), (2, .int (nI j_3)), (3, .int (nI j_5)), (4, .int (nI j_7))]) zx zb dX11_stumble_53 hl (by decide) rfl (fun ls hl => ?_)
          refine lv_lconst (v := (Int32.toInt64 1)) zx zb dX11_stumble_55 (by decide) ?_
          refine lv_lstore (lv' := [(7, .long (Int32.toInt64 1)), (5, .long (Int32.toInt64 0)), (0, .ref m0), (1, .int (nI j_1)), (2, .int (nI j_3)), (3, .int (nI j_5)), (4, .int (nI j_7))]) zx zb dX11_stumble_56 hl (by decide) rfl (fun ls hl => ?_)
          refine lv_iconst (v := 0) zx zb dX11_stumble_58 (by decide) ?_
          refine lv_istore (lv' := [(9, .int 0), (7, .long (Int32.toInt64 1)), (5, .long (Int32.toInt64 0)), (0, .ref m0), (1, .int (nI j_1)), (2, .int (nI j_3)), (3, .int (nI j_5)), (4, .int (nI j_7))]) zx zb dX11_stumble_59 hl (by decide) rfl (fun ls hl => ?_)
          refine k_loop (P := ∀ (zm : Nat) (k61 : Nat) (x61_7 : Int64) (H : Heap) (locs : List Loc) (ls : Array Slot), 6 + 1 ≤ k61 + zm → (k61 ≤ 6) → (x61_7 = lN (10 ^ k61)) → wd X (va_A (@HAppend.hAppend va_W va_W va_W _ (mW m0 ma la lb n t v) (@HAppend.hAppend va_W va_W va_W _ ([((ma 0), .inl (X.2.1, 371, .inl fa))]) (@HAppend.hAppend va_W va_W va_W _ ([((ma 6), .inl (X.2.1, 55, .inl fh))]) ([((ma 3), .inl (X.2.1, 3, .inl fr))])))) sz) (va_A (@HAppend.hAppend va_W va_W va_W _ (mW m0 ma la lb n t v) (@HAppend.hAppend va_W va_W va_W _ ([((ma 0), .inl (X.2.1, 371, .inl fa))]) (@HAppend.hAppend va_W va_W va_W _ ([((ma 6), .inl (X.2.1, 55, .inl fh))]) ([((ma 3), .inl (X.2.1, 3, .inl fr))])))) sz) s (@HAppend.hAppend va_W va_W va_W _ (mW m0 ma la lb n t v) (@HAppend.hAppend va_W va_W va_W _ ([((ma 0), .inl (X.2.1, 371, .inl fa))]) (@HAppend.hAppend va_W va_W va_W _ ([((ma 6), .inl (X.2.1, 55, .inl fh))]) ([((ma 3), .inl (X.2.1, 3, .inl fr))])))) H locs → lv_has ls 13 [(9, .int (nI k61)), (7, .long x61_7), (5, .long (Int32.toInt64 0)), (0, .ref m0), (1, .int (nI j_1)), (2, .int (nI j_3)), (3, .int (nI j_5)), (4, .int (nI j_7))] → W p l e _ s m _ below meth c H locs _ _ _ (F0 m 61 ls [])) (fun loop => loop (6 + 1) 0 (Int32.toInt64 1) _ _ _ (by omega) (by omega) (by first | assumption | exact k_p10a | exact k_p10s (by omega) (by assumption)) G hl) ?_
          intro zm
          induction zm with
          | zero => intro k61 x61_7 H locs ls zz q_hk_k61 q_hk_x61_7 _ _; exact absurd zz (by omega)
          | succ zm ih61 =>
            intro k61 x61_7 H locs ls zm_61 hk_k61 hk_x61_7 G hl
            refine lv_iload zx zb dX11_stumble_61 (lv_at hl 0 rfl) ?_
            refine lv_iload_n zx zb dX11_stumble_63 rfl (lv_at hl 6 rfl) ?_
            refine lv_icmp_ge (tgt := 81) zx zb dX11_stumble_64 (by decide) (fun c_9 => ?_) (fun c_9 => ?_)
            · have fc_9 := j_le (a := j_5) (b := k61) (by omega) (by omega) c_9
              refine lv_iconst (v := 0) zx zb dX11_stumble_81 (by decide) ?_
              refine lv_istore (lv' := [(9, .int 0), (7, .long x61_7), (5, .long (Int32.toInt64 0)), (0, .ref m0), (1, .int (nI j_1)), (2, .int (nI j_3)), (3, .int (nI j_5)), (4, .int (nI j_7))]) zx zb dX11_stumble_82 hl (by decide) rfl (fun ls hl => ?_)
              refine k_loop (P := ∀ (zm : Nat) (k84 : Nat) (x84_5 : Int64) (f84_2 : Nat → Int32) (c084_2 : Nat) (c184_2 : Nat) (c284_2 : Nat) (c384_2 : Nat) (c484_2 : Nat) (H : Heap) (locs : List Loc) (ls : Array Slot), 64 + 1 ≤ k84 + zm → InA f84_2 c084_2 c184_2 c284_2 c384_2 c484_2 → (k84 ≤ 64) → wd X (va_A (@HAppend.hAppend va_W va_W va_W _ (mW m0 ma la lb n t v) (@HAppend.hAppend va_W va_W va_W _ ([((ma 0), .inl (X.2.1, 371, .inl fa))]) (@HAppend.hAppend va_W va_W va_W _ ([((ma 6), .inl (X.2.1, 55, .inl fh))]) ([((ma 3), .inl (X.2.1, 3, .inl fr))])))) sz) (va_A (@HAppend.hAppend va_W va_W va_W _ (mW m0 ma la lb n t v) (@HAppend.hAppend va_W va_W va_W _ ([((ma 0), .inl (X.2.1, 371, .inl fa))]) (@HAppend.hAppend va_W va_W va_W _ ([((ma 6), .inl (X.2.1, 55, .inl fh))]) ([((ma 3), .inl (X.2.1, 3, .inl fr))])))) sz) s (@HAppend.hAppend va_W va_W va_W _ (mW m0 ma la lb n t v) (@HAppend.hAppend va_W va_W va_W _ ([((ma 0), .inl (X.2.1, 371, .inl fa))]) (@HAppend.hAppend va_W va_W va_W _ ([((ma 6), .inl (X.2.1, 55, .inl f84_2))]) ([((ma 3), .inl (X.2.1, 3, .inl fr))])))) H locs → lv_has ls 13 [(9, .int (nI k84)), (7, .long x61_7), (5, .long x84_5), (0, .ref m0), (1, .int (nI j_1)), (2, .int (nI j_3)), (3, .int (nI j_5)), (4, .int (nI j_7))] → W p l e _ s m _ below meth c H locs _ _ _ (F0 m 84 ls [])) (fun loop => loop (64 + 1) 0 (Int32.toInt64 0) fh d0 d1 d2 d3 d4 _ _ _ (by omega) hI_fh (by omega) G hl) ?_
              intro zm
              induction zm with
              | zero => intro k84 x84_5 f84_2 c084_2 c184_2 c284_2 c384_2 c484_2 H locs ls zz q_hI_f84_2 q_hk_k84 _ _; exact absurd zz (by omega)
              | succ zm ih84 =>
                intro k84 x84_5 f84_2 c084_2 c184_2 c284_2 c384_2 c484_2 H locs ls zm_84 hI_f84_2 hk_k84 G hl
                have hO_f84_2 := hI_f84_2.2
                obtain ⟨hm0_f84_2, hm1_f84_2, hm2_f84_2, hm3_f84_2, hm4_f84_2⟩ := hO_f84_2
                refine lv_iload zx zb dX11_stumble_84 (lv_at hl 0 rfl) ?_
                refine lv_iconst (v := 1) zx zb dX11_stumble_86 (by decide) ?_
                refine lv_iload_n zx zb dX11_stumble_87 rfl (lv_at hl 6 rfl) ?_
                refine lv_ishl zx zb dX11_stumble_88 ?_
                obtain ⟨z8, hz8, ez8⟩ := k_shl6 (n := j_5) (by omega)
                refine k_it ez8 ?_
                refine lv_icmp_ge (tgt := 207) zx zb dX11_stumble_89 (by decide) (fun c_10 => ?_) (fun c_10 => ?_)
                · have fc_10 := j_le (a := z8) (b := k84) (by omega) (by omega) c_10
                  refine lv_aload_n zx zb dX11_stumble_207 rfl (lv_at hl 3 rfl) ?_
                  refine lv_lload zx zb dX11_stumble_208 (lv_at hl 2 rfl) ?_
                  refine lv_lload zx zb dX11_stumble_210 (lv_at hl 1 rfl) ?_
                  refine b_wv (cells' := 0) (slots' := 0) (wr := @HAppend.hAppend va_W va_W va_W _ ([((ma 0), .inl (X.2.1, 371, .inl fa))]) (@HAppend.hAppend va_W va_W va_W _ ([((ma 6), .inl (X.2.1, 55, .inl f84_2))]) ([((ma 3), .inl (X.2.1, 3, .inl fr))]))) G rfl rfl [0] [1, 2, 3] rfl rfl rfl rfl (n_V (As := [.long x84_5, .long x61_7]) (rest := []) (C := RX11) (T := TX11) (N := 18) (ci := 9) S G (m_fraction l X m0 ma la lb n t v x84_5 x61_7 hI_n hI_t (k_p10n (by omega) hk_x61_7) H.size) gX11_stumble_X11_fraction rfl rfl rfl hdV_X11_fraction ⟨Nat.le_of_ble_eq_true rfl, Nat.le_of_ble_eq_true rfl⟩ [0] rfl rfl 0 rfl rfl rfl hl.1 (Nat.le_of_ble_eq_true rfl) dX11_stumble_212 ⟨Nat.le_of_ble_eq_true rfl, Nat.le_of_ble_eq_true rfl⟩) (fun u_11 H locs hp_11 G => ?_)
                  obtain ⟨la_11a, lb_11b⟩ := u_11
                  have hq_11 := hp_11
                  have hO_t := hI_t
                  obtain ⟨ht0_t, ht1_t⟩ := hO_t
                  have G : wd X (va_A (@HAppend.hAppend va_W va_W va_W _ (mW m0 ma la lb n t v) (@HAppend.hAppend va_W va_W va_W _ ([((ma 0), .inl (X.2.1, 371, .inl fa))]) (@HAppend.hAppend va_W va_W va_W _ ([((ma 6), .inl (X.2.1, 55, .inl fh))]) ([((ma 3), .inl (X.2.1, 3, .inl fr))])))) sz) (va_A (@HAppend.hAppend va_W va_W va_W _ (mW m0 ma la lb n t v) (@HAppend.hAppend va_W va_W va_W _ ([((ma 0), .inl (X.2.1, 371, .inl fa))]) (@HAppend.hAppend va_W va_W va_W _ ([((ma 6), .inl (X.2.1, 55, .inl fh))]) ([((ma 3), .inl (X.2.1, 3, .inl fr))])))) sz) s (@HAppend.hAppend va_W va_W va_W _ ([((ma 0), .inl (X.2.1, 371, .inl fa))]) (@HAppend.hAppend va_W va_W va_W _ ([((ma 6), .inl (X.2.1, 55, .inl f84_2))]) (@HAppend.hAppend va_W va_W va_W _ ([((ma 3), .inl (X.2.1, 3, .inl fr))]) (mW m0 ma la_11a lb_11b n t v)))) H locs := G
                  refine lv_iconst (v := 1) zx zb dX11_stumble_215 (by decide) ?_
                  exact e_int S zr zlk (vp_nar_int _) G (la_11a, lb_11b, f84_2, c084_2, c184_2, c284_2, c384_2, c484_2, fr) [3, 0, 1, 2] rfl rfl (Or.inr rfl) (⟨hI_f84_2, (stuF_p ⟨⟨_, hj_1, rfl⟩, hw_3, hw_5, hw_7⟩).symm⟩) dX11_stumble_216
                · have fc_10 := j_nle (a := z8) (b := k84) (by omega) (by omega) c_10
                  refine lv_lconst (v := (Int32.toInt64 1)) zx zb dX11_stumble_92 (by decide) ?_
                  refine lv_lstore (lv' := [(10, .long (Int32.toInt64 1)), (9, .int (nI k84)), (7, .long x61_7), (5, .long x84_5), (0, .ref m0), (1, .int (nI j_1)), (2, .int (nI j_3)), (3, .int (nI j_5)), (4, .int (nI j_7))]) zx zb dX11_stumble_93 hl (by decide) rfl (fun ls hl => ?_)
                  refine lv_aload_n zx zb dX11_stumble_95 rfl (lv_at hl 4 rfl) ?_
                  refine b_wv (cells' := 0) (slots' := 0) (wr := [((ma 3), .inl (X.2.1, 3, .inl fr))]) G rfl rfl [0, 1, 2] [3] rfl rfl rfl rfl (n_V (As := []) (rest := []) (C := RX11) (T := TX11) (N := 18) (ci := 9) S G (m_layHand l X m0 ma la lb n t v fa c0 c1 c2 c3 c4 f84_2 c084_2 c184_2 c284_2 c384_2 c484_2 hI_n hI_t hI_fa hI_f84_2 H.size) gX11_stumble_X11_layHand rfl rfl rfl hdV_X11_layHand ⟨Nat.le_of_ble_eq_true rfl, Nat.le_of_ble_eq_true rfl⟩ [0, 1, 2] rfl rfl 0 rfl rfl rfl hl.1 (Nat.le_of_ble_eq_true rfl) dX11_stumble_96 ⟨Nat.le_of_ble_eq_true rfl, Nat.le_of_ble_eq_true rfl⟩) (fun u_12 H locs hp_12 G => ?_)
                  obtain ⟨f_12a, c0_12b, c1_12c, c2_12d, c3_12e, c4_12f⟩ := u_12
                  try dsimp only at hp_12
                  obtain ⟨hI_f_12a, hq_12⟩ := hp_12
                  have hO_f_12a := hI_f_12a.2
                  obtain ⟨hm0_f_12a, hm1_f_12a, hm2_f_12a, hm3_f_12a, hm4_f_12a⟩ := hO_f_12a
                  have G : wd X (va_A (@HAppend.hAppend va_W va_W va_W _ (mW m0 ma la lb n t v) (@HAppend.hAppend va_W va_W va_W _ ([((ma 0), .inl (X.2.1, 371, .inl fa))]) (@HAppend.hAppend va_W va_W va_W _ ([((ma 6), .inl (X.2.1, 55, .inl fh))]) ([((ma 3), .inl (X.2.1, 3, .inl fr))])))) sz) (va_A (@HAppend.hAppend va_W va_W va_W _ (mW m0 ma la lb n t v) (@HAppend.hAppend va_W va_W va_W _ ([((ma 0), .inl (X.2.1, 371, .inl fa))]) (@HAppend.hAppend va_W va_W va_W _ ([((ma 6), .inl (X.2.1, 55, .inl fh))]) ([((ma 3), .inl (X.2.1, 3, .inl fr))])))) sz) s (@HAppend.hAppend va_W va_W va_W _ ([((ma 3), .inl (X.2.1, 3, .inl fr))]) (@HAppend.hAppend va_W va_W va_W _ (mW m0 ma la lb n t v) (@HAppend.hAppend va_W va_W va_W _ ([((ma 0), .inl (X.2.1, 371, .inl fa))]) ([((ma 6), .inl (X.2.1, 55, .inl f_12a))])))) H locs := G
                  refine lv_iconst (v := 0) zx zb dX11_stumble_99 (by decide) ?_
                  refine lv_istore (lv' := [(12, .int 0), (10, .long (Int32.toInt64 1)), (9, .int (nI k84)), (7, .long x61_7), (5, .long x84_5), (0, .ref m0), (1, .int (nI j_1)), (2, .int (nI j_3)), (3, .int (nI j_5)), (4, .int (nI j_7))]) zx zb dX11_stumble_100 hl (by decide) rfl (fun ls hl => ?_)
                  refine k_loop (P := ∀ (zm : Nat) (k102 : Nat) (x102_10 : Int64) (f102_3 : Nat → Int32) (H : Heap) (locs : List Loc) (ls : Array Slot), 6 + 1 ≤ k102 + zm → InA f102_3 c0_12b c1_12c c2_12d c3_12e c4_12f → (k102 ≤ 6) → wd X (va_A (@HAppend.hAppend va_W va_W va_W _ (mW m0 ma la lb n t v) (@HAppend.hAppend va_W va_W va_W _ ([((ma 0), .inl (X.2.1, 371, .inl fa))]) (@HAppend.hAppend va_W va_W va_W _ ([((ma 6), .inl (X.2.1, 55, .inl fh))]) ([((ma 3), .inl (X.2.1, 3, .inl fr))])))) sz) (va_A (@HAppend.hAppend va_W va_W va_W _ (mW m0 ma la lb n t v) (@HAppend.hAppend va_W va_W va_W _ ([((ma 0), .inl (X.2.1, 371, .inl fa))]) (@HAppend.hAppend va_W va_W va_W _ ([((ma 6), .inl (X.2.1, 55, .inl fh))]) ([((ma 3), .inl (X.2.1, 3, .inl fr))])))) sz) s (@HAppend.hAppend va_W va_W va_W _ ([((ma 3), .inl (X.2.1, 3, .inl fr))]) (@HAppend.hAppend va_W va_W va_W _ (mW m0 ma la lb n t v) (@HAppend.hAppend va_W va_W va_W _ ([((ma 0), .inl (X.2.1, 371, .inl fa))]) ([((ma 6), .inl (X.2.1, 55, .inl f102_3))])))) H locs → lv_has ls 13 [(12, .int (nI k102)), (10, .long x102_10), (9, .int (nI k84)), (7, .long x61_7), (5, .long x84_5), (0, .ref m0), (1, .int (nI j_1)), (2, .int (nI j_3)), (3, .int (nI j_5)), (4, .int (nI j_7))] → W p l e _ s m _ below meth c H locs _ _ _ (F0 m 102 ls [])) (fun loop => loop (6 + 1) 0 (Int32.toInt64 1) f_12a _ _ _ (by omega) hI_f_12a (by omega) G hl) ?_
                  intro zm
                  induction zm with
                  | zero => intro k102 x102_10 f102_3 H locs ls zz q_hI_f102_3 q_hk_k102 _ _; exact absurd zz (by omega)
                  | succ zm ih102 =>
                    intro k102 x102_10 f102_3 H locs ls zm_102 hI_f102_3 hk_k102 G hl
                    refine lv_iload zx zb dX11_stumble_102 (lv_at hl 0 rfl) ?_
                    refine lv_iload_n zx zb dX11_stumble_104 rfl (lv_at hl 8 rfl) ?_
                    refine lv_icmp_ge (tgt := 178) zx zb dX11_stumble_105 (by decide) (fun c_13 => ?_) (fun c_13 => ?_)
                    · have fc_13 := j_le (a := j_5) (b := k102) (by omega) (by omega) c_13
                      refine lv_lload zx zb dX11_stumble_178 (lv_at hl 4 rfl) ?_
                      refine lv_aload_n zx zb dX11_stumble_180 rfl (lv_at hl 5 rfl) ?_
                      refine r_get (C := RX11) (T := TX11) (N := 18) (ci := 9) (v := .ref (ma 6)) S in_X11_stumble_X11 G 1 rfl rfl 6 (by decide) lk_X11_stumble_27 rfl dX11_stumble_181 ?_
                      refine lv_iconst (v := 5) zx zb dX11_stumble_184 (by decide) ?_
                      refine lv_iload_n zx zb dX11_stumble_185 rfl (lv_at hl 6 rfl) ?_
                      refine r_iadd (v := (nI (5 + j_1))) S (nI_add 5 j_1) dX11_stumble_186 ?_
                      refine r_iald S G 3 rfl (vp_in_nI (by omega) (by decide)) rfl dX11_stumble_187 ?_
                      refine k_itE (fun y_14 => ?_)
                      refine lv_iload_n zx zb dX11_stumble_188 rfl (lv_at hl 7 rfl) ?_
                      refine k_cutW (PP := fun Wx => ∀ (x_16 : Int64) (H : Heap) (locs : List Loc) (ls : Array Slot), wd X (va_A (@HAppend.hAppend va_W va_W va_W _ (mW m0 ma la lb n t v) (@HAppend.hAppend va_W va_W va_W _ ([((ma 0), .inl (X.2.1, 371, .inl fa))]) (@HAppend.hAppend va_W va_W va_W _ ([((ma 6), .inl (X.2.1, 55, .inl fh))]) ([((ma 3), .inl (X.2.1, 3, .inl fr))])))) sz) (va_A (@HAppend.hAppend va_W va_W va_W _ (mW m0 ma la lb n t v) (@HAppend.hAppend va_W va_W va_W _ ([((ma 0), .inl (X.2.1, 371, .inl fa))]) (@HAppend.hAppend va_W va_W va_W _ ([((ma 6), .inl (X.2.1, 55, .inl fh))]) ([((ma 3), .inl (X.2.1, 3, .inl fr))])))) sz) s (@HAppend.hAppend va_W va_W va_W _ ([((ma 3), .inl (X.2.1, 3, .inl fr))]) (@HAppend.hAppend va_W va_W va_W _ (mW m0 ma la lb n t v) (@HAppend.hAppend va_W va_W va_W _ ([((ma 0), .inl (X.2.1, 371, .inl fa))]) ([((ma 6), .inl (X.2.1, 55, .inl f102_3))])))) H locs → lv_has ls 13 [(12, .int (nI k102)), (10, .long x102_10), (9, .int (nI k84)), (7, .long x61_7), (5, .long x84_5), (0, .ref m0), (1, .int (nI j_1)), (2, .int (nI j_3)), (3, .int (nI j_5)), (4, .int (nI j_7))] → Wx (F0 m 198 ls [.long x_16, .long x84_5]) H locs) ?_ ?_
                      · intro join_189
                        refine lv_icmp_lt (tgt := 197) zx zb dX11_stumble_189 (by decide) (fun c_15 => ?_) (fun c_15 => ?_)
                        · refine lv_lconst (v := (Int32.toInt64 0)) zx zb dX11_stumble_197 (by decide) ?_
                          exact join_189 (Int32.toInt64 0) _ _ _  G hl
                        · refine lv_lload zx zb dX11_stumble_192 (lv_at hl 1 rfl) ?_
                          refine lv_goto (tgt := 198) zx zb dX11_stumble_194 (by decide) ?_
                          exact join_189 x102_10 _ _ _  G hl
                      · intro x_16 H locs ls  G hl
                        refine r_ladd (v := (x84_5 + x_16)) S rfl dX11_stumble_198 ?_
                        refine lv_lstore (lv' := [(5, .long (x84_5 + x_16)), (12, .int (nI k102)), (10, .long x102_10), (9, .int (nI k84)), (7, .long x61_7), (0, .ref m0), (1, .int (nI j_1)), (2, .int (nI j_3)), (3, .int (nI j_5)), (4, .int (nI j_7))]) zx zb dX11_stumble_199 hl (by decide) rfl (fun ls hl => ?_)
                        refine lv_iinc (v := (nI (k84 + 1))) (lv' := [(9, .int (nI (k84 + 1))), (5, .long (x84_5 + x_16)), (12, .int (nI k102)), (10, .long x102_10), (7, .long x61_7), (0, .ref m0), (1, .int (nI j_1)), (2, .int (nI j_3)), (3, .int (nI j_5)), (4, .int (nI j_7))]) zx zb dX11_stumble_201 hl (k := 3) rfl (nI_add k84 1) (by decide) rfl (fun ls hl => ?_)
                        refine lv_goto (tgt := 84) zx zb dX11_stumble_204 (by decide) ?_
                        have G : wd X (va_A (@HAppend.hAppend va_W va_W va_W _ (mW m0 ma la lb n t v) (@HAppend.hAppend va_W va_W va_W _ ([((ma 0), .inl (X.2.1, 371, .inl fa))]) (@HAppend.hAppend va_W va_W va_W _ ([((ma 6), .inl (X.2.1, 55, .inl fh))]) ([((ma 3), .inl (X.2.1, 3, .inl fr))])))) sz) (va_A (@HAppend.hAppend va_W va_W va_W _ (mW m0 ma la lb n t v) (@HAppend.hAppend va_W va_W va_W _ ([((ma 0), .inl (X.2.1, 371, .inl fa))]) (@HAppend.hAppend va_W va_W va_W _ ([((ma 6), .inl (X.2.1, 55, .inl fh))]) ([((ma 3), .inl (X.2.1, 3, .inl fr))])))) sz) s (@HAppend.hAppend va_W va_W va_W _ (mW m0 ma la lb n t v) (@HAppend.hAppend va_W va_W va_W _ ([((ma 0), .inl (X.2.1, 371, .inl fa))]) (@HAppend.hAppend va_W va_W va_W _ ([((ma 6), .inl (X.2.1, 55, .inl f102_3))]) ([((ma 3), .inl (X.2.1, 3, .inl fr))])))) H locs := wd_sub G [1, 2, 3, 0] rfl rfl
                        have hl := lv_sub hl (l' := [(9, .int (nI (k84 + 1))), (7, .long x61_7), (5, .long (x84_5 + x_16)), (0, .ref m0), (1, .int (nI j_1)), (2, .int (nI j_3)), (3, .int (nI j_5)), (4, .int (nI j_7))]) [0, 4, 1, 5, 6, 7, 8, 9] rfl
                        exact ih84 (k84 + 1) (x84_5 + x_16) f102_3 c0_12b c1_12c c2_12d c3_12e c4_12f _ _ _ (by omega) hI_f102_3 (by omega) G hl
                    · have fc_13 := j_nle (a := j_5) (b := k102) (by omega) (by omega) c_13
                      refine lv_lload zx zb dX11_stumble_108 (lv_at hl 1 rfl) ?_
                      refine lv_iload zx zb dX11_stumble_110 (lv_at hl 2 rfl) ?_
                      refine lv_iload zx zb dX11_stumble_112 (lv_at hl 0 rfl) ?_
                      refine o_ri (cells' := 0) (slots' := 0) G rfl rfl (n_S (As := [.int (nI k84), .int (nI k102)]) (rest := [.long x102_10]) S G (m_has l X (nI k84) (nI k102) H.size) gX11_stumble_X11_has rfl rfl rfl hdS_X11_has ⟨Nat.le_of_ble_eq_true rfl, Nat.le_of_ble_eq_true rfl⟩ [] rfl rfl rfl hl.1 (Nat.le_of_ble_eq_true rfl) dX11_stumble_114 ⟨Nat.le_of_ble_eq_true rfl, Nat.le_of_ble_eq_true rfl⟩) (fun r_17 u_17 H locs hp_17 G => ?_)
                      have G : wd X (va_A (@HAppend.hAppend va_W va_W va_W _ (mW m0 ma la lb n t v) (@HAppend.hAppend va_W va_W va_W _ ([((ma 0), .inl (X.2.1, 371, .inl fa))]) (@HAppend.hAppend va_W va_W va_W _ ([((ma 6), .inl (X.2.1, 55, .inl fh))]) ([((ma 3), .inl (X.2.1, 3, .inl fr))])))) sz) (va_A (@HAppend.hAppend va_W va_W va_W _ (mW m0 ma la lb n t v) (@HAppend.hAppend va_W va_W va_W _ ([((ma 0), .inl (X.2.1, 371, .inl fa))]) (@HAppend.hAppend va_W va_W va_W _ ([((ma 6), .inl (X.2.1, 55, .inl fh))]) ([((ma 3), .inl (X.2.1, 3, .inl fr))])))) sz) s (@HAppend.hAppend va_W va_W va_W _ ([((ma 3), .inl (X.2.1, 3, .inl fr))]) (@HAppend.hAppend va_W va_W va_W _ (mW m0 ma la lb n t v) (@HAppend.hAppend va_W va_W va_W _ ([((ma 0), .inl (X.2.1, 371, .inl fa))]) ([((ma 6), .inl (X.2.1, 55, .inl f102_3))])))) H locs := G
                      refine k_cutW (PP := fun Wx => ∀ (x_19 : Int64) (H : Heap) (locs : List Loc) (ls : Array Slot), wd X (va_A (@HAppend.hAppend va_W va_W va_W _ (mW m0 ma la lb n t v) (@HAppend.hAppend va_W va_W va_W _ ([((ma 0), .inl (X.2.1, 371, .inl fa))]) (@HAppend.hAppend va_W va_W va_W _ ([((ma 6), .inl (X.2.1, 55, .inl fh))]) ([((ma 3), .inl (X.2.1, 3, .inl fr))])))) sz) (va_A (@HAppend.hAppend va_W va_W va_W _ (mW m0 ma la lb n t v) (@HAppend.hAppend va_W va_W va_W _ ([((ma 0), .inl (X.2.1, 371, .inl fa))]) (@HAppend.hAppend va_W va_W va_W _ ([((ma 6), .inl (X.2.1, 55, .inl fh))]) ([((ma 3), .inl (X.2.1, 3, .inl fr))])))) sz) s (@HAppend.hAppend va_W va_W va_W _ ([((ma 3), .inl (X.2.1, 3, .inl fr))]) (@HAppend.hAppend va_W va_W va_W _ (mW m0 ma la lb n t v) (@HAppend.hAppend va_W va_W va_W _ ([((ma 0), .inl (X.2.1, 371, .inl fa))]) ([((ma 6), .inl (X.2.1, 55, .inl f102_3))])))) H locs → lv_has ls 13 [(12, .int (nI k102)), (10, .long x102_10), (9, .int (nI k84)), (7, .long x61_7), (5, .long x84_5), (0, .ref m0), (1, .int (nI j_1)), (2, .int (nI j_3)), (3, .int (nI j_5)), (4, .int (nI j_7))] → Wx (F0 m 132 ls [.long x_19, .long x102_10]) H locs) ?_ ?_
                      · intro join_117
                        refine lv_if_eq (tgt := 126) zx zb dX11_stumble_117 (by decide) (fun c_18 => ?_) (fun c_18 => ?_)
                        · refine lv_bipush (v := 10) zx zb dX11_stumble_126 (by decide) ?_
                          refine lv_iload zx zb dX11_stumble_128 (lv_at hl 9 rfl) ?_
                          refine r_isub (v := (10 - (nI j_7))) S rfl dX11_stumble_130 ?_
                          refine lv_i2l (v := (Int32.toInt64 (10 - (nI j_7)))) zx zb dX11_stumble_131 rfl ?_
                          exact join_117 (Int32.toInt64 (10 - (nI j_7))) _ _ _  G hl
                        · refine lv_iload zx zb dX11_stumble_120 (lv_at hl 9 rfl) ?_
                          refine lv_i2l (v := (Int32.toInt64 (nI j_7))) zx zb dX11_stumble_122 rfl ?_
                          refine lv_goto (tgt := 132) zx zb dX11_stumble_123 (by decide) ?_
                          exact join_117 (Int32.toInt64 (nI j_7)) _ _ _  G hl
                      · intro x_19 H locs ls  G hl
                        refine r_lmul (v := (x102_10 * x_19)) S rfl dX11_stumble_132 ?_
                        refine lv_lstore (lv' := [(10, .long (x102_10 * x_19)), (12, .int (nI k102)), (9, .int (nI k84)), (7, .long x61_7), (5, .long x84_5), (0, .ref m0), (1, .int (nI j_1)), (2, .int (nI j_3)), (3, .int (nI j_5)), (4, .int (nI j_7))]) zx zb dX11_stumble_133 hl (by decide) rfl (fun ls hl => ?_)
                        refine lv_aload_n zx zb dX11_stumble_135 rfl (lv_at hl 5 rfl) ?_
                        refine r_get (C := RX11) (T := TX11) (N := 18) (ci := 9) (v := .ref (ma 6)) S in_X11_stumble_X11 G 1 rfl rfl 6 (by decide) lk_X11_stumble_27 rfl dX11_stumble_136 ?_
                        refine lv_bipush (v := 35) zx zb dX11_stumble_139 (by decide) ?_
                        refine lv_dup2_11 zx zb dX11_stumble_141 rfl rfl ?_
                        refine r_iald S G 3 rfl (k_vp (by decide)) rfl dX11_stumble_142 ?_
                        refine k_itE (fun y_20 => ?_)
                        refine lv_iconst (v := 1) zx zb dX11_stumble_143 (by decide) ?_
                        refine r_iadd (v := (y_20 + 1)) S rfl dX11_stumble_144 ?_
                        refine r_iast S G 3 rfl (k_vp (by decide)) dX11_stumble_145 (fun H locs G => ?_)
                        obtain ⟨f_21, hI_f_21, hE_f_21, G⟩ : ∃ f_21 : Nat → Int32, InA f_21 c0_12b c1_12c c2_12d c3_12e c4_12f ∧ f_21 = upd f102_3 35 (y_20 + 1) ∧ wd X (va_A (@HAppend.hAppend va_W va_W va_W _ (mW m0 ma la lb n t v) (@HAppend.hAppend va_W va_W va_W _ ([((ma 0), .inl (X.2.1, 371, .inl fa))]) (@HAppend.hAppend va_W va_W va_W _ ([((ma 6), .inl (X.2.1, 55, .inl fh))]) ([((ma 3), .inl (X.2.1, 3, .inl fr))])))) sz) (va_A (@HAppend.hAppend va_W va_W va_W _ (mW m0 ma la lb n t v) (@HAppend.hAppend va_W va_W va_W _ ([((ma 0), .inl (X.2.1, 371, .inl fa))]) (@HAppend.hAppend va_W va_W va_W _ ([((ma 6), .inl (X.2.1, 55, .inl fh))]) ([((ma 3), .inl (X.2.1, 3, .inl fr))])))) sz) s (@HAppend.hAppend va_W va_W va_W _ ([((ma 3), .inl (X.2.1, 3, .inl fr))]) (@HAppend.hAppend va_W va_W va_W _ (mW m0 ma la lb n t v) (@HAppend.hAppend va_W va_W va_W _ ([((ma 0), .inl (X.2.1, 371, .inl fa))]) ([((ma 6), .inl (X.2.1, 55, .inl f_21))])))) H locs := ⟨_, InA_o hI_f102_3 (by decide), rfl, G⟩
                        refine lv_aload_n zx zb dX11_stumble_146 rfl (lv_at hl 5 rfl) ?_
                        refine r_get (C := RX11) (T := TX11) (N := 18) (ci := 9) (v := .ref (ma 6)) S in_X11_stumble_X11 G 1 rfl rfl 6 (by decide) lk_X11_stumble_27 rfl dX11_stumble_147 ?_
                        refine lv_iload_n zx zb dX11_stumble_150 rfl (lv_at hl 6 rfl) ?_
                        refine o_ri (cells' := 0) (slots' := 0) G rfl rfl (n_S (As := [.ref (ma 6), .int (nI j_1)]) (rest := []) S G (m_isHome l X (ma 6) 55 f_21 c0_12b c1_12c c2_12d c3_12e c4_12f j_1 hI_f_21 (by omega) (by omega) (by omega) H.size) gX11_stumble_X11_isHome rfl rfl rfl hdS_X11_isHome ⟨Nat.le_of_ble_eq_true rfl, Nat.le_of_ble_eq_true rfl⟩ [3] rfl rfl rfl hl.1 (Nat.le_of_ble_eq_true rfl) dX11_stumble_151 ⟨Nat.le_of_ble_eq_true rfl, Nat.le_of_ble_eq_true rfl⟩) (fun r_22 u_22 H locs hp_22 G => ?_)
                        have G : wd X (va_A (@HAppend.hAppend va_W va_W va_W _ (mW m0 ma la lb n t v) (@HAppend.hAppend va_W va_W va_W _ ([((ma 0), .inl (X.2.1, 371, .inl fa))]) (@HAppend.hAppend va_W va_W va_W _ ([((ma 6), .inl (X.2.1, 55, .inl fh))]) ([((ma 3), .inl (X.2.1, 3, .inl fr))])))) sz) (va_A (@HAppend.hAppend va_W va_W va_W _ (mW m0 ma la lb n t v) (@HAppend.hAppend va_W va_W va_W _ ([((ma 0), .inl (X.2.1, 371, .inl fa))]) (@HAppend.hAppend va_W va_W va_W _ ([((ma 6), .inl (X.2.1, 55, .inl fh))]) ([((ma 3), .inl (X.2.1, 3, .inl fr))])))) sz) s (@HAppend.hAppend va_W va_W va_W _ ([((ma 3), .inl (X.2.1, 3, .inl fr))]) (@HAppend.hAppend va_W va_W va_W _ (mW m0 ma la lb n t v) (@HAppend.hAppend va_W va_W va_W _ ([((ma 0), .inl (X.2.1, 371, .inl fa))]) ([((ma 6), .inl (X.2.1, 55, .inl f_21))])))) H locs := G
                        refine k_cutW (PP := fun Wx => ∀ (f_24 : Nat → Int32) (H : Heap) (locs : List Loc) (ls : Array Slot), InA f_24 c0_12b c1_12c c2_12d c3_12e c4_12f → wd X (va_A (@HAppend.hAppend va_W va_W va_W _ (mW m0 ma la lb n t v) (@HAppend.hAppend va_W va_W va_W _ ([((ma 0), .inl (X.2.1, 371, .inl fa))]) (@HAppend.hAppend va_W va_W va_W _ ([((ma 6), .inl (X.2.1, 55, .inl fh))]) ([((ma 3), .inl (X.2.1, 3, .inl fr))])))) sz) (va_A (@HAppend.hAppend va_W va_W va_W _ (mW m0 ma la lb n t v) (@HAppend.hAppend va_W va_W va_W _ ([((ma 0), .inl (X.2.1, 371, .inl fa))]) (@HAppend.hAppend va_W va_W va_W _ ([((ma 6), .inl (X.2.1, 55, .inl fh))]) ([((ma 3), .inl (X.2.1, 3, .inl fr))])))) sz) s (@HAppend.hAppend va_W va_W va_W _ ([((ma 3), .inl (X.2.1, 3, .inl fr))]) (@HAppend.hAppend va_W va_W va_W _ (mW m0 ma la lb n t v) (@HAppend.hAppend va_W va_W va_W _ ([((ma 0), .inl (X.2.1, 371, .inl fa))]) ([((ma 6), .inl (X.2.1, 55, .inl f_24))])))) H locs → lv_has ls 13 [(10, .long (x102_10 * x_19)), (12, .int (nI k102)), (9, .int (nI k84)), (7, .long x61_7), (5, .long x84_5), (0, .ref m0), (1, .int (nI j_1)), (2, .int (nI j_3)), (3, .int (nI j_5)), (4, .int (nI j_7))] → Wx (F0 m 172 ls []) H locs) ?_ ?_
                        · intro join_154
                          refine lv_if_ne (tgt := 172) zx zb dX11_stumble_154 (by decide) (fun c_23 => ?_) (fun c_23 => ?_)
                          · exact join_154 f_21 _ _ _ hI_f_21 G hl
                          · refine lv_aload_n zx zb dX11_stumble_157 rfl (lv_at hl 5 rfl) ?_
                            refine r_get (C := RX11) (T := TX11) (N := 18) (ci := 9) (v := .ref (ma 6)) S in_X11_stumble_X11 G 1 rfl rfl 6 (by decide) lk_X11_stumble_27 rfl dX11_stumble_158 ?_
                            refine lv_iload_n zx zb dX11_stumble_161 rfl (lv_at hl 6 rfl) ?_
                            refine lv_iload zx zb dX11_stumble_162 (lv_at hl 2 rfl) ?_
                            refine lv_iload zx zb dX11_stumble_164 (lv_at hl 1 rfl) ?_
                            refine o_ri (cells' := 0) (slots' := 0) G rfl rfl (n_S (As := [.int (nI k84), .int (nI k102)]) (rest := [.int (nI j_1), .ref (ma 6)]) S G (m_has l X (nI k84) (nI k102) H.size) gX11_stumble_X11_has rfl rfl rfl hdS_X11_has ⟨Nat.le_of_ble_eq_true rfl, Nat.le_of_ble_eq_true rfl⟩ [] rfl rfl rfl hl.1 (Nat.le_of_ble_eq_true rfl) dX11_stumble_166 ⟨Nat.le_of_ble_eq_true rfl, Nat.le_of_ble_eq_true rfl⟩) (fun r_25 u_25 H locs hp_25 G => ?_)
                            have G : wd X (va_A (@HAppend.hAppend va_W va_W va_W _ (mW m0 ma la lb n t v) (@HAppend.hAppend va_W va_W va_W _ ([((ma 0), .inl (X.2.1, 371, .inl fa))]) (@HAppend.hAppend va_W va_W va_W _ ([((ma 6), .inl (X.2.1, 55, .inl fh))]) ([((ma 3), .inl (X.2.1, 3, .inl fr))])))) sz) (va_A (@HAppend.hAppend va_W va_W va_W _ (mW m0 ma la lb n t v) (@HAppend.hAppend va_W va_W va_W _ ([((ma 0), .inl (X.2.1, 371, .inl fa))]) (@HAppend.hAppend va_W va_W va_W _ ([((ma 6), .inl (X.2.1, 55, .inl fh))]) ([((ma 3), .inl (X.2.1, 3, .inl fr))])))) sz) s (@HAppend.hAppend va_W va_W va_W _ ([((ma 3), .inl (X.2.1, 3, .inl fr))]) (@HAppend.hAppend va_W va_W va_W _ (mW m0 ma la lb n t v) (@HAppend.hAppend va_W va_W va_W _ ([((ma 0), .inl (X.2.1, 371, .inl fa))]) ([((ma 6), .inl (X.2.1, 55, .inl f_21))])))) H locs := G
                            refine b_wv (cells' := 0) (slots' := 0) (wr := @HAppend.hAppend va_W va_W va_W _ ([((ma 3), .inl (X.2.1, 3, .inl fr))]) (@HAppend.hAppend va_W va_W va_W _ (mW m0 ma la lb n t v) ([((ma 0), .inl (X.2.1, 371, .inl fa))]))) G rfl rfl [3] [0, 1, 2] rfl rfl rfl rfl (n_S (As := [.ref (ma 6), .int (nI j_1), .int r_25]) (rest := []) S G (m_goOne l X (ma 6) 55 f_21 c0_12b c1_12c c2_12d c3_12e c4_12f j_1 r_25 hI_f_21 (by omega) (by omega) (by omega) H.size) gX11_stumble_X11_goOne rfl rfl rfl hdS_X11_goOne ⟨Nat.le_of_ble_eq_true rfl, Nat.le_of_ble_eq_true rfl⟩ [3] rfl rfl rfl hl.1 (Nat.le_of_ble_eq_true rfl) dX11_stumble_169 ⟨Nat.le_of_ble_eq_true rfl, Nat.le_of_ble_eq_true rfl⟩) (fun u_26 H locs hp_26 G => ?_)
                            obtain ⟨f_26, rfl⟩ : ∃ z, z = u_26 := ⟨_, rfl⟩
                            obtain ⟨hI_f_26, hq_26⟩ := hp_26
                            have G : wd X (va_A (@HAppend.hAppend va_W va_W va_W _ (mW m0 ma la lb n t v) (@HAppend.hAppend va_W va_W va_W _ ([((ma 0), .inl (X.2.1, 371, .inl fa))]) (@HAppend.hAppend va_W va_W va_W _ ([((ma 6), .inl (X.2.1, 55, .inl fh))]) ([((ma 3), .inl (X.2.1, 3, .inl fr))])))) sz) (va_A (@HAppend.hAppend va_W va_W va_W _ (mW m0 ma la lb n t v) (@HAppend.hAppend va_W va_W va_W _ ([((ma 0), .inl (X.2.1, 371, .inl fa))]) (@HAppend.hAppend va_W va_W va_W _ ([((ma 6), .inl (X.2.1, 55, .inl fh))]) ([((ma 3), .inl (X.2.1, 3, .inl fr))])))) sz) s (@HAppend.hAppend va_W va_W va_W _ ([((ma 3), .inl (X.2.1, 3, .inl fr))]) (@HAppend.hAppend va_W va_W va_W _ (mW m0 ma la lb n t v) (@HAppend.hAppend va_W va_W va_W _ ([((ma 0), .inl (X.2.1, 371, .inl fa))]) ([((ma 6), .inl (X.2.1, 55, .inl f_26))])))) H locs := G
                            exact join_154 f_26 _ _ _ hI_f_26 G hl
                        · intro f_24 H locs ls hI_f_24 G hl
                          refine lv_iinc (v := (nI (k102 + 1))) (lv' := [(12, .int (nI (k102 + 1))), (10, .long (x102_10 * x_19)), (9, .int (nI k84)), (7, .long x61_7), (5, .long x84_5), (0, .ref m0), (1, .int (nI j_1)), (2, .int (nI j_3)), (3, .int (nI j_5)), (4, .int (nI j_7))]) zx zb dX11_stumble_172 hl (k := 1) rfl (nI_add k102 1) (by decide) rfl (fun ls hl => ?_)
                          refine lv_goto (tgt := 102) zx zb dX11_stumble_175 (by decide) ?_
                          exact ih102 (k102 + 1) (x102_10 * x_19) f_24 _ _ _ (by omega) hI_f_24 (by omega) G hl
            · have fc_9 := j_nle (a := j_5) (b := k61) (by omega) (by omega) c_9
              refine lv_lload zx zb dX11_stumble_67 (lv_at hl 1 rfl) ?_
              refine lv_ldc2 zx zb S.2.2.2.1 (S.2.2.2.2 _ mm_X11_stumble_c64) dX11_stumble_69 ?_
              refine k_ld (v := (Int32.toInt64 10)) (by decide) ?_
              refine r_lmul (v := (x61_7 * (Int32.toInt64 10))) S rfl dX11_stumble_72 ?_
              refine lv_lstore (lv' := [(7, .long (x61_7 * (Int32.toInt64 10))), (9, .int (nI k61)), (5, .long (Int32.toInt64 0)), (0, .ref m0), (1, .int (nI j_1)), (2, .int (nI j_3)), (3, .int (nI j_5)), (4, .int (nI j_7))]) zx zb dX11_stumble_73 hl (by decide) rfl (fun ls hl => ?_)
              refine lv_iinc (v := (nI (k61 + 1))) (lv' := [(9, .int (nI (k61 + 1))), (7, .long (x61_7 * (Int32.toInt64 10))), (5, .long (Int32.toInt64 0)), (0, .ref m0), (1, .int (nI j_1)), (2, .int (nI j_3)), (3, .int (nI j_5)), (4, .int (nI j_7))]) zx zb dX11_stumble_75 hl (k := 1) rfl (nI_add k61 1) (by decide) rfl (fun ls hl => ?_)
              refine lv_goto (tgt := 61) zx zb dX11_stumble_78 (by decide) ?_
              exact ih61 (k61 + 1) (x61_7 * (Int32.toInt64 10)) _ _ _ (by omega) (by omega) (by first | assumption | exact k_p10a | exact k_p10s (by omega) (by assumption)) G hl
        · refine lv_if_ne (tgt := 52) zx zb dX11_stumble_42 (by decide) (fun c_27 => absurd (by decide) c_27) (fun c_27 => ?_)
          refine lv_aload_n zx zb dX11_stumble_45 rfl (lv_at hl 0 rfl) ?_
          refine lv_bipush (v := (-2)) zx zb dX11_stumble_46 (by decide) ?_
          refine b_wi (cells' := 0) (slots' := 0) (wr := @HAppend.hAppend va_W va_W va_W _ ([((ma 0), .inl (X.2.1, 371, .inl fa))]) ([((ma 6), .inl (X.2.1, 55, .inl fh))])) G rfl rfl [0, 3] [1, 2] rfl rfl rfl rfl (n_V (As := [.int (-2)]) (rest := []) (C := RX11) (T := TX11) (N := 18) (ci := 9) S G (m_bad l X m0 ma la lb n t v fr (-2) hI_n hI_t H.size) gX11_stumble_X11_bad rfl rfl rfl hdV_X11_bad ⟨Nat.le_of_ble_eq_true rfl, Nat.le_of_ble_eq_true rfl⟩ [0, 3] rfl rfl 0 rfl rfl rfl hl.1 (Nat.le_of_ble_eq_true rfl) dX11_stumble_48 ⟨Nat.le_of_ble_eq_true rfl, Nat.le_of_ble_eq_true rfl⟩) (fun r_28 u_28 H locs hp_28 G => ?_)
          obtain ⟨f_28, rfl⟩ : ∃ z, z = u_28 := ⟨_, rfl⟩
          have hq_28 := hp_28
          have G : wd X (va_A (@HAppend.hAppend va_W va_W va_W _ (mW m0 ma la lb n t v) (@HAppend.hAppend va_W va_W va_W _ ([((ma 0), .inl (X.2.1, 371, .inl fa))]) (@HAppend.hAppend va_W va_W va_W _ ([((ma 6), .inl (X.2.1, 55, .inl fh))]) ([((ma 3), .inl (X.2.1, 3, .inl fr))])))) sz) (va_A (@HAppend.hAppend va_W va_W va_W _ (mW m0 ma la lb n t v) (@HAppend.hAppend va_W va_W va_W _ ([((ma 0), .inl (X.2.1, 371, .inl fa))]) (@HAppend.hAppend va_W va_W va_W _ ([((ma 6), .inl (X.2.1, 55, .inl fh))]) ([((ma 3), .inl (X.2.1, 3, .inl fr))])))) sz) s (@HAppend.hAppend va_W va_W va_W _ ([((ma 0), .inl (X.2.1, 371, .inl fa))]) (@HAppend.hAppend va_W va_W va_W _ ([((ma 6), .inl (X.2.1, 55, .inl fh))]) (@HAppend.hAppend va_W va_W va_W _ (mW m0 ma la lb n t v) ([((ma 3), .inl (X.2.1, 3, .inl f_28))])))) H locs := G
          obtain rfl := hq_28
          exact e_int S zr zlk (vp_nar_int _) G (la, lb, fh, d0, d1, d2, d3, d4, f_28) [2, 0, 1, 3] rfl rfl (Or.inr rfl) (⟨hI_fh, (stuF_n (fun h => hw_7 h.2.2.2)).symm⟩) dX11_stumble_51
      · refine lv_if_eq (tgt := 45) zx zb dX11_stumble_29 (by decide) (fun c_29 => ?_) (fun c_29 => absurd (by decide) c_29)
        refine lv_aload_n zx zb dX11_stumble_45 rfl (lv_at hl 0 rfl) ?_
        refine lv_bipush (v := (-2)) zx zb dX11_stumble_46 (by decide) ?_
        refine b_wi (cells' := 0) (slots' := 0) (wr := @HAppend.hAppend va_W va_W va_W _ ([((ma 0), .inl (X.2.1, 371, .inl fa))]) ([((ma 6), .inl (X.2.1, 55, .inl fh))])) G rfl rfl [0, 3] [1, 2] rfl rfl rfl rfl (n_V (As := [.int (-2)]) (rest := []) (C := RX11) (T := TX11) (N := 18) (ci := 9) S G (m_bad l X m0 ma la lb n t v fr (-2) hI_n hI_t H.size) gX11_stumble_X11_bad rfl rfl rfl hdV_X11_bad ⟨Nat.le_of_ble_eq_true rfl, Nat.le_of_ble_eq_true rfl⟩ [0, 3] rfl rfl 0 rfl rfl rfl hl.1 (Nat.le_of_ble_eq_true rfl) dX11_stumble_48 ⟨Nat.le_of_ble_eq_true rfl, Nat.le_of_ble_eq_true rfl⟩) (fun r_30 u_30 H locs hp_30 G => ?_)
        obtain ⟨f_30, rfl⟩ : ∃ z, z = u_30 := ⟨_, rfl⟩
        have hq_30 := hp_30
        have G : wd X (va_A (@HAppend.hAppend va_W va_W va_W _ (mW m0 ma la lb n t v) (@HAppend.hAppend va_W va_W va_W _ ([((ma 0), .inl (X.2.1, 371, .inl fa))]) (@HAppend.hAppend va_W va_W va_W _ ([((ma 6), .inl (X.2.1, 55, .inl fh))]) ([((ma 3), .inl (X.2.1, 3, .inl fr))])))) sz) (va_A (@HAppend.hAppend va_W va_W va_W _ (mW m0 ma la lb n t v) (@HAppend.hAppend va_W va_W va_W _ ([((ma 0), .inl (X.2.1, 371, .inl fa))]) (@HAppend.hAppend va_W va_W va_W _ ([((ma 6), .inl (X.2.1, 55, .inl fh))]) ([((ma 3), .inl (X.2.1, 3, .inl fr))])))) sz) s (@HAppend.hAppend va_W va_W va_W _ ([((ma 0), .inl (X.2.1, 371, .inl fa))]) (@HAppend.hAppend va_W va_W va_W _ ([((ma 6), .inl (X.2.1, 55, .inl fh))]) (@HAppend.hAppend va_W va_W va_W _ (mW m0 ma la lb n t v) ([((ma 3), .inl (X.2.1, 3, .inl f_30))])))) H locs := G
        obtain rfl := hq_30
        exact e_int S zr zlk (vp_nar_int _) G (la, lb, fh, d0, d1, d2, d3, d4, f_30) [2, 0, 1, 3] rfl rfl (Or.inr rfl) (⟨hI_fh, (stuF_n (fun h => hw_5 h.2.2.1)).symm⟩) dX11_stumble_51
    · refine lv_if_eq (tgt := 45) zx zb dX11_stumble_17 (by decide) (fun c_31 => ?_) (fun c_31 => absurd (by decide) c_31)
      refine lv_aload_n zx zb dX11_stumble_45 rfl (lv_at hl 0 rfl) ?_
      refine lv_bipush (v := (-2)) zx zb dX11_stumble_46 (by decide) ?_
      refine b_wi (cells' := 0) (slots' := 0) (wr := @HAppend.hAppend va_W va_W va_W _ ([((ma 0), .inl (X.2.1, 371, .inl fa))]) ([((ma 6), .inl (X.2.1, 55, .inl fh))])) G rfl rfl [0, 3] [1, 2] rfl rfl rfl rfl (n_V (As := [.int (-2)]) (rest := []) (C := RX11) (T := TX11) (N := 18) (ci := 9) S G (m_bad l X m0 ma la lb n t v fr (-2) hI_n hI_t H.size) gX11_stumble_X11_bad rfl rfl rfl hdV_X11_bad ⟨Nat.le_of_ble_eq_true rfl, Nat.le_of_ble_eq_true rfl⟩ [0, 3] rfl rfl 0 rfl rfl rfl hl.1 (Nat.le_of_ble_eq_true rfl) dX11_stumble_48 ⟨Nat.le_of_ble_eq_true rfl, Nat.le_of_ble_eq_true rfl⟩) (fun r_32 u_32 H locs hp_32 G => ?_)
      obtain ⟨f_32, rfl⟩ : ∃ z, z = u_32 := ⟨_, rfl⟩
      have hq_32 := hp_32
      have G : wd X (va_A (@HAppend.hAppend va_W va_W va_W _ (mW m0 ma la lb n t v) (@HAppend.hAppend va_W va_W va_W _ ([((ma 0), .inl (X.2.1, 371, .inl fa))]) (@HAppend.hAppend va_W va_W va_W _ ([((ma 6), .inl (X.2.1, 55, .inl fh))]) ([((ma 3), .inl (X.2.1, 3, .inl fr))])))) sz) (va_A (@HAppend.hAppend va_W va_W va_W _ (mW m0 ma la lb n t v) (@HAppend.hAppend va_W va_W va_W _ ([((ma 0), .inl (X.2.1, 371, .inl fa))]) (@HAppend.hAppend va_W va_W va_W _ ([((ma 6), .inl (X.2.1, 55, .inl fh))]) ([((ma 3), .inl (X.2.1, 3, .inl fr))])))) sz) s (@HAppend.hAppend va_W va_W va_W _ ([((ma 0), .inl (X.2.1, 371, .inl fa))]) (@HAppend.hAppend va_W va_W va_W _ ([((ma 6), .inl (X.2.1, 55, .inl fh))]) (@HAppend.hAppend va_W va_W va_W _ (mW m0 ma la lb n t v) ([((ma 3), .inl (X.2.1, 3, .inl f_32))])))) H locs := G
      obtain rfl := hq_32
      exact e_int S zr zlk (vp_nar_int _) G (la, lb, fh, d0, d1, d2, d3, d4, f_32) [2, 0, 1, 3] rfl rfl (Or.inr rfl) (⟨hI_fh, (stuF_n (fun h => hw_3 h.2.1)).symm⟩) dX11_stumble_51
  · refine lv_if_eq (tgt := 45) zx zb dX11_stumble_5 (by decide) (fun c_33 => ?_) (fun c_33 => absurd (by decide) c_33)
    refine lv_aload_n zx zb dX11_stumble_45 rfl (lv_at hl 0 rfl) ?_
    refine lv_bipush (v := (-2)) zx zb dX11_stumble_46 (by decide) ?_
    refine b_wi (cells' := 0) (slots' := 0) (wr := @HAppend.hAppend va_W va_W va_W _ ([((ma 0), .inl (X.2.1, 371, .inl fa))]) ([((ma 6), .inl (X.2.1, 55, .inl fh))])) G rfl rfl [0, 3] [1, 2] rfl rfl rfl rfl (n_V (As := [.int (-2)]) (rest := []) (C := RX11) (T := TX11) (N := 18) (ci := 9) S G (m_bad l X m0 ma la lb n t v fr (-2) hI_n hI_t H.size) gX11_stumble_X11_bad rfl rfl rfl hdV_X11_bad ⟨Nat.le_of_ble_eq_true rfl, Nat.le_of_ble_eq_true rfl⟩ [0, 3] rfl rfl 0 rfl rfl rfl hl.1 (Nat.le_of_ble_eq_true rfl) dX11_stumble_48 ⟨Nat.le_of_ble_eq_true rfl, Nat.le_of_ble_eq_true rfl⟩) (fun r_34 u_34 H locs hp_34 G => ?_)
    obtain ⟨f_34, rfl⟩ : ∃ z, z = u_34 := ⟨_, rfl⟩
    have hq_34 := hp_34
    have G : wd X (va_A (@HAppend.hAppend va_W va_W va_W _ (mW m0 ma la lb n t v) (@HAppend.hAppend va_W va_W va_W _ ([((ma 0), .inl (X.2.1, 371, .inl fa))]) (@HAppend.hAppend va_W va_W va_W _ ([((ma 6), .inl (X.2.1, 55, .inl fh))]) ([((ma 3), .inl (X.2.1, 3, .inl fr))])))) sz) (va_A (@HAppend.hAppend va_W va_W va_W _ (mW m0 ma la lb n t v) (@HAppend.hAppend va_W va_W va_W _ ([((ma 0), .inl (X.2.1, 371, .inl fa))]) (@HAppend.hAppend va_W va_W va_W _ ([((ma 6), .inl (X.2.1, 55, .inl fh))]) ([((ma 3), .inl (X.2.1, 3, .inl fr))])))) sz) s (@HAppend.hAppend va_W va_W va_W _ ([((ma 0), .inl (X.2.1, 371, .inl fa))]) (@HAppend.hAppend va_W va_W va_W _ ([((ma 6), .inl (X.2.1, 55, .inl fh))]) (@HAppend.hAppend va_W va_W va_W _ (mW m0 ma la lb n t v) ([((ma 3), .inl (X.2.1, 3, .inl f_34))])))) H locs := G
    obtain rfl := hq_34
    exact e_int S zr zlk (vp_nar_int _) G (la, lb, fh, d0, d1, d2, d3, d4, f_34) [2, 0, 1, 3] rfl rfl (Or.inr rfl) (⟨hI_fh, (stuF_n (fun h => hj_1 h.1)).symm⟩) dX11_stumble_51
theorem mm_X11_races_c191 : Cond.constantLong RX11 191 (999999) ∈ wsX11_races := by decide +kernel
theorem mm_X11_races_c66 : Cond.constantLong RX11 66 (60) ∈ wsX11_races := by decide +kernel
theorem mm_X11_races_c193 : Cond.constantLong RX11 193 (1103515245) ∈ wsX11_races := by decide +kernel
theorem mm_X11_races_c195 : Cond.constantLong RX11 195 (12345) ∈ wsX11_races := by decide +kernel
theorem mm_X11_races_c197 : Cond.constantLong RX11 197 (2147483648) ∈ wsX11_races := by decide +kernel
theorem mm_X11_races_c199 : Cond.constantLong RX11 199 (65536) ∈ wsX11_races := by decide +kernel
theorem mm_X11_races_c185 : Cond.constantLong RX11 185 (6) ∈ wsX11_races := by decide +kernel
theorem in_X11_races_X11 : ∀ w ∈ wsX110, w ∈ wsX11_races := by decide +kernel
theorem lk_X11_races_27 : Cond.fieldLink RX11 27 "EggSpoonsModel" "hand" "[I" ∈ wsX11_races := by decide +kernel
theorem mm_X11_races_c201 : Cond.constantLong RX11 201 (1048576) ∈ wsX11_races := by decide +kernel
theorem mm_X11_races_c64 : Cond.constantLong RX11 64 (10) ∈ wsX11_races := by decide +kernel
set_option maxHeartbeats 4000000 in
set_option maxRecDepth 100000 in
/-- races -/
theorem m_races (l : Launch) (X : EX) (m0 : Nat) (ma : Nat → Nat) (la : Int64) (lb : Int64) (n : Nat) (t : Nat → Nat) (v : Nat → Int32) (fa : Nat → Int32) (c0 : Nat) (c1 : Nat) (c2 : Nat) (c3 : Nat) (c4 : Nat) (fh : Nat → Int32) (d0 : Nat) (d1 : Nat) (d2 : Nat) (d3 : Nat) (d4 : Nat) (fr : Nat → Int32) (x1 : Int32) (x2 : Int32) (hI_n : n ≤ 150) (hI_t : InT t) (hI_fa : InA fa c0 c1 c2 c3 c4) (hI_fh : InA fh d0 d1 d2 d3 d4) (sz : Nat) : Met l yX11_races wsX11_races ({ frames := 4, cells := 0, slots := 0, locals := 93 } : Room) (pE X [.ref m0, .int x1, .int x2] (@HAppend.hAppend va_W va_W va_W _ (mW m0 ma la lb n t v) (@HAppend.hAppend va_W va_W va_W _ ([((ma 0), .inl (X.2.1, 371, .inl fa))]) (@HAppend.hAppend va_W va_W va_W _ ([((ma 6), .inl (X.2.1, 55, .inl fh))]) ([((ma 3), .inl (X.2.1, 3, .inl fr))])))) sz) (qI (fun (r : Int32) (u : (Nat → Int32) × (Nat) × (Nat) × (Nat) × (Nat) × (Nat) × (Nat → Int32)) => InA u.1 u.2.1 u.2.2.1 u.2.2.2.1 u.2.2.2.2.1 u.2.2.2.2.2.1 ∧ (True)) X (fun (u : (Nat → Int32) × (Nat) × (Nat) × (Nat) × (Nat) × (Nat) × (Nat → Int32)) => @HAppend.hAppend va_W va_W va_W _ (mW m0 ma la lb n t v) (@HAppend.hAppend va_W va_W va_W _ ([((ma 0), .inl (X.2.1, 371, .inl fa))]) (@HAppend.hAppend va_W va_W va_W _ ([((ma 6), .inl (X.2.1, 55, .inl u.1))]) ([((ma 3), .inl (X.2.1, 3, .inl u.2.2.2.2.2.2))])))) (@HAppend.hAppend va_W va_W va_W _ (mW m0 ma la lb n t v) (@HAppend.hAppend va_W va_W va_W _ ([((ma 0), .inl (X.2.1, 371, .inl fa))]) (@HAppend.hAppend va_W va_W va_W _ ([((ma 6), .inl (X.2.1, 55, .inl fh))]) ([((ma 3), .inl (X.2.1, 3, .inl fr))])))) sz) 0 0 (va_A (@HAppend.hAppend va_W va_W va_W _ (mW m0 ma la lb n t v) (@HAppend.hAppend va_W va_W va_W _ ([((ma 0), .inl (X.2.1, 371, .inl fa))]) (@HAppend.hAppend va_W va_W va_W _ ([((ma 6), .inl (X.2.1, 55, .inl fh))]) ([((ma 3), .inl (X.2.1, 3, .inl fr))])))) sz) := by
  refine mk_met (B := (va_A (@HAppend.hAppend va_W va_W va_W _ (mW m0 ma la lb n t v) (@HAppend.hAppend va_W va_W va_W _ ([((ma 0), .inl (X.2.1, 371, .inl fa))]) (@HAppend.hAppend va_W va_W va_W _ ([((ma 6), .inl (X.2.1, 55, .inl fh))]) ([((ma 3), .inl (X.2.1, 3, .inl fr))])))) sz)) (A := (va_A (@HAppend.hAppend va_W va_W va_W _ (mW m0 ma la lb n t v) (@HAppend.hAppend va_W va_W va_W _ ([((ma 0), .inl (X.2.1, 371, .inl fa))]) (@HAppend.hAppend va_W va_W va_W _ ([((ma 6), .inl (X.2.1, 55, .inl fh))]) ([((ma 3), .inl (X.2.1, 3, .inl fr))])))) sz)) (cc := cX11_races) (maxL := 7) (ret := (some .int)) (by decide) rfl (Nat.le_of_ble_eq_true rfl) k_w k_a (fun p e s m below meth c S zr zlk znm zsz G ls hl => ?_)
  have S : CallFix p m c cX11_races 7 s _ wsX11_races RX11 := S
  have zx := S.1
  have zb := S.2.1
  have hl : lv_has ls 7 [(0, .ref m0), (1, .int x1), (2, .int x2)] := hl
  have hO_t := hI_t
  obtain ⟨ht0_t, ht1_t⟩ := hO_t
  have hO_fa := hI_fa.2
  obtain ⟨hm0_fa, hm1_fa, hm2_fa, hm3_fa, hm4_fa⟩ := hO_fa
  have hO_fh := hI_fh.2
  obtain ⟨hm0_fh, hm1_fh, hm2_fh, hm3_fh, hm4_fh⟩ := hO_fh
  refine lv_iload_n zx zb dX11_races_0 rfl (lv_at hl 1 rfl) ?_
  refine lv_i2l (v := (Int32.toInt64 x1)) zx zb dX11_races_1 rfl ?_
  refine lv_lconst (v := (Int32.toInt64 0)) zx zb dX11_races_2 (by decide) ?_
  refine lv_ldc2 zx zb S.2.2.2.1 (S.2.2.2.2 _ mm_X11_races_c191) dX11_races_3 ?_
  refine k_ld (v := (Int32.toInt64 999999)) (by decide) ?_
  refine o_ri (cells' := 0) (slots' := 0) G rfl rfl (n_S (As := [.long (Int32.toInt64 x1), .long (Int32.toInt64 0), .long (Int32.toInt64 999999)]) (rest := []) S G (m_in l X x1 0 999999 s.heap.size) gX11_races_X11_in rfl rfl rfl hdS_X11_in ⟨Nat.le_of_ble_eq_true rfl, Nat.le_of_ble_eq_true rfl⟩ [] rfl rfl rfl hl.1 (Nat.le_of_ble_eq_true rfl) dX11_races_6 ⟨Nat.le_of_ble_eq_true rfl, Nat.le_of_ble_eq_true rfl⟩) (fun r_1 u_1 H locs hp_1 G => ?_)
  have G : wd X (va_A (@HAppend.hAppend va_W va_W va_W _ (mW m0 ma la lb n t v) (@HAppend.hAppend va_W va_W va_W _ ([((ma 0), .inl (X.2.1, 371, .inl fa))]) (@HAppend.hAppend va_W va_W va_W _ ([((ma 6), .inl (X.2.1, 55, .inl fh))]) ([((ma 3), .inl (X.2.1, 3, .inl fr))])))) sz) (va_A (@HAppend.hAppend va_W va_W va_W _ (mW m0 ma la lb n t v) (@HAppend.hAppend va_W va_W va_W _ ([((ma 0), .inl (X.2.1, 371, .inl fa))]) (@HAppend.hAppend va_W va_W va_W _ ([((ma 6), .inl (X.2.1, 55, .inl fh))]) ([((ma 3), .inl (X.2.1, 3, .inl fr))])))) sz) s (@HAppend.hAppend va_W va_W va_W _ (mW m0 ma la lb n t v) (@HAppend.hAppend va_W va_W va_W _ ([((ma 0), .inl (X.2.1, 371, .inl fa))]) (@HAppend.hAppend va_W va_W va_W _ ([((ma 6), .inl (X.2.1, 55, .inl fh))]) ([((ma 3), .inl (X.2.1, 3, .inl fr))])))) H locs := G
  rcases hp_1 with ⟨rfl, hw_1⟩ | ⟨rfl, hw_1⟩
  · obtain ⟨j_1, ⟨ja_1, jb_1⟩, rfl⟩ := k_natR (a := 0) (b := 999999) hw_1 rfl rfl (by decide) (by decide)
    refine lv_if_eq (tgt := 24) zx zb dX11_races_9 (by decide) (fun c_2 => absurd c_2 (by decide)) (fun c_2 => ?_)
    refine lv_iload_n zx zb dX11_races_12 rfl (lv_at hl 2 rfl) ?_
    refine lv_i2l (v := (Int32.toInt64 x2)) zx zb dX11_races_13 rfl ?_
    refine lv_lconst (v := (Int32.toInt64 0)) zx zb dX11_races_14 (by decide) ?_
    refine lv_ldc2 zx zb S.2.2.2.1 (S.2.2.2.2 _ mm_X11_races_c66) dX11_races_15 ?_
    refine k_ld (v := (Int32.toInt64 60)) (by decide) ?_
    refine o_ri (cells' := 0) (slots' := 0) G rfl rfl (n_S (As := [.long (Int32.toInt64 x2), .long (Int32.toInt64 0), .long (Int32.toInt64 60)]) (rest := []) S G (m_in l X x2 0 60 H.size) gX11_races_X11_in rfl rfl rfl hdS_X11_in ⟨Nat.le_of_ble_eq_true rfl, Nat.le_of_ble_eq_true rfl⟩ [] rfl rfl rfl hl.1 (Nat.le_of_ble_eq_true rfl) dX11_races_18 ⟨Nat.le_of_ble_eq_true rfl, Nat.le_of_ble_eq_true rfl⟩) (fun r_3 u_3 H locs hp_3 G => ?_)
    have G : wd X (va_A (@HAppend.hAppend va_W va_W va_W _ (mW m0 ma la lb n t v) (@HAppend.hAppend va_W va_W va_W _ ([((ma 0), .inl (X.2.1, 371, .inl fa))]) (@HAppend.hAppend va_W va_W va_W _ ([((ma 6), .inl (X.2.1, 55, .inl fh))]) ([((ma 3), .inl (X.2.1, 3, .inl fr))])))) sz) (va_A (@HAppend.hAppend va_W va_W va_W _ (mW m0 ma la lb n t v) (@HAppend.hAppend va_W va_W va_W _ ([((ma 0), .inl (X.2.1, 371, .inl fa))]) (@HAppend.hAppend va_W va_W va_W _ ([((ma 6), .inl (X.2.1, 55, .inl fh))]) ([((ma 3), .inl (X.2.1, 3, .inl fr))])))) sz) s (@HAppend.hAppend va_W va_W va_W _ (mW m0 ma la lb n t v) (@HAppend.hAppend va_W va_W va_W _ ([((ma 0), .inl (X.2.1, 371, .inl fa))]) (@HAppend.hAppend va_W va_W va_W _ ([((ma 6), .inl (X.2.1, 55, .inl fh))]) ([((ma 3), .inl (X.2.1, 3, .inl fr))])))) H locs := G
    rcases hp_3 with ⟨rfl, hw_3⟩ | ⟨rfl, hw_3⟩
    · obtain ⟨j_3, ⟨ja_3, jb_3⟩, rfl⟩ := k_natR (a := 0) (b := 60) hw_3 rfl rfl (by decide) (by decide)
      refine lv_if_ne (tgt := 31) zx zb dX11_races_21 (by decide) (fun c_4 => ?_) (fun c_4 => absurd c_4 (by decide))
      refine lv_iload_n zx zb dX11_races_31 rfl (lv_at hl 1 rfl) ?_
      refine lv_i2l (v := (Int32.toInt64 (nI j_1))) zx zb dX11_races_32 rfl ?_
      refine k_ld (nI_l (by omega)) ?_
      refine lv_lstore_n (lv' := [(3, .long (lN j_1)), (0, .ref m0), (1, .int (nI j_1)), (2, .int (nI j_3))]) zx zb dX11_races_33 rfl hl (by decide) rfl (fun ls hl => ?_)
      refine lv_aload_n zx zb dX11_races_34 rfl (lv_at hl 1 rfl) ?_
      refine b_wv (cells' := 0) (slots' := 0) (wr := [((ma 3), .inl (X.2.1, 3, .inl fr))]) G rfl rfl [0, 1, 2] [3] rfl rfl rfl rfl (n_V (As := []) (rest := []) (C := RX11) (T := TX11) (N := 18) (ci := 9) S G (m_layHand l X m0 ma la lb n t v fa c0 c1 c2 c3 c4 fh d0 d1 d2 d3 d4 hI_n hI_t hI_fa hI_fh H.size) gX11_races_X11_layHand rfl rfl rfl hdV_X11_layHand ⟨Nat.le_of_ble_eq_true rfl, Nat.le_of_ble_eq_true rfl⟩ [0, 1, 2] rfl rfl 0 rfl rfl rfl hl.1 (Nat.le_of_ble_eq_true rfl) dX11_races_35 ⟨Nat.le_of_ble_eq_true rfl, Nat.le_of_ble_eq_true rfl⟩) (fun u_5 H locs hp_5 G => ?_)
      obtain ⟨f_5a, c0_5b, c1_5c, c2_5d, c3_5e, c4_5f⟩ := u_5
      try dsimp only at hp_5
      obtain ⟨hI_f_5a, hq_5⟩ := hp_5
      have hO_f_5a := hI_f_5a.2
      obtain ⟨hm0_f_5a, hm1_f_5a, hm2_f_5a, hm3_f_5a, hm4_f_5a⟩ := hO_f_5a
      have G : wd X (va_A (@HAppend.hAppend va_W va_W va_W _ (mW m0 ma la lb n t v) (@HAppend.hAppend va_W va_W va_W _ ([((ma 0), .inl (X.2.1, 371, .inl fa))]) (@HAppend.hAppend va_W va_W va_W _ ([((ma 6), .inl (X.2.1, 55, .inl fh))]) ([((ma 3), .inl (X.2.1, 3, .inl fr))])))) sz) (va_A (@HAppend.hAppend va_W va_W va_W _ (mW m0 ma la lb n t v) (@HAppend.hAppend va_W va_W va_W _ ([((ma 0), .inl (X.2.1, 371, .inl fa))]) (@HAppend.hAppend va_W va_W va_W _ ([((ma 6), .inl (X.2.1, 55, .inl fh))]) ([((ma 3), .inl (X.2.1, 3, .inl fr))])))) sz) s (@HAppend.hAppend va_W va_W va_W _ ([((ma 3), .inl (X.2.1, 3, .inl fr))]) (@HAppend.hAppend va_W va_W va_W _ (mW m0 ma la lb n t v) (@HAppend.hAppend va_W va_W va_W _ ([((ma 0), .inl (X.2.1, 371, .inl fa))]) ([((ma 6), .inl (X.2.1, 55, .inl f_5a))])))) H locs := G
      refine lv_iconst (v := 0) zx zb dX11_races_38 (by decide) ?_
      refine lv_istore (lv' := [(5, .int 0), (3, .long (lN j_1)), (0, .ref m0), (1, .int (nI j_1)), (2, .int (nI j_3))]) zx zb dX11_races_39 hl (by decide) rfl (fun ls hl => ?_)
      refine k_loop (P := ∀ (zm : Nat) (k41 : Nat) (x41_3 : Int64) (f41_3 : Nat → Int32) (H : Heap) (locs : List Loc) (ls : Array Slot), 60 + 1 ≤ k41 + zm → InA f41_3 c0_5b c1_5c c2_5d c3_5e c4_5f → (k41 ≤ 60) → (∃ q : Nat, q < 2147483648 ∧ x41_3 = lN q) → wd X (va_A (@HAppend.hAppend va_W va_W va_W _ (mW m0 ma la lb n t v) (@HAppend.hAppend va_W va_W va_W _ ([((ma 0), .inl (X.2.1, 371, .inl fa))]) (@HAppend.hAppend va_W va_W va_W _ ([((ma 6), .inl (X.2.1, 55, .inl fh))]) ([((ma 3), .inl (X.2.1, 3, .inl fr))])))) sz) (va_A (@HAppend.hAppend va_W va_W va_W _ (mW m0 ma la lb n t v) (@HAppend.hAppend va_W va_W va_W _ ([((ma 0), .inl (X.2.1, 371, .inl fa))]) (@HAppend.hAppend va_W va_W va_W _ ([((ma 6), .inl (X.2.1, 55, .inl fh))]) ([((ma 3), .inl (X.2.1, 3, .inl fr))])))) sz) s (@HAppend.hAppend va_W va_W va_W _ ([((ma 3), .inl (X.2.1, 3, .inl fr))]) (@HAppend.hAppend va_W va_W va_W _ (mW m0 ma la lb n t v) (@HAppend.hAppend va_W va_W va_W _ ([((ma 0), .inl (X.2.1, 371, .inl fa))]) ([((ma 6), .inl (X.2.1, 55, .inl f41_3))])))) H locs → lv_has ls 7 [(5, .int (nI k41)), (3, .long x41_3), (0, .ref m0), (1, .int (nI j_1)), (2, .int (nI j_3))] → W p l e _ s m _ below meth c H locs _ _ _ (F0 m 41 ls [])) (fun loop => loop (60 + 1) 0 (lN j_1) f_5a _ _ _ (by omega) hI_f_5a (by omega) (by first | assumption | exact ⟨_, by omega, rfl⟩ | exact ⟨_, hz1, rfl⟩) G hl) ?_
      intro zm
      induction zm with
      | zero => intro k41 x41_3 f41_3 H locs ls zz q_hI_f41_3 q_hk_k41 q_hk_x41_3 _ _; exact absurd zz (by omega)
      | succ zm ih41 =>
        intro k41 x41_3 f41_3 H locs ls zm_41 hI_f41_3 hk_k41 hk_x41_3 G hl
        refine lv_iload zx zb dX11_races_41 (lv_at hl 0 rfl) ?_
        refine lv_iload_n zx zb dX11_races_43 rfl (lv_at hl 4 rfl) ?_
        refine lv_icmp_ge (tgt := 115) zx zb dX11_races_44 (by decide) (fun c_6 => ?_) (fun c_6 => ?_)
        · have fc_6 := j_le (a := j_3) (b := k41) (by omega) (by omega) c_6
          refine lv_aload_n zx zb dX11_races_115 rfl (lv_at hl 2 rfl) ?_
          refine r_get (C := RX11) (T := TX11) (N := 18) (ci := 9) (v := .ref (ma 6)) S in_X11_races_X11 G 1 rfl rfl 6 (by decide) lk_X11_races_27 rfl dX11_races_116 ?_
          refine o_ri (cells' := 0) (slots' := 0) G rfl rfl (n_S (As := [.ref (ma 6)]) (rest := []) S G (m_manyHome l X (ma 6) 55 f41_3 c0_5b c1_5c c2_5d c3_5e c4_5f hI_f41_3 (by omega) (by omega) H.size) gX11_races_X11_manyHome rfl rfl rfl hdS_X11_manyHome ⟨Nat.le_of_ble_eq_true rfl, Nat.le_of_ble_eq_true rfl⟩ [3] rfl rfl rfl hl.1 (Nat.le_of_ble_eq_true rfl) dX11_races_119 ⟨Nat.le_of_ble_eq_true rfl, Nat.le_of_ble_eq_true rfl⟩) (fun r_7 u_7 H locs hp_7 G => ?_)
          have G : wd X (va_A (@HAppend.hAppend va_W va_W va_W _ (mW m0 ma la lb n t v) (@HAppend.hAppend va_W va_W va_W _ ([((ma 0), .inl (X.2.1, 371, .inl fa))]) (@HAppend.hAppend va_W va_W va_W _ ([((ma 6), .inl (X.2.1, 55, .inl fh))]) ([((ma 3), .inl (X.2.1, 3, .inl fr))])))) sz) (va_A (@HAppend.hAppend va_W va_W va_W _ (mW m0 ma la lb n t v) (@HAppend.hAppend va_W va_W va_W _ ([((ma 0), .inl (X.2.1, 371, .inl fa))]) (@HAppend.hAppend va_W va_W va_W _ ([((ma 6), .inl (X.2.1, 55, .inl fh))]) ([((ma 3), .inl (X.2.1, 3, .inl fr))])))) sz) s (@HAppend.hAppend va_W va_W va_W _ ([((ma 3), .inl (X.2.1, 3, .inl fr))]) (@HAppend.hAppend va_W va_W va_W _ (mW m0 ma la lb n t v) (@HAppend.hAppend va_W va_W va_W _ ([((ma 0), .inl (X.2.1, 371, .inl fa))]) ([((ma 6), .inl (X.2.1, 55, .inl f41_3))])))) H locs := G
          exact e_int S zr zlk (vp_nar_int _) G (f41_3, c0_5b, c1_5c, c2_5d, c3_5e, c4_5f, fr) [1, 2, 3, 0] rfl rfl (Or.inr rfl) (⟨hI_f41_3, trivial⟩) dX11_races_122
        · have fc_6 := j_nle (a := j_3) (b := k41) (by omega) (by omega) c_6
          obtain ⟨z, zz, rfl⟩ := hk_x41_3
          refine lv_lload_n zx zb dX11_races_47 rfl (lv_at hl 1 rfl) ?_
          refine lv_ldc2 zx zb S.2.2.2.1 (S.2.2.2.2 _ mm_X11_races_c193) dX11_races_48 ?_
          refine k_ld (v := (Int32.toInt64 1103515245)) (by decide) ?_
          refine r_lmul (v := ((lN z) * (Int32.toInt64 1103515245))) S rfl dX11_races_51 ?_
          refine lv_ldc2 zx zb S.2.2.2.1 (S.2.2.2.2 _ mm_X11_races_c195) dX11_races_52 ?_
          refine k_ld (v := (Int32.toInt64 12345)) (by decide) ?_
          refine r_ladd (v := (((lN z) * (Int32.toInt64 1103515245)) + (Int32.toInt64 12345))) S rfl dX11_races_55 ?_
          refine lv_ldc2 zx zb S.2.2.2.1 (S.2.2.2.2 _ mm_X11_races_c197) dX11_races_56 ?_
          refine lv_lrem zx zb dX11_races_59 (by decide) ?_
          obtain ⟨z1, hz1, ez1⟩ := k_rx zz
          refine k_ld ez1 ?_
          refine lv_lstore_n (lv' := [(3, .long (lN z1)), (5, .int (nI k41)), (0, .ref m0), (1, .int (nI j_1)), (2, .int (nI j_3))]) zx zb dX11_races_60 rfl hl (by decide) rfl (fun ls hl => ?_)
          refine lv_lload_n zx zb dX11_races_61 rfl (lv_at hl 0 rfl) ?_
          refine lv_ldc2 zx zb S.2.2.2.1 (S.2.2.2.2 _ mm_X11_races_c199) dX11_races_62 ?_
          refine k_ld (v := (Int32.toInt64 65536)) (by decide) ?_
          refine lv_ldiv zx zb dX11_races_65 (by decide) ?_
          refine lv_ldc2 zx zb S.2.2.2.1 (S.2.2.2.2 _ mm_X11_races_c185) dX11_races_66 ?_
          refine k_ld (v := (Int32.toInt64 6)) (by decide) ?_
          refine lv_lrem zx zb dX11_races_69 (by decide) ?_
          refine lv_l2i (v := (Int64.toInt32 (((lN z1) / (Int32.toInt64 65536)) - ((lN z1) / (Int32.toInt64 65536)) / (Int32.toInt64 6) * (Int32.toInt64 6)))) zx zb dX11_races_70 rfl ?_
          obtain ⟨j, hj, ej⟩ := k_ri hz1
          refine k_it ej ?_
          refine lv_istore (lv' := [(6, .int (nI j)), (3, .long (lN z1)), (5, .int (nI k41)), (0, .ref m0), (1, .int (nI j_1)), (2, .int (nI j_3))]) zx zb dX11_races_71 hl (by decide) rfl (fun ls hl => ?_)
          refine lv_aload_n zx zb dX11_races_73 rfl (lv_at hl 3 rfl) ?_
          refine lv_iload zx zb dX11_races_74 (lv_at hl 0 rfl) ?_
          refine o_ri (cells' := 0) (slots' := 0) G rfl rfl (n_V (As := [.int (nI j)]) (rest := []) (C := RX11) (T := TX11) (N := 18) (ci := 9) S G (m_isOne l X m0 ma la lb n t v fa c0 c1 c2 c3 c4 (nI j) hI_n hI_t hI_fa H.size) gX11_races_X11_isOne rfl rfl rfl hdV_X11_isOne ⟨Nat.le_of_ble_eq_true rfl, Nat.le_of_ble_eq_true rfl⟩ [1, 2] rfl rfl 1 rfl rfl rfl hl.1 (Nat.le_of_ble_eq_true rfl) dX11_races_76 ⟨Nat.le_of_ble_eq_true rfl, Nat.le_of_ble_eq_true rfl⟩) (fun r_8 u_8 H locs hp_8 G => ?_)
          have G : wd X (va_A (@HAppend.hAppend va_W va_W va_W _ (mW m0 ma la lb n t v) (@HAppend.hAppend va_W va_W va_W _ ([((ma 0), .inl (X.2.1, 371, .inl fa))]) (@HAppend.hAppend va_W va_W va_W _ ([((ma 6), .inl (X.2.1, 55, .inl fh))]) ([((ma 3), .inl (X.2.1, 3, .inl fr))])))) sz) (va_A (@HAppend.hAppend va_W va_W va_W _ (mW m0 ma la lb n t v) (@HAppend.hAppend va_W va_W va_W _ ([((ma 0), .inl (X.2.1, 371, .inl fa))]) (@HAppend.hAppend va_W va_W va_W _ ([((ma 6), .inl (X.2.1, 55, .inl fh))]) ([((ma 3), .inl (X.2.1, 3, .inl fr))])))) sz) s (@HAppend.hAppend va_W va_W va_W _ ([((ma 3), .inl (X.2.1, 3, .inl fr))]) (@HAppend.hAppend va_W va_W va_W _ (mW m0 ma la lb n t v) (@HAppend.hAppend va_W va_W va_W _ ([((ma 0), .inl (X.2.1, 371, .inl fa))]) ([((ma 6), .inl (X.2.1, 55, .inl f41_3))])))) H locs := G
          rcases hp_8 with ⟨rfl, hj_8⟩ | ⟨rfl, hj_8⟩
          · obtain ⟨j_8, hj_8, ej_8⟩ := hj_8
            have ek_8 := j_eq (by omega) (by omega) ej_8
            refine lv_if_eq (tgt := 102) zx zb dX11_races_79 (by decide) (fun c_9 => absurd c_9 (by decide)) (fun c_9 => ?_)
            refine lv_aload_n zx zb dX11_races_82 rfl (lv_at hl 3 rfl) ?_
            refine r_get (C := RX11) (T := TX11) (N := 18) (ci := 9) (v := .ref (ma 6)) S in_X11_races_X11 G 1 rfl rfl 6 (by decide) lk_X11_races_27 rfl dX11_races_83 ?_
            refine lv_bipush (v := 11) zx zb dX11_races_86 (by decide) ?_
            refine lv_iload zx zb dX11_races_88 (lv_at hl 0 rfl) ?_
            refine r_iadd (v := (nI (11 + j))) S (nI_add 11 j) dX11_races_90 ?_
            refine lv_lload_n zx zb dX11_races_91 rfl (lv_at hl 1 rfl) ?_
            refine lv_ldc2 zx zb S.2.2.2.1 (S.2.2.2.2 _ mm_X11_races_c201) dX11_races_92 ?_
            refine k_ld (v := (Int32.toInt64 1048576)) (by decide) ?_
            refine lv_ldiv zx zb dX11_races_95 (by decide) ?_
            refine k_ldE (fun y_10 => ?_)
            refine lv_ldc2 zx zb S.2.2.2.1 (S.2.2.2.2 _ mm_X11_races_c64) dX11_races_96 ?_
            refine k_ld (v := (Int32.toInt64 10)) (by decide) ?_
            refine lv_lrem zx zb dX11_races_99 (by decide) ?_
            refine k_ldE (fun y_11 => ?_)
            refine lv_l2i (v := (Int64.toInt32 y_11)) zx zb dX11_races_100 rfl ?_
            refine r_iast S G 3 rfl (vp_in_nI (by omega) (by decide)) dX11_races_101 (fun H locs G => ?_)
            obtain ⟨f_12, hI_f_12, hE_f_12, G⟩ : ∃ f_12 : Nat → Int32, InA f_12 c0_5b c1_5c c2_5d c3_5e c4_5f ∧ f_12 = upd f41_3 (nI (11 + j)).toNatClampNeg (Int64.toInt32 y_11) ∧ wd X (va_A (@HAppend.hAppend va_W va_W va_W _ (mW m0 ma la lb n t v) (@HAppend.hAppend va_W va_W va_W _ ([((ma 0), .inl (X.2.1, 371, .inl fa))]) (@HAppend.hAppend va_W va_W va_W _ ([((ma 6), .inl (X.2.1, 55, .inl fh))]) ([((ma 3), .inl (X.2.1, 3, .inl fr))])))) sz) (va_A (@HAppend.hAppend va_W va_W va_W _ (mW m0 ma la lb n t v) (@HAppend.hAppend va_W va_W va_W _ ([((ma 0), .inl (X.2.1, 371, .inl fa))]) (@HAppend.hAppend va_W va_W va_W _ ([((ma 6), .inl (X.2.1, 55, .inl fh))]) ([((ma 3), .inl (X.2.1, 3, .inl fr))])))) sz) s (@HAppend.hAppend va_W va_W va_W _ ([((ma 3), .inl (X.2.1, 3, .inl fr))]) (@HAppend.hAppend va_W va_W va_W _ (mW m0 ma la lb n t v) (@HAppend.hAppend va_W va_W va_W _ ([((ma 0), .inl (X.2.1, 371, .inl fa))]) ([((ma 6), .inl (X.2.1, 55, .inl f_12))])))) H locs := ⟨_, InA_o hI_f41_3 (by rw [nI_clamp (by omega)]; omega), rfl, G⟩
            refine lv_aload_n zx zb dX11_races_102 rfl (lv_at hl 3 rfl) ?_
            refine r_get (C := RX11) (T := TX11) (N := 18) (ci := 9) (v := .ref (ma 6)) S in_X11_races_X11 G 1 rfl rfl 6 (by decide) lk_X11_races_27 rfl dX11_races_103 ?_
            refine b_wv (cells' := 0) (slots' := 0) (wr := @HAppend.hAppend va_W va_W va_W _ ([((ma 3), .inl (X.2.1, 3, .inl fr))]) (@HAppend.hAppend va_W va_W va_W _ (mW m0 ma la lb n t v) ([((ma 0), .inl (X.2.1, 371, .inl fa))]))) G rfl rfl [3] [0, 1, 2] rfl rfl rfl rfl (n_S (As := [.ref (ma 6)]) (rest := []) S G (m_goTick l X (ma 6) 55 f_12 c0_5b c1_5c c2_5d c3_5e c4_5f hI_f_12 (by omega) (by omega) H.size) gX11_races_X11_goTick rfl rfl rfl hdS_X11_goTick ⟨Nat.le_of_ble_eq_true rfl, Nat.le_of_ble_eq_true rfl⟩ [3] rfl rfl rfl hl.1 (Nat.le_of_ble_eq_true rfl) dX11_races_106 ⟨Nat.le_of_ble_eq_true rfl, Nat.le_of_ble_eq_true rfl⟩) (fun u_13 H locs hp_13 G => ?_)
            obtain ⟨f_13, rfl⟩ : ∃ z, z = u_13 := ⟨_, rfl⟩
            obtain ⟨hI_f_13, hq_13⟩ := hp_13
            have G : wd X (va_A (@HAppend.hAppend va_W va_W va_W _ (mW m0 ma la lb n t v) (@HAppend.hAppend va_W va_W va_W _ ([((ma 0), .inl (X.2.1, 371, .inl fa))]) (@HAppend.hAppend va_W va_W va_W _ ([((ma 6), .inl (X.2.1, 55, .inl fh))]) ([((ma 3), .inl (X.2.1, 3, .inl fr))])))) sz) (va_A (@HAppend.hAppend va_W va_W va_W _ (mW m0 ma la lb n t v) (@HAppend.hAppend va_W va_W va_W _ ([((ma 0), .inl (X.2.1, 371, .inl fa))]) (@HAppend.hAppend va_W va_W va_W _ ([((ma 6), .inl (X.2.1, 55, .inl fh))]) ([((ma 3), .inl (X.2.1, 3, .inl fr))])))) sz) s (@HAppend.hAppend va_W va_W va_W _ ([((ma 3), .inl (X.2.1, 3, .inl fr))]) (@HAppend.hAppend va_W va_W va_W _ (mW m0 ma la lb n t v) (@HAppend.hAppend va_W va_W va_W _ ([((ma 0), .inl (X.2.1, 371, .inl fa))]) ([((ma 6), .inl (X.2.1, 55, .inl f_13))])))) H locs := G
            refine lv_iinc (v := (nI (k41 + 1))) (lv' := [(5, .int (nI (k41 + 1))), (6, .int (nI j)), (3, .long (lN z1)), (0, .ref m0), (1, .int (nI j_1)), (2, .int (nI j_3))]) zx zb dX11_races_109 hl (k := 2) rfl (nI_add k41 1) (by decide) rfl (fun ls hl => ?_)
            refine lv_goto (tgt := 41) zx zb dX11_races_112 (by decide) ?_
            have hl := lv_sub hl (l' := [(5, .int (nI (k41 + 1))), (3, .long (lN z1)), (0, .ref m0), (1, .int (nI j_1)), (2, .int (nI j_3))]) [0, 2, 3, 4, 5] rfl
            exact ih41 (k41 + 1) (lN z1) f_13 _ _ _ (by omega) hI_f_13 (by omega) (by first | assumption | exact ⟨_, by omega, rfl⟩ | exact ⟨_, hz1, rfl⟩) G hl
          · refine lv_if_eq (tgt := 102) zx zb dX11_races_79 (by decide) (fun c_14 => ?_) (fun c_14 => absurd (by decide) c_14)
            refine lv_aload_n zx zb dX11_races_102 rfl (lv_at hl 3 rfl) ?_
            refine r_get (C := RX11) (T := TX11) (N := 18) (ci := 9) (v := .ref (ma 6)) S in_X11_races_X11 G 1 rfl rfl 6 (by decide) lk_X11_races_27 rfl dX11_races_103 ?_
            refine b_wv (cells' := 0) (slots' := 0) (wr := @HAppend.hAppend va_W va_W va_W _ ([((ma 3), .inl (X.2.1, 3, .inl fr))]) (@HAppend.hAppend va_W va_W va_W _ (mW m0 ma la lb n t v) ([((ma 0), .inl (X.2.1, 371, .inl fa))]))) G rfl rfl [3] [0, 1, 2] rfl rfl rfl rfl (n_S (As := [.ref (ma 6)]) (rest := []) S G (m_goTick l X (ma 6) 55 f41_3 c0_5b c1_5c c2_5d c3_5e c4_5f hI_f41_3 (by omega) (by omega) H.size) gX11_races_X11_goTick rfl rfl rfl hdS_X11_goTick ⟨Nat.le_of_ble_eq_true rfl, Nat.le_of_ble_eq_true rfl⟩ [3] rfl rfl rfl hl.1 (Nat.le_of_ble_eq_true rfl) dX11_races_106 ⟨Nat.le_of_ble_eq_true rfl, Nat.le_of_ble_eq_true rfl⟩) (fun u_15 H locs hp_15 G => ?_)
            obtain ⟨f_15, rfl⟩ : ∃ z, z = u_15 := ⟨_, rfl⟩
            obtain ⟨hI_f_15, hq_15⟩ := hp_15
            have G : wd X (va_A (@HAppend.hAppend va_W va_W va_W _ (mW m0 ma la lb n t v) (@HAppend.hAppend va_W va_W va_W _ ([((ma 0), .inl (X.2.1, 371, .inl fa))]) (@HAppend.hAppend va_W va_W va_W _ ([((ma 6), .inl (X.2.1, 55, .inl fh))]) ([((ma 3), .inl (X.2.1, 3, .inl fr))])))) sz) (va_A (@HAppend.hAppend va_W va_W va_W _ (mW m0 ma la lb n t v) (@HAppend.hAppend va_W va_W va_W _ ([((ma 0), .inl (X.2.1, 371, .inl fa))]) (@HAppend.hAppend va_W va_W va_W _ ([((ma 6), .inl (X.2.1, 55, .inl fh))]) ([((ma 3), .inl (X.2.1, 3, .inl fr))])))) sz) s (@HAppend.hAppend va_W va_W va_W _ ([((ma 3), .inl (X.2.1, 3, .inl fr))]) (@HAppend.hAppend va_W va_W va_W _ (mW m0 ma la lb n t v) (@HAppend.hAppend va_W va_W va_W _ ([((ma 0), .inl (X.2.1, 371, .inl fa))]) ([((ma 6), .inl (X.2.1, 55, .inl f_15))])))) H locs := G
            refine lv_iinc (v := (nI (k41 + 1))) (lv' := [(5, .int (nI (k41 + 1))), (6, .int (nI j)), (3, .long (lN z1)), (0, .ref m0), (1, .int (nI j_1)), (2, .int (nI j_3))]) zx zb dX11_races_109 hl (k := 2) rfl (nI_add k41 1) (by decide) rfl (fun ls hl => ?_)
            refine lv_goto (tgt := 41) zx zb dX11_races_112 (by decide) ?_
            have hl := lv_sub hl (l' := [(5, .int (nI (k41 + 1))), (3, .long (lN z1)), (0, .ref m0), (1, .int (nI j_1)), (2, .int (nI j_3))]) [0, 2, 3, 4, 5] rfl
            exact ih41 (k41 + 1) (lN z1) f_15 _ _ _ (by omega) hI_f_15 (by omega) (by first | assumption | exact ⟨_, by omega, rfl⟩ | exact ⟨_, hz1, rfl⟩) G hl
    · refine lv_if_ne (tgt := 31) zx zb dX11_races_21 (by decide) (fun c_16 => absurd (by decide) c_16) (fun c_16 => ?_)
      refine lv_aload_n zx zb dX11_races_24 rfl (lv_at hl 0 rfl) ?_
      refine lv_bipush (v := (-2)) zx zb dX11_races_25 (by decide) ?_
      refine b_wi (cells' := 0) (slots' := 0) (wr := @HAppend.hAppend va_W va_W va_W _ ([((ma 0), .inl (X.2.1, 371, .inl fa))]) ([((ma 6), .inl (X.2.1, 55, .inl fh))])) G rfl rfl [0, 3] [1, 2] rfl rfl rfl rfl (n_V (As := [.int (-2)]) (rest := []) (C := RX11) (T := TX11) (N := 18) (ci := 9) S G (m_bad l X m0 ma la lb n t v fr (-2) hI_n hI_t H.size) gX11_races_X11_bad rfl rfl rfl hdV_X11_bad ⟨Nat.le_of_ble_eq_true rfl, Nat.le_of_ble_eq_true rfl⟩ [0, 3] rfl rfl 0 rfl rfl rfl hl.1 (Nat.le_of_ble_eq_true rfl) dX11_races_27 ⟨Nat.le_of_ble_eq_true rfl, Nat.le_of_ble_eq_true rfl⟩) (fun r_17 u_17 H locs hp_17 G => ?_)
      obtain ⟨f_17, rfl⟩ : ∃ z, z = u_17 := ⟨_, rfl⟩
      have hq_17 := hp_17
      have G : wd X (va_A (@HAppend.hAppend va_W va_W va_W _ (mW m0 ma la lb n t v) (@HAppend.hAppend va_W va_W va_W _ ([((ma 0), .inl (X.2.1, 371, .inl fa))]) (@HAppend.hAppend va_W va_W va_W _ ([((ma 6), .inl (X.2.1, 55, .inl fh))]) ([((ma 3), .inl (X.2.1, 3, .inl fr))])))) sz) (va_A (@HAppend.hAppend va_W va_W va_W _ (mW m0 ma la lb n t v) (@HAppend.hAppend va_W va_W va_W _ ([((ma 0), .inl (X.2.1, 371, .inl fa))]) (@HAppend.hAppend va_W va_W va_W _ ([((ma 6), .inl (X.2.1, 55, .inl fh))]) ([((ma 3), .inl (X.2.1, 3, .inl fr))])))) sz) s (@HAppend.hAppend va_W va_W va_W _ ([((ma 0), .inl (X.2.1, 371, .inl fa))]) (@HAppend.hAppend va_W va_W va_W _ ([((ma 6), .inl (X.2.1, 55, .inl fh))]) (@HAppend.hAppend va_W va_W va_W _ (mW m0 ma la lb n t v) ([((ma 3), .inl (X.2.1, 3, .inl f_17))])))) H locs := G
      obtain rfl := hq_17
      exact e_int S zr zlk (vp_nar_int _) G (fh, d0, d1, d2, d3, d4, f_17) [2, 0, 1, 3] rfl rfl (Or.inr rfl) (⟨hI_fh, trivial⟩) dX11_races_30
  · refine lv_if_eq (tgt := 24) zx zb dX11_races_9 (by decide) (fun c_18 => ?_) (fun c_18 => absurd (by decide) c_18)
    refine lv_aload_n zx zb dX11_races_24 rfl (lv_at hl 0 rfl) ?_
    refine lv_bipush (v := (-2)) zx zb dX11_races_25 (by decide) ?_
    refine b_wi (cells' := 0) (slots' := 0) (wr := @HAppend.hAppend va_W va_W va_W _ ([((ma 0), .inl (X.2.1, 371, .inl fa))]) ([((ma 6), .inl (X.2.1, 55, .inl fh))])) G rfl rfl [0, 3] [1, 2] rfl rfl rfl rfl (n_V (As := [.int (-2)]) (rest := []) (C := RX11) (T := TX11) (N := 18) (ci := 9) S G (m_bad l X m0 ma la lb n t v fr (-2) hI_n hI_t H.size) gX11_races_X11_bad rfl rfl rfl hdV_X11_bad ⟨Nat.le_of_ble_eq_true rfl, Nat.le_of_ble_eq_true rfl⟩ [0, 3] rfl rfl 0 rfl rfl rfl hl.1 (Nat.le_of_ble_eq_true rfl) dX11_races_27 ⟨Nat.le_of_ble_eq_true rfl, Nat.le_of_ble_eq_true rfl⟩) (fun r_19 u_19 H locs hp_19 G => ?_)
    obtain ⟨f_19, rfl⟩ : ∃ z, z = u_19 := ⟨_, rfl⟩
    have hq_19 := hp_19
    have G : wd X (va_A (@HAppend.hAppend va_W va_W va_W _ (mW m0 ma la lb n t v) (@HAppend.hAppend va_W va_W va_W _ ([((ma 0), .inl (X.2.1, 371, .inl fa))]) (@HAppend.hAppend va_W va_W va_W _ ([((ma 6), .inl (X.2.1, 55, .inl fh))]) ([((ma 3), .inl (X.2.1, 3, .inl fr))])))) sz) (va_A (@HAppend.hAppend va_W va_W va_W _ (mW m0 ma la lb n t v) (@HAppend.hAppend va_W va_W va_W _ ([((ma 0), .inl (X.2.1, 371, .inl fa))]) (@HAppend.hAppend va_W va_W va_W _ ([((ma 6), .inl (X.2.1, 55, .inl fh))]) ([((ma 3), .inl (X.2.1, 3, .inl fr))])))) sz) s (@HAppend.hAppend va_W va_W va_W _ ([((ma 0), .inl (X.2.1, 371, .inl fa))]) (@HAppend.hAppend va_W va_W va_W _ ([((ma 6), .inl (X.2.1, 55, .inl fh))]) (@HAppend.hAppend va_W va_W va_W _ (mW m0 ma la lb n t v) ([((ma 3), .inl (X.2.1, 3, .inl f_19))])))) H locs := G
    obtain rfl := hq_19
    exact e_int S zr zlk (vp_nar_int _) G (fh, d0, d1, d2, d3, d4, f_19) [2, 0, 1, 3] rfl rfl (Or.inr rfl) (⟨hI_fh, trivial⟩) dX11_races_30
set_option maxHeartbeats 4000000 in
set_option maxRecDepth 100000 in
theorem y_runsAs (l : Launch) (X : EX) (x1 : Int32) (x2 : Int32) (x3 : Int32) (x4 : Int32) (sz : Nat) : Met l yX11_runsAs wsX11_runsAs ({ frames := 0, cells := 0, slots := 0, locals := 0 } : Room) (pE X [.int x1, .int x2, .int x3, .int x4] ([]) sz) (qI (fun (r : Int32) (u : Unit) => r = reachP x1 x2 x4 x3) X (fun (u : Unit) => []) [] sz) 0 0 (va_A [] sz) := by
  refine mk_met (B := (fun _ => True)) (A := (va_A [] sz)) (cc := cX11_runsAs) (maxL := 7) (ret := (some .int)) (by decide) rfl (Nat.le_of_ble_eq_true rfl) k_ro k_a (fun p e s m below meth c S zr zlk znm zsz G ls hl => ?_)
  have S : CallFix p m c cX11_runsAs 7 s _ wsX11_runsAs RX11 := S
  have zx := S.1
  have zb := S.2.1
  have hl : lv_has ls 7 [(0, .int x1), (1, .int x2), (2, .int x3), (3, .int x4)] := hl
  refine lv_iload_n zx zb dX11_runsAs_0 rfl (lv_at hl 2 rfl) ?_
  refine lv_iload_n zx zb dX11_runsAs_1 rfl (lv_at hl 1 rfl) ?_
  refine k_cutW (PP := fun Wx => ∀ (x_2 : Int32) (H : Heap) (locs : List Loc) (ls : Array Slot), (x_2 = (if x2 ≤ x3 then x2 else x3)) → wd X (fun _ => True) (va_A [] sz) s ([]) H locs → lv_has ls 7 [(0, .int x1), (1, .int x2), (2, .int x3), (3, .int x4)] → Wx (F0 m 10 ls [.int x_2]) H locs) ?_ ?_
  · intro join_2
    refine lv_icmp_ge (tgt := 9) zx zb dX11_runsAs_2 (by decide) (fun c_1 => ?_) (fun c_1 => ?_)
    · refine lv_iload_n zx zb dX11_runsAs_9 rfl (lv_at hl 1 rfl) ?_
      exact join_2 x2 _ _ _ (if_pos c_1).symm G hl
    · refine lv_iload_n zx zb dX11_runsAs_5 rfl (lv_at hl 2 rfl) ?_
      refine lv_goto (tgt := 10) zx zb dX11_runsAs_6 (by decide) ?_
      exact join_2 x3 _ _ _ (if_neg c_1).symm G hl
  · intro x_2 H locs ls hk_x_2 G hl
    subst hk_x_2
    refine lv_istore (lv' := [(4, .int (if x2 ≤ x3 then x2 else x3)), (0, .int x1), (1, .int x2), (2, .int x3), (3, .int x4)]) zx zb dX11_runsAs_10 hl (by decide) rfl (fun ls hl => ?_)
    refine lv_iload_n zx zb dX11_runsAs_12 rfl (lv_at hl 3 rfl) ?_
    refine lv_iconst (v := 5) zx zb dX11_runsAs_13 (by decide) ?_
    refine k_cutW (PP := fun Wx => ∀ (x_4 : Int32) (H : Heap) (locs : List Loc) (ls : Array Slot), (x_4 = (if x3 < 5 then (if x2 ≤ x3 then x2 else x3) else ((if x2 ≤ x3 then x2 else x3) + 1))) → wd X (fun _ => True) (va_A [] sz) s ([]) H locs → lv_has ls 7 [(4, .int (if x2 ≤ x3 then x2 else x3)), (0, .int x1), (1, .int x2), (2, .int x3), (3, .int x4)] → Wx (F0 m 26 ls [.int x_4]) H locs) ?_ ?_
    · intro join_14
      refine lv_icmp_lt (tgt := 24) zx zb dX11_runsAs_14 (by decide) (fun c_3 => ?_) (fun c_3 => ?_)
      · refine lv_iload zx zb dX11_runsAs_24 (lv_at hl 0 rfl) ?_
        exact join_14 (if x2 ≤ x3 then x2 else x3) _ _ _ (if_pos c_3).symm G hl
      · refine lv_iload zx zb dX11_runsAs_17 (lv_at hl 0 rfl) ?_
        refine lv_iconst (v := 1) zx zb dX11_runsAs_19 (by decide) ?_
        refine r_iadd (v := ((if x2 ≤ x3 then x2 else x3) + 1)) S rfl dX11_runsAs_20 ?_
        refine lv_goto (tgt := 26) zx zb dX11_runsAs_21 (by decide) ?_
        exact join_14 ((if x2 ≤ x3 then x2 else x3) + 1) _ _ _ (if_neg c_3).symm G hl
    · intro x_4 H locs ls hk_x_4 G hl
      subst hk_x_4
      refine lv_istore (lv' := [(5, .int (if x3 < 5 then (if x2 ≤ x3 then x2 else x3) else ((if x2 ≤ x3 then x2 else x3) + 1))), (4, .int (if x2 ≤ x3 then x2 else x3)), (0, .int x1), (1, .int x2), (2, .int x3), (3, .int x4)]) zx zb dX11_runsAs_26 hl (by decide) rfl (fun ls hl => ?_)
      refine lv_iload zx zb dX11_runsAs_28 (lv_at hl 1 rfl) ?_
      refine lv_iload_n zx zb dX11_runsAs_30 rfl (lv_at hl 5 rfl) ?_
      refine lv_bipush (v := 10) zx zb dX11_runsAs_31 (by decide) ?_
      refine lv_idiv zx zb dX11_runsAs_33 (by decide) ?_
      refine k_cutW (PP := fun Wx => ∀ (x_6 : Int32) (H : Heap) (locs : List Loc) (ls : Array Slot), (x_6 = (if (if x2 ≤ x3 then x2 else x3) ≤ (x4 / 10) then 0 else ((if x2 ≤ x3 then x2 else x3) - (x4 / 10)))) → wd X (fun _ => True) (va_A [] sz) s ([]) H locs → lv_has ls 7 [(5, .int (if x3 < 5 then (if x2 ≤ x3 then x2 else x3) else ((if x2 ≤ x3 then x2 else x3) + 1))), (4, .int (if x2 ≤ x3 then x2 else x3)), (0, .int x1), (1, .int x2), (2, .int x3), (3, .int x4)] → Wx (F0 m 48 ls [.int x_6]) H locs) ?_ ?_
      · intro join_34
        refine lv_icmp_le (tgt := 47) zx zb dX11_runsAs_34 (by decide) (fun c_5 => ?_) (fun c_5 => ?_)
        · refine lv_iconst (v := 0) zx zb dX11_runsAs_47 (by decide) ?_
          exact join_34 0 _ _ _ (if_pos c_5).symm G hl
        · refine lv_iload zx zb dX11_runsAs_37 (lv_at hl 1 rfl) ?_
          refine lv_iload_n zx zb dX11_runsAs_39 rfl (lv_at hl 5 rfl) ?_
          refine lv_bipush (v := 10) zx zb dX11_runsAs_40 (by decide) ?_
          refine lv_idiv zx zb dX11_runsAs_42 (by decide) ?_
          refine r_isub (v := ((if x2 ≤ x3 then x2 else x3) - (x4 / 10))) S rfl dX11_runsAs_43 ?_
          refine lv_goto (tgt := 48) zx zb dX11_runsAs_44 (by decide) ?_
          exact join_34 ((if x2 ≤ x3 then x2 else x3) - (x4 / 10)) _ _ _ (if_neg c_5).symm G hl
      · intro x_6 H locs ls hk_x_6 G hl
        subst hk_x_6
        refine lv_istore (lv' := [(6, .int (if (if x2 ≤ x3 then x2 else x3) ≤ (x4 / 10) then 0 else ((if x2 ≤ x3 then x2 else x3) - (x4 / 10)))), (5, .int (if x3 < 5 then (if x2 ≤ x3 then x2 else x3) else ((if x2 ≤ x3 then x2 else x3) + 1))), (4, .int (if x2 ≤ x3 then x2 else x3)), (0, .int x1), (1, .int x2), (2, .int x3), (3, .int x4)]) zx zb dX11_runsAs_48 hl (by decide) rfl (fun ls hl => ?_)
        refine lv_iload_n zx zb dX11_runsAs_50 rfl (lv_at hl 3 rfl) ?_
        rcases k_ts1_5 x1 with w_7 | w_7 | w_7 | w_7 | w_7 | w_7
        · refine k_it w_7 ?_
          refine lv_tableIn (off := 33) (tgt := 84) zx zb dX11_runsAs_51 (by decide) (by decide) rfl (by decide) ?_
          refine lv_iload zx zb dX11_runsAs_84 (lv_at hl 1 rfl) ?_
          exact e_int S zr zlk (vp_nar_int _) G () [] rfl rfl (Or.inl rfl) (by subst w_7; rfl) dX11_runsAs_86
        · refine k_it w_7 ?_
          refine lv_tableIn (off := 36) (tgt := 87) zx zb dX11_runsAs_51 (by decide) (by decide) rfl (by decide) ?_
          refine lv_iload zx zb dX11_runsAs_87 (lv_at hl 0 rfl) ?_
          exact e_int S zr zlk (vp_nar_int _) G () [] rfl rfl (Or.inl rfl) (by subst w_7; rfl) dX11_runsAs_89
        · refine k_it w_7 ?_
          refine lv_tableIn (off := 39) (tgt := 90) zx zb dX11_runsAs_51 (by decide) (by decide) rfl (by decide) ?_
          refine lv_iload_n zx zb dX11_runsAs_90 rfl (lv_at hl 6 rfl) ?_
          refine lv_iconst (v := 5) zx zb dX11_runsAs_91 (by decide) ?_
          refine lv_irem zx zb dX11_runsAs_92 (by decide) ?_
          refine lv_iconst (v := 4) zx zb dX11_runsAs_93 (by decide) ?_
          refine k_cutW (PP := fun Wx => ∀ (x_9 : Int32) (H : Heap) (locs : List Loc) (ls : Array Slot), (x_9 = (if (x4 - x4 / 5 * 5) = 4 then ((if x3 < 5 then (if x2 ≤ x3 then x2 else x3) else ((if x2 ≤ x3 then x2 else x3) + 1)) + 3) else (if x3 < 5 then (if x2 ≤ x3 then x2 else x3) else ((if x2 ≤ x3 then x2 else x3) + 1)))) → wd X (fun _ => True) (va_A [] sz) s ([]) H locs → lv_has ls 7 [(6, .int (if (if x2 ≤ x3 then x2 else x3) ≤ (x4 / 10) then 0 else ((if x2 ≤ x3 then x2 else x3) - (x4 / 10)))), (5, .int (if x3 < 5 then (if x2 ≤ x3 then x2 else x3) else ((if x2 ≤ x3 then x2 else x3) + 1))), (4, .int (if x2 ≤ x3 then x2 else x3)), (0, .int x1), (1, .int x2), (2, .int x3), (3, .int x4)] → Wx (F0 m 106 ls [.int x_9]) H locs) ?_ ?_
          · intro join_94
            refine lv_icmp_ne (tgt := 104) zx zb dX11_runsAs_94 (by decide) (fun c_8 => ?_) (fun c_8 => ?_)
            · refine lv_iload zx zb dX11_runsAs_104 (lv_at hl 1 rfl) ?_
              exact join_94 (if x3 < 5 then (if x2 ≤ x3 then x2 else x3) else ((if x2 ≤ x3 then x2 else x3) + 1)) _ _ _ (if_neg c_8).symm G hl
            · refine lv_iload zx zb dX11_runsAs_97 (lv_at hl 1 rfl) ?_
              refine lv_iconst (v := 3) zx zb dX11_runsAs_99 (by decide) ?_
              refine r_iadd (v := ((if x3 < 5 then (if x2 ≤ x3 then x2 else x3) else ((if x2 ≤ x3 then x2 else x3) + 1)) + 3)) S rfl dX11_runsAs_100 ?_
              refine lv_goto (tgt := 106) zx zb dX11_runsAs_101 (by decide) ?_
              exact join_94 ((if x3 < 5 then (if x2 ≤ x3 then x2 else x3) else ((if x2 ≤ x3 then x2 else x3) + 1)) + 3) _ _ _ (if_pos c_8).symm G hl
          · intro x_9 H locs ls hk_x_9 G hl
            subst hk_x_9
            exact e_int S zr zlk (vp_nar_int _) G () [] rfl rfl (Or.inl rfl) (by subst w_7; rfl) dX11_runsAs_106
        · refine k_it w_7 ?_
          refine lv_tableIn (off := 56) (tgt := 107) zx zb dX11_runsAs_51 (by decide) (by decide) rfl (by decide) ?_
          refine lv_iload zx zb dX11_runsAs_107 (lv_at hl 2 rfl) ?_
          refine lv_iconst (v := 1) zx zb dX11_runsAs_109 (by decide) ?_
          refine r_iadd (v := ((if x2 ≤ x3 then x2 else x3) + 1)) S rfl dX11_runsAs_110 ?_
          refine lv_iconst (v := 2) zx zb dX11_runsAs_111 (by decide) ?_
          refine lv_idiv zx zb dX11_runsAs_112 (by decide) ?_
          exact e_int S zr zlk (vp_nar_int _) G () [] rfl rfl (Or.inl rfl) (by subst w_7; rfl) dX11_runsAs_113
        · refine k_it w_7 ?_
          refine lv_tableIn (off := 63) (tgt := 114) zx zb dX11_runsAs_51 (by decide) (by decide) rfl (by decide) ?_
          refine lv_iload_n zx zb dX11_runsAs_114 rfl (lv_at hl 6 rfl) ?_
          refine lv_iconst (v := 2) zx zb dX11_runsAs_115 (by decide) ?_
          refine lv_irem zx zb dX11_runsAs_116 (by decide) ?_
          refine lv_iconst (v := 1) zx zb dX11_runsAs_117 (by decide) ?_
          refine k_cutW (PP := fun Wx => ∀ (x_11 : Int32) (H : Heap) (locs : List Loc) (ls : Array Slot), (x_11 = (if (x4 - x4 / 2 * 2) = 1 then ((if (if x2 ≤ x3 then x2 else x3) ≤ (x4 / 10) then 0 else ((if x2 ≤ x3 then x2 else x3) - (x4 / 10))) + 2) else (if (if x2 ≤ x3 then x2 else x3) ≤ (x4 / 10) then 0 else ((if x2 ≤ x3 then x2 else x3) - (x4 / 10))))) → wd X (fun _ => True) (va_A [] sz) s ([]) H locs → lv_has ls 7 [(6, .int (if (if x2 ≤ x3 then x2 else x3) ≤ (x4 / 10) then 0 else ((if x2 ≤ x3 then x2 else x3) - (x4 / 10)))), (5, .int (if x3 < 5 then (if x2 ≤ x3 then x2 else x3) else ((if x2 ≤ x3 then x2 else x3) + 1))), (4, .int (if x2 ≤ x3 then x2 else x3)), (0, .int x1), (1, .int x2), (2, .int x3), (3, .int x4)] → Wx (F0 m 130 ls [.int x_11]) H locs) ?_ ?_
          · intro join_118
            refine lv_icmp_ne (tgt := 128) zx zb dX11_runsAs_118 (by decide) (fun c_10 => ?_) (fun c_10 => ?_)
            · refine lv_iload zx zb dX11_runsAs_128 (lv_at hl 0 rfl) ?_
              exact join_118 (if (if x2 ≤ x3 then x2 else x3) ≤ (x4 / 10) then 0 else ((if x2 ≤ x3 then x2 else x3) - (x4 / 10))) _ _ _ (if_neg c_10).symm G hl
            · refine lv_iload zx zb dX11_runsAs_121 (lv_at hl 0 rfl) ?_
              refine lv_iconst (v := 2) zx zb dX11_runsAs_123 (by decide) ?_
              refine r_iadd (v := ((if (if x2 ≤ x3 then x2 else x3) ≤ (x4 / 10) then 0 else ((if x2 ≤ x3 then x2 else x3) - (x4 / 10))) + 2)) S rfl dX11_runsAs_124 ?_
              refine lv_goto (tgt := 130) zx zb dX11_runsAs_125 (by decide) ?_
              exact join_118 ((if (if x2 ≤ x3 then x2 else x3) ≤ (x4 / 10) then 0 else ((if x2 ≤ x3 then x2 else x3) - (x4 / 10))) + 2) _ _ _ (if_pos c_10).symm G hl
          · intro x_11 H locs ls hk_x_11 G hl
            subst hk_x_11
            exact e_int S zr zlk (vp_nar_int _) G () [] rfl rfl (Or.inl rfl) (by subst w_7; rfl) dX11_runsAs_130
        · refine lv_tableOut (tgt := 131) zx zb dX11_runsAs_51 w_7 (by decide) ?_
          refine lv_iload zx zb dX11_runsAs_131 (lv_at hl 2 rfl) ?_
          exact e_int S zr zlk (vp_nar_int _) G () [] rfl rfl (Or.inl rfl) ((reachP_d w_7).symm) dX11_runsAs_133
set_option maxHeartbeats 4000000 in
set_option maxRecDepth 100000 in
theorem y_mayAs (l : Launch) (X : EX) (x1 : Int32) (x2 : Int32) (sz : Nat) : Met l yX11_mayAs wsX11_mayAs ({ frames := 0, cells := 0, slots := 0, locals := 0 } : Room) (pE X [.int x1, .int x2] ([]) sz) (qI (fun (r : Int32) (u : Unit) => r = limitP x1 x2) X (fun (u : Unit) => []) [] sz) 0 0 (va_A [] sz) := by
  refine mk_met (B := (fun _ => True)) (A := (va_A [] sz)) (cc := cX11_mayAs) (maxL := 3) (ret := (some .int)) (by decide) rfl (Nat.le_of_ble_eq_true rfl) k_ro k_a (fun p e s m below meth c S zr zlk znm zsz G ls hl => ?_)
  have S : CallFix p m c cX11_mayAs 3 s _ wsX11_mayAs RX11 := S
  have zx := S.1
  have zb := S.2.1
  have hl : lv_has ls 3 [(0, .int x1), (1, .int x2)] := hl
  refine lv_iload_n zx zb dX11_mayAs_0 rfl (lv_at hl 1 rfl) ?_
  refine lv_iconst (v := 2) zx zb dX11_mayAs_1 (by decide) ?_
  refine lv_irem zx zb dX11_mayAs_2 (by decide) ?_
  refine lv_iconst (v := 1) zx zb dX11_mayAs_3 (by decide) ?_
  refine k_cutW (PP := fun Wx => ∀ (x_2 : Int32) (H : Heap) (locs : List Loc) (ls : Array Slot), (x_2 = (if (x2 - x2 / 2 * 2) = 1 then 3 else 4)) → wd X (fun _ => True) (va_A [] sz) s ([]) H locs → lv_has ls 3 [(0, .int x1), (1, .int x2)] → Wx (F0 m 12 ls [.int x_2]) H locs) ?_ ?_
  · intro join_4
    refine lv_icmp_ne (tgt := 11) zx zb dX11_mayAs_4 (by decide) (fun c_1 => ?_) (fun c_1 => ?_)
    · refine lv_iconst (v := 4) zx zb dX11_mayAs_11 (by decide) ?_
      exact join_4 4 _ _ _ (if_neg c_1).symm G hl
    · refine lv_iconst (v := 3) zx zb dX11_mayAs_7 (by decide) ?_
      refine lv_goto (tgt := 12) zx zb dX11_mayAs_8 (by decide) ?_
      exact join_4 3 _ _ _ (if_pos c_1).symm G hl
  · intro x_2 H locs ls hk_x_2 G hl
    subst hk_x_2
    refine lv_istore_n (lv' := [(2, .int (if (x2 - x2 / 2 * 2) = 1 then 3 else 4)), (0, .int x1), (1, .int x2)]) zx zb dX11_mayAs_12 rfl hl (by decide) rfl (fun ls hl => ?_)
    refine lv_iload_n zx zb dX11_mayAs_13 rfl (lv_at hl 1 rfl) ?_
    rcases k_ts1_5 x1 with w_3 | w_3 | w_3 | w_3 | w_3 | w_3
    · refine k_it w_3 ?_
      refine lv_tableIn (off := 34) (tgt := 48) zx zb dX11_mayAs_14 (by decide) (by decide) rfl (by decide) ?_
      refine lv_iconst (v := 5) zx zb dX11_mayAs_48 (by decide) ?_
      exact e_int S zr zlk (vp_nar_int _) G () [] rfl rfl (Or.inl rfl) (by subst w_3; rfl) dX11_mayAs_49
    · refine k_it w_3 ?_
      refine lv_tableIn (off := 36) (tgt := 50) zx zb dX11_mayAs_14 (by decide) (by decide) rfl (by decide) ?_
      refine lv_iload_n zx zb dX11_mayAs_50 rfl (lv_at hl 0 rfl) ?_
      exact e_int S zr zlk (vp_nar_int _) G () [] rfl rfl (Or.inl rfl) (by subst w_3; rfl) dX11_mayAs_51
    · refine k_it w_3 ?_
      refine lv_tableIn (off := 38) (tgt := 52) zx zb dX11_mayAs_14 (by decide) (by decide) rfl (by decide) ?_
      refine lv_iload_n zx zb dX11_mayAs_52 rfl (lv_at hl 2 rfl) ?_
      refine lv_iconst (v := 3) zx zb dX11_mayAs_53 (by decide) ?_
      refine k_cutW (PP := fun Wx => ∀ (x_5 : Int32) (H : Heap) (locs : List Loc) (ls : Array Slot), (x_5 = (if 3 ≤ x2 then 5 else 8)) → wd X (fun _ => True) (va_A [] sz) s ([]) H locs → lv_has ls 3 [(2, .int (if (x2 - x2 / 2 * 2) = 1 then 3 else 4)), (0, .int x1), (1, .int x2)] → Wx (F0 m 63 ls [.int x_5]) H locs) ?_ ?_
      · intro join_54
        refine lv_icmp_ge (tgt := 62) zx zb dX11_mayAs_54 (by decide) (fun c_4 => ?_) (fun c_4 => ?_)
        · refine lv_iconst (v := 5) zx zb dX11_mayAs_62 (by decide) ?_
          exact join_54 5 _ _ _ (if_pos c_4).symm G hl
        · refine lv_bipush (v := 8) zx zb dX11_mayAs_57 (by decide) ?_
          refine lv_goto (tgt := 63) zx zb dX11_mayAs_59 (by decide) ?_
          exact join_54 8 _ _ _ (if_neg c_4).symm G hl
      · intro x_5 H locs ls hk_x_5 G hl
        subst hk_x_5
        exact e_int S zr zlk (vp_nar_int _) G () [] rfl rfl (Or.inl rfl) (by subst w_3; rfl) dX11_mayAs_63
    · refine k_it w_3 ?_
      refine lv_tableIn (off := 50) (tgt := 64) zx zb dX11_mayAs_14 (by decide) (by decide) rfl (by decide) ?_
      refine lv_iload_n zx zb dX11_mayAs_64 rfl (lv_at hl 0 rfl) ?_
      refine lv_iconst (v := 1) zx zb dX11_mayAs_65 (by decide) ?_
      refine r_isub (v := ((if (x2 - x2 / 2 * 2) = 1 then 3 else 4) - 1)) S rfl dX11_mayAs_66 ?_
      exact e_int S zr zlk (vp_nar_int _) G () [] rfl rfl (Or.inl rfl) (by subst w_3; rfl) dX11_mayAs_67
    · refine k_it w_3 ?_
      refine lv_tableIn (off := 54) (tgt := 68) zx zb dX11_mayAs_14 (by decide) (by decide) rfl (by decide) ?_
      refine lv_iload_n zx zb dX11_mayAs_68 rfl (lv_at hl 2 rfl) ?_
      refine lv_iconst (v := 4) zx zb dX11_mayAs_69 (by decide) ?_
      refine lv_irem zx zb dX11_mayAs_70 (by decide) ?_
      refine k_cutW (PP := fun Wx => ∀ (x_7 : Int32) (H : Heap) (locs : List Loc) (ls : Array Slot), (x_7 = (if (x2 - x2 / 4 * 4) = 0 then 7 else 5)) → wd X (fun _ => True) (va_A [] sz) s ([]) H locs → lv_has ls 3 [(2, .int (if (x2 - x2 / 2 * 2) = 1 then 3 else 4)), (0, .int x1), (1, .int x2)] → Wx (F0 m 80 ls [.int x_7]) H locs) ?_ ?_
      · intro join_71
        refine lv_if_ne (tgt := 79) zx zb dX11_mayAs_71 (by decide) (fun c_6 => ?_) (fun c_6 => ?_)
        · refine lv_iconst (v := 5) zx zb dX11_mayAs_79 (by decide) ?_
          exact join_71 5 _ _ _ (if_neg c_6).symm G hl
        · refine lv_bipush (v := 7) zx zb dX11_mayAs_74 (by decide) ?_
          refine lv_goto (tgt := 80) zx zb dX11_mayAs_76 (by decide) ?_
          exact join_71 7 _ _ _ (if_pos c_6).symm G hl
      · intro x_7 H locs ls hk_x_7 G hl
        subst hk_x_7
        exact e_int S zr zlk (vp_nar_int _) G () [] rfl rfl (Or.inl rfl) (by subst w_3; rfl) dX11_mayAs_80
    · refine lv_tableOut (tgt := 81) zx zb dX11_mayAs_14 w_3 (by decide) ?_
      refine lv_iconst (v := 4) zx zb dX11_mayAs_81 (by decide) ?_
      exact e_int S zr zlk (vp_nar_int _) G () [] rfl rfl (Or.inl rfl) ((limitP_d w_3).symm) dX11_mayAs_82
set_option maxHeartbeats 4000000 in
set_option maxRecDepth 100000 in
theorem y_runsOf (l : Launch) (X : EX) (ha : Nat) (N : Nat) (f : Nat → Int32) (c0 : Nat) (c1 : Nat) (c2 : Nat) (c3 : Nat) (c4 : Nat) (i : Nat) (x2 : Int32) (hI_f : InA f c0 c1 c2 c3 c4) (hN : 55 ≤ N) (hM : N ≤ 1000) (h6 : i < 6) (sz : Nat) : Met l yX11_runsOf wsX11_runsOf ({ frames := 1, cells := 0, slots := 0, locals := 26 } : Room) (pE X [.ref ha, .int (nI i), .int x2] ([(ha, .inl (X.2.1, N, .inl f))]) sz) (qI (fun (r : Int32) (u : Unit) => r = reachP (f (37 + i)) (f (43 + i)) x2 (f (11 + i))) X (fun (u : Unit) => []) [] sz) 0 0 (va_A [] sz) := by
  refine mk_met (B := (fun _ => True)) (A := (va_A [] sz)) (cc := cX11_runsOf) (maxL := 3) (ret := (some .int)) (by decide) rfl (Nat.le_of_ble_eq_true rfl) k_ro k_a (fun p e s m below meth c S zr zlk znm zsz G ls hl => ?_)
  have S : CallFix p m c cX11_runsOf 3 s _ wsX11_runsOf RX11 := S
  have zx := S.1
  have zb := S.2.1
  have hl : lv_has ls 3 [(0, .ref ha), (1, .int (nI i)), (2, .int x2)] := hl
  have hO_f := hI_f.2
  obtain ⟨hm0_f, hm1_f, hm2_f, hm3_f, hm4_f⟩ := hO_f
  refine lv_aload_n zx zb dX11_runsOf_0 rfl (lv_at hl 0 rfl) ?_
  refine lv_bipush (v := 37) zx zb dX11_runsOf_1 (by decide) ?_
  refine lv_iload_n zx zb dX11_runsOf_3 rfl (lv_at hl 1 rfl) ?_
  refine r_iadd (v := (nI (37 + i))) S (nI_add 37 i) dX11_runsOf_4 ?_
  refine r_iald (v := (f (37 + i))) S G 0 rfl (vp_in_nI (by omega) (by omega)) (congrArg f (nI_clamp (by omega))) dX11_runsOf_5 ?_
  refine lv_aload_n zx zb dX11_runsOf_6 rfl (lv_at hl 0 rfl) ?_
  refine lv_bipush (v := 43) zx zb dX11_runsOf_7 (by decide) ?_
  refine lv_iload_n zx zb dX11_runsOf_9 rfl (lv_at hl 1 rfl) ?_
  refine r_iadd (v := (nI (43 + i))) S (nI_add 43 i) dX11_runsOf_10 ?_
  refine r_iald (v := (f (43 + i))) S G 0 rfl (vp_in_nI (by omega) (by omega)) (congrArg f (nI_clamp (by omega))) dX11_runsOf_11 ?_
  refine lv_aload_n zx zb dX11_runsOf_12 rfl (lv_at hl 0 rfl) ?_
  refine lv_bipush (v := 11) zx zb dX11_runsOf_13 (by decide) ?_
  refine lv_iload_n zx zb dX11_runsOf_15 rfl (lv_at hl 1 rfl) ?_
  refine r_iadd (v := (nI (11 + i))) S (nI_add 11 i) dX11_runsOf_16 ?_
  refine r_iald (v := (f (11 + i))) S G 0 rfl (vp_in_nI (by omega) (by omega)) (congrArg f (nI_clamp (by omega))) dX11_runsOf_17 ?_
  refine lv_iload_n zx zb dX11_runsOf_18 rfl (lv_at hl 2 rfl) ?_
  refine o_ri (cells' := 0) (slots' := 0) G rfl rfl (n_S (As := [.int (f (37 + i)), .int (f (43 + i)), .int (f (11 + i)), .int x2]) (rest := []) S G (y_runsAs l X (f (37 + i)) (f (43 + i)) (f (11 + i)) x2 s.heap.size) gX11_runsOf_X11_runsAs rfl rfl rfl hdS_X11_runsAs ⟨Nat.le_of_ble_eq_true rfl, Nat.le_of_ble_eq_true rfl⟩ [] rfl rfl rfl hl.1 (Nat.le_of_ble_eq_true rfl) dX11_runsOf_19 ⟨Nat.le_of_ble_eq_true rfl, Nat.le_of_ble_eq_true rfl⟩) (fun r_4 u_4 H locs hp_4 G => ?_)
  have G : wd X (fun _ => True) (va_A [] sz) s ([(ha, .inl (X.2.1, N, .inl f))]) H locs := G
  obtain rfl := hp_4
  exact e_int S zr zlk (vp_nar_int _) G () [] rfl rfl (Or.inl rfl) (rfl) dX11_runsOf_22
set_option maxHeartbeats 4000000 in
set_option maxRecDepth 100000 in
theorem y_isHome (l : Launch) (X : EX) (ha : Nat) (N : Nat) (f : Nat → Int32) (c0 : Nat) (c1 : Nat) (c2 : Nat) (c3 : Nat) (c4 : Nat) (i : Nat) (hI_f : InA f c0 c1 c2 c3 c4) (hN : 55 ≤ N) (hM : N ≤ 1000) (h6 : i < 6) (sz : Nat) : Met l yX11_isHome wsX11_isHome ({ frames := 0, cells := 0, slots := 0, locals := 0 } : Room) (pE X [.ref ha, .int (nI i)] ([(ha, .inl (X.2.1, N, .inl f))]) sz) (qI (fun (r : Int32) (u : Unit) => (r = 1 ∧ 0 < f (29 + i)) ∨ (r = 0 ∧ ¬ 0 < f (29 + i))) X (fun (u : Unit) => []) [] sz) 0 0 (va_A [] sz) := by
  refine mk_met (B := (fun _ => True)) (A := (va_A [] sz)) (cc := cX11_isHome) (maxL := 2) (ret := (some .boolean)) (by decide) rfl (Nat.le_of_ble_eq_true rfl) k_ro k_a (fun p e s m below meth c S zr zlk znm zsz G ls hl => ?_)
  have S : CallFix p m c cX11_isHome 2 s _ wsX11_isHome RX11 := S
  have zx := S.1
  have zb := S.2.1
  have hl : lv_has ls 2 [(0, .ref ha), (1, .int (nI i))] := hl
  have hO_f := hI_f.2
  obtain ⟨hm0_f, hm1_f, hm2_f, hm3_f, hm4_f⟩ := hO_f
  refine lv_aload_n zx zb dX11_isHome_0 rfl (lv_at hl 0 rfl) ?_
  refine lv_bipush (v := 29) zx zb dX11_isHome_1 (by decide) ?_
  refine lv_iload_n zx zb dX11_isHome_3 rfl (lv_at hl 1 rfl) ?_
  refine r_iadd (v := (nI (29 + i))) S (nI_add 29 i) dX11_isHome_4 ?_
  refine r_iald (v := (f (29 + i))) S G 0 rfl (vp_in_nI (by omega) (by omega)) (congrArg f (nI_clamp (by omega))) dX11_isHome_5 ?_
  refine lv_if_le (tgt := 13) zx zb dX11_isHome_6 (by decide) (fun c_2 => ?_) (fun c_2 => ?_)
  · refine lv_iconst (v := 0) zx zb dX11_isHome_13 (by decide) ?_
    exact e_int S zr zlk (by decide) G () [] rfl rfl (Or.inl rfl) (Or.inr ⟨rfl, Int32.not_lt.mpr c_2⟩) dX11_isHome_14
  · refine lv_iconst (v := 1) zx zb dX11_isHome_9 (by decide) ?_
    refine lv_goto (tgt := 14) zx zb dX11_isHome_10 (by decide) ?_
    exact e_int S zr zlk (by decide) G () [] rfl rfl (Or.inl rfl) (Or.inl ⟨rfl, Int32.not_le.mp c_2⟩) dX11_isHome_14
set_option maxHeartbeats 4000000 in
set_option maxRecDepth 100000 in
theorem y_drop (l : Launch) (X : EX) (ha : Nat) (N : Nat) (f : Nat → Int32) (c0 : Nat) (c1 : Nat) (c2 : Nat) (c3 : Nat) (c4 : Nat) (i : Nat) (hI_f : InA f c0 c1 c2 c3 c4) (hN : 55 ≤ N) (hM : N ≤ 1000) (h6 : i < 6) (sz : Nat) : Met l yX11_drop wsX11_drop ({ frames := 0, cells := 0, slots := 0, locals := 0 } : Room) (pE X [.ref ha, .int (nI i)] ([(ha, .inl (X.2.1, N, .inl f))]) sz) (qV (fun (u : (Nat → Int32)) => InA u c0 c1 c2 c3 c4 ∧ (u = drpM f i)) X (fun (u : (Nat → Int32)) => [(ha, .inl (X.2.1, N, .inl u))]) ([(ha, .inl (X.2.1, N, .inl f))]) sz) 0 0 (va_A ([(ha, .inl (X.2.1, N, .inl f))]) sz) := by
  refine mk_met (B := (va_A ([(ha, .inl (X.2.1, N, .inl f))]) sz)) (A := (va_A ([(ha, .inl (X.2.1, N, .inl f))]) sz)) (cc := cX11_drop) (maxL := 2) (ret := none) (by decide) rfl (Nat.le_of_ble_eq_true rfl) k_w k_a (fun p e s m below meth c S zr zlk znm zsz G ls hl => ?_)
  have S : CallFix p m c cX11_drop 2 s _ wsX11_drop RX11 := S
  have zx := S.1
  have zb := S.2.1
  have hl : lv_has ls 2 [(0, .ref ha), (1, .int (nI i))] := hl
  have hO_f := hI_f.2
  obtain ⟨hm0_f, hm1_f, hm2_f, hm3_f, hm4_f⟩ := hO_f
  refine lv_aload_n zx zb dX11_drop_0 rfl (lv_at hl 0 rfl) ?_
  refine lv_bipush (v := 17) zx zb dX11_drop_1 (by decide) ?_
  refine lv_iload_n zx zb dX11_drop_3 rfl (lv_at hl 1 rfl) ?_
  refine r_iadd (v := (nI (17 + i))) S (nI_add 17 i) dX11_drop_4 ?_
  refine lv_dup2_11 zx zb dX11_drop_5 rfl rfl ?_
  refine r_iald (v := (f (17 + i))) S G 0 rfl (vp_in_nI (by omega) (by omega)) (congrArg f (nI_clamp (by omega))) dX11_drop_6 ?_
  refine lv_aload_n zx zb dX11_drop_7 rfl (lv_at hl 0 rfl) ?_
  refine lv_bipush (v := 17) zx zb dX11_drop_8 (by decide) ?_
  refine lv_iload_n zx zb dX11_drop_10 rfl (lv_at hl 1 rfl) ?_
  refine r_iadd (v := (nI (17 + i))) S (nI_add 17 i) dX11_drop_11 ?_
  refine r_iald (v := (f (17 + i))) S G 0 rfl (vp_in_nI (by omega) (by omega)) (congrArg f (nI_clamp (by omega))) dX11_drop_12 ?_
  refine lv_bipush (v := 99) zx zb dX11_drop_13 (by decide) ?_
  refine k_cutW (PP := fun Wx => ∀ (x_4 : Int32) (H : Heap) (locs : List Loc) (ls : Array Slot), (x_4 = (if 99 ≤ (f (17 + i)) then 0 else 1)) → wd X (va_A ([(ha, .inl (X.2.1, N, .inl f))]) sz) (va_A ([(ha, .inl (X.2.1, N, .inl f))]) sz) s ([(ha, .inl (X.2.1, N, .inl f))]) H locs → lv_has ls 2 [(0, .ref ha), (1, .int (nI i))] → Wx (F0 m 23 ls [.int x_4, .int (f (17 + i)), .int (nI (17 + i)), .ref ha]) H locs) ?_ ?_
  · intro join_15
    refine lv_icmp_ge (tgt := 22) zx zb dX11_drop_15 (by decide) (fun c_3 => ?_) (fun c_3 => ?_)
    · refine lv_iconst (v := 0) zx zb dX11_drop_22 (by decide) ?_
      exact join_15 0 _ _ _ (if_pos c_3).symm G hl
    · refine lv_iconst (v := 1) zx zb dX11_drop_18 (by decide) ?_
      refine lv_goto (tgt := 23) zx zb dX11_drop_19 (by decide) ?_
      exact join_15 1 _ _ _ (if_neg c_3).symm G hl
  · intro x_4 H locs ls hk_x_4 G hl
    subst hk_x_4
    refine r_iadd (v := ((f (17 + i)) + (if 99 ≤ (f (17 + i)) then 0 else 1))) S rfl dX11_drop_23 ?_
    refine r_iast S G 0 rfl (vp_in_nI (by omega) (by omega)) dX11_drop_24 (fun H locs G => ?_)
    obtain ⟨f_5, hI_f_5, hE_f_5, G⟩ : ∃ f_5 : Nat → Int32, InA f_5 c0 c1 c2 c3 c4 ∧ f_5 = upd f (nI (17 + i)).toNatClampNeg ((f (17 + i)) + (if 99 ≤ (f (17 + i)) then 0 else 1)) ∧ wd X (va_A ([(ha, .inl (X.2.1, N, .inl f))]) sz) (va_A ([(ha, .inl (X.2.1, N, .inl f))]) sz) s ([(ha, .inl (X.2.1, N, .inl f_5))]) H locs := ⟨_, InA_o hI_f (by rw [nI_clamp (by omega)]; omega), rfl, G⟩
    refine lv_aload_n zx zb dX11_drop_25 rfl (lv_at hl 0 rfl) ?_
    refine lv_bipush (v := 23) zx zb dX11_drop_26 (by decide) ?_
    refine lv_iload_n zx zb dX11_drop_28 rfl (lv_at hl 1 rfl) ?_
    refine r_iadd (v := (nI (23 + i))) S (nI_add 23 i) dX11_drop_29 ?_
    refine lv_iconst (v := 2) zx zb dX11_drop_30 (by decide) ?_
    refine r_iast S G 0 rfl (vp_in_nI (by omega) (by omega)) dX11_drop_31 (fun H locs G => ?_)
    obtain ⟨f_6, hI_f_6, hE_f_6, G⟩ : ∃ f_6 : Nat → Int32, InA f_6 c0 c1 c2 c3 c4 ∧ f_6 = upd f_5 (nI (23 + i)).toNatClampNeg 2 ∧ wd X (va_A ([(ha, .inl (X.2.1, N, .inl f))]) sz) (va_A ([(ha, .inl (X.2.1, N, .inl f))]) sz) s ([(ha, .inl (X.2.1, N, .inl f_6))]) H locs := ⟨_, InA_o hI_f_5 (by rw [nI_clamp (by omega)]; omega), rfl, G⟩
    exact e_void S zr zlk G (f_6) [0] rfl rfl (Or.inr rfl) (⟨hI_f_6, by rw [hE_f_6, hE_f_5, nI_clamp (by first | omega | (dsimp only; omega)), nI_clamp (by first | omega | (dsimp only; omega))]; rfl⟩) dX11_drop_32
set_option maxHeartbeats 4000000 in
set_option maxRecDepth 100000 in
theorem y_goOne (l : Launch) (X : EX) (ha : Nat) (N : Nat) (f : Nat → Int32) (c0 : Nat) (c1 : Nat) (c2 : Nat) (c3 : Nat) (c4 : Nat) (i : Nat) (hI_f : InA f c0 c1 c2 c3 c4) (hN : 55 ≤ N) (hM : N ≤ 1000) (h6 : i < 6) (sz : Nat) : Met l yX11_goOne wsX11_goOne ({ frames := 2, cells := 0, slots := 0, locals := 48 } : Room) (pE X [.ref ha, .int (nI i), .int 0] ([(ha, .inl (X.2.1, N, .inl f))]) sz) (qV (fun (u : (Nat → Int32)) => InA u c0 c1 c2 c3 c4 ∧ (u = goM f i)) X (fun (u : (Nat → Int32)) => [(ha, .inl (X.2.1, N, .inl u))]) ([(ha, .inl (X.2.1, N, .inl f))]) sz) 0 0 (va_A ([(ha, .inl (X.2.1, N, .inl f))]) sz) := by
  refine mk_met (B := (va_A ([(ha, .inl (X.2.1, N, .inl f))]) sz)) (A := (va_A ([(ha, .inl (X.2.1, N, .inl f))]) sz)) (cc := cX11_goOne) (maxL := 5) (ret := none) (by decide) rfl (Nat.le_of_ble_eq_true rfl) k_w k_a (fun p e s m below meth c S zr zlk znm zsz G ls hl => ?_)
  have S : CallFix p m c cX11_goOne 5 s _ wsX11_goOne RX11 := S
  have zx := S.1
  have zb := S.2.1
  have hl : lv_has ls 5 [(0, .ref ha), (1, .int (nI i)), (2, .int 0)] := hl
  have hO_f := hI_f.2
  obtain ⟨hm0_f, hm1_f, hm2_f, hm3_f, hm4_f⟩ := hO_f
  refine lv_aload_n zx zb dX11_goOne_0 rfl (lv_at hl 0 rfl) ?_
  refine lv_bipush (v := 35) zx zb dX11_goOne_1 (by decide) ?_
  refine r_iald (v := (f 35)) S G 0 rfl (k_vpc (c := 35) rfl (by omega) (by omega)) rfl dX11_goOne_3 ?_
  refine lv_istore_n (lv' := [(3, .int (f 35)), (0, .ref ha), (1, .int (nI i)), (2, .int 0)]) zx zb dX11_goOne_4 rfl hl (by decide) rfl (fun ls hl => ?_)
  refine lv_aload_n zx zb dX11_goOne_5 rfl (lv_at hl 1 rfl) ?_
  refine lv_iload_n zx zb dX11_goOne_6 rfl (lv_at hl 2 rfl) ?_
  refine lv_iload_n zx zb dX11_goOne_7 rfl (lv_at hl 0 rfl) ?_
  refine o_ri (cells' := 0) (slots' := 0) G rfl rfl (n_S (As := [.ref ha, .int (nI i), .int (f 35)]) (rest := []) S G (y_runsOf l X ha N f c0 c1 c2 c3 c4 i (f 35) hI_f (by omega) (by omega) (by omega) s.heap.size) gX11_goOne_X11_runsOf rfl rfl rfl hdS_X11_runsOf ⟨Nat.le_of_ble_eq_true rfl, Nat.le_of_ble_eq_true rfl⟩ [0] rfl rfl rfl hl.1 (Nat.le_of_ble_eq_true rfl) dX11_goOne_8 ⟨Nat.le_of_ble_eq_true rfl, Nat.le_of_ble_eq_true rfl⟩) (fun r_2 u_2 H locs hp_2 G => ?_)
  have G : wd X (va_A ([(ha, .inl (X.2.1, N, .inl f))]) sz) (va_A ([(ha, .inl (X.2.1, N, .inl f))]) sz) s ([(ha, .inl (X.2.1, N, .inl f))]) H locs := G
  obtain rfl := hp_2
  refine lv_istore (lv' := [(4, .int (reachP (f (37 + i)) (f (43 + i)) (f 35) (f (11 + i)))), (3, .int (f 35)), (0, .ref ha), (1, .int (nI i)), (2, .int 0)]) zx zb dX11_goOne_11 hl (by decide) rfl (fun ls hl => ?_)
  refine lv_aload_n zx zb dX11_goOne_13 rfl (lv_at hl 2 rfl) ?_
  refine lv_bipush (v := 23) zx zb dX11_goOne_14 (by decide) ?_
  refine lv_iload_n zx zb dX11_goOne_16 rfl (lv_at hl 3 rfl) ?_
  refine r_iadd (v := (nI (23 + i))) S (nI_add 23 i) dX11_goOne_17 ?_
  refine r_iald (v := (f (23 + i))) S G 0 rfl (vp_in_nI (by omega) (by omega)) (congrArg f (nI_clamp (by omega))) dX11_goOne_18 ?_
  refine lv_if_le (tgt := 35) zx zb dX11_goOne_19 (by decide) (fun c_4 => ?_) (fun c_4 => ?_)
  · refine lv_iload_n zx zb dX11_goOne_35 rfl (lv_at hl 4 rfl) ?_
    refine lv_if_ne (tgt := 54) zx zb dX11_goOne_36 (by decide) (fun c_5 => absurd (by decide) c_5) (fun c_5 => ?_)
    refine lv_iload zx zb dX11_goOne_39 (lv_at hl 0 rfl) ?_
    refine lv_aload_n zx zb dX11_goOne_41 rfl (lv_at hl 2 rfl) ?_
    refine lv_bipush (v := 49) zx zb dX11_goOne_42 (by decide) ?_
    refine lv_iload_n zx zb dX11_goOne_44 rfl (lv_at hl 3 rfl) ?_
    refine r_iadd (v := (nI (49 + i))) S (nI_add 49 i) dX11_goOne_45 ?_
    refine r_iald (v := (f (49 + i))) S G 0 rfl (vp_in_nI (by omega) (by omega)) (congrArg f (nI_clamp (by omega))) dX11_goOne_46 ?_
    refine lv_iload_n zx zb dX11_goOne_47 rfl (lv_at hl 1 rfl) ?_
    refine o_ri (cells' := 0) (slots' := 0) G rfl rfl (n_S (As := [.int (f (49 + i)), .int (f 35)]) (rest := [.int (reachP (f (37 + i)) (f (43 + i)) (f 35) (f (11 + i)))]) S G (y_mayAs l X (f (49 + i)) (f 35) H.size) gX11_goOne_X11_mayAs rfl rfl rfl hdS_X11_mayAs ⟨Nat.le_of_ble_eq_true rfl, Nat.le_of_ble_eq_true rfl⟩ [] rfl rfl rfl hl.1 (Nat.le_of_ble_eq_true rfl) dX11_goOne_48 ⟨Nat.le_of_ble_eq_true rfl, Nat.le_of_ble_eq_true rfl⟩) (fun r_7 u_7 H locs hp_7 G => ?_)
    have G : wd X (va_A ([(ha, .inl (X.2.1, N, .inl f))]) sz) (va_A ([(ha, .inl (X.2.1, N, .inl f))]) sz) s ([(ha, .inl (X.2.1, N, .inl f))]) H locs := G
    obtain rfl := hp_7
    refine lv_icmp_le (tgt := 62) zx zb dX11_goOne_51 (by decide) (fun c_8 => ?_) (fun c_8 => ?_)
    · refine lv_aload_n zx zb dX11_goOne_62 rfl (lv_at hl 2 rfl) ?_
      refine lv_iconst (v := 5) zx zb dX11_goOne_63 (by decide) ?_
      refine lv_iload_n zx zb dX11_goOne_64 rfl (lv_at hl 3 rfl) ?_
      refine r_iadd (v := (nI (5 + i))) S (nI_add 5 i) dX11_goOne_65 ?_
      refine lv_dup2_11 zx zb dX11_goOne_66 rfl rfl ?_
      refine r_iald (v := (f (5 + i))) S G 0 rfl (vp_in_nI (by omega) (by omega)) (congrArg f (nI_clamp (by omega))) dX11_goOne_67 ?_
      refine lv_iload zx zb dX11_goOne_68 (lv_at hl 0 rfl) ?_
      refine r_iadd (v := ((f (5 + i)) + (reachP (f (37 + i)) (f (43 + i)) (f 35) (f (11 + i))))) S rfl dX11_goOne_70 ?_
      refine r_iast S G 0 rfl (vp_in_nI (by omega) (by omega)) dX11_goOne_71 (fun H locs G => ?_)
      obtain ⟨f_10, hI_f_10, hE_f_10, G⟩ : ∃ f_10 : Nat → Int32, InA f_10 c0 c1 c2 c3 c4 ∧ f_10 = upd f (nI (5 + i)).toNatClampNeg ((f (5 + i)) + (reachP (f (37 + i)) (f (43 + i)) (f 35) (f (11 + i)))) ∧ wd X (va_A ([(ha, .inl (X.2.1, N, .inl f))]) sz) (va_A ([(ha, .inl (X.2.1, N, .inl f))]) sz) s ([(ha, .inl (X.2.1, N, .inl f_10))]) H locs := ⟨_, InA_o hI_f (by rw [nI_clamp (by omega)]; omega), rfl, G⟩
      refine lv_aload_n zx zb dX11_goOne_72 rfl (lv_at hl 2 rfl) ?_
      refine lv_bipush (v := 29) zx zb dX11_goOne_73 (by decide) ?_
      refine lv_iload_n zx zb dX11_goOne_75 rfl (lv_at hl 3 rfl) ?_
      refine r_iadd (v := (nI (29 + i))) S (nI_add 29 i) dX11_goOne_76 ?_
      refine lv_aload_n zx zb dX11_goOne_77 rfl (lv_at hl 2 rfl) ?_
      refine lv_iconst (v := 5) zx zb dX11_goOne_78 (by decide) ?_
      refine lv_iload_n zx zb dX11_goOne_79 rfl (lv_at hl 3 rfl) ?_
      refine r_iadd (v := (nI (5 + i))) S (nI_add 5 i) dX11_goOne_80 ?_
      refine r_iald (v := (f_10 (5 + i))) S G 0 rfl (vp_in_nI (by omega) (by omega)) (congrArg f_10 (nI_clamp (by omega))) dX11_goOne_81 ?_
      refine lv_aload_n zx zb dX11_goOne_82 rfl (lv_at hl 2 rfl) ?_
      refine lv_bipush (v := 36) zx zb dX11_goOne_83 (by decide) ?_
      refine r_iald (v := (f_10 36)) S G 0 rfl (k_vpc (c := 36) rfl (by omega) (by omega)) rfl dX11_goOne_85 ?_
      refine k_cutW (PP := fun Wx => ∀ (x_14 : Int32) (H : Heap) (locs : List Loc) (ls : Array Slot), (x_14 = (if (f_10 (5 + i)) < (f_10 36) then 0 else (f 35))) → wd X (va_A ([(ha, .inl (X.2.1, N, .inl f))]) sz) (va_A ([(ha, .inl (X.2.1, N, .inl f))]) sz) s ([(ha, .inl (X.2.1, N, .inl f_10))]) H locs → lv_has ls 5 [(4, .int (reachP (f (37 + i)) (f (43 + i)) (f 35) (f (11 + i)))), (3, .int (f 35)), (0, .ref ha), (1, .int (nI i)), (2, .int 0)] → Wx (F0 m 94 ls [.int x_14, .int (nI (29 + i)), .ref ha]) H locs) ?_ ?_
      · intro join_86
        refine lv_icmp_lt (tgt := 93) zx zb dX11_goOne_86 (by decide) (fun c_13 => ?_) (fun c_13 => ?_)
        · refine lv_iconst (v := 0) zx zb dX11_goOne_93 (by decide) ?_
          exact join_86 0 _ _ _ (if_pos c_13).symm G hl
        · refine lv_iload_n zx zb dX11_goOne_89 rfl (lv_at hl 1 rfl) ?_
          refine lv_goto (tgt := 94) zx zb dX11_goOne_90 (by decide) ?_
          exact join_86 (f 35) _ _ _ (if_neg c_13).symm G hl
      · intro x_14 H locs ls hk_x_14 G hl
        subst hk_x_14
        refine r_iast S G 0 rfl (vp_in_nI (by omega) (by omega)) dX11_goOne_94 (fun H locs G => ?_)
        obtain ⟨f_15, hI_f_15, hE_f_15, G⟩ : ∃ f_15 : Nat → Int32, InA f_15 c0 c1 c2 c3 c4 ∧ f_15 = upd f_10 (nI (29 + i)).toNatClampNeg (if (f_10 (5 + i)) < (f_10 36) then 0 else (f 35)) ∧ wd X (va_A ([(ha, .inl (X.2.1, N, .inl f))]) sz) (va_A ([(ha, .inl (X.2.1, N, .inl f))]) sz) s ([(ha, .inl (X.2.1, N, .inl f_15))]) H locs := ⟨_, InA_o hI_f_10 (by rw [nI_clamp (by omega)]; omega), rfl, G⟩
        exact e_void S zr zlk G (f_15) [0] rfl rfl (Or.inr rfl) (⟨hI_f_15, by have e1 : f_10 = upd f (5 + i) (f (5 + i) + farM f i) := (by rw [hE_f_10, nI_clamp (by first | omega | (dsimp only; omega))]; rfl); have e2 : f_10 (5 + i) = f (5 + i) + farM f i := (by rw [e1]; exact upd_eq); have e3 : f_10 36 = f 36 := (by rw [e1]; exact upd_ne (by first | omega | (dsimp only; omega))); rw [hE_f_15, nI_clamp (by first | omega | (dsimp only; omega)), e2, e3, e1]; exact ((if_pos c_4).trans (if_pos c_8)).symm⟩) dX11_goOne_95
    · refine lv_aload_n zx zb dX11_goOne_54 rfl (lv_at hl 2 rfl) ?_
      refine lv_iload_n zx zb dX11_goOne_55 rfl (lv_at hl 3 rfl) ?_
      refine b_wv (cells' := 0) (slots' := 0) (wr := []) G rfl rfl [0] [] rfl rfl rfl rfl (n_S (As := [.ref ha, .int (nI i)]) (rest := []) S G (y_drop l X ha N f c0 c1 c2 c3 c4 i hI_f (by omega) (by omega) (by omega) H.size) gX11_goOne_X11_drop rfl rfl rfl hdS_X11_drop ⟨Nat.le_of_ble_eq_true rfl, Nat.le_of_ble_eq_true rfl⟩ [0] rfl rfl rfl hl.1 (Nat.le_of_ble_eq_true rfl) dX11_goOne_56 ⟨Nat.le_of_ble_eq_true rfl, Nat.le_of_ble_eq_true rfl⟩) (fun u_16 H locs hp_16 G => ?_)
      obtain ⟨f_16, rfl⟩ : ∃ z, z = u_16 := ⟨_, rfl⟩
      obtain ⟨hI_f_16, hq_16⟩ := hp_16
      have G : wd X (va_A ([(ha, .inl (X.2.1, N, .inl f))]) sz) (va_A ([(ha, .inl (X.2.1, N, .inl f))]) sz) s ([(ha, .inl (X.2.1, N, .inl f_16))]) H locs := G
      refine lv_goto (tgt := 95) zx zb dX11_goOne_59 (by decide) ?_
      exact e_void S zr zlk G (f_16) [0] rfl rfl (Or.inr rfl) (⟨hI_f_16, by rw [hq_16]; exact ((if_pos c_4).trans (if_neg c_8)).symm⟩) dX11_goOne_95
  · refine lv_aload_n zx zb dX11_goOne_22 rfl (lv_at hl 2 rfl) ?_
    refine lv_bipush (v := 23) zx zb dX11_goOne_23 (by decide) ?_
    refine lv_iload_n zx zb dX11_goOne_25 rfl (lv_at hl 3 rfl) ?_
    refine r_iadd (v := (nI (23 + i))) S (nI_add 23 i) dX11_goOne_26 ?_
    refine lv_dup2_11 zx zb dX11_goOne_27 rfl rfl ?_
    refine r_iald (v := (f (23 + i))) S G 0 rfl (vp_in_nI (by omega) (by omega)) (congrArg f (nI_clamp (by omega))) dX11_goOne_28 ?_
    refine lv_iconst (v := 1) zx zb dX11_goOne_29 (by decide) ?_
    refine r_isub (v := ((f (23 + i)) - 1)) S rfl dX11_goOne_30 ?_
    refine r_iast S G 0 rfl (vp_in_nI (by omega) (by omega)) dX11_goOne_31 (fun H locs G => ?_)
    obtain ⟨f_18, hI_f_18, hE_f_18, G⟩ : ∃ f_18 : Nat → Int32, InA f_18 c0 c1 c2 c3 c4 ∧ f_18 = upd f (nI (23 + i)).toNatClampNeg ((f (23 + i)) - 1) ∧ wd X (va_A ([(ha, .inl (X.2.1, N, .inl f))]) sz) (va_A ([(ha, .inl (X.2.1, N, .inl f))]) sz) s ([(ha, .inl (X.2.1, N, .inl f_18))]) H locs := ⟨_, InA_o hI_f (by rw [nI_clamp (by omega)]; omega), rfl, G⟩
    refine lv_goto (tgt := 95) zx zb dX11_goOne_32 (by decide) ?_
    exact e_void S zr zlk G (f_18) [0] rfl rfl (Or.inr rfl) (⟨hI_f_18, by rw [hE_f_18, nI_clamp (by first | omega | (dsimp only; omega))]; exact (if_neg c_4).symm⟩) dX11_goOne_95
set_option maxHeartbeats 4000000 in
set_option maxRecDepth 100000 in
theorem y_goTick (l : Launch) (X : EX) (ha : Nat) (N : Nat) (f : Nat → Int32) (c0 : Nat) (c1 : Nat) (c2 : Nat) (c3 : Nat) (c4 : Nat) (sv : Nat → Int32) (dv : Nat → Int32) (hI_f : InA f c0 c1 c2 c3 c4) (hN : 55 ≤ N) (hM : N ≤ 1000) (hR : RepM sv dv c0 f) (h0 : 0 < dv 1 + 1) (sz : Nat) : Met l yX11_goTick wsX11_goTick ({ frames := 3, cells := 0, slots := 0, locals := 72 } : Room) (pE X [.ref ha] ([(ha, .inl (X.2.1, N, .inl f))]) sz) (qV (fun (u : (Nat → Int32)) => InA u c0 c1 c2 c3 c4 ∧ (RepM sv (gP sv dv c0) c0 u)) X (fun (u : (Nat → Int32)) => [(ha, .inl (X.2.1, N, .inl u))]) ([(ha, .inl (X.2.1, N, .inl f))]) sz) 0 0 (va_A ([(ha, .inl (X.2.1, N, .inl f))]) sz) := by
  refine mk_met (B := (va_A ([(ha, .inl (X.2.1, N, .inl f))]) sz)) (A := (va_A ([(ha, .inl (X.2.1, N, .inl f))]) sz)) (cc := cX11_goTick) (maxL := 2) (ret := none) (by decide) rfl (Nat.le_of_ble_eq_true rfl) k_w k_a (fun p e s m below meth c S zr zlk znm zsz G ls hl => ?_)
  have S : CallFix p m c cX11_goTick 2 s _ wsX11_goTick RX11 := S
  have zx := S.1
  have zb := S.2.1
  have hl : lv_has ls 2 [(0, .ref ha)] := hl
  have hO_f := hI_f.2
  obtain ⟨hm0_f, hm1_f, hm2_f, hm3_f, hm4_f⟩ := hO_f
  refine lv_aload_n zx zb dX11_goTick_0 rfl (lv_at hl 0 rfl) ?_
  refine lv_bipush (v := 35) zx zb dX11_goTick_1 (by decide) ?_
  refine lv_dup2_11 zx zb dX11_goTick_3 rfl rfl ?_
  refine r_iald (v := (f 35)) S G 0 rfl (k_vpc (c := 35) rfl (by omega) (by omega)) rfl dX11_goTick_4 ?_
  refine lv_iconst (v := 1) zx zb dX11_goTick_5 (by decide) ?_
  refine r_iadd (v := ((f 35) + 1)) S rfl dX11_goTick_6 ?_
  refine r_iast S G 0 rfl (k_vpc (c := 35) rfl (by omega) (by omega)) dX11_goTick_7 (fun H locs G => ?_)
  obtain ⟨f_2, hI_f_2, hE_f_2, G⟩ : ∃ f_2 : Nat → Int32, InA f_2 c0 c1 c2 c3 c4 ∧ f_2 = upd f 35 ((f 35) + 1) ∧ wd X (va_A ([(ha, .inl (X.2.1, N, .inl f))]) sz) (va_A ([(ha, .inl (X.2.1, N, .inl f))]) sz) s ([(ha, .inl (X.2.1, N, .inl f_2))]) H locs := ⟨_, InA_o hI_f (by decide), rfl, G⟩
  refine lv_iconst (v := 0) zx zb dX11_goTick_8 (by decide) ?_
  refine lv_istore_n (lv' := [(1, .int 0), (0, .ref ha)]) zx zb dX11_goTick_9 rfl hl (by decide) rfl (fun ls hl => ?_)
  refine k_loop (P := ∀ (zm : Nat) (n10_1 : Nat) (f10_0 : Nat → Int32) (H : Heap) (locs : List Loc) (ls : Array Slot), ((6 - n10_1) < zm) → (n10_1 ≤ c0 ∧ RepM sv (gK sv dv n10_1) c0 f10_0) → InA f10_0 c0 c1 c2 c3 c4 → (n10_1 ≤ 6) → wd X (va_A ([(ha, .inl (X.2.1, N, .inl f))]) sz) (va_A ([(ha, .inl (X.2.1, N, .inl f))]) sz) s ([(ha, .inl (X.2.1, N, .inl f10_0))]) H locs → lv_has ls 2 [(1, .int (nI n10_1)), (0, .ref ha)] → W p l e _ s m _ below meth c H locs _ _ _ (F0 m 10 ls [])) (fun loop => loop ((6 - 0) + 1) 0 f_2 _ _ _ (by omega) ⟨by omega, by rw [hE_f_2]; exact RepM_t (by omega) hR⟩ hI_f_2 (by omega) G hl) ?_
  intro zm
  induction zm with
  | zero => intro n10_1 f10_0 H locs ls zz q_x0 q_hI_f10_0 q_hk_n10_1 _ _; exact absurd zz (by omega)
  | succ zm ih10 =>
    intro n10_1 f10_0 H locs ls zm_10 hx10_0 hI_f10_0 hk_n10_1 G hl
    refine lv_iload_n zx zb dX11_goTick_10 rfl (lv_at hl 0 rfl) ?_
    refine lv_aload_n zx zb dX11_goTick_11 rfl (lv_at hl 1 rfl) ?_
    refine lv_iconst (v := 0) zx zb dX11_goTick_12 (by decide) ?_
    refine r_iald (v := (nI c0)) S G 0 rfl (k_vpc (c := 0) rfl (by omega) (by omega)) hI_f10_0.1.1 dX11_goTick_13 ?_
    refine lv_icmp_ge (tgt := 37) zx zb dX11_goTick_14 (by decide) (fun c_4 => ?_) (fun c_4 => ?_)
    · have fc_4 := j_le (a := c0) (b := n10_1) (by omega) (by omega) c_4
      exact e_void S zr zlk G (f10_0) [0] rfl rfl (Or.inr rfl) (⟨hI_f10_0, by have e : gP sv dv c0 = gK sv dv n10_1 := (by rw [gP, show c0 = n10_1 from by first | omega | (dsimp only; omega)]); rw [e]; exact hx10_0.2⟩) dX11_goTick_37
    · have fc_4 := j_nle (a := c0) (b := n10_1) (by omega) (by omega) c_4
      refine lv_aload_n zx zb dX11_goTick_17 rfl (lv_at hl 1 rfl) ?_
      refine lv_iload_n zx zb dX11_goTick_18 rfl (lv_at hl 0 rfl) ?_
      refine o_ri (cells' := 0) (slots' := 0) G rfl rfl (n_S (As := [.ref ha, .int (nI n10_1)]) (rest := []) S G (y_isHome l X ha N f10_0 c0 c1 c2 c3 c4 n10_1 hI_f10_0 (by omega) (by omega) (by omega) H.size) gX11_goTick_X11_isHome rfl rfl rfl hdS_X11_isHome ⟨Nat.le_of_ble_eq_true rfl, Nat.le_of_ble_eq_true rfl⟩ [0] rfl rfl rfl hl.1 (Nat.le_of_ble_eq_true rfl) dX11_goTick_19 ⟨Nat.le_of_ble_eq_true rfl, Nat.le_of_ble_eq_true rfl⟩) (fun r_5 u_5 H locs hp_5 G => ?_)
      have G : wd X (va_A ([(ha, .inl (X.2.1, N, .inl f))]) sz) (va_A ([(ha, .inl (X.2.1, N, .inl f))]) sz) s ([(ha, .inl (X.2.1, N, .inl f10_0))]) H locs := G
      rcases hp_5 with ⟨rfl, hh_5⟩ | ⟨rfl, hh_5⟩
      · refine lv_if_ne (tgt := 31) zx zb dX11_goTick_22 (by decide) (fun c_6 => ?_) (fun c_6 => absurd c_6 (by decide))
        refine lv_iinc (v := (nI (n10_1 + 1))) (lv' := [(1, .int (nI (n10_1 + 1))), (0, .ref ha)]) zx zb dX11_goTick_31 hl (k := 0) rfl (nI_add n10_1 1) (by decide) rfl (fun ls hl => ?_)
        refine lv_goto (tgt := 10) zx zb dX11_goTick_34 (by decide) ?_
        exact ih10 (n10_1 + 1) f10_0 _ _ _ (by omega) ⟨by omega, RepM_h (by omega) (by omega) hx10_0.2 hh_5⟩ hI_f10_0 (by omega) G hl
      · refine lv_if_ne (tgt := 31) zx zb dX11_goTick_22 (by decide) (fun c_7 => absurd (by decide) c_7) (fun c_7 => ?_)
        refine lv_aload_n zx zb dX11_goTick_25 rfl (lv_at hl 1 rfl) ?_
        refine lv_iload_n zx zb dX11_goTick_26 rfl (lv_at hl 0 rfl) ?_
        refine lv_iconst (v := 0) zx zb dX11_goTick_27 (by decide) ?_
        refine b_wv (cells' := 0) (slots' := 0) (wr := []) G rfl rfl [0] [] rfl rfl rfl rfl (n_S (As := [.ref ha, .int (nI n10_1), .int 0]) (rest := []) S G (y_goOne l X ha N f10_0 c0 c1 c2 c3 c4 n10_1 hI_f10_0 (by omega) (by omega) (by omega) H.size) gX11_goTick_X11_goOne rfl rfl rfl hdS_X11_goOne ⟨Nat.le_of_ble_eq_true rfl, Nat.le_of_ble_eq_true rfl⟩ [0] rfl rfl rfl hl.1 (Nat.le_of_ble_eq_true rfl) dX11_goTick_28 ⟨Nat.le_of_ble_eq_true rfl, Nat.le_of_ble_eq_true rfl⟩) (fun u_8 H locs hp_8 G => ?_)
        obtain ⟨f_8, rfl⟩ : ∃ z, z = u_8 := ⟨_, rfl⟩
        obtain ⟨hI_f_8, hq_8⟩ := hp_8
        have G : wd X (va_A ([(ha, .inl (X.2.1, N, .inl f))]) sz) (va_A ([(ha, .inl (X.2.1, N, .inl f))]) sz) s ([(ha, .inl (X.2.1, N, .inl f_8))]) H locs := G
        refine lv_iinc (v := (nI (n10_1 + 1))) (lv' := [(1, .int (nI (n10_1 + 1))), (0, .ref ha)]) zx zb dX11_goTick_31 hl (k := 0) rfl (nI_add n10_1 1) (by decide) rfl (fun ls hl => ?_)
        refine lv_goto (tgt := 10) zx zb dX11_goTick_34 (by decide) ?_
        exact ih10 (n10_1 + 1) f_8 _ _ _ (by omega) ⟨by omega, by rw [hq_8]; exact RepM_g (by omega) (by omega) (by rw [gK_1]; exact h0) hx10_0.2 hh_5⟩ hI_f_8 (by omega) G hl
set_option maxHeartbeats 4000000 in
set_option maxRecDepth 100000 in
theorem y_goTicks (l : Launch) (X : EX) (ha : Nat) (N : Nat) (f : Nat → Int32) (c0 : Nat) (c1 : Nat) (c2 : Nat) (c3 : Nat) (c4 : Nat) (z : Nat) (sv : Nat → Int32) (dv : Nat → Int32) (tk : Nat) (hI_f : InA f c0 c1 c2 c3 c4) (hN : 55 ≤ N) (hM : N ≤ 1000) (hz : z ≤ 99) (hR : RepM sv dv c0 f) (ht : dv 1 = nI tk) (hk : tk ≤ 9000) (sz : Nat) : Met l yX11_goTicks wsX11_goTicks ({ frames := 4, cells := 0, slots := 0, locals := 93 } : Room) (pE X [.ref ha, .int (nI z)] ([(ha, .inl (X.2.1, N, .inl f))]) sz) (qV (fun (u : (Nat → Int32)) => InA u c0 c1 c2 c3 c4 ∧ (RepM sv (gI sv c0 dv z) c0 u)) X (fun (u : (Nat → Int32)) => [(ha, .inl (X.2.1, N, .inl u))]) ([(ha, .inl (X.2.1, N, .inl f))]) sz) 0 0 (va_A ([(ha, .inl (X.2.1, N, .inl f))]) sz) := by
  refine mk_met (B := (va_A ([(ha, .inl (X.2.1, N, .inl f))]) sz)) (A := (va_A ([(ha, .inl (X.2.1, N, .inl f))]) sz)) (cc := cX11_goTicks) (maxL := 3) (ret := none) (by decide) rfl (Nat.le_of_ble_eq_true rfl) k_w k_a (fun p e s m below meth c S zr zlk znm zsz G ls hl => ?_)
  have S : CallFix p m c cX11_goTicks 3 s _ wsX11_goTicks RX11 := S
  have zx := S.1
  have zb := S.2.1
  have hl : lv_has ls 3 [(0, .ref ha), (1, .int (nI z))] := hl
  have hO_f := hI_f.2
  obtain ⟨hm0_f, hm1_f, hm2_f, hm3_f, hm4_f⟩ := hO_f
  refine lv_iconst (v := 0) zx zb dX11_goTicks_0 (by decide) ?_
  refine lv_istore_n (lv' := [(2, .int 0), (0, .ref ha), (1, .int (nI z))]) zx zb dX11_goTicks_1 rfl hl (by decide) rfl (fun ls hl => ?_)
  refine k_loop (P := ∀ (zm : Nat) (n2_2 : Nat) (f2_0 : Nat → Int32) (H : Heap) (locs : List Loc) (ls : Array Slot), ((z - n2_2) < zm) → (n2_2 ≤ z ∧ RepM sv (gI sv c0 dv n2_2) c0 f2_0) → InA f2_0 c0 c1 c2 c3 c4 → (n2_2 ≤ z) → wd X (va_A ([(ha, .inl (X.2.1, N, .inl f))]) sz) (va_A ([(ha, .inl (X.2.1, N, .inl f))]) sz) s ([(ha, .inl (X.2.1, N, .inl f2_0))]) H locs → lv_has ls 3 [(2, .int (nI n2_2)), (0, .ref ha), (1, .int (nI z))] → W p l e _ s m _ below meth c H locs _ _ _ (F0 m 2 ls [])) (fun loop => loop ((z - 0) + 1) 0 f _ _ _ (by omega) ⟨by omega, hR⟩ hI_f (by omega) G hl) ?_
  intro zm
  induction zm with
  | zero => intro n2_2 f2_0 H locs ls zz q_x0 q_hI_f2_0 q_hk_n2_2 _ _; exact absurd zz (by omega)
  | succ zm ih2 =>
    intro n2_2 f2_0 H locs ls zm_2 hx2_0 hI_f2_0 hk_n2_2 G hl
    refine lv_iload_n zx zb dX11_goTicks_2 rfl (lv_at hl 0 rfl) ?_
    refine lv_iload_n zx zb dX11_goTicks_3 rfl (lv_at hl 2 rfl) ?_
    have h35 := hx2_0.2.1.2
    rw [gI_1 ht] at h35
    refine lv_icmp_ge (tgt := 27) zx zb dX11_goTicks_4 (by decide) (fun c_1 => ?_) (fun c_1 => ?_)
    · have fc_1 := j_le (a := z) (b := n2_2) (by omega) (by omega) c_1
      exact e_void S zr zlk G (f2_0) [0] rfl rfl (Or.inr rfl) (⟨hI_f2_0, by rw [show z = n2_2 from by first | omega | (dsimp only; omega)]; exact hx2_0.2⟩) dX11_goTicks_27
    · have fc_1 := j_nle (a := z) (b := n2_2) (by omega) (by omega) c_1
      refine lv_aload_n zx zb dX11_goTicks_7 rfl (lv_at hl 1 rfl) ?_
      refine lv_bipush (v := 35) zx zb dX11_goTicks_8 (by decide) ?_
      refine r_iald (v := (f2_0 35)) S G 0 rfl (k_vpc (c := 35) rfl (by omega) (by omega)) rfl dX11_goTicks_10 ?_
      refine lv_sipush (v := 9999) zx zb dX11_goTicks_11 (by decide) ?_
      refine lv_icmp_ge (tgt := 27) zx zb dX11_goTicks_14 (by decide) (fun c_3 => absurd c_3 (fun q => absurd (j_le (a := 9999) (by omega) (by omega) (show nI 9999 ≤ nI _ from h35 ▸ q)) (by omega))) (fun c_3 => ?_)
      refine lv_aload_n zx zb dX11_goTicks_17 rfl (lv_at hl 1 rfl) ?_
      refine b_wv (cells' := 0) (slots' := 0) (wr := []) G rfl rfl [0] [] rfl rfl rfl rfl (n_S (As := [.ref ha]) (rest := []) S G (y_goTick l X ha N f2_0 c0 c1 c2 c3 c4 sv (gI sv c0 dv n2_2) hI_f2_0 (by omega) (by omega) hx2_0.2 (by rw [gI_1 ht]; exact k_tp (by omega)) H.size) gX11_goTicks_X11_goTick rfl rfl rfl hdS_X11_goTick ⟨Nat.le_of_ble_eq_true rfl, Nat.le_of_ble_eq_true rfl⟩ [0] rfl rfl rfl hl.1 (Nat.le_of_ble_eq_true rfl) dX11_goTicks_18 ⟨Nat.le_of_ble_eq_true rfl, Nat.le_of_ble_eq_true rfl⟩) (fun u_4 H locs hp_4 G => ?_)
      obtain ⟨f_4, rfl⟩ : ∃ z, z = u_4 := ⟨_, rfl⟩
      obtain ⟨hI_f_4, hq_4⟩ := hp_4
      have G : wd X (va_A ([(ha, .inl (X.2.1, N, .inl f))]) sz) (va_A ([(ha, .inl (X.2.1, N, .inl f))]) sz) s ([(ha, .inl (X.2.1, N, .inl f_4))]) H locs := G
      refine lv_iinc (v := (nI (n2_2 + 1))) (lv' := [(2, .int (nI (n2_2 + 1))), (0, .ref ha), (1, .int (nI z))]) zx zb dX11_goTicks_21 hl (k := 0) rfl (nI_add n2_2 1) (by decide) rfl (fun ls hl => ?_)
      refine lv_goto (tgt := 2) zx zb dX11_goTicks_24 (by decide) ?_
      exact ih2 (n2_2 + 1) f_4 _ _ _ (by omega) ⟨by omega, hq_4⟩ hI_f_4 (by omega) G hl
set_option maxHeartbeats 4000000 in
set_option maxRecDepth 100000 in
theorem y_layOne (l : Launch) (X : EX) (ha : Nat) (N : Nat) (f : Nat → Int32) (c0 : Nat) (c1 : Nat) (c2 : Nat) (c3 : Nat) (c4 : Nat) (x1 : Int32) (x2 : Int32) (x3 : Int32) (hI_f : InA f c0 c1 c2 c3 c4) (hN : 55 ≤ N) (hM : N ≤ 1000) (h5 : c0 < 6) (sz : Nat) : Met l yX11_layOne wsX11_layOne ({ frames := 0, cells := 0, slots := 0, locals := 0 } : Room) (pE X [.ref ha, .int x1, .int x2, .int x3] ([(ha, .inl (X.2.1, N, .inl f))]) sz) (qV (fun (u : (Nat → Int32) × (Nat)) => InA u.1 u.2 c1 c2 c3 c4 ∧ (u.1 = layM f c0 x1 x2 x3 ∧ u.2 = c0 + 1)) X (fun (u : (Nat → Int32) × (Nat)) => [(ha, .inl (X.2.1, N, .inl u.1))]) ([(ha, .inl (X.2.1, N, .inl f))]) sz) 0 0 (va_A ([(ha, .inl (X.2.1, N, .inl f))]) sz) := by
  refine mk_met (B := (va_A ([(ha, .inl (X.2.1, N, .inl f))]) sz)) (A := (va_A ([(ha, .inl (X.2.1, N, .inl f))]) sz)) (cc := cX11_layOne) (maxL := 5) (ret := none) (by decide) rfl (Nat.le_of_ble_eq_true rfl) k_w k_a (fun p e s m below meth c S zr zlk znm zsz G ls hl => ?_)
  have S : CallFix p m c cX11_layOne 5 s _ wsX11_layOne RX11 := S
  have zx := S.1
  have zb := S.2.1
  have hl : lv_has ls 5 [(0, .ref ha), (1, .int x1), (2, .int x2), (3, .int x3)] := hl
  have hO_f := hI_f.2
  obtain ⟨hm0_f, hm1_f, hm2_f, hm3_f, hm4_f⟩ := hO_f
  refine lv_aload_n zx zb dX11_layOne_0 rfl (lv_at hl 0 rfl) ?_
  refine lv_iconst (v := 0) zx zb dX11_layOne_1 (by decide) ?_
  refine r_iald (v := (nI c0)) S G 0 rfl (k_vpc (c := 0) rfl (by omega) (by omega)) hI_f.1.1 dX11_layOne_2 ?_
  refine lv_istore (lv' := [(4, .int (nI c0)), (0, .ref ha), (1, .int x1), (2, .int x2), (3, .int x3)]) zx zb dX11_layOne_3 hl (by decide) rfl (fun ls hl => ?_)
  refine lv_aload_n zx zb dX11_layOne_5 rfl (lv_at hl 1 rfl) ?_
  refine lv_bipush (v := 37) zx zb dX11_layOne_6 (by decide) ?_
  refine lv_iload zx zb dX11_layOne_8 (lv_at hl 0 rfl) ?_
  refine r_iadd (v := (nI (37 + c0))) S (nI_add 37 c0) dX11_layOne_10 ?_
  refine lv_iload_n zx zb dX11_layOne_11 rfl (lv_at hl 2 rfl) ?_
  refine r_iast S G 0 rfl (vp_in_nI (by omega) (by omega)) dX11_layOne_12 (fun H locs G => ?_)
  obtain ⟨f_2, hI_f_2, hE_f_2, G⟩ : ∃ f_2 : Nat → Int32, InA f_2 c0 c1 c2 c3 c4 ∧ f_2 = upd f (nI (37 + c0)).toNatClampNeg x1 ∧ wd X (va_A ([(ha, .inl (X.2.1, N, .inl f))]) sz) (va_A ([(ha, .inl (X.2.1, N, .inl f))]) sz) s ([(ha, .inl (X.2.1, N, .inl f_2))]) H locs := ⟨_, InA_o hI_f (by rw [nI_clamp (by omega)]; omega), rfl, G⟩
  refine lv_aload_n zx zb dX11_layOne_13 rfl (lv_at hl 1 rfl) ?_
  refine lv_bipush (v := 43) zx zb dX11_layOne_14 (by decide) ?_
  refine lv_iload zx zb dX11_layOne_16 (lv_at hl 0 rfl) ?_
  refine r_iadd (v := (nI (43 + c0))) S (nI_add 43 c0) dX11_layOne_18 ?_
  refine lv_iload_n zx zb dX11_layOne_19 rfl (lv_at hl 3 rfl) ?_
  refine r_iast S G 0 rfl (vp_in_nI (by omega) (by omega)) dX11_layOne_20 (fun H locs G => ?_)
  obtain ⟨f_3, hI_f_3, hE_f_3, G⟩ : ∃ f_3 : Nat → Int32, InA f_3 c0 c1 c2 c3 c4 ∧ f_3 = upd f_2 (nI (43 + c0)).toNatClampNeg x2 ∧ wd X (va_A ([(ha, .inl (X.2.1, N, .inl f))]) sz) (va_A ([(ha, .inl (X.2.1, N, .inl f))]) sz) s ([(ha, .inl (X.2.1, N, .inl f_3))]) H locs := ⟨_, InA_o hI_f_2 (by rw [nI_clamp (by omega)]; omega), rfl, G⟩
  refine lv_aload_n zx zb dX11_layOne_21 rfl (lv_at hl 1 rfl) ?_
  refine lv_bipush (v := 49) zx zb dX11_layOne_22 (by decide) ?_
  refine lv_iload zx zb dX11_layOne_24 (lv_at hl 0 rfl) ?_
  refine r_iadd (v := (nI (49 + c0))) S (nI_add 49 c0) dX11_layOne_26 ?_
  refine lv_iload_n zx zb dX11_layOne_27 rfl (lv_at hl 4 rfl) ?_
  refine r_iast S G 0 rfl (vp_in_nI (by omega) (by omega)) dX11_layOne_28 (fun H locs G => ?_)
  obtain ⟨f_4, hI_f_4, hE_f_4, G⟩ : ∃ f_4 : Nat → Int32, InA f_4 c0 c1 c2 c3 c4 ∧ f_4 = upd f_3 (nI (49 + c0)).toNatClampNeg x3 ∧ wd X (va_A ([(ha, .inl (X.2.1, N, .inl f))]) sz) (va_A ([(ha, .inl (X.2.1, N, .inl f))]) sz) s ([(ha, .inl (X.2.1, N, .inl f_4))]) H locs := ⟨_, InA_o hI_f_3 (by rw [nI_clamp (by omega)]; omega), rfl, G⟩
  refine lv_aload_n zx zb dX11_layOne_29 rfl (lv_at hl 1 rfl) ?_
  refine lv_bipush (v := 11) zx zb dX11_layOne_30 (by decide) ?_
  refine lv_iload zx zb dX11_layOne_32 (lv_at hl 0 rfl) ?_
  refine r_iadd (v := (nI (11 + c0))) S (nI_add 11 c0) dX11_layOne_34 ?_
  refine lv_iconst (v := 4) zx zb dX11_layOne_35 (by decide) ?_
  refine r_iast S G 0 rfl (vp_in_nI (by omega) (by omega)) dX11_layOne_36 (fun H locs G => ?_)
  obtain ⟨f_5, hI_f_5, hE_f_5, G⟩ : ∃ f_5 : Nat → Int32, InA f_5 c0 c1 c2 c3 c4 ∧ f_5 = upd f_4 (nI (11 + c0)).toNatClampNeg 4 ∧ wd X (va_A ([(ha, .inl (X.2.1, N, .inl f))]) sz) (va_A ([(ha, .inl (X.2.1, N, .inl f))]) sz) s ([(ha, .inl (X.2.1, N, .inl f_5))]) H locs := ⟨_, InA_o hI_f_4 (by rw [nI_clamp (by omega)]; omega), rfl, G⟩
  refine lv_aload_n zx zb dX11_layOne_37 rfl (lv_at hl 1 rfl) ?_
  refine lv_iconst (v := 0) zx zb dX11_layOne_38 (by decide) ?_
  refine lv_dup2_11 zx zb dX11_layOne_39 rfl rfl ?_
  refine r_iald (v := (nI c0)) S G 0 rfl (k_vpc (c := 0) rfl (by omega) (by omega)) hI_f_5.1.1 dX11_layOne_40 ?_
  refine lv_iconst (v := 1) zx zb dX11_layOne_41 (by decide) ?_
  refine r_iadd (v := (nI (c0 + 1))) S (nI_add c0 1) dX11_layOne_42 ?_
  refine r_iast S G 0 rfl (k_vpc (c := 0) rfl (by omega) (by omega)) dX11_layOne_43 (fun H locs G => ?_)
  obtain ⟨f_7, c_8, hI_f_7, hE_c_8, hE_f_7, G⟩ : ∃ (f_7 : Nat → Int32) (c_8 : Nat), InA f_7 c_8 c1 c2 c3 c4 ∧ c_8 = (c0 + 1) ∧ f_7 = upd f_5 0 (nI (c0 + 1)) ∧ wd X (va_A ([(ha, .inl (X.2.1, N, .inl f))]) sz) (va_A ([(ha, .inl (X.2.1, N, .inl f))]) sz) s ([(ha, .inl (X.2.1, N, .inl f_7))]) H locs := ⟨_, (c0 + 1), InA_n0 (n := (c0 + 1)) hI_f_5 (by omega), rfl, rfl, G⟩
  exact e_void S zr zlk G (f_7, c_8) [0] rfl rfl (Or.inr rfl) (⟨hI_f_7, ⟨by rw [hE_f_7, hE_f_5, hE_f_4, hE_f_3, hE_f_2, nI_clamp (by first | omega | (dsimp only; omega)), nI_clamp (by first | omega | (dsimp only; omega)), nI_clamp (by first | omega | (dsimp only; omega)), nI_clamp (by first | omega | (dsimp only; omega))]; rfl, by first | omega | (dsimp only; omega)⟩⟩) dX11_layOne_44
set_option maxHeartbeats 4000000 in
set_option maxRecDepth 100000 in
theorem y_isSmall (l : Launch) (X : EX) (x : Int32) (sz : Nat) : Met l yX11_isSmall wsX11_isSmall ({ frames := 1, cells := 0, slots := 0, locals := 25 } : Room) (pE X [.int x] ([]) sz) (qI (fun (r : Int32) (u : Unit) => (r = 1 ∧ lqL x = true) ∨ (r = 0 ∧ ¬ lqL x = true)) X (fun (u : Unit) => []) [] sz) 0 0 (va_A [] sz) := by
  refine mk_met (B := (fun _ => True)) (A := (va_A [] sz)) (cc := cX11_isSmall) (maxL := 1) (ret := (some .boolean)) (by decide) rfl (Nat.le_of_ble_eq_true rfl) k_ro k_a (fun p e s m below meth c S zr zlk znm zsz G ls hl => ?_)
  have S : CallFix p m c cX11_isSmall 1 s _ wsX11_isSmall RX11 := S
  have zx := S.1
  have zb := S.2.1
  have hl : lv_has ls 1 [(0, .int x)] := hl
  refine lv_iload_n zx zb dX11_isSmall_0 rfl (lv_at hl 0 rfl) ?_
  refine lv_i2l (v := (Int32.toInt64 x)) zx zb dX11_isSmall_1 rfl ?_
  refine lv_ldc2 zx zb S.2.2.2.1 (S.2.2.2.2 _ mm_X11_isSmall_c209) dX11_isSmall_2 ?_
  refine k_ld (v := (Int32.toInt64 97)) (by decide) ?_
  refine lv_ldc2 zx zb S.2.2.2.1 (S.2.2.2.2 _ mm_X11_isSmall_c211) dX11_isSmall_5 ?_
  refine k_ld (v := (Int32.toInt64 122)) (by decide) ?_
  refine o_ri (cells' := 0) (slots' := 0) G rfl rfl (n_S (As := [.long (Int32.toInt64 x), .long (Int32.toInt64 97), .long (Int32.toInt64 122)]) (rest := []) S G (m_in l X x 97 122 s.heap.size) gX11_isSmall_X11_in rfl rfl rfl hdS_X11_in ⟨Nat.le_of_ble_eq_true rfl, Nat.le_of_ble_eq_true rfl⟩ [] rfl rfl rfl hl.1 (Nat.le_of_ble_eq_true rfl) dX11_isSmall_8 ⟨Nat.le_of_ble_eq_true rfl, Nat.le_of_ble_eq_true rfl⟩) (fun r_1 u_1 H locs hp_1 G => ?_)
  have G : wd X (fun _ => True) (va_A [] sz) s ([]) H locs := G
  rcases hp_1 with ⟨rfl, hw_1⟩ | ⟨rfl, hw_1⟩
  · obtain ⟨j_1, ⟨ja_1, jb_1⟩, rfl⟩ := k_natR (a := 97) (b := 122) hw_1 rfl rfl (by decide) (by decide)
    exact e_int S zr zlk (by decide) G () [] rfl rfl (Or.inl rfl) (Or.inl ⟨rfl, lqL_t.mpr hw_1⟩) dX11_isSmall_11
  · exact e_int S zr zlk (by decide) G () [] rfl rfl (Or.inl rfl) (Or.inr ⟨rfl, fun h => hw_1 (lqL_t.mp h)⟩) dX11_isSmall_11
