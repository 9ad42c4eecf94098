set_option maxRecDepth 20000 in
theorem ggX11_races_X11_bad : GoodIn wsX11_races wsX11_bad := goodIn_r _ [18, 19, 57, 58, 59, 60, 61, 62, 63, 64, 65, 66, 67, 68, 69, 70, 71, 72, 73, 74] rfl (by decide +kernel)
set_option maxRecDepth 20000 in
theorem gX11_races_X11_bad : GoodIn wsX11_races (wsV RX11 68 RX11 yX11_bad wsX11_bad) := goodIn_app (goodIn_of _ (by decide +kernel)) ggX11_races_X11_bad
set_option maxRecDepth 20000 in
theorem ggX11_races_X11_goTick : GoodIn wsX11_races wsX11_goTick := goodIn_r _ [35, 36, 37, 13, 38, 39, 40, 41, 42, 43, 44, 45, 46, 47, 48, 49, 50, 51, 52, 53] rfl (by decide +kernel)
set_option maxRecDepth 20000 in
theorem gX11_races_X11_goTick : GoodIn wsX11_races (va_wsS RX11 109 yX11_goTick wsX11_goTick) := goodIn_app (goodIn_of _ (by decide +kernel)) ggX11_races_X11_goTick
set_option maxRecDepth 20000 in
theorem ggX11_races_X11_in : GoodIn wsX11_races wsX11_in := goodIn_r _ [14] rfl (by decide +kernel)
set_option maxRecDepth 20000 in
theorem gX11_races_X11_in : GoodIn wsX11_races (va_wsS RX11 56 yX11_in wsX11_in) := goodIn_app (goodIn_of _ (by decide +kernel)) ggX11_races_X11_in
set_option maxRecDepth 20000 in
theorem ggX11_races_X11_isOne : GoodIn wsX11_races wsX11_isOne := goodIn_r _ [28, 29, 30, 31, 13, 32, 24, 11, 12, 14, 57, 58, 59, 60, 61, 62, 63, 64, 65, 66, 67, 68, 69, 70, 71, 72, 73, 74] rfl (by decide +kernel)
set_option maxRecDepth 20000 in
theorem gX11_races_X11_isOne : GoodIn wsX11_races (wsV RX11 123 RX11 yX11_isOne wsX11_isOne) := goodIn_app (goodIn_of _ (by decide +kernel)) ggX11_races_X11_isOne
set_option maxRecDepth 20000 in
theorem ggX11_races_X11_layHand : GoodIn wsX11_races wsX11_layHand := goodIn_r _ [23, 8, 24, 57, 58, 59, 60, 61, 62, 63, 64, 65, 66, 67, 68, 69, 70, 71, 72, 73, 74] rfl (by decide +kernel)
set_option maxRecDepth 20000 in
theorem gX11_races_X11_layHand : GoodIn wsX11_races (wsV RX11 137 RX11 yX11_layHand wsX11_layHand) := goodIn_app (goodIn_of _ (by decide +kernel)) ggX11_races_X11_layHand
set_option maxRecDepth 20000 in
theorem ggX11_races_X11_manyHome : GoodIn wsX11_races wsX11_manyHome := goodIn_r _ [56, 36, 37, 13, 38] rfl (by decide +kernel)
set_option maxRecDepth 20000 in
theorem gX11_races_X11_manyHome : GoodIn wsX11_races (va_wsS RX11 119 yX11_manyHome wsX11_manyHome) := goodIn_app (goodIn_of _ (by decide +kernel)) ggX11_races_X11_manyHome
set_option maxRecDepth 20000 in
theorem ggX11_stumble_X11_bad : GoodIn wsX11_stumble wsX11_bad := goodIn_r _ [21, 22, 54, 55, 56, 57, 58, 59, 60, 61, 62, 63, 64, 65, 66, 67, 68, 69, 70, 71] rfl (by decide +kernel)
set_option maxRecDepth 20000 in
theorem gX11_stumble_X11_bad : GoodIn wsX11_stumble (wsV RX11 68 RX11 yX11_bad wsX11_bad) := goodIn_app (goodIn_of _ (by decide +kernel)) ggX11_stumble_X11_bad
set_option maxRecDepth 20000 in
theorem ggX11_stumble_X11_fraction : GoodIn wsX11_stumble wsX11_fraction := goodIn_r _ [51, 52, 53, 54, 55, 56, 57, 58, 59, 60, 61, 62, 63, 64, 65, 66, 67, 68, 69, 70, 71] rfl (by decide +kernel)
set_option maxRecDepth 20000 in
theorem gX11_stumble_X11_fraction : GoodIn wsX11_stumble (wsV RX11 187 RX11 yX11_fraction wsX11_fraction) := goodIn_app (goodIn_of _ (by decide +kernel)) ggX11_stumble_X11_fraction
set_option maxRecDepth 20000 in
theorem ggX11_stumble_X11_goOne : GoodIn wsX11_stumble wsX11_goOne := goodIn_r _ [35, 36, 37, 8, 38, 39, 40, 41, 42, 43, 44, 45, 46, 47] rfl (by decide +kernel)
set_option maxRecDepth 20000 in
theorem gX11_stumble_X11_goOne : GoodIn wsX11_stumble (va_wsS RX11 105 yX11_goOne wsX11_goOne) := goodIn_app (goodIn_of _ (by decide +kernel)) ggX11_stumble_X11_goOne
set_option maxRecDepth 20000 in
theorem ggX11_stumble_X11_has : GoodIn wsX11_stumble wsX11_has := goodIn_r _ [29] rfl (by decide +kernel)
set_option maxRecDepth 20000 in
theorem gX11_stumble_X11_has : GoodIn wsX11_stumble (va_wsS RX11 161 yX11_has wsX11_has) := goodIn_app (goodIn_of _ (by decide +kernel)) ggX11_stumble_X11_has
set_option maxRecDepth 20000 in
theorem ggX11_stumble_X11_in : GoodIn wsX11_stumble wsX11_in := goodIn_r _ [17] rfl (by decide +kernel)
set_option maxRecDepth 20000 in
theorem gX11_stumble_X11_in : GoodIn wsX11_stumble (va_wsS RX11 56 yX11_in wsX11_in) := goodIn_app (goodIn_of _ (by decide +kernel)) ggX11_stumble_X11_in
set_option maxRecDepth 20000 in
theorem ggX11_stumble_X11_isHome : GoodIn wsX11_stumble wsX11_isHome := goodIn_r _ [32] rfl (by decide +kernel)
set_option maxRecDepth 20000 in
theorem gX11_stumble_X11_isHome : GoodIn wsX11_stumble (va_wsS RX11 101 yX11_isHome wsX11_isHome) := goodIn_app (goodIn_of _ (by decide +kernel)) ggX11_stumble_X11_isHome
set_option maxRecDepth 20000 in
theorem ggX11_stumble_X11_isOne : GoodIn wsX11_stumble wsX11_isOne := goodIn_r _ [9, 10, 11, 12, 8, 13, 14, 15, 16, 17, 54, 55, 56, 57, 58, 59, 60, 61, 62, 63, 64, 65, 66, 67, 68, 69, 70, 71] rfl (by decide +kernel)
set_option maxRecDepth 20000 in
theorem gX11_stumble_X11_isOne : GoodIn wsX11_stumble (wsV RX11 123 RX11 yX11_isOne wsX11_isOne) := goodIn_app (goodIn_of _ (by decide +kernel)) ggX11_stumble_X11_isOne
set_option maxRecDepth 20000 in
theorem ggX11_stumble_X11_layHand : GoodIn wsX11_stumble wsX11_layHand := goodIn_r _ [26, 4, 14, 54, 55, 56, 57, 58, 59, 60, 61, 62, 63, 64, 65, 66, 67, 68, 69, 70, 71] rfl (by decide +kernel)
set_option maxRecDepth 20000 in
theorem gX11_stumble_X11_layHand : GoodIn wsX11_stumble (wsV RX11 137 RX11 yX11_layHand wsX11_layHand) := goodIn_app (goodIn_of _ (by decide +kernel)) ggX11_stumble_X11_layHand
theorem dX11_races_0 : decode cX11_races 0 = .ok (.iload_n 1, 1) := by decide +kernel
theorem dX11_races_1 : decode cX11_races 1 = .ok (.i2l, 1) := by decide +kernel
theorem dX11_races_100 : decode cX11_races 100 = .ok (.l2i, 1) := by decide +kernel
theorem dX11_races_101 : decode cX11_races 101 = .ok (.iastore, 1) := by decide +kernel
theorem dX11_races_102 : decode cX11_races 102 = .ok (.aload_n 0, 1) := by decide +kernel
theorem dX11_races_103 : decode cX11_races 103 = .ok (.getfield 27, 3) := by decide +kernel
theorem dX11_races_106 : decode cX11_races 106 = .ok (.invokestatic 109, 3) := by decide +kernel
theorem dX11_races_109 : decode cX11_races 109 = .ok (.iinc 5 1, 3) := by decide +kernel
theorem dX11_races_112 : decode cX11_races 112 = .ok (.goto (-71), 3) := by decide +kernel
theorem dX11_races_115 : decode cX11_races 115 = .ok (.aload_n 0, 1) := by decide +kernel
theorem dX11_races_116 : decode cX11_races 116 = .ok (.getfield 27, 3) := by decide +kernel
theorem dX11_races_119 : decode cX11_races 119 = .ok (.invokestatic 119, 3) := by decide +kernel
theorem dX11_races_12 : decode cX11_races 12 = .ok (.iload_n 2, 1) := by decide +kernel
theorem dX11_races_122 : decode cX11_races 122 = .ok (.ireturn, 1) := by decide +kernel
theorem dX11_races_13 : decode cX11_races 13 = .ok (.i2l, 1) := by decide +kernel
theorem dX11_races_14 : decode cX11_races 14 = .ok (.lconst 0, 1) := by decide +kernel
theorem dX11_races_15 : decode cX11_races 15 = .ok (.ldc2_w 66, 3) := by decide +kernel
theorem dX11_races_18 : decode cX11_races 18 = .ok (.invokestatic 56, 3) := by decide +kernel
theorem dX11_races_2 : decode cX11_races 2 = .ok (.lconst 0, 1) := by decide +kernel
theorem dX11_races_21 : decode cX11_races 21 = .ok (.ifCond .ne 10, 3) := by decide +kernel
theorem dX11_races_24 : decode cX11_races 24 = .ok (.aload_n 0, 1) := by decide +kernel
theorem dX11_races_25 : decode cX11_races 25 = .ok (.bipush (-2), 2) := by decide +kernel
theorem dX11_races_27 : decode cX11_races 27 = .ok (.invokevirtual 68, 3) := by decide +kernel
theorem dX11_races_3 : decode cX11_races 3 = .ok (.ldc2_w 191, 3) := by decide +kernel
theorem dX11_races_30 : decode cX11_races 30 = .ok (.ireturn, 1) := by decide +kernel
theorem dX11_races_31 : decode cX11_races 31 = .ok (.iload_n 1, 1) := by decide +kernel
theorem dX11_races_32 : decode cX11_races 32 = .ok (.i2l, 1) := by decide +kernel
theorem dX11_races_33 : decode cX11_races 33 = .ok (.lstore_n 3, 1) := by decide +kernel
theorem dX11_races_34 : decode cX11_races 34 = .ok (.aload_n 0, 1) := by decide +kernel
theorem dX11_races_35 : decode cX11_races 35 = .ok (.invokevirtual 137, 3) := by decide +kernel
theorem dX11_races_38 : decode cX11_races 38 = .ok (.iconst 0, 1) := by decide +kernel
theorem dX11_races_39 : decode cX11_races 39 = .ok (.istore 5, 2) := by decide +kernel
theorem dX11_races_41 : decode cX11_races 41 = .ok (.iload 5, 2) := by decide +kernel
theorem dX11_races_43 : decode cX11_races 43 = .ok (.iload_n 2, 1) := by decide +kernel
theorem dX11_races_44 : decode cX11_races 44 = .ok (.if_icmp .ge 71, 3) := by decide +kernel
theorem dX11_races_47 : decode cX11_races 47 = .ok (.lload_n 3, 1) := by decide +kernel
theorem dX11_races_48 : decode cX11_races 48 = .ok (.ldc2_w 193, 3) := by decide +kernel
theorem dX11_races_51 : decode cX11_races 51 = .ok (.lmul, 1) := by decide +kernel
theorem dX11_races_52 : decode cX11_races 52 = .ok (.ldc2_w 195, 3) := by decide +kernel
theorem dX11_races_55 : decode cX11_races 55 = .ok (.ladd, 1) := by decide +kernel
theorem dX11_races_56 : decode cX11_races 56 = .ok (.ldc2_w 197, 3) := by decide +kernel
theorem dX11_races_59 : decode cX11_races 59 = .ok (.lrem, 1) := by decide +kernel
theorem dX11_races_6 : decode cX11_races 6 = .ok (.invokestatic 56, 3) := by decide +kernel
theorem dX11_races_60 : decode cX11_races 60 = .ok (.lstore_n 3, 1) := by decide +kernel
theorem dX11_races_61 : decode cX11_races 61 = .ok (.lload_n 3, 1) := by decide +kernel
theorem dX11_races_62 : decode cX11_races 62 = .ok (.ldc2_w 199, 3) := by decide +kernel
theorem dX11_races_65 : decode cX11_races 65 = .ok (.ldiv, 1) := by decide +kernel
theorem dX11_races_66 : decode cX11_races 66 = .ok (.ldc2_w 185, 3) := by decide +kernel
theorem dX11_races_69 : decode cX11_races 69 = .ok (.lrem, 1) := by decide +kernel
theorem dX11_races_70 : decode cX11_races 70 = .ok (.l2i, 1) := by decide +kernel
theorem dX11_races_71 : decode cX11_races 71 = .ok (.istore 6, 2) := by decide +kernel
theorem dX11_races_73 : decode cX11_races 73 = .ok (.aload_n 0, 1) := by decide +kernel
theorem dX11_races_74 : decode cX11_races 74 = .ok (.iload 6, 2) := by decide +kernel
theorem dX11_races_76 : decode cX11_races 76 = .ok (.invokevirtual 123, 3) := by decide +kernel
theorem dX11_races_79 : decode cX11_races 79 = .ok (.ifCond .eq 23, 3) := by decide +kernel
theorem dX11_races_82 : decode cX11_races 82 = .ok (.aload_n 0, 1) := by decide +kernel
theorem dX11_races_83 : decode cX11_races 83 = .ok (.getfield 27, 3) := by decide +kernel
theorem dX11_races_86 : decode cX11_races 86 = .ok (.bipush 11, 2) := by decide +kernel
theorem dX11_races_88 : decode cX11_races 88 = .ok (.iload 6, 2) := by decide +kernel
theorem dX11_races_9 : decode cX11_races 9 = .ok (.ifCond .eq 15, 3) := by decide +kernel
theorem dX11_races_90 : decode cX11_races 90 = .ok (.iadd, 1) := by decide +kernel
theorem dX11_races_91 : decode cX11_races 91 = .ok (.lload_n 3, 1) := by decide +kernel
theorem dX11_races_92 : decode cX11_races 92 = .ok (.ldc2_w 201, 3) := by decide +kernel
theorem dX11_races_95 : decode cX11_races 95 = .ok (.ldiv, 1) := by decide +kernel
theorem dX11_races_96 : decode cX11_races 96 = .ok (.ldc2_w 64, 3) := by decide +kernel
theorem dX11_races_99 : decode cX11_races 99 = .ok (.lrem, 1) := by decide +kernel
theorem dX11_stumble_0 : decode cX11_stumble 0 = .ok (.aload_n 0, 1) := by decide +kernel
theorem dX11_stumble_1 : decode cX11_stumble 1 = .ok (.iload_n 1, 1) := by decide +kernel
theorem dX11_stumble_10 : decode cX11_stumble 10 = .ok (.lconst 0, 1) := by decide +kernel
theorem dX11_stumble_100 : decode cX11_stumble 100 = .ok (.istore 12, 2) := by decide +kernel
theorem dX11_stumble_102 : decode cX11_stumble 102 = .ok (.iload 12, 2) := by decide +kernel
theorem dX11_stumble_104 : decode cX11_stumble 104 = .ok (.iload_n 3, 1) := by decide +kernel
theorem dX11_stumble_105 : decode cX11_stumble 105 = .ok (.if_icmp .ge 73, 3) := by decide +kernel
theorem dX11_stumble_108 : decode cX11_stumble 108 = .ok (.lload 10, 2) := by decide +kernel
theorem dX11_stumble_11 : decode cX11_stumble 11 = .ok (.ldc2_w 66, 3) := by decide +kernel
theorem dX11_stumble_110 : decode cX11_stumble 110 = .ok (.iload 9, 2) := by decide +kernel
theorem dX11_stumble_112 : decode cX11_stumble 112 = .ok (.iload 12, 2) := by decide +kernel
theorem dX11_stumble_114 : decode cX11_stumble 114 = .ok (.invokestatic 161, 3) := by decide +kernel
theorem dX11_stumble_117 : decode cX11_stumble 117 = .ok (.ifCond .eq 9, 3) := by decide +kernel
theorem dX11_stumble_120 : decode cX11_stumble 120 = .ok (.iload 4, 2) := by decide +kernel
theorem dX11_stumble_122 : decode cX11_stumble 122 = .ok (.i2l, 1) := by decide +kernel
theorem dX11_stumble_123 : decode cX11_stumble 123 = .ok (.goto 9, 3) := by decide +kernel
theorem dX11_stumble_126 : decode cX11_stumble 126 = .ok (.bipush 10, 2) := by decide +kernel
theorem dX11_stumble_128 : decode cX11_stumble 128 = .ok (.iload 4, 2) := by decide +kernel
theorem dX11_stumble_130 : decode cX11_stumble 130 = .ok (.isub, 1) := by decide +kernel
theorem dX11_stumble_131 : decode cX11_stumble 131 = .ok (.i2l, 1) := by decide +kernel
theorem dX11_stumble_132 : decode cX11_stumble 132 = .ok (.lmul, 1) := by decide +kernel
theorem dX11_stumble_133 : decode cX11_stumble 133 = .ok (.lstore 10, 2) := by decide +kernel
theorem dX11_stumble_135 : decode cX11_stumble 135 = .ok (.aload_n 0, 1) := by decide +kernel
theorem dX11_stumble_136 : decode cX11_stumble 136 = .ok (.getfield 27, 3) := by decide +kernel
theorem dX11_stumble_139 : decode cX11_stumble 139 = .ok (.bipush 35, 2) := by decide +kernel
theorem dX11_stumble_14 : decode cX11_stumble 14 = .ok (.invokestatic 56, 3) := by decide +kernel
theorem dX11_stumble_141 : decode cX11_stumble 141 = .ok (.dup2, 1) := by decide +kernel
theorem dX11_stumble_142 : decode cX11_stumble 142 = .ok (.iaload, 1) := by decide +kernel
theorem dX11_stumble_143 : decode cX11_stumble 143 = .ok (.iconst 1, 1) := by decide +kernel
theorem dX11_stumble_144 : decode cX11_stumble 144 = .ok (.iadd, 1) := by decide +kernel
theorem dX11_stumble_145 : decode cX11_stumble 145 = .ok (.iastore, 1) := by decide +kernel
theorem dX11_stumble_146 : decode cX11_stumble 146 = .ok (.aload_n 0, 1) := by decide +kernel
theorem dX11_stumble_147 : decode cX11_stumble 147 = .ok (.getfield 27, 3) := by decide +kernel
theorem dX11_stumble_150 : decode cX11_stumble 150 = .ok (.iload_n 1, 1) := by decide +kernel
theorem dX11_stumble_151 : decode cX11_stumble 151 = .ok (.invokestatic 101, 3) := by decide +kernel
theorem dX11_stumble_154 : decode cX11_stumble 154 = .ok (.ifCond .ne 18, 3) := by decide +kernel
theorem dX11_stumble_157 : decode cX11_stumble 157 = .ok (.aload_n 0, 1) := by decide +kernel
theorem dX11_stumble_158 : decode cX11_stumble 158 = .ok (.getfield 27, 3) := by decide +kernel
theorem dX11_stumble_161 : decode cX11_stumble 161 = .ok (.iload_n 1, 1) := by decide +kernel
theorem dX11_stumble_162 : decode cX11_stumble 162 = .ok (.iload 9, 2) := by decide +kernel
theorem dX11_stumble_164 : decode cX11_stumble 164 = .ok (.iload 12, 2) := by decide +kernel
theorem dX11_stumble_166 : decode cX11_stumble 166 = .ok (.invokestatic 161, 3) := by decide +kernel
theorem dX11_stumble_169 : decode cX11_stumble 169 = .ok (.invokestatic 105, 3) := by decide +kernel
theorem dX11_stumble_17 : decode cX11_stumble 17 = .ok (.ifCond .eq 28, 3) := by decide +kernel
theorem dX11_stumble_172 : decode cX11_stumble 172 = .ok (.iinc 12 1, 3) := by decide +kernel
theorem dX11_stumble_175 : decode cX11_stumble 175 = .ok (.goto (-73), 3) := by decide +kernel
theorem dX11_stumble_178 : decode cX11_stumble 178 = .ok (.lload 5, 2) := by decide +kernel
theorem dX11_stumble_180 : decode cX11_stumble 180 = .ok (.aload_n 0, 1) := by decide +kernel
theorem dX11_stumble_181 : decode cX11_stumble 181 = .ok (.getfield 27, 3) := by decide +kernel
theorem dX11_stumble_184 : decode cX11_stumble 184 = .ok (.iconst 5, 1) := by decide +kernel
theorem dX11_stumble_185 : decode cX11_stumble 185 = .ok (.iload_n 1, 1) := by decide +kernel
theorem dX11_stumble_186 : decode cX11_stumble 186 = .ok (.iadd, 1) := by decide +kernel
theorem dX11_stumble_187 : decode cX11_stumble 187 = .ok (.iaload, 1) := by decide +kernel
theorem dX11_stumble_188 : decode cX11_stumble 188 = .ok (.iload_n 2, 1) := by decide +kernel
theorem dX11_stumble_189 : decode cX11_stumble 189 = .ok (.if_icmp .lt 8, 3) := by decide +kernel
theorem dX11_stumble_192 : decode cX11_stumble 192 = .ok (.lload 10, 2) := by decide +kernel
theorem dX11_stumble_194 : decode cX11_stumble 194 = .ok (.goto 4, 3) := by decide +kernel
theorem dX11_stumble_197 : decode cX11_stumble 197 = .ok (.lconst 0, 1) := by decide +kernel
theorem dX11_stumble_198 : decode cX11_stumble 198 = .ok (.ladd, 1) := by decide +kernel
theorem dX11_stumble_199 : decode cX11_stumble 199 = .ok (.lstore 5, 2) := by decide +kernel
theorem dX11_stumble_2 : decode cX11_stumble 2 = .ok (.invokevirtual 123, 3) := by decide +kernel
theorem dX11_stumble_20 : decode cX11_stumble 20 = .ok (.iload_n 3, 1) := by decide +kernel
theorem dX11_stumble_201 : decode cX11_stumble 201 = .ok (.iinc 9 1, 3) := by decide +kernel
theorem dX11_stumble_204 : decode cX11_stumble 204 = .ok (.goto (-120), 3) := by decide +kernel
theorem dX11_stumble_207 : decode cX11_stumble 207 = .ok (.aload_n 0, 1) := by decide +kernel
theorem dX11_stumble_208 : decode cX11_stumble 208 = .ok (.lload 5, 2) := by decide +kernel
theorem dX11_stumble_21 : decode cX11_stumble 21 = .ok (.i2l, 1) := by decide +kernel
theorem dX11_stumble_210 : decode cX11_stumble 210 = .ok (.lload 7, 2) := by decide +kernel
theorem dX11_stumble_212 : decode cX11_stumble 212 = .ok (.invokevirtual 187, 3) := by decide +kernel
theorem dX11_stumble_215 : decode cX11_stumble 215 = .ok (.iconst 1, 1) := by decide +kernel
theorem dX11_stumble_216 : decode cX11_stumble 216 = .ok (.ireturn, 1) := by decide +kernel
theorem dX11_stumble_22 : decode cX11_stumble 22 = .ok (.lconst 0, 1) := by decide +kernel
theorem dX11_stumble_23 : decode cX11_stumble 23 = .ok (.ldc2_w 185, 3) := by decide +kernel
theorem dX11_stumble_26 : decode cX11_stumble 26 = .ok (.invokestatic 56, 3) := by decide +kernel
theorem dX11_stumble_29 : decode cX11_stumble 29 = .ok (.ifCond .eq 16, 3) := by decide +kernel
theorem dX11_stumble_32 : decode cX11_stumble 32 = .ok (.iload 4, 2) := by decide +kernel
theorem dX11_stumble_34 : decode cX11_stumble 34 = .ok (.i2l, 1) := by decide +kernel
theorem dX11_stumble_35 : decode cX11_stumble 35 = .ok (.lconst 0, 1) := by decide +kernel
theorem dX11_stumble_36 : decode cX11_stumble 36 = .ok (.ldc2_w 64, 3) := by decide +kernel
theorem dX11_stumble_39 : decode cX11_stumble 39 = .ok (.invokestatic 56, 3) := by decide +kernel
theorem dX11_stumble_42 : decode cX11_stumble 42 = .ok (.ifCond .ne 10, 3) := by decide +kernel
theorem dX11_stumble_45 : decode cX11_stumble 45 = .ok (.aload_n 0, 1) := by decide +kernel
theorem dX11_stumble_46 : decode cX11_stumble 46 = .ok (.bipush (-2), 2) := by decide +kernel
theorem dX11_stumble_48 : decode cX11_stumble 48 = .ok (.invokevirtual 68, 3) := by decide +kernel
theorem dX11_stumble_5 : decode cX11_stumble 5 = .ok (.ifCond .eq 40, 3) := by decide +kernel
theorem dX11_stumble_51 : decode cX11_stumble 51 = .ok (.ireturn, 1) := by decide +kernel
theorem dX11_stumble_52 : decode cX11_stumble 52 = .ok (.lconst 0, 1) := by decide +kernel
theorem dX11_stumble_53 : decode cX11_stumble 53 = .ok (.lstore 5, 2) := by decide +kernel
theorem dX11_stumble_55 : decode cX11_stumble 55 = .ok (.lconst 1, 1) := by decide +kernel
theorem dX11_stumble_56 : decode cX11_stumble 56 = .ok (.lstore 7, 2) := by decide +kernel
theorem dX11_stumble_58 : decode cX11_stumble 58 = .ok (.iconst 0, 1) := by decide +kernel
theorem dX11_stumble_59 : decode cX11_stumble 59 = .ok (.istore 9, 2) := by decide +kernel
theorem dX11_stumble_61 : decode cX11_stumble 61 = .ok (.iload 9, 2) := by decide +kernel
theorem dX11_stumble_63 : decode cX11_stumble 63 = .ok (.iload_n 3, 1) := by decide +kernel
theorem dX11_stumble_64 : decode cX11_stumble 64 = .ok (.if_icmp .ge 17, 3) := by decide +kernel
theorem dX11_stumble_67 : decode cX11_stumble 67 = .ok (.lload 7, 2) := by decide +kernel
theorem dX11_stumble_69 : decode cX11_stumble 69 = .ok (.ldc2_w 64, 3) := by decide +kernel
theorem dX11_stumble_72 : decode cX11_stumble 72 = .ok (.lmul, 1) := by decide +kernel
theorem dX11_stumble_73 : decode cX11_stumble 73 = .ok (.lstore 7, 2) := by decide +kernel
theorem dX11_stumble_75 : decode cX11_stumble 75 = .ok (.iinc 9 1, 3) := by decide +kernel
theorem dX11_stumble_78 : decode cX11_stumble 78 = .ok (.goto (-17), 3) := by decide +kernel
theorem dX11_stumble_8 : decode cX11_stumble 8 = .ok (.iload_n 2, 1) := by decide +kernel
theorem dX11_stumble_81 : decode cX11_stumble 81 = .ok (.iconst 0, 1) := by decide +kernel
theorem dX11_stumble_82 : decode cX11_stumble 82 = .ok (.istore 9, 2) := by decide +kernel
theorem dX11_stumble_84 : decode cX11_stumble 84 = .ok (.iload 9, 2) := by decide +kernel
theorem dX11_stumble_86 : decode cX11_stumble 86 = .ok (.iconst 1, 1) := by decide +kernel
theorem dX11_stumble_87 : decode cX11_stumble 87 = .ok (.iload_n 3, 1) := by decide +kernel
theorem dX11_stumble_88 : decode cX11_stumble 88 = .ok (.ishl, 1) := by decide +kernel
theorem dX11_stumble_89 : decode cX11_stumble 89 = .ok (.if_icmp .ge 118, 3) := by decide +kernel
theorem dX11_stumble_9 : decode cX11_stumble 9 = .ok (.i2l, 1) := by decide +kernel
theorem dX11_stumble_92 : decode cX11_stumble 92 = .ok (.lconst 1, 1) := by decide +kernel
theorem dX11_stumble_93 : decode cX11_stumble 93 = .ok (.lstore 10, 2) := by decide +kernel
theorem dX11_stumble_95 : decode cX11_stumble 95 = .ok (.aload_n 0, 1) := by decide +kernel
theorem dX11_stumble_96 : decode cX11_stumble 96 = .ok (.invokevirtual 137, 3) := by decide +kernel
theorem dX11_stumble_99 : decode cX11_stumble 99 = .ok (.iconst 0, 1) := by decide +kernel
theorem mm_X11_stumble_c66 : Cond.constantLong RX11 66 (60) ∈ wsX11_stumble := by decide +kernel
theorem mm_X11_stumble_c185 : Cond.constantLong RX11 185 (6) ∈ wsX11_stumble := by decide +kernel
theorem mm_X11_stumble_c64 : Cond.constantLong RX11 64 (10) ∈ wsX11_stumble := by decide +kernel
theorem in_X11_stumble_X11 : ∀ w ∈ wsX110, w ∈ wsX11_stumble := by decide +kernel
theorem lk_X11_stumble_27 : Cond.fieldLink RX11 27 "EggSpoonsModel" "hand" "[I" ∈ wsX11_stumble := by decide +kernel
theorem hdV_X11_fraction : yX11_fraction.cls = RX11 ∧ yX11_fraction.cls ≠ "java/lang/invoke/MethodHandle" ∧ yX11_fraction.cls ≠ "java/lang/invoke/VarHandle" ∧ (parseMethodDescriptor yX11_fraction.desc).map (fun d => d.parameters.length) = some 2 := by decide +kernel
set_option maxHeartbeats 4000000 in
set_option maxRecDepth 100000 in
/-- stumble -/
theorem m_stumble (l : Launch) (X : EX) (m0 : Nat) (ma : Nat → Nat) (la : Int64) (lb : Int64) (n : Nat) (t : Nat → Nat) (v : Nat → Int32) (fa : Nat → Int32) (ba : Nat → Nat) (fh : Nat → Int32) (bh : Nat → Nat) (fr : Nat → Int32) (x1 : Int32) (x2 : Int32) (x3 : Int32) (x4 : Int32) (hI_n : n ≤ 150) (hI_t : InT t) (hI_fa : InM fa ba) (hI_fh : InM fh bh) (sz : Nat) : Met l yX11_stumble wsX11_stumble ({ frames := 3, cells := 0, slots := 0, locals := 72 } : Room) (pE X [.ref m0, .int x1, .int x2, .int x3, .int x4] (@HAppend.hAppend va_W va_W va_W _ (mW m0 ma la lb n t v) (@HAppend.hAppend va_W va_W va_W _ ([((ma 0), .inl (X.2.1, 371, .inl fa))]) (@HAppend.hAppend va_W va_W va_W _ ([((ma 6), .inl (X.2.1, 55, .inl fh))]) ([((ma 3), .inl (X.2.1, 3, .inl fr))])))) sz) (qI (fun (r : Int32) (u : (Int64) × (Int64) × (Nat → Int32) × (Nat → Nat) × (Nat → Int32)) => InM u.2.2.1 u.2.2.2.1 ∧ (True)) X (fun (u : (Int64) × (Int64) × (Nat → Int32) × (Nat → Nat) × (Nat → Int32)) => @HAppend.hAppend va_W va_W va_W _ (mW m0 ma u.1 u.2.1 n t v) (@HAppend.hAppend va_W va_W va_W _ ([((ma 0), .inl (X.2.1, 371, .inl fa))]) (@HAppend.hAppend va_W va_W va_W _ ([((ma 6), .inl (X.2.1, 55, .inl u.2.2.1))]) ([((ma 3), .inl (X.2.1, 3, .inl u.2.2.2.2))])))) (@HAppend.hAppend va_W va_W va_W _ (mW m0 ma la lb n t v) (@HAppend.hAppend va_W va_W va_W _ ([((ma 0), .inl (X.2.1, 371, .inl fa))]) (@HAppend.hAppend va_W va_W va_W _ ([((ma 6), .inl (X.2.1, 55, .inl fh))]) ([((ma 3), .inl (X.2.1, 3, .inl fr))])))) sz) 0 0 (va_A (@HAppend.hAppend va_W va_W va_W _ (mW m0 ma la lb n t v) (@HAppend.hAppend va_W va_W va_W _ ([((ma 0), .inl (X.2.1, 371, .inl fa))]) (@HAppend.hAppend va_W va_W va_W _ ([((ma 6), .inl (X.2.1, 55, .inl fh))]) ([((ma 3), .inl (X.2.1, 3, .inl fr))])))) sz) := by
  refine mk_met (B := (va_A (@HAppend.hAppend va_W va_W va_W _ (mW m0 ma la lb n t v) (@HAppend.hAppend va_W va_W va_W _ ([((ma 0), .inl (X.2.1, 371, .inl fa))]) (@HAppend.hAppend va_W va_W va_W _ ([((ma 6), .inl (X.2.1, 55, .inl fh))]) ([((ma 3), .inl (X.2.1, 3, .inl fr))])))) sz)) (A := (va_A (@HAppend.hAppend va_W va_W va_W _ (mW m0 ma la lb n t v) (@HAppend.hAppend va_W va_W va_W _ ([((ma 0), .inl (X.2.1, 371, .inl fa))]) (@HAppend.hAppend va_W va_W va_W _ ([((ma 6), .inl (X.2.1, 55, .inl fh))]) ([((ma 3), .inl (X.2.1, 3, .inl fr))])))) sz)) (cc := cX11_stumble) (maxL := 13) (ret := (some .int)) (by decide) rfl (Nat.le_of_ble_eq_true rfl) k_w k_a (fun p e s m below meth c S zr zlk znm zsz G ls hl => ?_)
  have S : CallFix p m c cX11_stumble 13 s _ wsX11_stumble RX11 := S
  have zx := S.1
  have zb := S.2.1
  have hl : lv_has ls 13 [(0, .ref m0), (1, .int x1), (2, .int x2), (3, .int x3), (4, .int x4)] := hl
  have hO_t := hI_t
  obtain ⟨ht0_t, ht1_t⟩ := hO_t
  have hO_fa := hI_fa.2
  obtain ⟨hm0_fa, hm1_fa, hm2_fa, hm3_fa, hm4_fa⟩ := hO_fa
  have hO_fh := hI_fh.2
  obtain ⟨hm0_fh, hm1_fh, hm2_fh, hm3_fh, hm4_fh⟩ := hO_fh
  refine lv_aload_n zx zb dX11_stumble_0 rfl (lv_at hl 0 rfl) ?_
  refine lv_iload_n zx zb dX11_stumble_1 rfl (lv_at hl 1 rfl) ?_
  refine o_ri (cells' := 0) (slots' := 0) G rfl rfl (n_V (As := [.int x1]) (rest := []) (C := RX11) (T := TX11) (N := 18) (ci := 9) S G (m_isOne l X m0 ma la lb n t v fa ba x1 hI_n hI_t hI_fa s.heap.size) gX11_stumble_X11_isOne rfl rfl rfl hdV_X11_isOne ⟨Nat.le_of_ble_eq_true rfl, Nat.le_of_ble_eq_true rfl⟩ [0, 1] rfl rfl 0 rfl rfl rfl hl.1 (Nat.le_of_ble_eq_true rfl) dX11_stumble_2 ⟨Nat.le_of_ble_eq_true rfl, Nat.le_of_ble_eq_true rfl⟩) (fun r_1 u_1 H locs hp_1 G => ?_)
  have G : wd X (va_A (@HAppend.hAppend va_W va_W va_W _ (mW m0 ma la lb n t v) (@HAppend.hAppend va_W va_W va_W _ ([((ma 0), .inl (X.2.1, 371, .inl fa))]) (@HAppend.hAppend va_W va_W va_W _ ([((ma 6), .inl (X.2.1, 55, .inl fh))]) ([((ma 3), .inl (X.2.1, 3, .inl fr))])))) sz) (va_A (@HAppend.hAppend va_W va_W va_W _ (mW m0 ma la lb n t v) (@HAppend.hAppend va_W va_W va_W _ ([((ma 0), .inl (X.2.1, 371, .inl fa))]) (@HAppend.hAppend va_W va_W va_W _ ([((ma 6), .inl (X.2.1, 55, .inl fh))]) ([((ma 3), .inl (X.2.1, 3, .inl fr))])))) sz) s (@HAppend.hAppend va_W va_W va_W _ (mW m0 ma la lb n t v) (@HAppend.hAppend va_W va_W va_W _ ([((ma 0), .inl (X.2.1, 371, .inl fa))]) (@HAppend.hAppend va_W va_W va_W _ ([((ma 6), .inl (X.2.1, 55, .inl fh))]) ([((ma 3), .inl (X.2.1, 3, .inl fr))])))) H locs := G
  rcases hp_1 with ⟨rfl, hj_1⟩ | rfl
  · obtain ⟨j_1, hj_1, rfl⟩ := hj_1
    refine lv_if_eq (tgt := 45) zx zb dX11_stumble_5 (by decide) (fun c_2 => absurd c_2 (by decide)) (fun c_2 => ?_)
    refine lv_iload_n zx zb dX11_stumble_8 rfl (lv_at hl 2 rfl) ?_
    refine lv_i2l (v := (Int32.toInt64 x2)) zx zb dX11_stumble_9 rfl ?_
    refine lv_lconst (v := (Int32.toInt64 0)) zx zb dX11_stumble_10 (by decide) ?_
    refine lv_ldc2 zx zb S.2.2.2.1 (S.2.2.2.2 _ mm_X11_stumble_c66) dX11_stumble_11 ?_
    refine k_ld (v := (Int32.toInt64 60)) (by decide) ?_
    refine o_ri (cells' := 0) (slots' := 0) G rfl rfl (n_S (As := [.long (Int32.toInt64 x2), .long (Int32.toInt64 0), .long (Int32.toInt64 60)]) (rest := []) S G (m_in l X x2 0 60 H.size) gX11_stumble_X11_in rfl rfl rfl hdS_X11_in ⟨Nat.le_of_ble_eq_true rfl, Nat.le_of_ble_eq_true rfl⟩ [] rfl rfl rfl hl.1 (Nat.le_of_ble_eq_true rfl) dX11_stumble_14 ⟨Nat.le_of_ble_eq_true rfl, Nat.le_of_ble_eq_true rfl⟩) (fun r_3 u_3 H locs hp_3 G => ?_)
    have G : wd X (va_A (@HAppend.hAppend va_W va_W va_W _ (mW m0 ma la lb n t v) (@HAppend.hAppend va_W va_W va_W _ ([((ma 0), .inl (X.2.1, 371, .inl fa))]) (@HAppend.hAppend va_W va_W va_W _ ([((ma 6), .inl (X.2.1, 55, .inl fh))]) ([((ma 3), .inl (X.2.1, 3, .inl fr))])))) sz) (va_A (@HAppend.hAppend va_W va_W va_W _ (mW m0 ma la lb n t v) (@HAppend.hAppend va_W va_W va_W _ ([((ma 0), .inl (X.2.1, 371, .inl fa))]) (@HAppend.hAppend va_W va_W va_W _ ([((ma 6), .inl (X.2.1, 55, .inl fh))]) ([((ma 3), .inl (X.2.1, 3, .inl fr))])))) sz) s (@HAppend.hAppend va_W va_W va_W _ (mW m0 ma la lb n t v) (@HAppend.hAppend va_W va_W va_W _ ([((ma 0), .inl (X.2.1, 371, .inl fa))]) (@HAppend.hAppend va_W va_W va_W _ ([((ma 6), .inl (X.2.1, 55, .inl fh))]) ([((ma 3), .inl (X.2.1, 3, .inl fr))])))) H locs := G
    rcases hp_3 with ⟨rfl, hw_3⟩ | ⟨rfl, hw_3⟩
    · obtain ⟨j_3, ⟨ja_3, jb_3⟩, rfl⟩ := k_natR (a := 0) (b := 60) hw_3 rfl rfl (by decide) (by decide)
      refine lv_if_eq (tgt := 45) zx zb dX11_stumble_17 (by decide) (fun c_4 => absurd c_4 (by decide)) (fun c_4 => ?_)
      refine lv_iload_n zx zb dX11_stumble_20 rfl (lv_at hl 3 rfl) ?_
      refine lv_i2l (v := (Int32.toInt64 x3)) zx zb dX11_stumble_21 rfl ?_
      refine lv_lconst (v := (Int32.toInt64 0)) zx zb dX11_stumble_22 (by decide) ?_
      refine lv_ldc2 zx zb S.2.2.2.1 (S.2.2.2.2 _ mm_X11_stumble_c185) dX11_stumble_23 ?_
      refine k_ld (v := (Int32.toInt64 6)) (by decide) ?_
      refine o_ri (cells' := 0) (slots' := 0) G rfl rfl (n_S (As := [.long (Int32.toInt64 x3), .long (Int32.toInt64 0), .long (Int32.toInt64 6)]) (rest := []) S G (m_in l X x3 0 6 H.size) gX11_stumble_X11_in rfl rfl rfl hdS_X11_in ⟨Nat.le_of_ble_eq_true rfl, Nat.le_of_ble_eq_true rfl⟩ [] rfl rfl rfl hl.1 (Nat.le_of_ble_eq_true rfl) dX11_stumble_26 ⟨Nat.le_of_ble_eq_true rfl, Nat.le_of_ble_eq_true rfl⟩) (fun r_5 u_5 H locs hp_5 G => ?_)
      have G : wd X (va_A (@HAppend.hAppend va_W va_W va_W _ (mW m0 ma la lb n t v) (@HAppend.hAppend va_W va_W va_W _ ([((ma 0), .inl (X.2.1, 371, .inl fa))]) (@HAppend.hAppend va_W va_W va_W _ ([((ma 6), .inl (X.2.1, 55, .inl fh))]) ([((ma 3), .inl (X.2.1, 3, .inl fr))])))) sz) (va_A (@HAppend.hAppend va_W va_W va_W _ (mW m0 ma la lb n t v) (@HAppend.hAppend va_W va_W va_W _ ([((ma 0), .inl (X.2.1, 371, .inl fa))]) (@HAppend.hAppend va_W va_W va_W _ ([((ma 6), .inl (X.2.1, 55, .inl fh))]) ([((ma 3), .inl (X.2.1, 3, .inl fr))])))) sz) s (@HAppend.hAppend va_W va_W va_W _ (mW m0 ma la lb n t v) (@HAppend.hAppend va_W va_W va_W _ ([((ma 0), .inl (X.2.1, 371, .inl fa))]) (@HAppend.hAppend va_W va_W va_W _ ([((ma 6), .inl (X.2.1, 55, .inl fh))]) ([((ma 3), .inl (X.2.1, 3, .inl fr))])))) H locs := G
      rcases hp_5 with ⟨rfl, hw_5⟩ | ⟨rfl, hw_5⟩
      · obtain ⟨j_5, ⟨ja_5, jb_5⟩, rfl⟩ := k_natR (a := 0) (b := 6) hw_5 rfl rfl (by decide) (by decide)
        refine lv_if_eq (tgt := 45) zx zb dX11_stumble_29 (by decide) (fun c_6 => absurd c_6 (by decide)) (fun c_6 => ?_)
        refine lv_iload zx zb dX11_stumble_32 (lv_at hl 4 rfl) ?_
        refine lv_i2l (v := (Int32.toInt64 x4)) zx zb dX11_stumble_34 rfl ?_
        refine lv_lconst (v := (Int32.toInt64 0)) zx zb dX11_stumble_35 (by decide) ?_
        refine lv_ldc2 zx zb S.2.2.2.1 (S.2.2.2.2 _ mm_X11_stumble_c64) dX11_stumble_36 ?_
        refine k_ld (v := (Int32.toInt64 10)) (by decide) ?_
        refine o_ri (cells' := 0) (slots' := 0) G rfl rfl (n_S (As := [.long (Int32.toInt64 x4), .long (Int32.toInt64 0), .long (Int32.toInt64 10)]) (rest := []) S G (m_in l X x4 0 10 H.size) gX11_stumble_X11_in rfl rfl rfl hdS_X11_in ⟨Nat.le_of_ble_eq_true rfl, Nat.le_of_ble_eq_true rfl⟩ [] rfl rfl rfl hl.1 (Nat.le_of_ble_eq_true rfl) dX11_stumble_39 ⟨Nat.le_of_ble_eq_true rfl, Nat.le_of_ble_eq_true rfl⟩) (fun r_7 u_7 H locs hp_7 G => ?_)
        have G : wd X (va_A (@HAppend.hAppend va_W va_W va_W _ (mW m0 ma la lb n t v) (@HAppend.hAppend va_W va_W va_W _ ([((ma 0), .inl (X.2.1, 371, .inl fa))]) (@HAppend.hAppend va_W va_W va_W _ ([((ma 6), .inl (X.2.1, 55, .inl fh))]) ([((ma 3), .inl (X.2.1, 3, .inl fr))])))) sz) (va_A (@HAppend.hAppend va_W va_W va_W _ (mW m0 ma la lb n t v) (@HAppend.hAppend va_W va_W va_W _ ([((ma 0), .inl (X.2.1, 371, .inl fa))]) (@HAppend.hAppend va_W va_W va_W _ ([((ma 6), .inl (X.2.1, 55, .inl fh))]) ([((ma 3), .inl (X.2.1, 3, .inl fr))])))) sz) s (@HAppend.hAppend va_W va_W va_W _ (mW m0 ma la lb n t v) (@HAppend.hAppend va_W va_W va_W _ ([((ma 0), .inl (X.2.1, 371, .inl fa))]) (@HAppend.hAppend va_W va_W va_W _ ([((ma 6), .inl (X.2.1, 55, .inl fh))]) ([((ma 3), .inl (X.2.1, 3, .inl fr))])))) H locs := G
        rcases hp_7 with ⟨rfl, hw_7⟩ | ⟨rfl, hw_7⟩
        · obtain ⟨j_7, ⟨ja_7, jb_7⟩, rfl⟩ := k_natR (a := 0) (b := 10) hw_7 rfl rfl (by decide) (by decide)
          refine lv_if_ne (tgt := 52) zx zb dX11_stumble_42 (by decide) (fun c_8 => ?_) (fun c_8 => absurd c_8 (by decide))
          refine lv_lconst (v := (Int32.toInt64 0)) zx zb dX11_stumble_52 (by decide) ?_
          refine lv_lstore (lv' := [(5, .long (Int32.toInt64 0)), (0, .ref m0), (1, .int (nI j_1)), (2, .int (nI j_3)), (3, .int (nI j_5)), (4, .int (nI j_7))]) zx zb dX11_stumble_53 hl (by decide) rfl (fun ls hl => ?_)
          refine lv_lconst (v := (Int32.toInt64 1)) zx zb dX11_stumble_55 (by decide) ?_
          refine lv_lstore (lv' := [(7, .long (Int32.toInt64 1)), (5, .long (Int32.toInt64 0)), (0, .ref m0), (1, .int (nI j_1)), (2, .int (nI j_3)), (3, .int (nI j_5)), (4, .int (nI j_7))]) zx zb dX11_stumble_56 hl (by decide) rfl (fun ls hl => ?_)
          refine lv_iconst (v := 0) zx zb dX11_stumble_58 (by decide) ?_
          refine lv_istore (lv' := [(9, .int 0), (7, .long (Int32.toInt64 1)), (5, .long (Int32.toInt64 0)), (0, .ref m0), (1, .int (nI j_1)), (2, .int (nI j_3)), (3, .int (nI j_5)), (4, .int (nI j_7))]) zx zb dX11_stumble_59 hl (by decide) rfl (fun ls hl => ?_)
          refine k_loop (P := ∀ (zm : Nat) (k61 : Nat) (x61_7 : Int64) (H : Heap) (locs : List Loc) (ls : Array Slot), 6 + 1 ≤ k61 + zm → (k61 ≤ 6) → (x61_7 = lN (10 ^ k61)) → wd X (va_A (@HAppend.hAppend va_W va_W va_W _ (mW m0 ma la lb n t v) (@HAppend.hAppend va_W va_W va_W _ ([((ma 0), .inl (X.2.1, 371, .inl fa))]) (@HAppend.hAppend va_W va_W va_W _ ([((ma 6), .inl (X.2.1, 55, .inl fh))]) ([((ma 3), .inl (X.2.1, 3, .inl fr))])))) sz) (va_A (@HAppend.hAppend va_W va_W va_W _ (mW m0 ma la lb n t v) (@HAppend.hAppend va_W va_W va_W _ ([((ma 0), .inl (X.2.1, 371, .inl fa))]) (@HAppend.hAppend va_W va_W va_W _ ([((ma 6), .inl (X.2.1, 55, .inl fh))]) ([((ma 3), .inl (X.2.1, 3, .inl fr))])))) sz) s (@HAppend.hAppend va_W va_W va_W _ (mW m0 ma la lb n t v) (@HAppend.hAppend va_W va_W va_W _ ([((ma 0), .inl (X.2.1, 371, .inl fa))]) (@HAppend.hAppend va_W va_W va_W _ ([((ma 6), .inl (X.2.1, 55, .inl fh))]) ([((ma 3), .inl (X.2.1, 3, .inl fr))])))) H locs → lv_has ls 13 [(9, .int (nI k61)), (7, .long x61_7), (5, .long (Int32.toInt64 0)), (0, .ref m0), (1, .int (nI j_1)), (2, .int (nI j_3)), (3, .int (nI j_5)), (4, .int (nI j_7))] → W p l e _ s m _ below meth c H locs _ _ _ (F0 m 61 ls [])) (fun loop => loop (6 + 1) 0 (Int32.toInt64 1) _ _ _ (by omega) (by omega) (by first | assumption | exact k_p10a | exact k_p10s (by omega) (by assumption)) G hl) ?_
          intro zm
          induction zm with
          | zero => intro k61 x61_7 H locs ls zz q_hk_k61 q_hk_x61_7 _ _; exact absurd zz (by omega)
          | succ zm ih61 =>
            intro k61 x61_7 H locs ls zm_61 hk_k61 hk_x61_7 G hl
            refine lv_iload zx zb dX11_stumble_61 (lv_at hl 0 rfl) ?_
            refine lv_iload_n zx zb dX11_stumble_63 rfl (lv_at hl 6 rfl) ?_
            refine lv_icmp_ge (tgt := 81) zx zb dX11_stumble_64 (by decide) (fun c_9 => ?_) (fun c_9 => ?_)
            · have fc_9 := j_le (a := j_5) (b := k61) (by omega) (by omega) c_9
              refine lv_iconst (v := 0) zx zb dX11_stumble_81 (by decide) ?_
              refine lv_istore (lv' := [(9, .int 0), (7, .long x61_7), (5, .long (Int32.toInt64 0)), (0, .ref m0), (1, .int (nI j_1)), (2, .int (nI j_3)), (3, .int (nI j_5)), (4, .int (nI j_7))]) zx zb dX11_stumble_82 hl (by decide) rfl (fun ls hl => ?_)
              refine k_loop (P := ∀ (zm : Nat) (k84 : Nat) (x84_5 : Int64) (f84_2 : Nat → Int32) (b84_2 : Nat → Nat) (H : Heap) (locs : List Loc) (ls : Array Slot), 64 + 1 ≤ k84 + zm → InM f84_2 b84_2 → (k84 ≤ 64) → wd X (va_A (@HAppend.hAppend va_W va_W va_W _ (mW m0 ma la lb n t v) (@HAppend.hAppend va_W va_W va_W _ ([((ma 0), .inl (X.2.1, 371, .inl fa))]) (@HAppend.hAppend va_W va_W va_W _ ([((ma 6), .inl (X.2.1, 55, .inl fh))]) ([((ma 3), .inl (X.2.1, 3, .inl fr))])))) sz) (va_A (@HAppend.hAppend va_W va_W va_W _ (mW m0 ma la lb n t v) (@HAppend.hAppend va_W va_W va_W _ ([((ma 0), .inl (X.2.1, 371, .inl fa))]) (@HAppend.hAppend va_W va_W va_W _ ([((ma 6), .inl (X.2.1, 55, .inl fh))]) ([((ma 3), .inl (X.2.1, 3, .inl fr))])))) sz) s (@HAppend.hAppend va_W va_W va_W _ (mW m0 ma la lb n t v) (@HAppend.hAppend va_W va_W va_W _ ([((ma 0), .inl (X.2.1, 371, .inl fa))]) (@HAppend.hAppend va_W va_W va_W _ ([((ma 6), .inl (X.2.1, 55, .inl f84_2))]) ([((ma 3), .inl (X.2.1, 3, .inl fr))])))) H locs → lv_has ls 13 [(9, .int (nI k84)), (7, .long x61_7), (5, .long x84_5), (0, .ref m0), (1, .int (nI j_1)), (2, .int (nI j_3)), (3, .int (nI j_5)), (4, .int (nI j_7))] → W p l e _ s m _ below meth c H locs _ _ _ (F0 m 84 ls [])) (fun loop => loop (64 + 1) 0 (Int32.toInt64 0) fh bh _ _ _ (by omega) hI_fh (by omega) G hl) ?_
              intro zm
              induction zm with
              | zero => intro k84 x84_5 f84_2 b84_2 H locs ls zz q_hI_f84_2 q_hk_k84 _ _; exact absurd zz (by omega)
              | succ zm ih84 =>
                intro k84 x84_5 f84_2 b84_2 H locs ls zm_84 hI_f84_2 hk_k84 G hl
                have hO_f84_2 := hI_f84_2.2
                obtain ⟨hm0_f84_2, hm1_f84_2, hm2_f84_2, hm3_f84_2, hm4_f84_2⟩ := hO_f84_2
                refine lv_iload zx zb dX11_stumble_84 (lv_at hl 0 rfl) ?_
                refine lv_iconst (v := 1) zx zb dX11_stumble_86 (by decide) ?_
                refine lv_iload_n zx zb dX11_stumble_87 rfl (lv_at hl 6 rfl) ?_
                refine lv_ishl zx zb dX11_stumble_88 ?_
                obtain ⟨z8, hz8, ez8⟩ := k_shl6 (n := j_5) (by omega)
                refine k_it ez8 ?_
                refine lv_icmp_ge (tgt := 207) zx zb dX11_stumble_89 (by decide) (fun c_10 => ?_) (fun c_10 => ?_)
                · have fc_10 := j_le (a := z8) (b := k84) (by omega) (by omega) c_10
                  refine lv_aload_n zx zb dX11_stumble_207 rfl (lv_at hl 3 rfl) ?_
                  refine lv_lload zx zb dX11_stumble_208 (lv_at hl 2 rfl) ?_
                  refine lv_lload zx zb dX11_stumble_210 (lv_at hl 1 rfl) ?_
                  refine b_wv (cells' := 0) (slots' := 0) (wr := @HAppend.hAppend va_W va_W va_W _ ([((ma 0), .inl (X.2.1, 371, .inl fa))]) (@HAppend.hAppend va_W va_W va_W _ ([((ma 6), .inl (X.2.1, 55, .inl f84_2))]) ([((ma 3), .inl (X.2.1, 3, .inl fr))]))) G rfl rfl [0] [1, 2, 3] rfl rfl rfl rfl (n_V (As := [.long x84_5, .long x61_7]) (rest := []) (C := RX11) (T := TX11) (N := 18) (ci := 9) S G (m_fraction l X m0 ma la lb n t v x84_5 x61_7 hI_n hI_t (k_p10n (by omega) hk_x61_7) H.size) gX11_stumble_X11_fraction rfl rfl rfl hdV_X11_fraction ⟨Nat.le_of_ble_eq_true rfl, Nat.le_of_ble_eq_true rfl⟩ [0] rfl rfl 0 rfl rfl rfl hl.1 (Nat.le_of_ble_eq_true rfl) dX11_stumble_212 ⟨Nat.le_of_ble_eq_true rfl, Nat.le_of_ble_eq_true rfl⟩) (fun u_11 H locs hp_11 G => ?_)
                  obtain ⟨la_11a, lb_11b⟩ := u_11
                  have hq_11 := hp_11
                  have hO_t := hI_t
                  obtain ⟨ht0_t, ht1_t⟩ := hO_t
                  have G : wd X (va_A (@HAppend.hAppend va_W va_W va_W _ (mW m0 ma la lb n t v) (@HAppend.hAppend va_W va_W va_W _ ([((ma 0), .inl (X.2.1, 371, .inl fa))]) (@HAppend.hAppend va_W va_W va_W _ ([((ma 6), .inl (X.2.1, 55, .inl fh))]) ([((ma 3), .inl (X.2.1, 3, .inl fr))])))) sz) (va_A (@HAppend.hAppend va_W va_W va_W _ (mW m0 ma la lb n t v) (@HAppend.hAppend va_W va_W va_W _ ([((ma 0), .inl (X.2.1, 371, .inl fa))]) (@HAppend.hAppend va_W va_W va_W _ ([((ma 6), .inl (X.2.1, 55, .inl fh))]) ([((ma 3), .inl (X.2.1, 3, .inl fr))])))) sz) s (@HAppend.hAppend va_W va_W va_W _ ([((ma 0), .inl (X.2.1, 371, .inl fa))]) (@HAppend.hAppend va_W va_W va_W _ ([((ma 6), .inl (X.2.1, 55, .inl f84_2))]) (@HAppend.hAppend va_W va_W va_W _ ([((ma 3), .inl (X.2.1, 3, .inl fr))]) (mW m0 ma la_11a lb_11b n t v)))) H locs := G
                  refine lv_iconst (v := 1) zx zb dX11_stumble_215 (by decide) ?_
                  exact e_int S zr zlk (vp_nar_int _) G (la_11a, lb_11b, f84_2, b84_2, fr) [3, 0, 1, 2] rfl rfl (Or.inr rfl) (⟨hI_f84_2, trivial⟩) dX11_stumble_216
                · have fc_10 := j_nle (a := z8) (b := k84) (by omega) (by omega) c_10
                  refine lv_lconst (v := (Int32.toInt64 1)) zx zb dX11_stumble_92 (by decide) ?_
                  refine lv_lstore (lv' := [(10, .long (Int32.toInt64 1)), (9, .int (nI k84)), (7, .long x61_7), (5, .long x84_5), (0, .ref m0), (1, .int (nI j_1)), (2, .int (nI j_3)), (3, .int (nI j_5)), (4, .int (nI j_7))]) zx zb dX11_stumble_93 hl (by decide) rfl (fun ls hl => ?_)
                  refine lv_aload_n zx zb dX11_stumble_95 rfl (lv_at hl 4 rfl) ?_
                  refine b_wv (cells' := 0) (slots' := 0) (wr := [((ma 3), .inl (X.2.1, 3, .inl fr))]) G rfl rfl [0, 1, 2] [3] rfl rfl rfl rfl (n_V (As := []) (rest := []) (C := RX11) (T := TX11) (N := 18) (ci := 9) S G (m_layHand l X m0 ma la lb n t v fa ba f84_2 b84_2 hI_n hI_t hI_fa hI_f84_2 H.size) gX11_stumble_X11_layHand rfl rfl rfl hdV_X11_layHand ⟨Nat.le_of_ble_eq_true rfl, Nat.le_of_ble_eq_true rfl⟩ [0, 1, 2] rfl rfl 0 rfl rfl rfl hl.1 (Nat.le_of_ble_eq_true rfl) dX11_stumble_96 ⟨Nat.le_of_ble_eq_true rfl, Nat.le_of_ble_eq_true rfl⟩) (fun u_12 H locs hp_12 G => ?_)
                  obtain ⟨f_12a, b_12b⟩ := u_12
                  obtain ⟨hI_f_12a, hq_12⟩ := hp_12
                  have hO_f_12a := hI_f_12a.2
                  obtain ⟨hm0_f_12a, hm1_f_12a, hm2_f_12a, hm3_f_12a, hm4_f_12a⟩ := hO_f_12a
                  have G : wd X (va_A (@HAppend.hAppend va_W va_W va_W _ (mW m0 ma la lb n t v) (@HAppend.hAppend va_W va_W va_W _ ([((ma 0), .inl (X.2.1, 371, .inl fa))]) (@HAppend.hAppend va_W va_W va_W _ ([((ma 6), .inl (X.2.1, 55, .inl fh))]) ([((ma 3), .inl (X.2.1, 3, .inl fr))])))) sz) (va_A (@HAppend.hAppend va_W va_W va_W _ (mW m0 ma la lb n t v) (@HAppend.hAppend va_W va_W va_W _ ([((ma 0), .inl (X.2.1, 371, .inl fa))]) (@HAppend.hAppend va_W va_W va_W _ ([((ma 6), .inl (X.2.1, 55, .inl fh))]) ([((ma 3), .inl (X.2.1, 3, .inl fr))])))) sz) s (@HAppend.hAppend va_W va_W va_W _ ([((ma 3), .inl (X.2.1, 3, .inl fr))]) (@HAppend.hAppend va_W va_W va_W _ (mW m0 ma la lb n t v) (@HAppend.hAppend va_W va_W va_W _ ([((ma 0), .inl (X.2.1, 371, .inl fa))]) ([((ma 6), .inl (X.2.1, 55, .inl f_12a))])))) H locs := G
                  refine lv_iconst (v := 0) zx zb dX11_stumble_99 (by decide) ?_
                  refine lv_istore (lv' := [(12, .int 0), (10, .long (Int32.toInt64 1)), (9, .int (nI k84)), (7, .long x61_7), (5, .long x84_5), (0, .ref m0), (1, .int (nI j_1)), (2, .int (nI j_3)), (3, .int (nI j_5)), (4, .int (nI j_7))]) zx zb dX11_stumble_100 hl (by decide) rfl (fun ls hl => ?_)
                  refine k_loop (P := ∀ (zm : Nat) (k102 : Nat) (x102_10 : Int64) (f102_3 : Nat → Int32) (H : Heap) (locs : List Loc) (ls : Array Slot), 6 + 1 ≤ k102 + zm → InM f102_3 b_12b → (k102 ≤ 6) → wd X (va_A (@HAppend.hAppend va_W va_W va_W _ (mW m0 ma la lb n t v) (@HAppend.hAppend va_W va_W va_W _ ([((ma 0), .inl (X.2.1, 371, .inl fa))]) (@HAppend.hAppend va_W va_W va_W _ ([((ma 6), .inl (X.2.1, 55, .inl fh))]) ([((ma 3), .inl (X.2.1, 3, .inl fr))])))) sz) (va_A (@HAppend.hAppend va_W va_W va_W _ (mW m0 ma la lb n t v) (@HAppend.hAppend va_W va_W va_W _ ([((ma 0), .inl (X.2.1, 371, .inl fa))]) (@HAppend.hAppend va_W va_W va_W _ ([((ma 6), .inl (X.2.1, 55, .inl fh))]) ([((ma 3), .inl (X.2.1, 3, .inl fr))])))) sz) s (@HAppend.hAppend va_W va_W va_W _ ([((ma 3), .inl (X.2.1, 3, .inl fr))]) (@HAppend.hAppend va_W va_W va_W _ (mW m0 ma la lb n t v) (@HAppend.hAppend va_W va_W va_W _ ([((ma 0), .inl (X.2.1, 371, .inl fa))]) ([((ma 6), .inl (X.2.1, 55, .inl f102_3))])))) H locs → lv_has ls 13 [(12, .int (nI k102)), (10, .long x102_10), (9, .int (nI k84)), (7, .long x61_7), (5, .long x84_5), (0, .ref m0), (1, .int (nI j_1)), (2, .int (nI j_3)), (3, .int (nI j_5)), (4, .int (nI j_7))] → W p l e _ s m _ below meth c H locs _ _ _ (F0 m 102 ls [])) (fun loop => loop (6 + 1) 0 (Int32.toInt64 1) f_12a _ _ _ (by omega) hI_f_12a (by omega) G hl) ?_
                  intro zm
                  induction zm with
                  | zero => intro k102 x102_10 f102_3 H locs ls zz q_hI_f102_3 q_hk_k102 _ _; exact absurd zz (by omega)
                  | succ zm ih102 =>
                    intro k102 x102_10 f102_3 H locs ls zm_102 hI_f102_3 hk_k102 G hl
                    have hO_f102_3 := hI_f102_3.2
                    obtain ⟨hm0_f102_3, hm1_f102_3, hm2_f102_3, hm3_f102_3, hm4_f102_3⟩ := hO_f102_3
                    refine lv_iload zx zb dX11_stumble_102 (lv_at hl 0 rfl) ?_
                    refine lv_iload_n zx zb dX11_stumble_104 rfl (lv_at hl 8 rfl) ?_
                    refine lv_icmp_ge (tgt := 178) zx zb dX11_stumble_105 (by decide) (fun c_13 => ?_) (fun c_13 => ?_)
                    · have fc_13 := j_le (a := j_5) (b := k102) (by omega) (by omega) c_13
                      refine lv_lload zx zb dX11_stumble_178 (lv_at hl 4 rfl) ?_
                      refine lv_aload_n zx zb dX11_stumble_180 rfl (lv_at hl 5 rfl) ?_
                      refine r_get (C := RX11) (T := TX11) (N := 18) (ci := 9) (v := .ref (ma 6)) S in_X11_stumble_X11 G 1 rfl rfl 6 (by decide) lk_X11_stumble_27 rfl dX11_stumble_181 ?_
                      refine lv_iconst (v := 5) zx zb dX11_stumble_184 (by decide) ?_
                      refine lv_iload_n zx zb dX11_stumble_185 rfl (lv_at hl 6 rfl) ?_
                      refine r_iadd (v := (nI (5 + j_1))) S (nI_add 5 j_1) dX11_stumble_186 ?_
                      refine r_iald S G 3 rfl (vp_in_nI (by omega) (by decide)) rfl dX11_stumble_187 ?_
                      refine k_itE (fun y_14 => ?_)
                      refine lv_iload_n zx zb dX11_stumble_188 rfl (lv_at hl 7 rfl) ?_
                      refine k_cutW (PP := fun Wx => ∀ (x_16 : Int64) (H : Heap) (locs : List Loc) (ls : Array Slot), wd X (va_A (@HAppend.hAppend va_W va_W va_W _ (mW m0 ma la lb n t v) (@HAppend.hAppend va_W va_W va_W _ ([((ma 0), .inl (X.2.1, 371, .inl fa))]) (@HAppend.hAppend va_W va_W va_W _ ([((ma 6), .inl (X.2.1, 55, .inl fh))]) ([((ma 3), .inl (X.2.1, 3, .inl fr))])))) sz) (va_A (@HAppend.hAppend va_W va_W va_W _ (mW m0 ma la lb n t v) (@HAppend.hAppend va_W va_W va_W _ ([((ma 0), .inl (X.2.1, 371, .inl fa))]) (@HAppend.hAppend va_W va_W va_W _ ([((ma 6), .inl (X.2.1, 55, .inl fh))]) ([((ma 3), .inl (X.2.1, 3, .inl fr))])))) sz) s (@HAppend.hAppend va_W va_W va_W _ ([((ma 3), .inl (X.2.1, 3, .inl fr))]) (@HAppend.hAppend va_W va_W va_W _ (mW m0 ma la lb n t v) (@HAppend.hAppend va_W va_W va_W _ ([((ma 0), .inl (X.2.1, 371, .inl fa))]) ([((ma 6), .inl (X.2.1, 55, .inl f102_3))])))) H locs → lv_has ls 13 [(12, .int (nI k102)), (10, .long x102_10), (9, .int (nI k84)), (7, .long x61_7), (5, .long x84_5), (0, .ref m0), (1, .int (nI j_1)), (2, .int (nI j_3)), (3, .int (nI j_5)), (4, .int (nI j_7))] → Wx (F0 m 198 ls [.long x_16, .long x84_5]) H locs) ?_ ?_
                      · intro join_189
                        refine lv_icmp_lt (tgt := 197) zx zb dX11_stumble_189 (by decide) (fun c_15 => ?_) (fun c_15 => ?_)
                        · refine lv_lconst (v := (Int32.toInt64 0)) zx zb dX11_stumble_197 (by decide) ?_
                          exact join_189 (Int32.toInt64 0) _ _ _  G hl
                        · refine lv_lload zx zb dX11_stumble_192 (lv_at hl 1 rfl) ?_
                          refine lv_goto (tgt := 198) zx zb dX11_stumble_194 (by decide) ?_
                          exact join_189 x102_10 _ _ _  G hl
                      · intro x_16 H locs ls  G hl
                        refine r_ladd (v := (x84_5 + x_16)) S rfl dX11_stumble_198 ?_
                        refine lv_lstore (lv' := [(5, .long (x84_5 + x_16)), (12, .int (nI k102)), (10, .long x102_10), (9, .int (nI k84)), (7, .long x61_7), (0, .ref m0), (1, .int (nI j_1)), (2, .int (nI j_3)), (3, .int (nI j_5)), (4, .int (nI j_7))]) zx zb dX11_stumble_199 hl (by decide) rfl (fun ls hl => ?_)
                        refine lv_iinc (v := (nI (k84 + 1))) (lv' := [(9, .int (nI (k84 + 1))), (5, .long (x84_5 + x_16)), (12, .int (nI k102)), (10, .long x102_10), (7, .long x61_7), (0, .ref m0), (1, .int (nI j_1)), (2, .int (nI j_3)), (3, .int (nI j_5)), (4, .int (nI j_7))]) zx zb dX11_stumble_201 hl (k := 3) rfl (nI_add k84 1) (by decide) rfl (fun ls hl => ?_)
                        refine lv_goto (tgt := 84) zx zb dX11_stumble_204 (by decide) ?_
                        have G : wd X (va_A (@HAppend.hAppend va_W va_W va_W _ (mW m0 ma la lb n t v) (@HAppend.hAppend va_W va_W va_W _ ([((ma 0), .inl (X.2.1, 371, .inl fa))]) (@HAppend.hAppend va_W va_W va_W _ ([((ma 6), .inl (X.2.1, 55, .inl fh))]) ([((ma 3), .inl (X.2.1, 3, .inl fr))])))) sz) (va_A (@HAppend.hAppend va_W va_W va_W _ (mW m0 ma la lb n t v) (@HAppend.hAppend va_W va_W va_W _ ([((ma 0), .inl (X.2.1, 371, .inl fa))]) (@HAppend.hAppend va_W va_W va_W _ ([((ma 6), .inl (X.2.1, 55, .inl fh))]) ([((ma 3), .inl (X.2.1, 3, .inl fr))])))) sz) s (@HAppend.hAppend va_W va_W va_W _ (mW m0 ma la lb n t v) (@HAppend.hAppend va_W va_W va_W _ ([((ma 0), .inl (X.2.1, 371, .inl fa))]) (@HAppend.hAppend va_W va_W va_W _ ([((ma 6), .inl (X.2.1, 55, .inl f102_3))]) ([((ma 3), .inl (X.2.1, 3, .inl fr))])))) H locs := wd_sub G [1, 2, 3, 0] rfl rfl
                        have hl := lv_sub hl (l' := [(9, .int (nI (k84 + 1))), (7, .long x61_7), (5, .long (x84_5 + x_16)), (0, .ref m0), (1, .int (nI j_1)), (2, .int (nI j_3)), (3, .int (nI j_5)), (4, .int (nI j_7))]) [0, 4, 1, 5, 6, 7, 8, 9] rfl
                        exact ih84 (k84 + 1) (x84_5 + x_16) f102_3 b_12b _ _ _ (by omega) hI_f102_3 (by omega) G hl
                    · have fc_13 := j_nle (a := j_5) (b := k102) (by omega) (by omega) c_13
                      refine lv_lload zx zb dX11_stumble_108 (lv_at hl 1 rfl) ?_
                      refine lv_iload zx zb dX11_stumble_110 (lv_at hl 2 rfl) ?_
                      refine lv_iload zx zb dX11_stumble_112 (lv_at hl 0 rfl) ?_
                      refine o_ri (cells' := 0) (slots' := 0) G rfl rfl (n_S (As := [.int (nI k84), .int (nI k102)]) (rest := [.long x102_10]) S G (m_has l X (nI k84) (nI k102) H.size) gX11_stumble_X11_has rfl rfl rfl hdS_X11_has ⟨Nat.le_of_ble_eq_true rfl, Nat.le_of_ble_eq_true rfl⟩ [] rfl rfl rfl hl.1 (Nat.le_of_ble_eq_true rfl) dX11_stumble_114 ⟨Nat.le_of_ble_eq_true rfl, Nat.le_of_ble_eq_true rfl⟩) (fun r_17 u_17 H locs hp_17 G => ?_)
                      have G : wd X (va_A (@HAppend.hAppend va_W va_W va_W _ (mW m0 ma la lb n t v) (@HAppend.hAppend va_W va_W va_W _ ([((ma 0), .inl (X.2.1, 371, .inl fa))]) (@HAppend.hAppend va_W va_W va_W _ ([((ma 6), .inl (X.2.1, 55, .inl fh))]) ([((ma 3), .inl (X.2.1, 3, .inl fr))])))) sz) (va_A (@HAppend.hAppend va_W va_W va_W _ (mW m0 ma la lb n t v) (@HAppend.hAppend va_W va_W va_W _ ([((ma 0), .inl (X.2.1, 371, .inl fa))]) (@HAppend.hAppend va_W va_W va_W _ ([((ma 6), .inl (X.2.1, 55, .inl fh))]) ([((ma 3), .inl (X.2.1, 3, .inl fr))])))) sz) s (@HAppend.hAppend va_W va_W va_W _ ([((ma 3), .inl (X.2.1, 3, .inl fr))]) (@HAppend.hAppend va_W va_W va_W _ (mW m0 ma la lb n t v) (@HAppend.hAppend va_W va_W va_W _ ([((ma 0), .inl (X.2.1, 371, .inl fa))]) ([((ma 6), .inl (X.2.1, 55, .inl f102_3))])))) H locs := G
                      refine k_cutW (PP := fun Wx => ∀ (x_19 : Int64) (H : Heap) (locs : List Loc) (ls : Array Slot), wd X (va_A (@HAppend.hAppend va_W va_W va_W _ (mW m0 ma la lb n t v) (@HAppend.hAppend va_W va_W va_W _ ([((ma 0), .inl (X.2.1, 371, .inl fa))]) (@HAppend.hAppend va_W va_W va_W _ ([((ma 6), .inl (X.2.1, 55, .inl fh))]) ([((ma 3), .inl (X.2.1, 3, .inl fr))])))) sz) (va_A (@HAppend.hAppend va_W va_W va_W _ (mW m0 ma la lb n t v) (@HAppend.hAppend va_W va_W va_W _ ([((ma 0), .inl (X.2.1, 371, .inl fa))]) (@HAppend.hAppend va_W va_W va_W _ ([((ma 6), .inl (X.2.1, 55, .inl fh))]) ([((ma 3), .inl (X.2.1, 3, .inl fr))])))) sz) s (@HAppend.hAppend va_W va_W va_W _ ([((ma 3), .inl (X.2.1, 3, .inl fr))]) (@HAppend.hAppend va_W va_W va_W _ (mW m0 ma la lb n t v) (@HAppend.hAppend va_W va_W va_W _ ([((ma 0), .inl (X.2.1, 371, .inl fa))]) ([((ma 6), .inl (X.2.1, 55, .inl f102_3))])))) H locs → lv_has ls 13 [(12, .int (nI k102)), (10, .long x102_10), (9, .int (nI k84)), (7, .long x61_7), (5, .long x84_5), (0, .ref m0), (1, .int (nI j_1)), (2, .int (nI j_3)), (3, .int (nI j_5)), (4, .int (nI j_7))] → Wx (F0 m 132 ls [.long x_19, .long x102_10]) H locs) ?_ ?_
                      · intro join_117
                        refine lv_if_eq (tgt := 126) zx zb dX11_stumble_117 (by decide) (fun c_18 => ?_) (fun c_18 => ?_)
                        · refine lv_bipush (v := 10) zx zb dX11_stumble_126 (by decide) ?_
                          refine lv_iload zx zb dX11_stumble_128 (lv_at hl 9 rfl) ?_
                          refine r_isub (v := (10 - (nI j_7))) S rfl dX11_stumble_130 ?_
                          refine lv_i2l (v := (Int32.toInt64 (10 - (nI j_7)))) zx zb dX11_stumble_131 rfl ?_
                          exact join_117 (Int32.toInt64 (10 - (nI j_7))) _ _ _  G hl
                        · refine lv_iload zx zb dX11_stumble_120 (lv_at hl 9 rfl) ?_
                          refine lv_i2l (v := (Int32.toInt64 (nI j_7))) zx zb dX11_stumble_122 rfl ?_
                          refine lv_goto (tgt := 132) zx zb dX11_stumble_123 (by decide) ?_
                          exact join_117 (Int32.toInt64 (nI j_7)) _ _ _  G hl
                      · intro x_19 H locs ls  G hl
                        refine r_lmul (v := (x102_10 * x_19)) S rfl dX11_stumble_132 ?_
                        refine lv_lstore (lv' := [(10, .long (x102_10 * x_19)), (12, .int (nI k102)), (9, .int (nI k84)), (7, .long x61_7), (5, .long x84_5), (0, .ref m0), (1, .int (nI j_1)), (2, .int (nI j_3)), (3, .int (nI j_5)), (4, .int (nI j_7))]) zx zb dX11_stumble_133 hl (by decide) rfl (fun ls hl => ?_)
                        refine lv_aload_n zx zb dX11_stumble_135 rfl (lv_at hl 5 rfl) ?_
                        refine r_get (C := RX11) (T := TX11) (N := 18) (ci := 9) (v := .ref (ma 6)) S in_X11_stumble_X11 G 1 rfl rfl 6 (by decide) lk_X11_stumble_27 rfl dX11_stumble_136 ?_
                        refine lv_bipush (v := 35) zx zb dX11_stumble_139 (by decide) ?_
                        refine lv_dup2_11 zx zb dX11_stumble_141 rfl rfl ?_
                        refine r_iald S G 3 rfl (k_vp (by decide)) rfl dX11_stumble_142 ?_
                        refine k_itE (fun y_20 => ?_)
                        refine lv_iconst (v := 1) zx zb dX11_stumble_143 (by decide) ?_
                        refine r_iadd (v := (y_20 + 1)) S rfl dX11_stumble_144 ?_
                        refine r_iast S G 3 rfl (k_vp (by decide)) dX11_stumble_145 (fun H locs G => ?_)
                        obtain ⟨f_21, hI_f_21, G⟩ : ∃ f_21 : Nat → Int32, InM f_21 b_12b ∧ wd X (va_A (@HAppend.hAppend va_W va_W va_W _ (mW m0 ma la lb n t v) (@HAppend.hAppend va_W va_W va_W _ ([((ma 0), .inl (X.2.1, 371, .inl fa))]) (@HAppend.hAppend va_W va_W va_W _ ([((ma 6), .inl (X.2.1, 55, .inl fh))]) ([((ma 3), .inl (X.2.1, 3, .inl fr))])))) sz) (va_A (@HAppend.hAppend va_W va_W va_W _ (mW m0 ma la lb n t v) (@HAppend.hAppend va_W va_W va_W _ ([((ma 0), .inl (X.2.1, 371, .inl fa))]) (@HAppend.hAppend va_W va_W va_W _ ([((ma 6), .inl (X.2.1, 55, .inl fh))]) ([((ma 3), .inl (X.2.1, 3, .inl fr))])))) sz) s (@HAppend.hAppend va_W va_W va_W _ ([((ma 3), .inl (X.2.1, 3, .inl fr))]) (@HAppend.hAppend va_W va_W va_W _ (mW m0 ma la lb n t v) (@HAppend.hAppend va_W va_W va_W _ ([((ma 0), .inl (X.2.1, 371, .inl fa))]) ([((ma 6), .inl (X.2.1, 55, .inl f_21))])))) H locs := ⟨_, InM_o hI_f102_3 (by decide), G⟩
                        have hO_f_21 := hI_f_21.2
                        obtain ⟨hm0_f_21, hm1_f_21, hm2_f_21, hm3_f_21, hm4_f_21⟩ := hO_f_21
                        refine lv_aload_n zx zb dX11_stumble_146 rfl (lv_at hl 5 rfl) ?_
                        refine r_get (C := RX11) (T := TX11) (N := 18) (ci := 9) (v := .ref (ma 6)) S in_X11_stumble_X11 G 1 rfl rfl 6 (by decide) lk_X11_stumble_27 rfl dX11_stumble_147 ?_
                        refine lv_iload_n zx zb dX11_stumble_150 rfl (lv_at hl 6 rfl) ?_
                        refine o_ri (cells' := 0) (slots' := 0) G rfl rfl (n_S (As := [.ref (ma 6), .int (nI j_1)]) (rest := []) S G (m_isHome l X (ma 6) 55 f_21 b_12b j_1 hI_f_21 (by omega) (by omega) (by omega) H.size) gX11_stumble_X11_isHome rfl rfl rfl hdS_X11_isHome ⟨Nat.le_of_ble_eq_true rfl, Nat.le_of_ble_eq_true rfl⟩ [3] rfl rfl rfl hl.1 (Nat.le_of_ble_eq_true rfl) dX11_stumble_151 ⟨Nat.le_of_ble_eq_true rfl, Nat.le_of_ble_eq_true rfl⟩) (fun r_22 u_22 H locs hp_22 G => ?_)
                        have G : wd X (va_A (@HAppend.hAppend va_W va_W va_W _ (mW m0 ma la lb n t v) (@HAppend.hAppend va_W va_W va_W _ ([((ma 0), .inl (X.2.1, 371, .inl fa))]) (@HAppend.hAppend va_W va_W va_W _ ([((ma 6), .inl (X.2.1, 55, .inl fh))]) ([((ma 3), .inl (X.2.1, 3, .inl fr))])))) sz) (va_A (@HAppend.hAppend va_W va_W va_W _ (mW m0 ma la lb n t v) (@HAppend.hAppend va_W va_W va_W _ ([((ma 0), .inl (X.2.1, 371, .inl fa))]) (@HAppend.hAppend va_W va_W va_W _ ([((ma 6), .inl (X.2.1, 55, .inl fh))]) ([((ma 3), .inl (X.2.1, 3, .inl fr))])))) sz) s (@HAppend.hAppend va_W va_W va_W _ ([((ma 3), .inl (X.2.1, 3, .inl fr))]) (@HAppend.hAppend va_W va_W va_W _ (mW m0 ma la lb n t v) (@HAppend.hAppend va_W va_W va_W _ ([((ma 0), .inl (X.2.1, 371, .inl fa))]) ([((ma 6), .inl (X.2.1, 55, .inl f_21))])))) H locs := G
                        refine k_cutW (PP := fun Wx => ∀ (f_24 : Nat → Int32) (H : Heap) (locs : List Loc) (ls : Array Slot), InM f_24 b_12b → wd X (va_A (@HAppend.hAppend va_W va_W va_W _ (mW m0 ma la lb n t v) (@HAppend.hAppend va_W va_W va_W _ ([((ma 0), .inl (X.2.1, 371, .inl fa))]) (@HAppend.hAppend va_W va_W va_W _ ([((ma 6), .inl (X.2.1, 55, .inl fh))]) ([((ma 3), .inl (X.2.1, 3, .inl fr))])))) sz) (va_A (@HAppend.hAppend va_W va_W va_W _ (mW m0 ma la lb n t v) (@HAppend.hAppend va_W va_W va_W _ ([((ma 0), .inl (X.2.1, 371, .inl fa))]) (@HAppend.hAppend va_W va_W va_W _ ([((ma 6), .inl (X.2.1, 55, .inl fh))]) ([((ma 3), .inl (X.2.1, 3, .inl fr))])))) sz) s (@HAppend.hAppend va_W va_W va_W _ ([((ma 3), .inl (X.2.1, 3, .inl fr))]) (@HAppend.hAppend va_W va_W va_W _ (mW m0 ma la lb n t v) (@HAppend.hAppend va_W va_W va_W _ ([((ma 0), .inl (X.2.1, 371, .inl fa))]) ([((ma 6), .inl (X.2.1, 55, .inl f_24))])))) H locs → lv_has ls 13 [(10, .long (x102_10 * x_19)), (12, .int (nI k102)), (9, .int (nI k84)), (7, .long x61_7), (5, .long x84_5), (0, .ref m0), (1, .int (nI j_1)), (2, .int (nI j_3)), (3, .int (nI j_5)), (4, .int (nI j_7))] → Wx (F0 m 172 ls []) H locs) ?_ ?_
                        · intro join_154
                          refine lv_if_ne (tgt := 172) zx zb dX11_stumble_154 (by decide) (fun c_23 => ?_) (fun c_23 => ?_)
                          · exact join_154 f_21 _ _ _ hI_f_21 G hl
                          · refine lv_aload_n zx zb dX11_stumble_157 rfl (lv_at hl 5 rfl) ?_
                            refine r_get (C := RX11) (T := TX11) (N := 18) (ci := 9) (v := .ref (ma 6)) S in_X11_stumble_X11 G 1 rfl rfl 6 (by decide) lk_X11_stumble_27 rfl dX11_stumble_158 ?_
                            refine lv_iload_n zx zb dX11_stumble_161 rfl (lv_at hl 6 rfl) ?_
                            refine lv_iload zx zb dX11_stumble_162 (lv_at hl 2 rfl) ?_
                            refine lv_iload zx zb dX11_stumble_164 (lv_at hl 1 rfl) ?_
                            refine o_ri (cells' := 0) (slots' := 0) G rfl rfl (n_S (As := [.int (nI k84), .int (nI k102)]) (rest := [.int (nI j_1), .ref (ma 6)]) S G (m_has l X (nI k84) (nI k102) H.size) gX11_stumble_X11_has rfl rfl rfl hdS_X11_has ⟨Nat.le_of_ble_eq_true rfl, Nat.le_of_ble_eq_true rfl⟩ [] rfl rfl rfl hl.1 (Nat.le_of_ble_eq_true rfl) dX11_stumble_166 ⟨Nat.le_of_ble_eq_true rfl, Nat.le_of_ble_eq_true rfl⟩) (fun r_25 u_25 H locs hp_25 G => ?_)
                            have G : wd X (va_A (@HAppend.hAppend va_W va_W va_W _ (mW m0 ma la lb n t v) (@HAppend.hAppend va_W va_W va_W _ ([((ma 0), .inl (X.2.1, 371, .inl fa))]) (@HAppend.hAppend va_W va_W va_W _ ([((ma 6), .inl (X.2.1, 55, .inl fh))]) ([((ma 3), .inl (X.2.1, 3, .inl fr))])))) sz) (va_A (@HAppend.hAppend va_W va_W va_W _ (mW m0 ma la lb n t v) (@HAppend.hAppend va_W va_W va_W _ ([((ma 0), .inl (X.2.1, 371, .inl fa))]) (@HAppend.hAppend va_W va_W va_W _ ([((ma 6), .inl (X.2.1, 55, .inl fh))]) ([((ma 3), .inl (X.2.1, 3, .inl fr))])))) sz) s (@HAppend.hAppend va_W va_W va_W _ ([((ma 3), .inl (X.2.1, 3, .inl fr))]) (@HAppend.hAppend va_W va_W va_W _ (mW m0 ma la lb n t v) (@HAppend.hAppend va_W va_W va_W _ ([((ma 0), .inl (X.2.1, 371, .inl fa))]) ([((ma 6), .inl (X.2.1, 55, .inl f_21))])))) H locs := G
                            refine b_wv (cells' := 0) (slots' := 0) (wr := @HAppend.hAppend va_W va_W va_W _ ([((ma 3), .inl (X.2.1, 3, .inl fr))]) (@HAppend.hAppend va_W va_W va_W _ (mW m0 ma la lb n t v) ([((ma 0), .inl (X.2.1, 371, .inl fa))]))) G rfl rfl [3] [0, 1, 2] rfl rfl rfl rfl (n_S (As := [.ref (ma 6), .int (nI j_1), .int r_25]) (rest := []) S G (m_goOne l X (ma 6) 55 f_21 b_12b j_1 r_25 hI_f_21 (by omega) (by omega) (by omega) H.size) gX11_stumble_X11_goOne rfl rfl rfl hdS_X11_goOne ⟨Nat.le_of_ble_eq_true rfl, Nat.le_of_ble_eq_true rfl⟩ [3] rfl rfl rfl hl.1 (Nat.le_of_ble_eq_true rfl) dX11_stumble_169 ⟨Nat.le_of_ble_eq_true rfl, Nat.le_of_ble_eq_true rfl⟩) (fun u_26 H locs hp_26 G => ?_)
                            obtain ⟨f_26, rfl⟩ : ∃ z, z = u_26 := ⟨_, rfl⟩
                            obtain ⟨hI_f_26, hq_26⟩ := hp_26
                            have hO_f_26 := hI_f_26.2
                            obtain ⟨hm0_f_26, hm1_f_26, hm2_f_26, hm3_f_26, hm4_f_26⟩ := hO_f_26
                            have G : wd X (va_A (@HAppend.hAppend va_W va_W va_W _ (mW m0 ma la lb n t v) (@HAppend.hAppend va_W va_W va_W _ ([((ma 0), .inl (X.2.1, 371, .inl fa))]) (@HAppend.hAppend va_W va_W va_W _ ([((ma 6), .inl (X.2.1, 55, .inl fh))]) ([((ma 3), .inl (X.2.1, 3, .inl fr))])))) sz) (va_A (@HAppend.hAppend va_W va_W va_W _ (mW m0 ma la lb n t v) (@HAppend.hAppend va_W va_W va_W _ ([((ma 0), .inl (X.2.1, 371, .inl fa))]) (@HAppend.hAppend va_W va_W va_W _ ([((ma 6), .inl (X.2.1, 55, .inl fh))]) ([((ma 3), .inl (X.2.1, 3, .inl fr))])))) sz) s (@HAppend.hAppend va_W va_W va_W _ ([((ma 3), .inl (X.2.1, 3, .inl fr))]) (@HAppend.hAppend va_W va_W va_W _ (mW m0 ma la lb n t v) (@HAppend.hAppend va_W va_W va_W _ ([((ma 0), .inl (X.2.1, 371, .inl fa))]) ([((ma 6), .inl (X.2.1, 55, .inl f_26))])))) H locs := G
                            exact join_154 f_26 _ _ _ hI_f_26 G hl
                        · intro f_24 H locs ls hI_f_24 G hl
                          have hO_f_24 := hI_f_24.2
                          obtain ⟨hm0_f_24, hm1_f_24, hm2_f_24, hm3_f_24, hm4_f_24⟩ := hO_f_24
                          refine lv_iinc (v := (nI (k102 + 1))) (lv' := [(12, .int (nI (k102 + 1))), (10, .long (x102_10 * x_19)), (9, .int (nI k84)), (7, .long x61_7), (5, .long x84_5), (0, .ref m0), (1, .int (nI j_1)), (2, .int (nI j_3)), (3, .int (nI j_5)), (4, .int (nI j_7))]) zx zb dX11_stumble_172 hl (k := 1) rfl (nI_add k102 1) (by decide) rfl (fun ls hl => ?_)
                          refine lv_goto (tgt := 102) zx zb dX11_stumble_175 (by decide) ?_
                          exact ih102 (k102 + 1) (x102_10 * x_19) f_24 _ _ _ (by omega) hI_f_24 (by omega) G hl
            · have fc_9 := j_nle (a := j_5) (b := k61) (by omega) (by omega) c_9
              refine lv_lload zx zb dX11_stumble_67 (lv_at hl 1 rfl) ?_
              refine lv_ldc2 zx zb S.2.2.2.1 (S.2.2.2.2 _ mm_X11_stumble_c64) dX11_stumble_69 ?_
              refine k_ld (v := (Int32.toInt64 10)) (by decide) ?_
              refine r_lmul (v := (x61_7 * (Int32.toInt64 10))) S rfl dX11_stumble_72 ?_
              refine lv_lstore (lv' := [(7, .long (x61_7 * (Int32.toInt64 10))), (9, .int (nI k61)), (5, .long (Int32.toInt64 0)), (0, .ref m0), (1, .int (nI j_1)), (2, .int (nI j_3)), (3, .int (nI j_5)), (4, .int (nI j_7))]) zx zb dX11_stumble_73 hl (by decide) rfl (fun ls hl => ?_)
              refine lv_iinc (v := (nI (k61 + 1))) (lv' := [(9, .int (nI (k61 + 1))), (7, .long (x61_7 * (Int32.toInt64 10))), (5, .long (Int32.toInt64 0)), (0, .ref m0), (1, .int (nI j_1)), (2, .int (nI j_3)), (3, .int (nI j_5)), (4, .int (nI j_7))]) zx zb dX11_stumble_75 hl (k := 1) rfl (nI_add k61 1) (by decide) rfl (fun ls hl => ?_)
              refine lv_goto (tgt := 61) zx zb dX11_stumble_78 (by decide) ?_
              exact ih61 (k61 + 1) (x61_7 * (Int32.toInt64 10)) _ _ _ (by omega) (by omega) (by first | assumption | exact k_p10a | exact k_p10s (by omega) (by assumption)) G hl
        · refine lv_if_ne (tgt := 52) zx zb dX11_stumble_42 (by decide) (fun c_27 => absurd (by decide) c_27) (fun c_27 => ?_)
          refine lv_aload_n zx zb dX11_stumble_45 rfl (lv_at hl 0 rfl) ?_
          refine lv_bipush (v := (-2)) zx zb dX11_stumble_46 (by decide) ?_
          refine b_wi (cells' := 0) (slots' := 0) (wr := @HAppend.hAppend va_W va_W va_W _ ([((ma 0), .inl (X.2.1, 371, .inl fa))]) ([((ma 6), .inl (X.2.1, 55, .inl fh))])) G rfl rfl [0, 3] [1, 2] rfl rfl rfl rfl (n_V (As := [.int (-2)]) (rest := []) (C := RX11) (T := TX11) (N := 18) (ci := 9) S G (m_bad l X m0 ma la lb n t v fr (-2) hI_n hI_t H.size) gX11_stumble_X11_bad rfl rfl rfl hdV_X11_bad ⟨Nat.le_of_ble_eq_true rfl, Nat.le_of_ble_eq_true rfl⟩ [0, 3] rfl rfl 0 rfl rfl rfl hl.1 (Nat.le_of_ble_eq_true rfl) dX11_stumble_48 ⟨Nat.le_of_ble_eq_true rfl, Nat.le_of_ble_eq_true rfl⟩) (fun r_28 u_28 H locs hp_28 G => ?_)
          obtain ⟨f_28, rfl⟩ : ∃ z, z = u_28 := ⟨_, rfl⟩
          have hq_28 := hp_28
          have G : wd X (va_A (@HAppend.hAppend va_W va_W va_W _ (mW m0 ma la lb n t v) (@HAppend.hAppend va_W va_W va_W _ ([((ma 0), .inl (X.2.1, 371, .inl fa))]) (@HAppend.hAppend va_W va_W va_W _ ([((ma 6), .inl (X.2.1, 55, .inl fh))]) ([((ma 3), .inl (X.2.1, 3, .inl fr))])))) sz) (va_A (@HAppend.hAppend va_W va_W va_W _ (mW m0 ma la lb n t v) (@HAppend.hAppend va_W va_W va_W _ ([((ma 0), .inl (X.2.1, 371, .inl fa))]) (@HAppend.hAppend va_W va_W va_W _ ([((ma 6), .inl (X.2.1, 55, .inl fh))]) ([((ma 3), .inl (X.2.1, 3, .inl fr))])))) sz) s (@HAppend.hAppend va_W va_W va_W _ ([((ma 0), .inl (X.2.1, 371, .inl fa))]) (@HAppend.hAppend va_W va_W va_W _ ([((ma 6), .inl (X.2.1, 55, .inl fh))]) (@HAppend.hAppend va_W va_W va_W _ (mW m0 ma la lb n t v) ([((ma 3), .inl (X.2.1, 3, .inl f_28))])))) H locs := G
          obtain rfl := hq_28
          exact e_int S zr zlk (vp_nar_int _) G (la, lb, fh, bh, f_28) [2, 0, 1, 3] rfl rfl (Or.inr rfl) (⟨hI_fh, trivial⟩) dX11_stumble_51
      · refine lv_if_eq (tgt := 45) zx zb dX11_stumble_29 (by decide) (fun c_29 => ?_) (fun c_29 => absurd (by decide) c_29)
        refine lv_aload_n zx zb dX11_stumble_45 rfl (lv_at hl 0 rfl) ?_
        refine lv_bipush (v := (-2)) zx zb dX11_stumble_46 (by decide) ?_
        refine b_wi (cells' := 0) (slots' := 0) (wr := @HAppend.hAppend va_W va_W va_W _ ([((ma 0), .inl (X.2.1, 371, .inl fa))]) ([((ma 6), .inl (X.2.1, 55, .inl fh))])) G rfl rfl [0, 3] [1, 2] rfl rfl rfl rfl (n_V (As := [.int (-2)]) (rest := []) (C := RX11) (T := TX11) (N := 18) (ci := 9) S G (m_bad l X m0 ma la lb n t v fr (-2) hI_n hI_t H.size) gX11_stumble_X11_bad rfl rfl rfl hdV_X11_bad ⟨Nat.le_of_ble_eq_true rfl, Nat.le_of_ble_eq_true rfl⟩ [0, 3] rfl rfl 0 rfl rfl rfl hl.1 (Nat.le_of_ble_eq_true rfl) dX11_stumble_48 ⟨Nat.le_of_ble_eq_true rfl, Nat.le_of_ble_eq_true rfl⟩) (fun r_30 u_30 H locs hp_30 G => ?_)
        obtain ⟨f_30, rfl⟩ : ∃ z, z = u_30 := ⟨_, rfl⟩
        have hq_30 := hp_30
        have G : wd X (va_A (@HAppend.hAppend va_W va_W va_W _ (mW m0 ma la lb n t v) (@HAppend.hAppend va_W va_W va_W _ ([((ma 0), .inl (X.2.1, 371, .inl fa))]) (@HAppend.hAppend va_W va_W va_W _ ([((ma 6), .inl (X.2.1, 55, .inl fh))]) ([((ma 3), .inl (X.2.1, 3, .inl fr))])))) sz) (va_A (@HAppend.hAppend va_W va_W va_W _ (mW m0 ma la lb n t v) (@HAppend.hAppend va_W va_W va_W _ ([((ma 0), .inl (X.2.1, 371, .inl fa))]) (@HAppend.hAppend va_W va_W va_W _ ([((ma 6), .inl (X.2.1, 55, .inl fh))]) ([((ma 3), .inl (X.2.1, 3, .inl fr))])))) sz) s (@HAppend.hAppend va_W va_W va_W _ ([((ma 0), .inl (X.2.1, 371, .inl fa))]) (@HAppend.hAppend va_W va_W va_W _ ([((ma 6), .inl (X.2.1, 55, .inl fh))]) (@HAppend.hAppend va_W va_W va_W _ (mW m0 ma la lb n t v) ([((ma 3), .inl (X.2.1, 3, .inl f_30))])))) H locs := G
        obtain rfl := hq_30
        exact e_int S zr zlk (vp_nar_int _) G (la, lb, fh, bh, f_30) [2, 0, 1, 3] rfl rfl (Or.inr rfl) (⟨hI_fh, trivial⟩) dX11_stumble_51
    · refine lv_if_eq (tgt := 45) zx zb dX11_stumble_17 (by decide) (fun c_31 => ?_) (fun c_31 => absurd (by decide) c_31)
      refine lv_aload_n zx zb dX11_stumble_45 rfl (lv_at hl 0 rfl) ?_
      refine lv_bipush (v := (-2)) zx zb dX11_stumble_46 (by decide) ?_
      refine b_wi (cells' := 0) (slots' := 0) (wr := @HAppend.hAppend va_W va_W va_W _ ([((ma 0), .inl (X.2.1, 371, .inl fa))]) ([((ma 6), .inl (X.2.1, 55, .inl fh))])) G rfl rfl [0, 3] [1, 2] rfl rfl rfl rfl (n_V (As := [.int (-2)]) (rest := []) (C := RX11) (T := TX11) (N := 18) (ci := 9) S G (m_bad l X m0 ma la lb n t v fr (-2) hI_n hI_t H.size) gX11_stumble_X11_bad rfl rfl rfl hdV_X11_bad ⟨Nat.le_of_ble_eq_true rfl, Nat.le_of_ble_eq_true rfl⟩ [0, 3] rfl rfl 0 rfl rfl rfl hl.1 (Nat.le_of_ble_eq_true rfl) dX11_stumble_48 ⟨Nat.le_of_ble_eq_true rfl, Nat.le_of_ble_eq_true rfl⟩) (fun r_32 u_32 H locs hp_32 G => ?_)
      obtain ⟨f_32, rfl⟩ : ∃ z, z = u_32 := ⟨_, rfl⟩
      have hq_32 := hp_32
      have G : wd X (va_A (@HAppend.hAppend va_W va_W va_W _ (mW m0 ma la lb n t v) (@HAppend.hAppend va_W va_W va_W _ ([((ma 0), .inl (X.2.1, 371, .inl fa))]) (@HAppend.hAppend va_W va_W va_W _ ([((ma 6), .inl (X.2.1, 55, .inl fh))]) ([((ma 3), .inl (X.2.1, 3, .inl fr))])))) sz) (va_A (@HAppend.hAppend va_W va_W va_W _ (mW m0 ma la lb n t v) (@HAppend.hAppend va_W va_W va_W _ ([((ma 0), .inl (X.2.1, 371, .inl fa))]) (@HAppend.hAppend va_W va_W va_W _ ([((ma 6), .inl (X.2.1, 55, .inl fh))]) ([((ma 3), .inl (X.2.1, 3, .inl fr))])))) sz) s (@HAppend.hAppend va_W va_W va_W _ ([((ma 0), .inl (X.2.1, 371, .inl fa))]) (@HAppend.hAppend va_W va_W va_W _ ([((ma 6), .inl (X.2.1, 55, .inl fh))]) (@HAppend.hAppend va_W va_W va_W _ (mW m0 ma la lb n t v) ([((ma 3), .inl (X.2.1, 3, .inl f_32))])))) H locs := G
      obtain rfl := hq_32
      exact e_int S zr zlk (vp_nar_int _) G (la, lb, fh, bh, f_32) [2, 0, 1, 3] rfl rfl (Or.inr rfl) (⟨hI_fh, trivial⟩) dX11_stumble_51
  · refine lv_if_eq (tgt := 45) zx zb dX11_stumble_5 (by decide) (fun c_33 => ?_) (fun c_33 => absurd (by decide) c_33)
    refine lv_aload_n zx zb dX11_stumble_45 rfl (lv_at hl 0 rfl) ?_
    refine lv_bipush (v := (-2)) zx zb dX11_stumble_46 (by decide) ?_
    refine b_wi (cells' := 0) (slots' := 0) (wr := @HAppend.hAppend va_W va_W va_W _ ([((ma 0), .inl (X.2.1, 371, .inl fa))]) ([((ma 6), .inl (X.2.1, 55, .inl fh))])) G rfl rfl [0, 3] [1, 2] rfl rfl rfl rfl (n_V (As := [.int (-2)]) (rest := []) (C := RX11) (T := TX11) (N := 18) (ci := 9) S G (m_bad l X m0 ma la lb n t v fr (-2) hI_n hI_t H.size) gX11_stumble_X11_bad rfl rfl rfl hdV_X11_bad ⟨Nat.le_of_ble_eq_true rfl, Nat.le_of_ble_eq_true rfl⟩ [0, 3] rfl rfl 0 rfl rfl rfl hl.1 (Nat.le_of_ble_eq_true rfl) dX11_stumble_48 ⟨Nat.le_of_ble_eq_true rfl, Nat.le_of_ble_eq_true rfl⟩) (fun r_34 u_34 H locs hp_34 G => ?_)
    obtain ⟨f_34, rfl⟩ : ∃ z, z = u_34 := ⟨_, rfl⟩
    have hq_34 := hp_34
    have G : wd X (va_A (@HAppend.hAppend va_W va_W va_W _ (mW m0 ma la lb n t v) (@HAppend.hAppend va_W va_W va_W _ ([((ma 0), .inl (X.2.1, 371, .inl fa))]) (@HAppend.hAppend va_W va_W va_W _ ([((ma 6), .inl (X.2.1, 55, .inl fh))]) ([((ma 3), .inl (X.2.1, 3, .inl fr))])))) sz) (va_A (@HAppend.hAppend va_W va_W va_W _ (mW m0 ma la lb n t v) (@HAppend.hAppend va_W va_W va_W _ ([((ma 0), .inl (X.2.1, 371, .inl fa))]) (@HAppend.hAppend va_W va_W va_W _ ([((ma 6), .inl (X.2.1, 55, .inl fh))]) ([((ma 3), .inl (X.2.1, 3, .inl fr))])))) sz) s (@HAppend.hAppend va_W va_W va_W _ ([((ma 0), .inl (X.2.1, 371, .inl fa))]) (@HAppend.hAppend va_W va_W va_W _ ([((ma 6), .inl (X.2.1, 55, .inl fh))]) (@HAppend.hAppend va_W va_W va_W _ (mW m0 ma la lb n t v) ([((ma 3), .inl (X.2.1, 3, .inl f_34))])))) H locs := G
    obtain rfl := hq_34
    exact e_int S zr zlk (vp_nar_int _) G (la, lb, fh, bh, f_34) [2, 0, 1, 3] rfl rfl (Or.inr rfl) (⟨hI_fh, trivial⟩) dX11_stumble_51
theorem mm_X11_races_c191 : Cond.constantLong RX11 191 (999999) ∈ wsX11_races := by decide +kernel
theorem mm_X11_races_c66 : Cond.constantLong RX11 66 (60) ∈ wsX11_races := by decide +kernel
theorem mm_X11_races_c193 : Cond.constantLong RX11 193 (1103515245) ∈ wsX11_races := by decide +kernel
theorem mm_X11_races_c195 : Cond.constantLong RX11 195 (12345) ∈ wsX11_races := by decide +kernel
theorem mm_X11_races_c197 : Cond.constantLong RX11 197 (2147483648) ∈ wsX11_races := by decide +kernel
theorem mm_X11_races_c199 : Cond.constantLong RX11 199 (65536) ∈ wsX11_races := by decide +kernel
theorem mm_X11_races_c185 : Cond.constantLong RX11 185 (6) ∈ wsX11_races := by decide +kernel
theorem in_X11_races_X11 : ∀ w ∈ wsX110, w ∈ wsX11_races := by decide +kernel
theorem lk_X11_races_27 : Cond.fieldLink RX11 27 "EggSpoonsModel" "hand" "[I" ∈ wsX11_races := by decide +kernel
theorem mm_X11_races_c201 : Cond.constantLong RX11 201 (1048576) ∈ wsX11_races := by decide +kernel
theorem mm_X11_races_c64 : Cond.constantLong RX11 64 (10) ∈ wsX11_races := by decide +kernel
set_option maxHeartbeats 4000000 in
set_option maxRecDepth 100000 in
/-- races -/
theorem m_races (l : Launch) (X : EX) (m0 : Nat) (ma : Nat → Nat) (la : Int64) (lb : Int64) (n : Nat) (t : Nat → Nat) (v : Nat → Int32) (fa : Nat → Int32) (ba : Nat → Nat) (fh : Nat → Int32) (bh : Nat → Nat) (fr : Nat → Int32) (x1 : Int32) (x2 : Int32) (hI_n : n ≤ 150) (hI_t : InT t) (hI_fa : InM fa ba) (hI_fh : InM fh bh) (sz : Nat) : Met l yX11_races wsX11_races ({ frames := 4, cells := 0, slots := 0, locals := 93 } : Room) (pE X [.ref m0, .int x1, .int x2] (@HAppend.hAppend va_W va_W va_W _ (mW m0 ma la lb n t v) (@HAppend.hAppend va_W va_W va_W _ ([((ma 0), .inl (X.2.1, 371, .inl fa))]) (@HAppend.hAppend va_W va_W va_W _ ([((ma 6), .inl (X.2.1, 55, .inl fh))]) ([((ma 3), .inl (X.2.1, 3, .inl fr))])))) sz) (qI (fun (r : Int32) (u : (Nat → Int32) × (Nat → Nat) × (Nat → Int32)) => InM u.1 u.2.1 ∧ (True)) X (fun (u : (Nat → Int32) × (Nat → Nat) × (Nat → Int32)) => @HAppend.hAppend va_W va_W va_W _ (mW m0 ma la lb n t v) (@HAppend.hAppend va_W va_W va_W _ ([((ma 0), .inl (X.2.1, 371, .inl fa))]) (@HAppend.hAppend va_W va_W va_W _ ([((ma 6), .inl (X.2.1, 55, .inl u.1))]) ([((ma 3), .inl (X.2.1, 3, .inl u.2.2))])))) (@HAppend.hAppend va_W va_W va_W _ (mW m0 ma la lb n t v) (@HAppend.hAppend va_W va_W va_W _ ([((ma 0), .inl (X.2.1, 371, .inl fa))]) (@HAppend.hAppend va_W va_W va_W _ ([((ma 6), .inl (X.2.1, 55, .inl fh))]) ([((ma 3), .inl (X.2.1, 3, .inl fr))])))) sz) 0 0 (va_A (@HAppend.hAppend va_W va_W va_W _ (mW m0 ma la lb n t v) (@HAppend.hAppend va_W va_W va_W _ ([((ma 0), .inl (X.2.1, 371, .inl fa))]) (@HAppend.hAppend va_W va_W va_W _ ([((ma 6), .inl (X.2.1, 55, .inl fh))]) ([((ma 3), .inl (X.2.1, 3, .inl fr))])))) sz) := by
  refine mk_met (B := (va_A (@HAppend.hAppend va_W va_W va_W _ (mW m0 ma la lb n t v) (@HAppend.hAppend va_W va_W va_W _ ([((ma 0), .inl (X.2.1, 371, .inl fa))]) (@HAppend.hAppend va_W va_W va_W _ ([((ma 6), .inl (X.2.1, 55, .inl fh))]) ([((ma 3), .inl (X.2.1, 3, .inl fr))])))) sz)) (A := (va_A (@HAppend.hAppend va_W va_W va_W _ (mW m0 ma la lb n t v) (@HAppend.hAppend va_W va_W va_W _ ([((ma 0), .inl (X.2.1, 371, .inl fa))]) (@HAppend.hAppend va_W va_W va_W _ ([((ma 6), .inl (X.2.1, 55, .inl fh))]) ([((ma 3), .inl (X.2.1, 3, .inl fr))])))) sz)) (cc := cX11_races) (maxL := 7) (ret := (some .int)) (by decide) rfl (Nat.le_of_ble_eq_true rfl) k_w k_a (fun p e s m below meth c S zr zlk znm zsz G ls hl => ?_)
  have S : CallFix p m c cX11_races 7 s _ wsX11_races RX11 := S
  have zx := S.1
  have zb := S.2.1
  have hl : lv_has ls 7 [(0, .ref m0), (1, .int x1), (2, .int x2)] := hl
  have hO_t := hI_t
  obtain ⟨ht0_t, ht1_t⟩ := hO_t
  have hO_fa := hI_fa.2
  obtain ⟨hm0_fa, hm1_fa, hm2_fa, hm3_fa, hm4_fa⟩ := hO_fa
  have hO_fh := hI_fh.2
  obtain ⟨hm0_fh, hm1_fh, hm2_fh, hm3_fh, hm4_fh⟩ := hO_fh
  refine lv_iload_n zx zb dX11_races_0 rfl (lv_at hl 1 rfl) ?_
  refine lv_i2l (v := (Int32.toInt64 x1)) zx zb dX11_races_1 rfl ?_
  refine lv_lconst (v := (Int32.toInt64 0)) zx zb dX11_races_2 (by decide) ?_
  refine lv_ldc2 zx zb S.2.2.2.1 (S.2.2.2.2 _ mm_X11_races_c191) dX11_races_3 ?_
  refine k_ld (v := (Int32.toInt64 999999)) (by decide) ?_
  refine o_ri (cells' := 0) (slots' := 0) G rfl rfl (n_S (As := [.long (Int32.toInt64 x1), .long (Int32.toInt64 0), .long (Int32.toInt64 999999)]) (rest := []) S G (m_in l X x1 0 999999 s.heap.size) gX11_races_X11_in rfl rfl rfl hdS_X11_in ⟨Nat.le_of_ble_eq_true rfl, Nat.le_of_ble_eq_true rfl⟩ [] rfl rfl rfl hl.1 (Nat.le_of_ble_eq_true rfl) dX11_races_6 ⟨Nat.le_of_ble_eq_true rfl, Nat.le_of_ble_eq_true rfl⟩) (fun r_1 u_1 H locs hp_1 G => ?_)
  have G : wd X (va_A (@HAppend.hAppend va_W va_W va_W _ (mW m0 ma la lb n t v) (@HAppend.hAppend va_W va_W va_W _ ([((ma 0), .inl (X.2.1, 371, .inl fa))]) (@HAppend.hAppend va_W va_W va_W _ ([((ma 6), .inl (X.2.1, 55, .inl fh))]) ([((ma 3), .inl (X.2.1, 3, .inl fr))])))) sz) (va_A (@HAppend.hAppend va_W va_W va_W _ (mW m0 ma la lb n t v) (@HAppend.hAppend va_W va_W va_W _ ([((ma 0), .inl (X.2.1, 371, .inl fa))]) (@HAppend.hAppend va_W va_W va_W _ ([((ma 6), .inl (X.2.1, 55, .inl fh))]) ([((ma 3), .inl (X.2.1, 3, .inl fr))])))) sz) s (@HAppend.hAppend va_W va_W va_W _ (mW m0 ma la lb n t v) (@HAppend.hAppend va_W va_W va_W _ ([((ma 0), .inl (X.2.1, 371, .inl fa))]) (@HAppend.hAppend va_W va_W va_W _ ([((ma 6), .inl (X.2.1, 55, .inl fh))]) ([((ma 3), .inl (X.2.1, 3, .inl fr))])))) H locs := G
  rcases hp_1 with ⟨rfl, hw_1⟩ | ⟨rfl, hw_1⟩
  · obtain ⟨j_1, ⟨ja_1, jb_1⟩, rfl⟩ := k_natR (a := 0) (b := 999999) hw_1 rfl rfl (by decide) (by decide)
    refine lv_if_eq (tgt := 24) zx zb dX11_races_9 (by decide) (fun c_2 => absurd c_2 (by decide)) (fun c_2 => ?_)
    refine lv_iload_n zx zb dX11_races_12 rfl (lv_at hl 2 rfl) ?_
    refine lv_i2l (v := (Int32.toInt64 x2)) zx zb dX11_races_13 rfl ?_
    refine lv_lconst (v := (Int32.toInt64 0)) zx zb dX11_races_14 (by decide) ?_
    refine lv_ldc2 zx zb S.2.2.2.1 (S.2.2.2.2 _ mm_X11_races_c66) dX11_races_15 ?_
    refine k_ld (v := (Int32.toInt64 60)) (by decide) ?_
    refine o_ri (cells' := 0) (slots' := 0) G rfl rfl (n_S (As := [.long (Int32.toInt64 x2), .long (Int32.toInt64 0), .long (Int32.toInt64 60)]) (rest := []) S G (m_in l X x2 0 60 H.size) gX11_races_X11_in rfl rfl rfl hdS_X11_in ⟨Nat.le_of_ble_eq_true rfl, Nat.le_of_ble_eq_true rfl⟩ [] rfl rfl rfl hl.1 (Nat.le_of_ble_eq_true rfl) dX11_races_18 ⟨Nat.le_of_ble_eq_true rfl, Nat.le_of_ble_eq_true rfl⟩) (fun r_3 u_3 H locs hp_3 G => ?_)
    have G : wd X (va_A (@HAppend.hAppend va_W va_W va_W _ (mW m0 ma la lb n t v) (@HAppend.hAppend va_W va_W va_W _ ([((ma 0), .inl (X.2.1, 371, .inl fa))]) (@HAppend.hAppend va_W va_W va_W _ ([((ma 6), .inl (X.2.1, 55, .inl fh))]) ([((ma 3), .inl (X.2.1, 3, .inl fr))])))) sz) (va_A (@HAppend.hAppend va_W va_W va_W _ (mW m0 ma la lb n t v) (@HAppend.hAppend va_W va_W va_W _ ([((ma 0), .inl (X.2.1, 371, .inl fa))]) (@HAppend.hAppend va_W va_W va_W _ ([((ma 6), .inl (X.2.1, 55, .inl fh))]) ([((ma 3), .inl (X.2.1, 3, .inl fr))])))) sz) s (@HAppend.hAppend va_W va_W va_W _ (mW m0 ma la lb n t v) (@HAppend.hAppend va_W va_W va_W _ ([((ma 0), .inl (X.2.1, 371, .inl fa))]) (@HAppend.hAppend va_W va_W va_W _ ([((ma 6), .inl (X.2.1, 55, .inl fh))]) ([((ma 3), .inl (X.2.1, 3, .inl fr))])))) H locs := G
    rcases hp_3 with ⟨rfl, hw_3⟩ | ⟨rfl, hw_3⟩
    · obtain ⟨j_3, ⟨ja_3, jb_3⟩, rfl⟩ := k_natR (a := 0) (b := 60) hw_3 rfl rfl (by decide) (by decide)
      refine lv_if_ne (tgt := 31) zx zb dX11_races_21 (by decide) (fun c_4 => ?_) (fun c_4 => absurd c_4 (by decide))
      refine lv_iload_n zx zb dX11_races_31 rfl (lv_at hl 1 rfl) ?_
      refine lv_i2l (v := (Int32.toInt64 (nI j_1))) zx zb dX11_races_32 rfl ?_
      refine k_ld (nI_l (by omega)) ?_
      refine lv_lstore_n (lv' := [(3, .long (lN j_1)), (0, .ref m0), (1, .int (nI j_1)), (2, .int (nI j_3))]) zx zb dX11_races_33 rfl hl (by decide) rfl (fun ls hl => ?_)
      refine lv_aload_n zx zb dX11_races_34 rfl (lv_at hl 1 rfl) ?_
      refine b_wv (cells' := 0) (slots' := 0) (wr := [((ma 3), .inl (X.2.1, 3, .inl fr))]) G rfl rfl [0, 1, 2] [3] rfl rfl rfl rfl (n_V (As := []) (rest := []) (C := RX11) (T := TX11) (N := 18) (ci := 9) S G (m_layHand l X m0 ma la lb n t v fa ba fh bh hI_n hI_t hI_fa hI_fh H.size) gX11_races_X11_layHand rfl rfl rfl hdV_X11_layHand ⟨Nat.le_of_ble_eq_true rfl, Nat.le_of_ble_eq_true rfl⟩ [0, 1, 2] rfl rfl 0 rfl rfl rfl hl.1 (Nat.le_of_ble_eq_true rfl) dX11_races_35 ⟨Nat.le_of_ble_eq_true rfl, Nat.le_of_ble_eq_true rfl⟩) (fun u_5 H locs hp_5 G => ?_)
      obtain ⟨f_5a, b_5b⟩ := u_5
      obtain ⟨hI_f_5a, hq_5⟩ := hp_5
      have hO_f_5a := hI_f_5a.2
      obtain ⟨hm0_f_5a, hm1_f_5a, hm2_f_5a, hm3_f_5a, hm4_f_5a⟩ := hO_f_5a
      have G : wd X (va_A (@HAppend.hAppend va_W va_W va_W _ (mW m0 ma la lb n t v) (@HAppend.hAppend va_W va_W va_W _ ([((ma 0), .inl (X.2.1, 371, .inl fa))]) (@HAppend.hAppend va_W va_W va_W _ ([((ma 6), .inl (X.2.1, 55, .inl fh))]) ([((ma 3), .inl (X.2.1, 3, .inl fr))])))) sz) (va_A (@HAppend.hAppend va_W va_W va_W _ (mW m0 ma la lb n t v) (@HAppend.hAppend va_W va_W va_W _ ([((ma 0), .inl (X.2.1, 371, .inl fa))]) (@HAppend.hAppend va_W va_W va_W _ ([((ma 6), .inl (X.2.1, 55, .inl fh))]) ([((ma 3), .inl (X.2.1, 3, .inl fr))])))) sz) s (@HAppend.hAppend va_W va_W va_W _ ([((ma 3), .inl (X.2.1, 3, .inl fr))]) (@HAppend.hAppend va_W va_W va_W _ (mW m0 ma la lb n t v) (@HAppend.hAppend va_W va_W va_W _ ([((ma 0), .inl (X.2.1, 371, .inl fa))]) ([((ma 6), .inl (X.2.1, 55, .inl f_5a))])))) H locs := G
      refine lv_iconst (v := 0) zx zb dX11_races_38 (by decide) ?_
      refine lv_istore (lv' := [(5, .int 0), (3, .long (lN j_1)), (0, .ref m0), (1, .int (nI j_1)), (2, .int (nI j_3))]) zx zb dX11_races_39 hl (by decide) rfl (fun ls hl => ?_)
      refine k_loop (P := ∀ (zm : Nat) (k41 : Nat) (x41_3 : Int64) (f41_3 : Nat → Int32) (H : Heap) (locs : List Loc) (ls : Array Slot), 60 + 1 ≤ k41 + zm → InM f41_3 b_5b → (k41 ≤ 60) → (∃ q : Nat, q < 2147483648 ∧ x41_3 = lN q) → wd X (va_A (@HAppend.hAppend va_W va_W va_W _ (mW m0 ma la lb n t v) (@HAppend.hAppend va_W va_W va_W _ ([((ma 0), .inl (X.2.1, 371, .inl fa))]) (@HAppend.hAppend va_W va_W va_W _ ([((ma 6), .inl (X.2.1, 55, .inl fh))]) ([((ma 3), .inl (X.2.1, 3, .inl fr))])))) sz) (va_A (@HAppend.hAppend va_W va_W va_W _ (mW m0 ma la lb n t v) (@HAppend.hAppend va_W va_W va_W _ ([((ma 0), .inl (X.2.1, 371, .inl fa))]) (@HAppend.hAppend va_W va_W va_W _ ([((ma 6), .inl (X.2.1, 55, .inl fh))]) ([((ma 3), .inl (X.2.1, 3, .inl fr))])))) sz) s (@HAppend.hAppend va_W va_W va_W _ ([((ma 3), .inl (X.2.1, 3, .inl fr))]) (@HAppend.hAppend va_W va_W va_W _ (mW m0 ma la lb n t v) (@HAppend.hAppend va_W va_W va_W _ ([((ma 0), .inl (X.2.1, 371, .inl fa))]) ([((ma 6), .inl (X.2.1, 55, .inl f41_3))])))) H locs → lv_has ls 7 [(5, .int (nI k41)), (3, .long x41_3), (0, .ref m0), (1, .int (nI j_1)), (2, .int (nI j_3))] → W p l e _ s m _ below meth c H locs _ _ _ (F0 m 41 ls [])) (fun loop => loop (60 + 1) 0 (lN j_1) f_5a _ _ _ (by omega) hI_f_5a (by omega) (by first | assumption | exact ⟨_, by omega, rfl⟩ | exact ⟨_, hz1, rfl⟩) G hl) ?_
      intro zm
      induction zm with
      | zero => intro k41 x41_3 f41_3 H locs ls zz q_hI_f41_3 q_hk_k41 q_hk_x41_3 _ _; exact absurd zz (by omega)
      | succ zm ih41 =>
        intro k41 x41_3 f41_3 H locs ls zm_41 hI_f41_3 hk_k41 hk_x41_3 G hl
        have hO_f41_3 := hI_f41_3.2
        obtain ⟨hm0_f41_3, hm1_f41_3, hm2_f41_3, hm3_f41_3, hm4_f41_3⟩ := hO_f41_3
        refine lv_iload zx zb dX11_races_41 (lv_at hl 0 rfl) ?_
        refine lv_iload_n zx zb dX11_races_43 rfl (lv_at hl 4 rfl) ?_
        refine lv_icmp_ge (tgt := 115) zx zb dX11_races_44 (by decide) (fun c_6 => ?_) (fun c_6 => ?_)
        · have fc_6 := j_le (a := j_3) (b := k41) (by omega) (by omega) c_6
          refine lv_aload_n zx zb dX11_races_115 rfl (lv_at hl 2 rfl) ?_
          refine r_get (C := RX11) (T := TX11) (N := 18) (ci := 9) (v := .ref (ma 6)) S in_X11_races_X11 G 1 rfl rfl 6 (by decide) lk_X11_races_27 rfl dX11_races_116 ?_
          refine o_ri (cells' := 0) (slots' := 0) G rfl rfl (n_S (As := [.ref (ma 6)]) (rest := []) S G (m_manyHome l X (ma 6) 55 f41_3 b_5b hI_f41_3 (by omega) (by omega) H.size) gX11_races_X11_manyHome rfl rfl rfl hdS_X11_manyHome ⟨Nat.le_of_ble_eq_true rfl, Nat.le_of_ble_eq_true rfl⟩ [3] rfl rfl rfl hl.1 (Nat.le_of_ble_eq_true rfl) dX11_races_119 ⟨Nat.le_of_ble_eq_true rfl, Nat.le_of_ble_eq_true rfl⟩) (fun r_7 u_7 H locs hp_7 G => ?_)
          have G : wd X (va_A (@HAppend.hAppend va_W va_W va_W _ (mW m0 ma la lb n t v) (@HAppend.hAppend va_W va_W va_W _ ([((ma 0), .inl (X.2.1, 371, .inl fa))]) (@HAppend.hAppend va_W va_W va_W _ ([((ma 6), .inl (X.2.1, 55, .inl fh))]) ([((ma 3), .inl (X.2.1, 3, .inl fr))])))) sz) (va_A (@HAppend.hAppend va_W va_W va_W _ (mW m0 ma la lb n t v) (@HAppend.hAppend va_W va_W va_W _ ([((ma 0), .inl (X.2.1, 371, .inl fa))]) (@HAppend.hAppend va_W va_W va_W _ ([((ma 6), .inl (X.2.1, 55, .inl fh))]) ([((ma 3), .inl (X.2.1, 3, .inl fr))])))) sz) s (@HAppend.hAppend va_W va_W va_W _ ([((ma 3), .inl (X.2.1, 3, .inl fr))]) (@HAppend.hAppend va_W va_W va_W _ (mW m0 ma la lb n t v) (@HAppend.hAppend va_W va_W va_W _ ([((ma 0), .inl (X.2.1, 371, .inl fa))]) ([((ma 6), .inl (X.2.1, 55, .inl f41_3))])))) H locs := G
          exact e_int S zr zlk (vp_nar_int _) G (f41_3, b_5b, fr) [1, 2, 3, 0] rfl rfl (Or.inr rfl) (⟨hI_f41_3, trivial⟩) dX11_races_122
        · have fc_6 := j_nle (a := j_3) (b := k41) (by omega) (by omega) c_6
          obtain ⟨z, zz, rfl⟩ := hk_x41_3
          refine lv_lload_n zx zb dX11_races_47 rfl (lv_at hl 1 rfl) ?_
          refine lv_ldc2 zx zb S.2.2.2.1 (S.2.2.2.2 _ mm_X11_races_c193) dX11_races_48 ?_
          refine k_ld (v := (Int32.toInt64 1103515245)) (by decide) ?_
          refine r_lmul (v := ((lN z) * (Int32.toInt64 1103515245))) S rfl dX11_races_51 ?_
          refine lv_ldc2 zx zb S.2.2.2.1 (S.2.2.2.2 _ mm_X11_races_c195) dX11_races_52 ?_
          refine k_ld (v := (Int32.toInt64 12345)) (by decide) ?_
          refine r_ladd (v := (((lN z) * (Int32.toInt64 1103515245)) + (Int32.toInt64 12345))) S rfl dX11_races_55 ?_
          refine lv_ldc2 zx zb S.2.2.2.1 (S.2.2.2.2 _ mm_X11_races_c197) dX11_races_56 ?_
          refine lv_lrem zx zb dX11_races_59 (by decide) ?_
          obtain ⟨z1, hz1, ez1⟩ := k_rx zz
          refine k_ld ez1 ?_
          refine lv_lstore_n (lv' := [(3, .long (lN z1)), (5, .int (nI k41)), (0, .ref m0), (1, .int (nI j_1)), (2, .int (nI j_3))]) zx zb dX11_races_60 rfl hl (by decide) rfl (fun ls hl => ?_)
          refine lv_lload_n zx zb dX11_races_61 rfl (lv_at hl 0 rfl) ?_
          refine lv_ldc2 zx zb S.2.2.2.1 (S.2.2.2.2 _ mm_X11_races_c199) dX11_races_62 ?_
          refine k_ld (v := (Int32.toInt64 65536)) (by decide) ?_
          refine lv_ldiv zx zb dX11_races_65 (by decide) ?_
          refine lv_ldc2 zx zb S.2.2.2.1 (S.2.2.2.2 _ mm_X11_races_c185) dX11_races_66 ?_
          refine k_ld (v := (Int32.toInt64 6)) (by decide) ?_
          refine lv_lrem zx zb dX11_races_69 (by decide) ?_
          refine lv_l2i (v := (Int64.toInt32 (((lN z1) / (Int32.toInt64 65536)) - ((lN z1) / (Int32.toInt64 65536)) / (Int32.toInt64 6) * (Int32.toInt64 6)))) zx zb dX11_races_70 rfl ?_
          obtain ⟨j, hj, ej⟩ := k_ri hz1
          refine k_it ej ?_
          refine lv_istore (lv' := [(6, .int (nI j)), (3, .long (lN z1)), (5, .int (nI k41)), (0, .ref m0), (1, .int (nI j_1)), (2, .int (nI j_3))]) zx zb dX11_races_71 hl (by decide) rfl (fun ls hl => ?_)
          refine lv_aload_n zx zb dX11_races_73 rfl (lv_at hl 3 rfl) ?_
          refine lv_iload zx zb dX11_races_74 (lv_at hl 0 rfl) ?_
          refine o_ri (cells' := 0) (slots' := 0) G rfl rfl (n_V (As := [.int (nI j)]) (rest := []) (C := RX11) (T := TX11) (N := 18) (ci := 9) S G (m_isOne l X m0 ma la lb n t v fa ba (nI j) hI_n hI_t hI_fa H.size) gX11_races_X11_isOne rfl rfl rfl hdV_X11_isOne ⟨Nat.le_of_ble_eq_true rfl, Nat.le_of_ble_eq_true rfl⟩ [1, 2] rfl rfl 1 rfl rfl rfl hl.1 (Nat.le_of_ble_eq_true rfl) dX11_races_76 ⟨Nat.le_of_ble_eq_true rfl, Nat.le_of_ble_eq_true rfl⟩) (fun r_8 u_8 H locs hp_8 G => ?_)
          have G : wd X (va_A (@HAppend.hAppend va_W va_W va_W _ (mW m0 ma la lb n t v) (@HAppend.hAppend va_W va_W va_W _ ([((ma 0), .inl (X.2.1, 371, .inl fa))]) (@HAppend.hAppend va_W va_W va_W _ ([((ma 6), .inl (X.2.1, 55, .inl fh))]) ([((ma 3), .inl (X.2.1, 3, .inl fr))])))) sz) (va_A (@HAppend.hAppend va_W va_W va_W _ (mW m0 ma la lb n t v) (@HAppend.hAppend va_W va_W va_W _ ([((ma 0), .inl (X.2.1, 371, .inl fa))]) (@HAppend.hAppend va_W va_W va_W _ ([((ma 6), .inl (X.2.1, 55, .inl fh))]) ([((ma 3), .inl (X.2.1, 3, .inl fr))])))) sz) s (@HAppend.hAppend va_W va_W va_W _ ([((ma 3), .inl (X.2.1, 3, .inl fr))]) (@HAppend.hAppend va_W va_W va_W _ (mW m0 ma la lb n t v) (@HAppend.hAppend va_W va_W va_W _ ([((ma 0), .inl (X.2.1, 371, .inl fa))]) ([((ma 6), .inl (X.2.1, 55, .inl f41_3))])))) H locs := G
          rcases hp_8 with ⟨rfl, hj_8⟩ | rfl
          · obtain ⟨j_8, hj_8, ej_8⟩ := hj_8
            have ek_8 := j_eq (by omega) (by omega) ej_8
            refine lv_if_eq (tgt := 102) zx zb dX11_races_79 (by decide) (fun c_9 => absurd c_9 (by decide)) (fun c_9 => ?_)
            refine lv_aload_n zx zb dX11_races_82 rfl (lv_at hl 3 rfl) ?_
            refine r_get (C := RX11) (T := TX11) (N := 18) (ci := 9) (v := .ref (ma 6)) S in_X11_races_X11 G 1 rfl rfl 6 (by decide) lk_X11_races_27 rfl dX11_races_83 ?_
            refine lv_bipush (v := 11) zx zb dX11_races_86 (by decide) ?_
            refine lv_iload zx zb dX11_races_88 (lv_at hl 0 rfl) ?_
            refine r_iadd (v := (nI (11 + j))) S (nI_add 11 j) dX11_races_90 ?_
            refine lv_lload_n zx zb dX11_races_91 rfl (lv_at hl 1 rfl) ?_
            refine lv_ldc2 zx zb S.2.2.2.1 (S.2.2.2.2 _ mm_X11_races_c201) dX11_races_92 ?_
            refine k_ld (v := (Int32.toInt64 1048576)) (by decide) ?_
            refine lv_ldiv zx zb dX11_races_95 (by decide) ?_
            refine k_ldE (fun y_10 => ?_)
            refine lv_ldc2 zx zb S.2.2.2.1 (S.2.2.2.2 _ mm_X11_races_c64) dX11_races_96 ?_
            refine k_ld (v := (Int32.toInt64 10)) (by decide) ?_
            refine lv_lrem zx zb dX11_races_99 (by decide) ?_
            refine k_ldE (fun y_11 => ?_)
            refine lv_l2i (v := (Int64.toInt32 y_11)) zx zb dX11_races_100 rfl ?_
            refine r_iast S G 3 rfl (vp_in_nI (by omega) (by decide)) dX11_races_101 (fun H locs G => ?_)
            obtain ⟨f_12, hI_f_12, G⟩ : ∃ f_12 : Nat → Int32, InM f_12 b_5b ∧ wd X (va_A (@HAppend.hAppend va_W va_W va_W _ (mW m0 ma la lb n t v) (@HAppend.hAppend va_W va_W va_W _ ([((ma 0), .inl (X.2.1, 371, .inl fa))]) (@HAppend.hAppend va_W va_W va_W _ ([((ma 6), .inl (X.2.1, 55, .inl fh))]) ([((ma 3), .inl (X.2.1, 3, .inl fr))])))) sz) (va_A (@HAppend.hAppend va_W va_W va_W _ (mW m0 ma la lb n t v) (@HAppend.hAppend va_W va_W va_W _ ([((ma 0), .inl (X.2.1, 371, .inl fa))]) (@HAppend.hAppend va_W va_W va_W _ ([((ma 6), .inl (X.2.1, 55, .inl fh))]) ([((ma 3), .inl (X.2.1, 3, .inl fr))])))) sz) s (@HAppend.hAppend va_W va_W va_W _ ([((ma 3), .inl (X.2.1, 3, .inl fr))]) (@HAppend.hAppend va_W va_W va_W _ (mW m0 ma la lb n t v) (@HAppend.hAppend va_W va_W va_W _ ([((ma 0), .inl (X.2.1, 371, .inl fa))]) ([((ma 6), .inl (X.2.1, 55, .inl f_12))])))) H locs := ⟨_, InM_o hI_f41_3 (by rw [nI_clamp (by omega)]; omega), G⟩
            have hO_f_12 := hI_f_12.2
            obtain ⟨hm0_f_12, hm1_f_12, hm2_f_12, hm3_f_12, hm4_f_12⟩ := hO_f_12
            refine lv_aload_n zx zb dX11_races_102 rfl (lv_at hl 3 rfl) ?_
            refine r_get (C := RX11) (T := TX11) (N := 18) (ci := 9) (v := .ref (ma 6)) S in_X11_races_X11 G 1 rfl rfl 6 (by decide) lk_X11_races_27 rfl dX11_races_103 ?_
            refine b_wv (cells' := 0) (slots' := 0) (wr := @HAppend.hAppend va_W va_W va_W _ ([((ma 3), .inl (X.2.1, 3, .inl fr))]) (@HAppend.hAppend va_W va_W va_W _ (mW m0 ma la lb n t v) ([((ma 0), .inl (X.2.1, 371, .inl fa))]))) G rfl rfl [3] [0, 1, 2] rfl rfl rfl rfl (n_S (As := [.ref (ma 6)]) (rest := []) S G (m_goTick l X (ma 6) 55 f_12 b_5b hI_f_12 (by omega) (by omega) H.size) gX11_races_X11_goTick rfl rfl rfl hdS_X11_goTick ⟨Nat.le_of_ble_eq_true rfl, Nat.le_of_ble_eq_true rfl⟩ [3] rfl rfl rfl hl.1 (Nat.le_of_ble_eq_true rfl) dX11_races_106 ⟨Nat.le_of_ble_eq_true rfl, Nat.le_of_ble_eq_true rfl⟩) (fun u_13 H locs hp_13 G => ?_)
            obtain ⟨f_13, rfl⟩ : ∃ z, z = u_13 := ⟨_, rfl⟩
            obtain ⟨hI_f_13, hq_13⟩ := hp_13
            have hO_f_13 := hI_f_13.2
            obtain ⟨hm0_f_13, hm1_f_13, hm2_f_13, hm3_f_13, hm4_f_13⟩ := hO_f_13
            have G : wd X (va_A (@HAppend.hAppend va_W va_W va_W _ (mW m0 ma la lb n t v) (@HAppend.hAppend va_W va_W va_W _ ([((ma 0), .inl (X.2.1, 371, .inl fa))]) (@HAppend.hAppend va_W va_W va_W _ ([((ma 6), .inl (X.2.1, 55, .inl fh))]) ([((ma 3), .inl (X.2.1, 3, .inl fr))])))) sz) (va_A (@HAppend.hAppend va_W va_W va_W _ (mW m0 ma la lb n t v) (@HAppend.hAppend va_W va_W va_W _ ([((ma 0), .inl (X.2.1, 371, .inl fa))]) (@HAppend.hAppend va_W va_W va_W _ ([((ma 6), .inl (X.2.1, 55, .inl fh))]) ([((ma 3), .inl (X.2.1, 3, .inl fr))])))) sz) s (@HAppend.hAppend va_W va_W va_W _ ([((ma 3), .inl (X.2.1, 3, .inl fr))]) (@HAppend.hAppend va_W va_W va_W _ (mW m0 ma la lb n t v) (@HAppend.hAppend va_W va_W va_W _ ([((ma 0), .inl (X.2.1, 371, .inl fa))]) ([((ma 6), .inl (X.2.1, 55, .inl f_13))])))) H locs := G
            refine lv_iinc (v := (nI (k41 + 1))) (lv' := [(5, .int (nI (k41 + 1))), (6, .int (nI j)), (3, .long (lN z1)), (0, .ref m0), (1, .int (nI j_1)), (2, .int (nI j_3))]) zx zb dX11_races_109 hl (k := 2) rfl (nI_add k41 1) (by decide) rfl (fun ls hl => ?_)
            refine lv_goto (tgt := 41) zx zb dX11_races_112 (by decide) ?_
            have hl := lv_sub hl (l' := [(5, .int (nI (k41 + 1))), (3, .long (lN z1)), (0, .ref m0), (1, .int (nI j_1)), (2, .int (nI j_3))]) [0, 2, 3, 4, 5] rfl
            exact ih41 (k41 + 1) (lN z1) f_13 _ _ _ (by omega) hI_f_13 (by omega) (by first | assumption | exact ⟨_, by omega, rfl⟩ | exact ⟨_, hz1, rfl⟩) G hl
          · refine lv_if_eq (tgt := 102) zx zb dX11_races_79 (by decide) (fun c_14 => ?_) (fun c_14 => absurd (by decide) c_14)
            refine lv_aload_n zx zb dX11_races_102 rfl (lv_at hl 3 rfl) ?_
            refine r_get (C := RX11) (T := TX11) (N := 18) (ci := 9) (v := .ref (ma 6)) S in_X11_races_X11 G 1 rfl rfl 6 (by decide) lk_X11_races_27 rfl dX11_races_103 ?_
            refine b_wv (cells' := 0) (slots' := 0) (wr := @HAppend.hAppend va_W va_W va_W _ ([((ma 3), .inl (X.2.1, 3, .inl fr))]) (@HAppend.hAppend va_W va_W va_W _ (mW m0 ma la lb n t v) ([((ma 0), .inl (X.2.1, 371, .inl fa))]))) G rfl rfl [3] [0, 1, 2] rfl rfl rfl rfl (n_S (As := [.ref (ma 6)]) (rest := []) S G (m_goTick l X (ma 6) 55 f41_3 b_5b hI_f41_3 (by omega) (by omega) H.size) gX11_races_X11_goTick rfl rfl rfl hdS_X11_goTick ⟨Nat.le_of_ble_eq_true rfl, Nat.le_of_ble_eq_true rfl⟩ [3] rfl rfl rfl hl.1 (Nat.le_of_ble_eq_true rfl) dX11_races_106 ⟨Nat.le_of_ble_eq_true rfl, Nat.le_of_ble_eq_true rfl⟩) (fun u_15 H locs hp_15 G => ?_)
            obtain ⟨f_15, rfl⟩ : ∃ z, z = u_15 := ⟨_, rfl⟩
            obtain ⟨hI_f_15, hq_15⟩ := hp_15
            have hO_f_15 := hI_f_15.2
            obtain ⟨hm0_f_15, hm1_f_15, hm2_f_15, hm3_f_15, hm4_f_15⟩ := hO_f_15
            have G : wd X (va_A (@HAppend.hAppend va_W va_W va_W _ (mW m0 ma la lb n t v) (@HAppend.hAppend va_W va_W va_W _ ([((ma 0), .inl (X.2.1, 371, .inl fa))]) (@HAppend.hAppend va_W va_W va_W _ ([((ma 6), .inl (X.2.1, 55, .inl fh))]) ([((ma 3), .inl (X.2.1, 3, .inl fr))])))) sz) (va_A (@HAppend.hAppend va_W va_W va_W _ (mW m0 ma la lb n t v) (@HAppend.hAppend va_W va_W va_W _ ([((ma 0), .inl (X.2.1, 371, .inl fa))]) (@HAppend.hAppend va_W va_W va_W _ ([((ma 6), .inl (X.2.1, 55, .inl fh))]) ([((ma 3), .inl (X.2.1, 3, .inl fr))])))) sz) s (@HAppend.hAppend va_W va_W va_W _ ([((ma 3), .inl (X.2.1, 3, .inl fr))]) (@HAppend.hAppend va_W va_W va_W _ (mW m0 ma la lb n t v) (@HAppend.hAppend va_W va_W va_W _ ([((ma 0), .inl (X.2.1, 371, .inl fa))]) ([((ma 6), .inl (X.2.1, 55, .inl f_15))])))) H locs := G
            refine lv_iinc (v := (nI (k41 + 1))) (lv' := [(5, .int (nI (k41 + 1))), (6, .int (nI j)), (3, .long (lN z1)), (0, .ref m0), (1, .int (nI j_1)), (2, .int (nI j_3))]) zx zb dX11_races_109 hl (k := 2) rfl (nI_add k41 1) (by decide) rfl (fun ls hl => ?_)
            refine lv_goto (tgt := 41) zx zb dX11_races_112 (by decide) ?_
            have hl := lv_sub hl (l' := [(5, .int (nI (k41 + 1))), (3, .long (lN z1)), (0, .ref m0), (1, .int (nI j_1)), (2, .int (nI j_3))]) [0, 2, 3, 4, 5] rfl
            exact ih41 (k41 + 1) (lN z1) f_15 _ _ _ (by omega) hI_f_15 (by omega) (by first | assumption | exact ⟨_, by omega, rfl⟩ | exact ⟨_, hz1, rfl⟩) G hl
    · refine lv_if_ne (tgt := 31) zx zb dX11_races_21 (by decide) (fun c_16 => absurd (by decide) c_16) (fun c_16 => ?_)
      refine lv_aload_n zx zb dX11_races_24 rfl (lv_at hl 0 rfl) ?_
      refine lv_bipush (v := (-2)) zx zb dX11_races_25 (by decide) ?_
      refine b_wi (cells' := 0) (slots' := 0) (wr := @HAppend.hAppend va_W va_W va_W _ ([((ma 0), .inl (X.2.1, 371, .inl fa))]) ([((ma 6), .inl (X.2.1, 55, .inl fh))])) G rfl rfl [0, 3] [1, 2] rfl rfl rfl rfl (n_V (As := [.int (-2)]) (rest := []) (C := RX11) (T := TX11) (N := 18) (ci := 9) S G (m_bad l X m0 ma la lb n t v fr (-2) hI_n hI_t H.size) gX11_races_X11_bad rfl rfl rfl hdV_X11_bad ⟨Nat.le_of_ble_eq_true rfl, Nat.le_of_ble_eq_true rfl⟩ [0, 3] rfl rfl 0 rfl rfl rfl hl.1 (Nat.le_of_ble_eq_true rfl) dX11_races_27 ⟨Nat.le_of_ble_eq_true rfl, Nat.le_of_ble_eq_true rfl⟩) (fun r_17 u_17 H locs hp_17 G => ?_)
      obtain ⟨f_17, rfl⟩ : ∃ z, z = u_17 := ⟨_, rfl⟩
      have hq_17 := hp_17
      have G : wd X (va_A (@HAppend.hAppend va_W va_W va_W _ (mW m0 ma la lb n t v) (@HAppend.hAppend va_W va_W va_W _ ([((ma 0), .inl (X.2.1, 371, .inl fa))]) (@HAppend.hAppend va_W va_W va_W _ ([((ma 6), .inl (X.2.1, 55, .inl fh))]) ([((ma 3), .inl (X.2.1, 3, .inl fr))])))) sz) (va_A (@HAppend.hAppend va_W va_W va_W _ (mW m0 ma la lb n t v) (@HAppend.hAppend va_W va_W va_W _ ([((ma 0), .inl (X.2.1, 371, .inl fa))]) (@HAppend.hAppend va_W va_W va_W _ ([((ma 6), .inl (X.2.1, 55, .inl fh))]) ([((ma 3), .inl (X.2.1, 3, .inl fr))])))) sz) s (@HAppend.hAppend va_W va_W va_W _ ([((ma 0), .inl (X.2.1, 371, .inl fa))]) (@HAppend.hAppend va_W va_W va_W _ ([((ma 6), .inl (X.2.1, 55, .inl fh))]) (@HAppend.hAppend va_W va_W va_W _ (mW m0 ma la lb n t v) ([((ma 3), .inl (X.2.1, 3, .inl f_17))])))) H locs := G
      obtain rfl := hq_17
      exact e_int S zr zlk (vp_nar_int _) G (fh, bh, f_17) [2, 0, 1, 3] rfl rfl (Or.inr rfl) (⟨hI_fh, trivial⟩) dX11_races_30
  · refine lv_if_eq (tgt := 24) zx zb dX11_races_9 (by decide) (fun c_18 => ?_) (fun c_18 => absurd (by decide) c_18)
    refine lv_aload_n zx zb dX11_races_24 rfl (lv_at hl 0 rfl) ?_
    refine lv_bipush (v := (-2)) zx zb dX11_races_25 (by decide) ?_
    refine b_wi (cells' := 0) (slots' := 0) (wr := @HAppend.hAppend va_W va_W va_W _ ([((ma 0), .inl (X.2.1, 371, .inl fa))]) ([((ma 6), .inl (X.2.1, 55, .inl fh))])) G rfl rfl [0, 3] [1, 2] rfl rfl rfl rfl (n_V (As := [.int (-2)]) (rest := []) (C := RX11) (T := TX11) (N := 18) (ci := 9) S G (m_bad l X m0 ma la lb n t v fr (-2) hI_n hI_t H.size) gX11_races_X11_bad rfl rfl rfl hdV_X11_bad ⟨Nat.le_of_ble_eq_true rfl, Nat.le_of_ble_eq_true rfl⟩ [0, 3] rfl rfl 0 rfl rfl rfl hl.1 (Nat.le_of_ble_eq_true rfl) dX11_races_27 ⟨Nat.le_of_ble_eq_true rfl, Nat.le_of_ble_eq_true rfl⟩) (fun r_19 u_19 H locs hp_19 G => ?_)
    obtain ⟨f_19, rfl⟩ : ∃ z, z = u_19 := ⟨_, rfl⟩
    have hq_19 := hp_19
    have G : wd X (va_A (@HAppend.hAppend va_W va_W va_W _ (mW m0 ma la lb n t v) (@HAppend.hAppend va_W va_W va_W _ ([((ma 0), .inl (X.2.1, 371, .inl fa))]) (@HAppend.hAppend va_W va_W va_W _ ([((ma 6), .inl (X.2.1, 55, .inl fh))]) ([((ma 3), .inl (X.2.1, 3, .inl fr))])))) sz) (va_A (@HAppend.hAppend va_W va_W va_W _ (mW m0 ma la lb n t v) (@HAppend.hAppend va_W va_W va_W _ ([((ma 0), .inl (X.2.1, 371, .inl fa))]) (@HAppend.hAppend va_W va_W va_W _ ([((ma 6), .inl (X.2.1, 55, .inl fh))]) ([((ma 3), .inl (X.2.1, 3, .inl fr))])))) sz) s (@HAppend.hAppend va_W va_W va_W _ ([((ma 0), .inl (X.2.1, 371, .inl fa))]) (@HAppend.hAppend va_W va_W va_W _ ([((ma 6), .inl (X.2.1, 55, .inl fh))]) (@HAppend.hAppend va_W va_W va_W _ (mW m0 ma la lb n t v) ([((ma 3), .inl (X.2.1, 3, .inl f_19))])))) H locs := G
    obtain rfl := hq_19
    exact e_int S zr zlk (vp_nar_int _) G (fh, bh, f_19) [2, 0, 1, 3] rfl rfl (Or.inr rfl) (⟨hI_fh, trivial⟩) dX11_races_30
