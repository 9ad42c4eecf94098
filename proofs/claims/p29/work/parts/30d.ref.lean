set_option maxRecDepth 20000 in
theorem ggX11_goTicks_X11_goTick : GoodIn wsX11_goTicks wsX11_goTick := goodIn_r _ [4, 5, 6, 3, 7, 8, 9, 10, 11, 12, 13, 14, 15, 16, 17, 18, 19, 20, 21, 22] rfl (by decide +kernel)
set_option maxRecDepth 20000 in
theorem gX11_goTicks_X11_goTick : GoodIn wsX11_goTicks (va_wsS RX11 109 yX11_goTick wsX11_goTick) := goodIn_app (goodIn_of _ (by decide +kernel)) ggX11_goTicks_X11_goTick
set_option maxRecDepth 20000 in
theorem ggX11_isFigure_X11_in : GoodIn wsX11_isFigure wsX11_in := goodIn_r _ [6] rfl (by decide +kernel)
set_option maxRecDepth 20000 in
theorem gX11_isFigure_X11_in : GoodIn wsX11_isFigure (va_wsS RX11 56 yX11_in wsX11_in) := goodIn_app (goodIn_of _ (by decide +kernel)) ggX11_isFigure_X11_in
set_option maxRecDepth 20000 in
theorem ggX11_isSmall_X11_in : GoodIn wsX11_isSmall wsX11_in := goodIn_r _ [6] rfl (by decide +kernel)
set_option maxRecDepth 20000 in
theorem gX11_isSmall_X11_in : GoodIn wsX11_isSmall (va_wsS RX11 56 yX11_in wsX11_in) := goodIn_app (goodIn_of _ (by decide +kernel)) ggX11_isSmall_X11_in
set_option maxRecDepth 20000 in
theorem ggX11_lookAt_X11_isFigure : GoodIn wsX11_lookAt wsX11_isFigure := goodIn_r _ [18, 19, 20, 13, 14, 9, 15] rfl (by decide +kernel)
set_option maxRecDepth 20000 in
theorem gX11_lookAt_X11_isFigure : GoodIn wsX11_lookAt (va_wsS RX11 232 yX11_isFigure wsX11_isFigure) := goodIn_app (goodIn_of _ (by decide +kernel)) ggX11_lookAt_X11_isFigure
set_option maxRecDepth 20000 in
theorem ggX11_lookAt_X11_isSmall : GoodIn wsX11_lookAt wsX11_isSmall := goodIn_r _ [10, 11, 12, 13, 14, 9, 15] rfl (by decide +kernel)
set_option maxRecDepth 20000 in
theorem gX11_lookAt_X11_isSmall : GoodIn wsX11_lookAt (va_wsS RX11 229 yX11_isSmall wsX11_isSmall) := goodIn_app (goodIn_of _ (by decide +kernel)) ggX11_lookAt_X11_isSmall
set_option maxRecDepth 20000 in
theorem ggX11_races_X11_bad : GoodIn wsX11_races wsX11_bad := goodIn_r _ [18, 19, 57, 58, 59, 60, 61, 62, 63, 64, 65, 66, 67, 68, 69, 70, 71, 72, 73, 74] rfl (by decide +kernel)
set_option maxRecDepth 20000 in
theorem gX11_races_X11_bad : GoodIn wsX11_races (wsV RX11 68 RX11 yX11_bad wsX11_bad) := goodIn_app (goodIn_of _ (by decide +kernel)) ggX11_races_X11_bad
set_option maxRecDepth 20000 in
theorem ggX11_races_X11_goTick : GoodIn wsX11_races wsX11_goTick := goodIn_r _ [35, 36, 37, 13, 38, 39, 40, 41, 42, 43, 44, 45, 46, 47, 48, 49, 50, 51, 52, 53] rfl (by decide +kernel)
set_option maxRecDepth 20000 in
theorem gX11_races_X11_goTick : GoodIn wsX11_races (va_wsS RX11 109 yX11_goTick wsX11_goTick) := goodIn_app (goodIn_of _ (by decide +kernel)) ggX11_races_X11_goTick
set_option maxRecDepth 20000 in
theorem ggX11_races_X11_in : GoodIn wsX11_races wsX11_in := goodIn_r _ [14] rfl (by decide +kernel)
set_option maxRecDepth 20000 in
theorem gX11_races_X11_in : GoodIn wsX11_races (va_wsS RX11 56 yX11_in wsX11_in) := goodIn_app (goodIn_of _ (by decide +kernel)) ggX11_races_X11_in
set_option maxRecDepth 20000 in
theorem ggX11_races_X11_isOne : GoodIn wsX11_races wsX11_isOne := goodIn_r _ [28, 29, 30, 31, 13, 32, 24, 11, 12, 14, 57, 58, 59, 60, 61, 62, 63, 64, 65, 66, 67, 68, 69, 70, 71, 72, 73, 74] rfl (by decide +kernel)
set_option maxRecDepth 20000 in
theorem gX11_races_X11_isOne : GoodIn wsX11_races (wsV RX11 123 RX11 yX11_isOne wsX11_isOne) := goodIn_app (goodIn_of _ (by decide +kernel)) ggX11_races_X11_isOne
set_option maxRecDepth 20000 in
theorem ggX11_races_X11_layHand : GoodIn wsX11_races wsX11_layHand := goodIn_r _ [23, 8, 24, 57, 58, 59, 60, 61, 62, 63, 64, 65, 66, 67, 68, 69, 70, 71, 72, 73, 74] rfl (by decide +kernel)
set_option maxRecDepth 20000 in
theorem gX11_races_X11_layHand : GoodIn wsX11_races (wsV RX11 137 RX11 yX11_layHand wsX11_layHand) := goodIn_app (goodIn_of _ (by decide +kernel)) ggX11_races_X11_layHand
set_option maxRecDepth 20000 in
theorem ggX11_races_X11_manyHome : GoodIn wsX11_races wsX11_manyHome := goodIn_r _ [56, 36, 37, 13, 38] rfl (by decide +kernel)
set_option maxRecDepth 20000 in
theorem gX11_races_X11_manyHome : GoodIn wsX11_races (va_wsS RX11 119 yX11_manyHome wsX11_manyHome) := goodIn_app (goodIn_of _ (by decide +kernel)) ggX11_races_X11_manyHome
theorem dX11_goTicks_0 : decode cX11_goTicks 0 = .ok (.iconst 0, 1) := by decide +kernel
theorem dX11_goTicks_1 : decode cX11_goTicks 1 = .ok (.istore_n 2, 1) := by decide +kernel
theorem dX11_goTicks_10 : decode cX11_goTicks 10 = .ok (.iaload, 1) := by decide +kernel
theorem dX11_goTicks_11 : decode cX11_goTicks 11 = .ok (.sipush 9999, 3) := by decide +kernel
theorem dX11_goTicks_14 : decode cX11_goTicks 14 = .ok (.if_icmp .ge 13, 3) := by decide +kernel
theorem dX11_goTicks_17 : decode cX11_goTicks 17 = .ok (.aload_n 0, 1) := by decide +kernel
theorem dX11_goTicks_18 : decode cX11_goTicks 18 = .ok (.invokestatic 109, 3) := by decide +kernel
theorem dX11_goTicks_2 : decode cX11_goTicks 2 = .ok (.iload_n 2, 1) := by decide +kernel
theorem dX11_goTicks_21 : decode cX11_goTicks 21 = .ok (.iinc 2 1, 3) := by decide +kernel
theorem dX11_goTicks_24 : decode cX11_goTicks 24 = .ok (.goto (-22), 3) := by decide +kernel
theorem dX11_goTicks_27 : decode cX11_goTicks 27 = .ok (.return_, 1) := by decide +kernel
theorem dX11_goTicks_3 : decode cX11_goTicks 3 = .ok (.iload_n 1, 1) := by decide +kernel
theorem dX11_goTicks_4 : decode cX11_goTicks 4 = .ok (.if_icmp .ge 23, 3) := by decide +kernel
theorem dX11_goTicks_7 : decode cX11_goTicks 7 = .ok (.aload_n 0, 1) := by decide +kernel
theorem dX11_goTicks_8 : decode cX11_goTicks 8 = .ok (.bipush 35, 2) := by decide +kernel
theorem dX11_isFigure_0 : decode cX11_isFigure 0 = .ok (.iload_n 0, 1) := by decide +kernel
theorem dX11_isFigure_1 : decode cX11_isFigure 1 = .ok (.i2l, 1) := by decide +kernel
theorem dX11_isFigure_11 : decode cX11_isFigure 11 = .ok (.ireturn, 1) := by decide +kernel
theorem dX11_isFigure_2 : decode cX11_isFigure 2 = .ok (.ldc2_w 213, 3) := by decide +kernel
theorem dX11_isFigure_5 : decode cX11_isFigure 5 = .ok (.ldc2_w 215, 3) := by decide +kernel
theorem dX11_isFigure_8 : decode cX11_isFigure 8 = .ok (.invokestatic 56, 3) := by decide +kernel
theorem dX11_isSmall_0 : decode cX11_isSmall 0 = .ok (.iload_n 0, 1) := by decide +kernel
theorem dX11_isSmall_1 : decode cX11_isSmall 1 = .ok (.i2l, 1) := by decide +kernel
theorem dX11_isSmall_11 : decode cX11_isSmall 11 = .ok (.ireturn, 1) := by decide +kernel
theorem dX11_isSmall_2 : decode cX11_isSmall 2 = .ok (.ldc2_w 209, 3) := by decide +kernel
theorem dX11_isSmall_5 : decode cX11_isSmall 5 = .ok (.ldc2_w 211, 3) := by decide +kernel
theorem dX11_isSmall_8 : decode cX11_isSmall 8 = .ok (.invokestatic 56, 3) := by decide +kernel
theorem dX11_layOne_0 : decode cX11_layOne 0 = .ok (.aload_n 0, 1) := by decide +kernel
theorem dX11_layOne_1 : decode cX11_layOne 1 = .ok (.iconst 0, 1) := by decide +kernel
theorem dX11_layOne_10 : decode cX11_layOne 10 = .ok (.iadd, 1) := by decide +kernel
theorem dX11_layOne_11 : decode cX11_layOne 11 = .ok (.iload_n 1, 1) := by decide +kernel
theorem dX11_layOne_12 : decode cX11_layOne 12 = .ok (.iastore, 1) := by decide +kernel
theorem dX11_layOne_13 : decode cX11_layOne 13 = .ok (.aload_n 0, 1) := by decide +kernel
theorem dX11_layOne_14 : decode cX11_layOne 14 = .ok (.bipush 43, 2) := by decide +kernel
theorem dX11_layOne_16 : decode cX11_layOne 16 = .ok (.iload 4, 2) := by decide +kernel
theorem dX11_layOne_18 : decode cX11_layOne 18 = .ok (.iadd, 1) := by decide +kernel
theorem dX11_layOne_19 : decode cX11_layOne 19 = .ok (.iload_n 2, 1) := by decide +kernel
theorem dX11_layOne_2 : decode cX11_layOne 2 = .ok (.iaload, 1) := by decide +kernel
theorem dX11_layOne_20 : decode cX11_layOne 20 = .ok (.iastore, 1) := by decide +kernel
theorem dX11_layOne_21 : decode cX11_layOne 21 = .ok (.aload_n 0, 1) := by decide +kernel
theorem dX11_layOne_22 : decode cX11_layOne 22 = .ok (.bipush 49, 2) := by decide +kernel
theorem dX11_layOne_24 : decode cX11_layOne 24 = .ok (.iload 4, 2) := by decide +kernel
theorem dX11_layOne_26 : decode cX11_layOne 26 = .ok (.iadd, 1) := by decide +kernel
theorem dX11_layOne_27 : decode cX11_layOne 27 = .ok (.iload_n 3, 1) := by decide +kernel
theorem dX11_layOne_28 : decode cX11_layOne 28 = .ok (.iastore, 1) := by decide +kernel
theorem dX11_layOne_29 : decode cX11_layOne 29 = .ok (.aload_n 0, 1) := by decide +kernel
theorem dX11_layOne_3 : decode cX11_layOne 3 = .ok (.istore 4, 2) := by decide +kernel
theorem dX11_layOne_30 : decode cX11_layOne 30 = .ok (.bipush 11, 2) := by decide +kernel
theorem dX11_layOne_32 : decode cX11_layOne 32 = .ok (.iload 4, 2) := by decide +kernel
theorem dX11_layOne_34 : decode cX11_layOne 34 = .ok (.iadd, 1) := by decide +kernel
theorem dX11_layOne_35 : decode cX11_layOne 35 = .ok (.iconst 4, 1) := by decide +kernel
theorem dX11_layOne_36 : decode cX11_layOne 36 = .ok (.iastore, 1) := by decide +kernel
theorem dX11_layOne_37 : decode cX11_layOne 37 = .ok (.aload_n 0, 1) := by decide +kernel
theorem dX11_layOne_38 : decode cX11_layOne 38 = .ok (.iconst 0, 1) := by decide +kernel
theorem dX11_layOne_39 : decode cX11_layOne 39 = .ok (.dup2, 1) := by decide +kernel
theorem dX11_layOne_40 : decode cX11_layOne 40 = .ok (.iaload, 1) := by decide +kernel
theorem dX11_layOne_41 : decode cX11_layOne 41 = .ok (.iconst 1, 1) := by decide +kernel
theorem dX11_layOne_42 : decode cX11_layOne 42 = .ok (.iadd, 1) := by decide +kernel
theorem dX11_layOne_43 : decode cX11_layOne 43 = .ok (.iastore, 1) := by decide +kernel
theorem dX11_layOne_44 : decode cX11_layOne 44 = .ok (.return_, 1) := by decide +kernel
theorem dX11_layOne_5 : decode cX11_layOne 5 = .ok (.aload_n 0, 1) := by decide +kernel
theorem dX11_layOne_6 : decode cX11_layOne 6 = .ok (.bipush 37, 2) := by decide +kernel
theorem dX11_layOne_8 : decode cX11_layOne 8 = .ok (.iload 4, 2) := by decide +kernel
theorem dX11_lookAt_0 : decode cX11_lookAt 0 = .ok (.aload_n 0, 1) := by decide +kernel
theorem dX11_lookAt_1 : decode cX11_lookAt 1 = .ok (.iload_n 1, 1) := by decide +kernel
theorem dX11_lookAt_10 : decode cX11_lookAt 10 = .ok (.getfield 205, 3) := by decide +kernel
theorem dX11_lookAt_100 : decode cX11_lookAt 100 = .ok (.goto 14, 3) := by decide +kernel
theorem dX11_lookAt_103 : decode cX11_lookAt 103 = .ok (.iload_n 2, 1) := by decide +kernel
theorem dX11_lookAt_104 : decode cX11_lookAt 104 = .ok (.bipush 59, 2) := by decide +kernel
theorem dX11_lookAt_106 : decode cX11_lookAt 106 = .ok (.if_icmp .ne 7, 3) := by decide +kernel
theorem dX11_lookAt_109 : decode cX11_lookAt 109 = .ok (.iconst 3, 1) := by decide +kernel
theorem dX11_lookAt_110 : decode cX11_lookAt 110 = .ok (.goto 4, 3) := by decide +kernel
theorem dX11_lookAt_113 : decode cX11_lookAt 113 = .ok (.iconst 4, 1) := by decide +kernel
theorem dX11_lookAt_114 : decode cX11_lookAt 114 = .ok (.putfield 223, 3) := by decide +kernel
theorem dX11_lookAt_117 : decode cX11_lookAt 117 = .ok (.aload_n 0, 1) := by decide +kernel
theorem dX11_lookAt_118 : decode cX11_lookAt 118 = .ok (.iconst 1, 1) := by decide +kernel
theorem dX11_lookAt_119 : decode cX11_lookAt 119 = .ok (.putfield 220, 3) := by decide +kernel
theorem dX11_lookAt_122 : decode cX11_lookAt 122 = .ok (.aload_n 0, 1) := by decide +kernel
theorem dX11_lookAt_123 : decode cX11_lookAt 123 = .ok (.getfield 223, 3) := by decide +kernel
theorem dX11_lookAt_126 : decode cX11_lookAt 126 = .ok (.iconst 3, 1) := by decide +kernel
theorem dX11_lookAt_127 : decode cX11_lookAt 127 = .ok (.if_icmp .ge 7, 3) := by decide +kernel
theorem dX11_lookAt_13 : decode cX11_lookAt 13 = .ok (.if_icmp .ge 30, 3) := by decide +kernel
theorem dX11_lookAt_130 : decode cX11_lookAt 130 = .ok (.iconst 1, 1) := by decide +kernel
theorem dX11_lookAt_131 : decode cX11_lookAt 131 = .ok (.goto 4, 3) := by decide +kernel
theorem dX11_lookAt_134 : decode cX11_lookAt 134 = .ok (.iconst 0, 1) := by decide +kernel
theorem dX11_lookAt_135 : decode cX11_lookAt 135 = .ok (.istore_n 3, 1) := by decide +kernel
theorem dX11_lookAt_136 : decode cX11_lookAt 136 = .ok (.iload_n 3, 1) := by decide +kernel
theorem dX11_lookAt_137 : decode cX11_lookAt 137 = .ok (.ifCond .eq 78, 3) := by decide +kernel
theorem dX11_lookAt_140 : decode cX11_lookAt 140 = .ok (.aload_n 0, 1) := by decide +kernel
theorem dX11_lookAt_141 : decode cX11_lookAt 141 = .ok (.getfield 217, 3) := by decide +kernel
theorem dX11_lookAt_144 : decode cX11_lookAt 144 = .ok (.aload_n 0, 1) := by decide +kernel
theorem dX11_lookAt_145 : decode cX11_lookAt 145 = .ok (.getfield 220, 3) := by decide +kernel
theorem dX11_lookAt_148 : decode cX11_lookAt 148 = .ok (.iadd, 1) := by decide +kernel
theorem dX11_lookAt_149 : decode cX11_lookAt 149 = .ok (.aload_n 0, 1) := by decide +kernel
theorem dX11_lookAt_150 : decode cX11_lookAt 150 = .ok (.getfield 205, 3) := by decide +kernel
theorem dX11_lookAt_153 : decode cX11_lookAt 153 = .ok (.if_icmp .ge 62, 3) := by decide +kernel
theorem dX11_lookAt_156 : decode cX11_lookAt 156 = .ok (.aload_n 0, 1) := by decide +kernel
theorem dX11_lookAt_157 : decode cX11_lookAt 157 = .ok (.getfield 39, 3) := by decide +kernel
theorem dX11_lookAt_16 : decode cX11_lookAt 16 = .ok (.aload_n 0, 1) := by decide +kernel
theorem dX11_lookAt_160 : decode cX11_lookAt 160 = .ok (.aload_n 0, 1) := by decide +kernel
theorem dX11_lookAt_161 : decode cX11_lookAt 161 = .ok (.getfield 217, 3) := by decide +kernel
theorem dX11_lookAt_164 : decode cX11_lookAt 164 = .ok (.aload_n 0, 1) := by decide +kernel
theorem dX11_lookAt_165 : decode cX11_lookAt 165 = .ok (.getfield 220, 3) := by decide +kernel
theorem dX11_lookAt_168 : decode cX11_lookAt 168 = .ok (.iadd, 1) := by decide +kernel
theorem dX11_lookAt_169 : decode cX11_lookAt 169 = .ok (.iaload, 1) := by decide +kernel
theorem dX11_lookAt_17 : decode cX11_lookAt 17 = .ok (.getfield 39, 3) := by decide +kernel
theorem dX11_lookAt_170 : decode cX11_lookAt 170 = .ok (.istore 4, 2) := by decide +kernel
theorem dX11_lookAt_172 : decode cX11_lookAt 172 = .ok (.aload_n 0, 1) := by decide +kernel
theorem dX11_lookAt_173 : decode cX11_lookAt 173 = .ok (.getfield 223, 3) := by decide +kernel
theorem dX11_lookAt_176 : decode cX11_lookAt 176 = .ok (.iconst 1, 1) := by decide +kernel
theorem dX11_lookAt_177 : decode cX11_lookAt 177 = .ok (.if_icmp .ne 11, 3) := by decide +kernel
theorem dX11_lookAt_180 : decode cX11_lookAt 180 = .ok (.iload 4, 2) := by decide +kernel
theorem dX11_lookAt_182 : decode cX11_lookAt 182 = .ok (.invokestatic 229, 3) := by decide +kernel
theorem dX11_lookAt_185 : decode cX11_lookAt 185 = .ok (.goto 8, 3) := by decide +kernel
theorem dX11_lookAt_188 : decode cX11_lookAt 188 = .ok (.iload 4, 2) := by decide +kernel
theorem dX11_lookAt_190 : decode cX11_lookAt 190 = .ok (.invokestatic 232, 3) := by decide +kernel
theorem dX11_lookAt_193 : decode cX11_lookAt 193 = .ok (.istore_n 3, 1) := by decide +kernel
theorem dX11_lookAt_194 : decode cX11_lookAt 194 = .ok (.aload_n 0, 1) := by decide +kernel
theorem dX11_lookAt_195 : decode cX11_lookAt 195 = .ok (.dup, 1) := by decide +kernel
theorem dX11_lookAt_196 : decode cX11_lookAt 196 = .ok (.getfield 220, 3) := by decide +kernel
theorem dX11_lookAt_199 : decode cX11_lookAt 199 = .ok (.iload_n 3, 1) := by decide +kernel
theorem dX11_lookAt_2 : decode cX11_lookAt 2 = .ok (.putfield 217, 3) := by decide +kernel
theorem dX11_lookAt_20 : decode cX11_lookAt 20 = .ok (.aload_n 0, 1) := by decide +kernel
theorem dX11_lookAt_200 : decode cX11_lookAt 200 = .ok (.ifCond .eq 7, 3) := by decide +kernel
theorem dX11_lookAt_203 : decode cX11_lookAt 203 = .ok (.iconst 1, 1) := by decide +kernel
theorem dX11_lookAt_204 : decode cX11_lookAt 204 = .ok (.goto 4, 3) := by decide +kernel
theorem dX11_lookAt_207 : decode cX11_lookAt 207 = .ok (.iconst 0, 1) := by decide +kernel
theorem dX11_lookAt_208 : decode cX11_lookAt 208 = .ok (.iadd, 1) := by decide +kernel
theorem dX11_lookAt_209 : decode cX11_lookAt 209 = .ok (.putfield 220, 3) := by decide +kernel
theorem dX11_lookAt_21 : decode cX11_lookAt 21 = .ok (.getfield 217, 3) := by decide +kernel
theorem dX11_lookAt_212 : decode cX11_lookAt 212 = .ok (.goto (-76), 3) := by decide +kernel
theorem dX11_lookAt_215 : decode cX11_lookAt 215 = .ok (.iconst 0, 1) := by decide +kernel
theorem dX11_lookAt_216 : decode cX11_lookAt 216 = .ok (.istore 4, 2) := by decide +kernel
theorem dX11_lookAt_218 : decode cX11_lookAt 218 = .ok (.iload 4, 2) := by decide +kernel
theorem dX11_lookAt_220 : decode cX11_lookAt 220 = .ok (.aload_n 0, 1) := by decide +kernel
theorem dX11_lookAt_221 : decode cX11_lookAt 221 = .ok (.getfield 220, 3) := by decide +kernel
theorem dX11_lookAt_224 : decode cX11_lookAt 224 = .ok (.if_icmp .ge 50, 3) := by decide +kernel
theorem dX11_lookAt_227 : decode cX11_lookAt 227 = .ok (.iload 4, 2) := by decide +kernel
theorem dX11_lookAt_229 : decode cX11_lookAt 229 = .ok (.iconst 2, 1) := by decide +kernel
theorem dX11_lookAt_230 : decode cX11_lookAt 230 = .ok (.if_icmp .ge 44, 3) := by decide +kernel
theorem dX11_lookAt_233 : decode cX11_lookAt 233 = .ok (.aload_n 0, 1) := by decide +kernel
theorem dX11_lookAt_234 : decode cX11_lookAt 234 = .ok (.getfield 223, 3) := by decide +kernel
theorem dX11_lookAt_237 : decode cX11_lookAt 237 = .ok (.iconst 2, 1) := by decide +kernel
theorem dX11_lookAt_238 : decode cX11_lookAt 238 = .ok (.if_icmp .ne 36, 3) := by decide +kernel
theorem dX11_lookAt_24 : decode cX11_lookAt 24 = .ok (.iaload, 1) := by decide +kernel
theorem dX11_lookAt_241 : decode cX11_lookAt 241 = .ok (.aload_n 0, 1) := by decide +kernel
theorem dX11_lookAt_242 : decode cX11_lookAt 242 = .ok (.bipush 10, 2) := by decide +kernel
theorem dX11_lookAt_244 : decode cX11_lookAt 244 = .ok (.aload_n 0, 1) := by decide +kernel
theorem dX11_lookAt_245 : decode cX11_lookAt 245 = .ok (.getfield 226, 3) := by decide +kernel
theorem dX11_lookAt_248 : decode cX11_lookAt 248 = .ok (.imul, 1) := by decide +kernel
theorem dX11_lookAt_249 : decode cX11_lookAt 249 = .ok (.aload_n 0, 1) := by decide +kernel
theorem dX11_lookAt_25 : decode cX11_lookAt 25 = .ok (.bipush 32, 2) := by decide +kernel
theorem dX11_lookAt_250 : decode cX11_lookAt 250 = .ok (.getfield 39, 3) := by decide +kernel
theorem dX11_lookAt_253 : decode cX11_lookAt 253 = .ok (.aload_n 0, 1) := by decide +kernel
theorem dX11_lookAt_254 : decode cX11_lookAt 254 = .ok (.getfield 217, 3) := by decide +kernel
theorem dX11_lookAt_257 : decode cX11_lookAt 257 = .ok (.iload 4, 2) := by decide +kernel
theorem dX11_lookAt_259 : decode cX11_lookAt 259 = .ok (.iadd, 1) := by decide +kernel
theorem dX11_lookAt_260 : decode cX11_lookAt 260 = .ok (.iaload, 1) := by decide +kernel
theorem dX11_lookAt_261 : decode cX11_lookAt 261 = .ok (.iadd, 1) := by decide +kernel
theorem dX11_lookAt_262 : decode cX11_lookAt 262 = .ok (.bipush 48, 2) := by decide +kernel
theorem dX11_lookAt_264 : decode cX11_lookAt 264 = .ok (.isub, 1) := by decide +kernel
theorem dX11_lookAt_265 : decode cX11_lookAt 265 = .ok (.putfield 226, 3) := by decide +kernel
theorem dX11_lookAt_268 : decode cX11_lookAt 268 = .ok (.iinc 4 1, 3) := by decide +kernel
theorem dX11_lookAt_27 : decode cX11_lookAt 27 = .ok (.if_icmp .ne 16, 3) := by decide +kernel
theorem dX11_lookAt_271 : decode cX11_lookAt 271 = .ok (.goto (-53), 3) := by decide +kernel
theorem dX11_lookAt_274 : decode cX11_lookAt 274 = .ok (.aload_n 0, 1) := by decide +kernel
theorem dX11_lookAt_275 : decode cX11_lookAt 275 = .ok (.aload_n 0, 1) := by decide +kernel
theorem dX11_lookAt_276 : decode cX11_lookAt 276 = .ok (.getfield 223, 3) := by decide +kernel
theorem dX11_lookAt_279 : decode cX11_lookAt 279 = .ok (.iconst 2, 1) := by decide +kernel
theorem dX11_lookAt_280 : decode cX11_lookAt 280 = .ok (.if_icmp .ne 15, 3) := by decide +kernel
theorem dX11_lookAt_283 : decode cX11_lookAt 283 = .ok (.aload_n 0, 1) := by decide +kernel
theorem dX11_lookAt_284 : decode cX11_lookAt 284 = .ok (.getfield 220, 3) := by decide +kernel
theorem dX11_lookAt_287 : decode cX11_lookAt 287 = .ok (.iconst 2, 1) := by decide +kernel
theorem dX11_lookAt_288 : decode cX11_lookAt 288 = .ok (.if_icmp .le 7, 3) := by decide +kernel
theorem dX11_lookAt_291 : decode cX11_lookAt 291 = .ok (.iconst 4, 1) := by decide +kernel
theorem dX11_lookAt_292 : decode cX11_lookAt 292 = .ok (.goto 7, 3) := by decide +kernel
theorem dX11_lookAt_295 : decode cX11_lookAt 295 = .ok (.aload_n 0, 1) := by decide +kernel
theorem dX11_lookAt_296 : decode cX11_lookAt 296 = .ok (.getfield 223, 3) := by decide +kernel
theorem dX11_lookAt_299 : decode cX11_lookAt 299 = .ok (.putfield 223, 3) := by decide +kernel
theorem dX11_lookAt_30 : decode cX11_lookAt 30 = .ok (.aload_n 0, 1) := by decide +kernel
theorem dX11_lookAt_302 : decode cX11_lookAt 302 = .ok (.return_, 1) := by decide +kernel
theorem dX11_lookAt_31 : decode cX11_lookAt 31 = .ok (.dup, 1) := by decide +kernel
theorem dX11_lookAt_32 : decode cX11_lookAt 32 = .ok (.getfield 217, 3) := by decide +kernel
theorem dX11_lookAt_35 : decode cX11_lookAt 35 = .ok (.iconst 1, 1) := by decide +kernel
theorem dX11_lookAt_36 : decode cX11_lookAt 36 = .ok (.iadd, 1) := by decide +kernel
theorem dX11_lookAt_37 : decode cX11_lookAt 37 = .ok (.putfield 217, 3) := by decide +kernel
theorem dX11_lookAt_40 : decode cX11_lookAt 40 = .ok (.goto (-35), 3) := by decide +kernel
theorem dX11_lookAt_43 : decode cX11_lookAt 43 = .ok (.aload_n 0, 1) := by decide +kernel
theorem dX11_lookAt_44 : decode cX11_lookAt 44 = .ok (.iconst 0, 1) := by decide +kernel
theorem dX11_lookAt_45 : decode cX11_lookAt 45 = .ok (.putfield 220, 3) := by decide +kernel
theorem dX11_lookAt_48 : decode cX11_lookAt 48 = .ok (.aload_n 0, 1) := by decide +kernel
theorem dX11_lookAt_49 : decode cX11_lookAt 49 = .ok (.iconst 0, 1) := by decide +kernel
theorem dX11_lookAt_5 : decode cX11_lookAt 5 = .ok (.aload_n 0, 1) := by decide +kernel
theorem dX11_lookAt_50 : decode cX11_lookAt 50 = .ok (.putfield 223, 3) := by decide +kernel
theorem dX11_lookAt_53 : decode cX11_lookAt 53 = .ok (.aload_n 0, 1) := by decide +kernel
theorem dX11_lookAt_54 : decode cX11_lookAt 54 = .ok (.iconst 0, 1) := by decide +kernel
theorem dX11_lookAt_55 : decode cX11_lookAt 55 = .ok (.putfield 226, 3) := by decide +kernel
theorem dX11_lookAt_58 : decode cX11_lookAt 58 = .ok (.aload_n 0, 1) := by decide +kernel
theorem dX11_lookAt_59 : decode cX11_lookAt 59 = .ok (.getfield 217, 3) := by decide +kernel
theorem dX11_lookAt_6 : decode cX11_lookAt 6 = .ok (.getfield 217, 3) := by decide +kernel
theorem dX11_lookAt_62 : decode cX11_lookAt 62 = .ok (.aload_n 0, 1) := by decide +kernel
theorem dX11_lookAt_63 : decode cX11_lookAt 63 = .ok (.getfield 205, 3) := by decide +kernel
theorem dX11_lookAt_66 : decode cX11_lookAt 66 = .ok (.if_icmp .ne 4, 3) := by decide +kernel
theorem dX11_lookAt_69 : decode cX11_lookAt 69 = .ok (.return_, 1) := by decide +kernel
theorem dX11_lookAt_70 : decode cX11_lookAt 70 = .ok (.aload_n 0, 1) := by decide +kernel
theorem dX11_lookAt_71 : decode cX11_lookAt 71 = .ok (.getfield 39, 3) := by decide +kernel
theorem dX11_lookAt_74 : decode cX11_lookAt 74 = .ok (.aload_n 0, 1) := by decide +kernel
theorem dX11_lookAt_75 : decode cX11_lookAt 75 = .ok (.getfield 217, 3) := by decide +kernel
theorem dX11_lookAt_78 : decode cX11_lookAt 78 = .ok (.iaload, 1) := by decide +kernel
theorem dX11_lookAt_79 : decode cX11_lookAt 79 = .ok (.istore_n 2, 1) := by decide +kernel
theorem dX11_lookAt_80 : decode cX11_lookAt 80 = .ok (.aload_n 0, 1) := by decide +kernel
theorem dX11_lookAt_81 : decode cX11_lookAt 81 = .ok (.iload_n 2, 1) := by decide +kernel
theorem dX11_lookAt_82 : decode cX11_lookAt 82 = .ok (.invokestatic 229, 3) := by decide +kernel
theorem dX11_lookAt_85 : decode cX11_lookAt 85 = .ok (.ifCond .eq 7, 3) := by decide +kernel
theorem dX11_lookAt_88 : decode cX11_lookAt 88 = .ok (.iconst 1, 1) := by decide +kernel
theorem dX11_lookAt_89 : decode cX11_lookAt 89 = .ok (.goto 25, 3) := by decide +kernel
theorem dX11_lookAt_9 : decode cX11_lookAt 9 = .ok (.aload_n 0, 1) := by decide +kernel
theorem dX11_lookAt_92 : decode cX11_lookAt 92 = .ok (.iload_n 2, 1) := by decide +kernel
theorem dX11_lookAt_93 : decode cX11_lookAt 93 = .ok (.invokestatic 232, 3) := by decide +kernel
theorem dX11_lookAt_96 : decode cX11_lookAt 96 = .ok (.ifCond .eq 7, 3) := by decide +kernel
theorem dX11_lookAt_99 : decode cX11_lookAt 99 = .ok (.iconst 2, 1) := by decide +kernel
theorem dX11_races_0 : decode cX11_races 0 = .ok (.iload_n 1, 1) := by decide +kernel
theorem dX11_races_1 : decode cX11_races 1 = .ok (.i2l, 1) := by decide +kernel
theorem dX11_races_100 : decode cX11_races 100 = .ok (.l2i, 1) := by decide +kernel
theorem dX11_races_101 : decode cX11_races 101 = .ok (.iastore, 1) := by decide +kernel
theorem dX11_races_102 : decode cX11_races 102 = .ok (.aload_n 0, 1) := by decide +kernel
theorem dX11_races_103 : decode cX11_races 103 = .ok (.getfield 27, 3) := by decide +kernel
theorem dX11_races_106 : decode cX11_races 106 = .ok (.invokestatic 109, 3) := by decide +kernel
theorem dX11_races_109 : decode cX11_races 109 = .ok (.iinc 5 1, 3) := by decide +kernel
theorem dX11_races_112 : decode cX11_races 112 = .ok (.goto (-71), 3) := by decide +kernel
theorem dX11_races_115 : decode cX11_races 115 = .ok (.aload_n 0, 1) := by decide +kernel
theorem dX11_races_116 : decode cX11_races 116 = .ok (.getfield 27, 3) := by decide +kernel
theorem dX11_races_119 : decode cX11_races 119 = .ok (.invokestatic 119, 3) := by decide +kernel
theorem dX11_races_12 : decode cX11_races 12 = .ok (.iload_n 2, 1) := by decide +kernel
theorem dX11_races_122 : decode cX11_races 122 = .ok (.ireturn, 1) := by decide +kernel
theorem dX11_races_13 : decode cX11_races 13 = .ok (.i2l, 1) := by decide +kernel
theorem dX11_races_14 : decode cX11_races 14 = .ok (.lconst 0, 1) := by decide +kernel
theorem dX11_races_15 : decode cX11_races 15 = .ok (.ldc2_w 66, 3) := by decide +kernel
theorem dX11_races_18 : decode cX11_races 18 = .ok (.invokestatic 56, 3) := by decide +kernel
theorem dX11_races_2 : decode cX11_races 2 = .ok (.lconst 0, 1) := by decide +kernel
theorem dX11_races_21 : decode cX11_races 21 = .ok (.ifCond .ne 10, 3) := by decide +kernel
theorem dX11_races_24 : decode cX11_races 24 = .ok (.aload_n 0, 1) := by decide +kernel
theorem dX11_races_25 : decode cX11_races 25 = .ok (.bipush (-2), 2) := by decide +kernel
theorem dX11_races_27 : decode cX11_races 27 = .ok (.invokevirtual 68, 3) := by decide +kernel
theorem dX11_races_3 : decode cX11_races 3 = .ok (.ldc2_w 191, 3) := by decide +kernel
theorem dX11_races_30 : decode cX11_races 30 = .ok (.ireturn, 1) := by decide +kernel
theorem dX11_races_31 : decode cX11_races 31 = .ok (.iload_n 1, 1) := by decide +kernel
theorem dX11_races_32 : decode cX11_races 32 = .ok (.i2l, 1) := by decide +kernel
theorem dX11_races_33 : decode cX11_races 33 = .ok (.lstore_n 3, 1) := by decide +kernel
theorem dX11_races_34 : decode cX11_races 34 = .ok (.aload_n 0, 1) := by decide +kernel
theorem dX11_races_35 : decode cX11_races 35 = .ok (.invokevirtual 137, 3) := by decide +kernel
theorem dX11_races_38 : decode cX11_races 38 = .ok (.iconst 0, 1) := by decide +kernel
theorem dX11_races_39 : decode cX11_races 39 = .ok (.istore 5, 2) := by decide +kernel
theorem dX11_races_41 : decode cX11_races 41 = .ok (.iload 5, 2) := by decide +kernel
theorem dX11_races_43 : decode cX11_races 43 = .ok (.iload_n 2, 1) := by decide +kernel
theorem dX11_races_44 : decode cX11_races 44 = .ok (.if_icmp .ge 71, 3) := by decide +kernel
theorem dX11_races_47 : decode cX11_races 47 = .ok (.lload_n 3, 1) := by decide +kernel
theorem dX11_races_48 : decode cX11_races 48 = .ok (.ldc2_w 193, 3) := by decide +kernel
theorem dX11_races_51 : decode cX11_races 51 = .ok (.lmul, 1) := by decide +kernel
theorem dX11_races_52 : decode cX11_races 52 = .ok (.ldc2_w 195, 3) := by decide +kernel
theorem dX11_races_55 : decode cX11_races 55 = .ok (.ladd, 1) := by decide +kernel
theorem dX11_races_56 : decode cX11_races 56 = .ok (.ldc2_w 197, 3) := by decide +kernel
theorem dX11_races_59 : decode cX11_races 59 = .ok (.lrem, 1) := by decide +kernel
theorem dX11_races_6 : decode cX11_races 6 = .ok (.invokestatic 56, 3) := by decide +kernel
theorem dX11_races_60 : decode cX11_races 60 = .ok (.lstore_n 3, 1) := by decide +kernel
theorem dX11_races_61 : decode cX11_races 61 = .ok (.lload_n 3, 1) := by decide +kernel
theorem dX11_races_62 : decode cX11_races 62 = .ok (.ldc2_w 199, 3) := by decide +kernel
theorem dX11_races_65 : decode cX11_races 65 = .ok (.ldiv, 1) := by decide +kernel
theorem dX11_races_66 : decode cX11_races 66 = .ok (.ldc2_w 185, 3) := by decide +kernel
theorem dX11_races_69 : decode cX11_races 69 = .ok (.lrem, 1) := by decide +kernel
theorem dX11_races_70 : decode cX11_races 70 = .ok (.l2i, 1) := by decide +kernel
theorem dX11_races_71 : decode cX11_races 71 = .ok (.istore 6, 2) := by decide +kernel
theorem dX11_races_73 : decode cX11_races 73 = .ok (.aload_n 0, 1) := by decide +kernel
theorem dX11_races_74 : decode cX11_races 74 = .ok (.iload 6, 2) := by decide +kernel
theorem dX11_races_76 : decode cX11_races 76 = .ok (.invokevirtual 123, 3) := by decide +kernel
theorem dX11_races_79 : decode cX11_races 79 = .ok (.ifCond .eq 23, 3) := by decide +kernel
theorem dX11_races_82 : decode cX11_races 82 = .ok (.aload_n 0, 1) := by decide +kernel
theorem dX11_races_83 : decode cX11_races 83 = .ok (.getfield 27, 3) := by decide +kernel
theorem dX11_races_86 : decode cX11_races 86 = .ok (.bipush 11, 2) := by decide +kernel
theorem dX11_races_88 : decode cX11_races 88 = .ok (.iload 6, 2) := by decide +kernel
theorem dX11_races_9 : decode cX11_races 9 = .ok (.ifCond .eq 15, 3) := by decide +kernel
theorem dX11_races_90 : decode cX11_races 90 = .ok (.iadd, 1) := by decide +kernel
theorem dX11_races_91 : decode cX11_races 91 = .ok (.lload_n 3, 1) := by decide +kernel
theorem dX11_races_92 : decode cX11_races 92 = .ok (.ldc2_w 201, 3) := by decide +kernel
theorem dX11_races_95 : decode cX11_races 95 = .ok (.ldiv, 1) := by decide +kernel
theorem dX11_races_96 : decode cX11_races 96 = .ok (.ldc2_w 64, 3) := by decide +kernel
theorem dX11_races_99 : decode cX11_races 99 = .ok (.lrem, 1) := by decide +kernel
theorem mm_X11_races_c191 : Cond.constantLong RX11 191 (999999) ∈ wsX11_races := by decide +kernel
theorem mm_X11_races_c66 : Cond.constantLong RX11 66 (60) ∈ wsX11_races := by decide +kernel
theorem mm_X11_races_c193 : Cond.constantLong RX11 193 (1103515245) ∈ wsX11_races := by decide +kernel
theorem mm_X11_races_c195 : Cond.constantLong RX11 195 (12345) ∈ wsX11_races := by decide +kernel
theorem mm_X11_races_c197 : Cond.constantLong RX11 197 (2147483648) ∈ wsX11_races := by decide +kernel
theorem mm_X11_races_c199 : Cond.constantLong RX11 199 (65536) ∈ wsX11_races := by decide +kernel
theorem mm_X11_races_c185 : Cond.constantLong RX11 185 (6) ∈ wsX11_races := by decide +kernel
theorem in_X11_races_X11 : ∀ w ∈ wsX110, w ∈ wsX11_races := by decide +kernel
theorem lk_X11_races_27 : Cond.fieldLink RX11 27 "EggSpoonsModel" "hand" "[I" ∈ wsX11_races := by decide +kernel
theorem mm_X11_races_c201 : Cond.constantLong RX11 201 (1048576) ∈ wsX11_races := by decide +kernel
theorem mm_X11_races_c64 : Cond.constantLong RX11 64 (10) ∈ wsX11_races := by decide +kernel
set_option maxHeartbeats 4000000 in
set_option maxRecDepth 100000 in
/-- races -/
theorem m_races (l : Launch) (X : EX) (m0 : Nat) (ma : Nat → Nat) (la : Int64) (lb : Int64) (n : Nat) (t : Nat → Nat) (v : Nat → Int32) (fa : Nat → Int32) (c0 : Nat) (c1 : Nat) (c2 : Nat) (c3 : Nat) (c4 : Nat) (fh : Nat → Int32) (d0 : Nat) (d1 : Nat) (d2 : Nat) (d3 : Nat) (d4 : Nat) (fr : Nat → Int32) (x1 : Int32) (x2 : Int32) (hI_n : n ≤ 150) (hI_t : InT t) (hI_fa : InA fa c0 c1 c2 c3 c4) (hI_fh : InA fh d0 d1 d2 d3 d4) (sz : Nat) : Met l yX11_races wsX11_races ({ frames := 4, cells := 0, slots := 0, locals := 93 } : Room) (pE X [.ref m0, .int x1, .int x2] (@HAppend.hAppend va_W va_W va_W _ (mW m0 ma la lb n t v) (@HAppend.hAppend va_W va_W va_W _ ([((ma 0), .inl (X.2.1, 371, .inl fa))]) (@HAppend.hAppend va_W va_W va_W _ ([((ma 6), .inl (X.2.1, 55, .inl fh))]) ([((ma 3), .inl (X.2.1, 3, .inl fr))])))) sz) (qI (fun (r : Int32) (u : (Nat → Int32) × (Nat) × (Nat) × (Nat) × (Nat) × (Nat) × (Nat → Int32)) => InA u.1 u.2.1 u.2.2.1 u.2.2.2.1 u.2.2.2.2.1 u.2.2.2.2.2.1 ∧ (True)) X (fun (u : (Nat → Int32) × (Nat) × (Nat) × (Nat) × (Nat) × (Nat) × (Nat → Int32)) => @HAppend.hAppend va_W va_W va_W _ (mW m0 ma la lb n t v) (@HAppend.hAppend va_W va_W va_W _ ([((ma 0), .inl (X.2.1, 371, .inl fa))]) (@HAppend.hAppend va_W va_W va_W _ ([((ma 6), .inl (X.2.1, 55, .inl u.1))]) ([((ma 3), .inl (X.2.1, 3, .inl u.2.2.2.2.2.2))])))) (@HAppend.hAppend va_W va_W va_W _ (mW m0 ma la lb n t v) (@HAppend.hAppend va_W va_W va_W _ ([((ma 0), .inl (X.2.1, 371, .inl fa))]) (@HAppend.hAppend va_W va_W va_W _ ([((ma 6), .inl (X.2.1, 55, .inl fh))]) ([((ma 3), .inl (X.2.1, 3, .inl fr))])))) sz) 0 0 (va_A (@HAppend.hAppend va_W va_W va_W _ (mW m0 ma la lb n t v) (@HAppend.hAppend va_W va_W va_W _ ([((ma 0), .inl (X.2.1, 371, .inl fa))]) (@HAppend.hAppend va_W va_W va_W _ ([((ma 6), .inl (X.2.1, 55, .inl fh))]) ([((ma 3), .inl (X.2.1, 3, .inl fr))])))) sz) := by
  refine mk_met (B := (va_A (@HAppend.hAppend va_W va_W va_W _ (mW m0 ma la lb n t v) (@HAppend.hAppend va_W va_W va_W _ ([((ma 0), .inl (X.2.1, 371, .inl fa))]) (@HAppend.hAppend va_W va_W va_W _ ([((ma 6), .inl (X.2.1, 55, .inl fh))]) ([((ma 3), .inl (X.2.1, 3, .inl fr))])))) sz)) (A := (va_A (@HAppend.hAppend va_W va_W va_W _ (mW m0 ma la lb n t v) (@HAppend.hAppend va_W va_W va_W _ ([((ma 0), .inl (X.2.1, 371, .inl fa))]) (@HAppend.hAppend va_W va_W va_W _ ([((ma 6), .inl (X.2.1, 55, .inl fh))]) ([((ma 3), .inl (X.2.1, 3, .inl fr))])))) sz)) (cc := cX11_races) (maxL := 7) (ret := (some .int)) (by decide) rfl (Nat.le_of_ble_eq_true rfl) k_w k_a (fun p e s m below meth c S zr zlk znm zsz G ls hl => ?_)
  have S : CallFix p m c cX11_races 7 s _ wsX11_races RX11 := S
  have zx := S.1
  have zb := S.2.1
  have hl : lv_has ls 7 [(0, .ref m0), (1, .int x1), (2, .int x2)] := hl
  have hO_t := hI_t
  obtain ⟨ht0_t, ht1_t⟩ := hO_t
  have hO_fa := hI_fa.2
  obtain ⟨hm0_fa, hm1_fa, hm2_fa, hm3_fa, hm4_fa⟩ := hO_fa
  have hO_fh := hI_fh.2
  obtain ⟨hm0_fh, hm1_fh, hm2_fh, hm3_fh, hm4_fh⟩ := hO_fh
  refine lv_iload_n zx zb dX11_races_0 rfl (lv_at hl 1 rfl) ?_
  refine lv_i2l (v := (Int32.toInt64 x1)) zx zb dX11_races_1 rfl ?_
  refine lv_lconst (v := (Int32.toInt64 0)) zx zb dX11_races_2 (by decide) ?_
  refine lv_ldc2 zx zb S.2.2.2.1 (S.2.2.2.2 _ mm_X11_races_c191) dX11_races_3 ?_
  refine k_ld (v := (Int32.toInt64 999999)) (by decide) ?_
  refine o_ri (cells' := 0) (slots' := 0) G rfl rfl (n_S (As := [.long (Int32.toInt64 x1), .long (Int32.toInt64 0), .long (Int32.toInt64 999999)]) (rest := []) S G (m_in l X x1 0 999999 s.heap.size) gX11_races_X11_in rfl rfl rfl hdS_X11_in ⟨Nat.le_of_ble_eq_true rfl, Nat.le_of_ble_eq_true rfl⟩ [] rfl rfl rfl hl.1 (Nat.le_of_ble_eq_true rfl) dX11_races_6 ⟨Nat.le_of_ble_eq_true rfl, Nat.le_of_ble_eq_true rfl⟩) (fun r_1 u_1 H locs hp_1 G => ?_)
  have G : wd X (va_A (@HAppend.hAppend va_W va_W va_W _ (mW m0 ma la lb n t v) (@HAppend.hAppend va_W va_W va_W _ ([((ma 0), .inl (X.2.1, 371, .inl fa))]) (@HAppend.hAppend va_W va_W va_W _ ([((ma 6), .inl (X.2.1, 55, .inl fh))]) ([((ma 3), .inl (X.2.1, 3, .inl fr))])))) sz) (va_A (@HAppend.hAppend va_W va_W va_W _ (mW m0 ma la lb n t v) (@HAppend.hAppend va_W va_W va_W _ ([((ma 0), .inl (X.2.1, 371, .inl fa))]) (@HAppend.hAppend va_W va_W va_W _ ([((ma 6), .inl (X.2.1, 55, .inl fh))]) ([((ma 3), .inl (X.2.1, 3, .inl fr))])))) sz) s (@HAppend.hAppend va_W va_W va_W _ (mW m0 ma la lb n t v) (@HAppend.hAppend va_W va_W va_W _ ([((ma 0), .inl (X.2.1, 371, .inl fa))]) (@HAppend.hAppend va_W va_W va_W _ ([((ma 6), .inl (X.2.1, 55, .inl fh))]) ([((ma 3), .inl (X.2.1, 3, .inl fr))])))) H locs := G
  rcases hp_1 with ⟨rfl, hw_1⟩ | ⟨rfl, hw_1⟩
  · obtain ⟨j_1, ⟨ja_1, jb_1⟩, rfl⟩ := k_natR (a := 0) (b := 999999) hw_1 rfl rfl (by decide) (by decide)
    refine lv_if_eq (tgt := 24) zx zb dX11_races_9 (by decide) (fun c_2 => absurd c_2 (by decide)) (fun c_2 => ?_)
    refine lv_iload_n zx zb dX11_races_12 rfl (lv_at hl 2 rfl) ?_
    refine lv_i2l (v := (Int32.toInt64 x2)) zx zb dX11_races_13 rfl ?_
    refine lv_lconst (v := (Int32.toInt64 0)) zx zb dX11_races_14 (by decide) ?_
    refine lv_ldc2 zx zb S.2.2.2.1 (S.2.2.2.2 _ mm_X11_races_c66) dX11_races_15 ?_
    refine k_ld (v := (Int32.toInt64 60)) (by decide) ?_
    refine o_ri (cells' := 0) (slots' := 0) G rfl rfl (n_S (As := [.long (Int32.toInt64 x2), .long (Int32.toInt64 0), .long (Int32.toInt64 60)]) (rest := []) S G (m_in l X x2 0 60 H.size) gX11_races_X11_in rfl rfl rfl hdS_X11_in ⟨Nat.le_of_ble_eq_true rfl, Nat.le_of_ble_eq_true rfl⟩ [] rfl rfl rfl hl.1 (Nat.le_of_ble_eq_true rfl) dX11_races_18 ⟨Nat.le_of_ble_eq_true rfl, Nat.le_of_ble_eq_true rfl⟩) (fun r_3 u_3 H locs hp_3 G => ?_)
    have G : wd X (va_A (@HAppend.hAppend va_W va_W va_W _ (mW m0 ma la lb n t v) (@HAppend.hAppend va_W va_W va_W _ ([((ma 0), .inl (X.2.1, 371, .inl fa))]) (@HAppend.hAppend va_W va_W va_W _ ([((ma 6), .inl (X.2.1, 55, .inl fh))]) ([((ma 3), .inl (X.2.1, 3, .inl fr))])))) sz) (va_A (@HAppend.hAppend va_W va_W va_W _ (mW m0 ma la lb n t v) (@HAppend.hAppend va_W va_W va_W _ ([((ma 0), .inl (X.2.1, 371, .inl fa))]) (@HAppend.hAppend va_W va_W va_W _ ([((ma 6), .inl (X.2.1, 55, .inl fh))]) ([((ma 3), .inl (X.2.1, 3, .inl fr))])))) sz) s (@HAppend.hAppend va_W va_W va_W _ (mW m0 ma la lb n t v) (@HAppend.hAppend va_W va_W va_W _ ([((ma 0), .inl (X.2.1, 371, .inl fa))]) (@HAppend.hAppend va_W va_W va_W _ ([((ma 6), .inl (X.2.1, 55, .inl fh))]) ([((ma 3), .inl (X.2.1, 3, .inl fr))])))) H locs := G
    rcases hp_3 with ⟨rfl, hw_3⟩ | ⟨rfl, hw_3⟩
    · obtain ⟨j_3, ⟨ja_3, jb_3⟩, rfl⟩ := k_natR (a := 0) (b := 60) hw_3 rfl rfl (by decide) (by decide)
      refine lv_if_ne (tgt := 31) zx zb dX11_races_21 (by decide) (fun c_4 => ?_) (fun c_4 => absurd c_4 (by decide))
      refine lv_iload_n zx zb dX11_races_31 rfl (lv_at hl 1 rfl) ?_
      refine lv_i2l (v := (Int32.toInt64 (nI j_1))) zx zb dX11_races_32 rfl ?_
      refine k_ld (nI_l (by omega)) ?_
      refine lv_lstore_n (lv' := [(3, .long (lN j_1)), (0, .ref m0), (1, .int (nI j_1)), (2, .int (nI j_3))]) zx zb dX11_races_33 rfl hl (by decide) rfl (fun ls hl => ?_)
      refine lv_aload_n zx zb dX11_races_34 rfl (lv_at hl 1 rfl) ?_
      refine b_wv (cells' := 0) (slots' := 0) (wr := [((ma 3), .inl (X.2.1, 3, .inl fr))]) G rfl rfl [0, 1, 2] [3] rfl rfl rfl rfl (n_V (As := []) (rest := []) (C := RX11) (T := TX11) (N := 18) (ci := 9) S G (m_layHand l X m0 ma la lb n t v fa c0 c1 c2 c3 c4 fh d0 d1 d2 d3 d4 hI_n hI_t hI_fa hI_fh H.size) gX11_races_X11_layHand rfl rfl rfl hdV_X11_layHand ⟨Nat.le_of_ble_eq_true rfl, Nat.le_of_ble_eq_true rfl⟩ [0, 1, 2] rfl rfl 0 rfl rfl rfl hl.1 (Nat.le_of_ble_eq_true rfl) dX11_races_35 ⟨Nat.le_of_ble_eq_true rfl, Nat.le_of_ble_eq_true rfl⟩) (fun u_5 H locs hp_5 G => ?_)
      obtain ⟨f_5a, c0_5b, c1_5c, c2_5d, c3_5e, c4_5f⟩ := u_5
      try dsimp only at hp_5
      obtain ⟨hI_f_5a, hq_5⟩ := hp_5
      have hO_f_5a := hI_f_5a.2
      obtain ⟨hm0_f_5a, hm1_f_5a, hm2_f_5a, hm3_f_5a, hm4_f_5a⟩ := hO_f_5a
      have G : wd X (va_A (@HAppend.hAppend va_W va_W va_W _ (mW m0 ma la lb n t v) (@HAppend.hAppend va_W va_W va_W _ ([((ma 0), .inl (X.2.1, 371, .inl fa))]) (@HAppend.hAppend va_W va_W va_W _ ([((ma 6), .inl (X.2.1, 55, .inl fh))]) ([((ma 3), .inl (X.2.1, 3, .inl fr))])))) sz) (va_A (@HAppend.hAppend va_W va_W va_W _ (mW m0 ma la lb n t v) (@HAppend.hAppend va_W va_W va_W _ ([((ma 0), .inl (X.2.1, 371, .inl fa))]) (@HAppend.hAppend va_W va_W va_W _ ([((ma 6), .inl (X.2.1, 55, .inl fh))]) ([((ma 3), .inl (X.2.1, 3, .inl fr))])))) sz) s (@HAppend.hAppend va_W va_W va_W _ ([((ma 3), .inl (X.2.1, 3, .inl fr))]) (@HAppend.hAppend va_W va_W va_W _ (mW m0 ma la lb n t v) (@HAppend.hAppend va_W va_W va_W _ ([((ma 0), .inl (X.2.1, 371, .inl fa))]) ([((ma 6), .inl (X.2.1, 55, .inl f_5a))])))) H locs := G
      refine lv_iconst (v := 0) zx zb dX11_races_38 (by decide) ?_
      refine lv_istore (lv' := [(5, .int 0), (3, .long (lN j_1)), (0, .ref m0), (1, .int (nI j_1)), (2, .int (nI j_3))]) zx zb dX11_races_39 hl (by decide) rfl (fun ls hl => ?_)
      refine k_loop (P := ∀ (zm : Nat) (k41 : Nat) (x41_3 : Int64) (f41_3 : Nat → Int32) (H : Heap) (locs : List Loc) (ls : Array Slot), 60 + 1 ≤ k41 + zm → InA f41_3 c0_5b c1_5c c2_5d c3_5e c4_5f → (k41 ≤ 60) → (∃ q : Nat, q < 2147483648 ∧ x41_3 = lN q) → wd X (va_A (@HAppend.hAppend va_W va_W va_W _ (mW m0 ma la lb n t v) (@HAppend.hAppend va_W va_W va_W _ ([((ma 0), .inl (X.2.1, 371, .inl fa))]) (@HAppend.hAppend va_W va_W va_W _ ([((ma 6), .inl (X.2.1, 55, .inl fh))]) ([((ma 3), .inl (X.2.1, 3, .inl fr))])))) sz) (va_A (@HAppend.hAppend va_W va_W va_W _ (mW m0 ma la lb n t v) (@HAppend.hAppend va_W va_W va_W _ ([((ma 0), .inl (X.2.1, 371, .inl fa))]) (@HAppend.hAppend va_W va_W va_W _ ([((ma 6), .inl (X.2.1, 55, .inl fh))]) ([((ma 3), .inl (X.2.1, 3, .inl fr))])))) sz) s (@HAppend.hAppend va_W va_W va_W _ ([((ma 3), .inl (X.2.1, 3, .inl fr))]) (@HAppend.hAppend va_W va_W va_W _ (mW m0 ma la lb n t v) (@HAppend.hAppend va_W va_W va_W _ ([((ma 0), .inl (X.2.1, 371, .inl fa))]) ([((ma 6), .inl (X.2.1, 55, .inl f41_3))])))) H locs → lv_has ls 7 [(5, .int (nI k41)), (3, .long x41_3), (0, .ref m0), (1, .int (nI j_1)), (2, .int (nI j_3))] → W p l e _ s m _ below meth c H locs _ _ _ (F0 m 41 ls [])) (fun loop => loop (60 + 1) 0 (lN j_1) f_5a _ _ _ (by omega) hI_f_5a (by omega) (by first | assumption | exact ⟨_, by omega, rfl⟩ | exact ⟨_, hz1, rfl⟩) G hl) ?_
      intro zm
      induction zm with
      | zero => intro k41 x41_3 f41_3 H locs ls zz q_hI_f41_3 q_hk_k41 q_hk_x41_3 _ _; exact absurd zz (by omega)
      | succ zm ih41 =>
        intro k41 x41_3 f41_3 H locs ls zm_41 hI_f41_3 hk_k41 hk_x41_3 G hl
        refine lv_iload zx zb dX11_races_41 (lv_at hl 0 rfl) ?_
        refine lv_iload_n zx zb dX11_races_43 rfl (lv_at hl 4 rfl) ?_
        refine lv_icmp_ge (tgt := 115) zx zb dX11_races_44 (by decide) (fun c_6 => ?_) (fun c_6 => ?_)
        · have fc_6 := j_le (a := j_3) (b := k41) (by omega) (by omega) c_6
          refine lv_aload_n zx zb dX11_races_115 rfl (lv_at hl 2 rfl) ?_
          refine r_get (C := RX11) (T := TX11) (N := 18) (ci := 9) (v := .ref (ma 6)) S in_X11_races_X11 G 1 rfl rfl 6 (by decide) lk_X11_races_27 rfl dX11_races_116 ?_
          refine o_ri (cells' := 0) (slots' := 0) G rfl rfl (n_S (As := [.ref (ma 6)]) (rest := []) S G (m_manyHome l X (ma 6) 55 f41_3 c0_5b c1_5c c2_5d c3_5e c4_5f hI_f41_3 (by omega) (by omega) H.size) gX11_races_X11_manyHome rfl rfl rfl hdS_X11_manyHome ⟨Nat.le_of_ble_eq_true rfl, Nat.le_of_ble_eq_true rfl⟩ [3] rfl rfl rfl hl.1 (Nat.le_of_ble_eq_true rfl) dX11_races_119 ⟨Nat.le_of_ble_eq_true rfl, Nat.le_of_ble_eq_true rfl⟩) (fun r_7 u_7 H locs hp_7 G => ?_)
          have G : wd X (va_A (@HAppend.hAppend va_W va_W va_W _ (mW m0 ma la lb n t v) (@HAppend.hAppend va_W va_W va_W _ ([((ma 0), .inl (X.2.1, 371, .inl fa))]) (@HAppend.hAppend va_W va_W va_W _ ([((ma 6), .inl (X.2.1, 55, .inl fh))]) ([((ma 3), .inl (X.2.1, 3, .inl fr))])))) sz) (va_A (@HAppend.hAppend va_W va_W va_W _ (mW m0 ma la lb n t v) (@HAppend.hAppend va_W va_W va_W _ ([((ma 0), .inl (X.2.1, 371, .inl fa))]) (@HAppend.hAppend va_W va_W va_W _ ([((ma 6), .inl (X.2.1, 55, .inl fh))]) ([((ma 3), .inl (X.2.1, 3, .inl fr))])))) sz) s (@HAppend.hAppend va_W va_W va_W _ ([((ma 3), .inl (X.2.1, 3, .inl fr))]) (@HAppend.hAppend va_W va_W va_W _ (mW m0 ma la lb n t v) (@HAppend.hAppend va_W va_W va_W _ ([((ma 0), .inl (X.2.1, 371, .inl fa))]) ([((ma 6), .inl (X.2.1, 55, .inl f41_3))])))) H locs := G
          exact e_int S zr zlk (vp_nar_int _) G (f41_3, c0_5b, c1_5c, c2_5d, c3_5e, c4_5f, fr) [1, 2, 3, 0] rfl rfl (Or.inr rfl) (⟨hI_f41_3, trivial⟩) dX11_races_122
        · have fc_6 := j_nle (a := j_3) (b := k41) (by omega) (by omega) c_6
          obtain ⟨z, zz, rfl⟩ := hk_x41_3
          refine lv_lload_n zx zb dX11_races_47 rfl (lv_at hl 1 rfl) ?_
          refine lv_ldc2 zx zb S.2.2.2.1 (S.2.2.2.2 _ mm_X11_races_c193) dX11_races_48 ?_
          refine k_ld (v := (Int32.toInt64 1103515245)) (by decide) ?_
          refine r_lmul (v := ((lN z) * (Int32.toInt64 1103515245))) S rfl dX11_races_51 ?_
          refine lv_ldc2 zx zb S.2.2.2.1 (S.2.2.2.2 _ mm_X11_races_c195) dX11_races_52 ?_
          refine k_ld (v := (Int32.toInt64 12345)) (by decide) ?_
          refine r_ladd (v := (((lN z) * (Int32.toInt64 1103515245)) + (Int32.toInt64 12345))) S rfl dX11_races_55 ?_
          refine lv_ldc2 zx zb S.2.2.2.1 (S.2.2.2.2 _ mm_X11_races_c197) dX11_races_56 ?_
          refine lv_lrem zx zb dX11_races_59 (by decide) ?_
          obtain ⟨z1, hz1, ez1⟩ := k_rx zz
          refine k_ld ez1 ?_
          refine lv_lstore_n (lv' := [(3, .long (lN z1)), (5, .int (nI k41)), (0, .ref m0), (1, .int (nI j_1)), (2, .int (nI j_3))]) zx zb dX11_races_60 rfl hl (by decide) rfl (fun ls hl => ?_)
          refine lv_lload_n zx zb dX11_races_61 rfl (lv_at hl 0 rfl) ?_
          refine lv_ldc2 zx zb S.2.2.2.1 (S.2.2.2.2 _ mm_X11_races_c199) dX11_races_62 ?_
          refine k_ld (v := (Int32.toInt64 65536)) (by decide) ?_
          refine lv_ldiv zx zb dX11_races_65 (by decide) ?_
          refine lv_ldc2 zx zb S.2.2.2.1 (S.2.2.2.2 _ mm_X11_races_c185) dX11_races_66 ?_
          refine k_ld (v := (Int32.toInt64 6)) (by decide) ?_
          refine lv_lrem zx zb dX11_races_69 (by decide) ?_
          refine lv_l2i (v := (Int64.toInt32 (((lN z1) / (Int32.toInt64 65536)) - ((lN z1) / (Int32.toInt64 65536)) / (Int32.toInt64 6) * (Int32.toInt64 6)))) zx zb dX11_races_70 rfl ?_
          obtain ⟨j, hj, ej⟩ := k_ri hz1
          refine k_it ej ?_
          refine lv_istore (lv' := [(6, .int (nI j)), (3, .long (lN z1)), (5, .int (nI k41)), (0, .ref m0), (1, .int (nI j_1)), (2, .int (nI j_3))]) zx zb dX11_races_71 hl (by decide) rfl (fun ls hl => ?_)
          refine lv_aload_n zx zb dX11_races_73 rfl (lv_at hl 3 rfl) ?_
          refine lv_iload zx zb dX11_races_74 (lv_at hl 0 rfl) ?_
          refine o_ri (cells' := 0) (slots' := 0) G rfl rfl (n_V (As := [.int (nI j)]) (rest := []) (C := RX11) (T := TX11) (N := 18) (ci := 9) S G (m_isOne l X m0 ma la lb n t v fa c0 c1 c2 c3 c4 (nI j) hI_n hI_t hI_fa H.size) gX11_races_X11_isOne rfl rfl rfl hdV_X11_isOne ⟨Nat.le_of_ble_eq_true rfl, Nat.le_of_ble_eq_true rfl⟩ [1, 2] rfl rfl 1 rfl rfl rfl hl.1 (Nat.le_of_ble_eq_true rfl) dX11_races_76 ⟨Nat.le_of_ble_eq_true rfl, Nat.le_of_ble_eq_true rfl⟩) (fun r_8 u_8 H locs hp_8 G => ?_)
          have G : wd X (va_A (@HAppend.hAppend va_W va_W va_W _ (mW m0 ma la lb n t v) (@HAppend.hAppend va_W va_W va_W _ ([((ma 0), .inl (X.2.1, 371, .inl fa))]) (@HAppend.hAppend va_W va_W va_W _ ([((ma 6), .inl (X.2.1, 55, .inl fh))]) ([((ma 3), .inl (X.2.1, 3, .inl fr))])))) sz) (va_A (@HAppend.hAppend va_W va_W va_W _ (mW m0 ma la lb n t v) (@HAppend.hAppend va_W va_W va_W _ ([((ma 0), .inl (X.2.1, 371, .inl fa))]) (@HAppend.hAppend va_W va_W va_W _ ([((ma 6), .inl (X.2.1, 55, .inl fh))]) ([((ma 3), .inl (X.2.1, 3, .inl fr))])))) sz) s (@HAppend.hAppend va_W va_W va_W _ ([((ma 3), .inl (X.2.1, 3, .inl fr))]) (@HAppend.hAppend va_W va_W va_W _ (mW m0 ma la lb n t v) (@HAppend.hAppend va_W va_W va_W _ ([((ma 0), .inl (X.2.1, 371, .inl fa))]) ([((ma 6), .inl (X.2.1, 55, .inl f41_3))])))) H locs := G
          rcases hp_8 with ⟨rfl, hj_8⟩ | ⟨rfl, hj_8⟩
          · obtain ⟨j_8, hj_8, ej_8⟩ := hj_8
            have ek_8 := j_eq (by omega) (by omega) ej_8
            refine lv_if_eq (tgt := 102) zx zb dX11_races_79 (by decide) (fun c_9 => absurd c_9 (by decide)) (fun c_9 => ?_)
            refine lv_aload_n zx zb dX11_races_82 rfl (lv_at hl 3 rfl) ?_
            refine r_get (C := RX11) (T := TX11) (N := 18) (ci := 9) (v := .ref (ma 6)) S in_X11_races_X11 G 1 rfl rfl 6 (by decide) lk_X11_races_27 rfl dX11_races_83 ?_
            refine lv_bipush (v := 11) zx zb dX11_races_86 (by decide) ?_
            refine lv_iload zx zb dX11_races_88 (lv_at hl 0 rfl) ?_
            refine r_iadd (v := (nI (11 + j))) S (nI_add 11 j) dX11_races_90 ?_
            refine lv_lload_n zx zb dX11_races_91 rfl (lv_at hl 1 rfl) ?_
            refine lv_ldc2 zx zb S.2.2.2.1 (S.2.2.2.2 _ mm_X11_races_c201) dX11_races_92 ?_
            refine k_ld (v := (Int32.toInt64 1048576)) (by decide) ?_
            refine lv_ldiv zx zb dX11_races_95 (by decide) ?_
            refine k_ldE (fun y_10 => ?_)
            refine lv_ldc2 zx zb S.2.2.2.1 (S.2.2.2.2 _ mm_X11_races_c64) dX11_races_96 ?_
            refine k_ld (v := (Int32.toInt64 10)) (by decide) ?_
            refine lv_lrem zx zb dX11_races_99 (by decide) ?_
            refine k_ldE (fun y_11 => ?_)
            refine lv_l2i (v := (Int64.toInt32 y_11)) zx zb dX11_races_100 rfl ?_
            refine r_iast S G 3 rfl (vp_in_nI (by omega) (by decide)) dX11_races_101 (fun H locs G => ?_)
            obtain ⟨f_12, hI_f_12, hE_f_12, G⟩ : ∃ f_12 : Nat → Int32, InA f_12 c0_5b c1_5c c2_5d c3_5e c4_5f ∧ f_12 = upd f41_3 (nI (11 + j)).toNatClampNeg (Int64.toInt32 y_11) ∧ wd X (va_A (@HAppend.hAppend va_W va_W va_W _ (mW m0 ma la lb n t v) (@HAppend.hAppend va_W va_W va_W _ ([((ma 0), .inl (X.2.1, 371, .inl fa))]) (@HAppend.hAppend va_W va_W va_W _ ([((ma 6), .inl (X.2.1, 55, .inl fh))]) ([((ma 3), .inl (X.2.1, 3, .inl fr))])))) sz) (va_A (@HAppend.hAppend va_W va_W va_W _ (mW m0 ma la lb n t v) (@HAppend.hAppend va_W va_W va_W _ ([((ma 0), .inl (X.2.1, 371, .inl fa))]) (@HAppend.hAppend va_W va_W va_W _ ([((ma 6), .inl (X.2.1, 55, .inl fh))]) ([((ma 3), .inl (X.2.1, 3, .inl fr))])))) sz) s (@HAppend.hAppend va_W va_W va_W _ ([((ma 3), .inl (X.2.1, 3, .inl fr))]) (@HAppend.hAppend va_W va_W va_W _ (mW m0 ma la lb n t v) (@HAppend.hAppend va_W va_W va_W _ ([((ma 0), .inl (X.2.1, 371, .inl fa))]) ([((ma 6), .inl (X.2.1, 55, .inl f_12))])))) H locs := ⟨_, InA_o hI_f41_3 (by rw [nI_clamp (by omega)]; omega), rfl, G⟩
            refine lv_aload_n zx zb dX11_races_102 rfl (lv_at hl 3 rfl) ?_
            refine r_get (C := RX11) (T := TX11) (N := 18) (ci := 9) (v := .ref (ma 6)) S in_X11_races_X11 G 1 rfl rfl 6 (by decide) lk_X11_races_27 rfl dX11_races_103 ?_
            refine b_wv (cells' := 0) (slots' := 0) (wr := @HAppend.hAppend va_W va_W va_W _ ([((ma 3), .inl (X.2.1, 3, .inl fr))]) (@HAppend.hAppend va_W va_W va_W _ (mW m0 ma la lb n t v) ([((ma 0), .inl (X.2.1, 371, .inl fa))]))) G rfl rfl [3] [0, 1, 2] rfl rfl rfl rfl (n_S (As := [.ref (ma 6)]) (rest := []) S G (m_goTick l X (ma 6) 55 f_12 c0_5b c1_5c c2_5d c3_5e c4_5f hI_f_12 (by omega) (by omega) H.size) gX11_races_X11_goTick rfl rfl rfl hdS_X11_goTick ⟨Nat.le_of_ble_eq_true rfl, Nat.le_of_ble_eq_true rfl⟩ [3] rfl rfl rfl hl.1 (Nat.le_of_ble_eq_true rfl) dX11_races_106 ⟨Nat.le_of_ble_eq_true rfl, Nat.le_of_ble_eq_true rfl⟩) (fun u_13 H locs hp_13 G => ?_)
            obtain ⟨f_13, rfl⟩ : ∃ z, z = u_13 := ⟨_, rfl⟩
            obtain ⟨hI_f_13, hq_13⟩ := hp_13
            have G : wd X (va_A (@HAppend.hAppend va_W va_W va_W _ (mW m0 ma la lb n t v) (@HAppend.hAppend va_W va_W va_W _ ([((ma 0), .inl (X.2.1, 371, .inl fa))]) (@HAppend.hAppend va_W va_W va_W _ ([((ma 6), .inl (X.2.1, 55, .inl fh))]) ([((ma 3), .inl (X.2.1, 3, .inl fr))])))) sz) (va_A (@HAppend.hAppend va_W va_W va_W _ (mW m0 ma la lb n t v) (@HAppend.hAppend va_W va_W va_W _ ([((ma 0), .inl (X.2.1, 371, .inl fa))]) (@HAppend.hAppend va_W va_W va_W _ ([((ma 6), .inl (X.2.1, 55, .inl fh))]) ([((ma 3), .inl (X.2.1, 3, .inl fr))])))) sz) s (@HAppend.hAppend va_W va_W va_W _ ([((ma 3), .inl (X.2.1, 3, .inl fr))]) (@HAppend.hAppend va_W va_W va_W _ (mW m0 ma la lb n t v) (@HAppend.hAppend va_W va_W va_W _ ([((ma 0), .inl (X.2.1, 371, .inl fa))]) ([((ma 6), .inl (X.2.1, 55, .inl f_13))])))) H locs := G
            refine lv_iinc (v := (nI (k41 + 1))) (lv' := [(5, .int (nI (k41 + 1))), (6, .int (nI j)), (3, .long (lN z1)), (0, .ref m0), (1, .int (nI j_1)), (2, .int (nI j_3))]) zx zb dX11_races_109 hl (k := 2) rfl (nI_add k41 1) (by decide) rfl (fun ls hl => ?_)
            refine lv_goto (tgt := 41) zx zb dX11_races_112 (by decide) ?_
            have hl := lv_sub hl (l' := [(5, .int (nI (k41 + 1))), (3, .long (lN z1)), (0, .ref m0), (1, .int (nI j_1)), (2, .int (nI j_3))]) [0, 2, 3, 4, 5] rfl
            exact ih41 (k41 + 1) (lN z1) f_13 _ _ _ (by omega) hI_f_13 (by omega) (by first | assumption | exact ⟨_, by omega, rfl⟩ | exact ⟨_, hz1, rfl⟩) G hl
          · refine lv_if_eq (tgt := 102) zx zb dX11_races_79 (by decide) (fun c_14 => ?_) (fun c_14 => absurd (by decide) c_14)
            refine lv_aload_n zx zb dX11_races_102 rfl (lv_at hl 3 rfl) ?_
            refine r_get (C := RX11) (T := TX11) (N := 18) (ci := 9) (v := .ref (ma 6)) S in_X11_races_X11 G 1 rfl rfl 6 (by decide) lk_X11_races_27 rfl dX11_races_103 ?_
            refine b_wv (cells' := 0) (slots' := 0) (wr := @HAppend.hAppend va_W va_W va_W _ ([((ma 3), .inl (X.2.1, 3, .inl fr))]) (@HAppend.hAppend va_W va_W va_W _ (mW m0 ma la lb n t v) ([((ma 0), .inl (X.2.1, 371, .inl fa))]))) G rfl rfl [3] [0, 1, 2] rfl rfl rfl rfl (n_S (As := [.ref (ma 6)]) (rest := []) S G (m_goTick l X (ma 6) 55 f41_3 c0_5b c1_5c c2_5d c3_5e c4_5f hI_f41_3 (by omega) (by omega) H.size) gX11_races_X11_goTick rfl rfl rfl hdS_X11_goTick ⟨Nat.le_of_ble_eq_true rfl, Nat.le_of_ble_eq_true rfl⟩ [3] rfl rfl rfl hl.1 (Nat.le_of_ble_eq_true rfl) dX11_races_106 ⟨Nat.le_of_ble_eq_true rfl, Nat.le_of_ble_eq_true rfl⟩) (fun u_15 H locs hp_15 G => ?_)
            obtain ⟨f_15, rfl⟩ : ∃ z, z = u_15 := ⟨_, rfl⟩
            obtain ⟨hI_f_15, hq_15⟩ := hp_15
            have G : wd X (va_A (@HAppend.hAppend va_W va_W va_W _ (mW m0 ma la lb n t v) (@HAppend.hAppend va_W va_W va_W _ ([((ma 0), .inl (X.2.1, 371, .inl fa))]) (@HAppend.hAppend va_W va_W va_W _ ([((ma 6), .inl (X.2.1, 55, .inl fh))]) ([((ma 3), .inl (X.2.1, 3, .inl fr))])))) sz) (va_A (@HAppend.hAppend va_W va_W va_W _ (mW m0 ma la lb n t v) (@HAppend.hAppend va_W va_W va_W _ ([((ma 0), .inl (X.2.1, 371, .inl fa))]) (@HAppend.hAppend va_W va_W va_W _ ([((ma 6), .inl (X.2.1, 55, .inl fh))]) ([((ma 3), .inl (X.2.1, 3, .inl fr))])))) sz) s (@HAppend.hAppend va_W va_W va_W _ ([((ma 3), .inl (X.2.1, 3, .inl fr))]) (@HAppend.hAppend va_W va_W va_W _ (mW m0 ma la lb n t v) (@HAppend.hAppend va_W va_W va_W _ ([((ma 0), .inl (X.2.1, 371, .inl fa))]) ([((ma 6), .inl (X.2.1, 55, .inl f_15))])))) H locs := G
            refine lv_iinc (v := (nI (k41 + 1))) (lv' := [(5, .int (nI (k41 + 1))), (6, .int (nI j)), (3, .long (lN z1)), (0, .ref m0), (1, .int (nI j_1)), (2, .int (nI j_3))]) zx zb dX11_races_109 hl (k := 2) rfl (nI_add k41 1) (by decide) rfl (fun ls hl => ?_)
            refine lv_goto (tgt := 41) zx zb dX11_races_112 (by decide) ?_
            have hl := lv_sub hl (l' := [(5, .int (nI (k41 + 1))), (3, .long (lN z1)), (0, .ref m0), (1, .int (nI j_1)), (2, .int (nI j_3))]) [0, 2, 3, 4, 5] rfl
            exact ih41 (k41 + 1) (lN z1) f_15 _ _ _ (by omega) hI_f_15 (by omega) (by first | assumption | exact ⟨_, by omega, rfl⟩ | exact ⟨_, hz1, rfl⟩) G hl
    · refine lv_if_ne (tgt := 31) zx zb dX11_races_21 (by decide) (fun c_16 => absurd (by decide) c_16) (fun c_16 => ?_)
      refine lv_aload_n zx zb dX11_races_24 rfl (lv_at hl 0 rfl) ?_
      refine lv_bipush (v := (-2)) zx zb dX11_races_25 (by decide) ?_
      refine b_wi (cells' := 0) (slots' := 0) (wr := @HAppend.hAppend va_W va_W va_W _ ([((ma 0), .inl (X.2.1, 371, .inl fa))]) ([((ma 6), .inl (X.2.1, 55, .inl fh))])) G rfl rfl [0, 3] [1, 2] rfl rfl rfl rfl (n_V (As := [.int (-2)]) (rest := []) (C := RX11) (T := TX11) (N := 18) (ci := 9) S G (m_bad l X m0 ma la lb n t v fr (-2) hI_n hI_t H.size) gX11_races_X11_bad rfl rfl rfl hdV_X11_bad ⟨Nat.le_of_ble_eq_true rfl, Nat.le_of_ble_eq_true rfl⟩ [0, 3] rfl rfl 0 rfl rfl rfl hl.1 (Nat.le_of_ble_eq_true rfl) dX11_races_27 ⟨Nat.le_of_ble_eq_true rfl, Nat.le_of_ble_eq_true rfl⟩) (fun r_17 u_17 H locs hp_17 G => ?_)
      obtain ⟨f_17, rfl⟩ : ∃ z, z = u_17 := ⟨_, rfl⟩
      have hq_17 := hp_17
      have G : wd X (va_A (@HAppend.hAppend va_W va_W va_W _ (mW m0 ma la lb n t v) (@HAppend.hAppend va_W va_W va_W _ ([((ma 0), .inl (X.2.1, 371, .inl fa))]) (@HAppend.hAppend va_W va_W va_W _ ([((ma 6), .inl (X.2.1, 55, .inl fh))]) ([((ma 3), .inl (X.2.1, 3, .inl fr))])))) sz) (va_A (@HAppend.hAppend va_W va_W va_W _ (mW m0 ma la lb n t v) (@HAppend.hAppend va_W va_W va_W _ ([((ma 0), .inl (X.2.1, 371, .inl fa))]) (@HAppend.hAppend va_W va_W va_W _ ([((ma 6), .inl (X.2.1, 55, .inl fh))]) ([((ma 3), .inl (X.2.1, 3, .inl fr))])))) sz) s (@HAppend.hAppend va_W va_W va_W _ ([((ma 0), .inl (X.2.1, 371, .inl fa))]) (@HAppend.hAppend va_W va_W va_W _ ([((ma 6), .inl (X.2.1, 55, .inl fh))]) (@HAppend.hAppend va_W va_W va_W _ (mW m0 ma la lb n t v) ([((ma 3), .inl (X.2.1, 3, .inl f_17))])))) H locs := G
      obtain rfl := hq_17
      exact e_int S zr zlk (vp_nar_int _) G (fh, d0, d1, d2, d3, d4, f_17) [2, 0, 1, 3] rfl rfl (Or.inr rfl) (⟨hI_fh, trivial⟩) dX11_races_30
  · refine lv_if_eq (tgt := 24) zx zb dX11_races_9 (by decide) (fun c_18 => ?_) (fun c_18 => absurd (by decide) c_18)
    refine lv_aload_n zx zb dX11_races_24 rfl (lv_at hl 0 rfl) ?_
    refine lv_bipush (v := (-2)) zx zb dX11_races_25 (by decide) ?_
    refine b_wi (cells' := 0) (slots' := 0) (wr := @HAppend.hAppend va_W va_W va_W _ ([((ma 0), .inl (X.2.1, 371, .inl fa))]) ([((ma 6), .inl (X.2.1, 55, .inl fh))])) G rfl rfl [0, 3] [1, 2] rfl rfl rfl rfl (n_V (As := [.int (-2)]) (rest := []) (C := RX11) (T := TX11) (N := 18) (ci := 9) S G (m_bad l X m0 ma la lb n t v fr (-2) hI_n hI_t H.size) gX11_races_X11_bad rfl rfl rfl hdV_X11_bad ⟨Nat.le_of_ble_eq_true rfl, Nat.le_of_ble_eq_true rfl⟩ [0, 3] rfl rfl 0 rfl rfl rfl hl.1 (Nat.le_of_ble_eq_true rfl) dX11_races_27 ⟨Nat.le_of_ble_eq_true rfl, Nat.le_of_ble_eq_true rfl⟩) (fun r_19 u_19 H locs hp_19 G => ?_)
    obtain ⟨f_19, rfl⟩ : ∃ z, z = u_19 := ⟨_, rfl⟩
    have hq_19 := hp_19
    have G : wd X (va_A (@HAppend.hAppend va_W va_W va_W _ (mW m0 ma la lb n t v) (@HAppend.hAppend va_W va_W va_W _ ([((ma 0), .inl (X.2.1, 371, .inl fa))]) (@HAppend.hAppend va_W va_W va_W _ ([((ma 6), .inl (X.2.1, 55, .inl fh))]) ([((ma 3), .inl (X.2.1, 3, .inl fr))])))) sz) (va_A (@HAppend.hAppend va_W va_W va_W _ (mW m0 ma la lb n t v) (@HAppend.hAppend va_W va_W va_W _ ([((ma 0), .inl (X.2.1, 371, .inl fa))]) (@HAppend.hAppend va_W va_W va_W _ ([((ma 6), .inl (X.2.1, 55, .inl fh))]) ([((ma 3), .inl (X.2.1, 3, .inl fr))])))) sz) s (@HAppend.hAppend va_W va_W va_W _ ([((ma 0), .inl (X.2.1, 371, .inl fa))]) (@HAppend.hAppend va_W va_W va_W _ ([((ma 6), .inl (X.2.1, 55, .inl fh))]) (@HAppend.hAppend va_W va_W va_W _ (mW m0 ma la lb n t v) ([((ma 3), .inl (X.2.1, 3, .inl f_19))])))) H locs := G
    obtain rfl := hq_19
    exact e_int S zr zlk (vp_nar_int _) G (fh, d0, d1, d2, d3, d4, f_19) [2, 0, 1, 3] rfl rfl (Or.inr rfl) (⟨hI_fh, trivial⟩) dX11_races_30
set_option maxHeartbeats 4000000 in
set_option maxRecDepth 100000 in
theorem y_runsAs (l : Launch) (X : EX) (x1 : Int32) (x2 : Int32) (x3 : Int32) (x4 : Int32) (sz : Nat) : Met l yX11_runsAs wsX11_runsAs ({ frames := 0, cells := 0, slots := 0, locals := 0 } : Room) (pE X [.int x1, .int x2, .int x3, .int x4] ([]) sz) (qI (fun (r : Int32) (u : Unit) => r = reachP x1 x2 x4 x3) X (fun (u : Unit) => []) [] sz) 0 0 (va_A [] sz) := by
  refine mk_met (B := (fun _ => True)) (A := (va_A [] sz)) (cc := cX11_runsAs) (maxL := 7) (ret := (some .int)) (by decide) rfl (Nat.le_of_ble_eq_true rfl) k_ro k_a (fun p e s m below meth c S zr zlk znm zsz G ls hl => ?_)
  have S : CallFix p m c cX11_runsAs 7 s _ wsX11_runsAs RX11 := S
  have zx := S.1
  have zb := S.2.1
  have hl : lv_has ls 7 [(0, .int x1), (1, .int x2), (2, .int x3), (3, .int x4)] := hl
  refine lv_iload_n zx zb dX11_runsAs_0 rfl (lv_at hl 2 rfl) ?_
  refine lv_iload_n zx zb dX11_runsAs_1 rfl (lv_at hl 1 rfl) ?_
  refine k_cutW (PP := fun Wx => ∀ (x_2 : Int32) (H : Heap) (locs : List Loc) (ls : Array Slot), (x_2 = (if x2 ≤ x3 then x2 else x3)) → wd X (fun _ => True) (va_A [] sz) s ([]) H locs → lv_has ls 7 [(0, .int x1), (1, .int x2), (2, .int x3), (3, .int x4)] → Wx (F0 m 10 ls [.int x_2]) H locs) ?_ ?_
  · intro join_2
    refine lv_icmp_ge (tgt := 9) zx zb dX11_runsAs_2 (by decide) (fun c_1 => ?_) (fun c_1 => ?_)
    · refine lv_iload_n zx zb dX11_runsAs_9 rfl (lv_at hl 1 rfl) ?_
      exact join_2 x2 _ _ _ (if_pos c_1).symm G hl
    · refine lv_iload_n zx zb dX11_runsAs_5 rfl (lv_at hl 2 rfl) ?_
      refine lv_goto (tgt := 10) zx zb dX11_runsAs_6 (by decide) ?_
      exact join_2 x3 _ _ _ (if_neg c_1).symm G hl
  · intro x_2 H locs ls hk_x_2 G hl
    subst hk_x_2
    refine lv_istore (lv' := [(4, .int (if x2 ≤ x3 then x2 else x3)), (0, .int x1), (1, .int x2), (2, .int x3), (3, .int x4)]) zx zb dX11_runsAs_10 hl (by decide) rfl (fun ls hl => ?_)
    refine lv_iload_n zx zb dX11_runsAs_12 rfl (lv_at hl 3 rfl) ?_
    refine lv_iconst (v := 5) zx zb dX11_runsAs_13 (by decide) ?_
    refine k_cutW (PP := fun Wx => ∀ (x_4 : Int32) (H : Heap) (locs : List Loc) (ls : Array Slot), (x_4 = (if x3 < 5 then (if x2 ≤ x3 then x2 else x3) else ((if x2 ≤ x3 then x2 else x3) + 1))) → wd X (fun _ => True) (va_A [] sz) s ([]) H locs → lv_has ls 7 [(4, .int (if x2 ≤ x3 then x2 else x3)), (0, .int x1), (1, .int x2), (2, .int x3), (3, .int x4)] → Wx (F0 m 26 ls [.int x_4]) H locs) ?_ ?_
    · intro join_14
      refine lv_icmp_lt (tgt := 24) zx zb dX11_runsAs_14 (by decide) (fun c_3 => ?_) (fun c_3 => ?_)
      · refine lv_iload zx zb dX11_runsAs_24 (lv_at hl 0 rfl) ?_
        exact join_14 (if x2 ≤ x3 then x2 else x3) _ _ _ (if_pos c_3).symm G hl
      · refine lv_iload zx zb dX11_runsAs_17 (lv_at hl 0 rfl) ?_
        refine lv_iconst (v := 1) zx zb dX11_runsAs_19 (by decide) ?_
        refine r_iadd (v := ((if x2 ≤ x3 then x2 else x3) + 1)) S rfl dX11_runsAs_20 ?_
        refine lv_goto (tgt := 26) zx zb dX11_runsAs_21 (by decide) ?_
        exact join_14 ((if x2 ≤ x3 then x2 else x3) + 1) _ _ _ (if_neg c_3).symm G hl
    · intro x_4 H locs ls hk_x_4 G hl
      subst hk_x_4
      refine lv_istore (lv' := [(5, .int (if x3 < 5 then (if x2 ≤ x3 then x2 else x3) else ((if x2 ≤ x3 then x2 else x3) + 1))), (4, .int (if x2 ≤ x3 then x2 else x3)), (0, .int x1), (1, .int x2), (2, .int x3), (3, .int x4)]) zx zb dX11_runsAs_26 hl (by decide) rfl (fun ls hl => ?_)
      refine lv_iload zx zb dX11_runsAs_28 (lv_at hl 1 rfl) ?_
      refine lv_iload_n zx zb dX11_runsAs_30 rfl (lv_at hl 5 rfl) ?_
      refine lv_bipush (v := 10) zx zb dX11_runsAs_31 (by decide) ?_
      refine lv_idiv zx zb dX11_runsAs_33 (by decide) ?_
      refine k_cutW (PP := fun Wx => ∀ (x_6 : Int32) (H : Heap) (locs : List Loc) (ls : Array Slot), (x_6 = (if (if x2 ≤ x3 then x2 else x3) ≤ (x4 / 10) then 0 else ((if x2 ≤ x3 then x2 else x3) - (x4 / 10)))) → wd X (fun _ => True) (va_A [] sz) s ([]) H locs → lv_has ls 7 [(5, .int (if x3 < 5 then (if x2 ≤ x3 then x2 else x3) else ((if x2 ≤ x3 then x2 else x3) + 1))), (4, .int (if x2 ≤ x3 then x2 else x3)), (0, .int x1), (1, .int x2), (2, .int x3), (3, .int x4)] → Wx (F0 m 48 ls [.int x_6]) H locs) ?_ ?_
      · intro join_34
        refine lv_icmp_le (tgt := 47) zx zb dX11_runsAs_34 (by decide) (fun c_5 => ?_) (fun c_5 => ?_)
        · refine lv_iconst (v := 0) zx zb dX11_runsAs_47 (by decide) ?_
          exact join_34 0 _ _ _ (if_pos c_5).symm G hl
        · refine lv_iload zx zb dX11_runsAs_37 (lv_at hl 1 rfl) ?_
          refine lv_iload_n zx zb dX11_runsAs_39 rfl (lv_at hl 5 rfl) ?_
          refine lv_bipush (v := 10) zx zb dX11_runsAs_40 (by decide) ?_
          refine lv_idiv zx zb dX11_runsAs_42 (by decide) ?_
          refine r_isub (v := ((if x2 ≤ x3 then x2 else x3) - (x4 / 10))) S rfl dX11_runsAs_43 ?_
          refine lv_goto (tgt := 48) zx zb dX11_runsAs_44 (by decide) ?_
          exact join_34 ((if x2 ≤ x3 then x2 else x3) - (x4 / 10)) _ _ _ (if_neg c_5).symm G hl
      · intro x_6 H locs ls hk_x_6 G hl
        subst hk_x_6
        refine lv_istore (lv' := [(6, .int (if (if x2 ≤ x3 then x2 else x3) ≤ (x4 / 10) then 0 else ((if x2 ≤ x3 then x2 else x3) - (x4 / 10)))), (5, .int (if x3 < 5 then (if x2 ≤ x3 then x2 else x3) else ((if x2 ≤ x3 then x2 else x3) + 1))), (4, .int (if x2 ≤ x3 then x2 else x3)), (0, .int x1), (1, .int x2), (2, .int x3), (3, .int x4)]) zx zb dX11_runsAs_48 hl (by decide) rfl (fun ls hl => ?_)
        refine lv_iload_n zx zb dX11_runsAs_50 rfl (lv_at hl 3 rfl) ?_
        rcases k_ts1_5 x1 with w_7 | w_7 | w_7 | w_7 | w_7 | w_7
        · refine k_it w_7 ?_
          refine lv_tableIn (off := 33) (tgt := 84) zx zb dX11_runsAs_51 (by decide) (by decide) rfl (by decide) ?_
          refine lv_iload zx zb dX11_runsAs_84 (lv_at hl 1 rfl) ?_
          exact e_int S zr zlk (vp_nar_int _) G () [] rfl rfl (Or.inl rfl) (by subst w_7; rfl) dX11_runsAs_86
        · refine k_it w_7 ?_
          refine lv_tableIn (off := 36) (tgt := 87) zx zb dX11_runsAs_51 (by decide) (by decide) rfl (by decide) ?_
          refine lv_iload zx zb dX11_runsAs_87 (lv_at hl 0 rfl) ?_
          exact e_int S zr zlk (vp_nar_int _) G () [] rfl rfl (Or.inl rfl) (by subst w_7; rfl) dX11_runsAs_89
        · refine k_it w_7 ?_
          refine lv_tableIn (off := 39) (tgt := 90) zx zb dX11_runsAs_51 (by decide) (by decide) rfl (by decide) ?_
          refine lv_iload_n zx zb dX11_runsAs_90 rfl (lv_at hl 6 rfl) ?_
          refine lv_iconst (v := 5) zx zb dX11_runsAs_91 (by decide) ?_
          refine lv_irem zx zb dX11_runsAs_92 (by decide) ?_
          refine lv_iconst (v := 4) zx zb dX11_runsAs_93 (by decide) ?_
          refine k_cutW (PP := fun Wx => ∀ (x_9 : Int32) (H : Heap) (locs : List Loc) (ls : Array Slot), (x_9 = (if (x4 - x4 / 5 * 5) = 4 then ((if x3 < 5 then (if x2 ≤ x3 then x2 else x3) else ((if x2 ≤ x3 then x2 else x3) + 1)) + 3) else (if x3 < 5 then (if x2 ≤ x3 then x2 else x3) else ((if x2 ≤ x3 then x2 else x3) + 1)))) → wd X (fun _ => True) (va_A [] sz) s ([]) H locs → lv_has ls 7 [(6, .int (if (if x2 ≤ x3 then x2 else x3) ≤ (x4 / 10) then 0 else ((if x2 ≤ x3 then x2 else x3) - (x4 / 10)))), (5, .int (if x3 < 5 then (if x2 ≤ x3 then x2 else x3) else ((if x2 ≤ x3 then x2 else x3) + 1))), (4, .int (if x2 ≤ x3 then x2 else x3)), (0, .int x1), (1, .int x2), (2, .int x3), (3, .int x4)] → Wx (F0 m 106 ls [.int x_9]) H locs) ?_ ?_
          · intro join_94
            refine lv_icmp_ne (tgt := 104) zx zb dX11_runsAs_94 (by decide) (fun c_8 => ?_) (fun c_8 => ?_)
            · refine lv_iload zx zb dX11_runsAs_104 (lv_at hl 1 rfl) ?_
              exact join_94 (if x3 < 5 then (if x2 ≤ x3 then x2 else x3) else ((if x2 ≤ x3 then x2 else x3) + 1)) _ _ _ (if_neg c_8).symm G hl
            · refine lv_iload zx zb dX11_runsAs_97 (lv_at hl 1 rfl) ?_
              refine lv_iconst (v := 3) zx zb dX11_runsAs_99 (by decide) ?_
              refine r_iadd (v := ((if x3 < 5 then (if x2 ≤ x3 then x2 else x3) else ((if x2 ≤ x3 then x2 else x3) + 1)) + 3)) S rfl dX11_runsAs_100 ?_
              refine lv_goto (tgt := 106) zx zb dX11_runsAs_101 (by decide) ?_
              exact join_94 ((if x3 < 5 then (if x2 ≤ x3 then x2 else x3) else ((if x2 ≤ x3 then x2 else x3) + 1)) + 3) _ _ _ (if_pos c_8).symm G hl
          · intro x_9 H locs ls hk_x_9 G hl
            subst hk_x_9
            exact e_int S zr zlk (vp_nar_int _) G () [] rfl rfl (Or.inl rfl) (by subst w_7; rfl) dX11_runsAs_106
        · refine k_it w_7 ?_
          refine lv_tableIn (off := 56) (tgt := 107) zx zb dX11_runsAs_51 (by decide) (by decide) rfl (by decide) ?_
          refine lv_iload zx zb dX11_runsAs_107 (lv_at hl 2 rfl) ?_
          refine lv_iconst (v := 1) zx zb dX11_runsAs_109 (by decide) ?_
          refine r_iadd (v := ((if x2 ≤ x3 then x2 else x3) + 1)) S rfl dX11_runsAs_110 ?_
          refine lv_iconst (v := 2) zx zb dX11_runsAs_111 (by decide) ?_
          refine lv_idiv zx zb dX11_runsAs_112 (by decide) ?_
          exact e_int S zr zlk (vp_nar_int _) G () [] rfl rfl (Or.inl rfl) (by subst w_7; rfl) dX11_runsAs_113
        · refine k_it w_7 ?_
          refine lv_tableIn (off := 63) (tgt := 114) zx zb dX11_runsAs_51 (by decide) (by decide) rfl (by decide) ?_
          refine lv_iload_n zx zb dX11_runsAs_114 rfl (lv_at hl 6 rfl) ?_
          refine lv_iconst (v := 2) zx zb dX11_runsAs_115 (by decide) ?_
          refine lv_irem zx zb dX11_runsAs_116 (by decide) ?_
          refine lv_iconst (v := 1) zx zb dX11_runsAs_117 (by decide) ?_
          refine k_cutW (PP := fun Wx => ∀ (x_11 : Int32) (H : Heap) (locs : List Loc) (ls : Array Slot), (x_11 = (if (x4 - x4 / 2 * 2) = 1 then ((if (if x2 ≤ x3 then x2 else x3) ≤ (x4 / 10) then 0 else ((if x2 ≤ x3 then x2 else x3) - (x4 / 10))) + 2) else (if (if x2 ≤ x3 then x2 else x3) ≤ (x4 / 10) then 0 else ((if x2 ≤ x3 then x2 else x3) - (x4 / 10))))) → wd X (fun _ => True) (va_A [] sz) s ([]) H locs → lv_has ls 7 [(6, .int (if (if x2 ≤ x3 then x2 else x3) ≤ (x4 / 10) then 0 else ((if x2 ≤ x3 then x2 else x3) - (x4 / 10)))), (5, .int (if x3 < 5 then (if x2 ≤ x3 then x2 else x3) else ((if x2 ≤ x3 then x2 else x3) + 1))), (4, .int (if x2 ≤ x3 then x2 else x3)), (0, .int x1), (1, .int x2), (2, .int x3), (3, .int x4)] → Wx (F0 m 130 ls [.int x_11]) H locs) ?_ ?_
          · intro join_118
            refine lv_icmp_ne (tgt := 128) zx zb dX11_runsAs_118 (by decide) (fun c_10 => ?_) (fun c_10 => ?_)
            · refine lv_iload zx zb dX11_runsAs_128 (lv_at hl 0 rfl) ?_
              exact join_118 (if (if x2 ≤ x3 then x2 else x3) ≤ (x4 / 10) then 0 else ((if x2 ≤ x3 then x2 else x3) - (x4 / 10))) _ _ _ (if_neg c_10).symm G hl
            · refine lv_iload zx zb dX11_runsAs_121 (lv_at hl 0 rfl) ?_
              refine lv_iconst (v := 2) zx zb dX11_runsAs_123 (by decide) ?_
              refine r_iadd (v := ((if (if x2 ≤ x3 then x2 else x3) ≤ (x4 / 10) then 0 else ((if x2 ≤ x3 then x2 else x3) - (x4 / 10))) + 2)) S rfl dX11_runsAs_124 ?_
              refine lv_goto (tgt := 130) zx zb dX11_runsAs_125 (by decide) ?_
              exact join_118 ((if (if x2 ≤ x3 then x2 else x3) ≤ (x4 / 10) then 0 else ((if x2 ≤ x3 then x2 else x3) - (x4 / 10))) + 2) _ _ _ (if_pos c_10).symm G hl
          · intro x_11 H locs ls hk_x_11 G hl
            subst hk_x_11
            exact e_int S zr zlk (vp_nar_int _) G () [] rfl rfl (Or.inl rfl) (by subst w_7; rfl) dX11_runsAs_130
        · refine lv_tableOut (tgt := 131) zx zb dX11_runsAs_51 w_7 (by decide) ?_
          refine lv_iload zx zb dX11_runsAs_131 (lv_at hl 2 rfl) ?_
          exact e_int S zr zlk (vp_nar_int _) G () [] rfl rfl (Or.inl rfl) ((reachP_d w_7).symm) dX11_runsAs_133
set_option maxHeartbeats 4000000 in
set_option maxRecDepth 100000 in
theorem y_mayAs (l : Launch) (X : EX) (x1 : Int32) (x2 : Int32) (sz : Nat) : Met l yX11_mayAs wsX11_mayAs ({ frames := 0, cells := 0, slots := 0, locals := 0 } : Room) (pE X [.int x1, .int x2] ([]) sz) (qI (fun (r : Int32) (u : Unit) => r = limitP x1 x2) X (fun (u : Unit) => []) [] sz) 0 0 (va_A [] sz) := by
  refine mk_met (B := (fun _ => True)) (A := (va_A [] sz)) (cc := cX11_mayAs) (maxL := 3) (ret := (some .int)) (by decide) rfl (Nat.le_of_ble_eq_true rfl) k_ro k_a (fun p e s m below meth c S zr zlk znm zsz G ls hl => ?_)
  have S : CallFix p m c cX11_mayAs 3 s _ wsX11_mayAs RX11 := S
  have zx := S.1
  have zb := S.2.1
  have hl : lv_has ls 3 [(0, .int x1), (1, .int x2)] := hl
  refine lv_iload_n zx zb dX11_mayAs_0 rfl (lv_at hl 1 rfl) ?_
  refine lv_iconst (v := 2) zx zb dX11_mayAs_1 (by decide) ?_
  refine lv_irem zx zb dX11_mayAs_2 (by decide) ?_
  refine lv_iconst (v := 1) zx zb dX11_mayAs_3 (by decide) ?_
  refine k_cutW (PP := fun Wx => ∀ (x_2 : Int32) (H : Heap) (locs : List Loc) (ls : Array Slot), (x_2 = (if (x2 - x2 / 2 * 2) = 1 then 3 else 4)) → wd X (fun _ => True) (va_A [] sz) s ([]) H locs → lv_has ls 3 [(0, .int x1), (1, .int x2)] → Wx (F0 m 12 ls [.int x_2]) H locs) ?_ ?_
  · intro join_4
    refine lv_icmp_ne (tgt := 11) zx zb dX11_mayAs_4 (by decide) (fun c_1 => ?_) (fun c_1 => ?_)
    · refine lv_iconst (v := 4) zx zb dX11_mayAs_11 (by decide) ?_
      exact join_4 4 _ _ _ (if_neg c_1).symm G hl
    · refine lv_iconst (v := 3) zx zb dX11_mayAs_7 (by decide) ?_
      refine lv_goto (tgt := 12) zx zb dX11_mayAs_8 (by decide) ?_
      exact join_4 3 _ _ _ (if_pos c_1).symm G hl
  · intro x_2 H locs ls hk_x_2 G hl
    subst hk_x_2
    refine lv_istore_n (lv' := [(2, .int (if (x2 - x2 / 2 * 2) = 1 then 3 else 4)), (0, .int x1), (1, .int x2)]) zx zb dX11_mayAs_12 rfl hl (by decide) rfl (fun ls hl => ?_)
    refine lv_iload_n zx zb dX11_mayAs_13 rfl (lv_at hl 1 rfl) ?_
    rcases k_ts1_5 x1 with w_3 | w_3 | w_3 | w_3 | w_3 | w_3
    · refine k_it w_3 ?_
      refine lv_tableIn (off := 34) (tgt := 48) zx zb dX11_mayAs_14 (by decide) (by decide) rfl (by decide) ?_
      refine lv_iconst (v := 5) zx zb dX11_mayAs_48 (by decide) ?_
      exact e_int S zr zlk (vp_nar_int _) G () [] rfl rfl (Or.inl rfl) (by subst w_3; rfl) dX11_mayAs_49
    · refine k_it w_3 ?_
      refine lv_tableIn (off := 36) (tgt := 50) zx zb dX11_mayAs_14 (by decide) (by decide) rfl (by decide) ?_
      refine lv_iload_n zx zb dX11_mayAs_50 rfl (lv_at hl 0 rfl) ?_
      exact e_int S zr zlk (vp_nar_int _) G () [] rfl rfl (Or.inl rfl) (by subst w_3; rfl) dX11_mayAs_51
    · refine k_it w_3 ?_
      refine lv_tableIn (off := 38) (tgt := 52) zx zb dX11_mayAs_14 (by decide) (by decide) rfl (by decide) ?_
      refine lv_iload_n zx zb dX11_mayAs_52 rfl (lv_at hl 2 rfl) ?_
      refine lv_iconst (v := 3) zx zb dX11_mayAs_53 (by decide) ?_
      refine k_cutW (PP := fun Wx => ∀ (x_5 : Int32) (H : Heap) (locs : List Loc) (ls : Array Slot), (x_5 = (if 3 ≤ x2 then 5 else 8)) → wd X (fun _ => True) (va_A [] sz) s ([]) H locs → lv_has ls 3 [(2, .int (if (x2 - x2 / 2 * 2) = 1 then 3 else 4)), (0, .int x1), (1, .int x2)] → Wx (F0 m 63 ls [.int x_5]) H locs) ?_ ?_
      · intro join_54
        refine lv_icmp_ge (tgt := 62) zx zb dX11_mayAs_54 (by decide) (fun c_4 => ?_) (fun c_4 => ?_)
        · refine lv_iconst (v := 5) zx zb dX11_mayAs_62 (by decide) ?_
          exact join_54 5 _ _ _ (if_pos c_4).symm G hl
        · refine lv_bipush (v := 8) zx zb dX11_mayAs_57 (by decide) ?_
          refine lv_goto (tgt := 63) zx zb dX11_mayAs_59 (by decide) ?_
          exact join_54 8 _ _ _ (if_neg c_4).symm G hl
      · intro x_5 H locs ls hk_x_5 G hl
        subst hk_x_5
        exact e_int S zr zlk (vp_nar_int _) G () [] rfl rfl (Or.inl rfl) (by subst w_3; rfl) dX11_mayAs_63
    · refine k_it w_3 ?_
      refine lv_tableIn (off := 50) (tgt := 64) zx zb dX11_mayAs_14 (by decide) (by decide) rfl (by decide) ?_
      refine lv_iload_n zx zb dX11_mayAs_64 rfl (lv_at hl 0 rfl) ?_
      refine lv_iconst (v := 1) zx zb dX11_mayAs_65 (by decide) ?_
      refine r_isub (v := ((if (x2 - x2 / 2 * 2) = 1 then 3 else 4) - 1)) S rfl dX11_mayAs_66 ?_
      exact e_int S zr zlk (vp_nar_int _) G () [] rfl rfl (Or.inl rfl) (by subst w_3; rfl) dX11_mayAs_67
    · refine k_it w_3 ?_
      refine lv_tableIn (off := 54) (tgt := 68) zx zb dX11_mayAs_14 (by decide) (by decide) rfl (by decide) ?_
      refine lv_iload_n zx zb dX11_mayAs_68 rfl (lv_at hl 2 rfl) ?_
      refine lv_iconst (v := 4) zx zb dX11_mayAs_69 (by decide) ?_
      refine lv_irem zx zb dX11_mayAs_70 (by decide) ?_
      refine k_cutW (PP := fun Wx => ∀ (x_7 : Int32) (H : Heap) (locs : List Loc) (ls : Array Slot), (x_7 = (if (x2 - x2 / 4 * 4) = 0 then 7 else 5)) → wd X (fun _ => True) (va_A [] sz) s ([]) H locs → lv_has ls 3 [(2, .int (if (x2 - x2 / 2 * 2) = 1 then 3 else 4)), (0, .int x1), (1, .int x2)] → Wx (F0 m 80 ls [.int x_7]) H locs) ?_ ?_
      · intro join_71
        refine lv_if_ne (tgt := 79) zx zb dX11_mayAs_71 (by decide) (fun c_6 => ?_) (fun c_6 => ?_)
        · refine lv_iconst (v := 5) zx zb dX11_mayAs_79 (by decide) ?_
          exact join_71 5 _ _ _ (if_neg c_6).symm G hl
        · refine lv_bipush (v := 7) zx zb dX11_mayAs_74 (by decide) ?_
          refine lv_goto (tgt := 80) zx zb dX11_mayAs_76 (by decide) ?_
          exact join_71 7 _ _ _ (if_pos c_6).symm G hl
      · intro x_7 H locs ls hk_x_7 G hl
        subst hk_x_7
        exact e_int S zr zlk (vp_nar_int _) G () [] rfl rfl (Or.inl rfl) (by subst w_3; rfl) dX11_mayAs_80
    · refine lv_tableOut (tgt := 81) zx zb dX11_mayAs_14 w_3 (by decide) ?_
      refine lv_iconst (v := 4) zx zb dX11_mayAs_81 (by decide) ?_
      exact e_int S zr zlk (vp_nar_int _) G () [] rfl rfl (Or.inl rfl) ((limitP_d w_3).symm) dX11_mayAs_82
set_option maxHeartbeats 4000000 in
set_option maxRecDepth 100000 in
theorem y_runsOf (l : Launch) (X : EX) (ha : Nat) (N : Nat) (f : Nat → Int32) (c0 : Nat) (c1 : Nat) (c2 : Nat) (c3 : Nat) (c4 : Nat) (i : Nat) (x2 : Int32) (hI_f : InA f c0 c1 c2 c3 c4) (hN : 55 ≤ N) (hM : N ≤ 1000) (h6 : i < 6) (sz : Nat) : Met l yX11_runsOf wsX11_runsOf ({ frames := 1, cells := 0, slots := 0, locals := 26 } : Room) (pE X [.ref ha, .int (nI i), .int x2] ([(ha, .inl (X.2.1, N, .inl f))]) sz) (qI (fun (r : Int32) (u : Unit) => r = reachP (f (37 + i)) (f (43 + i)) x2 (f (11 + i))) X (fun (u : Unit) => []) [] sz) 0 0 (va_A [] sz) := by
  refine mk_met (B := (fun _ => True)) (A := (va_A [] sz)) (cc := cX11_runsOf) (maxL := 3) (ret := (some .int)) (by decide) rfl (Nat.le_of_ble_eq_true rfl) k_ro k_a (fun p e s m below meth c S zr zlk znm zsz G ls hl => ?_)
  have S : CallFix p m c cX11_runsOf 3 s _ wsX11_runsOf RX11 := S
  have zx := S.1
  have zb := S.2.1
  have hl : lv_has ls 3 [(0, .ref ha), (1, .int (nI i)), (2, .int x2)] := hl
  have hO_f := hI_f.2
  obtain ⟨hm0_f, hm1_f, hm2_f, hm3_f, hm4_f⟩ := hO_f
  refine lv_aload_n zx zb dX11_runsOf_0 rfl (lv_at hl 0 rfl) ?_
  refine lv_bipush (v := 37) zx zb dX11_runsOf_1 (by decide) ?_
  refine lv_iload_n zx zb dX11_runsOf_3 rfl (lv_at hl 1 rfl) ?_
  refine r_iadd (v := (nI (37 + i))) S (nI_add 37 i) dX11_runsOf_4 ?_
  refine r_iald (v := (f (37 + i))) S G 0 rfl (vp_in_nI (by omega) (by omega)) (congrArg f (nI_clamp (by omega))) dX11_runsOf_5 ?_
  refine lv_aload_n zx zb dX11_runsOf_6 rfl (lv_at hl 0 rfl) ?_
  refine lv_bipush (v := 43) zx zb dX11_runsOf_7 (by decide) ?_
  refine lv_iload_n zx zb dX11_runsOf_9 rfl (lv_at hl 1 rfl) ?_
  refine r_iadd (v := (nI (43 + i))) S (nI_add 43 i) dX11_runsOf_10 ?_
  refine r_iald (v := (f (43 + i))) S G 0 rfl (vp_in_nI (by omega) (by omega)) (congrArg f (nI_clamp (by omega))) dX11_runsOf_11 ?_
  refine lv_aload_n zx zb dX11_runsOf_12 rfl (lv_at hl 0 rfl) ?_
  refine lv_bipush (v := 11) zx zb dX11_runsOf_13 (by decide) ?_
  refine lv_iload_n zx zb dX11_runsOf_15 rfl (lv_at hl 1 rfl) ?_
  refine r_iadd (v := (nI (11 + i))) S (nI_add 11 i) dX11_runsOf_16 ?_
  refine r_iald (v := (f (11 + i))) S G 0 rfl (vp_in_nI (by omega) (by omega)) (congrArg f (nI_clamp (by omega))) dX11_runsOf_17 ?_
  refine lv_iload_n zx zb dX11_runsOf_18 rfl (lv_at hl 2 rfl) ?_
  refine o_ri (cells' := 0) (slots' := 0) G rfl rfl (n_S (As := [.int (f (37 + i)), .int (f (43 + i)), .int (f (11 + i)), .int x2]) (rest := []) S G (y_runsAs l X (f (37 + i)) (f (43 + i)) (f (11 + i)) x2 s.heap.size) gX11_runsOf_X11_runsAs rfl rfl rfl hdS_X11_runsAs ⟨Nat.le_of_ble_eq_true rfl, Nat.le_of_ble_eq_true rfl⟩ [] rfl rfl rfl hl.1 (Nat.le_of_ble_eq_true rfl) dX11_runsOf_19 ⟨Nat.le_of_ble_eq_true rfl, Nat.le_of_ble_eq_true rfl⟩) (fun r_4 u_4 H locs hp_4 G => ?_)
  have G : wd X (fun _ => True) (va_A [] sz) s ([(ha, .inl (X.2.1, N, .inl f))]) H locs := G
  obtain rfl := hp_4
  exact e_int S zr zlk (vp_nar_int _) G () [] rfl rfl (Or.inl rfl) (rfl) dX11_runsOf_22
set_option maxHeartbeats 4000000 in
set_option maxRecDepth 100000 in
theorem y_isHome (l : Launch) (X : EX) (ha : Nat) (N : Nat) (f : Nat → Int32) (c0 : Nat) (c1 : Nat) (c2 : Nat) (c3 : Nat) (c4 : Nat) (i : Nat) (hI_f : InA f c0 c1 c2 c3 c4) (hN : 55 ≤ N) (hM : N ≤ 1000) (h6 : i < 6) (sz : Nat) : Met l yX11_isHome wsX11_isHome ({ frames := 0, cells := 0, slots := 0, locals := 0 } : Room) (pE X [.ref ha, .int (nI i)] ([(ha, .inl (X.2.1, N, .inl f))]) sz) (qI (fun (r : Int32) (u : Unit) => (r = 1 ∧ 0 < f (29 + i)) ∨ (r = 0 ∧ ¬ 0 < f (29 + i))) X (fun (u : Unit) => []) [] sz) 0 0 (va_A [] sz) := by
  refine mk_met (B := (fun _ => True)) (A := (va_A [] sz)) (cc := cX11_isHome) (maxL := 2) (ret := (some .boolean)) (by decide) rfl (Nat.le_of_ble_eq_true rfl) k_ro k_a (fun p e s m below meth c S zr zlk znm zsz G ls hl => ?_)
  have S : CallFix p m c cX11_isHome 2 s _ wsX11_isHome RX11 := S
  have zx := S.1
  have zb := S.2.1
  have hl : lv_has ls 2 [(0, .ref ha), (1, .int (nI i))] := hl
  have hO_f := hI_f.2
  obtain ⟨hm0_f, hm1_f, hm2_f, hm3_f, hm4_f⟩ := hO_f
  refine lv_aload_n zx zb dX11_isHome_0 rfl (lv_at hl 0 rfl) ?_
  refine lv_bipush (v := 29) zx zb dX11_isHome_1 (by decide) ?_
  refine lv_iload_n zx zb dX11_isHome_3 rfl (lv_at hl 1 rfl) ?_
  refine r_iadd (v := (nI (29 + i))) S (nI_add 29 i) dX11_isHome_4 ?_
  refine r_iald (v := (f (29 + i))) S G 0 rfl (vp_in_nI (by omega) (by omega)) (congrArg f (nI_clamp (by omega))) dX11_isHome_5 ?_
  refine lv_if_le (tgt := 13) zx zb dX11_isHome_6 (by decide) (fun c_2 => ?_) (fun c_2 => ?_)
  · refine lv_iconst (v := 0) zx zb dX11_isHome_13 (by decide) ?_
    exact e_int S zr zlk (by decide) G () [] rfl rfl (Or.inl rfl) (Or.inr ⟨rfl, Int32.not_lt.mpr c_2⟩) dX11_isHome_14
  · refine lv_iconst (v := 1) zx zb dX11_isHome_9 (by decide) ?_
    refine lv_goto (tgt := 14) zx zb dX11_isHome_10 (by decide) ?_
    exact e_int S zr zlk (by decide) G () [] rfl rfl (Or.inl rfl) (Or.inl ⟨rfl, Int32.not_le.mp c_2⟩) dX11_isHome_14
set_option maxHeartbeats 4000000 in
set_option maxRecDepth 100000 in
theorem y_drop (l : Launch) (X : EX) (ha : Nat) (N : Nat) (f : Nat → Int32) (c0 : Nat) (c1 : Nat) (c2 : Nat) (c3 : Nat) (c4 : Nat) (i : Nat) (hI_f : InA f c0 c1 c2 c3 c4) (hN : 55 ≤ N) (hM : N ≤ 1000) (h6 : i < 6) (sz : Nat) : Met l yX11_drop wsX11_drop ({ frames := 0, cells := 0, slots := 0, locals := 0 } : Room) (pE X [.ref ha, .int (nI i)] ([(ha, .inl (X.2.1, N, .inl f))]) sz) (qV (fun (u : (Nat → Int32)) => InA u c0 c1 c2 c3 c4 ∧ (u = drpM f i)) X (fun (u : (Nat → Int32)) => [(ha, .inl (X.2.1, N, .inl u))]) ([(ha, .inl (X.2.1, N, .inl f))]) sz) 0 0 (va_A ([(ha, .inl (X.2.1, N, .inl f))]) sz) := by
  refine mk_met (B := (va_A ([(ha, .inl (X.2.1, N, .inl f))]) sz)) (A := (va_A ([(ha, .inl (X.2.1, N, .inl f))]) sz)) (cc := cX11_drop) (maxL := 2) (ret := none) (by decide) rfl (Nat.le_of_ble_eq_true rfl) k_w k_a (fun p e s m below meth c S zr zlk znm zsz G ls hl => ?_)
  have S : CallFix p m c cX11_drop 2 s _ wsX11_drop RX11 := S
  have zx := S.1
  have zb := S.2.1
  have hl : lv_has ls 2 [(0, .ref ha), (1, .int (nI i))] := hl
  have hO_f := hI_f.2
  obtain ⟨hm0_f, hm1_f, hm2_f, hm3_f, hm4_f⟩ := hO_f
  refine lv_aload_n zx zb dX11_drop_0 rfl (lv_at hl 0 rfl) ?_
  refine lv_bipush (v := 17) zx zb dX11_drop_1 (by decide) ?_
  refine lv_iload_n zx zb dX11_drop_3 rfl (lv_at hl 1 rfl) ?_
  refine r_iadd (v := (nI (17 + i))) S (nI_add 17 i) dX11_drop_4 ?_
  refine lv_dup2_11 zx zb dX11_drop_5 rfl rfl ?_
  refine r_iald (v := (f (17 + i))) S G 0 rfl (vp_in_nI (by omega) (by omega)) (congrArg f (nI_clamp (by omega))) dX11_drop_6 ?_
  refine lv_aload_n zx zb dX11_drop_7 rfl (lv_at hl 0 rfl) ?_
  refine lv_bipush (v := 17) zx zb dX11_drop_8 (by decide) ?_
  refine lv_iload_n zx zb dX11_drop_10 rfl (lv_at hl 1 rfl) ?_
  refine r_iadd (v := (nI (17 + i))) S (nI_add 17 i) dX11_drop_11 ?_
  refine r_iald (v := (f (17 + i))) S G 0 rfl (vp_in_nI (by omega) (by omega)) (congrArg f (nI_clamp (by omega))) dX11_drop_12 ?_
  refine lv_bipush (v := 99) zx zb dX11_drop_13 (by decide) ?_
  refine k_cutW (PP := fun Wx => ∀ (x_4 : Int32) (H : Heap) (locs : List Loc) (ls : Array Slot), (x_4 = (if 99 ≤ (f (17 + i)) then 0 else 1)) → wd X (va_A ([(ha, .inl (X.2.1, N, .inl f))]) sz) (va_A ([(ha, .inl (X.2.1, N, .inl f))]) sz) s ([(ha, .inl (X.2.1, N, .inl f))]) H locs → lv_has ls 2 [(0, .ref ha), (1, .int (nI i))] → Wx (F0 m 23 ls [.int x_4, .int (f (17 + i)), .int (nI (17 + i)), .ref ha]) H locs) ?_ ?_
  · intro join_15
    refine lv_icmp_ge (tgt := 22) zx zb dX11_drop_15 (by decide) (fun c_3 => ?_) (fun c_3 => ?_)
    · refine lv_iconst (v := 0) zx zb dX11_drop_22 (by decide) ?_
      exact join_15 0 _ _ _ (if_pos c_3).symm G hl
    · refine lv_iconst (v := 1) zx zb dX11_drop_18 (by decide) ?_
      refine lv_goto (tgt := 23) zx zb dX11_drop_19 (by decide) ?_
      exact join_15 1 _ _ _ (if_neg c_3).symm G hl
  · intro x_4 H locs ls hk_x_4 G hl
    subst hk_x_4
    refine r_iadd (v := ((f (17 + i)) + (if 99 ≤ (f (17 + i)) then 0 else 1))) S rfl dX11_drop_23 ?_
    refine r_iast S G 0 rfl (vp_in_nI (by omega) (by omega)) dX11_drop_24 (fun H locs G => ?_)
    obtain ⟨f_5, hI_f_5, hE_f_5, G⟩ : ∃ f_5 : Nat → Int32, InA f_5 c0 c1 c2 c3 c4 ∧ f_5 = upd f (nI (17 + i)).toNatClampNeg ((f (17 + i)) + (if 99 ≤ (f (17 + i)) then 0 else 1)) ∧ wd X (va_A ([(ha, .inl (X.2.1, N, .inl f))]) sz) (va_A ([(ha, .inl (X.2.1, N, .inl f))]) sz) s ([(ha, .inl (X.2.1, N, .inl f_5))]) H locs := ⟨_, InA_o hI_f (by rw [nI_clamp (by omega)]; omega), rfl, G⟩
    refine lv_aload_n zx zb dX11_drop_25 rfl (lv_at hl 0 rfl) ?_
    refine lv_bipush (v := 23) zx zb dX11_drop_26 (by decide) ?_
    refine lv_iload_n zx zb dX11_drop_28 rfl (lv_at hl 1 rfl) ?_
    refine r_iadd (v := (nI (23 + i))) S (nI_add 23 i) dX11_drop_29 ?_
    refine lv_iconst (v := 2) zx zb dX11_drop_30 (by decide) ?_
    refine r_iast S G 0 rfl (vp_in_nI (by omega) (by omega)) dX11_drop_31 (fun H locs G => ?_)
    obtain ⟨f_6, hI_f_6, hE_f_6, G⟩ : ∃ f_6 : Nat → Int32, InA f_6 c0 c1 c2 c3 c4 ∧ f_6 = upd f_5 (nI (23 + i)).toNatClampNeg 2 ∧ wd X (va_A ([(ha, .inl (X.2.1, N, .inl f))]) sz) (va_A ([(ha, .inl (X.2.1, N, .inl f))]) sz) s ([(ha, .inl (X.2.1, N, .inl f_6))]) H locs := ⟨_, InA_o hI_f_5 (by rw [nI_clamp (by omega)]; omega), rfl, G⟩
    exact e_void S zr zlk G (f_6) [0] rfl rfl (Or.inr rfl) (⟨hI_f_6, by rw [hE_f_6, hE_f_5, nI_clamp (by first | omega | (dsimp only; omega)), nI_clamp (by first | omega | (dsimp only; omega))]; rfl⟩) dX11_drop_32
set_option maxHeartbeats 4000000 in
set_option maxRecDepth 100000 in
theorem y_goOne (l : Launch) (X : EX) (ha : Nat) (N : Nat) (f : Nat → Int32) (c0 : Nat) (c1 : Nat) (c2 : Nat) (c3 : Nat) (c4 : Nat) (i : Nat) (hI_f : InA f c0 c1 c2 c3 c4) (hN : 55 ≤ N) (hM : N ≤ 1000) (h6 : i < 6) (sz : Nat) : Met l yX11_goOne wsX11_goOne ({ frames := 2, cells := 0, slots := 0, locals := 48 } : Room) (pE X [.ref ha, .int (nI i), .int 0] ([(ha, .inl (X.2.1, N, .inl f))]) sz) (qV (fun (u : (Nat → Int32)) => InA u c0 c1 c2 c3 c4 ∧ (u = goM f i)) X (fun (u : (Nat → Int32)) => [(ha, .inl (X.2.1, N, .inl u))]) ([(ha, .inl (X.2.1, N, .inl f))]) sz) 0 0 (va_A ([(ha, .inl (X.2.1, N, .inl f))]) sz) := by
  refine mk_met (B := (va_A ([(ha, .inl (X.2.1, N, .inl f))]) sz)) (A := (va_A ([(ha, .inl (X.2.1, N, .inl f))]) sz)) (cc := cX11_goOne) (maxL := 5) (ret := none) (by decide) rfl (Nat.le_of_ble_eq_true rfl) k_w k_a (fun p e s m below meth c S zr zlk znm zsz G ls hl => ?_)
  have S : CallFix p m c cX11_goOne 5 s _ wsX11_goOne RX11 := S
  have zx := S.1
  have zb := S.2.1
  have hl : lv_has ls 5 [(0, .ref ha), (1, .int (nI i)), (2, .int 0)] := hl
  have hO_f := hI_f.2
  obtain ⟨hm0_f, hm1_f, hm2_f, hm3_f, hm4_f⟩ := hO_f
  refine lv_aload_n zx zb dX11_goOne_0 rfl (lv_at hl 0 rfl) ?_
  refine lv_bipush (v := 35) zx zb dX11_goOne_1 (by decide) ?_
  refine r_iald (v := (f 35)) S G 0 rfl (k_vpc (c := 35) rfl (by omega) (by omega)) rfl dX11_goOne_3 ?_
  refine lv_istore_n (lv' := [(3, .int (f 35)), (0, .ref ha), (1, .int (nI i)), (2, .int 0)]) zx zb dX11_goOne_4 rfl hl (by decide) rfl (fun ls hl => ?_)
  refine lv_aload_n zx zb dX11_goOne_5 rfl (lv_at hl 1 rfl) ?_
  refine lv_iload_n zx zb dX11_goOne_6 rfl (lv_at hl 2 rfl) ?_
  refine lv_iload_n zx zb dX11_goOne_7 rfl (lv_at hl 0 rfl) ?_
  refine o_ri (cells' := 0) (slots' := 0) G rfl rfl (n_S (As := [.ref ha, .int (nI i), .int (f 35)]) (rest := []) S G (y_runsOf l X ha N f c0 c1 c2 c3 c4 i (f 35) hI_f (by omega) (by omega) (by omega) s.heap.size) gX11_goOne_X11_runsOf rfl rfl rfl hdS_X11_runsOf ⟨Nat.le_of_ble_eq_true rfl, Nat.le_of_ble_eq_true rfl⟩ [0] rfl rfl rfl hl.1 (Nat.le_of_ble_eq_true rfl) dX11_goOne_8 ⟨Nat.le_of_ble_eq_true rfl, Nat.le_of_ble_eq_true rfl⟩) (fun r_2 u_2 H locs hp_2 G => ?_)
  have G : wd X (va_A ([(ha, .inl (X.2.1, N, .inl f))]) sz) (va_A ([(ha, .inl (X.2.1, N, .inl f))]) sz) s ([(ha, .inl (X.2.1, N, .inl f))]) H locs := G
  obtain rfl := hp_2
  refine lv_istore (lv' := [(4, .int (reachP (f (37 + i)) (f (43 + i)) (f 35) (f (11 + i)))), (3, .int (f 35)), (0, .ref ha), (1, .int (nI i)), (2, .int 0)]) zx zb dX11_goOne_11 hl (by decide) rfl (fun ls hl => ?_)
  refine lv_aload_n zx zb dX11_goOne_13 rfl (lv_at hl 2 rfl) ?_
  refine lv_bipush (v := 23) zx zb dX11_goOne_14 (by decide) ?_
  refine lv_iload_n zx zb dX11_goOne_16 rfl (lv_at hl 3 rfl) ?_
  refine r_iadd (v := (nI (23 + i))) S (nI_add 23 i) dX11_goOne_17 ?_
  refine r_iald (v := (f (23 + i))) S G 0 rfl (vp_in_nI (by omega) (by omega)) (congrArg f (nI_clamp (by omega))) dX11_goOne_18 ?_
  refine lv_if_le (tgt := 35) zx zb dX11_goOne_19 (by decide) (fun c_4 => ?_) (fun c_4 => ?_)
  · refine lv_iload_n zx zb dX11_goOne_35 rfl (lv_at hl 4 rfl) ?_
    refine lv_if_ne (tgt := 54) zx zb dX11_goOne_36 (by decide) (fun c_5 => absurd (by decide) c_5) (fun c_5 => ?_)
    refine lv_iload zx zb dX11_goOne_39 (lv_at hl 0 rfl) ?_
    refine lv_aload_n zx zb dX11_goOne_41 rfl (lv_at hl 2 rfl) ?_
    refine lv_bipush (v := 49) zx zb dX11_goOne_42 (by decide) ?_
    refine lv_iload_n zx zb dX11_goOne_44 rfl (lv_at hl 3 rfl) ?_
    refine r_iadd (v := (nI (49 + i))) S (nI_add 49 i) dX11_goOne_45 ?_
    refine r_iald (v := (f (49 + i))) S G 0 rfl (vp_in_nI (by omega) (by omega)) (congrArg f (nI_clamp (by omega))) dX11_goOne_46 ?_
    refine lv_iload_n zx zb dX11_goOne_47 rfl (lv_at hl 1 rfl) ?_
    refine o_ri (cells' := 0) (slots' := 0) G rfl rfl (n_S (As := [.int (f (49 + i)), .int (f 35)]) (rest := [.int (reachP (f (37 + i)) (f (43 + i)) (f 35) (f (11 + i)))]) S G (y_mayAs l X (f (49 + i)) (f 35) H.size) gX11_goOne_X11_mayAs rfl rfl rfl hdS_X11_mayAs ⟨Nat.le_of_ble_eq_true rfl, Nat.le_of_ble_eq_true rfl⟩ [] rfl rfl rfl hl.1 (Nat.le_of_ble_eq_true rfl) dX11_goOne_48 ⟨Nat.le_of_ble_eq_true rfl, Nat.le_of_ble_eq_true rfl⟩) (fun r_7 u_7 H locs hp_7 G => ?_)
    have G : wd X (va_A ([(ha, .inl (X.2.1, N, .inl f))]) sz) (va_A ([(ha, .inl (X.2.1, N, .inl f))]) sz) s ([(ha, .inl (X.2.1, N, .inl f))]) H locs := G
    obtain rfl := hp_7
    refine lv_icmp_le (tgt := 62) zx zb dX11_goOne_51 (by decide) (fun c_8 => ?_) (fun c_8 => ?_)
    · refine lv_aload_n zx zb dX11_goOne_62 rfl (lv_at hl 2 rfl) ?_
      refine lv_iconst (v := 5) zx zb dX11_goOne_63 (by decide) ?_
      refine lv_iload_n zx zb dX11_goOne_64 rfl (lv_at hl 3 rfl) ?_
      refine r_iadd (v := (nI (5 + i))) S (nI_add 5 i) dX11_goOne_65 ?_
      refine lv_dup2_11 zx zb dX11_goOne_66 rfl rfl ?_
      refine r_iald (v := (f (5 + i))) S G 0 rfl (vp_in_nI (by omega) (by omega)) (congrArg f (nI_clamp (by omega))) dX11_goOne_67 ?_
      refine lv_iload zx zb dX11_goOne_68 (lv_at hl 0 rfl) ?_
      refine r_iadd (v := ((f (5 + i)) + (reachP (f (37 + i)) (f (43 + i)) (f 35) (f (11 + i))))) S rfl dX11_goOne_70 ?_
      refine r_iast S G 0 rfl (vp_in_nI (by omega) (by omega)) dX11_goOne_71 (fun H locs G => ?_)
      obtain ⟨f_10, hI_f_10, hE_f_10, G⟩ : ∃ f_10 : Nat → Int32, InA f_10 c0 c1 c2 c3 c4 ∧ f_10 = upd f (nI (5 + i)).toNatClampNeg ((f (5 + i)) + (reachP (f (37 + i)) (f (43 + i)) (f 35) (f (11 + i)))) ∧ wd X (va_A ([(ha, .inl (X.2.1, N, .inl f))]) sz) (va_A ([(ha, .inl (X.2.1, N, .inl f))]) sz) s ([(ha, .inl (X.2.1, N, .inl f_10))]) H locs := ⟨_, InA_o hI_f (by rw [nI_clamp (by omega)]; omega), rfl, G⟩
      refine lv_aload_n zx zb dX11_goOne_72 rfl (lv_at hl 2 rfl) ?_
      refine lv_bipush (v := 29) zx zb dX11_goOne_73 (by decide) ?_
      refine lv_iload_n zx zb dX11_goOne_75 rfl (lv_at hl 3 rfl) ?_
      refine r_iadd (v := (nI (29 + i))) S (nI_add 29 i) dX11_goOne_76 ?_
      refine lv_aload_n zx zb dX11_goOne_77 rfl (lv_at hl 2 rfl) ?_
      refine lv_iconst (v := 5) zx zb dX11_goOne_78 (by decide) ?_
      refine lv_iload_n zx zb dX11_goOne_79 rfl (lv_at hl 3 rfl) ?_
      refine r_iadd (v := (nI (5 + i))) S (nI_add 5 i) dX11_goOne_80 ?_
      refine r_iald (v := (f_10 (5 + i))) S G 0 rfl (vp_in_nI (by omega) (by omega)) (congrArg f_10 (nI_clamp (by omega))) dX11_goOne_81 ?_
      refine lv_aload_n zx zb dX11_goOne_82 rfl (lv_at hl 2 rfl) ?_
      refine lv_bipush (v := 36) zx zb dX11_goOne_83 (by decide) ?_
      refine r_iald (v := (f_10 36)) S G 0 rfl (k_vpc (c := 36) rfl (by omega) (by omega)) rfl dX11_goOne_85 ?_
      refine k_cutW (PP := fun Wx => ∀ (x_14 : Int32) (H : Heap) (locs : List Loc) (ls : Array Slot), (x_14 = (if (f_10 (5 + i)) < (f_10 36) then 0 else (f 35))) → wd X (va_A ([(ha, .inl (X.2.1, N, .inl f))]) sz) (va_A ([(ha, .inl (X.2.1, N, .inl f))]) sz) s ([(ha, .inl (X.2.1, N, .inl f_10))]) H locs → lv_has ls 5 [(4, .int (reachP (f (37 + i)) (f (43 + i)) (f 35) (f (11 + i)))), (3, .int (f 35)), (0, .ref ha), (1, .int (nI i)), (2, .int 0)] → Wx (F0 m 94 ls [.int x_14, .int (nI (29 + i)), .ref ha]) H locs) ?_ ?_
      · intro join_86
        refine lv_icmp_lt (tgt := 93) zx zb dX11_goOne_86 (by decide) (fun c_13 => ?_) (fun c_13 => ?_)
        · refine lv_iconst (v := 0) zx zb dX11_goOne_93 (by decide) ?_
          exact join_86 0 _ _ _ (if_pos c_13).symm G hl
        · refine lv_iload_n zx zb dX11_goOne_89 rfl (lv_at hl 1 rfl) ?_
          refine lv_goto (tgt := 94) zx zb dX11_goOne_90 (by decide) ?_
          exact join_86 (f 35) _ _ _ (if_neg c_13).symm G hl
      · intro x_14 H locs ls hk_x_14 G hl
        subst hk_x_14
        refine r_iast S G 0 rfl (vp_in_nI (by omega) (by omega)) dX11_goOne_94 (fun H locs G => ?_)
        obtain ⟨f_15, hI_f_15, hE_f_15, G⟩ : ∃ f_15 : Nat → Int32, InA f_15 c0 c1 c2 c3 c4 ∧ f_15 = upd f_10 (nI (29 + i)).toNatClampNeg (if (f_10 (5 + i)) < (f_10 36) then 0 else (f 35)) ∧ wd X (va_A ([(ha, .inl (X.2.1, N, .inl f))]) sz) (va_A ([(ha, .inl (X.2.1, N, .inl f))]) sz) s ([(ha, .inl (X.2.1, N, .inl f_15))]) H locs := ⟨_, InA_o hI_f_10 (by rw [nI_clamp (by omega)]; omega), rfl, G⟩
        exact e_void S zr zlk G (f_15) [0] rfl rfl (Or.inr rfl) (⟨hI_f_15, by have e1 : f_10 = upd f (5 + i) (f (5 + i) + farM f i) := (by rw [hE_f_10, nI_clamp (by first | omega | (dsimp only; omega))]; rfl); have e2 : f_10 (5 + i) = f (5 + i) + farM f i := (by rw [e1]; exact upd_eq); have e3 : f_10 36 = f 36 := (by rw [e1]; exact upd_ne (by first | omega | (dsimp only; omega))); rw [hE_f_15, nI_clamp (by first | omega | (dsimp only; omega)), e2, e3, e1]; exact ((if_pos c_4).trans (if_pos c_8)).symm⟩) dX11_goOne_95
    · refine lv_aload_n zx zb dX11_goOne_54 rfl (lv_at hl 2 rfl) ?_
      refine lv_iload_n zx zb dX11_goOne_55 rfl (lv_at hl 3 rfl) ?_
      refine b_wv (cells' := 0) (slots' := 0) (wr := []) G rfl rfl [0] [] rfl rfl rfl rfl (n_S (As := [.ref ha, .int (nI i)]) (rest := []) S G (y_drop l X ha N f c0 c1 c2 c3 c4 i hI_f (by omega) (by omega) (by omega) H.size) gX11_goOne_X11_drop rfl rfl rfl hdS_X11_drop ⟨Nat.le_of_ble_eq_true rfl, Nat.le_of_ble_eq_true rfl⟩ [0] rfl rfl rfl hl.1 (Nat.le_of_ble_eq_true rfl) dX11_goOne_56 ⟨Nat.le_of_ble_eq_true rfl, Nat.le_of_ble_eq_true rfl⟩) (fun u_16 H locs hp_16 G => ?_)
      obtain ⟨f_16, rfl⟩ : ∃ z, z = u_16 := ⟨_, rfl⟩
      obtain ⟨hI_f_16, hq_16⟩ := hp_16
      have G : wd X (va_A ([(ha, .inl (X.2.1, N, .inl f))]) sz) (va_A ([(ha, .inl (X.2.1, N, .inl f))]) sz) s ([(ha, .inl (X.2.1, N, .inl f_16))]) H locs := G
      refine lv_goto (tgt := 95) zx zb dX11_goOne_59 (by decide) ?_
      exact e_void S zr zlk G (f_16) [0] rfl rfl (Or.inr rfl) (⟨hI_f_16, by rw [hq_16]; exact ((if_pos c_4).trans (if_neg c_8)).symm⟩) dX11_goOne_95
  · refine lv_aload_n zx zb dX11_goOne_22 rfl (lv_at hl 2 rfl) ?_
    refine lv_bipush (v := 23) zx zb dX11_goOne_23 (by decide) ?_
    refine lv_iload_n zx zb dX11_goOne_25 rfl (lv_at hl 3 rfl) ?_
    refine r_iadd (v := (nI (23 + i))) S (nI_add 23 i) dX11_goOne_26 ?_
    refine lv_dup2_11 zx zb dX11_goOne_27 rfl rfl ?_
    refine r_iald (v := (f (23 + i))) S G 0 rfl (vp_in_nI (by omega) (by omega)) (congrArg f (nI_clamp (by omega))) dX11_goOne_28 ?_
    refine lv_iconst (v := 1) zx zb dX11_goOne_29 (by decide) ?_
    refine r_isub (v := ((f (23 + i)) - 1)) S rfl dX11_goOne_30 ?_
    refine r_iast S G 0 rfl (vp_in_nI (by omega) (by omega)) dX11_goOne_31 (fun H locs G => ?_)
    obtain ⟨f_18, hI_f_18, hE_f_18, G⟩ : ∃ f_18 : Nat → Int32, InA f_18 c0 c1 c2 c3 c4 ∧ f_18 = upd f (nI (23 + i)).toNatClampNeg ((f (23 + i)) - 1) ∧ wd X (va_A ([(ha, .inl (X.2.1, N, .inl f))]) sz) (va_A ([(ha, .inl (X.2.1, N, .inl f))]) sz) s ([(ha, .inl (X.2.1, N, .inl f_18))]) H locs := ⟨_, InA_o hI_f (by rw [nI_clamp (by omega)]; omega), rfl, G⟩
    refine lv_goto (tgt := 95) zx zb dX11_goOne_32 (by decide) ?_
    exact e_void S zr zlk G (f_18) [0] rfl rfl (Or.inr rfl) (⟨hI_f_18, by rw [hE_f_18, nI_clamp (by first | omega | (dsimp only; omega))]; exact (if_neg c_4).symm⟩) dX11_goOne_95
set_option maxHeartbeats 4000000 in
set_option maxRecDepth 100000 in
theorem y_goTick (l : Launch) (X : EX) (ha : Nat) (N : Nat) (f : Nat → Int32) (c0 : Nat) (c1 : Nat) (c2 : Nat) (c3 : Nat) (c4 : Nat) (sv : Nat → Int32) (dv : Nat → Int32) (hI_f : InA f c0 c1 c2 c3 c4) (hN : 55 ≤ N) (hM : N ≤ 1000) (hR : RepM sv dv c0 f) (h0 : 0 < dv 1 + 1) (sz : Nat) : Met l yX11_goTick wsX11_goTick ({ frames := 3, cells := 0, slots := 0, locals := 72 } : Room) (pE X [.ref ha] ([(ha, .inl (X.2.1, N, .inl f))]) sz) (qV (fun (u : (Nat → Int32)) => InA u c0 c1 c2 c3 c4 ∧ (RepM sv (gP sv dv c0) c0 u)) X (fun (u : (Nat → Int32)) => [(ha, .inl (X.2.1, N, .inl u))]) ([(ha, .inl (X.2.1, N, .inl f))]) sz) 0 0 (va_A ([(ha, .inl (X.2.1, N, .inl f))]) sz) := by
  refine mk_met (B := (va_A ([(ha, .inl (X.2.1, N, .inl f))]) sz)) (A := (va_A ([(ha, .inl (X.2.1, N, .inl f))]) sz)) (cc := cX11_goTick) (maxL := 2) (ret := none) (by decide) rfl (Nat.le_of_ble_eq_true rfl) k_w k_a (fun p e s m below meth c S zr zlk znm zsz G ls hl => ?_)
  have S : CallFix p m c cX11_goTick 2 s _ wsX11_goTick RX11 := S
  have zx := S.1
  have zb := S.2.1
  have hl : lv_has ls 2 [(0, .ref ha)] := hl
  have hO_f := hI_f.2
  obtain ⟨hm0_f, hm1_f, hm2_f, hm3_f, hm4_f⟩ := hO_f
  refine lv_aload_n zx zb dX11_goTick_0 rfl (lv_at hl 0 rfl) ?_
  refine lv_bipush (v := 35) zx zb dX11_goTick_1 (by decide) ?_
  refine lv_dup2_11 zx zb dX11_goTick_3 rfl rfl ?_
  refine r_iald (v := (f 35)) S G 0 rfl (k_vpc (c := 35) rfl (by omega) (by omega)) rfl dX11_goTick_4 ?_
  refine lv_iconst (v := 1) zx zb dX11_goTick_5 (by decide) ?_
  refine r_iadd (v := ((f 35) + 1)) S rfl dX11_goTick_6 ?_
  refine r_iast S G 0 rfl (k_vpc (c := 35) rfl (by omega) (by omega)) dX11_goTick_7 (fun H locs G => ?_)
  obtain ⟨f_2, hI_f_2, hE_f_2, G⟩ : ∃ f_2 : Nat → Int32, InA f_2 c0 c1 c2 c3 c4 ∧ f_2 = upd f 35 ((f 35) + 1) ∧ wd X (va_A ([(ha, .inl (X.2.1, N, .inl f))]) sz) (va_A ([(ha, .inl (X.2.1, N, .inl f))]) sz) s ([(ha, .inl (X.2.1, N, .inl f_2))]) H locs := ⟨_, InA_o hI_f (by decide), rfl, G⟩
  refine lv_iconst (v := 0) zx zb dX11_goTick_8 (by decide) ?_
  refine lv_istore_n (lv' := [(1, .int 0), (0, .ref ha)]) zx zb dX11_goTick_9 rfl hl (by decide) rfl (fun ls hl => ?_)
  refine k_loop (P := ∀ (zm : Nat) (n10_1 : Nat) (f10_0 : Nat → Int32) (H : Heap) (locs : List Loc) (ls : Array Slot), ((6 - n10_1) < zm) → (n10_1 ≤ c0 ∧ RepM sv (gK sv dv n10_1) c0 f10_0) → InA f10_0 c0 c1 c2 c3 c4 → (n10_1 ≤ 6) → wd X (va_A ([(ha, .inl (X.2.1, N, .inl f))]) sz) (va_A ([(ha, .inl (X.2.1, N, .inl f))]) sz) s ([(ha, .inl (X.2.1, N, .inl f10_0))]) H locs → lv_has ls 2 [(1, .int (nI n10_1)), (0, .ref ha)] → W p l e _ s m _ below meth c H locs _ _ _ (F0 m 10 ls [])) (fun loop => loop ((6 - 0) + 1) 0 f_2 _ _ _ (by omega) ⟨by omega, by rw [hE_f_2]; exact RepM_t (by omega) hR⟩ hI_f_2 (by omega) G hl) ?_
  intro zm
  induction zm with
  | zero => intro n10_1 f10_0 H locs ls zz q_x0 q_hI_f10_0 q_hk_n10_1 _ _; exact absurd zz (by omega)
  | succ zm ih10 =>
    intro n10_1 f10_0 H locs ls zm_10 hx10_0 hI_f10_0 hk_n10_1 G hl
    refine lv_iload_n zx zb dX11_goTick_10 rfl (lv_at hl 0 rfl) ?_
    refine lv_aload_n zx zb dX11_goTick_11 rfl (lv_at hl 1 rfl) ?_
    refine lv_iconst (v := 0) zx zb dX11_goTick_12 (by decide) ?_
    refine r_iald (v := (nI c0)) S G 0 rfl (k_vpc (c := 0) rfl (by omega) (by omega)) hI_f10_0.1.1 dX11_goTick_13 ?_
    refine lv_icmp_ge (tgt := 37) zx zb dX11_goTick_14 (by decide) (fun c_4 => ?_) (fun c_4 => ?_)
    · have fc_4 := j_le (a := c0) (b := n10_1) (by omega) (by omega) c_4
      exact e_void S zr zlk G (f10_0) [0] rfl rfl (Or.inr rfl) (⟨hI_f10_0, by have e : gP sv dv c0 = gK sv dv n10_1 := (by rw [gP, show c0 = n10_1 from by first | omega | (dsimp only; omega)]); rw [e]; exact hx10_0.2⟩) dX11_goTick_37
    · have fc_4 := j_nle (a := c0) (b := n10_1) (by omega) (by omega) c_4
      refine lv_aload_n zx zb dX11_goTick_17 rfl (lv_at hl 1 rfl) ?_
      refine lv_iload_n zx zb dX11_goTick_18 rfl (lv_at hl 0 rfl) ?_
      refine o_ri (cells' := 0) (slots' := 0) G rfl rfl (n_S (As := [.ref ha, .int (nI n10_1)]) (rest := []) S G (y_isHome l X ha N f10_0 c0 c1 c2 c3 c4 n10_1 hI_f10_0 (by omega) (by omega) (by omega) H.size) gX11_goTick_X11_isHome rfl rfl rfl hdS_X11_isHome ⟨Nat.le_of_ble_eq_true rfl, Nat.le_of_ble_eq_true rfl⟩ [0] rfl rfl rfl hl.1 (Nat.le_of_ble_eq_true rfl) dX11_goTick_19 ⟨Nat.le_of_ble_eq_true rfl, Nat.le_of_ble_eq_true rfl⟩) (fun r_5 u_5 H locs hp_5 G => ?_)
      have G : wd X (va_A ([(ha, .inl (X.2.1, N, .inl f))]) sz) (va_A ([(ha, .inl (X.2.1, N, .inl f))]) sz) s ([(ha, .inl (X.2.1, N, .inl f10_0))]) H locs := G
      rcases hp_5 with ⟨rfl, hh_5⟩ | ⟨rfl, hh_5⟩
      · refine lv_if_ne (tgt := 31) zx zb dX11_goTick_22 (by decide) (fun c_6 => ?_) (fun c_6 => absurd c_6 (by decide))
        refine lv_iinc (v := (nI (n10_1 + 1))) (lv' := [(1, .int (nI (n10_1 + 1))), (0, .ref ha)]) zx zb dX11_goTick_31 hl (k := 0) rfl (nI_add n10_1 1) (by decide) rfl (fun ls hl => ?_)
        refine lv_goto (tgt := 10) zx zb dX11_goTick_34 (by decide) ?_
        exact ih10 (n10_1 + 1) f10_0 _ _ _ (by omega) ⟨by omega, RepM_h (by omega) (by omega) hx10_0.2 hh_5⟩ hI_f10_0 (by omega) G hl
      · refine lv_if_ne (tgt := 31) zx zb dX11_goTick_22 (by decide) (fun c_7 => absurd (by decide) c_7) (fun c_7 => ?_)
        refine lv_aload_n zx zb dX11_goTick_25 rfl (lv_at hl 1 rfl) ?_
        refine lv_iload_n zx zb dX11_goTick_26 rfl (lv_at hl 0 rfl) ?_
        refine lv_iconst (v := 0) zx zb dX11_goTick_27 (by decide) ?_
        refine b_wv (cells' := 0) (slots' := 0) (wr := []) G rfl rfl [0] [] rfl rfl rfl rfl (n_S (As := [.ref ha, .int (nI n10_1), .int 0]) (rest := []) S G (y_goOne l X ha N f10_0 c0 c1 c2 c3 c4 n10_1 hI_f10_0 (by omega) (by omega) (by omega) H.size) gX11_goTick_X11_goOne rfl rfl rfl hdS_X11_goOne ⟨Nat.le_of_ble_eq_true rfl, Nat.le_of_ble_eq_true rfl⟩ [0] rfl rfl rfl hl.1 (Nat.le_of_ble_eq_true rfl) dX11_goTick_28 ⟨Nat.le_of_ble_eq_true rfl, Nat.le_of_ble_eq_true rfl⟩) (fun u_8 H locs hp_8 G => ?_)
        obtain ⟨f_8, rfl⟩ : ∃ z, z = u_8 := ⟨_, rfl⟩
        obtain ⟨hI_f_8, hq_8⟩ := hp_8
        have G : wd X (va_A ([(ha, .inl (X.2.1, N, .inl f))]) sz) (va_A ([(ha, .inl (X.2.1, N, .inl f))]) sz) s ([(ha, .inl (X.2.1, N, .inl f_8))]) H locs := G
        refine lv_iinc (v := (nI (n10_1 + 1))) (lv' := [(1, .int (nI (n10_1 + 1))), (0, .ref ha)]) zx zb dX11_goTick_31 hl (k := 0) rfl (nI_add n10_1 1) (by decide) rfl (fun ls hl => ?_)
        refine lv_goto (tgt := 10) zx zb dX11_goTick_34 (by decide) ?_
        exact ih10 (n10_1 + 1) f_8 _ _ _ (by omega) ⟨by omega, by rw [hq_8]; exact RepM_g (by omega) (by omega) (by rw [gK_1]; exact h0) hx10_0.2 hh_5⟩ hI_f_8 (by omega) G hl
set_option maxHeartbeats 4000000 in
set_option maxRecDepth 100000 in
theorem y_goTicks (l : Launch) (X : EX) (ha : Nat) (N : Nat) (f : Nat → Int32) (c0 : Nat) (c1 : Nat) (c2 : Nat) (c3 : Nat) (c4 : Nat) (z : Nat) (sv : Nat → Int32) (dv : Nat → Int32) (tk : Nat) (hI_f : InA f c0 c1 c2 c3 c4) (hN : 55 ≤ N) (hM : N ≤ 1000) (hz : z ≤ 99) (hR : RepM sv dv c0 f) (ht : dv 1 = nI tk) (hk : tk ≤ 9000) (sz : Nat) : Met l yX11_goTicks wsX11_goTicks ({ frames := 4, cells := 0, slots := 0, locals := 93 } : Room) (pE X [.ref ha, .int (nI z)] ([(ha, .inl (X.2.1, N, .inl f))]) sz) (qV (fun (u : (Nat → Int32)) => InA u c0 c1 c2 c3 c4 ∧ (RepM sv (gI sv c0 dv z) c0 u)) X (fun (u : (Nat → Int32)) => [(ha, .inl (X.2.1, N, .inl u))]) ([(ha, .inl (X.2.1, N, .inl f))]) sz) 0 0 (va_A ([(ha, .inl (X.2.1, N, .inl f))]) sz) := by
  refine mk_met (B := (va_A ([(ha, .inl (X.2.1, N, .inl f))]) sz)) (A := (va_A ([(ha, .inl (X.2.1, N, .inl f))]) sz)) (cc := cX11_goTicks) (maxL := 3) (ret := none) (by decide) rfl (Nat.le_of_ble_eq_true rfl) k_w k_a (fun p e s m below meth c S zr zlk znm zsz G ls hl => ?_)
  have S : CallFix p m c cX11_goTicks 3 s _ wsX11_goTicks RX11 := S
  have zx := S.1
  have zb := S.2.1
  have hl : lv_has ls 3 [(0, .ref ha), (1, .int (nI z))] := hl
  have hO_f := hI_f.2
  obtain ⟨hm0_f, hm1_f, hm2_f, hm3_f, hm4_f⟩ := hO_f
  refine lv_iconst (v := 0) zx zb dX11_goTicks_0 (by decide) ?_
  refine lv_istore_n (lv' := [(2, .int 0), (0, .ref ha), (1, .int (nI z))]) zx zb dX11_goTicks_1 rfl hl (by decide) rfl (fun ls hl => ?_)
  refine k_loop (P := ∀ (zm : Nat) (n2_2 : Nat) (f2_0 : Nat → Int32) (H : Heap) (locs : List Loc) (ls : Array Slot), ((z - n2_2) < zm) → (n2_2 ≤ z ∧ RepM sv (gI sv c0 dv n2_2) c0 f2_0) → InA f2_0 c0 c1 c2 c3 c4 → (n2_2 ≤ z) → wd X (va_A ([(ha, .inl (X.2.1, N, .inl f))]) sz) (va_A ([(ha, .inl (X.2.1, N, .inl f))]) sz) s ([(ha, .inl (X.2.1, N, .inl f2_0))]) H locs → lv_has ls 3 [(2, .int (nI n2_2)), (0, .ref ha), (1, .int (nI z))] → W p l e _ s m _ below meth c H locs _ _ _ (F0 m 2 ls [])) (fun loop => loop ((z - 0) + 1) 0 f _ _ _ (by omega) ⟨by omega, hR⟩ hI_f (by omega) G hl) ?_
  intro zm
  induction zm with
  | zero => intro n2_2 f2_0 H locs ls zz q_x0 q_hI_f2_0 q_hk_n2_2 _ _; exact absurd zz (by omega)
  | succ zm ih2 =>
    intro n2_2 f2_0 H locs ls zm_2 hx2_0 hI_f2_0 hk_n2_2 G hl
    refine lv_iload_n zx zb dX11_goTicks_2 rfl (lv_at hl 0 rfl) ?_
    refine lv_iload_n zx zb dX11_goTicks_3 rfl (lv_at hl 2 rfl) ?_
    have h35 := hx2_0.2.1.2
    rw [gI_1 ht] at h35
    refine lv_icmp_ge (tgt := 27) zx zb dX11_goTicks_4 (by decide) (fun c_1 => ?_) (fun c_1 => ?_)
    · have fc_1 := j_le (a := z) (b := n2_2) (by omega) (by omega) c_1
      exact e_void S zr zlk G (f2_0) [0] rfl rfl (Or.inr rfl) (⟨hI_f2_0, by rw [show z = n2_2 from by first | omega | (dsimp only; omega)]; exact hx2_0.2⟩) dX11_goTicks_27
    · have fc_1 := j_nle (a := z) (b := n2_2) (by omega) (by omega) c_1
      refine lv_aload_n zx zb dX11_goTicks_7 rfl (lv_at hl 1 rfl) ?_
      refine lv_bipush (v := 35) zx zb dX11_goTicks_8 (by decide) ?_
      refine r_iald (v := (f2_0 35)) S G 0 rfl (k_vpc (c := 35) rfl (by omega) (by omega)) rfl dX11_goTicks_10 ?_
      refine lv_sipush (v := 9999) zx zb dX11_goTicks_11 (by decide) ?_
      refine lv_icmp_ge (tgt := 27) zx zb dX11_goTicks_14 (by decide) (fun c_3 => absurd c_3 (fun q => absurd (j_le (a := 9999) (by omega) (by omega) (show nI 9999 ≤ nI _ from h35 ▸ q)) (by omega))) (fun c_3 => ?_)
      refine lv_aload_n zx zb dX11_goTicks_17 rfl (lv_at hl 1 rfl) ?_
      refine b_wv (cells' := 0) (slots' := 0) (wr := []) G rfl rfl [0] [] rfl rfl rfl rfl (n_S (As := [.ref ha]) (rest := []) S G (y_goTick l X ha N f2_0 c0 c1 c2 c3 c4 sv (gI sv c0 dv n2_2) hI_f2_0 (by omega) (by omega) hx2_0.2 (by rw [gI_1 ht]; exact k_tp (by omega)) H.size) gX11_goTicks_X11_goTick rfl rfl rfl hdS_X11_goTick ⟨Nat.le_of_ble_eq_true rfl, Nat.le_of_ble_eq_true rfl⟩ [0] rfl rfl rfl hl.1 (Nat.le_of_ble_eq_true rfl) dX11_goTicks_18 ⟨Nat.le_of_ble_eq_true rfl, Nat.le_of_ble_eq_true rfl⟩) (fun u_4 H locs hp_4 G => ?_)
      obtain ⟨f_4, rfl⟩ : ∃ z, z = u_4 := ⟨_, rfl⟩
      obtain ⟨hI_f_4, hq_4⟩ := hp_4
      have G : wd X (va_A ([(ha, .inl (X.2.1, N, .inl f))]) sz) (va_A ([(ha, .inl (X.2.1, N, .inl f))]) sz) s ([(ha, .inl (X.2.1, N, .inl f_4))]) H locs := G
      refine lv_iinc (v := (nI (n2_2 + 1))) (lv' := [(2, .int (nI (n2_2 + 1))), (0, .ref ha), (1, .int (nI z))]) zx zb dX11_goTicks_21 hl (k := 0) rfl (nI_add n2_2 1) (by decide) rfl (fun ls hl => ?_)
      refine lv_goto (tgt := 2) zx zb dX11_goTicks_24 (by decide) ?_
      exact ih2 (n2_2 + 1) f_4 _ _ _ (by omega) ⟨by omega, hq_4⟩ hI_f_4 (by omega) G hl
set_option maxHeartbeats 4000000 in
set_option maxRecDepth 100000 in
theorem y_layOne (l : Launch) (X : EX) (ha : Nat) (N : Nat) (f : Nat → Int32) (c0 : Nat) (c1 : Nat) (c2 : Nat) (c3 : Nat) (c4 : Nat) (x1 : Int32) (x2 : Int32) (x3 : Int32) (hI_f : InA f c0 c1 c2 c3 c4) (hN : 55 ≤ N) (hM : N ≤ 1000) (h5 : c0 < 6) (sz : Nat) : Met l yX11_layOne wsX11_layOne ({ frames := 0, cells := 0, slots := 0, locals := 0 } : Room) (pE X [.ref ha, .int x1, .int x2, .int x3] ([(ha, .inl (X.2.1, N, .inl f))]) sz) (qV (fun (u : (Nat → Int32) × (Nat)) => InA u.1 u.2 c1 c2 c3 c4 ∧ (u.1 = layM f c0 x1 x2 x3 ∧ u.2 = c0 + 1)) X (fun (u : (Nat → Int32) × (Nat)) => [(ha, .inl (X.2.1, N, .inl u.1))]) ([(ha, .inl (X.2.1, N, .inl f))]) sz) 0 0 (va_A ([(ha, .inl (X.2.1, N, .inl f))]) sz) := by
  refine mk_met (B := (va_A ([(ha, .inl (X.2.1, N, .inl f))]) sz)) (A := (va_A ([(ha, .inl (X.2.1, N, .inl f))]) sz)) (cc := cX11_layOne) (maxL := 5) (ret := none) (by decide) rfl (Nat.le_of_ble_eq_true rfl) k_w k_a (fun p e s m below meth c S zr zlk znm zsz G ls hl => ?_)
  have S : CallFix p m c cX11_layOne 5 s _ wsX11_layOne RX11 := S
  have zx := S.1
  have zb := S.2.1
  have hl : lv_has ls 5 [(0, .ref ha), (1, .int x1), (2, .int x2), (3, .int x3)] := hl
  have hO_f := hI_f.2
  obtain ⟨hm0_f, hm1_f, hm2_f, hm3_f, hm4_f⟩ := hO_f
  refine lv_aload_n zx zb dX11_layOne_0 rfl (lv_at hl 0 rfl) ?_
  refine lv_iconst (v := 0) zx zb dX11_layOne_1 (by decide) ?_
  refine r_iald (v := (nI c0)) S G 0 rfl (k_vpc (c := 0) rfl (by omega) (by omega)) hI_f.1.1 dX11_layOne_2 ?_
  refine lv_istore (lv' := [(4, .int (nI c0)), (0, .ref ha), (1, .int x1), (2, .int x2), (3, .int x3)]) zx zb dX11_layOne_3 hl (by decide) rfl (fun ls hl => ?_)
  refine lv_aload_n zx zb dX11_layOne_5 rfl (lv_at hl 1 rfl) ?_
  refine lv_bipush (v := 37) zx zb dX11_layOne_6 (by decide) ?_
  refine lv_iload zx zb dX11_layOne_8 (lv_at hl 0 rfl) ?_
  refine r_iadd (v := (nI (37 + c0))) S (nI_add 37 c0) dX11_layOne_10 ?_
  refine lv_iload_n zx zb dX11_layOne_11 rfl (lv_at hl 2 rfl) ?_
  refine r_iast S G 0 rfl (vp_in_nI (by omega) (by omega)) dX11_layOne_12 (fun H locs G => ?_)
  obtain ⟨f_2, hI_f_2, hE_f_2, G⟩ : ∃ f_2 : Nat → Int32, InA f_2 c0 c1 c2 c3 c4 ∧ f_2 = upd f (nI (37 + c0)).toNatClampNeg x1 ∧ wd X (va_A ([(ha, .inl (X.2.1, N, .inl f))]) sz) (va_A ([(ha, .inl (X.2.1, N, .inl f))]) sz) s ([(ha, .inl (X.2.1, N, .inl f_2))]) H locs := ⟨_, InA_o hI_f (by rw [nI_clamp (by omega)]; omega), rfl, G⟩
  refine lv_aload_n zx zb dX11_layOne_13 rfl (lv_at hl 1 rfl) ?_
  refine lv_bipush (v := 43) zx zb dX11_layOne_14 (by decide) ?_
  refine lv_iload zx zb dX11_layOne_16 (lv_at hl 0 rfl) ?_
  refine r_iadd (v := (nI (43 + c0))) S (nI_add 43 c0) dX11_layOne_18 ?_
  refine lv_iload_n zx zb dX11_layOne_19 rfl (lv_at hl 3 rfl) ?_
  refine r_iast S G 0 rfl (vp_in_nI (by omega) (by omega)) dX11_layOne_20 (fun H locs G => ?_)
  obtain ⟨f_3, hI_f_3, hE_f_3, G⟩ : ∃ f_3 : Nat → Int32, InA f_3 c0 c1 c2 c3 c4 ∧ f_3 = upd f_2 (nI (43 + c0)).toNatClampNeg x2 ∧ wd X (va_A ([(ha, .inl (X.2.1, N, .inl f))]) sz) (va_A ([(ha, .inl (X.2.1, N, .inl f))]) sz) s ([(ha, .inl (X.2.1, N, .inl f_3))]) H locs := ⟨_, InA_o hI_f_2 (by rw [nI_clamp (by omega)]; omega), rfl, G⟩
  refine lv_aload_n zx zb dX11_layOne_21 rfl (lv_at hl 1 rfl) ?_
  refine lv_bipush (v := 49) zx zb dX11_layOne_22 (by decide) ?_
  refine lv_iload zx zb dX11_layOne_24 (lv_at hl 0 rfl) ?_
  refine r_iadd (v := (nI (49 + c0))) S (nI_add 49 c0) dX11_layOne_26 ?_
  refine lv_iload_n zx zb dX11_layOne_27 rfl (lv_at hl 4 rfl) ?_
  refine r_iast S G 0 rfl (vp_in_nI (by omega) (by omega)) dX11_layOne_28 (fun H locs G => ?_)
  obtain ⟨f_4, hI_f_4, hE_f_4, G⟩ : ∃ f_4 : Nat → Int32, InA f_4 c0 c1 c2 c3 c4 ∧ f_4 = upd f_3 (nI (49 + c0)).toNatClampNeg x3 ∧ wd X (va_A ([(ha, .inl (X.2.1, N, .inl f))]) sz) (va_A ([(ha, .inl (X.2.1, N, .inl f))]) sz) s ([(ha, .inl (X.2.1, N, .inl f_4))]) H locs := ⟨_, InA_o hI_f_3 (by rw [nI_clamp (by omega)]; omega), rfl, G⟩
  refine lv_aload_n zx zb dX11_layOne_29 rfl (lv_at hl 1 rfl) ?_
  refine lv_bipush (v := 11) zx zb dX11_layOne_30 (by decide) ?_
  refine lv_iload zx zb dX11_layOne_32 (lv_at hl 0 rfl) ?_
  refine r_iadd (v := (nI (11 + c0))) S (nI_add 11 c0) dX11_layOne_34 ?_
  refine lv_iconst (v := 4) zx zb dX11_layOne_35 (by decide) ?_
  refine r_iast S G 0 rfl (vp_in_nI (by omega) (by omega)) dX11_layOne_36 (fun H locs G => ?_)
  obtain ⟨f_5, hI_f_5, hE_f_5, G⟩ : ∃ f_5 : Nat → Int32, InA f_5 c0 c1 c2 c3 c4 ∧ f_5 = upd f_4 (nI (11 + c0)).toNatClampNeg 4 ∧ wd X (va_A ([(ha, .inl (X.2.1, N, .inl f))]) sz) (va_A ([(ha, .inl (X.2.1, N, .inl f))]) sz) s ([(ha, .inl (X.2.1, N, .inl f_5))]) H locs := ⟨_, InA_o hI_f_4 (by rw [nI_clamp (by omega)]; omega), rfl, G⟩
  refine lv_aload_n zx zb dX11_layOne_37 rfl (lv_at hl 1 rfl) ?_
  refine lv_iconst (v := 0) zx zb dX11_layOne_38 (by decide) ?_
  refine lv_dup2_11 zx zb dX11_layOne_39 rfl rfl ?_
  refine r_iald (v := (nI c0)) S G 0 rfl (k_vpc (c := 0) rfl (by omega) (by omega)) hI_f_5.1.1 dX11_layOne_40 ?_
  refine lv_iconst (v := 1) zx zb dX11_layOne_41 (by decide) ?_
  refine r_iadd (v := (nI (c0 + 1))) S (nI_add c0 1) dX11_layOne_42 ?_
  refine r_iast S G 0 rfl (k_vpc (c := 0) rfl (by omega) (by omega)) dX11_layOne_43 (fun H locs G => ?_)
  obtain ⟨f_7, c_8, hI_f_7, hE_c_8, hE_f_7, G⟩ : ∃ (f_7 : Nat → Int32) (c_8 : Nat), InA f_7 c_8 c1 c2 c3 c4 ∧ c_8 = (c0 + 1) ∧ f_7 = upd f_5 0 (nI (c0 + 1)) ∧ wd X (va_A ([(ha, .inl (X.2.1, N, .inl f))]) sz) (va_A ([(ha, .inl (X.2.1, N, .inl f))]) sz) s ([(ha, .inl (X.2.1, N, .inl f_7))]) H locs := ⟨_, (c0 + 1), InA_n0 (n := (c0 + 1)) hI_f_5 (by omega), rfl, rfl, G⟩
  exact e_void S zr zlk G (f_7, c_8) [0] rfl rfl (Or.inr rfl) (⟨hI_f_7, ⟨by rw [hE_f_7, hE_f_5, hE_f_4, hE_f_3, hE_f_2, nI_clamp (by first | omega | (dsimp only; omega)), nI_clamp (by first | omega | (dsimp only; omega)), nI_clamp (by first | omega | (dsimp only; omega)), nI_clamp (by first | omega | (dsimp only; omega))]; rfl, by first | omega | (dsimp only; omega)⟩⟩) dX11_layOne_44
set_option maxHeartbeats 4000000 in
set_option maxRecDepth 100000 in
theorem y_isSmall (l : Launch) (X : EX) (x : Int32) (sz : Nat) : Met l yX11_isSmall wsX11_isSmall ({ frames := 1, cells := 0, slots := 0, locals := 25 } : Room) (pE X [.int x] ([]) sz) (qI (fun (r : Int32) (u : Unit) => (r = 1 ∧ lqL x = true) ∨ (r = 0 ∧ ¬ lqL x = true)) X (fun (u : Unit) => []) [] sz) 0 0 (va_A [] sz) := by
  refine mk_met (B := (fun _ => True)) (A := (va_A [] sz)) (cc := cX11_isSmall) (maxL := 1) (ret := (some .boolean)) (by decide) rfl (Nat.le_of_ble_eq_true rfl) k_ro k_a (fun p e s m below meth c S zr zlk znm zsz G ls hl => ?_)
  have S : CallFix p m c cX11_isSmall 1 s _ wsX11_isSmall RX11 := S
  have zx := S.1
  have zb := S.2.1
  have hl : lv_has ls 1 [(0, .int x)] := hl
  refine lv_iload_n zx zb dX11_isSmall_0 rfl (lv_at hl 0 rfl) ?_
  refine lv_i2l (v := (Int32.toInt64 x)) zx zb dX11_isSmall_1 rfl ?_
  refine lv_ldc2 zx zb S.2.2.2.1 (S.2.2.2.2 _ mm_X11_isSmall_c209) dX11_isSmall_2 ?_
  refine k_ld (v := (Int32.toInt64 97)) (by decide) ?_
  refine lv_ldc2 zx zb S.2.2.2.1 (S.2.2.2.2 _ mm_X11_isSmall_c211) dX11_isSmall_5 ?_
  refine k_ld (v := (Int32.toInt64 122)) (by decide) ?_
  refine o_ri (cells' := 0) (slots' := 0) G rfl rfl (n_S (As := [.long (Int32.toInt64 x), .long (Int32.toInt64 97), .long (Int32.toInt64 122)]) (rest := []) S G (m_in l X x 97 122 s.heap.size) gX11_isSmall_X11_in rfl rfl rfl hdS_X11_in ⟨Nat.le_of_ble_eq_true rfl, Nat.le_of_ble_eq_true rfl⟩ [] rfl rfl rfl hl.1 (Nat.le_of_ble_eq_true rfl) dX11_isSmall_8 ⟨Nat.le_of_ble_eq_true rfl, Nat.le_of_ble_eq_true rfl⟩) (fun r_1 u_1 H locs hp_1 G => ?_)
  have G : wd X (fun _ => True) (va_A [] sz) s ([]) H locs := G
  rcases hp_1 with ⟨rfl, hw_1⟩ | ⟨rfl, hw_1⟩
  · obtain ⟨j_1, ⟨ja_1, jb_1⟩, rfl⟩ := k_natR (a := 97) (b := 122) hw_1 rfl rfl (by decide) (by decide)
    exact e_int S zr zlk (by decide) G () [] rfl rfl (Or.inl rfl) (Or.inl ⟨rfl, lqL_t.mpr hw_1⟩) dX11_isSmall_11
  · exact e_int S zr zlk (by decide) G () [] rfl rfl (Or.inl rfl) (Or.inr ⟨rfl, fun h => hw_1 (lqL_t.mp h)⟩) dX11_isSmall_11
set_option maxHeartbeats 4000000 in
set_option maxRecDepth 100000 in
theorem y_isFigure (l : Launch) (X : EX) (x : Int32) (sz : Nat) : Met l yX11_isFigure wsX11_isFigure ({ frames := 1, cells := 0, slots := 0, locals := 25 } : Room) (pE X [.int x] ([]) sz) (qI (fun (r : Int32) (u : Unit) => (r = 1 ∧ lqF x = true) ∨ (r = 0 ∧ ¬ lqF x = true)) X (fun (u : Unit) => []) [] sz) 0 0 (va_A [] sz) := by
  refine mk_met (B := (fun _ => True)) (A := (va_A [] sz)) (cc := cX11_isFigure) (maxL := 1) (ret := (some .boolean)) (by decide) rfl (Nat.le_of_ble_eq_true rfl) k_ro k_a (fun p e s m below meth c S zr zlk znm zsz G ls hl => ?_)
  have S : CallFix p m c cX11_isFigure 1 s _ wsX11_isFigure RX11 := S
  have zx := S.1
  have zb := S.2.1
  have hl : lv_has ls 1 [(0, .int x)] := hl
  refine lv_iload_n zx zb dX11_isFigure_0 rfl (lv_at hl 0 rfl) ?_
  refine lv_i2l (v := (Int32.toInt64 x)) zx zb dX11_isFigure_1 rfl ?_
  refine lv_ldc2 zx zb S.2.2.2.1 (S.2.2.2.2 _ mm_X11_isFigure_c213) dX11_isFigure_2 ?_
  refine k_ld (v := (Int32.toInt64 48)) (by decide) ?_
  refine lv_ldc2 zx zb S.2.2.2.1 (S.2.2.2.2 _ mm_X11_isFigure_c215) dX11_isFigure_5 ?_
  refine k_ld (v := (Int32.toInt64 57)) (by decide) ?_
  refine o_ri (cells' := 0) (slots' := 0) G rfl rfl (n_S (As := [.long (Int32.toInt64 x), .long (Int32.toInt64 48), .long (Int32.toInt64 57)]) (rest := []) S G (m_in l X x 48 57 s.heap.size) gX11_isFigure_X11_in rfl rfl rfl hdS_X11_in ⟨Nat.le_of_ble_eq_true rfl, Nat.le_of_ble_eq_true rfl⟩ [] rfl rfl rfl hl.1 (Nat.le_of_ble_eq_true rfl) dX11_isFigure_8 ⟨Nat.le_of_ble_eq_true rfl, Nat.le_of_ble_eq_true rfl⟩) (fun r_1 u_1 H locs hp_1 G => ?_)
  have G : wd X (fun _ => True) (va_A [] sz) s ([]) H locs := G
  rcases hp_1 with ⟨rfl, hw_1⟩ | ⟨rfl, hw_1⟩
  · obtain ⟨j_1, ⟨ja_1, jb_1⟩, rfl⟩ := k_natR (a := 48) (b := 57) hw_1 rfl rfl (by decide) (by decide)
    exact e_int S zr zlk (by decide) G () [] rfl rfl (Or.inl rfl) (Or.inl ⟨rfl, lqF_t.mpr hw_1⟩) dX11_isFigure_11
  · exact e_int S zr zlk (by decide) G () [] rfl rfl (Or.inl rfl) (Or.inr ⟨rfl, fun h => hw_1 (lqF_t.mp h)⟩) dX11_isFigure_11
set_option maxHeartbeats 4000000 in
set_option maxRecDepth 100000 in
theorem y_lookAt (l : Launch) (X : EX) (m0 : Nat) (ma : Nat → Nat) (la : Int64) (lb : Int64) (n : Nat) (t : Nat → Nat) (v : Nat → Int32) (fd : Nat → Int32) (o : Nat) (hI_n : n ≤ 150) (hI_t : InT t) (ho : o ≤ n) (sz : Nat) : Met l yX11_lookAt wsX11_lookAt ({ frames := 2, cells := 0, slots := 0, locals := 45 } : Room) (pE X [.ref m0, .int (nI o)] (@HAppend.hAppend va_W va_W va_W _ (mW m0 ma la lb n t v) ([((ma 10), .inl (X.2.1, 150, .inl fd))])) sz) (qV (fun (u : (Nat → Nat) × (Nat → Int32)) => InT u.1 ∧ (tkM fd n u.1 u.2 (scanP qB fd n o))) X (fun (u : (Nat → Nat) × (Nat → Int32)) => @HAppend.hAppend va_W va_W va_W _ (mW m0 ma la lb n u.1 u.2) ([((ma 10), .inl (X.2.1, 150, .inl fd))])) (@HAppend.hAppend va_W va_W va_W _ (mW m0 ma la lb n t v) ([((ma 10), .inl (X.2.1, 150, .inl fd))])) sz) 0 0 (va_A (@HAppend.hAppend va_W va_W va_W _ (mW m0 ma la lb n t v) ([((ma 10), .inl (X.2.1, 150, .inl fd))])) sz) := by
  refine mk_met (B := (va_A (@HAppend.hAppend va_W va_W va_W _ (mW m0 ma la lb n t v) ([((ma 10), .inl (X.2.1, 150, .inl fd))])) sz)) (A := (va_A (@HAppend.hAppend va_W va_W va_W _ (mW m0 ma la lb n t v) ([((ma 10), .inl (X.2.1, 150, .inl fd))])) sz)) (cc := cX11_lookAt) (maxL := 5) (ret := none) (by decide) rfl (Nat.le_of_ble_eq_true rfl) k_w k_a (fun p e s m below meth c S zr zlk znm zsz G ls hl => ?_)
  have S : CallFix p m c cX11_lookAt 5 s _ wsX11_lookAt RX11 := S
  have zx := S.1
  have zb := S.2.1
  have hl : lv_has ls 5 [(0, .ref m0), (1, .int (nI o))] := hl
  have hO_t := hI_t
  obtain ⟨ht0_t, ht1_t⟩ := hO_t
  refine lv_aload_n zx zb dX11_lookAt_0 rfl (lv_at hl 0 rfl) ?_
  refine lv_iload_n zx zb dX11_lookAt_1 rfl (lv_at hl 1 rfl) ?_
  refine r_put (C := RX11) (T := TX11) (N := 18) (ci := 9) (v := .int (nI o)) S in_X11_lookAt_X11 tyX11_ok nmX11 G 0 rfl rfl 12 (by decide) lk_X11_lookAt_217 rfl (vp_nar_int _) rfl (Nat.le_of_ble_eq_true rfl) dX11_lookAt_2 (fun H locs G => ?_)
  obtain ⟨t_1, hI_t_1, ⟨hE_t_1_0, hE_t_1_1⟩, G⟩ : ∃ t_1 : Nat → Nat, InT t_1 ∧ (t_1 0 = o ∧ t_1 1 = t 1) ∧ wd X (va_A (@HAppend.hAppend va_W va_W va_W _ (mW m0 ma la lb n t v) ([((ma 10), .inl (X.2.1, 150, .inl fd))])) sz) (va_A (@HAppend.hAppend va_W va_W va_W _ (mW m0 ma la lb n t v) ([((ma 10), .inl (X.2.1, 150, .inl fd))])) sz) s (@HAppend.hAppend va_W va_W va_W _ (mW m0 ma la lb n t_1 v) ([((ma 10), .inl (X.2.1, 150, .inl fd))])) H locs := ⟨upN t 0 o, ⟨(by show o ≤ 150; omega), ht1_t⟩, ⟨rfl, rfl⟩, G⟩
  have hO_t_1 := hI_t_1
  obtain ⟨ht0_t_1, ht1_t_1⟩ := hO_t_1
  refine k_loop (P := ∀ (zm : Nat) (t5_0 : Nat → Nat) (H : Heap) (locs : List Loc) (ls : Array Slot), ((150 - t5_0 0) < zm) → ((o ≤ t5_0 0 ∧ t5_0 0 ≤ n) ∧ scanP qB fd n (t5_0 0) = scanP qB fd n o) → InT t5_0 → wd X (va_A (@HAppend.hAppend va_W va_W va_W _ (mW m0 ma la lb n t v) ([((ma 10), .inl (X.2.1, 150, .inl fd))])) sz) (va_A (@HAppend.hAppend va_W va_W va_W _ (mW m0 ma la lb n t v) ([((ma 10), .inl (X.2.1, 150, .inl fd))])) sz) s (@HAppend.hAppend va_W va_W va_W _ (mW m0 ma la lb n t5_0 v) ([((ma 10), .inl (X.2.1, 150, .inl fd))])) H locs → lv_has ls 5 [(0, .ref m0), (1, .int (nI o))] → W p l e _ s m _ below meth c H locs _ _ _ (F0 m 5 ls [])) (fun loop => loop ((150 - t_1 0) + 1) t_1 _ _ _ (by omega) ⟨by omega, by rw [hE_t_1_0]⟩ hI_t_1 G hl) ?_
  intro zm
  induction zm with
  | zero => intro t5_0 H locs ls zz q_x0 q_hI_t5_0 _ _; exact absurd zz (by omega)
  | succ zm ih5 =>
    intro t5_0 H locs ls zm_5 hx5_0 hI_t5_0 G hl
    have hO_t5_0 := hI_t5_0
    obtain ⟨ht0_t5_0, ht1_t5_0⟩ := hO_t5_0
    refine lv_aload_n zx zb dX11_lookAt_5 rfl (lv_at hl 0 rfl) ?_
    refine r_get (C := RX11) (T := TX11) (N := 18) (ci := 9) (v := .int (nI (t5_0 0))) S in_X11_lookAt_X11 G 0 rfl rfl 12 (by decide) lk_X11_lookAt_217 rfl dX11_lookAt_6 ?_
    refine lv_aload_n zx zb dX11_lookAt_9 rfl (lv_at hl 0 rfl) ?_
    refine r_get (C := RX11) (T := TX11) (N := 18) (ci := 9) (v := .int (nI n)) S in_X11_lookAt_X11 G 0 rfl rfl 11 (by decide) lk_X11_lookAt_205 rfl dX11_lookAt_10 ?_
    refine lv_icmp_ge (tgt := 43) zx zb dX11_lookAt_13 (by decide) (fun c_2 => ?_) (fun c_2 => ?_)
    · have fc_2 := j_le (a := n) (b := (t5_0 0)) (by omega) (by omega) c_2
      refine lv_aload_n zx zb dX11_lookAt_43 rfl (lv_at hl 0 rfl) ?_
      refine lv_iconst (v := 0) zx zb dX11_lookAt_44 (by decide) ?_
      refine r_put (C := RX11) (T := TX11) (N := 18) (ci := 9) (v := .int 0) S in_X11_lookAt_X11 tyX11_ok nmX11 G 0 rfl rfl 13 (by decide) lk_X11_lookAt_220 rfl (vp_nar_int _) rfl (Nat.le_of_ble_eq_true rfl) dX11_lookAt_45 (fun H locs G => ?_)
      obtain ⟨t_3, hI_t_3, ⟨hE_t_3_1, hE_t_3_0⟩, G⟩ : ∃ t_3 : Nat → Nat, InT t_3 ∧ (t_3 1 = 0 ∧ t_3 0 = t5_0 0) ∧ wd X (va_A (@HAppend.hAppend va_W va_W va_W _ (mW m0 ma la lb n t v) ([((ma 10), .inl (X.2.1, 150, .inl fd))])) sz) (va_A (@HAppend.hAppend va_W va_W va_W _ (mW m0 ma la lb n t v) ([((ma 10), .inl (X.2.1, 150, .inl fd))])) sz) s (@HAppend.hAppend va_W va_W va_W _ (mW m0 ma la lb n t_3 v) ([((ma 10), .inl (X.2.1, 150, .inl fd))])) H locs := ⟨upN t5_0 1 0, ⟨ht0_t5_0, (by show 0 ≤ 150; omega)⟩, ⟨rfl, rfl⟩, G⟩
      have hO_t_3 := hI_t_3
      obtain ⟨ht0_t_3, ht1_t_3⟩ := hO_t_3
      refine lv_aload_n zx zb dX11_lookAt_48 rfl (lv_at hl 0 rfl) ?_
      refine lv_iconst (v := 0) zx zb dX11_lookAt_49 (by decide) ?_
      refine r_put (C := RX11) (T := TX11) (N := 18) (ci := 9) (v := .int 0) S in_X11_lookAt_X11 tyX11_ok nmX11 G 0 rfl rfl 14 (by decide) lk_X11_lookAt_223 rfl (vp_nar_int _) rfl (Nat.le_of_ble_eq_true rfl) dX11_lookAt_50 (fun H locs G => ?_)
      obtain ⟨v_4, ⟨hE_v_4_0, hE_v_4_1⟩, G⟩ : ∃ v_4 : Nat → Int32, (v_4 0 = 0 ∧ v_4 1 = v 1) ∧ wd X (va_A (@HAppend.hAppend va_W va_W va_W _ (mW m0 ma la lb n t v) ([((ma 10), .inl (X.2.1, 150, .inl fd))])) sz) (va_A (@HAppend.hAppend va_W va_W va_W _ (mW m0 ma la lb n t v) ([((ma 10), .inl (X.2.1, 150, .inl fd))])) sz) s (@HAppend.hAppend va_W va_W va_W _ (mW m0 ma la lb n t_3 v_4) ([((ma 10), .inl (X.2.1, 150, .inl fd))])) H locs := ⟨upd v 0 0, ⟨rfl, rfl⟩, G⟩
      refine lv_aload_n zx zb dX11_lookAt_53 rfl (lv_at hl 0 rfl) ?_
      refine lv_iconst (v := 0) zx zb dX11_lookAt_54 (by decide) ?_
      refine r_put (C := RX11) (T := TX11) (N := 18) (ci := 9) (v := .int 0) S in_X11_lookAt_X11 tyX11_ok nmX11 G 0 rfl rfl 15 (by decide) lk_X11_lookAt_226 rfl (vp_nar_int _) rfl (Nat.le_of_ble_eq_true rfl) dX11_lookAt_55 (fun H locs G => ?_)
      obtain ⟨v_5, ⟨hE_v_5_1, hE_v_5_0⟩, G⟩ : ∃ v_5 : Nat → Int32, (v_5 1 = 0 ∧ v_5 0 = v_4 0) ∧ wd X (va_A (@HAppend.hAppend va_W va_W va_W _ (mW m0 ma la lb n t v) ([((ma 10), .inl (X.2.1, 150, .inl fd))])) sz) (va_A (@HAppend.hAppend va_W va_W va_W _ (mW m0 ma la lb n t v) ([((ma 10), .inl (X.2.1, 150, .inl fd))])) sz) s (@HAppend.hAppend va_W va_W va_W _ (mW m0 ma la lb n t_3 v_5) ([((ma 10), .inl (X.2.1, 150, .inl fd))])) H locs := ⟨upd v_4 1 0, ⟨rfl, rfl⟩, G⟩
      have hta : t_3 0 = (t5_0 0) := by omega
      have hs : scanP qB fd n o = (t5_0 0) := hx5_0.2.symm.trans (scan_e (fun h => absurd h.1 (by omega)))
      refine lv_aload_n zx zb dX11_lookAt_58 rfl (lv_at hl 0 rfl) ?_
      refine r_get (C := RX11) (T := TX11) (N := 18) (ci := 9) (v := .int (nI (t_3 0))) S in_X11_lookAt_X11 G 0 rfl rfl 12 (by decide) lk_X11_lookAt_217 rfl dX11_lookAt_59 ?_
      refine lv_aload_n zx zb dX11_lookAt_62 rfl (lv_at hl 0 rfl) ?_
      refine r_get (C := RX11) (T := TX11) (N := 18) (ci := 9) (v := .int (nI n)) S in_X11_lookAt_X11 G 0 rfl rfl 11 (by decide) lk_X11_lookAt_205 rfl dX11_lookAt_63 ?_
      refine lv_icmp_ne (tgt := 70) zx zb dX11_lookAt_66 (by decide) (fun c_6 => absurd (congrArg nI (by omega)) c_6) (fun c_6 => ?_)
      exact e_void S zr zlk G (t_3, v_5) [0, 1] rfl rfl (Or.inr rfl) (⟨hI_t_3, by rw [hs]; have hn : ¬ (t5_0 0) < n := (by first | omega | (dsimp only; omega)); exact ⟨by first | omega | (dsimp only; omega), by rw [(tok_end hn).1]; first | omega | (dsimp only; omega), (hE_v_5_0.trans (hE_v_4_0)).trans (tok_end hn).2.symm, fun h => absurd (h.symm.trans (tok_end hn).2) (by decide), by first | omega | (dsimp only; omega)⟩⟩) dX11_lookAt_69
    · have fc_2 := j_nle (a := n) (b := (t5_0 0)) (by omega) (by omega) c_2
      refine lv_aload_n zx zb dX11_lookAt_16 rfl (lv_at hl 0 rfl) ?_
      refine r_get (C := RX11) (T := TX11) (N := 18) (ci := 9) (v := .ref (ma 10)) S in_X11_lookAt_X11 G 0 rfl rfl 10 (by decide) lk_X11_lookAt_39 rfl dX11_lookAt_17 ?_
      refine lv_aload_n zx zb dX11_lookAt_20 rfl (lv_at hl 0 rfl) ?_
      refine r_get (C := RX11) (T := TX11) (N := 18) (ci := 9) (v := .int (nI (t5_0 0))) S in_X11_lookAt_X11 G 0 rfl rfl 12 (by decide) lk_X11_lookAt_217 rfl dX11_lookAt_21 ?_
      refine r_iald (v := (fd (t5_0 0))) S G 1 rfl (vp_in_nI (by omega) (by decide)) (congrArg fd (nI_clamp (by omega))) dX11_lookAt_24 ?_
      refine lv_bipush (v := 32) zx zb dX11_lookAt_25 (by decide) ?_
      refine lv_icmp_ne (tgt := 43) zx zb dX11_lookAt_27 (by decide) (fun c_8 => ?_) (fun c_8 => ?_)
      · refine lv_aload_n zx zb dX11_lookAt_43 rfl (lv_at hl 0 rfl) ?_
        refine lv_iconst (v := 0) zx zb dX11_lookAt_44 (by decide) ?_
        refine r_put (C := RX11) (T := TX11) (N := 18) (ci := 9) (v := .int 0) S in_X11_lookAt_X11 tyX11_ok nmX11 G 0 rfl rfl 13 (by decide) lk_X11_lookAt_220 rfl (vp_nar_int _) rfl (Nat.le_of_ble_eq_true rfl) dX11_lookAt_45 (fun H locs G => ?_)
        obtain ⟨t_9, hI_t_9, ⟨hE_t_9_1, hE_t_9_0⟩, G⟩ : ∃ t_9 : Nat → Nat, InT t_9 ∧ (t_9 1 = 0 ∧ t_9 0 = t5_0 0) ∧ wd X (va_A (@HAppend.hAppend va_W va_W va_W _ (mW m0 ma la lb n t v) ([((ma 10), .inl (X.2.1, 150, .inl fd))])) sz) (va_A (@HAppend.hAppend va_W va_W va_W _ (mW m0 ma la lb n t v) ([((ma 10), .inl (X.2.1, 150, .inl fd))])) sz) s (@HAppend.hAppend va_W va_W va_W _ (mW m0 ma la lb n t_9 v) ([((ma 10), .inl (X.2.1, 150, .inl fd))])) H locs := ⟨upN t5_0 1 0, ⟨ht0_t5_0, (by show 0 ≤ 150; omega)⟩, ⟨rfl, rfl⟩, G⟩
        have hO_t_9 := hI_t_9
        obtain ⟨ht0_t_9, ht1_t_9⟩ := hO_t_9
        refine lv_aload_n zx zb dX11_lookAt_48 rfl (lv_at hl 0 rfl) ?_
        refine lv_iconst (v := 0) zx zb dX11_lookAt_49 (by decide) ?_
        refine r_put (C := RX11) (T := TX11) (N := 18) (ci := 9) (v := .int 0) S in_X11_lookAt_X11 tyX11_ok nmX11 G 0 rfl rfl 14 (by decide) lk_X11_lookAt_223 rfl (vp_nar_int _) rfl (Nat.le_of_ble_eq_true rfl) dX11_lookAt_50 (fun H locs G => ?_)
        obtain ⟨v_10, ⟨hE_v_10_0, hE_v_10_1⟩, G⟩ : ∃ v_10 : Nat → Int32, (v_10 0 = 0 ∧ v_10 1 = v 1) ∧ wd X (va_A (@HAppend.hAppend va_W va_W va_W _ (mW m0 ma la lb n t v) ([((ma 10), .inl (X.2.1, 150, .inl fd))])) sz) (va_A (@HAppend.hAppend va_W va_W va_W _ (mW m0 ma la lb n t v) ([((ma 10), .inl (X.2.1, 150, .inl fd))])) sz) s (@HAppend.hAppend va_W va_W va_W _ (mW m0 ma la lb n t_9 v_10) ([((ma 10), .inl (X.2.1, 150, .inl fd))])) H locs := ⟨upd v 0 0, ⟨rfl, rfl⟩, G⟩
        refine lv_aload_n zx zb dX11_lookAt_53 rfl (lv_at hl 0 rfl) ?_
        refine lv_iconst (v := 0) zx zb dX11_lookAt_54 (by decide) ?_
        refine r_put (C := RX11) (T := TX11) (N := 18) (ci := 9) (v := .int 0) S in_X11_lookAt_X11 tyX11_ok nmX11 G 0 rfl rfl 15 (by decide) lk_X11_lookAt_226 rfl (vp_nar_int _) rfl (Nat.le_of_ble_eq_true rfl) dX11_lookAt_55 (fun H locs G => ?_)
        obtain ⟨v_11, ⟨hE_v_11_1, hE_v_11_0⟩, G⟩ : ∃ v_11 : Nat → Int32, (v_11 1 = 0 ∧ v_11 0 = v_10 0) ∧ wd X (va_A (@HAppend.hAppend va_W va_W va_W _ (mW m0 ma la lb n t v) ([((ma 10), .inl (X.2.1, 150, .inl fd))])) sz) (va_A (@HAppend.hAppend va_W va_W va_W _ (mW m0 ma la lb n t v) ([((ma 10), .inl (X.2.1, 150, .inl fd))])) sz) s (@HAppend.hAppend va_W va_W va_W _ (mW m0 ma la lb n t_9 v_11) ([((ma 10), .inl (X.2.1, 150, .inl fd))])) H locs := ⟨upd v_10 1 0, ⟨rfl, rfl⟩, G⟩
        have hta : t_9 0 = (t5_0 0) := by omega
        have hs : scanP qB fd n o = (t5_0 0) := hx5_0.2.symm.trans (scan_e (fun h => c_8 (qB_t.mp h.2)))
        refine lv_aload_n zx zb dX11_lookAt_58 rfl (lv_at hl 0 rfl) ?_
        refine r_get (C := RX11) (T := TX11) (N := 18) (ci := 9) (v := .int (nI (t_9 0))) S in_X11_lookAt_X11 G 0 rfl rfl 12 (by decide) lk_X11_lookAt_217 rfl dX11_lookAt_59 ?_
        refine lv_aload_n zx zb dX11_lookAt_62 rfl (lv_at hl 0 rfl) ?_
        refine r_get (C := RX11) (T := TX11) (N := 18) (ci := 9) (v := .int (nI n)) S in_X11_lookAt_X11 G 0 rfl rfl 11 (by decide) lk_X11_lookAt_205 rfl dX11_lookAt_63 ?_
        refine lv_icmp_ne (tgt := 70) zx zb dX11_lookAt_66 (by decide) (fun c_12 => ?_) (fun c_12 => absurd c_12 (fun q => absurd (j_eq (by omega) (by omega) q) (by omega)))
        refine lv_aload_n zx zb dX11_lookAt_70 rfl (lv_at hl 0 rfl) ?_
        refine r_get (C := RX11) (T := TX11) (N := 18) (ci := 9) (v := .ref (ma 10)) S in_X11_lookAt_X11 G 0 rfl rfl 10 (by decide) lk_X11_lookAt_39 rfl dX11_lookAt_71 ?_
        refine lv_aload_n zx zb dX11_lookAt_74 rfl (lv_at hl 0 rfl) ?_
        refine r_get (C := RX11) (T := TX11) (N := 18) (ci := 9) (v := .int (nI (t_9 0))) S in_X11_lookAt_X11 G 0 rfl rfl 12 (by decide) lk_X11_lookAt_217 rfl dX11_lookAt_75 ?_
        refine r_iald (v := (fd (t_9 0))) S G 1 rfl (vp_in_nI (by omega) (by decide)) (congrArg fd (nI_clamp (by omega))) dX11_lookAt_78 ?_
        refine lv_istore_n (lv' := [(2, .int (fd (t_9 0))), (0, .ref m0), (1, .int (nI o))]) zx zb dX11_lookAt_79 rfl hl (by decide) rfl (fun ls hl => ?_)
        refine lv_aload_n zx zb dX11_lookAt_80 rfl (lv_at hl 1 rfl) ?_
        refine lv_iload_n zx zb dX11_lookAt_81 rfl (lv_at hl 0 rfl) ?_
        refine o_ri (cells' := 0) (slots' := 0) G rfl rfl (n_S (As := [.int (fd (t_9 0))]) (rest := [.ref m0]) S G (y_isSmall l X (fd (t_9 0)) H.size) gX11_lookAt_X11_isSmall rfl rfl rfl hdS_X11_isSmall ⟨Nat.le_of_ble_eq_true rfl, Nat.le_of_ble_eq_true rfl⟩ [] rfl rfl rfl hl.1 (Nat.le_of_ble_eq_true rfl) dX11_lookAt_82 ⟨Nat.le_of_ble_eq_true rfl, Nat.le_of_ble_eq_true rfl⟩) (fun r_14 u_14 H locs hp_14 G => ?_)
        have G : wd X (va_A (@HAppend.hAppend va_W va_W va_W _ (mW m0 ma la lb n t v) ([((ma 10), .inl (X.2.1, 150, .inl fd))])) sz) (va_A (@HAppend.hAppend va_W va_W va_W _ (mW m0 ma la lb n t v) ([((ma 10), .inl (X.2.1, 150, .inl fd))])) sz) s (@HAppend.hAppend va_W va_W va_W _ (mW m0 ma la lb n t_9 v_11) ([((ma 10), .inl (X.2.1, 150, .inl fd))])) H locs := G
        rcases hp_14 with ⟨rfl, hl_14⟩ | ⟨rfl, hl_14⟩
        · refine lv_if_eq (tgt := 92) zx zb dX11_lookAt_85 (by decide) (fun c_15 => absurd c_15 (by decide)) (fun c_15 => ?_)
          refine lv_iconst (v := 1) zx zb dX11_lookAt_88 (by decide) ?_
          refine lv_goto (tgt := 114) zx zb dX11_lookAt_89 (by decide) ?_
          refine r_put (C := RX11) (T := TX11) (N := 18) (ci := 9) (v := .int 1) S in_X11_lookAt_X11 tyX11_ok nmX11 G 0 rfl rfl 14 (by decide) lk_X11_lookAt_223 rfl (vp_nar_int _) rfl (Nat.le_of_ble_eq_true rfl) dX11_lookAt_114 (fun H locs G => ?_)
          obtain ⟨v_16, ⟨hE_v_16_0, hE_v_16_1⟩, G⟩ : ∃ v_16 : Nat → Int32, (v_16 0 = 1 ∧ v_16 1 = v_11 1) ∧ wd X (va_A (@HAppend.hAppend va_W va_W va_W _ (mW m0 ma la lb n t v) ([((ma 10), .inl (X.2.1, 150, .inl fd))])) sz) (va_A (@HAppend.hAppend va_W va_W va_W _ (mW m0 ma la lb n t v) ([((ma 10), .inl (X.2.1, 150, .inl fd))])) sz) s (@HAppend.hAppend va_W va_W va_W _ (mW m0 ma la lb n t_9 v_16) ([((ma 10), .inl (X.2.1, 150, .inl fd))])) H locs := ⟨upd v_11 0 1, ⟨rfl, rfl⟩, G⟩
          refine lv_aload_n zx zb dX11_lookAt_117 rfl (lv_at hl 1 rfl) ?_
          refine lv_iconst (v := 1) zx zb dX11_lookAt_118 (by decide) ?_
          refine r_put (C := RX11) (T := TX11) (N := 18) (ci := 9) (v := .int 1) S in_X11_lookAt_X11 tyX11_ok nmX11 G 0 rfl rfl 13 (by decide) lk_X11_lookAt_220 rfl (vp_nar_int _) rfl (Nat.le_of_ble_eq_true rfl) dX11_lookAt_119 (fun H locs G => ?_)
          obtain ⟨t_17, hI_t_17, ⟨hE_t_17_1, hE_t_17_0⟩, G⟩ : ∃ t_17 : Nat → Nat, InT t_17 ∧ (t_17 1 = 1 ∧ t_17 0 = t_9 0) ∧ wd X (va_A (@HAppend.hAppend va_W va_W va_W _ (mW m0 ma la lb n t v) ([((ma 10), .inl (X.2.1, 150, .inl fd))])) sz) (va_A (@HAppend.hAppend va_W va_W va_W _ (mW m0 ma la lb n t v) ([((ma 10), .inl (X.2.1, 150, .inl fd))])) sz) s (@HAppend.hAppend va_W va_W va_W _ (mW m0 ma la lb n t_17 v_16) ([((ma 10), .inl (X.2.1, 150, .inl fd))])) H locs := ⟨upN t_9 1 1, ⟨ht0_t_9, (by show 1 ≤ 150; omega)⟩, ⟨rfl, rfl⟩, G⟩
          have hO_t_17 := hI_t_17
          obtain ⟨ht0_t_17, ht1_t_17⟩ := hO_t_17
          refine lv_aload_n zx zb dX11_lookAt_122 rfl (lv_at hl 1 rfl) ?_
          refine r_get (C := RX11) (T := TX11) (N := 18) (ci := 9) (v := .int (v_16 0)) S in_X11_lookAt_X11 G 0 rfl rfl 14 (by decide) lk_X11_lookAt_223 rfl dX11_lookAt_123 ?_
          refine lv_iconst (v := 3) zx zb dX11_lookAt_126 (by decide) ?_
          refine lv_icmp_ge (tgt := 134) zx zb dX11_lookAt_127 (by decide) (fun c_18 => absurd c_18 (by rw [hE_v_16_0]; decide)) (fun c_18 => ?_)
          refine lv_iconst (v := 1) zx zb dX11_lookAt_130 (by decide) ?_
          refine lv_goto (tgt := 135) zx zb dX11_lookAt_131 (by decide) ?_
          refine lv_istore_n (lv' := [(3, .int 1), (2, .int (fd (t_9 0))), (0, .ref m0), (1, .int (nI o))]) zx zb dX11_lookAt_135 rfl hl (by decide) rfl (fun ls hl => ?_)
          refine k_loop (P := ∀ (zm : Nat) (t136_0 : Nat → Nat) (H : Heap) (locs : List Loc) (ls : Array Slot), ((150 - t136_0 1) < zm) → ((t136_0 0 = (t5_0 0) ∧ 1 ≤ t136_0 1 ∧ t136_0 0 + t136_0 1 ≤ n) ∧ scanP lqL fd n (t136_0 0 + t136_0 1) = scanP lqL fd n (t5_0 0)) → InT t136_0 → wd X (va_A (@HAppend.hAppend va_W va_W va_W _ (mW m0 ma la lb n t v) ([((ma 10), .inl (X.2.1, 150, .inl fd))])) sz) (va_A (@HAppend.hAppend va_W va_W va_W _ (mW m0 ma la lb n t v) ([((ma 10), .inl (X.2.1, 150, .inl fd))])) sz) s (@HAppend.hAppend va_W va_W va_W _ (mW m0 ma la lb n t136_0 v_16) ([((ma 10), .inl (X.2.1, 150, .inl fd))])) H locs → lv_has ls 5 [(3, .int 1), (2, .int (fd (t_9 0))), (0, .ref m0), (1, .int (nI o))] → W p l e _ s m _ below meth c H locs _ _ _ (F0 m 136 ls [])) (fun loop => loop ((150 - t_17 1) + 1) t_17 _ _ _ (by omega) ⟨by omega, by rw [show t_17 0 + t_17 1 = (t5_0 0) + 1 from by omega]; exact (scan_s (by omega) (by rw [← hta]; exact hl_14)).symm⟩ hI_t_17 G hl) ?_
          intro zm
          induction zm with
          | zero => intro t136_0 H locs ls zz q_x0 q_hI_t136_0 _ _; exact absurd zz (by omega)
          | succ zm ih136 =>
            intro t136_0 H locs ls zm_136 hx136_0 hI_t136_0 G hl
            have hO_t136_0 := hI_t136_0
            obtain ⟨ht0_t136_0, ht1_t136_0⟩ := hO_t136_0
            refine lv_iload_n zx zb dX11_lookAt_136 rfl (lv_at hl 0 rfl) ?_
            refine lv_if_eq (tgt := 215) zx zb dX11_lookAt_137 (by decide) (fun c_19 => absurd c_19 (by decide)) (fun c_19 => ?_)
            refine lv_aload_n zx zb dX11_lookAt_140 rfl (lv_at hl 2 rfl) ?_
            refine r_get (C := RX11) (T := TX11) (N := 18) (ci := 9) (v := .int (nI (t136_0 0))) S in_X11_lookAt_X11 G 0 rfl rfl 12 (by decide) lk_X11_lookAt_217 rfl dX11_lookAt_141 ?_
            refine lv_aload_n zx zb dX11_lookAt_144 rfl (lv_at hl 2 rfl) ?_
            refine r_get (C := RX11) (T := TX11) (N := 18) (ci := 9) (v := .int (nI (t136_0 1))) S in_X11_lookAt_X11 G 0 rfl rfl 13 (by decide) lk_X11_lookAt_220 rfl dX11_lookAt_145 ?_
            refine r_iadd (v := (nI ((t136_0 0) + (t136_0 1)))) S (nI_add (t136_0 0) (t136_0 1)) dX11_lookAt_148 ?_
            refine lv_aload_n zx zb dX11_lookAt_149 rfl (lv_at hl 2 rfl) ?_
            refine r_get (C := RX11) (T := TX11) (N := 18) (ci := 9) (v := .int (nI n)) S in_X11_lookAt_X11 G 0 rfl rfl 11 (by decide) lk_X11_lookAt_205 rfl dX11_lookAt_150 ?_
            refine lv_icmp_ge (tgt := 215) zx zb dX11_lookAt_153 (by decide) (fun c_20 => ?_) (fun c_20 => ?_)
            · have fc_20 := j_le (a := n) (b := ((t136_0 0) + (t136_0 1))) (by omega) (by omega) c_20
              have hEnd : t136_0 0 + t136_0 1 = scanP lqL fd n (t5_0 0) := (show t136_0 0 + t136_0 1 = t136_0 0 + t136_0 1 from by omega).trans ((scan_e (fun h => absurd h.1 (by omega))).symm.trans hx136_0.2)
              refine lv_iconst (v := 0) zx zb dX11_lookAt_215 (by decide) ?_
              refine lv_istore (lv' := [(4, .int 0), (3, .int 1), (2, .int (fd (t_9 0))), (0, .ref m0), (1, .int (nI o))]) zx zb dX11_lookAt_216 hl (by decide) rfl (fun ls hl => ?_)
              refine lv_iload zx zb dX11_lookAt_218 (lv_at hl 0 rfl) ?_
              refine lv_aload_n zx zb dX11_lookAt_220 rfl (lv_at hl 3 rfl) ?_
              refine r_get (C := RX11) (T := TX11) (N := 18) (ci := 9) (v := .int (nI (t136_0 1))) S in_X11_lookAt_X11 G 0 rfl rfl 13 (by decide) lk_X11_lookAt_220 rfl dX11_lookAt_221 ?_
              refine lv_icmp_ge (tgt := 274) zx zb dX11_lookAt_224 (by decide) (fun c_21 => absurd c_21 (fun q => absurd (j_le (a := (t136_0 1)) (b := 0) (by omega) (by omega) q) (by omega))) (fun c_21 => ?_)
              refine lv_iload zx zb dX11_lookAt_227 (lv_at hl 0 rfl) ?_
              refine lv_iconst (v := 2) zx zb dX11_lookAt_229 (by decide) ?_
              refine lv_icmp_ge (tgt := 274) zx zb dX11_lookAt_230 (by decide) (fun c_22 => absurd c_22 (by decide)) (fun c_22 => ?_)
              refine lv_aload_n zx zb dX11_lookAt_233 rfl (lv_at hl 3 rfl) ?_
              refine r_get (C := RX11) (T := TX11) (N := 18) (ci := 9) (v := .int (v_16 0)) S in_X11_lookAt_X11 G 0 rfl rfl 14 (by decide) lk_X11_lookAt_223 rfl dX11_lookAt_234 ?_
              refine lv_iconst (v := 2) zx zb dX11_lookAt_237 (by decide) ?_
              refine lv_icmp_ne (tgt := 274) zx zb dX11_lookAt_238 (by decide) (fun c_23 => ?_) (fun c_23 => absurd c_23 (by rw [hE_v_16_0]; decide))
              refine lv_aload_n zx zb dX11_lookAt_274 rfl (lv_at hl 3 rfl) ?_
              refine lv_aload_n zx zb dX11_lookAt_275 rfl (lv_at hl 3 rfl) ?_
              refine r_get (C := RX11) (T := TX11) (N := 18) (ci := 9) (v := .int (v_16 0)) S in_X11_lookAt_X11 G 0 rfl rfl 14 (by decide) lk_X11_lookAt_223 rfl dX11_lookAt_276 ?_
              refine lv_iconst (v := 2) zx zb dX11_lookAt_279 (by decide) ?_
              refine lv_icmp_ne (tgt := 295) zx zb dX11_lookAt_280 (by decide) (fun c_24 => ?_) (fun c_24 => absurd c_24 (by rw [hE_v_16_0]; decide))
              refine lv_aload_n zx zb dX11_lookAt_295 rfl (lv_at hl 3 rfl) ?_
              refine r_get (C := RX11) (T := TX11) (N := 18) (ci := 9) (v := .int (v_16 0)) S in_X11_lookAt_X11 G 0 rfl rfl 14 (by decide) lk_X11_lookAt_223 rfl dX11_lookAt_296 ?_
              refine r_put (C := RX11) (T := TX11) (N := 18) (ci := 9) (v := .int (v_16 0)) S in_X11_lookAt_X11 tyX11_ok nmX11 G 0 rfl rfl 14 (by decide) lk_X11_lookAt_223 rfl (vp_nar_int _) rfl (Nat.le_of_ble_eq_true rfl) dX11_lookAt_299 (fun H locs G => ?_)
              obtain ⟨v_25, ⟨hE_v_25_0, hE_v_25_1⟩, G⟩ : ∃ v_25 : Nat → Int32, (v_25 0 = (v_16 0) ∧ v_25 1 = v_16 1) ∧ wd X (va_A (@HAppend.hAppend va_W va_W va_W _ (mW m0 ma la lb n t v) ([((ma 10), .inl (X.2.1, 150, .inl fd))])) sz) (va_A (@HAppend.hAppend va_W va_W va_W _ (mW m0 ma la lb n t v) ([((ma 10), .inl (X.2.1, 150, .inl fd))])) sz) s (@HAppend.hAppend va_W va_W va_W _ (mW m0 ma la lb n t136_0 v_25) ([((ma 10), .inl (X.2.1, 150, .inl fd))])) H locs := ⟨upd v_16 0 (v_16 0), ⟨rfl, rfl⟩, G⟩
              exact e_void S zr zlk G (t136_0, v_25) [0, 1] rfl rfl (Or.inr rfl) (⟨hI_t136_0, by rw [hs]; have hn : (t5_0 0) < n := (by first | omega | (dsimp only; omega)); have hc : lqL (fd (t5_0 0)) = true := (by rw [← hta]; exact hl_14); exact ⟨by first | omega | (dsimp only; omega), hEnd.trans (tok_let hn hc).1.symm, (hE_v_25_0.trans (hE_v_16_0)).trans (tok_let hn hc).2.symm, fun h => absurd (h.symm.trans (tok_let hn hc).2) (by decide), by first | omega | (dsimp only; omega)⟩⟩) dX11_lookAt_302
            · have fc_20 := j_nle (a := n) (b := ((t136_0 0) + (t136_0 1))) (by omega) (by omega) c_20
              refine lv_aload_n zx zb dX11_lookAt_156 rfl (lv_at hl 2 rfl) ?_
              refine r_get (C := RX11) (T := TX11) (N := 18) (ci := 9) (v := .ref (ma 10)) S in_X11_lookAt_X11 G 0 rfl rfl 10 (by decide) lk_X11_lookAt_39 rfl dX11_lookAt_157 ?_
              refine lv_aload_n zx zb dX11_lookAt_160 rfl (lv_at hl 2 rfl) ?_
              refine r_get (C := RX11) (T := TX11) (N := 18) (ci := 9) (v := .int (nI (t136_0 0))) S in_X11_lookAt_X11 G 0 rfl rfl 12 (by decide) lk_X11_lookAt_217 rfl dX11_lookAt_161 ?_
              refine lv_aload_n zx zb dX11_lookAt_164 rfl (lv_at hl 2 rfl) ?_
              refine r_get (C := RX11) (T := TX11) (N := 18) (ci := 9) (v := .int (nI (t136_0 1))) S in_X11_lookAt_X11 G 0 rfl rfl 13 (by decide) lk_X11_lookAt_220 rfl dX11_lookAt_165 ?_
              refine r_iadd (v := (nI ((t136_0 0) + (t136_0 1)))) S (nI_add (t136_0 0) (t136_0 1)) dX11_lookAt_168 ?_
              refine r_iald (v := (fd ((t136_0 0) + (t136_0 1)))) S G 1 rfl (vp_in_nI (by omega) (by decide)) (congrArg fd (nI_clamp (by omega))) dX11_lookAt_169 ?_
              refine lv_istore (lv' := [(4, .int (fd ((t136_0 0) + (t136_0 1)))), (3, .int 1), (2, .int (fd (t_9 0))), (0, .ref m0), (1, .int (nI o))]) zx zb dX11_lookAt_170 hl (by decide) rfl (fun ls hl => ?_)
              refine lv_aload_n zx zb dX11_lookAt_172 rfl (lv_at hl 3 rfl) ?_
              refine r_get (C := RX11) (T := TX11) (N := 18) (ci := 9) (v := .int (v_16 0)) S in_X11_lookAt_X11 G 0 rfl rfl 14 (by decide) lk_X11_lookAt_223 rfl dX11_lookAt_173 ?_
              refine lv_iconst (v := 1) zx zb dX11_lookAt_176 (by decide) ?_
              refine lv_icmp_ne (tgt := 188) zx zb dX11_lookAt_177 (by decide) (fun c_27 => absurd (hE_v_16_0) c_27) (fun c_27 => ?_)
              refine lv_iload zx zb dX11_lookAt_180 (lv_at hl 0 rfl) ?_
              refine o_ri (cells' := 0) (slots' := 0) G rfl rfl (n_S (As := [.int (fd ((t136_0 0) + (t136_0 1)))]) (rest := []) S G (y_isSmall l X (fd ((t136_0 0) + (t136_0 1))) H.size) gX11_lookAt_X11_isSmall rfl rfl rfl hdS_X11_isSmall ⟨Nat.le_of_ble_eq_true rfl, Nat.le_of_ble_eq_true rfl⟩ [] rfl rfl rfl hl.1 (Nat.le_of_ble_eq_true rfl) dX11_lookAt_182 ⟨Nat.le_of_ble_eq_true rfl, Nat.le_of_ble_eq_true rfl⟩) (fun r_28 u_28 H locs hp_28 G => ?_)
              have G : wd X (va_A (@HAppend.hAppend va_W va_W va_W _ (mW m0 ma la lb n t v) ([((ma 10), .inl (X.2.1, 150, .inl fd))])) sz) (va_A (@HAppend.hAppend va_W va_W va_W _ (mW m0 ma la lb n t v) ([((ma 10), .inl (X.2.1, 150, .inl fd))])) sz) s (@HAppend.hAppend va_W va_W va_W _ (mW m0 ma la lb n t136_0 v_16) ([((ma 10), .inl (X.2.1, 150, .inl fd))])) H locs := G
              rcases hp_28 with ⟨rfl, hl_28⟩ | ⟨rfl, hl_28⟩
              · refine lv_goto (tgt := 193) zx zb dX11_lookAt_185 (by decide) ?_
                refine lv_istore_n (lv' := [(3, .int 1), (4, .int (fd ((t136_0 0) + (t136_0 1)))), (2, .int (fd (t_9 0))), (0, .ref m0), (1, .int (nI o))]) zx zb dX11_lookAt_193 rfl hl (by decide) rfl (fun ls hl => ?_)
                refine lv_aload_n zx zb dX11_lookAt_194 rfl (lv_at hl 3 rfl) ?_
                refine lv_dup zx zb dX11_lookAt_195 rfl ?_
                refine r_get (C := RX11) (T := TX11) (N := 18) (ci := 9) (v := .int (nI (t136_0 1))) S in_X11_lookAt_X11 G 0 rfl rfl 13 (by decide) lk_X11_lookAt_220 rfl dX11_lookAt_196 ?_
                refine lv_iload_n zx zb dX11_lookAt_199 rfl (lv_at hl 0 rfl) ?_
                refine lv_if_eq (tgt := 207) zx zb dX11_lookAt_200 (by decide) (fun c_29 => absurd c_29 (by decide)) (fun c_29 => ?_)
                refine lv_iconst (v := 1) zx zb dX11_lookAt_203 (by decide) ?_
                refine lv_goto (tgt := 208) zx zb dX11_lookAt_204 (by decide) ?_
                refine r_iadd (v := (nI ((t136_0 1) + 1))) S (nI_add (t136_0 1) 1) dX11_lookAt_208 ?_
                refine r_put (C := RX11) (T := TX11) (N := 18) (ci := 9) (v := .int (nI ((t136_0 1) + 1))) S in_X11_lookAt_X11 tyX11_ok nmX11 G 0 rfl rfl 13 (by decide) lk_X11_lookAt_220 rfl (vp_nar_int _) rfl (Nat.le_of_ble_eq_true rfl) dX11_lookAt_209 (fun H locs G => ?_)
                obtain ⟨t_30, hI_t_30, ⟨hE_t_30_1, hE_t_30_0⟩, G⟩ : ∃ t_30 : Nat → Nat, InT t_30 ∧ (t_30 1 = ((t136_0 1) + 1) ∧ t_30 0 = t136_0 0) ∧ wd X (va_A (@HAppend.hAppend va_W va_W va_W _ (mW m0 ma la lb n t v) ([((ma 10), .inl (X.2.1, 150, .inl fd))])) sz) (va_A (@HAppend.hAppend va_W va_W va_W _ (mW m0 ma la lb n t v) ([((ma 10), .inl (X.2.1, 150, .inl fd))])) sz) s (@HAppend.hAppend va_W va_W va_W _ (mW m0 ma la lb n t_30 v_16) ([((ma 10), .inl (X.2.1, 150, .inl fd))])) H locs := ⟨upN t136_0 1 ((t136_0 1) + 1), ⟨ht0_t136_0, (by show ((t136_0 1) + 1) ≤ 150; omega)⟩, ⟨rfl, rfl⟩, G⟩
                have hO_t_30 := hI_t_30
                obtain ⟨ht0_t_30, ht1_t_30⟩ := hO_t_30
                refine lv_goto (tgt := 136) zx zb dX11_lookAt_212 (by decide) ?_
                have hl := lv_sub hl (l' := [(3, .int 1), (2, .int (fd (t_9 0))), (0, .ref m0), (1, .int (nI o))]) [0, 2, 3, 4] rfl
                exact ih136 t_30 _ _ _ (by omega) ⟨by omega, by rw [show t_30 0 + t_30 1 = (t136_0 0 + t136_0 1) + 1 from by omega, ← scan_s (by omega) hl_28]; exact hx136_0.2⟩ hI_t_30 G hl
              · refine lv_goto (tgt := 193) zx zb dX11_lookAt_185 (by decide) ?_
                refine lv_istore_n (lv' := [(3, .int 0), (4, .int (fd ((t136_0 0) + (t136_0 1)))), (2, .int (fd (t_9 0))), (0, .ref m0), (1, .int (nI o))]) zx zb dX11_lookAt_193 rfl hl (by decide) rfl (fun ls hl => ?_)
                refine lv_aload_n zx zb dX11_lookAt_194 rfl (lv_at hl 3 rfl) ?_
                refine lv_dup zx zb dX11_lookAt_195 rfl ?_
                refine r_get (C := RX11) (T := TX11) (N := 18) (ci := 9) (v := .int (nI (t136_0 1))) S in_X11_lookAt_X11 G 0 rfl rfl 13 (by decide) lk_X11_lookAt_220 rfl dX11_lookAt_196 ?_
                refine lv_iload_n zx zb dX11_lookAt_199 rfl (lv_at hl 0 rfl) ?_
                refine lv_if_eq (tgt := 207) zx zb dX11_lookAt_200 (by decide) (fun c_31 => ?_) (fun c_31 => absurd (by decide) c_31)
                refine lv_iconst (v := 0) zx zb dX11_lookAt_207 (by decide) ?_
                refine r_iadd (v := (nI ((t136_0 1) + 0))) S (nI_add (t136_0 1) 0) dX11_lookAt_208 ?_
                refine r_put (C := RX11) (T := TX11) (N := 18) (ci := 9) (v := .int (nI ((t136_0 1) + 0))) S in_X11_lookAt_X11 tyX11_ok nmX11 G 0 rfl rfl 13 (by decide) lk_X11_lookAt_220 rfl (vp_nar_int _) rfl (Nat.le_of_ble_eq_true rfl) dX11_lookAt_209 (fun H locs G => ?_)
                obtain ⟨t_32, hI_t_32, ⟨hE_t_32_1, hE_t_32_0⟩, G⟩ : ∃ t_32 : Nat → Nat, InT t_32 ∧ (t_32 1 = ((t136_0 1) + 0) ∧ t_32 0 = t136_0 0) ∧ wd X (va_A (@HAppend.hAppend va_W va_W va_W _ (mW m0 ma la lb n t v) ([((ma 10), .inl (X.2.1, 150, .inl fd))])) sz) (va_A (@HAppend.hAppend va_W va_W va_W _ (mW m0 ma la lb n t v) ([((ma 10), .inl (X.2.1, 150, .inl fd))])) sz) s (@HAppend.hAppend va_W va_W va_W _ (mW m0 ma la lb n t_32 v_16) ([((ma 10), .inl (X.2.1, 150, .inl fd))])) H locs := ⟨upN t136_0 1 ((t136_0 1) + 0), ⟨ht0_t136_0, (by show ((t136_0 1) + 0) ≤ 150; omega)⟩, ⟨rfl, rfl⟩, G⟩
                have hO_t_32 := hI_t_32
                obtain ⟨ht0_t_32, ht1_t_32⟩ := hO_t_32
                refine lv_goto (tgt := 136) zx zb dX11_lookAt_212 (by decide) ?_
                refine lv_iload_n zx zb dX11_lookAt_136 rfl (lv_at hl 0 rfl) ?_
                refine lv_if_eq (tgt := 215) zx zb dX11_lookAt_137 (by decide) (fun c_33 => ?_) (fun c_33 => absurd (by decide) c_33)
                have hEnd : t_32 0 + t_32 1 = scanP lqL fd n (t5_0 0) := (show t_32 0 + t_32 1 = t136_0 0 + t136_0 1 from by omega).trans ((scan_e (fun h => hl_28 h.2)).symm.trans hx136_0.2)
                refine lv_iconst (v := 0) zx zb dX11_lookAt_215 (by decide) ?_
                refine lv_istore (lv' := [(4, .int 0), (3, .int 0), (2, .int (fd (t_9 0))), (0, .ref m0), (1, .int (nI o))]) zx zb dX11_lookAt_216 hl (by decide) rfl (fun ls hl => ?_)
                refine lv_iload zx zb dX11_lookAt_218 (lv_at hl 0 rfl) ?_
                refine lv_aload_n zx zb dX11_lookAt_220 rfl (lv_at hl 3 rfl) ?_
                refine r_get (C := RX11) (T := TX11) (N := 18) (ci := 9) (v := .int (nI (t_32 1))) S in_X11_lookAt_X11 G 0 rfl rfl 13 (by decide) lk_X11_lookAt_220 rfl dX11_lookAt_221 ?_
                refine lv_icmp_ge (tgt := 274) zx zb dX11_lookAt_224 (by decide) (fun c_34 => absurd c_34 (fun q => absurd (j_le (a := (t_32 1)) (b := 0) (by omega) (by omega) q) (by omega))) (fun c_34 => ?_)
                refine lv_iload zx zb dX11_lookAt_227 (lv_at hl 0 rfl) ?_
                refine lv_iconst (v := 2) zx zb dX11_lookAt_229 (by decide) ?_
                refine lv_icmp_ge (tgt := 274) zx zb dX11_lookAt_230 (by decide) (fun c_35 => absurd c_35 (by decide)) (fun c_35 => ?_)
                refine lv_aload_n zx zb dX11_lookAt_233 rfl (lv_at hl 3 rfl) ?_
                refine r_get (C := RX11) (T := TX11) (N := 18) (ci := 9) (v := .int (v_16 0)) S in_X11_lookAt_X11 G 0 rfl rfl 14 (by decide) lk_X11_lookAt_223 rfl dX11_lookAt_234 ?_
                refine lv_iconst (v := 2) zx zb dX11_lookAt_237 (by decide) ?_
                refine lv_icmp_ne (tgt := 274) zx zb dX11_lookAt_238 (by decide) (fun c_36 => ?_) (fun c_36 => absurd c_36 (by rw [hE_v_16_0]; decide))
                refine lv_aload_n zx zb dX11_lookAt_274 rfl (lv_at hl 3 rfl) ?_
                refine lv_aload_n zx zb dX11_lookAt_275 rfl (lv_at hl 3 rfl) ?_
                refine r_get (C := RX11) (T := TX11) (N := 18) (ci := 9) (v := .int (v_16 0)) S in_X11_lookAt_X11 G 0 rfl rfl 14 (by decide) lk_X11_lookAt_223 rfl dX11_lookAt_276 ?_
                refine lv_iconst (v := 2) zx zb dX11_lookAt_279 (by decide) ?_
                refine lv_icmp_ne (tgt := 295) zx zb dX11_lookAt_280 (by decide) (fun c_37 => ?_) (fun c_37 => absurd c_37 (by rw [hE_v_16_0]; decide))
                refine lv_aload_n zx zb dX11_lookAt_295 rfl (lv_at hl 3 rfl) ?_
                refine r_get (C := RX11) (T := TX11) (N := 18) (ci := 9) (v := .int (v_16 0)) S in_X11_lookAt_X11 G 0 rfl rfl 14 (by decide) lk_X11_lookAt_223 rfl dX11_lookAt_296 ?_
                refine r_put (C := RX11) (T := TX11) (N := 18) (ci := 9) (v := .int (v_16 0)) S in_X11_lookAt_X11 tyX11_ok nmX11 G 0 rfl rfl 14 (by decide) lk_X11_lookAt_223 rfl (vp_nar_int _) rfl (Nat.le_of_ble_eq_true rfl) dX11_lookAt_299 (fun H locs G => ?_)
                obtain ⟨v_38, ⟨hE_v_38_0, hE_v_38_1⟩, G⟩ : ∃ v_38 : Nat → Int32, (v_38 0 = (v_16 0) ∧ v_38 1 = v_16 1) ∧ wd X (va_A (@HAppend.hAppend va_W va_W va_W _ (mW m0 ma la lb n t v) ([((ma 10), .inl (X.2.1, 150, .inl fd))])) sz) (va_A (@HAppend.hAppend va_W va_W va_W _ (mW m0 ma la lb n t v) ([((ma 10), .inl (X.2.1, 150, .inl fd))])) sz) s (@HAppend.hAppend va_W va_W va_W _ (mW m0 ma la lb n t_32 v_38) ([((ma 10), .inl (X.2.1, 150, .inl fd))])) H locs := ⟨upd v_16 0 (v_16 0), ⟨rfl, rfl⟩, G⟩
                exact e_void S zr zlk G (t_32, v_38) [0, 1] rfl rfl (Or.inr rfl) (⟨hI_t_32, by rw [hs]; have hn : (t5_0 0) < n := (by first | omega | (dsimp only; omega)); have hc : lqL (fd (t5_0 0)) = true := (by rw [← hta]; exact hl_14); exact ⟨by first | omega | (dsimp only; omega), hEnd.trans (tok_let hn hc).1.symm, (hE_v_38_0.trans (hE_v_16_0)).trans (tok_let hn hc).2.symm, fun h => absurd (h.symm.trans (tok_let hn hc).2) (by decide), by first | omega | (dsimp only; omega)⟩⟩) dX11_lookAt_302
        · refine lv_if_eq (tgt := 92) zx zb dX11_lookAt_85 (by decide) (fun c_39 => ?_) (fun c_39 => absurd (by decide) c_39)
          refine lv_iload_n zx zb dX11_lookAt_92 rfl (lv_at hl 0 rfl) ?_
          refine o_ri (cells' := 0) (slots' := 0) G rfl rfl (n_S (As := [.int (fd (t_9 0))]) (rest := [.ref m0]) S G (y_isFigure l X (fd (t_9 0)) H.size) gX11_lookAt_X11_isFigure rfl rfl rfl hdS_X11_isFigure ⟨Nat.le_of_ble_eq_true rfl, Nat.le_of_ble_eq_true rfl⟩ [] rfl rfl rfl hl.1 (Nat.le_of_ble_eq_true rfl) dX11_lookAt_93 ⟨Nat.le_of_ble_eq_true rfl, Nat.le_of_ble_eq_true rfl⟩) (fun r_40 u_40 H locs hp_40 G => ?_)
          have G : wd X (va_A (@HAppend.hAppend va_W va_W va_W _ (mW m0 ma la lb n t v) ([((ma 10), .inl (X.2.1, 150, .inl fd))])) sz) (va_A (@HAppend.hAppend va_W va_W va_W _ (mW m0 ma la lb n t v) ([((ma 10), .inl (X.2.1, 150, .inl fd))])) sz) s (@HAppend.hAppend va_W va_W va_W _ (mW m0 ma la lb n t_9 v_11) ([((ma 10), .inl (X.2.1, 150, .inl fd))])) H locs := G
          rcases hp_40 with ⟨rfl, hl_40⟩ | ⟨rfl, hl_40⟩
          · refine lv_if_eq (tgt := 103) zx zb dX11_lookAt_96 (by decide) (fun c_41 => absurd c_41 (by decide)) (fun c_41 => ?_)
            refine lv_iconst (v := 2) zx zb dX11_lookAt_99 (by decide) ?_
            refine lv_goto (tgt := 114) zx zb dX11_lookAt_100 (by decide) ?_
            refine r_put (C := RX11) (T := TX11) (N := 18) (ci := 9) (v := .int 2) S in_X11_lookAt_X11 tyX11_ok nmX11 G 0 rfl rfl 14 (by decide) lk_X11_lookAt_223 rfl (vp_nar_int _) rfl (Nat.le_of_ble_eq_true rfl) dX11_lookAt_114 (fun H locs G => ?_)
            obtain ⟨v_42, ⟨hE_v_42_0, hE_v_42_1⟩, G⟩ : ∃ v_42 : Nat → Int32, (v_42 0 = 2 ∧ v_42 1 = v_11 1) ∧ wd X (va_A (@HAppend.hAppend va_W va_W va_W _ (mW m0 ma la lb n t v) ([((ma 10), .inl (X.2.1, 150, .inl fd))])) sz) (va_A (@HAppend.hAppend va_W va_W va_W _ (mW m0 ma la lb n t v) ([((ma 10), .inl (X.2.1, 150, .inl fd))])) sz) s (@HAppend.hAppend va_W va_W va_W _ (mW m0 ma la lb n t_9 v_42) ([((ma 10), .inl (X.2.1, 150, .inl fd))])) H locs := ⟨upd v_11 0 2, ⟨rfl, rfl⟩, G⟩
            refine lv_aload_n zx zb dX11_lookAt_117 rfl (lv_at hl 1 rfl) ?_
            refine lv_iconst (v := 1) zx zb dX11_lookAt_118 (by decide) ?_
            refine r_put (C := RX11) (T := TX11) (N := 18) (ci := 9) (v := .int 1) S in_X11_lookAt_X11 tyX11_ok nmX11 G 0 rfl rfl 13 (by decide) lk_X11_lookAt_220 rfl (vp_nar_int _) rfl (Nat.le_of_ble_eq_true rfl) dX11_lookAt_119 (fun H locs G => ?_)
            obtain ⟨t_43, hI_t_43, ⟨hE_t_43_1, hE_t_43_0⟩, G⟩ : ∃ t_43 : Nat → Nat, InT t_43 ∧ (t_43 1 = 1 ∧ t_43 0 = t_9 0) ∧ wd X (va_A (@HAppend.hAppend va_W va_W va_W _ (mW m0 ma la lb n t v) ([((ma 10), .inl (X.2.1, 150, .inl fd))])) sz) (va_A (@HAppend.hAppend va_W va_W va_W _ (mW m0 ma la lb n t v) ([((ma 10), .inl (X.2.1, 150, .inl fd))])) sz) s (@HAppend.hAppend va_W va_W va_W _ (mW m0 ma la lb n t_43 v_42) ([((ma 10), .inl (X.2.1, 150, .inl fd))])) H locs := ⟨upN t_9 1 1, ⟨ht0_t_9, (by show 1 ≤ 150; omega)⟩, ⟨rfl, rfl⟩, G⟩
            have hO_t_43 := hI_t_43
            obtain ⟨ht0_t_43, ht1_t_43⟩ := hO_t_43
            refine lv_aload_n zx zb dX11_lookAt_122 rfl (lv_at hl 1 rfl) ?_
            refine r_get (C := RX11) (T := TX11) (N := 18) (ci := 9) (v := .int (v_42 0)) S in_X11_lookAt_X11 G 0 rfl rfl 14 (by decide) lk_X11_lookAt_223 rfl dX11_lookAt_123 ?_
            refine lv_iconst (v := 3) zx zb dX11_lookAt_126 (by decide) ?_
            refine lv_icmp_ge (tgt := 134) zx zb dX11_lookAt_127 (by decide) (fun c_44 => absurd c_44 (by rw [hE_v_42_0]; decide)) (fun c_44 => ?_)
            refine lv_iconst (v := 1) zx zb dX11_lookAt_130 (by decide) ?_
            refine lv_goto (tgt := 135) zx zb dX11_lookAt_131 (by decide) ?_
            refine lv_istore_n (lv' := [(3, .int 1), (2, .int (fd (t_9 0))), (0, .ref m0), (1, .int (nI o))]) zx zb dX11_lookAt_135 rfl hl (by decide) rfl (fun ls hl => ?_)
            refine k_loop (P := ∀ (zm : Nat) (t136_0 : Nat → Nat) (H : Heap) (locs : List Loc) (ls : Array Slot), ((150 - t136_0 1) < zm) → ((t136_0 0 = (t5_0 0) ∧ 1 ≤ t136_0 1 ∧ t136_0 0 + t136_0 1 ≤ n) ∧ scanP lqF fd n (t136_0 0 + t136_0 1) = scanP lqF fd n (t5_0 0)) → InT t136_0 → wd X (va_A (@HAppend.hAppend va_W va_W va_W _ (mW m0 ma la lb n t v) ([((ma 10), .inl (X.2.1, 150, .inl fd))])) sz) (va_A (@HAppend.hAppend va_W va_W va_W _ (mW m0 ma la lb n t v) ([((ma 10), .inl (X.2.1, 150, .inl fd))])) sz) s (@HAppend.hAppend va_W va_W va_W _ (mW m0 ma la lb n t136_0 v_42) ([((ma 10), .inl (X.2.1, 150, .inl fd))])) H locs → lv_has ls 5 [(3, .int 1), (2, .int (fd (t_9 0))), (0, .ref m0), (1, .int (nI o))] → W p l e _ s m _ below meth c H locs _ _ _ (F0 m 136 ls [])) (fun loop => loop ((150 - t_43 1) + 1) t_43 _ _ _ (by omega) ⟨by omega, by rw [show t_43 0 + t_43 1 = (t5_0 0) + 1 from by omega]; exact (scan_s (by omega) (by rw [← hta]; exact hl_40)).symm⟩ hI_t_43 G hl) ?_
            intro zm
            induction zm with
            | zero => intro t136_0 H locs ls zz q_x0 q_hI_t136_0 _ _; exact absurd zz (by omega)
            | succ zm ih136 =>
              intro t136_0 H locs ls zm_136 hx136_0 hI_t136_0 G hl
              have hO_t136_0 := hI_t136_0
              obtain ⟨ht0_t136_0, ht1_t136_0⟩ := hO_t136_0
              refine lv_iload_n zx zb dX11_lookAt_136 rfl (lv_at hl 0 rfl) ?_
              refine lv_if_eq (tgt := 215) zx zb dX11_lookAt_137 (by decide) (fun c_45 => absurd c_45 (by decide)) (fun c_45 => ?_)
              refine lv_aload_n zx zb dX11_lookAt_140 rfl (lv_at hl 2 rfl) ?_
              refine r_get (C := RX11) (T := TX11) (N := 18) (ci := 9) (v := .int (nI (t136_0 0))) S in_X11_lookAt_X11 G 0 rfl rfl 12 (by decide) lk_X11_lookAt_217 rfl dX11_lookAt_141 ?_
              refine lv_aload_n zx zb dX11_lookAt_144 rfl (lv_at hl 2 rfl) ?_
              refine r_get (C := RX11) (T := TX11) (N := 18) (ci := 9) (v := .int (nI (t136_0 1))) S in_X11_lookAt_X11 G 0 rfl rfl 13 (by decide) lk_X11_lookAt_220 rfl dX11_lookAt_145 ?_
              refine r_iadd (v := (nI ((t136_0 0) + (t136_0 1)))) S (nI_add (t136_0 0) (t136_0 1)) dX11_lookAt_148 ?_
              refine lv_aload_n zx zb dX11_lookAt_149 rfl (lv_at hl 2 rfl) ?_
              refine r_get (C := RX11) (T := TX11) (N := 18) (ci := 9) (v := .int (nI n)) S in_X11_lookAt_X11 G 0 rfl rfl 11 (by decide) lk_X11_lookAt_205 rfl dX11_lookAt_150 ?_
              refine lv_icmp_ge (tgt := 215) zx zb dX11_lookAt_153 (by decide) (fun c_46 => ?_) (fun c_46 => ?_)
              · have fc_46 := j_le (a := n) (b := ((t136_0 0) + (t136_0 1))) (by omega) (by omega) c_46
                have hEnd : t136_0 0 + t136_0 1 = scanP lqF fd n (t5_0 0) := (show t136_0 0 + t136_0 1 = t136_0 0 + t136_0 1 from by omega).trans ((scan_e (fun h => absurd h.1 (by omega))).symm.trans hx136_0.2)
                refine lv_iconst (v := 0) zx zb dX11_lookAt_215 (by decide) ?_
                refine lv_istore (lv' := [(4, .int 0), (3, .int 1), (2, .int (fd (t_9 0))), (0, .ref m0), (1, .int (nI o))]) zx zb dX11_lookAt_216 hl (by decide) rfl (fun ls hl => ?_)
                refine k_loop (P := ∀ (zm : Nat) (n218_4 : Nat) (v218_0 : Nat → Int32) (H : Heap) (locs : List Loc) (ls : Array Slot), ((2 - n218_4) < zm) → (n218_4 ≤ t136_0 1 ∧ v218_0 0 = 2 ∧ v218_0 1 = vF fd (t5_0 0) n218_4) → (n218_4 ≤ 2) → wd X (va_A (@HAppend.hAppend va_W va_W va_W _ (mW m0 ma la lb n t v) ([((ma 10), .inl (X.2.1, 150, .inl fd))])) sz) (va_A (@HAppend.hAppend va_W va_W va_W _ (mW m0 ma la lb n t v) ([((ma 10), .inl (X.2.1, 150, .inl fd))])) sz) s (@HAppend.hAppend va_W va_W va_W _ (mW m0 ma la lb n t136_0 v218_0) ([((ma 10), .inl (X.2.1, 150, .inl fd))])) H locs → lv_has ls 5 [(4, .int (nI n218_4)), (3, .int 1), (2, .int (fd (t_9 0))), (0, .ref m0), (1, .int (nI o))] → W p l e _ s m _ below meth c H locs _ _ _ (F0 m 218 ls [])) (fun loop => loop ((2 - 0) + 1) 0 v_42 _ _ _ (by omega) ⟨by omega, hE_v_42_0, hE_v_42_1.trans (hE_v_11_1)⟩ (by omega) G hl) ?_
                intro zm
                induction zm with
                | zero => intro n218_4 v218_0 H locs ls zz q_x0 q_hk_n218_4 _ _; exact absurd zz (by omega)
                | succ zm ih218 =>
                  intro n218_4 v218_0 H locs ls zm_218 hx218_0 hk_n218_4 G hl
                  refine lv_iload zx zb dX11_lookAt_218 (lv_at hl 0 rfl) ?_
                  refine lv_aload_n zx zb dX11_lookAt_220 rfl (lv_at hl 3 rfl) ?_
                  refine r_get (C := RX11) (T := TX11) (N := 18) (ci := 9) (v := .int (nI (t136_0 1))) S in_X11_lookAt_X11 G 0 rfl rfl 13 (by decide) lk_X11_lookAt_220 rfl dX11_lookAt_221 ?_
                  refine lv_icmp_ge (tgt := 274) zx zb dX11_lookAt_224 (by decide) (fun c_47 => ?_) (fun c_47 => ?_)
                  · have fc_47 := j_le (a := (t136_0 1)) (b := n218_4) (by omega) (by omega) c_47
                    refine lv_aload_n zx zb dX11_lookAt_274 rfl (lv_at hl 3 rfl) ?_
                    refine lv_aload_n zx zb dX11_lookAt_275 rfl (lv_at hl 3 rfl) ?_
                    refine r_get (C := RX11) (T := TX11) (N := 18) (ci := 9) (v := .int (v218_0 0)) S in_X11_lookAt_X11 G 0 rfl rfl 14 (by decide) lk_X11_lookAt_223 rfl dX11_lookAt_276 ?_
                    refine lv_iconst (v := 2) zx zb dX11_lookAt_279 (by decide) ?_
                    refine lv_icmp_ne (tgt := 295) zx zb dX11_lookAt_280 (by decide) (fun c_48 => absurd (hx218_0.2.1) c_48) (fun c_48 => ?_)
                    refine lv_aload_n zx zb dX11_lookAt_283 rfl (lv_at hl 3 rfl) ?_
                    refine r_get (C := RX11) (T := TX11) (N := 18) (ci := 9) (v := .int (nI (t136_0 1))) S in_X11_lookAt_X11 G 0 rfl rfl 13 (by decide) lk_X11_lookAt_220 rfl dX11_lookAt_284 ?_
                    refine lv_iconst (v := 2) zx zb dX11_lookAt_287 (by decide) ?_
                    refine lv_icmp_le (tgt := 295) zx zb dX11_lookAt_288 (by decide) (fun c_49 => ?_) (fun c_49 => ?_)
                    · have fc_49 := j_le (a := (t136_0 1)) (b := 2) (by omega) (by omega) c_49
                      refine lv_aload_n zx zb dX11_lookAt_295 rfl (lv_at hl 3 rfl) ?_
                      refine r_get (C := RX11) (T := TX11) (N := 18) (ci := 9) (v := .int (v218_0 0)) S in_X11_lookAt_X11 G 0 rfl rfl 14 (by decide) lk_X11_lookAt_223 rfl dX11_lookAt_296 ?_
                      refine r_put (C := RX11) (T := TX11) (N := 18) (ci := 9) (v := .int (v218_0 0)) S in_X11_lookAt_X11 tyX11_ok nmX11 G 0 rfl rfl 14 (by decide) lk_X11_lookAt_223 rfl (vp_nar_int _) rfl (Nat.le_of_ble_eq_true rfl) dX11_lookAt_299 (fun H locs G => ?_)
                      obtain ⟨v_50, ⟨hE_v_50_0, hE_v_50_1⟩, G⟩ : ∃ v_50 : Nat → Int32, (v_50 0 = (v218_0 0) ∧ v_50 1 = v218_0 1) ∧ wd X (va_A (@HAppend.hAppend va_W va_W va_W _ (mW m0 ma la lb n t v) ([((ma 10), .inl (X.2.1, 150, .inl fd))])) sz) (va_A (@HAppend.hAppend va_W va_W va_W _ (mW m0 ma la lb n t v) ([((ma 10), .inl (X.2.1, 150, .inl fd))])) sz) s (@HAppend.hAppend va_W va_W va_W _ (mW m0 ma la lb n t136_0 v_50) ([((ma 10), .inl (X.2.1, 150, .inl fd))])) H locs := ⟨upd v218_0 0 (v218_0 0), ⟨rfl, rfl⟩, G⟩
                      exact e_void S zr zlk G (t136_0, v_50) [0, 1] rfl rfl (Or.inr rfl) (⟨hI_t136_0, by rw [hs]; have hn : (t5_0 0) < n := (by first | omega | (dsimp only; omega)); have hc : ¬ lqL (fd (t5_0 0)) = true := (by rw [← hta]; exact hl_14); have hd : lqF (fd (t5_0 0)) = true := (by rw [← hta]; exact hl_40); exact ⟨by first | omega | (dsimp only; omega), hEnd.trans (tok_fig hn hc hd).1.symm, (hE_v_50_0.trans hx218_0.2.1).trans ((tok_fig hn hc hd).2.trans (if_pos (by first | omega | (dsimp only; omega)))).symm, fun _ => by rw [tV, (tok_fig hn hc hd).1, ← hEnd, show t136_0 0 + t136_0 1 - (t5_0 0) = n218_4 from by first | omega | (dsimp only; omega)]; exact hE_v_50_1.trans hx218_0.2.2, by first | omega | (dsimp only; omega)⟩⟩) dX11_lookAt_302
                    · have fc_49 := j_nle (a := (t136_0 1)) (b := 2) (by omega) (by omega) c_49
                      refine lv_iconst (v := 4) zx zb dX11_lookAt_291 (by decide) ?_
                      refine lv_goto (tgt := 299) zx zb dX11_lookAt_292 (by decide) ?_
                      refine r_put (C := RX11) (T := TX11) (N := 18) (ci := 9) (v := .int 4) S in_X11_lookAt_X11 tyX11_ok nmX11 G 0 rfl rfl 14 (by decide) lk_X11_lookAt_223 rfl (vp_nar_int _) rfl (Nat.le_of_ble_eq_true rfl) dX11_lookAt_299 (fun H locs G => ?_)
                      obtain ⟨v_51, ⟨hE_v_51_0, hE_v_51_1⟩, G⟩ : ∃ v_51 : Nat → Int32, (v_51 0 = 4 ∧ v_51 1 = v218_0 1) ∧ wd X (va_A (@HAppend.hAppend va_W va_W va_W _ (mW m0 ma la lb n t v) ([((ma 10), .inl (X.2.1, 150, .inl fd))])) sz) (va_A (@HAppend.hAppend va_W va_W va_W _ (mW m0 ma la lb n t v) ([((ma 10), .inl (X.2.1, 150, .inl fd))])) sz) s (@HAppend.hAppend va_W va_W va_W _ (mW m0 ma la lb n t136_0 v_51) ([((ma 10), .inl (X.2.1, 150, .inl fd))])) H locs := ⟨upd v218_0 0 4, ⟨rfl, rfl⟩, G⟩
                      exact e_void S zr zlk G (t136_0, v_51) [0, 1] rfl rfl (Or.inr rfl) (⟨hI_t136_0, by rw [hs]; have hn : (t5_0 0) < n := (by first | omega | (dsimp only; omega)); have hc : ¬ lqL (fd (t5_0 0)) = true := (by rw [← hta]; exact hl_14); have hd : lqF (fd (t5_0 0)) = true := (by rw [← hta]; exact hl_40); have h4 : tK fd n (t5_0 0) = 4 := ((tok_fig hn hc hd).2.trans (if_neg (by first | omega | (dsimp only; omega)))); exact ⟨by first | omega | (dsimp only; omega), hEnd.trans (tok_fig hn hc hd).1.symm, hE_v_51_0.trans h4.symm, fun h => absurd (h.symm.trans h4) (by decide), by first | omega | (dsimp only; omega)⟩⟩) dX11_lookAt_302
                  · have fc_47 := j_nle (a := (t136_0 1)) (b := n218_4) (by omega) (by omega) c_47
                    refine lv_iload zx zb dX11_lookAt_227 (lv_at hl 0 rfl) ?_
                    refine lv_iconst (v := 2) zx zb dX11_lookAt_229 (by decide) ?_
                    refine lv_icmp_ge (tgt := 274) zx zb dX11_lookAt_230 (by decide) (fun c_52 => ?_) (fun c_52 => ?_)
                    · have fc_52 := j_le (a := 2) (b := n218_4) (by omega) (by omega) c_52
                      refine lv_aload_n zx zb dX11_lookAt_274 rfl (lv_at hl 3 rfl) ?_
                      refine lv_aload_n zx zb dX11_lookAt_275 rfl (lv_at hl 3 rfl) ?_
                      refine r_get (C := RX11) (T := TX11) (N := 18) (ci := 9) (v := .int (v218_0 0)) S in_X11_lookAt_X11 G 0 rfl rfl 14 (by decide) lk_X11_lookAt_223 rfl dX11_lookAt_276 ?_
                      refine lv_iconst (v := 2) zx zb dX11_lookAt_279 (by decide) ?_
                      refine lv_icmp_ne (tgt := 295) zx zb dX11_lookAt_280 (by decide) (fun c_53 => absurd (hx218_0.2.1) c_53) (fun c_53 => ?_)
                      refine lv_aload_n zx zb dX11_lookAt_283 rfl (lv_at hl 3 rfl) ?_
                      refine r_get (C := RX11) (T := TX11) (N := 18) (ci := 9) (v := .int (nI (t136_0 1))) S in_X11_lookAt_X11 G 0 rfl rfl 13 (by decide) lk_X11_lookAt_220 rfl dX11_lookAt_284 ?_
                      refine lv_iconst (v := 2) zx zb dX11_lookAt_287 (by decide) ?_
                      refine lv_icmp_le (tgt := 295) zx zb dX11_lookAt_288 (by decide) (fun c_54 => ?_) (fun c_54 => ?_)
                      · have fc_54 := j_le (a := (t136_0 1)) (b := 2) (by omega) (by omega) c_54
                        refine lv_aload_n zx zb dX11_lookAt_295 rfl (lv_at hl 3 rfl) ?_
                        refine r_get (C := RX11) (T := TX11) (N := 18) (ci := 9) (v := .int (v218_0 0)) S in_X11_lookAt_X11 G 0 rfl rfl 14 (by decide) lk_X11_lookAt_223 rfl dX11_lookAt_296 ?_
                        refine r_put (C := RX11) (T := TX11) (N := 18) (ci := 9) (v := .int (v218_0 0)) S in_X11_lookAt_X11 tyX11_ok nmX11 G 0 rfl rfl 14 (by decide) lk_X11_lookAt_223 rfl (vp_nar_int _) rfl (Nat.le_of_ble_eq_true rfl) dX11_lookAt_299 (fun H locs G => ?_)
                        obtain ⟨v_55, ⟨hE_v_55_0, hE_v_55_1⟩, G⟩ : ∃ v_55 : Nat → Int32, (v_55 0 = (v218_0 0) ∧ v_55 1 = v218_0 1) ∧ wd X (va_A (@HAppend.hAppend va_W va_W va_W _ (mW m0 ma la lb n t v) ([((ma 10), .inl (X.2.1, 150, .inl fd))])) sz) (va_A (@HAppend.hAppend va_W va_W va_W _ (mW m0 ma la lb n t v) ([((ma 10), .inl (X.2.1, 150, .inl fd))])) sz) s (@HAppend.hAppend va_W va_W va_W _ (mW m0 ma la lb n t136_0 v_55) ([((ma 10), .inl (X.2.1, 150, .inl fd))])) H locs := ⟨upd v218_0 0 (v218_0 0), ⟨rfl, rfl⟩, G⟩
                        exact e_void S zr zlk G (t136_0, v_55) [0, 1] rfl rfl (Or.inr rfl) (⟨hI_t136_0, by rw [hs]; have hn : (t5_0 0) < n := (by first | omega | (dsimp only; omega)); have hc : ¬ lqL (fd (t5_0 0)) = true := (by rw [← hta]; exact hl_14); have hd : lqF (fd (t5_0 0)) = true := (by rw [← hta]; exact hl_40); exact ⟨by first | omega | (dsimp only; omega), hEnd.trans (tok_fig hn hc hd).1.symm, (hE_v_55_0.trans hx218_0.2.1).trans ((tok_fig hn hc hd).2.trans (if_pos (by first | omega | (dsimp only; omega)))).symm, fun _ => by rw [tV, (tok_fig hn hc hd).1, ← hEnd, show t136_0 0 + t136_0 1 - (t5_0 0) = n218_4 from by first | omega | (dsimp only; omega)]; exact hE_v_55_1.trans hx218_0.2.2, by first | omega | (dsimp only; omega)⟩⟩) dX11_lookAt_302
                      · have fc_54 := j_nle (a := (t136_0 1)) (b := 2) (by omega) (by omega) c_54
                        refine lv_iconst (v := 4) zx zb dX11_lookAt_291 (by decide) ?_
                        refine lv_goto (tgt := 299) zx zb dX11_lookAt_292 (by decide) ?_
                        refine r_put (C := RX11) (T := TX11) (N := 18) (ci := 9) (v := .int 4) S in_X11_lookAt_X11 tyX11_ok nmX11 G 0 rfl rfl 14 (by decide) lk_X11_lookAt_223 rfl (vp_nar_int _) rfl (Nat.le_of_ble_eq_true rfl) dX11_lookAt_299 (fun H locs G => ?_)
                        obtain ⟨v_56, ⟨hE_v_56_0, hE_v_56_1⟩, G⟩ : ∃ v_56 : Nat → Int32, (v_56 0 = 4 ∧ v_56 1 = v218_0 1) ∧ wd X (va_A (@HAppend.hAppend va_W va_W va_W _ (mW m0 ma la lb n t v) ([((ma 10), .inl (X.2.1, 150, .inl fd))])) sz) (va_A (@HAppend.hAppend va_W va_W va_W _ (mW m0 ma la lb n t v) ([((ma 10), .inl (X.2.1, 150, .inl fd))])) sz) s (@HAppend.hAppend va_W va_W va_W _ (mW m0 ma la lb n t136_0 v_56) ([((ma 10), .inl (X.2.1, 150, .inl fd))])) H locs := ⟨upd v218_0 0 4, ⟨rfl, rfl⟩, G⟩
                        exact e_void S zr zlk G (t136_0, v_56) [0, 1] rfl rfl (Or.inr rfl) (⟨hI_t136_0, by rw [hs]; have hn : (t5_0 0) < n := (by first | omega | (dsimp only; omega)); have hc : ¬ lqL (fd (t5_0 0)) = true := (by rw [← hta]; exact hl_14); have hd : lqF (fd (t5_0 0)) = true := (by rw [← hta]; exact hl_40); have h4 : tK fd n (t5_0 0) = 4 := ((tok_fig hn hc hd).2.trans (if_neg (by first | omega | (dsimp only; omega)))); exact ⟨by first | omega | (dsimp only; omega), hEnd.trans (tok_fig hn hc hd).1.symm, hE_v_56_0.trans h4.symm, fun h => absurd (h.symm.trans h4) (by decide), by first | omega | (dsimp only; omega)⟩⟩) dX11_lookAt_302
                    · have fc_52 := j_nle (a := 2) (b := n218_4) (by omega) (by omega) c_52
                      refine lv_aload_n zx zb dX11_lookAt_233 rfl (lv_at hl 3 rfl) ?_
                      refine r_get (C := RX11) (T := TX11) (N := 18) (ci := 9) (v := .int (v218_0 0)) S in_X11_lookAt_X11 G 0 rfl rfl 14 (by decide) lk_X11_lookAt_223 rfl dX11_lookAt_234 ?_
                      refine lv_iconst (v := 2) zx zb dX11_lookAt_237 (by decide) ?_
                      refine lv_icmp_ne (tgt := 274) zx zb dX11_lookAt_238 (by decide) (fun c_57 => absurd (hx218_0.2.1) c_57) (fun c_57 => ?_)
                      refine lv_aload_n zx zb dX11_lookAt_241 rfl (lv_at hl 3 rfl) ?_
                      refine lv_bipush (v := 10) zx zb dX11_lookAt_242 (by decide) ?_
                      refine lv_aload_n zx zb dX11_lookAt_244 rfl (lv_at hl 3 rfl) ?_
                      refine r_get (C := RX11) (T := TX11) (N := 18) (ci := 9) (v := .int (v218_0 1)) S in_X11_lookAt_X11 G 0 rfl rfl 15 (by decide) lk_X11_lookAt_226 rfl dX11_lookAt_245 ?_
                      refine r_imul (v := (10 * (v218_0 1))) S rfl dX11_lookAt_248 ?_
                      refine lv_aload_n zx zb dX11_lookAt_249 rfl (lv_at hl 3 rfl) ?_
                      refine r_get (C := RX11) (T := TX11) (N := 18) (ci := 9) (v := .ref (ma 10)) S in_X11_lookAt_X11 G 0 rfl rfl 10 (by decide) lk_X11_lookAt_39 rfl dX11_lookAt_250 ?_
                      refine lv_aload_n zx zb dX11_lookAt_253 rfl (lv_at hl 3 rfl) ?_
                      refine r_get (C := RX11) (T := TX11) (N := 18) (ci := 9) (v := .int (nI (t136_0 0))) S in_X11_lookAt_X11 G 0 rfl rfl 12 (by decide) lk_X11_lookAt_217 rfl dX11_lookAt_254 ?_
                      refine lv_iload zx zb dX11_lookAt_257 (lv_at hl 0 rfl) ?_
                      refine r_iadd (v := (nI ((t136_0 0) + n218_4))) S (nI_add (t136_0 0) n218_4) dX11_lookAt_259 ?_
                      refine r_iald (v := (fd ((t136_0 0) + n218_4))) S G 1 rfl (vp_in_nI (by omega) (by decide)) (congrArg fd (nI_clamp (by omega))) dX11_lookAt_260 ?_
                      refine r_iadd (v := ((10 * (v218_0 1)) + (fd ((t136_0 0) + n218_4)))) S rfl dX11_lookAt_261 ?_
                      refine lv_bipush (v := 48) zx zb dX11_lookAt_262 (by decide) ?_
                      refine r_isub (v := (((10 * (v218_0 1)) + (fd ((t136_0 0) + n218_4))) - 48)) S rfl dX11_lookAt_264 ?_
                      refine r_put (C := RX11) (T := TX11) (N := 18) (ci := 9) (v := .int (((10 * (v218_0 1)) + (fd ((t136_0 0) + n218_4))) - 48)) S in_X11_lookAt_X11 tyX11_ok nmX11 G 0 rfl rfl 15 (by decide) lk_X11_lookAt_226 rfl (vp_nar_int _) rfl (Nat.le_of_ble_eq_true rfl) dX11_lookAt_265 (fun H locs G => ?_)
                      obtain ⟨v_59, ⟨hE_v_59_1, hE_v_59_0⟩, G⟩ : ∃ v_59 : Nat → Int32, (v_59 1 = (((10 * (v218_0 1)) + (fd ((t136_0 0) + n218_4))) - 48) ∧ v_59 0 = v218_0 0) ∧ wd X (va_A (@HAppend.hAppend va_W va_W va_W _ (mW m0 ma la lb n t v) ([((ma 10), .inl (X.2.1, 150, .inl fd))])) sz) (va_A (@HAppend.hAppend va_W va_W va_W _ (mW m0 ma la lb n t v) ([((ma 10), .inl (X.2.1, 150, .inl fd))])) sz) s (@HAppend.hAppend va_W va_W va_W _ (mW m0 ma la lb n t136_0 v_59) ([((ma 10), .inl (X.2.1, 150, .inl fd))])) H locs := ⟨upd v218_0 1 (((10 * (v218_0 1)) + (fd ((t136_0 0) + n218_4))) - 48), ⟨rfl, rfl⟩, G⟩
                      refine lv_iinc (v := (nI (n218_4 + 1))) (lv' := [(4, .int (nI (n218_4 + 1))), (3, .int 1), (2, .int (fd (t_9 0))), (0, .ref m0), (1, .int (nI o))]) zx zb dX11_lookAt_268 hl (k := 0) rfl (nI_add n218_4 1) (by decide) rfl (fun ls hl => ?_)
                      refine lv_goto (tgt := 218) zx zb dX11_lookAt_271 (by decide) ?_
                      exact ih218 (n218_4 + 1) v_59 _ _ _ (by omega) ⟨by omega, hE_v_59_0.trans hx218_0.2.1, hE_v_59_1.trans (by rw [hx218_0.2.2, show t136_0 0 + n218_4 = (t5_0 0) + n218_4 from by omega]; first | done | rfl)⟩ (by omega) G hl
              · have fc_46 := j_nle (a := n) (b := ((t136_0 0) + (t136_0 1))) (by omega) (by omega) c_46
                refine lv_aload_n zx zb dX11_lookAt_156 rfl (lv_at hl 2 rfl) ?_
                refine r_get (C := RX11) (T := TX11) (N := 18) (ci := 9) (v := .ref (ma 10)) S in_X11_lookAt_X11 G 0 rfl rfl 10 (by decide) lk_X11_lookAt_39 rfl dX11_lookAt_157 ?_
                refine lv_aload_n zx zb dX11_lookAt_160 rfl (lv_at hl 2 rfl) ?_
                refine r_get (C := RX11) (T := TX11) (N := 18) (ci := 9) (v := .int (nI (t136_0 0))) S in_X11_lookAt_X11 G 0 rfl rfl 12 (by decide) lk_X11_lookAt_217 rfl dX11_lookAt_161 ?_
                refine lv_aload_n zx zb dX11_lookAt_164 rfl (lv_at hl 2 rfl) ?_
                refine r_get (C := RX11) (T := TX11) (N := 18) (ci := 9) (v := .int (nI (t136_0 1))) S in_X11_lookAt_X11 G 0 rfl rfl 13 (by decide) lk_X11_lookAt_220 rfl dX11_lookAt_165 ?_
                refine r_iadd (v := (nI ((t136_0 0) + (t136_0 1)))) S (nI_add (t136_0 0) (t136_0 1)) dX11_lookAt_168 ?_
                refine r_iald (v := (fd ((t136_0 0) + (t136_0 1)))) S G 1 rfl (vp_in_nI (by omega) (by decide)) (congrArg fd (nI_clamp (by omega))) dX11_lookAt_169 ?_
                refine lv_istore (lv' := [(4, .int (fd ((t136_0 0) + (t136_0 1)))), (3, .int 1), (2, .int (fd (t_9 0))), (0, .ref m0), (1, .int (nI o))]) zx zb dX11_lookAt_170 hl (by decide) rfl (fun ls hl => ?_)
                refine lv_aload_n zx zb dX11_lookAt_172 rfl (lv_at hl 3 rfl) ?_
                refine r_get (C := RX11) (T := TX11) (N := 18) (ci := 9) (v := .int (v_42 0)) S in_X11_lookAt_X11 G 0 rfl rfl 14 (by decide) lk_X11_lookAt_223 rfl dX11_lookAt_173 ?_
                refine lv_iconst (v := 1) zx zb dX11_lookAt_176 (by decide) ?_
                refine lv_icmp_ne (tgt := 188) zx zb dX11_lookAt_177 (by decide) (fun c_61 => ?_) (fun c_61 => absurd c_61 (by rw [hE_v_42_0]; decide))
                refine lv_iload zx zb dX11_lookAt_188 (lv_at hl 0 rfl) ?_
                refine o_ri (cells' := 0) (slots' := 0) G rfl rfl (n_S (As := [.int (fd ((t136_0 0) + (t136_0 1)))]) (rest := []) S G (y_isFigure l X (fd ((t136_0 0) + (t136_0 1))) H.size) gX11_lookAt_X11_isFigure rfl rfl rfl hdS_X11_isFigure ⟨Nat.le_of_ble_eq_true rfl, Nat.le_of_ble_eq_true rfl⟩ [] rfl rfl rfl hl.1 (Nat.le_of_ble_eq_true rfl) dX11_lookAt_190 ⟨Nat.le_of_ble_eq_true rfl, Nat.le_of_ble_eq_true rfl⟩) (fun r_62 u_62 H locs hp_62 G => ?_)
                have G : wd X (va_A (@HAppend.hAppend va_W va_W va_W _ (mW m0 ma la lb n t v) ([((ma 10), .inl (X.2.1, 150, .inl fd))])) sz) (va_A (@HAppend.hAppend va_W va_W va_W _ (mW m0 ma la lb n t v) ([((ma 10), .inl (X.2.1, 150, .inl fd))])) sz) s (@HAppend.hAppend va_W va_W va_W _ (mW m0 ma la lb n t136_0 v_42) ([((ma 10), .inl (X.2.1, 150, .inl fd))])) H locs := G
                rcases hp_62 with ⟨rfl, hl_62⟩ | ⟨rfl, hl_62⟩
                · refine lv_istore_n (lv' := [(3, .int 1), (4, .int (fd ((t136_0 0) + (t136_0 1)))), (2, .int (fd (t_9 0))), (0, .ref m0), (1, .int (nI o))]) zx zb dX11_lookAt_193 rfl hl (by decide) rfl (fun ls hl => ?_)
                  refine lv_aload_n zx zb dX11_lookAt_194 rfl (lv_at hl 3 rfl) ?_
                  refine lv_dup zx zb dX11_lookAt_195 rfl ?_
                  refine r_get (C := RX11) (T := TX11) (N := 18) (ci := 9) (v := .int (nI (t136_0 1))) S in_X11_lookAt_X11 G 0 rfl rfl 13 (by decide) lk_X11_lookAt_220 rfl dX11_lookAt_196 ?_
                  refine lv_iload_n zx zb dX11_lookAt_199 rfl (lv_at hl 0 rfl) ?_
                  refine lv_if_eq (tgt := 207) zx zb dX11_lookAt_200 (by decide) (fun c_63 => absurd c_63 (by decide)) (fun c_63 => ?_)
                  refine lv_iconst (v := 1) zx zb dX11_lookAt_203 (by decide) ?_
                  refine lv_goto (tgt := 208) zx zb dX11_lookAt_204 (by decide) ?_
                  refine r_iadd (v := (nI ((t136_0 1) + 1))) S (nI_add (t136_0 1) 1) dX11_lookAt_208 ?_
                  refine r_put (C := RX11) (T := TX11) (N := 18) (ci := 9) (v := .int (nI ((t136_0 1) + 1))) S in_X11_lookAt_X11 tyX11_ok nmX11 G 0 rfl rfl 13 (by decide) lk_X11_lookAt_220 rfl (vp_nar_int _) rfl (Nat.le_of_ble_eq_true rfl) dX11_lookAt_209 (fun H locs G => ?_)
                  obtain ⟨t_64, hI_t_64, ⟨hE_t_64_1, hE_t_64_0⟩, G⟩ : ∃ t_64 : Nat → Nat, InT t_64 ∧ (t_64 1 = ((t136_0 1) + 1) ∧ t_64 0 = t136_0 0) ∧ wd X (va_A (@HAppend.hAppend va_W va_W va_W _ (mW m0 ma la lb n t v) ([((ma 10), .inl (X.2.1, 150, .inl fd))])) sz) (va_A (@HAppend.hAppend va_W va_W va_W _ (mW m0 ma la lb n t v) ([((ma 10), .inl (X.2.1, 150, .inl fd))])) sz) s (@HAppend.hAppend va_W va_W va_W _ (mW m0 ma la lb n t_64 v_42) ([((ma 10), .inl (X.2.1, 150, .inl fd))])) H locs := ⟨upN t136_0 1 ((t136_0 1) + 1), ⟨ht0_t136_0, (by show ((t136_0 1) + 1) ≤ 150; omega)⟩, ⟨rfl, rfl⟩, G⟩
                  have hO_t_64 := hI_t_64
                  obtain ⟨ht0_t_64, ht1_t_64⟩ := hO_t_64
                  refine lv_goto (tgt := 136) zx zb dX11_lookAt_212 (by decide) ?_
                  have hl := lv_sub hl (l' := [(3, .int 1), (2, .int (fd (t_9 0))), (0, .ref m0), (1, .int (nI o))]) [0, 2, 3, 4] rfl
                  exact ih136 t_64 _ _ _ (by omega) ⟨by omega, by rw [show t_64 0 + t_64 1 = (t136_0 0 + t136_0 1) + 1 from by omega, ← scan_s (by omega) hl_62]; exact hx136_0.2⟩ hI_t_64 G hl
                · refine lv_istore_n (lv' := [(3, .int 0), (4, .int (fd ((t136_0 0) + (t136_0 1)))), (2, .int (fd (t_9 0))), (0, .ref m0), (1, .int (nI o))]) zx zb dX11_lookAt_193 rfl hl (by decide) rfl (fun ls hl => ?_)
                  refine lv_aload_n zx zb dX11_lookAt_194 rfl (lv_at hl 3 rfl) ?_
                  refine lv_dup zx zb dX11_lookAt_195 rfl ?_
                  refine r_get (C := RX11) (T := TX11) (N := 18) (ci := 9) (v := .int (nI (t136_0 1))) S in_X11_lookAt_X11 G 0 rfl rfl 13 (by decide) lk_X11_lookAt_220 rfl dX11_lookAt_196 ?_
                  refine lv_iload_n zx zb dX11_lookAt_199 rfl (lv_at hl 0 rfl) ?_
                  refine lv_if_eq (tgt := 207) zx zb dX11_lookAt_200 (by decide) (fun c_65 => ?_) (fun c_65 => absurd (by decide) c_65)
                  refine lv_iconst (v := 0) zx zb dX11_lookAt_207 (by decide) ?_
                  refine r_iadd (v := (nI ((t136_0 1) + 0))) S (nI_add (t136_0 1) 0) dX11_lookAt_208 ?_
                  refine r_put (C := RX11) (T := TX11) (N := 18) (ci := 9) (v := .int (nI ((t136_0 1) + 0))) S in_X11_lookAt_X11 tyX11_ok nmX11 G 0 rfl rfl 13 (by decide) lk_X11_lookAt_220 rfl (vp_nar_int _) rfl (Nat.le_of_ble_eq_true rfl) dX11_lookAt_209 (fun H locs G => ?_)
                  obtain ⟨t_66, hI_t_66, ⟨hE_t_66_1, hE_t_66_0⟩, G⟩ : ∃ t_66 : Nat → Nat, InT t_66 ∧ (t_66 1 = ((t136_0 1) + 0) ∧ t_66 0 = t136_0 0) ∧ wd X (va_A (@HAppend.hAppend va_W va_W va_W _ (mW m0 ma la lb n t v) ([((ma 10), .inl (X.2.1, 150, .inl fd))])) sz) (va_A (@HAppend.hAppend va_W va_W va_W _ (mW m0 ma la lb n t v) ([((ma 10), .inl (X.2.1, 150, .inl fd))])) sz) s (@HAppend.hAppend va_W va_W va_W _ (mW m0 ma la lb n t_66 v_42) ([((ma 10), .inl (X.2.1, 150, .inl fd))])) H locs := ⟨upN t136_0 1 ((t136_0 1) + 0), ⟨ht0_t136_0, (by show ((t136_0 1) + 0) ≤ 150; omega)⟩, ⟨rfl, rfl⟩, G⟩
                  have hO_t_66 := hI_t_66
                  obtain ⟨ht0_t_66, ht1_t_66⟩ := hO_t_66
                  refine lv_goto (tgt := 136) zx zb dX11_lookAt_212 (by decide) ?_
                  refine lv_iload_n zx zb dX11_lookAt_136 rfl (lv_at hl 0 rfl) ?_
                  refine lv_if_eq (tgt := 215) zx zb dX11_lookAt_137 (by decide) (fun c_67 => ?_) (fun c_67 => absurd (by decide) c_67)
                  have hEnd : t_66 0 + t_66 1 = scanP lqF fd n (t5_0 0) := (show t_66 0 + t_66 1 = t136_0 0 + t136_0 1 from by omega).trans ((scan_e (fun h => hl_62 h.2)).symm.trans hx136_0.2)
                  refine lv_iconst (v := 0) zx zb dX11_lookAt_215 (by decide) ?_
                  refine lv_istore (lv' := [(4, .int 0), (3, .int 0), (2, .int (fd (t_9 0))), (0, .ref m0), (1, .int (nI o))]) zx zb dX11_lookAt_216 hl (by decide) rfl (fun ls hl => ?_)
                  refine k_loop (P := ∀ (zm : Nat) (n218_4 : Nat) (v218_0 : Nat → Int32) (H : Heap) (locs : List Loc) (ls : Array Slot), ((2 - n218_4) < zm) → (n218_4 ≤ t_66 1 ∧ v218_0 0 = 2 ∧ v218_0 1 = vF fd (t5_0 0) n218_4) → (n218_4 ≤ 2) → wd X (va_A (@HAppend.hAppend va_W va_W va_W _ (mW m0 ma la lb n t v) ([((ma 10), .inl (X.2.1, 150, .inl fd))])) sz) (va_A (@HAppend.hAppend va_W va_W va_W _ (mW m0 ma la lb n t v) ([((ma 10), .inl (X.2.1, 150, .inl fd))])) sz) s (@HAppend.hAppend va_W va_W va_W _ (mW m0 ma la lb n t_66 v218_0) ([((ma 10), .inl (X.2.1, 150, .inl fd))])) H locs → lv_has ls 5 [(4, .int (nI n218_4)), (3, .int 0), (2, .int (fd (t_9 0))), (0, .ref m0), (1, .int (nI o))] → W p l e _ s m _ below meth c H locs _ _ _ (F0 m 218 ls [])) (fun loop => loop ((2 - 0) + 1) 0 v_42 _ _ _ (by omega) ⟨by omega, hE_v_42_0, hE_v_42_1.trans (hE_v_11_1)⟩ (by omega) G hl) ?_
                  intro zm
                  induction zm with
                  | zero => intro n218_4 v218_0 H locs ls zz q_x0 q_hk_n218_4 _ _; exact absurd zz (by omega)
                  | succ zm ih218 =>
                    intro n218_4 v218_0 H locs ls zm_218 hx218_0 hk_n218_4 G hl
                    refine lv_iload zx zb dX11_lookAt_218 (lv_at hl 0 rfl) ?_
                    refine lv_aload_n zx zb dX11_lookAt_220 rfl (lv_at hl 3 rfl) ?_
                    refine r_get (C := RX11) (T := TX11) (N := 18) (ci := 9) (v := .int (nI (t_66 1))) S in_X11_lookAt_X11 G 0 rfl rfl 13 (by decide) lk_X11_lookAt_220 rfl dX11_lookAt_221 ?_
                    refine lv_icmp_ge (tgt := 274) zx zb dX11_lookAt_224 (by decide) (fun c_68 => ?_) (fun c_68 => ?_)
                    · have fc_68 := j_le (a := (t_66 1)) (b := n218_4) (by omega) (by omega) c_68
                      refine lv_aload_n zx zb dX11_lookAt_274 rfl (lv_at hl 3 rfl) ?_
                      refine lv_aload_n zx zb dX11_lookAt_275 rfl (lv_at hl 3 rfl) ?_
                      refine r_get (C := RX11) (T := TX11) (N := 18) (ci := 9) (v := .int (v218_0 0)) S in_X11_lookAt_X11 G 0 rfl rfl 14 (by decide) lk_X11_lookAt_223 rfl dX11_lookAt_276 ?_
                      refine lv_iconst (v := 2) zx zb dX11_lookAt_279 (by decide) ?_
                      refine lv_icmp_ne (tgt := 295) zx zb dX11_lookAt_280 (by decide) (fun c_69 => absurd (hx218_0.2.1) c_69) (fun c_69 => ?_)
                      refine lv_aload_n zx zb dX11_lookAt_283 rfl (lv_at hl 3 rfl) ?_
                      refine r_get (C := RX11) (T := TX11) (N := 18) (ci := 9) (v := .int (nI (t_66 1))) S in_X11_lookAt_X11 G 0 rfl rfl 13 (by decide) lk_X11_lookAt_220 rfl dX11_lookAt_284 ?_
                      refine lv_iconst (v := 2) zx zb dX11_lookAt_287 (by decide) ?_
                      refine lv_icmp_le (tgt := 295) zx zb dX11_lookAt_288 (by decide) (fun c_70 => ?_) (fun c_70 => ?_)
                      · have fc_70 := j_le (a := (t_66 1)) (b := 2) (by omega) (by omega) c_70
                        refine lv_aload_n zx zb dX11_lookAt_295 rfl (lv_at hl 3 rfl) ?_
                        refine r_get (C := RX11) (T := TX11) (N := 18) (ci := 9) (v := .int (v218_0 0)) S in_X11_lookAt_X11 G 0 rfl rfl 14 (by decide) lk_X11_lookAt_223 rfl dX11_lookAt_296 ?_
                        refine r_put (C := RX11) (T := TX11) (N := 18) (ci := 9) (v := .int (v218_0 0)) S in_X11_lookAt_X11 tyX11_ok nmX11 G 0 rfl rfl 14 (by decide) lk_X11_lookAt_223 rfl (vp_nar_int _) rfl (Nat.le_of_ble_eq_true rfl) dX11_lookAt_299 (fun H locs G => ?_)
                        obtain ⟨v_71, ⟨hE_v_71_0, hE_v_71_1⟩, G⟩ : ∃ v_71 : Nat → Int32, (v_71 0 = (v218_0 0) ∧ v_71 1 = v218_0 1) ∧ wd X (va_A (@HAppend.hAppend va_W va_W va_W _ (mW m0 ma la lb n t v) ([((ma 10), .inl (X.2.1, 150, .inl fd))])) sz) (va_A (@HAppend.hAppend va_W va_W va_W _ (mW m0 ma la lb n t v) ([((ma 10), .inl (X.2.1, 150, .inl fd))])) sz) s (@HAppend.hAppend va_W va_W va_W _ (mW m0 ma la lb n t_66 v_71) ([((ma 10), .inl (X.2.1, 150, .inl fd))])) H locs := ⟨upd v218_0 0 (v218_0 0), ⟨rfl, rfl⟩, G⟩
                        exact e_void S zr zlk G (t_66, v_71) [0, 1] rfl rfl (Or.inr rfl) (⟨hI_t_66, by rw [hs]; have hn : (t5_0 0) < n := (by first | omega | (dsimp only; omega)); have hc : ¬ lqL (fd (t5_0 0)) = true := (by rw [← hta]; exact hl_14); have hd : lqF (fd (t5_0 0)) = true := (by rw [← hta]; exact hl_40); exact ⟨by first | omega | (dsimp only; omega), hEnd.trans (tok_fig hn hc hd).1.symm, (hE_v_71_0.trans hx218_0.2.1).trans ((tok_fig hn hc hd).2.trans (if_pos (by first | omega | (dsimp only; omega)))).symm, fun _ => by rw [tV, (tok_fig hn hc hd).1, ← hEnd, show t_66 0 + t_66 1 - (t5_0 0) = n218_4 from by first | omega | (dsimp only; omega)]; exact hE_v_71_1.trans hx218_0.2.2, by first | omega | (dsimp only; omega)⟩⟩) dX11_lookAt_302
                      · have fc_70 := j_nle (a := (t_66 1)) (b := 2) (by omega) (by omega) c_70
                        refine lv_iconst (v := 4) zx zb dX11_lookAt_291 (by decide) ?_
                        refine lv_goto (tgt := 299) zx zb dX11_lookAt_292 (by decide) ?_
                        refine r_put (C := RX11) (T := TX11) (N := 18) (ci := 9) (v := .int 4) S in_X11_lookAt_X11 tyX11_ok nmX11 G 0 rfl rfl 14 (by decide) lk_X11_lookAt_223 rfl (vp_nar_int _) rfl (Nat.le_of_ble_eq_true rfl) dX11_lookAt_299 (fun H locs G => ?_)
                        obtain ⟨v_72, ⟨hE_v_72_0, hE_v_72_1⟩, G⟩ : ∃ v_72 : Nat → Int32, (v_72 0 = 4 ∧ v_72 1 = v218_0 1) ∧ wd X (va_A (@HAppend.hAppend va_W va_W va_W _ (mW m0 ma la lb n t v) ([((ma 10), .inl (X.2.1, 150, .inl fd))])) sz) (va_A (@HAppend.hAppend va_W va_W va_W _ (mW m0 ma la lb n t v) ([((ma 10), .inl (X.2.1, 150, .inl fd))])) sz) s (@HAppend.hAppend va_W va_W va_W _ (mW m0 ma la lb n t_66 v_72) ([((ma 10), .inl (X.2.1, 150, .inl fd))])) H locs := ⟨upd v218_0 0 4, ⟨rfl, rfl⟩, G⟩
                        exact e_void S zr zlk G (t_66, v_72) [0, 1] rfl rfl (Or.inr rfl) (⟨hI_t_66, by rw [hs]; have hn : (t5_0 0) < n := (by first | omega | (dsimp only; omega)); have hc : ¬ lqL (fd (t5_0 0)) = true := (by rw [← hta]; exact hl_14); have hd : lqF (fd (t5_0 0)) = true := (by rw [← hta]; exact hl_40); have h4 : tK fd n (t5_0 0) = 4 := ((tok_fig hn hc hd).2.trans (if_neg (by first | omega | (dsimp only; omega)))); exact ⟨by first | omega | (dsimp only; omega), hEnd.trans (tok_fig hn hc hd).1.symm, hE_v_72_0.trans h4.symm, fun h => absurd (h.symm.trans h4) (by decide), by first | omega | (dsimp only; omega)⟩⟩) dX11_lookAt_302
                    · have fc_68 := j_nle (a := (t_66 1)) (b := n218_4) (by omega) (by omega) c_68
                      refine lv_iload zx zb dX11_lookAt_227 (lv_at hl 0 rfl) ?_
                      refine lv_iconst (v := 2) zx zb dX11_lookAt_229 (by decide) ?_
                      refine lv_icmp_ge (tgt := 274) zx zb dX11_lookAt_230 (by decide) (fun c_73 => ?_) (fun c_73 => ?_)
                      · have fc_73 := j_le (a := 2) (b := n218_4) (by omega) (by omega) c_73
                        refine lv_aload_n zx zb dX11_lookAt_274 rfl (lv_at hl 3 rfl) ?_
                        refine lv_aload_n zx zb dX11_lookAt_275 rfl (lv_at hl 3 rfl) ?_
                        refine r_get (C := RX11) (T := TX11) (N := 18) (ci := 9) (v := .int (v218_0 0)) S in_X11_lookAt_X11 G 0 rfl rfl 14 (by decide) lk_X11_lookAt_223 rfl dX11_lookAt_276 ?_
                        refine lv_iconst (v := 2) zx zb dX11_lookAt_279 (by decide) ?_
                        refine lv_icmp_ne (tgt := 295) zx zb dX11_lookAt_280 (by decide) (fun c_74 => absurd (hx218_0.2.1) c_74) (fun c_74 => ?_)
                        refine lv_aload_n zx zb dX11_lookAt_283 rfl (lv_at hl 3 rfl) ?_
                        refine r_get (C := RX11) (T := TX11) (N := 18) (ci := 9) (v := .int (nI (t_66 1))) S in_X11_lookAt_X11 G 0 rfl rfl 13 (by decide) lk_X11_lookAt_220 rfl dX11_lookAt_284 ?_
                        refine lv_iconst (v := 2) zx zb dX11_lookAt_287 (by decide) ?_
                        refine lv_icmp_le (tgt := 295) zx zb dX11_lookAt_288 (by decide) (fun c_75 => ?_) (fun c_75 => ?_)
                        · have fc_75 := j_le (a := (t_66 1)) (b := 2) (by omega) (by omega) c_75
                          refine lv_aload_n zx zb dX11_lookAt_295 rfl (lv_at hl 3 rfl) ?_
                          refine r_get (C := RX11) (T := TX11) (N := 18) (ci := 9) (v := .int (v218_0 0)) S in_X11_lookAt_X11 G 0 rfl rfl 14 (by decide) lk_X11_lookAt_223 rfl dX11_lookAt_296 ?_
                          refine r_put (C := RX11) (T := TX11) (N := 18) (ci := 9) (v := .int (v218_0 0)) S in_X11_lookAt_X11 tyX11_ok nmX11 G 0 rfl rfl 14 (by decide) lk_X11_lookAt_223 rfl (vp_nar_int _) rfl (Nat.le_of_ble_eq_true rfl) dX11_lookAt_299 (fun H locs G => ?_)
                          obtain ⟨v_76, ⟨hE_v_76_0, hE_v_76_1⟩, G⟩ : ∃ v_76 : Nat → Int32, (v_76 0 = (v218_0 0) ∧ v_76 1 = v218_0 1) ∧ wd X (va_A (@HAppend.hAppend va_W va_W va_W _ (mW m0 ma la lb n t v) ([((ma 10), .inl (X.2.1, 150, .inl fd))])) sz) (va_A (@HAppend.hAppend va_W va_W va_W _ (mW m0 ma la lb n t v) ([((ma 10), .inl (X.2.1, 150, .inl fd))])) sz) s (@HAppend.hAppend va_W va_W va_W _ (mW m0 ma la lb n t_66 v_76) ([((ma 10), .inl (X.2.1, 150, .inl fd))])) H locs := ⟨upd v218_0 0 (v218_0 0), ⟨rfl, rfl⟩, G⟩
                          exact e_void S zr zlk G (t_66, v_76) [0, 1] rfl rfl (Or.inr rfl) (⟨hI_t_66, by rw [hs]; have hn : (t5_0 0) < n := (by first | omega | (dsimp only; omega)); have hc : ¬ lqL (fd (t5_0 0)) = true := (by rw [← hta]; exact hl_14); have hd : lqF (fd (t5_0 0)) = true := (by rw [← hta]; exact hl_40); exact ⟨by first | omega | (dsimp only; omega), hEnd.trans (tok_fig hn hc hd).1.symm, (hE_v_76_0.trans hx218_0.2.1).trans ((tok_fig hn hc hd).2.trans (if_pos (by first | omega | (dsimp only; omega)))).symm, fun _ => by rw [tV, (tok_fig hn hc hd).1, ← hEnd, show t_66 0 + t_66 1 - (t5_0 0) = n218_4 from by first | omega | (dsimp only; omega)]; exact hE_v_76_1.trans hx218_0.2.2, by first | omega | (dsimp only; omega)⟩⟩) dX11_lookAt_302
                        · have fc_75 := j_nle (a := (t_66 1)) (b := 2) (by omega) (by omega) c_75
                          refine lv_iconst (v := 4) zx zb dX11_lookAt_291 (by decide) ?_
                          refine lv_goto (tgt := 299) zx zb dX11_lookAt_292 (by decide) ?_
                          refine r_put (C := RX11) (T := TX11) (N := 18) (ci := 9) (v := .int 4) S in_X11_lookAt_X11 tyX11_ok nmX11 G 0 rfl rfl 14 (by decide) lk_X11_lookAt_223 rfl (vp_nar_int _) rfl (Nat.le_of_ble_eq_true rfl) dX11_lookAt_299 (fun H locs G => ?_)
                          obtain ⟨v_77, ⟨hE_v_77_0, hE_v_77_1⟩, G⟩ : ∃ v_77 : Nat → Int32, (v_77 0 = 4 ∧ v_77 1 = v218_0 1) ∧ wd X (va_A (@HAppend.hAppend va_W va_W va_W _ (mW m0 ma la lb n t v) ([((ma 10), .inl (X.2.1, 150, .inl fd))])) sz) (va_A (@HAppend.hAppend va_W va_W va_W _ (mW m0 ma la lb n t v) ([((ma 10), .inl (X.2.1, 150, .inl fd))])) sz) s (@HAppend.hAppend va_W va_W va_W _ (mW m0 ma la lb n t_66 v_77) ([((ma 10), .inl (X.2.1, 150, .inl fd))])) H locs := ⟨upd v218_0 0 4, ⟨rfl, rfl⟩, G⟩
                          exact e_void S zr zlk G (t_66, v_77) [0, 1] rfl rfl (Or.inr rfl) (⟨hI_t_66, by rw [hs]; have hn : (t5_0 0) < n := (by first | omega | (dsimp only; omega)); have hc : ¬ lqL (fd (t5_0 0)) = true := (by rw [← hta]; exact hl_14); have hd : lqF (fd (t5_0 0)) = true := (by rw [← hta]; exact hl_40); have h4 : tK fd n (t5_0 0) = 4 := ((tok_fig hn hc hd).2.trans (if_neg (by first | omega | (dsimp only; omega)))); exact ⟨by first | omega | (dsimp only; omega), hEnd.trans (tok_fig hn hc hd).1.symm, hE_v_77_0.trans h4.symm, fun h => absurd (h.symm.trans h4) (by decide), by first | omega | (dsimp only; omega)⟩⟩) dX11_lookAt_302
                      · have fc_73 := j_nle (a := 2) (b := n218_4) (by omega) (by omega) c_73
                        refine lv_aload_n zx zb dX11_lookAt_233 rfl (lv_at hl 3 rfl) ?_
                        refine r_get (C := RX11) (T := TX11) (N := 18) (ci := 9) (v := .int (v218_0 0)) S in_X11_lookAt_X11 G 0 rfl rfl 14 (by decide) lk_X11_lookAt_223 rfl dX11_lookAt_234 ?_
                        refine lv_iconst (v := 2) zx zb dX11_lookAt_237 (by decide) ?_
                        refine lv_icmp_ne (tgt := 274) zx zb dX11_lookAt_238 (by decide) (fun c_78 => absurd (hx218_0.2.1) c_78) (fun c_78 => ?_)
                        refine lv_aload_n zx zb dX11_lookAt_241 rfl (lv_at hl 3 rfl) ?_
                        refine lv_bipush (v := 10) zx zb dX11_lookAt_242 (by decide) ?_
                        refine lv_aload_n zx zb dX11_lookAt_244 rfl (lv_at hl 3 rfl) ?_
                        refine r_get (C := RX11) (T := TX11) (N := 18) (ci := 9) (v := .int (v218_0 1)) S in_X11_lookAt_X11 G 0 rfl rfl 15 (by decide) lk_X11_lookAt_226 rfl dX11_lookAt_245 ?_
                        refine r_imul (v := (10 * (v218_0 1))) S rfl dX11_lookAt_248 ?_
                        refine lv_aload_n zx zb dX11_lookAt_249 rfl (lv_at hl 3 rfl) ?_
                        refine r_get (C := RX11) (T := TX11) (N := 18) (ci := 9) (v := .ref (ma 10)) S in_X11_lookAt_X11 G 0 rfl rfl 10 (by decide) lk_X11_lookAt_39 rfl dX11_lookAt_250 ?_
                        refine lv_aload_n zx zb dX11_lookAt_253 rfl (lv_at hl 3 rfl) ?_
                        refine r_get (C := RX11) (T := TX11) (N := 18) (ci := 9) (v := .int (nI (t_66 0))) S in_X11_lookAt_X11 G 0 rfl rfl 12 (by decide) lk_X11_lookAt_217 rfl dX11_lookAt_254 ?_
                        refine lv_iload zx zb dX11_lookAt_257 (lv_at hl 0 rfl) ?_
                        refine r_iadd (v := (nI ((t_66 0) + n218_4))) S (nI_add (t_66 0) n218_4) dX11_lookAt_259 ?_
                        refine r_iald (v := (fd ((t_66 0) + n218_4))) S G 1 rfl (vp_in_nI (by omega) (by decide)) (congrArg fd (nI_clamp (by omega))) dX11_lookAt_260 ?_
                        refine r_iadd (v := ((10 * (v218_0 1)) + (fd ((t_66 0) + n218_4)))) S rfl dX11_lookAt_261 ?_
                        refine lv_bipush (v := 48) zx zb dX11_lookAt_262 (by decide) ?_
                        refine r_isub (v := (((10 * (v218_0 1)) + (fd ((t_66 0) + n218_4))) - 48)) S rfl dX11_lookAt_264 ?_
                        refine r_put (C := RX11) (T := TX11) (N := 18) (ci := 9) (v := .int (((10 * (v218_0 1)) + (fd ((t_66 0) + n218_4))) - 48)) S in_X11_lookAt_X11 tyX11_ok nmX11 G 0 rfl rfl 15 (by decide) lk_X11_lookAt_226 rfl (vp_nar_int _) rfl (Nat.le_of_ble_eq_true rfl) dX11_lookAt_265 (fun H locs G => ?_)
                        obtain ⟨v_80, ⟨hE_v_80_1, hE_v_80_0⟩, G⟩ : ∃ v_80 : Nat → Int32, (v_80 1 = (((10 * (v218_0 1)) + (fd ((t_66 0) + n218_4))) - 48) ∧ v_80 0 = v218_0 0) ∧ wd X (va_A (@HAppend.hAppend va_W va_W va_W _ (mW m0 ma la lb n t v) ([((ma 10), .inl (X.2.1, 150, .inl fd))])) sz) (va_A (@HAppend.hAppend va_W va_W va_W _ (mW m0 ma la lb n t v) ([((ma 10), .inl (X.2.1, 150, .inl fd))])) sz) s (@HAppend.hAppend va_W va_W va_W _ (mW m0 ma la lb n t_66 v_80) ([((ma 10), .inl (X.2.1, 150, .inl fd))])) H locs := ⟨upd v218_0 1 (((10 * (v218_0 1)) + (fd ((t_66 0) + n218_4))) - 48), ⟨rfl, rfl⟩, G⟩
                        refine lv_iinc (v := (nI (n218_4 + 1))) (lv' := [(4, .int (nI (n218_4 + 1))), (3, .int 0), (2, .int (fd (t_9 0))), (0, .ref m0), (1, .int (nI o))]) zx zb dX11_lookAt_268 hl (k := 0) rfl (nI_add n218_4 1) (by decide) rfl (fun ls hl => ?_)
                        refine lv_goto (tgt := 218) zx zb dX11_lookAt_271 (by decide) ?_
                        exact ih218 (n218_4 + 1) v_80 _ _ _ (by omega) ⟨by omega, hE_v_80_0.trans hx218_0.2.1, hE_v_80_1.trans (by rw [hx218_0.2.2, show t_66 0 + n218_4 = (t5_0 0) + n218_4 from by omega]; first | done | rfl)⟩ (by omega) G hl
          · refine lv_if_eq (tgt := 103) zx zb dX11_lookAt_96 (by decide) (fun c_81 => ?_) (fun c_81 => absurd (by decide) c_81)
            refine lv_iload_n zx zb dX11_lookAt_103 rfl (lv_at hl 0 rfl) ?_
            refine lv_bipush (v := 59) zx zb dX11_lookAt_104 (by decide) ?_
            refine lv_icmp_ne (tgt := 113) zx zb dX11_lookAt_106 (by decide) (fun c_82 => ?_) (fun c_82 => ?_)
            · refine lv_iconst (v := 4) zx zb dX11_lookAt_113 (by decide) ?_
              refine r_put (C := RX11) (T := TX11) (N := 18) (ci := 9) (v := .int 4) S in_X11_lookAt_X11 tyX11_ok nmX11 G 0 rfl rfl 14 (by decide) lk_X11_lookAt_223 rfl (vp_nar_int _) rfl (Nat.le_of_ble_eq_true rfl) dX11_lookAt_114 (fun H locs G => ?_)
              obtain ⟨v_83, ⟨hE_v_83_0, hE_v_83_1⟩, G⟩ : ∃ v_83 : Nat → Int32, (v_83 0 = 4 ∧ v_83 1 = v_11 1) ∧ wd X (va_A (@HAppend.hAppend va_W va_W va_W _ (mW m0 ma la lb n t v) ([((ma 10), .inl (X.2.1, 150, .inl fd))])) sz) (va_A (@HAppend.hAppend va_W va_W va_W _ (mW m0 ma la lb n t v) ([((ma 10), .inl (X.2.1, 150, .inl fd))])) sz) s (@HAppend.hAppend va_W va_W va_W _ (mW m0 ma la lb n t_9 v_83) ([((ma 10), .inl (X.2.1, 150, .inl fd))])) H locs := ⟨upd v_11 0 4, ⟨rfl, rfl⟩, G⟩
              refine lv_aload_n zx zb dX11_lookAt_117 rfl (lv_at hl 1 rfl) ?_
              refine lv_iconst (v := 1) zx zb dX11_lookAt_118 (by decide) ?_
              refine r_put (C := RX11) (T := TX11) (N := 18) (ci := 9) (v := .int 1) S in_X11_lookAt_X11 tyX11_ok nmX11 G 0 rfl rfl 13 (by decide) lk_X11_lookAt_220 rfl (vp_nar_int _) rfl (Nat.le_of_ble_eq_true rfl) dX11_lookAt_119 (fun H locs G => ?_)
              obtain ⟨t_84, hI_t_84, ⟨hE_t_84_1, hE_t_84_0⟩, G⟩ : ∃ t_84 : Nat → Nat, InT t_84 ∧ (t_84 1 = 1 ∧ t_84 0 = t_9 0) ∧ wd X (va_A (@HAppend.hAppend va_W va_W va_W _ (mW m0 ma la lb n t v) ([((ma 10), .inl (X.2.1, 150, .inl fd))])) sz) (va_A (@HAppend.hAppend va_W va_W va_W _ (mW m0 ma la lb n t v) ([((ma 10), .inl (X.2.1, 150, .inl fd))])) sz) s (@HAppend.hAppend va_W va_W va_W _ (mW m0 ma la lb n t_84 v_83) ([((ma 10), .inl (X.2.1, 150, .inl fd))])) H locs := ⟨upN t_9 1 1, ⟨ht0_t_9, (by show 1 ≤ 150; omega)⟩, ⟨rfl, rfl⟩, G⟩
              have hO_t_84 := hI_t_84
              obtain ⟨ht0_t_84, ht1_t_84⟩ := hO_t_84
              refine lv_aload_n zx zb dX11_lookAt_122 rfl (lv_at hl 1 rfl) ?_
              refine r_get (C := RX11) (T := TX11) (N := 18) (ci := 9) (v := .int (v_83 0)) S in_X11_lookAt_X11 G 0 rfl rfl 14 (by decide) lk_X11_lookAt_223 rfl dX11_lookAt_123 ?_
              refine lv_iconst (v := 3) zx zb dX11_lookAt_126 (by decide) ?_
              refine lv_icmp_ge (tgt := 134) zx zb dX11_lookAt_127 (by decide) (fun c_85 => ?_) (fun c_85 => absurd (by rw [hE_v_83_0]; decide) c_85)
              refine lv_iconst (v := 0) zx zb dX11_lookAt_134 (by decide) ?_
              refine lv_istore_n (lv' := [(3, .int 0), (2, .int (fd (t_9 0))), (0, .ref m0), (1, .int (nI o))]) zx zb dX11_lookAt_135 rfl hl (by decide) rfl (fun ls hl => ?_)
              refine lv_iload_n zx zb dX11_lookAt_136 rfl (lv_at hl 0 rfl) ?_
              refine lv_if_eq (tgt := 215) zx zb dX11_lookAt_137 (by decide) (fun c_86 => ?_) (fun c_86 => absurd (by decide) c_86)
              refine lv_iconst (v := 0) zx zb dX11_lookAt_215 (by decide) ?_
              refine lv_istore (lv' := [(4, .int 0), (3, .int 0), (2, .int (fd (t_9 0))), (0, .ref m0), (1, .int (nI o))]) zx zb dX11_lookAt_216 hl (by decide) rfl (fun ls hl => ?_)
              refine lv_iload zx zb dX11_lookAt_218 (lv_at hl 0 rfl) ?_
              refine lv_aload_n zx zb dX11_lookAt_220 rfl (lv_at hl 3 rfl) ?_
              refine r_get (C := RX11) (T := TX11) (N := 18) (ci := 9) (v := .int (nI (t_84 1))) S in_X11_lookAt_X11 G 0 rfl rfl 13 (by decide) lk_X11_lookAt_220 rfl dX11_lookAt_221 ?_
              refine lv_icmp_ge (tgt := 274) zx zb dX11_lookAt_224 (by decide) (fun c_87 => absurd c_87 (fun q => absurd (j_le (a := (t_84 1)) (b := 0) (by omega) (by omega) q) (by omega))) (fun c_87 => ?_)
              refine lv_iload zx zb dX11_lookAt_227 (lv_at hl 0 rfl) ?_
              refine lv_iconst (v := 2) zx zb dX11_lookAt_229 (by decide) ?_
              refine lv_icmp_ge (tgt := 274) zx zb dX11_lookAt_230 (by decide) (fun c_88 => absurd c_88 (by decide)) (fun c_88 => ?_)
              refine lv_aload_n zx zb dX11_lookAt_233 rfl (lv_at hl 3 rfl) ?_
              refine r_get (C := RX11) (T := TX11) (N := 18) (ci := 9) (v := .int (v_83 0)) S in_X11_lookAt_X11 G 0 rfl rfl 14 (by decide) lk_X11_lookAt_223 rfl dX11_lookAt_234 ?_
              refine lv_iconst (v := 2) zx zb dX11_lookAt_237 (by decide) ?_
              refine lv_icmp_ne (tgt := 274) zx zb dX11_lookAt_238 (by decide) (fun c_89 => ?_) (fun c_89 => absurd c_89 (by rw [hE_v_83_0]; decide))
              refine lv_aload_n zx zb dX11_lookAt_274 rfl (lv_at hl 3 rfl) ?_
              refine lv_aload_n zx zb dX11_lookAt_275 rfl (lv_at hl 3 rfl) ?_
              refine r_get (C := RX11) (T := TX11) (N := 18) (ci := 9) (v := .int (v_83 0)) S in_X11_lookAt_X11 G 0 rfl rfl 14 (by decide) lk_X11_lookAt_223 rfl dX11_lookAt_276 ?_
              refine lv_iconst (v := 2) zx zb dX11_lookAt_279 (by decide) ?_
              refine lv_icmp_ne (tgt := 295) zx zb dX11_lookAt_280 (by decide) (fun c_90 => ?_) (fun c_90 => absurd c_90 (by rw [hE_v_83_0]; decide))
              refine lv_aload_n zx zb dX11_lookAt_295 rfl (lv_at hl 3 rfl) ?_
              refine r_get (C := RX11) (T := TX11) (N := 18) (ci := 9) (v := .int (v_83 0)) S in_X11_lookAt_X11 G 0 rfl rfl 14 (by decide) lk_X11_lookAt_223 rfl dX11_lookAt_296 ?_
              refine r_put (C := RX11) (T := TX11) (N := 18) (ci := 9) (v := .int (v_83 0)) S in_X11_lookAt_X11 tyX11_ok nmX11 G 0 rfl rfl 14 (by decide) lk_X11_lookAt_223 rfl (vp_nar_int _) rfl (Nat.le_of_ble_eq_true rfl) dX11_lookAt_299 (fun H locs G => ?_)
              obtain ⟨v_91, ⟨hE_v_91_0, hE_v_91_1⟩, G⟩ : ∃ v_91 : Nat → Int32, (v_91 0 = (v_83 0) ∧ v_91 1 = v_83 1) ∧ wd X (va_A (@HAppend.hAppend va_W va_W va_W _ (mW m0 ma la lb n t v) ([((ma 10), .inl (X.2.1, 150, .inl fd))])) sz) (va_A (@HAppend.hAppend va_W va_W va_W _ (mW m0 ma la lb n t v) ([((ma 10), .inl (X.2.1, 150, .inl fd))])) sz) s (@HAppend.hAppend va_W va_W va_W _ (mW m0 ma la lb n t_84 v_91) ([((ma 10), .inl (X.2.1, 150, .inl fd))])) H locs := ⟨upd v_83 0 (v_83 0), ⟨rfl, rfl⟩, G⟩
              exact e_void S zr zlk G (t_84, v_91) [0, 1] rfl rfl (Or.inr rfl) (⟨hI_t_84, by rw [hs]; have hn : (t5_0 0) < n := (by first | omega | (dsimp only; omega)); have hc : ¬ lqL (fd (t5_0 0)) = true := (by rw [← hta]; exact hl_14); have hd : ¬ lqF (fd (t5_0 0)) = true := (by rw [← hta]; exact hl_40); have he : ¬ fd (t5_0 0) = 59 := (by rw [← hta]; exact c_82); have h4 : tK fd n (t5_0 0) = 4 := ((tok_oth hn hc hd).2.trans (if_neg he)); exact ⟨by first | omega | (dsimp only; omega), by rw [(tok_oth hn hc hd).1]; first | omega | (dsimp only; omega), (hE_v_91_0.trans (hE_v_83_0)).trans h4.symm, fun h => absurd (h.symm.trans h4) (by decide), by first | omega | (dsimp only; omega)⟩⟩) dX11_lookAt_302
            · refine lv_iconst (v := 3) zx zb dX11_lookAt_109 (by decide) ?_
              refine lv_goto (tgt := 114) zx zb dX11_lookAt_110 (by decide) ?_
              refine r_put (C := RX11) (T := TX11) (N := 18) (ci := 9) (v := .int 3) S in_X11_lookAt_X11 tyX11_ok nmX11 G 0 rfl rfl 14 (by decide) lk_X11_lookAt_223 rfl (vp_nar_int _) rfl (Nat.le_of_ble_eq_true rfl) dX11_lookAt_114 (fun H locs G => ?_)
              obtain ⟨v_92, ⟨hE_v_92_0, hE_v_92_1⟩, G⟩ : ∃ v_92 : Nat → Int32, (v_92 0 = 3 ∧ v_92 1 = v_11 1) ∧ wd X (va_A (@HAppend.hAppend va_W va_W va_W _ (mW m0 ma la lb n t v) ([((ma 10), .inl (X.2.1, 150, .inl fd))])) sz) (va_A (@HAppend.hAppend va_W va_W va_W _ (mW m0 ma la lb n t v) ([((ma 10), .inl (X.2.1, 150, .inl fd))])) sz) s (@HAppend.hAppend va_W va_W va_W _ (mW m0 ma la lb n t_9 v_92) ([((ma 10), .inl (X.2.1, 150, .inl fd))])) H locs := ⟨upd v_11 0 3, ⟨rfl, rfl⟩, G⟩
              refine lv_aload_n zx zb dX11_lookAt_117 rfl (lv_at hl 1 rfl) ?_
              refine lv_iconst (v := 1) zx zb dX11_lookAt_118 (by decide) ?_
              refine r_put (C := RX11) (T := TX11) (N := 18) (ci := 9) (v := .int 1) S in_X11_lookAt_X11 tyX11_ok nmX11 G 0 rfl rfl 13 (by decide) lk_X11_lookAt_220 rfl (vp_nar_int _) rfl (Nat.le_of_ble_eq_true rfl) dX11_lookAt_119 (fun H locs G => ?_)
              obtain ⟨t_93, hI_t_93, ⟨hE_t_93_1, hE_t_93_0⟩, G⟩ : ∃ t_93 : Nat → Nat, InT t_93 ∧ (t_93 1 = 1 ∧ t_93 0 = t_9 0) ∧ wd X (va_A (@HAppend.hAppend va_W va_W va_W _ (mW m0 ma la lb n t v) ([((ma 10), .inl (X.2.1, 150, .inl fd))])) sz) (va_A (@HAppend.hAppend va_W va_W va_W _ (mW m0 ma la lb n t v) ([((ma 10), .inl (X.2.1, 150, .inl fd))])) sz) s (@HAppend.hAppend va_W va_W va_W _ (mW m0 ma la lb n t_93 v_92) ([((ma 10), .inl (X.2.1, 150, .inl fd))])) H locs := ⟨upN t_9 1 1, ⟨ht0_t_9, (by show 1 ≤ 150; omega)⟩, ⟨rfl, rfl⟩, G⟩
              have hO_t_93 := hI_t_93
              obtain ⟨ht0_t_93, ht1_t_93⟩ := hO_t_93
              refine lv_aload_n zx zb dX11_lookAt_122 rfl (lv_at hl 1 rfl) ?_
              refine r_get (C := RX11) (T := TX11) (N := 18) (ci := 9) (v := .int (v_92 0)) S in_X11_lookAt_X11 G 0 rfl rfl 14 (by decide) lk_X11_lookAt_223 rfl dX11_lookAt_123 ?_
              refine lv_iconst (v := 3) zx zb dX11_lookAt_126 (by decide) ?_
              refine lv_icmp_ge (tgt := 134) zx zb dX11_lookAt_127 (by decide) (fun c_94 => ?_) (fun c_94 => absurd (by rw [hE_v_92_0]; decide) c_94)
              refine lv_iconst (v := 0) zx zb dX11_lookAt_134 (by decide) ?_
              refine lv_istore_n (lv' := [(3, .int 0), (2, .int (fd (t_9 0))), (0, .ref m0), (1, .int (nI o))]) zx zb dX11_lookAt_135 rfl hl (by decide) rfl (fun ls hl => ?_)
              refine lv_iload_n zx zb dX11_lookAt_136 rfl (lv_at hl 0 rfl) ?_
              refine lv_if_eq (tgt := 215) zx zb dX11_lookAt_137 (by decide) (fun c_95 => ?_) (fun c_95 => absurd (by decide) c_95)
              refine lv_iconst (v := 0) zx zb dX11_lookAt_215 (by decide) ?_
              refine lv_istore (lv' := [(4, .int 0), (3, .int 0), (2, .int (fd (t_9 0))), (0, .ref m0), (1, .int (nI o))]) zx zb dX11_lookAt_216 hl (by decide) rfl (fun ls hl => ?_)
              refine lv_iload zx zb dX11_lookAt_218 (lv_at hl 0 rfl) ?_
              refine lv_aload_n zx zb dX11_lookAt_220 rfl (lv_at hl 3 rfl) ?_
              refine r_get (C := RX11) (T := TX11) (N := 18) (ci := 9) (v := .int (nI (t_93 1))) S in_X11_lookAt_X11 G 0 rfl rfl 13 (by decide) lk_X11_lookAt_220 rfl dX11_lookAt_221 ?_
              refine lv_icmp_ge (tgt := 274) zx zb dX11_lookAt_224 (by decide) (fun c_96 => absurd c_96 (fun q => absurd (j_le (a := (t_93 1)) (b := 0) (by omega) (by omega) q) (by omega))) (fun c_96 => ?_)
              refine lv_iload zx zb dX11_lookAt_227 (lv_at hl 0 rfl) ?_
              refine lv_iconst (v := 2) zx zb dX11_lookAt_229 (by decide) ?_
              refine lv_icmp_ge (tgt := 274) zx zb dX11_lookAt_230 (by decide) (fun c_97 => absurd c_97 (by decide)) (fun c_97 => ?_)
              refine lv_aload_n zx zb dX11_lookAt_233 rfl (lv_at hl 3 rfl) ?_
              refine r_get (C := RX11) (T := TX11) (N := 18) (ci := 9) (v := .int (v_92 0)) S in_X11_lookAt_X11 G 0 rfl rfl 14 (by decide) lk_X11_lookAt_223 rfl dX11_lookAt_234 ?_
              refine lv_iconst (v := 2) zx zb dX11_lookAt_237 (by decide) ?_
              refine lv_icmp_ne (tgt := 274) zx zb dX11_lookAt_238 (by decide) (fun c_98 => ?_) (fun c_98 => absurd c_98 (by rw [hE_v_92_0]; decide))
              refine lv_aload_n zx zb dX11_lookAt_274 rfl (lv_at hl 3 rfl) ?_
              refine lv_aload_n zx zb dX11_lookAt_275 rfl (lv_at hl 3 rfl) ?_
              refine r_get (C := RX11) (T := TX11) (N := 18) (ci := 9) (v := .int (v_92 0)) S in_X11_lookAt_X11 G 0 rfl rfl 14 (by decide) lk_X11_lookAt_223 rfl dX11_lookAt_276 ?_
              refine lv_iconst (v := 2) zx zb dX11_lookAt_279 (by decide) ?_
              refine lv_icmp_ne (tgt := 295) zx zb dX11_lookAt_280 (by decide) (fun c_99 => ?_) (fun c_99 => absurd c_99 (by rw [hE_v_92_0]; decide))
              refine lv_aload_n zx zb dX11_lookAt_295 rfl (lv_at hl 3 rfl) ?_
              refine r_get (C := RX11) (T := TX11) (N := 18) (ci := 9) (v := .int (v_92 0)) S in_X11_lookAt_X11 G 0 rfl rfl 14 (by decide) lk_X11_lookAt_223 rfl dX11_lookAt_296 ?_
              refine r_put (C := RX11) (T := TX11) (N := 18) (ci := 9) (v := .int (v_92 0)) S in_X11_lookAt_X11 tyX11_ok nmX11 G 0 rfl rfl 14 (by decide) lk_X11_lookAt_223 rfl (vp_nar_int _) rfl (Nat.le_of_ble_eq_true rfl) dX11_lookAt_299 (fun H locs G => ?_)
              obtain ⟨v_100, ⟨hE_v_100_0, hE_v_100_1⟩, G⟩ : ∃ v_100 : Nat → Int32, (v_100 0 = (v_92 0) ∧ v_100 1 = v_92 1) ∧ wd X (va_A (@HAppend.hAppend va_W va_W va_W _ (mW m0 ma la lb n t v) ([((ma 10), .inl (X.2.1, 150, .inl fd))])) sz) (va_A (@HAppend.hAppend va_W va_W va_W _ (mW m0 ma la lb n t v) ([((ma 10), .inl (X.2.1, 150, .inl fd))])) sz) s (@HAppend.hAppend va_W va_W va_W _ (mW m0 ma la lb n t_93 v_100) ([((ma 10), .inl (X.2.1, 150, .inl fd))])) H locs := ⟨upd v_92 0 (v_92 0), ⟨rfl, rfl⟩, G⟩
              exact e_void S zr zlk G (t_93, v_100) [0, 1] rfl rfl (Or.inr rfl) (⟨hI_t_93, by rw [hs]; have hn : (t5_0 0) < n := (by first | omega | (dsimp only; omega)); have hc : ¬ lqL (fd (t5_0 0)) = true := (by rw [← hta]; exact hl_14); have hd : ¬ lqF (fd (t5_0 0)) = true := (by rw [← hta]; exact hl_40); have he : fd (t5_0 0) = 59 := (by rw [← hta]; exact c_82); have h4 : tK fd n (t5_0 0) = 3 := ((tok_oth hn hc hd).2.trans (if_pos he)); exact ⟨by first | omega | (dsimp only; omega), by rw [(tok_oth hn hc hd).1]; first | omega | (dsimp only; omega), (hE_v_100_0.trans (hE_v_92_0)).trans h4.symm, fun h => absurd (h.symm.trans h4) (by decide), by first | omega | (dsimp only; omega)⟩⟩) dX11_lookAt_302
      · refine lv_aload_n zx zb dX11_lookAt_30 rfl (lv_at hl 0 rfl) ?_
        refine lv_dup zx zb dX11_lookAt_31 rfl ?_
        refine r_get (C := RX11) (T := TX11) (N := 18) (ci := 9) (v := .int (nI (t5_0 0))) S in_X11_lookAt_X11 G 0 rfl rfl 12 (by decide) lk_X11_lookAt_217 rfl dX11_lookAt_32 ?_
        refine lv_iconst (v := 1) zx zb dX11_lookAt_35 (by decide) ?_
        refine r_iadd (v := (nI ((t5_0 0) + 1))) S (nI_add (t5_0 0) 1) dX11_lookAt_36 ?_
        refine r_put (C := RX11) (T := TX11) (N := 18) (ci := 9) (v := .int (nI ((t5_0 0) + 1))) S in_X11_lookAt_X11 tyX11_ok nmX11 G 0 rfl rfl 12 (by decide) lk_X11_lookAt_217 rfl (vp_nar_int _) rfl (Nat.le_of_ble_eq_true rfl) dX11_lookAt_37 (fun H locs G => ?_)
        obtain ⟨t_101, hI_t_101, ⟨hE_t_101_0, hE_t_101_1⟩, G⟩ : ∃ t_101 : Nat → Nat, InT t_101 ∧ (t_101 0 = ((t5_0 0) + 1) ∧ t_101 1 = t5_0 1) ∧ wd X (va_A (@HAppend.hAppend va_W va_W va_W _ (mW m0 ma la lb n t v) ([((ma 10), .inl (X.2.1, 150, .inl fd))])) sz) (va_A (@HAppend.hAppend va_W va_W va_W _ (mW m0 ma la lb n t v) ([((ma 10), .inl (X.2.1, 150, .inl fd))])) sz) s (@HAppend.hAppend va_W va_W va_W _ (mW m0 ma la lb n t_101 v) ([((ma 10), .inl (X.2.1, 150, .inl fd))])) H locs := ⟨upN t5_0 0 ((t5_0 0) + 1), ⟨(by show ((t5_0 0) + 1) ≤ 150; omega), ht1_t5_0⟩, ⟨rfl, rfl⟩, G⟩
        have hO_t_101 := hI_t_101
        obtain ⟨ht0_t_101, ht1_t_101⟩ := hO_t_101
        refine lv_goto (tgt := 5) zx zb dX11_lookAt_40 (by decide) ?_
        exact ih5 t_101 _ _ _ (by omega) ⟨by omega, by rw [hE_t_101_0, ← scan_s (by omega) (qB_t.mpr c_8)]; exact hx5_0.2⟩ hI_t_101 G hl
