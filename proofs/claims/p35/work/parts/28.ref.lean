set_option maxRecDepth 20000 in
theorem ggX11_goBehind_X11_lookAt : GoodIn wsX11_goBehind wsX11_lookAt := goodIn_r _ [7, 1, 8, 9, 2, 10, 11, 12, 13, 6, 14, 15, 16, 17, 18, 19, 20, 21, 22, 23, 24, 25, 26, 27, 28, 29, 30, 31, 32, 33, 34, 35, 36, 37, 38, 39, 40, 41, 42] rfl (by decide +kernel)
set_option maxRecDepth 20000 in
theorem gX11_goBehind_X11_lookAt : GoodIn wsX11_goBehind (wsV RX11 235 RX11 yX11_lookAt wsX11_lookAt) := goodIn_app (goodIn_of _ (by decide +kernel)) ggX11_goBehind_X11_lookAt
set_option maxRecDepth 20000 in
theorem ggX11_isFigure_X11_in : GoodIn wsX11_isFigure wsX11_in := goodIn_r _ [6] rfl (by decide +kernel)
set_option maxRecDepth 20000 in
theorem gX11_isFigure_X11_in : GoodIn wsX11_isFigure (va_wsS RX11 56 yX11_in wsX11_in) := goodIn_app (goodIn_of _ (by decide +kernel)) ggX11_isFigure_X11_in
set_option maxRecDepth 20000 in
theorem ggX11_isSmall_X11_in : GoodIn wsX11_isSmall wsX11_in := goodIn_r _ [6] rfl (by decide +kernel)
set_option maxRecDepth 20000 in
theorem gX11_isSmall_X11_in : GoodIn wsX11_isSmall (va_wsS RX11 56 yX11_in wsX11_in) := goodIn_app (goodIn_of _ (by decide +kernel)) ggX11_isSmall_X11_in
set_option maxRecDepth 20000 in
theorem ggX11_lookAt_X11_isFigure : GoodIn wsX11_lookAt wsX11_isFigure := goodIn_r _ [18, 19, 20, 13, 14, 9, 15] rfl (by decide +kernel)
set_option maxRecDepth 20000 in
theorem gX11_lookAt_X11_isFigure : GoodIn wsX11_lookAt (va_wsS RX11 232 yX11_isFigure wsX11_isFigure) := goodIn_app (goodIn_of _ (by decide +kernel)) ggX11_lookAt_X11_isFigure
set_option maxRecDepth 20000 in
theorem ggX11_lookAt_X11_isSmall : GoodIn wsX11_lookAt wsX11_isSmall := goodIn_r _ [10, 11, 12, 13, 14, 9, 15] rfl (by decide +kernel)
set_option maxRecDepth 20000 in
theorem gX11_lookAt_X11_isSmall : GoodIn wsX11_lookAt (va_wsS RX11 229 yX11_isSmall wsX11_isSmall) := goodIn_app (goodIn_of _ (by decide +kernel)) ggX11_lookAt_X11_isSmall
set_option maxRecDepth 20000 in
theorem ggX11_type_X11_bad : GoodIn wsX11_type wsX11_bad := goodIn_r _ [11, 12, 17, 18, 19, 20, 21, 22, 23, 24, 25, 26, 27, 28, 29, 30, 31, 32, 33, 34] rfl (by decide +kernel)
set_option maxRecDepth 20000 in
theorem gX11_type_X11_bad : GoodIn wsX11_type (wsV RX11 68 RX11 yX11_bad wsX11_bad) := goodIn_app (goodIn_of _ (by decide +kernel)) ggX11_type_X11_bad
set_option maxRecDepth 20000 in
theorem ggX11_type_X11_full : GoodIn wsX11_type wsX11_full := goodIn_r _ [16, 12, 17, 18, 19, 20, 21, 22, 23, 24, 25, 26, 27, 28, 29, 30, 31, 32, 33, 34] rfl (by decide +kernel)
set_option maxRecDepth 20000 in
theorem gX11_type_X11_full : GoodIn wsX11_type (wsV RX11 79 RX11 yX11_full wsX11_full) := goodIn_app (goodIn_of _ (by decide +kernel)) ggX11_type_X11_full
set_option maxRecDepth 20000 in
theorem ggX11_type_X11_in : GoodIn wsX11_type wsX11_in := goodIn_r _ [7] rfl (by decide +kernel)
set_option maxRecDepth 20000 in
theorem gX11_type_X11_in : GoodIn wsX11_type (va_wsS RX11 56 yX11_in wsX11_in) := goodIn_app (goodIn_of _ (by decide +kernel)) ggX11_type_X11_in
theorem dX11_clear_0 : decode cX11_clear 0 = .ok (.aload_n 0, 1) := by decide +kernel
theorem dX11_clear_1 : decode cX11_clear 1 = .ok (.getfield 205, 3) := by decide +kernel
theorem dX11_clear_10 : decode cX11_clear 10 = .ok (.iload_n 1, 1) := by decide +kernel
theorem dX11_clear_11 : decode cX11_clear 11 = .ok (.ireturn, 1) := by decide +kernel
theorem dX11_clear_4 : decode cX11_clear 4 = .ok (.istore_n 1, 1) := by decide +kernel
theorem dX11_clear_5 : decode cX11_clear 5 = .ok (.aload_n 0, 1) := by decide +kernel
theorem dX11_clear_6 : decode cX11_clear 6 = .ok (.iconst 0, 1) := by decide +kernel
theorem dX11_clear_7 : decode cX11_clear 7 = .ok (.putfield 205, 3) := by decide +kernel
theorem dX11_goBehind_0 : decode cX11_goBehind 0 = .ok (.aload_n 0, 1) := by decide +kernel
theorem dX11_goBehind_1 : decode cX11_goBehind 1 = .ok (.aload_n 0, 1) := by decide +kernel
theorem dX11_goBehind_10 : decode cX11_goBehind 10 = .ok (.invokevirtual 235, 3) := by decide +kernel
theorem dX11_goBehind_13 : decode cX11_goBehind 13 = .ok (.return_, 1) := by decide +kernel
theorem dX11_goBehind_2 : decode cX11_goBehind 2 = .ok (.getfield 217, 3) := by decide +kernel
theorem dX11_goBehind_5 : decode cX11_goBehind 5 = .ok (.aload_n 0, 1) := by decide +kernel
theorem dX11_goBehind_6 : decode cX11_goBehind 6 = .ok (.getfield 220, 3) := by decide +kernel
theorem dX11_goBehind_9 : decode cX11_goBehind 9 = .ok (.iadd, 1) := by decide +kernel
theorem dX11_isFigure_0 : decode cX11_isFigure 0 = .ok (.iload_n 0, 1) := by decide +kernel
theorem dX11_isFigure_1 : decode cX11_isFigure 1 = .ok (.i2l, 1) := by decide +kernel
theorem dX11_isFigure_11 : decode cX11_isFigure 11 = .ok (.ireturn, 1) := by decide +kernel
theorem dX11_isFigure_2 : decode cX11_isFigure 2 = .ok (.ldc2_w 213, 3) := by decide +kernel
theorem dX11_isFigure_5 : decode cX11_isFigure 5 = .ok (.ldc2_w 215, 3) := by decide +kernel
theorem dX11_isFigure_8 : decode cX11_isFigure 8 = .ok (.invokestatic 56, 3) := by decide +kernel
theorem dX11_isSmall_0 : decode cX11_isSmall 0 = .ok (.iload_n 0, 1) := by decide +kernel
theorem dX11_isSmall_1 : decode cX11_isSmall 1 = .ok (.i2l, 1) := by decide +kernel
theorem dX11_isSmall_11 : decode cX11_isSmall 11 = .ok (.ireturn, 1) := by decide +kernel
theorem dX11_isSmall_2 : decode cX11_isSmall 2 = .ok (.ldc2_w 209, 3) := by decide +kernel
theorem dX11_isSmall_5 : decode cX11_isSmall 5 = .ok (.ldc2_w 211, 3) := by decide +kernel
theorem dX11_isSmall_8 : decode cX11_isSmall 8 = .ok (.invokestatic 56, 3) := by decide +kernel
theorem dX11_lookAt_0 : decode cX11_lookAt 0 = .ok (.aload_n 0, 1) := by decide +kernel
theorem dX11_lookAt_1 : decode cX11_lookAt 1 = .ok (.iload_n 1, 1) := by decide +kernel
theorem dX11_lookAt_10 : decode cX11_lookAt 10 = .ok (.getfield 205, 3) := by decide +kernel
theorem dX11_lookAt_100 : decode cX11_lookAt 100 = .ok (.goto 14, 3) := by decide +kernel
theorem dX11_lookAt_103 : decode cX11_lookAt 103 = .ok (.iload_n 2, 1) := by decide +kernel
theorem dX11_lookAt_104 : decode cX11_lookAt 104 = .ok (.bipush 59, 2) := by decide +kernel
theorem dX11_lookAt_106 : decode cX11_lookAt 106 = .ok (.if_icmp .ne 7, 3) := by decide +kernel
theorem dX11_lookAt_109 : decode cX11_lookAt 109 = .ok (.iconst 3, 1) := by decide +kernel
theorem dX11_lookAt_110 : decode cX11_lookAt 110 = .ok (.goto 4, 3) := by decide +kernel
theorem dX11_lookAt_113 : decode cX11_lookAt 113 = .ok (.iconst 4, 1) := by decide +kernel
theorem dX11_lookAt_114 : decode cX11_lookAt 114 = .ok (.putfield 223, 3) := by decide +kernel
theorem dX11_lookAt_117 : decode cX11_lookAt 117 = .ok (.aload_n 0, 1) := by decide +kernel
theorem dX11_lookAt_118 : decode cX11_lookAt 118 = .ok (.iconst 1, 1) := by decide +kernel
theorem dX11_lookAt_119 : decode cX11_lookAt 119 = .ok (.putfield 220, 3) := by decide +kernel
theorem dX11_lookAt_122 : decode cX11_lookAt 122 = .ok (.aload_n 0, 1) := by decide +kernel
theorem dX11_lookAt_123 : decode cX11_lookAt 123 = .ok (.getfield 223, 3) := by decide +kernel
theorem dX11_lookAt_126 : decode cX11_lookAt 126 = .ok (.iconst 3, 1) := by decide +kernel
theorem dX11_lookAt_127 : decode cX11_lookAt 127 = .ok (.if_icmp .ge 7, 3) := by decide +kernel
theorem dX11_lookAt_13 : decode cX11_lookAt 13 = .ok (.if_icmp .ge 30, 3) := by decide +kernel
theorem dX11_lookAt_130 : decode cX11_lookAt 130 = .ok (.iconst 1, 1) := by decide +kernel
theorem dX11_lookAt_131 : decode cX11_lookAt 131 = .ok (.goto 4, 3) := by decide +kernel
theorem dX11_lookAt_134 : decode cX11_lookAt 134 = .ok (.iconst 0, 1) := by decide +kernel
theorem dX11_lookAt_135 : decode cX11_lookAt 135 = .ok (.istore_n 3, 1) := by decide +kernel
theorem dX11_lookAt_136 : decode cX11_lookAt 136 = .ok (.iload_n 3, 1) := by decide +kernel
theorem dX11_lookAt_137 : decode cX11_lookAt 137 = .ok (.ifCond .eq 78, 3) := by decide +kernel
theorem dX11_lookAt_140 : decode cX11_lookAt 140 = .ok (.aload_n 0, 1) := by decide +kernel
theorem dX11_lookAt_141 : decode cX11_lookAt 141 = .ok (.getfield 217, 3) := by decide +kernel
theorem dX11_lookAt_144 : decode cX11_lookAt 144 = .ok (.aload_n 0, 1) := by decide +kernel
theorem dX11_lookAt_145 : decode cX11_lookAt 145 = .ok (.getfield 220, 3) := by decide +kernel
theorem dX11_lookAt_148 : decode cX11_lookAt 148 = .ok (.iadd, 1) := by decide +kernel
theorem dX11_lookAt_149 : decode cX11_lookAt 149 = .ok (.aload_n 0, 1) := by decide +kernel
theorem dX11_lookAt_150 : decode cX11_lookAt 150 = .ok (.getfield 205, 3) := by decide +kernel
theorem dX11_lookAt_153 : decode cX11_lookAt 153 = .ok (.if_icmp .ge 62, 3) := by decide +kernel
theorem dX11_lookAt_156 : decode cX11_lookAt 156 = .ok (.aload_n 0, 1) := by decide +kernel
theorem dX11_lookAt_157 : decode cX11_lookAt 157 = .ok (.getfield 39, 3) := by decide +kernel
theorem dX11_lookAt_16 : decode cX11_lookAt 16 = .ok (.aload_n 0, 1) := by decide +kernel
theorem dX11_lookAt_160 : decode cX11_lookAt 160 = .ok (.aload_n 0, 1) := by decide +kernel
theorem dX11_lookAt_161 : decode cX11_lookAt 161 = .ok (.getfield 217, 3) := by decide +kernel
theorem dX11_lookAt_164 : decode cX11_lookAt 164 = .ok (.aload_n 0, 1) := by decide +kernel
theorem dX11_lookAt_165 : decode cX11_lookAt 165 = .ok (.getfield 220, 3) := by decide +kernel
theorem dX11_lookAt_168 : decode cX11_lookAt 168 = .ok (.iadd, 1) := by decide +kernel
theorem dX11_lookAt_169 : decode cX11_lookAt 169 = .ok (.iaload, 1) := by decide +kernel
theorem dX11_lookAt_17 : decode cX11_lookAt 17 = .ok (.getfield 39, 3) := by decide +kernel
theorem dX11_lookAt_170 : decode cX11_lookAt 170 = .ok (.istore 4, 2) := by decide +kernel
theorem dX11_lookAt_172 : decode cX11_lookAt 172 = .ok (.aload_n 0, 1) := by decide +kernel
theorem dX11_lookAt_173 : decode cX11_lookAt 173 = .ok (.getfield 223, 3) := by decide +kernel
theorem dX11_lookAt_176 : decode cX11_lookAt 176 = .ok (.iconst 1, 1) := by decide +kernel
theorem dX11_lookAt_177 : decode cX11_lookAt 177 = .ok (.if_icmp .ne 11, 3) := by decide +kernel
theorem dX11_lookAt_180 : decode cX11_lookAt 180 = .ok (.iload 4, 2) := by decide +kernel
theorem dX11_lookAt_182 : decode cX11_lookAt 182 = .ok (.invokestatic 229, 3) := by decide +kernel
theorem dX11_lookAt_185 : decode cX11_lookAt 185 = .ok (.goto 8, 3) := by decide +kernel
theorem dX11_lookAt_188 : decode cX11_lookAt 188 = .ok (.iload 4, 2) := by decide +kernel
theorem dX11_lookAt_190 : decode cX11_lookAt 190 = .ok (.invokestatic 232, 3) := by decide +kernel
theorem dX11_lookAt_193 : decode cX11_lookAt 193 = .ok (.istore_n 3, 1) := by decide +kernel
theorem dX11_lookAt_194 : decode cX11_lookAt 194 = .ok (.aload_n 0, 1) := by decide +kernel
theorem dX11_lookAt_195 : decode cX11_lookAt 195 = .ok (.dup, 1) := by decide +kernel
theorem dX11_lookAt_196 : decode cX11_lookAt 196 = .ok (.getfield 220, 3) := by decide +kernel
theorem dX11_lookAt_199 : decode cX11_lookAt 199 = .ok (.iload_n 3, 1) := by decide +kernel
theorem dX11_lookAt_2 : decode cX11_lookAt 2 = .ok (.putfield 217, 3) := by decide +kernel
theorem dX11_lookAt_20 : decode cX11_lookAt 20 = .ok (.aload_n 0, 1) := by decide +kernel
theorem dX11_lookAt_200 : decode cX11_lookAt 200 = .ok (.ifCond .eq 7, 3) := by decide +kernel
theorem dX11_lookAt_203 : decode cX11_lookAt 203 = .ok (.iconst 1, 1) := by decide +kernel
theorem dX11_lookAt_204 : decode cX11_lookAt 204 = .ok (.goto 4, 3) := by decide +kernel
theorem dX11_lookAt_207 : decode cX11_lookAt 207 = .ok (.iconst 0, 1) := by decide +kernel
theorem dX11_lookAt_208 : decode cX11_lookAt 208 = .ok (.iadd, 1) := by decide +kernel
theorem dX11_lookAt_209 : decode cX11_lookAt 209 = .ok (.putfield 220, 3) := by decide +kernel
theorem dX11_lookAt_21 : decode cX11_lookAt 21 = .ok (.getfield 217, 3) := by decide +kernel
theorem dX11_lookAt_212 : decode cX11_lookAt 212 = .ok (.goto (-76), 3) := by decide +kernel
theorem dX11_lookAt_215 : decode cX11_lookAt 215 = .ok (.iconst 0, 1) := by decide +kernel
theorem dX11_lookAt_216 : decode cX11_lookAt 216 = .ok (.istore 4, 2) := by decide +kernel
theorem dX11_lookAt_218 : decode cX11_lookAt 218 = .ok (.iload 4, 2) := by decide +kernel
theorem dX11_lookAt_220 : decode cX11_lookAt 220 = .ok (.aload_n 0, 1) := by decide +kernel
theorem dX11_lookAt_221 : decode cX11_lookAt 221 = .ok (.getfield 220, 3) := by decide +kernel
theorem dX11_lookAt_224 : decode cX11_lookAt 224 = .ok (.if_icmp .ge 50, 3) := by decide +kernel
theorem dX11_lookAt_227 : decode cX11_lookAt 227 = .ok (.iload 4, 2) := by decide +kernel
theorem dX11_lookAt_229 : decode cX11_lookAt 229 = .ok (.iconst 2, 1) := by decide +kernel
theorem dX11_lookAt_230 : decode cX11_lookAt 230 = .ok (.if_icmp .ge 44, 3) := by decide +kernel
theorem dX11_lookAt_233 : decode cX11_lookAt 233 = .ok (.aload_n 0, 1) := by decide +kernel
theorem dX11_lookAt_234 : decode cX11_lookAt 234 = .ok (.getfield 223, 3) := by decide +kernel
theorem dX11_lookAt_237 : decode cX11_lookAt 237 = .ok (.iconst 2, 1) := by decide +kernel
theorem dX11_lookAt_238 : decode cX11_lookAt 238 = .ok (.if_icmp .ne 36, 3) := by decide +kernel
theorem dX11_lookAt_24 : decode cX11_lookAt 24 = .ok (.iaload, 1) := by decide +kernel
theorem dX11_lookAt_241 : decode cX11_lookAt 241 = .ok (.aload_n 0, 1) := by decide +kernel
theorem dX11_lookAt_242 : decode cX11_lookAt 242 = .ok (.bipush 10, 2) := by decide +kernel
theorem dX11_lookAt_244 : decode cX11_lookAt 244 = .ok (.aload_n 0, 1) := by decide +kernel
theorem dX11_lookAt_245 : decode cX11_lookAt 245 = .ok (.getfield 226, 3) := by decide +kernel
theorem dX11_lookAt_248 : decode cX11_lookAt 248 = .ok (.imul, 1) := by decide +kernel
theorem dX11_lookAt_249 : decode cX11_lookAt 249 = .ok (.aload_n 0, 1) := by decide +kernel
theorem dX11_lookAt_25 : decode cX11_lookAt 25 = .ok (.bipush 32, 2) := by decide +kernel
theorem dX11_lookAt_250 : decode cX11_lookAt 250 = .ok (.getfield 39, 3) := by decide +kernel
theorem dX11_lookAt_253 : decode cX11_lookAt 253 = .ok (.aload_n 0, 1) := by decide +kernel
theorem dX11_lookAt_254 : decode cX11_lookAt 254 = .ok (.getfield 217, 3) := by decide +kernel
theorem dX11_lookAt_257 : decode cX11_lookAt 257 = .ok (.iload 4, 2) := by decide +kernel
theorem dX11_lookAt_259 : decode cX11_lookAt 259 = .ok (.iadd, 1) := by decide +kernel
theorem dX11_lookAt_260 : decode cX11_lookAt 260 = .ok (.iaload, 1) := by decide +kernel
theorem dX11_lookAt_261 : decode cX11_lookAt 261 = .ok (.iadd, 1) := by decide +kernel
theorem dX11_lookAt_262 : decode cX11_lookAt 262 = .ok (.bipush 48, 2) := by decide +kernel
theorem dX11_lookAt_264 : decode cX11_lookAt 264 = .ok (.isub, 1) := by decide +kernel
theorem dX11_lookAt_265 : decode cX11_lookAt 265 = .ok (.putfield 226, 3) := by decide +kernel
theorem dX11_lookAt_268 : decode cX11_lookAt 268 = .ok (.iinc 4 1, 3) := by decide +kernel
theorem dX11_lookAt_27 : decode cX11_lookAt 27 = .ok (.if_icmp .ne 16, 3) := by decide +kernel
theorem dX11_lookAt_271 : decode cX11_lookAt 271 = .ok (.goto (-53), 3) := by decide +kernel
theorem dX11_lookAt_274 : decode cX11_lookAt 274 = .ok (.aload_n 0, 1) := by decide +kernel
theorem dX11_lookAt_275 : decode cX11_lookAt 275 = .ok (.aload_n 0, 1) := by decide +kernel
theorem dX11_lookAt_276 : decode cX11_lookAt 276 = .ok (.getfield 223, 3) := by decide +kernel
theorem dX11_lookAt_279 : decode cX11_lookAt 279 = .ok (.iconst 2, 1) := by decide +kernel
theorem dX11_lookAt_280 : decode cX11_lookAt 280 = .ok (.if_icmp .ne 15, 3) := by decide +kernel
theorem dX11_lookAt_283 : decode cX11_lookAt 283 = .ok (.aload_n 0, 1) := by decide +kernel
theorem dX11_lookAt_284 : decode cX11_lookAt 284 = .ok (.getfield 220, 3) := by decide +kernel
theorem dX11_lookAt_287 : decode cX11_lookAt 287 = .ok (.iconst 2, 1) := by decide +kernel
theorem dX11_lookAt_288 : decode cX11_lookAt 288 = .ok (.if_icmp .le 7, 3) := by decide +kernel
theorem dX11_lookAt_291 : decode cX11_lookAt 291 = .ok (.iconst 4, 1) := by decide +kernel
theorem dX11_lookAt_292 : decode cX11_lookAt 292 = .ok (.goto 7, 3) := by decide +kernel
theorem dX11_lookAt_295 : decode cX11_lookAt 295 = .ok (.aload_n 0, 1) := by decide +kernel
theorem dX11_lookAt_296 : decode cX11_lookAt 296 = .ok (.getfield 223, 3) := by decide +kernel
theorem dX11_lookAt_299 : decode cX11_lookAt 299 = .ok (.putfield 223, 3) := by decide +kernel
theorem dX11_lookAt_30 : decode cX11_lookAt 30 = .ok (.aload_n 0, 1) := by decide +kernel
theorem dX11_lookAt_302 : decode cX11_lookAt 302 = .ok (.return_, 1) := by decide +kernel
theorem dX11_lookAt_31 : decode cX11_lookAt 31 = .ok (.dup, 1) := by decide +kernel
theorem dX11_lookAt_32 : decode cX11_lookAt 32 = .ok (.getfield 217, 3) := by decide +kernel
theorem dX11_lookAt_35 : decode cX11_lookAt 35 = .ok (.iconst 1, 1) := by decide +kernel
theorem dX11_lookAt_36 : decode cX11_lookAt 36 = .ok (.iadd, 1) := by decide +kernel
theorem dX11_lookAt_37 : decode cX11_lookAt 37 = .ok (.putfield 217, 3) := by decide +kernel
theorem dX11_lookAt_40 : decode cX11_lookAt 40 = .ok (.goto (-35), 3) := by decide +kernel
theorem dX11_lookAt_43 : decode cX11_lookAt 43 = .ok (.aload_n 0, 1) := by decide +kernel
theorem dX11_lookAt_44 : decode cX11_lookAt 44 = .ok (.iconst 0, 1) := by decide +kernel
theorem dX11_lookAt_45 : decode cX11_lookAt 45 = .ok (.putfield 220, 3) := by decide +kernel
theorem dX11_lookAt_48 : decode cX11_lookAt 48 = .ok (.aload_n 0, 1) := by decide +kernel
theorem dX11_lookAt_49 : decode cX11_lookAt 49 = .ok (.iconst 0, 1) := by decide +kernel
theorem dX11_lookAt_5 : decode cX11_lookAt 5 = .ok (.aload_n 0, 1) := by decide +kernel
theorem dX11_lookAt_50 : decode cX11_lookAt 50 = .ok (.putfield 223, 3) := by decide +kernel
theorem dX11_lookAt_53 : decode cX11_lookAt 53 = .ok (.aload_n 0, 1) := by decide +kernel
theorem dX11_lookAt_54 : decode cX11_lookAt 54 = .ok (.iconst 0, 1) := by decide +kernel
theorem dX11_lookAt_55 : decode cX11_lookAt 55 = .ok (.putfield 226, 3) := by decide +kernel
theorem dX11_lookAt_58 : decode cX11_lookAt 58 = .ok (.aload_n 0, 1) := by decide +kernel
theorem dX11_lookAt_59 : decode cX11_lookAt 59 = .ok (.getfield 217, 3) := by decide +kernel
theorem dX11_lookAt_6 : decode cX11_lookAt 6 = .ok (.getfield 217, 3) := by decide +kernel
theorem dX11_lookAt_62 : decode cX11_lookAt 62 = .ok (.aload_n 0, 1) := by decide +kernel
theorem dX11_lookAt_63 : decode cX11_lookAt 63 = .ok (.getfield 205, 3) := by decide +kernel
theorem dX11_lookAt_66 : decode cX11_lookAt 66 = .ok (.if_icmp .ne 4, 3) := by decide +kernel
theorem dX11_lookAt_69 : decode cX11_lookAt 69 = .ok (.return_, 1) := by decide +kernel
theorem dX11_lookAt_70 : decode cX11_lookAt 70 = .ok (.aload_n 0, 1) := by decide +kernel
theorem dX11_lookAt_71 : decode cX11_lookAt 71 = .ok (.getfield 39, 3) := by decide +kernel
theorem dX11_lookAt_74 : decode cX11_lookAt 74 = .ok (.aload_n 0, 1) := by decide +kernel
theorem dX11_lookAt_75 : decode cX11_lookAt 75 = .ok (.getfield 217, 3) := by decide +kernel
theorem dX11_lookAt_78 : decode cX11_lookAt 78 = .ok (.iaload, 1) := by decide +kernel
theorem dX11_lookAt_79 : decode cX11_lookAt 79 = .ok (.istore_n 2, 1) := by decide +kernel
theorem dX11_lookAt_80 : decode cX11_lookAt 80 = .ok (.aload_n 0, 1) := by decide +kernel
theorem dX11_lookAt_81 : decode cX11_lookAt 81 = .ok (.iload_n 2, 1) := by decide +kernel
theorem dX11_lookAt_82 : decode cX11_lookAt 82 = .ok (.invokestatic 229, 3) := by decide +kernel
theorem dX11_lookAt_85 : decode cX11_lookAt 85 = .ok (.ifCond .eq 7, 3) := by decide +kernel
theorem dX11_lookAt_88 : decode cX11_lookAt 88 = .ok (.iconst 1, 1) := by decide +kernel
theorem dX11_lookAt_89 : decode cX11_lookAt 89 = .ok (.goto 25, 3) := by decide +kernel
theorem dX11_lookAt_9 : decode cX11_lookAt 9 = .ok (.aload_n 0, 1) := by decide +kernel
theorem dX11_lookAt_92 : decode cX11_lookAt 92 = .ok (.iload_n 2, 1) := by decide +kernel
theorem dX11_lookAt_93 : decode cX11_lookAt 93 = .ok (.invokestatic 232, 3) := by decide +kernel
theorem dX11_lookAt_96 : decode cX11_lookAt 96 = .ok (.ifCond .eq 7, 3) := by decide +kernel
theorem dX11_lookAt_99 : decode cX11_lookAt 99 = .ok (.iconst 2, 1) := by decide +kernel
theorem dX11_type_0 : decode cX11_type 0 = .ok (.iload_n 1, 1) := by decide +kernel
theorem dX11_type_1 : decode cX11_type 1 = .ok (.i2l, 1) := by decide +kernel
theorem dX11_type_12 : decode cX11_type 12 = .ok (.aload_n 0, 1) := by decide +kernel
theorem dX11_type_13 : decode cX11_type 13 = .ok (.bipush (-2), 2) := by decide +kernel
theorem dX11_type_15 : decode cX11_type 15 = .ok (.invokevirtual 68, 3) := by decide +kernel
theorem dX11_type_18 : decode cX11_type 18 = .ok (.ireturn, 1) := by decide +kernel
theorem dX11_type_19 : decode cX11_type 19 = .ok (.aload_n 0, 1) := by decide +kernel
theorem dX11_type_2 : decode cX11_type 2 = .ok (.lconst 0, 1) := by decide +kernel
theorem dX11_type_20 : decode cX11_type 20 = .ok (.getfield 205, 3) := by decide +kernel
theorem dX11_type_23 : decode cX11_type 23 = .ok (.sipush 150, 3) := by decide +kernel
theorem dX11_type_26 : decode cX11_type 26 = .ok (.if_icmp .ne 8, 3) := by decide +kernel
theorem dX11_type_29 : decode cX11_type 29 = .ok (.aload_n 0, 1) := by decide +kernel
theorem dX11_type_3 : decode cX11_type 3 = .ok (.ldc2_w 203, 3) := by decide +kernel
theorem dX11_type_30 : decode cX11_type 30 = .ok (.invokevirtual 79, 3) := by decide +kernel
theorem dX11_type_33 : decode cX11_type 33 = .ok (.ireturn, 1) := by decide +kernel
theorem dX11_type_34 : decode cX11_type 34 = .ok (.aload_n 0, 1) := by decide +kernel
theorem dX11_type_35 : decode cX11_type 35 = .ok (.getfield 39, 3) := by decide +kernel
theorem dX11_type_38 : decode cX11_type 38 = .ok (.aload_n 0, 1) := by decide +kernel
theorem dX11_type_39 : decode cX11_type 39 = .ok (.getfield 205, 3) := by decide +kernel
theorem dX11_type_42 : decode cX11_type 42 = .ok (.iload_n 1, 1) := by decide +kernel
theorem dX11_type_43 : decode cX11_type 43 = .ok (.iastore, 1) := by decide +kernel
theorem dX11_type_44 : decode cX11_type 44 = .ok (.aload_n 0, 1) := by decide +kernel
theorem dX11_type_45 : decode cX11_type 45 = .ok (.dup, 1) := by decide +kernel
theorem dX11_type_46 : decode cX11_type 46 = .ok (.getfield 205, 3) := by decide +kernel
theorem dX11_type_49 : decode cX11_type 49 = .ok (.iconst 1, 1) := by decide +kernel
theorem dX11_type_50 : decode cX11_type 50 = .ok (.iadd, 1) := by decide +kernel
theorem dX11_type_51 : decode cX11_type 51 = .ok (.putfield 205, 3) := by decide +kernel
theorem dX11_type_54 : decode cX11_type 54 = .ok (.aload_n 0, 1) := by decide +kernel
theorem dX11_type_55 : decode cX11_type 55 = .ok (.getfield 205, 3) := by decide +kernel
theorem dX11_type_58 : decode cX11_type 58 = .ok (.ireturn, 1) := by decide +kernel
theorem dX11_type_6 : decode cX11_type 6 = .ok (.invokestatic 56, 3) := by decide +kernel
theorem dX11_type_9 : decode cX11_type 9 = .ok (.ifCond .ne 10, 3) := by decide +kernel
theorem mm_X11_type_c203 : Cond.constantLong RX11 203 (127) ∈ wsX11_type := by decide +kernel
theorem in_X11_type_X11 : ∀ w ∈ wsX110, w ∈ wsX11_type := by decide +kernel
theorem lk_X11_type_205 : Cond.fieldLink RX11 205 "EggSpoonsModel" "bytesLong" "I" ∈ wsX11_type := by decide +kernel
theorem lk_X11_type_39 : Cond.fieldLink RX11 39 "EggSpoonsModel" "bytes" "[I" ∈ wsX11_type := by decide +kernel
set_option maxHeartbeats 4000000 in
set_option maxRecDepth 100000 in
/-- type -/
theorem m_type (l : Launch) (X : EX) (m0 : Nat) (ma : Nat → Nat) (la : Int64) (lb : Int64) (n : Nat) (t : Nat → Nat) (v : Nat → Int32) (fd : Nat → Int32) (fr : Nat → Int32) (x1 : Int32) (hI_n : n ≤ 150) (hI_t : InT t) (sz : Nat) : Met l yX11_type wsX11_type ({ frames := 1, cells := 0, slots := 0, locals := 25 } : Room) (pE X [.ref m0, .int x1] (@HAppend.hAppend va_W va_W va_W _ (mW m0 ma la lb n t v) (@HAppend.hAppend va_W va_W va_W _ ([((ma 10), .inl (X.2.1, 150, .inl fd))]) ([((ma 3), .inl (X.2.1, 3, .inl fr))]))) sz) (qI (fun (r : Int32) (u : (Nat) × (Nat → Int32) × (Nat → Int32)) => u.1 ≤ 150 ∧ ((¬ ((0 : Int32) ≤ x1 ∧ x1 ≤ 127) ∧ r = -2 ∧ u.1 = n) ∨ (((0 : Int32) ≤ x1 ∧ x1 ≤ 127) ∧ n = 150 ∧ r = -4 ∧ u.1 = n) ∨ (((0 : Int32) ≤ x1 ∧ x1 ≤ 127) ∧ n < 150 ∧ r = nI (n + 1) ∧ u.1 = n + 1))) X (fun (u : (Nat) × (Nat → Int32) × (Nat → Int32)) => @HAppend.hAppend va_W va_W va_W _ (mW m0 ma la lb u.1 t v) (@HAppend.hAppend va_W va_W va_W _ ([((ma 10), .inl (X.2.1, 150, .inl u.2.1))]) ([((ma 3), .inl (X.2.1, 3, .inl u.2.2))]))) (@HAppend.hAppend va_W va_W va_W _ (mW m0 ma la lb n t v) (@HAppend.hAppend va_W va_W va_W _ ([((ma 10), .inl (X.2.1, 150, .inl fd))]) ([((ma 3), .inl (X.2.1, 3, .inl fr))]))) sz) 0 0 (va_A (@HAppend.hAppend va_W va_W va_W _ (mW m0 ma la lb n t v) (@HAppend.hAppend va_W va_W va_W _ ([((ma 10), .inl (X.2.1, 150, .inl fd))]) ([((ma 3), .inl (X.2.1, 3, .inl fr))]))) sz) := by
  refine mk_met (B := (va_A (@HAppend.hAppend va_W va_W va_W _ (mW m0 ma la lb n t v) (@HAppend.hAppend va_W va_W va_W _ ([((ma 10), .inl (X.2.1, 150, .inl fd))]) ([((ma 3), .inl (X.2.1, 3, .inl fr))]))) sz)) (A := (va_A (@HAppend.hAppend va_W va_W va_W _ (mW m0 ma la lb n t v) (@HAppend.hAppend va_W va_W va_W _ ([((ma 10), .inl (X.2.1, 150, .inl fd))]) ([((ma 3), .inl (X.2.1, 3, .inl fr))]))) sz)) (cc := cX11_type) (maxL := 2) (ret := (some .int)) (by decide) rfl (Nat.le_of_ble_eq_true rfl) k_w k_a (fun p e s m below meth c S zr zlk znm zsz G ls hl => ?_)
  have S : CallFix p m c cX11_type 2 s _ wsX11_type RX11 := S
  have zx := S.1
  have zb := S.2.1
  have hl : lv_has ls 2 [(0, .ref m0), (1, .int x1)] := hl
  have hO_t := hI_t
  obtain ⟨ht0_t, ht1_t⟩ := hO_t
  refine lv_iload_n zx zb dX11_type_0 rfl (lv_at hl 1 rfl) ?_
  refine lv_i2l (v := (Int32.toInt64 x1)) zx zb dX11_type_1 rfl ?_
  refine lv_lconst (v := (Int32.toInt64 0)) zx zb dX11_type_2 (by decide) ?_
  refine lv_ldc2 zx zb S.2.2.2.1 (S.2.2.2.2 _ mm_X11_type_c203) dX11_type_3 ?_
  refine k_ld (v := (Int32.toInt64 127)) (by decide) ?_
  refine o_ri (cells' := 0) (slots' := 0) G rfl rfl (n_S (As := [.long (Int32.toInt64 x1), .long (Int32.toInt64 0), .long (Int32.toInt64 127)]) (rest := []) S G (m_in l X x1 0 127 s.heap.size) gX11_type_X11_in rfl rfl rfl hdS_X11_in ⟨Nat.le_of_ble_eq_true rfl, Nat.le_of_ble_eq_true rfl⟩ [] rfl rfl rfl hl.1 (Nat.le_of_ble_eq_true rfl) dX11_type_6 ⟨Nat.le_of_ble_eq_true rfl, Nat.le_of_ble_eq_true rfl⟩) (fun r_1 u_1 H locs hp_1 G => ?_)
  have G : wd X (va_A (@HAppend.hAppend va_W va_W va_W _ (mW m0 ma la lb n t v) (@HAppend.hAppend va_W va_W va_W _ ([((ma 10), .inl (X.2.1, 150, .inl fd))]) ([((ma 3), .inl (X.2.1, 3, .inl fr))]))) sz) (va_A (@HAppend.hAppend va_W va_W va_W _ (mW m0 ma la lb n t v) (@HAppend.hAppend va_W va_W va_W _ ([((ma 10), .inl (X.2.1, 150, .inl fd))]) ([((ma 3), .inl (X.2.1, 3, .inl fr))]))) sz) s (@HAppend.hAppend va_W va_W va_W _ (mW m0 ma la lb n t v) (@HAppend.hAppend va_W va_W va_W _ ([((ma 10), .inl (X.2.1, 150, .inl fd))]) ([((ma 3), .inl (X.2.1, 3, .inl fr))]))) H locs := G
  rcases hp_1 with ⟨rfl, hw_1⟩ | ⟨rfl, hw_1⟩
  · obtain ⟨j_1, ⟨ja_1, jb_1⟩, rfl⟩ := k_natR (a := 0) (b := 127) hw_1 rfl rfl (by decide) (by decide)
    refine lv_if_ne (tgt := 19) zx zb dX11_type_9 (by decide) (fun c_2 => ?_) (fun c_2 => absurd c_2 (by decide))
    refine lv_aload_n zx zb dX11_type_19 rfl (lv_at hl 0 rfl) ?_
    refine r_get (C := RX11) (T := TX11) (N := 18) (ci := 9) (v := .int (nI n)) S in_X11_type_X11 G 0 rfl rfl 11 (by decide) lk_X11_type_205 rfl dX11_type_20 ?_
    refine lv_sipush (v := 150) zx zb dX11_type_23 (by decide) ?_
    refine lv_icmp_ne (tgt := 34) zx zb dX11_type_26 (by decide) (fun c_3 => ?_) (fun c_3 => ?_)
    · have fc_3 := j_ne (a := n) (b := 150) c_3
      refine lv_aload_n zx zb dX11_type_34 rfl (lv_at hl 0 rfl) ?_
      refine r_get (C := RX11) (T := TX11) (N := 18) (ci := 9) (v := .ref (ma 10)) S in_X11_type_X11 G 0 rfl rfl 10 (by decide) lk_X11_type_39 rfl dX11_type_35 ?_
      refine lv_aload_n zx zb dX11_type_38 rfl (lv_at hl 0 rfl) ?_
      refine r_get (C := RX11) (T := TX11) (N := 18) (ci := 9) (v := .int (nI n)) S in_X11_type_X11 G 0 rfl rfl 11 (by decide) lk_X11_type_205 rfl dX11_type_39 ?_
      refine lv_iload_n zx zb dX11_type_42 rfl (lv_at hl 1 rfl) ?_
      refine r_iast S G 1 rfl (vp_in_nI (by omega) (by decide)) dX11_type_43 (fun H locs G => ?_)
      obtain ⟨f_4, G⟩ : ∃ f_4 : Nat → Int32, wd X (va_A (@HAppend.hAppend va_W va_W va_W _ (mW m0 ma la lb n t v) (@HAppend.hAppend va_W va_W va_W _ ([((ma 10), .inl (X.2.1, 150, .inl fd))]) ([((ma 3), .inl (X.2.1, 3, .inl fr))]))) sz) (va_A (@HAppend.hAppend va_W va_W va_W _ (mW m0 ma la lb n t v) (@HAppend.hAppend va_W va_W va_W _ ([((ma 10), .inl (X.2.1, 150, .inl fd))]) ([((ma 3), .inl (X.2.1, 3, .inl fr))]))) sz) s (@HAppend.hAppend va_W va_W va_W _ (mW m0 ma la lb n t v) (@HAppend.hAppend va_W va_W va_W _ ([((ma 10), .inl (X.2.1, 150, .inl f_4))]) ([((ma 3), .inl (X.2.1, 3, .inl fr))]))) H locs := ⟨_, G⟩
      refine lv_aload_n zx zb dX11_type_44 rfl (lv_at hl 0 rfl) ?_
      refine lv_dup zx zb dX11_type_45 rfl ?_
      refine r_get (C := RX11) (T := TX11) (N := 18) (ci := 9) (v := .int (nI n)) S in_X11_type_X11 G 0 rfl rfl 11 (by decide) lk_X11_type_205 rfl dX11_type_46 ?_
      refine lv_iconst (v := 1) zx zb dX11_type_49 (by decide) ?_
      refine r_iadd (v := (nI (n + 1))) S (nI_add n 1) dX11_type_50 ?_
      refine r_put (C := RX11) (T := TX11) (N := 18) (ci := 9) (v := .int (nI (n + 1))) S in_X11_type_X11 tyX11_ok nmX11 G 0 rfl rfl 11 (by decide) lk_X11_type_205 rfl (vp_nar_int _) rfl (Nat.le_of_ble_eq_true rfl) dX11_type_51 (fun H locs G => ?_)
      obtain ⟨n_5, hI_n_5, hE_n_5, G⟩ : ∃ n_5 : Nat, n_5 ≤ 150 ∧ n_5 = (n + 1) ∧ wd X (va_A (@HAppend.hAppend va_W va_W va_W _ (mW m0 ma la lb n t v) (@HAppend.hAppend va_W va_W va_W _ ([((ma 10), .inl (X.2.1, 150, .inl fd))]) ([((ma 3), .inl (X.2.1, 3, .inl fr))]))) sz) (va_A (@HAppend.hAppend va_W va_W va_W _ (mW m0 ma la lb n t v) (@HAppend.hAppend va_W va_W va_W _ ([((ma 10), .inl (X.2.1, 150, .inl fd))]) ([((ma 3), .inl (X.2.1, 3, .inl fr))]))) sz) s (@HAppend.hAppend va_W va_W va_W _ (mW m0 ma la lb n_5 t v) (@HAppend.hAppend va_W va_W va_W _ ([((ma 10), .inl (X.2.1, 150, .inl f_4))]) ([((ma 3), .inl (X.2.1, 3, .inl fr))]))) H locs := ⟨(n + 1), by omega, rfl, G⟩
      refine lv_aload_n zx zb dX11_type_54 rfl (lv_at hl 0 rfl) ?_
      refine r_get (C := RX11) (T := TX11) (N := 18) (ci := 9) (v := .int (nI n_5)) S in_X11_type_X11 G 0 rfl rfl 11 (by decide) lk_X11_type_205 rfl dX11_type_55 ?_
      exact e_int S zr zlk (vp_nar_int _) G (n_5, f_4, fr) [0, 1, 2] rfl rfl (Or.inr rfl) (⟨hI_n_5, Or.inr (Or.inr ⟨hw_1, by first | omega | (dsimp only; omega), congrArg nI (by first | omega | (dsimp only; omega)), by first | omega | (dsimp only; omega)⟩)⟩) dX11_type_58
    · have fc_3 := j_eq (a := n) (b := 150) (by omega) (by omega) c_3
      refine lv_aload_n zx zb dX11_type_29 rfl (lv_at hl 0 rfl) ?_
      refine b_wi (cells' := 0) (slots' := 0) (wr := [((ma 10), .inl (X.2.1, 150, .inl fd))]) G rfl rfl [0, 2] [1] rfl rfl rfl rfl (n_V (As := []) (rest := []) (C := RX11) (T := TX11) (N := 18) (ci := 9) S G (m_full l X m0 ma la lb n t v fr hI_n hI_t H.size) gX11_type_X11_full rfl rfl rfl hdV_X11_full ⟨Nat.le_of_ble_eq_true rfl, Nat.le_of_ble_eq_true rfl⟩ [0, 2] rfl rfl 0 rfl rfl rfl hl.1 (Nat.le_of_ble_eq_true rfl) dX11_type_30 ⟨Nat.le_of_ble_eq_true rfl, Nat.le_of_ble_eq_true rfl⟩) (fun r_6 u_6 H locs hp_6 G => ?_)
      obtain ⟨f_6, rfl⟩ : ∃ z, z = u_6 := ⟨_, rfl⟩
      have hq_6 := hp_6
      have G : wd X (va_A (@HAppend.hAppend va_W va_W va_W _ (mW m0 ma la lb n t v) (@HAppend.hAppend va_W va_W va_W _ ([((ma 10), .inl (X.2.1, 150, .inl fd))]) ([((ma 3), .inl (X.2.1, 3, .inl fr))]))) sz) (va_A (@HAppend.hAppend va_W va_W va_W _ (mW m0 ma la lb n t v) (@HAppend.hAppend va_W va_W va_W _ ([((ma 10), .inl (X.2.1, 150, .inl fd))]) ([((ma 3), .inl (X.2.1, 3, .inl fr))]))) sz) s (@HAppend.hAppend va_W va_W va_W _ ([((ma 10), .inl (X.2.1, 150, .inl fd))]) (@HAppend.hAppend va_W va_W va_W _ (mW m0 ma la lb n t v) ([((ma 3), .inl (X.2.1, 3, .inl f_6))]))) H locs := G
      obtain rfl := hq_6
      exact e_int S zr zlk (vp_nar_int _) G (n, fd, f_6) [1, 0, 2] rfl rfl (Or.inr rfl) (⟨hI_n, Or.inr (Or.inl ⟨hw_1, by first | omega | (dsimp only; omega), rfl, rfl⟩)⟩) dX11_type_33
  · refine lv_if_ne (tgt := 19) zx zb dX11_type_9 (by decide) (fun c_7 => absurd (by decide) c_7) (fun c_7 => ?_)
    refine lv_aload_n zx zb dX11_type_12 rfl (lv_at hl 0 rfl) ?_
    refine lv_bipush (v := (-2)) zx zb dX11_type_13 (by decide) ?_
    refine b_wi (cells' := 0) (slots' := 0) (wr := [((ma 10), .inl (X.2.1, 150, .inl fd))]) G rfl rfl [0, 2] [1] rfl rfl rfl rfl (n_V (As := [.int (-2)]) (rest := []) (C := RX11) (T := TX11) (N := 18) (ci := 9) S G (m_bad l X m0 ma la lb n t v fr (-2) hI_n hI_t H.size) gX11_type_X11_bad rfl rfl rfl hdV_X11_bad ⟨Nat.le_of_ble_eq_true rfl, Nat.le_of_ble_eq_true rfl⟩ [0, 2] rfl rfl 0 rfl rfl rfl hl.1 (Nat.le_of_ble_eq_true rfl) dX11_type_15 ⟨Nat.le_of_ble_eq_true rfl, Nat.le_of_ble_eq_true rfl⟩) (fun r_8 u_8 H locs hp_8 G => ?_)
    obtain ⟨f_8, rfl⟩ : ∃ z, z = u_8 := ⟨_, rfl⟩
    have hq_8 := hp_8
    have G : wd X (va_A (@HAppend.hAppend va_W va_W va_W _ (mW m0 ma la lb n t v) (@HAppend.hAppend va_W va_W va_W _ ([((ma 10), .inl (X.2.1, 150, .inl fd))]) ([((ma 3), .inl (X.2.1, 3, .inl fr))]))) sz) (va_A (@HAppend.hAppend va_W va_W va_W _ (mW m0 ma la lb n t v) (@HAppend.hAppend va_W va_W va_W _ ([((ma 10), .inl (X.2.1, 150, .inl fd))]) ([((ma 3), .inl (X.2.1, 3, .inl fr))]))) sz) s (@HAppend.hAppend va_W va_W va_W _ ([((ma 10), .inl (X.2.1, 150, .inl fd))]) (@HAppend.hAppend va_W va_W va_W _ (mW m0 ma la lb n t v) ([((ma 3), .inl (X.2.1, 3, .inl f_8))]))) H locs := G
    obtain rfl := hq_8
    exact e_int S zr zlk (vp_nar_int _) G (n, fd, f_8) [1, 0, 2] rfl rfl (Or.inr rfl) (⟨hI_n, Or.inl ⟨hw_1, rfl, rfl⟩⟩) dX11_type_18
theorem in_X11_clear_X11 : ∀ w ∈ wsX110, w ∈ wsX11_clear := by decide +kernel
theorem lk_X11_clear_205 : Cond.fieldLink RX11 205 "EggSpoonsModel" "bytesLong" "I" ∈ wsX11_clear := by decide +kernel
set_option maxHeartbeats 4000000 in
set_option maxRecDepth 100000 in
/-- clear -/
theorem m_clear (l : Launch) (X : EX) (m0 : Nat) (ma : Nat → Nat) (la : Int64) (lb : Int64) (n : Nat) (t : Nat → Nat) (v : Nat → Int32) (hI_n : n ≤ 150) (hI_t : InT t) (sz : Nat) : Met l yX11_clear wsX11_clear ({ frames := 0, cells := 0, slots := 0, locals := 0 } : Room) (pE X [.ref m0] (mW m0 ma la lb n t v) sz) (qI (fun (r : Int32) (u : (Nat)) => u ≤ 150 ∧ (r = nI n ∧ u = 0)) X (fun (u : (Nat)) => mW m0 ma la lb u t v) (mW m0 ma la lb n t v) sz) 0 0 (va_A (mW m0 ma la lb n t v) sz) := by
  refine mk_met (B := (va_A (mW m0 ma la lb n t v) sz)) (A := (va_A (mW m0 ma la lb n t v) sz)) (cc := cX11_clear) (maxL := 2) (ret := (some .int)) (by decide) rfl (Nat.le_of_ble_eq_true rfl) k_w k_a (fun p e s m below meth c S zr zlk znm zsz G ls hl => ?_)
  have S : CallFix p m c cX11_clear 2 s _ wsX11_clear RX11 := S
  have zx := S.1
  have zb := S.2.1
  have hl : lv_has ls 2 [(0, .ref m0)] := hl
  have hO_t := hI_t
  obtain ⟨ht0_t, ht1_t⟩ := hO_t
  refine lv_aload_n zx zb dX11_clear_0 rfl (lv_at hl 0 rfl) ?_
  refine r_get (C := RX11) (T := TX11) (N := 18) (ci := 9) (v := .int (nI n)) S in_X11_clear_X11 G 0 rfl rfl 11 (by decide) lk_X11_clear_205 rfl dX11_clear_1 ?_
  refine lv_istore_n (lv' := [(1, .int (nI n)), (0, .ref m0)]) zx zb dX11_clear_4 rfl hl (by decide) rfl (fun ls hl => ?_)
  refine lv_aload_n zx zb dX11_clear_5 rfl (lv_at hl 1 rfl) ?_
  refine lv_iconst (v := 0) zx zb dX11_clear_6 (by decide) ?_
  refine r_put (C := RX11) (T := TX11) (N := 18) (ci := 9) (v := .int 0) S in_X11_clear_X11 tyX11_ok nmX11 G 0 rfl rfl 11 (by decide) lk_X11_clear_205 rfl (vp_nar_int _) rfl (Nat.le_of_ble_eq_true rfl) dX11_clear_7 (fun H locs G => ?_)
  obtain ⟨n_1, hI_n_1, hE_n_1, G⟩ : ∃ n_1 : Nat, n_1 ≤ 150 ∧ n_1 = 0 ∧ wd X (va_A (mW m0 ma la lb n t v) sz) (va_A (mW m0 ma la lb n t v) sz) s (mW m0 ma la lb n_1 t v) H locs := ⟨0, by omega, rfl, G⟩
  refine lv_iload_n zx zb dX11_clear_10 rfl (lv_at hl 0 rfl) ?_
  exact e_int S zr zlk (vp_nar_int _) G (n_1) [0] rfl rfl (Or.inr rfl) (⟨hI_n_1, ⟨rfl, hE_n_1⟩⟩) dX11_clear_11
theorem mm_X11_isSmall_c209 : Cond.constantLong RX11 209 (97) ∈ wsX11_isSmall := by decide +kernel
theorem mm_X11_isSmall_c211 : Cond.constantLong RX11 211 (122) ∈ wsX11_isSmall := by decide +kernel
set_option maxHeartbeats 4000000 in
set_option maxRecDepth 100000 in
/-- isSmall -/
theorem m_isSmall (l : Launch) (X : EX) (x : Int32) (sz : Nat) : Met l yX11_isSmall wsX11_isSmall ({ frames := 1, cells := 0, slots := 0, locals := 25 } : Room) (pE X [.int x] ([]) sz) (qI (fun (r : Int32) (u : Unit) => r = 0 ∨ r = 1) X (fun (u : Unit) => []) [] sz) 0 0 (va_A [] sz) := by
  refine mk_met (B := (fun _ => True)) (A := (va_A [] sz)) (cc := cX11_isSmall) (maxL := 1) (ret := (some .boolean)) (by decide) rfl (Nat.le_of_ble_eq_true rfl) k_ro k_a (fun p e s m below meth c S zr zlk znm zsz G ls hl => ?_)
  have S : CallFix p m c cX11_isSmall 1 s _ wsX11_isSmall RX11 := S
  have zx := S.1
  have zb := S.2.1
  have hl : lv_has ls 1 [(0, .int x)] := hl
  refine lv_iload_n zx zb dX11_isSmall_0 rfl (lv_at hl 0 rfl) ?_
  refine lv_i2l (v := (Int32.toInt64 x)) zx zb dX11_isSmall_1 rfl ?_
  refine lv_ldc2 zx zb S.2.2.2.1 (S.2.2.2.2 _ mm_X11_isSmall_c209) dX11_isSmall_2 ?_
  refine k_ld (v := (Int32.toInt64 97)) (by decide) ?_
  refine lv_ldc2 zx zb S.2.2.2.1 (S.2.2.2.2 _ mm_X11_isSmall_c211) dX11_isSmall_5 ?_
  refine k_ld (v := (Int32.toInt64 122)) (by decide) ?_
  refine o_ri (cells' := 0) (slots' := 0) G rfl rfl (n_S (As := [.long (Int32.toInt64 x), .long (Int32.toInt64 97), .long (Int32.toInt64 122)]) (rest := []) S G (m_in l X x 97 122 s.heap.size) gX11_isSmall_X11_in rfl rfl rfl hdS_X11_in ⟨Nat.le_of_ble_eq_true rfl, Nat.le_of_ble_eq_true rfl⟩ [] rfl rfl rfl hl.1 (Nat.le_of_ble_eq_true rfl) dX11_isSmall_8 ⟨Nat.le_of_ble_eq_true rfl, Nat.le_of_ble_eq_true rfl⟩) (fun r_1 u_1 H locs hp_1 G => ?_)
  have G : wd X (fun _ => True) (va_A [] sz) s ([]) H locs := G
  rcases hp_1 with ⟨rfl, hw_1⟩ | ⟨rfl, hw_1⟩
  · obtain ⟨j_1, ⟨ja_1, jb_1⟩, rfl⟩ := k_natR (a := 97) (b := 122) hw_1 rfl rfl (by decide) (by decide)
    exact e_int S zr zlk (by decide) G () [] rfl rfl (Or.inl rfl) ((Or.inr rfl)) dX11_isSmall_11
  · exact e_int S zr zlk (by decide) G () [] rfl rfl (Or.inl rfl) ((Or.inl rfl)) dX11_isSmall_11
theorem mm_X11_isFigure_c213 : Cond.constantLong RX11 213 (48) ∈ wsX11_isFigure := by decide +kernel
theorem mm_X11_isFigure_c215 : Cond.constantLong RX11 215 (57) ∈ wsX11_isFigure := by decide +kernel
set_option maxHeartbeats 4000000 in
set_option maxRecDepth 100000 in
/-- isFigure -/
theorem m_isFigure (l : Launch) (X : EX) (x : Int32) (sz : Nat) : Met l yX11_isFigure wsX11_isFigure ({ frames := 1, cells := 0, slots := 0, locals := 25 } : Room) (pE X [.int x] ([]) sz) (qI (fun (r : Int32) (u : Unit) => r = 0 ∨ r = 1) X (fun (u : Unit) => []) [] sz) 0 0 (va_A [] sz) := by
  refine mk_met (B := (fun _ => True)) (A := (va_A [] sz)) (cc := cX11_isFigure) (maxL := 1) (ret := (some .boolean)) (by decide) rfl (Nat.le_of_ble_eq_true rfl) k_ro k_a (fun p e s m below meth c S zr zlk znm zsz G ls hl => ?_)
  have S : CallFix p m c cX11_isFigure 1 s _ wsX11_isFigure RX11 := S
  have zx := S.1
  have zb := S.2.1
  have hl : lv_has ls 1 [(0, .int x)] := hl
  refine lv_iload_n zx zb dX11_isFigure_0 rfl (lv_at hl 0 rfl) ?_
  refine lv_i2l (v := (Int32.toInt64 x)) zx zb dX11_isFigure_1 rfl ?_
  refine lv_ldc2 zx zb S.2.2.2.1 (S.2.2.2.2 _ mm_X11_isFigure_c213) dX11_isFigure_2 ?_
  refine k_ld (v := (Int32.toInt64 48)) (by decide) ?_
  refine lv_ldc2 zx zb S.2.2.2.1 (S.2.2.2.2 _ mm_X11_isFigure_c215) dX11_isFigure_5 ?_
  refine k_ld (v := (Int32.toInt64 57)) (by decide) ?_
  refine o_ri (cells' := 0) (slots' := 0) G rfl rfl (n_S (As := [.long (Int32.toInt64 x), .long (Int32.toInt64 48), .long (Int32.toInt64 57)]) (rest := []) S G (m_in l X x 48 57 s.heap.size) gX11_isFigure_X11_in rfl rfl rfl hdS_X11_in ⟨Nat.le_of_ble_eq_true rfl, Nat.le_of_ble_eq_true rfl⟩ [] rfl rfl rfl hl.1 (Nat.le_of_ble_eq_true rfl) dX11_isFigure_8 ⟨Nat.le_of_ble_eq_true rfl, Nat.le_of_ble_eq_true rfl⟩) (fun r_1 u_1 H locs hp_1 G => ?_)
  have G : wd X (fun _ => True) (va_A [] sz) s ([]) H locs := G
  rcases hp_1 with ⟨rfl, hw_1⟩ | ⟨rfl, hw_1⟩
  · obtain ⟨j_1, ⟨ja_1, jb_1⟩, rfl⟩ := k_natR (a := 48) (b := 57) hw_1 rfl rfl (by decide) (by decide)
    exact e_int S zr zlk (by decide) G () [] rfl rfl (Or.inl rfl) ((Or.inr rfl)) dX11_isFigure_11
  · exact e_int S zr zlk (by decide) G () [] rfl rfl (Or.inl rfl) ((Or.inl rfl)) dX11_isFigure_11
theorem in_X11_lookAt_X11 : ∀ w ∈ wsX110, w ∈ wsX11_lookAt := by decide +kernel
theorem lk_X11_lookAt_217 : Cond.fieldLink RX11 217 "EggSpoonsModel" "tokenAt" "I" ∈ wsX11_lookAt := by decide +kernel
theorem lk_X11_lookAt_205 : Cond.fieldLink RX11 205 "EggSpoonsModel" "bytesLong" "I" ∈ wsX11_lookAt := by decide +kernel
theorem lk_X11_lookAt_39 : Cond.fieldLink RX11 39 "EggSpoonsModel" "bytes" "[I" ∈ wsX11_lookAt := by decide +kernel
theorem lk_X11_lookAt_220 : Cond.fieldLink RX11 220 "EggSpoonsModel" "tokenLong" "I" ∈ wsX11_lookAt := by decide +kernel
theorem lk_X11_lookAt_223 : Cond.fieldLink RX11 223 "EggSpoonsModel" "token" "I" ∈ wsX11_lookAt := by decide +kernel
theorem lk_X11_lookAt_226 : Cond.fieldLink RX11 226 "EggSpoonsModel" "value" "I" ∈ wsX11_lookAt := by decide +kernel
theorem hdS_X11_isSmall : yX11_isSmall.cls ≠ "java/lang/invoke/MethodHandle" ∧ yX11_isSmall.cls ≠ "java/lang/invoke/VarHandle" ∧ (parseMethodDescriptor yX11_isSmall.desc).map (fun d => d.parameters.length) = some 1 := by decide +kernel
theorem hdS_X11_isFigure : yX11_isFigure.cls ≠ "java/lang/invoke/MethodHandle" ∧ yX11_isFigure.cls ≠ "java/lang/invoke/VarHandle" ∧ (parseMethodDescriptor yX11_isFigure.desc).map (fun d => d.parameters.length) = some 1 := by decide +kernel
set_option maxHeartbeats 4000000 in
set_option maxRecDepth 100000 in
/-- lookAt -/
theorem m_lookAt (l : Launch) (X : EX) (m0 : Nat) (ma : Nat → Nat) (la : Int64) (lb : Int64) (n : Nat) (t : Nat → Nat) (v : Nat → Int32) (fd : Nat → Int32) (o : Nat) (hI_n : n ≤ 150) (hI_t : InT t) (ho : o ≤ n) (sz : Nat) : Met l yX11_lookAt wsX11_lookAt ({ frames := 2, cells := 0, slots := 0, locals := 45 } : Room) (pE X [.ref m0, .int (nI o)] (@HAppend.hAppend va_W va_W va_W _ (mW m0 ma la lb n t v) ([((ma 10), .inl (X.2.1, 150, .inl fd))])) sz) (qV (fun (u : (Nat → Nat) × (Nat → Int32)) => InT u.1 ∧ (o ≤ u.1 0 ∧ u.1 0 + u.1 1 ≤ n ∧ (u.2 0 = 0 ∨ 1 ≤ u.1 1))) X (fun (u : (Nat → Nat) × (Nat → Int32)) => @HAppend.hAppend va_W va_W va_W _ (mW m0 ma la lb n u.1 u.2) ([((ma 10), .inl (X.2.1, 150, .inl fd))])) (@HAppend.hAppend va_W va_W va_W _ (mW m0 ma la lb n t v) ([((ma 10), .inl (X.2.1, 150, .inl fd))])) sz) 0 0 (va_A (@HAppend.hAppend va_W va_W va_W _ (mW m0 ma la lb n t v) ([((ma 10), .inl (X.2.1, 150, .inl fd))])) sz) := by
  refine mk_met (B := (va_A (@HAppend.hAppend va_W va_W va_W _ (mW m0 ma la lb n t v) ([((ma 10), .inl (X.2.1, 150, .inl fd))])) sz)) (A := (va_A (@HAppend.hAppend va_W va_W va_W _ (mW m0 ma la lb n t v) ([((ma 10), .inl (X.2.1, 150, .inl fd))])) sz)) (cc := cX11_lookAt) (maxL := 5) (ret := none) (by decide) rfl (Nat.le_of_ble_eq_true rfl) k_w k_a (fun p e s m below meth c S zr zlk znm zsz G ls hl => ?_)
  have S : CallFix p m c cX11_lookAt 5 s _ wsX11_lookAt RX11 := S
  have zx := S.1
  have zb := S.2.1
  have hl : lv_has ls 5 [(0, .ref m0), (1, .int (nI o))] := hl
  have hO_t := hI_t
  obtain ⟨ht0_t, ht1_t⟩ := hO_t
  refine lv_aload_n zx zb dX11_lookAt_0 rfl (lv_at hl 0 rfl) ?_
  refine lv_iload_n zx zb dX11_lookAt_1 rfl (lv_at hl 1 rfl) ?_
  refine r_put (C := RX11) (T := TX11) (N := 18) (ci := 9) (v := .int (nI o)) S in_X11_lookAt_X11 tyX11_ok nmX11 G 0 rfl rfl 12 (by decide) lk_X11_lookAt_217 rfl (vp_nar_int _) rfl (Nat.le_of_ble_eq_true rfl) dX11_lookAt_2 (fun H locs G => ?_)
  obtain ⟨t_1, hI_t_1, ⟨hE_t_1_0, hE_t_1_1⟩, G⟩ : ∃ t_1 : Nat → Nat, InT t_1 ∧ (t_1 0 = o ∧ t_1 1 = t 1) ∧ wd X (va_A (@HAppend.hAppend va_W va_W va_W _ (mW m0 ma la lb n t v) ([((ma 10), .inl (X.2.1, 150, .inl fd))])) sz) (va_A (@HAppend.hAppend va_W va_W va_W _ (mW m0 ma la lb n t v) ([((ma 10), .inl (X.2.1, 150, .inl fd))])) sz) s (@HAppend.hAppend va_W va_W va_W _ (mW m0 ma la lb n t_1 v) ([((ma 10), .inl (X.2.1, 150, .inl fd))])) H locs := ⟨upN t 0 o, ⟨(by show o ≤ 150; omega), ht1_t⟩, ⟨rfl, rfl⟩, G⟩
  have hO_t_1 := hI_t_1
  obtain ⟨ht0_t_1, ht1_t_1⟩ := hO_t_1
  refine k_loop (P := ∀ (zm : Nat) (t5_0 : Nat → Nat) (H : Heap) (locs : List Loc) (ls : Array Slot), ((150 - t5_0 0) < zm) → (o ≤ t5_0 0 ∧ t5_0 0 ≤ n) → InT t5_0 → wd X (va_A (@HAppend.hAppend va_W va_W va_W _ (mW m0 ma la lb n t v) ([((ma 10), .inl (X.2.1, 150, .inl fd))])) sz) (va_A (@HAppend.hAppend va_W va_W va_W _ (mW m0 ma la lb n t v) ([((ma 10), .inl (X.2.1, 150, .inl fd))])) sz) s (@HAppend.hAppend va_W va_W va_W _ (mW m0 ma la lb n t5_0 v) ([((ma 10), .inl (X.2.1, 150, .inl fd))])) H locs → lv_has ls 5 [(0, .ref m0), (1, .int (nI o))] → W p l e _ s m _ below meth c H locs _ _ _ (F0 m 5 ls [])) (fun loop => loop ((150 - t_1 0) + 1) t_1 _ _ _ (by omega) (by omega) hI_t_1 G hl) ?_
  intro zm
  induction zm with
  | zero => intro t5_0 H locs ls zz q_x0 q_hI_t5_0 _ _; exact absurd zz (by omega)
  | succ zm ih5 =>
    intro t5_0 H locs ls zm_5 hx5_0 hI_t5_0 G hl
    have hO_t5_0 := hI_t5_0
    obtain ⟨ht0_t5_0, ht1_t5_0⟩ := hO_t5_0
    refine lv_aload_n zx zb dX11_lookAt_5 rfl (lv_at hl 0 rfl) ?_
    refine r_get (C := RX11) (T := TX11) (N := 18) (ci := 9) (v := .int (nI (t5_0 0))) S in_X11_lookAt_X11 G 0 rfl rfl 12 (by decide) lk_X11_lookAt_217 rfl dX11_lookAt_6 ?_
    refine lv_aload_n zx zb dX11_lookAt_9 rfl (lv_at hl 0 rfl) ?_
    refine r_get (C := RX11) (T := TX11) (N := 18) (ci := 9) (v := .int (nI n)) S in_X11_lookAt_X11 G 0 rfl rfl 11 (by decide) lk_X11_lookAt_205 rfl dX11_lookAt_10 ?_
    refine k_cutW (PP := fun Wx => ∀ (H : Heap) (locs : List Loc) (ls : Array Slot), wd X (va_A (@HAppend.hAppend va_W va_W va_W _ (mW m0 ma la lb n t v) ([((ma 10), .inl (X.2.1, 150, .inl fd))])) sz) (va_A (@HAppend.hAppend va_W va_W va_W _ (mW m0 ma la lb n t v) ([((ma 10), .inl (X.2.1, 150, .inl fd))])) sz) s (@HAppend.hAppend va_W va_W va_W _ (mW m0 ma la lb n t5_0 v) ([((ma 10), .inl (X.2.1, 150, .inl fd))])) H locs → lv_has ls 5 [(0, .ref m0), (1, .int (nI o))] → Wx (F0 m 43 ls []) H locs) ?_ ?_
    · intro join_13
      refine lv_icmp_ge (tgt := 43) zx zb dX11_lookAt_13 (by decide) (fun c_2 => ?_) (fun c_2 => ?_)
      · have fc_2 := j_le (a := n) (b := (t5_0 0)) (by omega) (by omega) c_2
        exact join_13  _ _ _  G hl
      · have fc_2 := j_nle (a := n) (b := (t5_0 0)) (by omega) (by omega) c_2
        refine lv_aload_n zx zb dX11_lookAt_16 rfl (lv_at hl 0 rfl) ?_
        refine r_get (C := RX11) (T := TX11) (N := 18) (ci := 9) (v := .ref (ma 10)) S in_X11_lookAt_X11 G 0 rfl rfl 10 (by decide) lk_X11_lookAt_39 rfl dX11_lookAt_17 ?_
        refine lv_aload_n zx zb dX11_lookAt_20 rfl (lv_at hl 0 rfl) ?_
        refine r_get (C := RX11) (T := TX11) (N := 18) (ci := 9) (v := .int (nI (t5_0 0))) S in_X11_lookAt_X11 G 0 rfl rfl 12 (by decide) lk_X11_lookAt_217 rfl dX11_lookAt_21 ?_
        refine r_iald S G 1 rfl (vp_in_nI (by omega) (by decide)) rfl dX11_lookAt_24 ?_
        refine k_itE (fun y_3 => ?_)
        refine lv_bipush (v := 32) zx zb dX11_lookAt_25 (by decide) ?_
        refine lv_icmp_ne (tgt := 43) zx zb dX11_lookAt_27 (by decide) (fun c_4 => ?_) (fun c_4 => ?_)
        · exact join_13  _ _ _  G hl
        · refine lv_aload_n zx zb dX11_lookAt_30 rfl (lv_at hl 0 rfl) ?_
          refine lv_dup zx zb dX11_lookAt_31 rfl ?_
          refine r_get (C := RX11) (T := TX11) (N := 18) (ci := 9) (v := .int (nI (t5_0 0))) S in_X11_lookAt_X11 G 0 rfl rfl 12 (by decide) lk_X11_lookAt_217 rfl dX11_lookAt_32 ?_
          refine lv_iconst (v := 1) zx zb dX11_lookAt_35 (by decide) ?_
          refine r_iadd (v := (nI ((t5_0 0) + 1))) S (nI_add (t5_0 0) 1) dX11_lookAt_36 ?_
          refine r_put (C := RX11) (T := TX11) (N := 18) (ci := 9) (v := .int (nI ((t5_0 0) + 1))) S in_X11_lookAt_X11 tyX11_ok nmX11 G 0 rfl rfl 12 (by decide) lk_X11_lookAt_217 rfl (vp_nar_int _) rfl (Nat.le_of_ble_eq_true rfl) dX11_lookAt_37 (fun H locs G => ?_)
          obtain ⟨t_5, hI_t_5, ⟨hE_t_5_0, hE_t_5_1⟩, G⟩ : ∃ t_5 : Nat → Nat, InT t_5 ∧ (t_5 0 = ((t5_0 0) + 1) ∧ t_5 1 = t5_0 1) ∧ wd X (va_A (@HAppend.hAppend va_W va_W va_W _ (mW m0 ma la lb n t v) ([((ma 10), .inl (X.2.1, 150, .inl fd))])) sz) (va_A (@HAppend.hAppend va_W va_W va_W _ (mW m0 ma la lb n t v) ([((ma 10), .inl (X.2.1, 150, .inl fd))])) sz) s (@HAppend.hAppend va_W va_W va_W _ (mW m0 ma la lb n t_5 v) ([((ma 10), .inl (X.2.1, 150, .inl fd))])) H locs := ⟨upN t5_0 0 ((t5_0 0) + 1), ⟨(by show ((t5_0 0) + 1) ≤ 150; omega), ht1_t5_0⟩, ⟨rfl, rfl⟩, G⟩
          have hO_t_5 := hI_t_5
          obtain ⟨ht0_t_5, ht1_t_5⟩ := hO_t_5
          refine lv_goto (tgt := 5) zx zb dX11_lookAt_40 (by decide) ?_
          exact ih5 t_5 _ _ _ (by omega) (by omega) hI_t_5 G hl
    · intro  H locs ls  G hl
      refine lv_aload_n zx zb dX11_lookAt_43 rfl (lv_at hl 0 rfl) ?_
      refine lv_iconst (v := 0) zx zb dX11_lookAt_44 (by decide) ?_
      refine r_put (C := RX11) (T := TX11) (N := 18) (ci := 9) (v := .int 0) S in_X11_lookAt_X11 tyX11_ok nmX11 G 0 rfl rfl 13 (by decide) lk_X11_lookAt_220 rfl (vp_nar_int _) rfl (Nat.le_of_ble_eq_true rfl) dX11_lookAt_45 (fun H locs G => ?_)
      obtain ⟨t_6, hI_t_6, ⟨hE_t_6_1, hE_t_6_0⟩, G⟩ : ∃ t_6 : Nat → Nat, InT t_6 ∧ (t_6 1 = 0 ∧ t_6 0 = t5_0 0) ∧ wd X (va_A (@HAppend.hAppend va_W va_W va_W _ (mW m0 ma la lb n t v) ([((ma 10), .inl (X.2.1, 150, .inl fd))])) sz) (va_A (@HAppend.hAppend va_W va_W va_W _ (mW m0 ma la lb n t v) ([((ma 10), .inl (X.2.1, 150, .inl fd))])) sz) s (@HAppend.hAppend va_W va_W va_W _ (mW m0 ma la lb n t_6 v) ([((ma 10), .inl (X.2.1, 150, .inl fd))])) H locs := ⟨upN t5_0 1 0, ⟨ht0_t5_0, (by show 0 ≤ 150; omega)⟩, ⟨rfl, rfl⟩, G⟩
      have hO_t_6 := hI_t_6
      obtain ⟨ht0_t_6, ht1_t_6⟩ := hO_t_6
      refine lv_aload_n zx zb dX11_lookAt_48 rfl (lv_at hl 0 rfl) ?_
      refine lv_iconst (v := 0) zx zb dX11_lookAt_49 (by decide) ?_
      refine r_put (C := RX11) (T := TX11) (N := 18) (ci := 9) (v := .int 0) S in_X11_lookAt_X11 tyX11_ok nmX11 G 0 rfl rfl 14 (by decide) lk_X11_lookAt_223 rfl (vp_nar_int _) rfl (Nat.le_of_ble_eq_true rfl) dX11_lookAt_50 (fun H locs G => ?_)
      obtain ⟨v_7, ⟨hE_v_7_0, hE_v_7_1⟩, G⟩ : ∃ v_7 : Nat → Int32, (v_7 0 = 0 ∧ v_7 1 = v 1) ∧ wd X (va_A (@HAppend.hAppend va_W va_W va_W _ (mW m0 ma la lb n t v) ([((ma 10), .inl (X.2.1, 150, .inl fd))])) sz) (va_A (@HAppend.hAppend va_W va_W va_W _ (mW m0 ma la lb n t v) ([((ma 10), .inl (X.2.1, 150, .inl fd))])) sz) s (@HAppend.hAppend va_W va_W va_W _ (mW m0 ma la lb n t_6 v_7) ([((ma 10), .inl (X.2.1, 150, .inl fd))])) H locs := ⟨upd v 0 0, ⟨rfl, rfl⟩, G⟩
      refine lv_aload_n zx zb dX11_lookAt_53 rfl (lv_at hl 0 rfl) ?_
      refine lv_iconst (v := 0) zx zb dX11_lookAt_54 (by decide) ?_
      refine r_put (C := RX11) (T := TX11) (N := 18) (ci := 9) (v := .int 0) S in_X11_lookAt_X11 tyX11_ok nmX11 G 0 rfl rfl 15 (by decide) lk_X11_lookAt_226 rfl (vp_nar_int _) rfl (Nat.le_of_ble_eq_true rfl) dX11_lookAt_55 (fun H locs G => ?_)
      obtain ⟨v_8, ⟨hE_v_8_1, hE_v_8_0⟩, G⟩ : ∃ v_8 : Nat → Int32, (v_8 1 = 0 ∧ v_8 0 = v_7 0) ∧ wd X (va_A (@HAppend.hAppend va_W va_W va_W _ (mW m0 ma la lb n t v) ([((ma 10), .inl (X.2.1, 150, .inl fd))])) sz) (va_A (@HAppend.hAppend va_W va_W va_W _ (mW m0 ma la lb n t v) ([((ma 10), .inl (X.2.1, 150, .inl fd))])) sz) s (@HAppend.hAppend va_W va_W va_W _ (mW m0 ma la lb n t_6 v_8) ([((ma 10), .inl (X.2.1, 150, .inl fd))])) H locs := ⟨upd v_7 1 0, ⟨rfl, rfl⟩, G⟩
      refine lv_aload_n zx zb dX11_lookAt_58 rfl (lv_at hl 0 rfl) ?_
      refine r_get (C := RX11) (T := TX11) (N := 18) (ci := 9) (v := .int (nI (t_6 0))) S in_X11_lookAt_X11 G 0 rfl rfl 12 (by decide) lk_X11_lookAt_217 rfl dX11_lookAt_59 ?_
      refine lv_aload_n zx zb dX11_lookAt_62 rfl (lv_at hl 0 rfl) ?_
      refine r_get (C := RX11) (T := TX11) (N := 18) (ci := 9) (v := .int (nI n)) S in_X11_lookAt_X11 G 0 rfl rfl 11 (by decide) lk_X11_lookAt_205 rfl dX11_lookAt_63 ?_
      refine lv_icmp_ne (tgt := 70) zx zb dX11_lookAt_66 (by decide) (fun c_9 => ?_) (fun c_9 => ?_)
      · have fc_9 := j_ne (a := (t_6 0)) (b := n) c_9
        refine lv_aload_n zx zb dX11_lookAt_70 rfl (lv_at hl 0 rfl) ?_
        refine r_get (C := RX11) (T := TX11) (N := 18) (ci := 9) (v := .ref (ma 10)) S in_X11_lookAt_X11 G 0 rfl rfl 10 (by decide) lk_X11_lookAt_39 rfl dX11_lookAt_71 ?_
        refine lv_aload_n zx zb dX11_lookAt_74 rfl (lv_at hl 0 rfl) ?_
        refine r_get (C := RX11) (T := TX11) (N := 18) (ci := 9) (v := .int (nI (t_6 0))) S in_X11_lookAt_X11 G 0 rfl rfl 12 (by decide) lk_X11_lookAt_217 rfl dX11_lookAt_75 ?_
        refine r_iald S G 1 rfl (vp_in_nI (by omega) (by decide)) rfl dX11_lookAt_78 ?_
        refine k_itE (fun y_10 => ?_)
        refine lv_istore_n (lv' := [(2, .int y_10), (0, .ref m0), (1, .int (nI o))]) zx zb dX11_lookAt_79 rfl hl (by decide) rfl (fun ls hl => ?_)
        refine lv_aload_n zx zb dX11_lookAt_80 rfl (lv_at hl 1 rfl) ?_
        refine lv_iload_n zx zb dX11_lookAt_81 rfl (lv_at hl 0 rfl) ?_
        refine o_ri (cells' := 0) (slots' := 0) G rfl rfl (n_S (As := [.int y_10]) (rest := [.ref m0]) S G (m_isSmall l X y_10 H.size) gX11_lookAt_X11_isSmall rfl rfl rfl hdS_X11_isSmall ⟨Nat.le_of_ble_eq_true rfl, Nat.le_of_ble_eq_true rfl⟩ [] rfl rfl rfl hl.1 (Nat.le_of_ble_eq_true rfl) dX11_lookAt_82 ⟨Nat.le_of_ble_eq_true rfl, Nat.le_of_ble_eq_true rfl⟩) (fun r_11 u_11 H locs hp_11 G => ?_)
        have G : wd X (va_A (@HAppend.hAppend va_W va_W va_W _ (mW m0 ma la lb n t v) ([((ma 10), .inl (X.2.1, 150, .inl fd))])) sz) (va_A (@HAppend.hAppend va_W va_W va_W _ (mW m0 ma la lb n t v) ([((ma 10), .inl (X.2.1, 150, .inl fd))])) sz) s (@HAppend.hAppend va_W va_W va_W _ (mW m0 ma la lb n t_6 v_8) ([((ma 10), .inl (X.2.1, 150, .inl fd))])) H locs := G
        refine k_cutW (PP := fun Wx => ∀ (x_13 : Int32) (H : Heap) (locs : List Loc) (ls : Array Slot), wd X (va_A (@HAppend.hAppend va_W va_W va_W _ (mW m0 ma la lb n t v) ([((ma 10), .inl (X.2.1, 150, .inl fd))])) sz) (va_A (@HAppend.hAppend va_W va_W va_W _ (mW m0 ma la lb n t v) ([((ma 10), .inl (X.2.1, 150, .inl fd))])) sz) s (@HAppend.hAppend va_W va_W va_W _ (mW m0 ma la lb n t_6 v_8) ([((ma 10), .inl (X.2.1, 150, .inl fd))])) H locs → lv_has ls 5 [(2, .int y_10), (0, .ref m0), (1, .int (nI o))] → Wx (F0 m 114 ls [.int x_13, .ref m0]) H locs) ?_ ?_
        · intro join_85
          refine lv_if_eq (tgt := 92) zx zb dX11_lookAt_85 (by decide) (fun c_12 => ?_) (fun c_12 => ?_)
          · refine lv_iload_n zx zb dX11_lookAt_92 rfl (lv_at hl 0 rfl) ?_
            refine o_ri (cells' := 0) (slots' := 0) G rfl rfl (n_S (As := [.int y_10]) (rest := [.ref m0]) S G (m_isFigure l X y_10 H.size) gX11_lookAt_X11_isFigure rfl rfl rfl hdS_X11_isFigure ⟨Nat.le_of_ble_eq_true rfl, Nat.le_of_ble_eq_true rfl⟩ [] rfl rfl rfl hl.1 (Nat.le_of_ble_eq_true rfl) dX11_lookAt_93 ⟨Nat.le_of_ble_eq_true rfl, Nat.le_of_ble_eq_true rfl⟩) (fun r_14 u_14 H locs hp_14 G => ?_)
            have G : wd X (va_A (@HAppend.hAppend va_W va_W va_W _ (mW m0 ma la lb n t v) ([((ma 10), .inl (X.2.1, 150, .inl fd))])) sz) (va_A (@HAppend.hAppend va_W va_W va_W _ (mW m0 ma la lb n t v) ([((ma 10), .inl (X.2.1, 150, .inl fd))])) sz) s (@HAppend.hAppend va_W va_W va_W _ (mW m0 ma la lb n t_6 v_8) ([((ma 10), .inl (X.2.1, 150, .inl fd))])) H locs := G
            refine lv_if_eq (tgt := 103) zx zb dX11_lookAt_96 (by decide) (fun c_15 => ?_) (fun c_15 => ?_)
            · refine lv_iload_n zx zb dX11_lookAt_103 rfl (lv_at hl 0 rfl) ?_
              refine lv_bipush (v := 59) zx zb dX11_lookAt_104 (by decide) ?_
              refine lv_icmp_ne (tgt := 113) zx zb dX11_lookAt_106 (by decide) (fun c_16 => ?_) (fun c_16 => ?_)
              · refine lv_iconst (v := 4) zx zb dX11_lookAt_113 (by decide) ?_
                exact join_85 4 _ _ _  G hl
              · refine lv_iconst (v := 3) zx zb dX11_lookAt_109 (by decide) ?_
                refine lv_goto (tgt := 114) zx zb dX11_lookAt_110 (by decide) ?_
                exact join_85 3 _ _ _  G hl
            · refine lv_iconst (v := 2) zx zb dX11_lookAt_99 (by decide) ?_
              refine lv_goto (tgt := 114) zx zb dX11_lookAt_100 (by decide) ?_
              exact join_85 2 _ _ _  G hl
          · refine lv_iconst (v := 1) zx zb dX11_lookAt_88 (by decide) ?_
            refine lv_goto (tgt := 114) zx zb dX11_lookAt_89 (by decide) ?_
            exact join_85 1 _ _ _  G hl
        · intro x_13 H locs ls  G hl
          refine r_put (C := RX11) (T := TX11) (N := 18) (ci := 9) (v := .int x_13) S in_X11_lookAt_X11 tyX11_ok nmX11 G 0 rfl rfl 14 (by decide) lk_X11_lookAt_223 rfl (vp_nar_int _) rfl (Nat.le_of_ble_eq_true rfl) dX11_lookAt_114 (fun H locs G => ?_)
          obtain ⟨v_17, ⟨hE_v_17_0, hE_v_17_1⟩, G⟩ : ∃ v_17 : Nat → Int32, (v_17 0 = x_13 ∧ v_17 1 = v_8 1) ∧ wd X (va_A (@HAppend.hAppend va_W va_W va_W _ (mW m0 ma la lb n t v) ([((ma 10), .inl (X.2.1, 150, .inl fd))])) sz) (va_A (@HAppend.hAppend va_W va_W va_W _ (mW m0 ma la lb n t v) ([((ma 10), .inl (X.2.1, 150, .inl fd))])) sz) s (@HAppend.hAppend va_W va_W va_W _ (mW m0 ma la lb n t_6 v_17) ([((ma 10), .inl (X.2.1, 150, .inl fd))])) H locs := ⟨upd v_8 0 x_13, ⟨rfl, rfl⟩, G⟩
          refine lv_aload_n zx zb dX11_lookAt_117 rfl (lv_at hl 1 rfl) ?_
          refine lv_iconst (v := 1) zx zb dX11_lookAt_118 (by decide) ?_
          refine r_put (C := RX11) (T := TX11) (N := 18) (ci := 9) (v := .int 1) S in_X11_lookAt_X11 tyX11_ok nmX11 G 0 rfl rfl 13 (by decide) lk_X11_lookAt_220 rfl (vp_nar_int _) rfl (Nat.le_of_ble_eq_true rfl) dX11_lookAt_119 (fun H locs G => ?_)
          obtain ⟨t_18, hI_t_18, ⟨hE_t_18_1, hE_t_18_0⟩, G⟩ : ∃ t_18 : Nat → Nat, InT t_18 ∧ (t_18 1 = 1 ∧ t_18 0 = t_6 0) ∧ wd X (va_A (@HAppend.hAppend va_W va_W va_W _ (mW m0 ma la lb n t v) ([((ma 10), .inl (X.2.1, 150, .inl fd))])) sz) (va_A (@HAppend.hAppend va_W va_W va_W _ (mW m0 ma la lb n t v) ([((ma 10), .inl (X.2.1, 150, .inl fd))])) sz) s (@HAppend.hAppend va_W va_W va_W _ (mW m0 ma la lb n t_18 v_17) ([((ma 10), .inl (X.2.1, 150, .inl fd))])) H locs := ⟨upN t_6 1 1, ⟨ht0_t_6, (by show 1 ≤ 150; omega)⟩, ⟨rfl, rfl⟩, G⟩
          have hO_t_18 := hI_t_18
          obtain ⟨ht0_t_18, ht1_t_18⟩ := hO_t_18
          refine lv_aload_n zx zb dX11_lookAt_122 rfl (lv_at hl 1 rfl) ?_
          refine r_get (C := RX11) (T := TX11) (N := 18) (ci := 9) (v := .int (v_17 0)) S in_X11_lookAt_X11 G 0 rfl rfl 14 (by decide) lk_X11_lookAt_223 rfl dX11_lookAt_123 ?_
          refine lv_iconst (v := 3) zx zb dX11_lookAt_126 (by decide) ?_
          refine k_cutW (PP := fun Wx => ∀ (x_20 : Int32) (H : Heap) (locs : List Loc) (ls : Array Slot), (x_20 = 0 ∨ x_20 = 1) → wd X (va_A (@HAppend.hAppend va_W va_W va_W _ (mW m0 ma la lb n t v) ([((ma 10), .inl (X.2.1, 150, .inl fd))])) sz) (va_A (@HAppend.hAppend va_W va_W va_W _ (mW m0 ma la lb n t v) ([((ma 10), .inl (X.2.1, 150, .inl fd))])) sz) s (@HAppend.hAppend va_W va_W va_W _ (mW m0 ma la lb n t_18 v_17) ([((ma 10), .inl (X.2.1, 150, .inl fd))])) H locs → lv_has ls 5 [(2, .int y_10), (0, .ref m0), (1, .int (nI o))] → Wx (F0 m 135 ls [.int x_20]) H locs) ?_ ?_
          · intro join_127
            refine lv_icmp_ge (tgt := 134) zx zb dX11_lookAt_127 (by decide) (fun c_19 => ?_) (fun c_19 => ?_)
            · refine lv_iconst (v := 0) zx zb dX11_lookAt_134 (by decide) ?_
              exact join_127 0 _ _ _ (by first | assumption | exact Or.inl rfl | exact Or.inr rfl) G hl
            · refine lv_iconst (v := 1) zx zb dX11_lookAt_130 (by decide) ?_
              refine lv_goto (tgt := 135) zx zb dX11_lookAt_131 (by decide) ?_
              exact join_127 1 _ _ _ (by first | assumption | exact Or.inl rfl | exact Or.inr rfl) G hl
          · intro x_20 H locs ls hk_x_20 G hl
            refine lv_istore_n (lv' := [(3, .int x_20), (2, .int y_10), (0, .ref m0), (1, .int (nI o))]) zx zb dX11_lookAt_135 rfl hl (by decide) rfl (fun ls hl => ?_)
            rcases (show x_20 = 0 ∨ x_20 = 1 by assumption) with rfl | rfl
            · have hl : lv_has ls 5 [(3, .int 0), (2, .int y_10), (0, .ref m0), (1, .int (nI o))] := hl
              refine lv_iload_n zx zb dX11_lookAt_136 rfl (lv_at hl 0 rfl) ?_
              refine lv_if_eq (tgt := 215) zx zb dX11_lookAt_137 (by decide) (fun c_21 => ?_) (fun c_21 => absurd (by decide) c_21)
              refine lv_iconst (v := 0) zx zb dX11_lookAt_215 (by decide) ?_
              refine lv_istore (lv' := [(4, .int 0), (3, .int 0), (2, .int y_10), (0, .ref m0), (1, .int (nI o))]) zx zb dX11_lookAt_216 hl (by decide) rfl (fun ls hl => ?_)
              refine k_loop (P := ∀ (zm : Nat) (k218 : Nat) (v218_0 : Nat → Int32) (H : Heap) (locs : List Loc) (ls : Array Slot), 2 + 1 ≤ k218 + zm → (k218 ≤ 2) → wd X (va_A (@HAppend.hAppend va_W va_W va_W _ (mW m0 ma la lb n t v) ([((ma 10), .inl (X.2.1, 150, .inl fd))])) sz) (va_A (@HAppend.hAppend va_W va_W va_W _ (mW m0 ma la lb n t v) ([((ma 10), .inl (X.2.1, 150, .inl fd))])) sz) s (@HAppend.hAppend va_W va_W va_W _ (mW m0 ma la lb n t_18 v218_0) ([((ma 10), .inl (X.2.1, 150, .inl fd))])) H locs → lv_has ls 5 [(4, .int (nI k218)), (3, .int 0), (2, .int y_10), (0, .ref m0), (1, .int (nI o))] → W p l e _ s m _ below meth c H locs _ _ _ (F0 m 218 ls [])) (fun loop => loop (2 + 1) 0 v_17 _ _ _ (by omega) (by omega) G hl) ?_
              intro zm
              induction zm with
              | zero => intro k218 v218_0 H locs ls zz q_hk_k218 _ _; exact absurd zz (by omega)
              | succ zm ih218 =>
                intro k218 v218_0 H locs ls zm_218 hk_k218 G hl
                refine lv_iload zx zb dX11_lookAt_218 (lv_at hl 0 rfl) ?_
                refine lv_aload_n zx zb dX11_lookAt_220 rfl (lv_at hl 3 rfl) ?_
                refine r_get (C := RX11) (T := TX11) (N := 18) (ci := 9) (v := .int (nI (t_18 1))) S in_X11_lookAt_X11 G 0 rfl rfl 13 (by decide) lk_X11_lookAt_220 rfl dX11_lookAt_221 ?_
                refine k_cutW (PP := fun Wx => ∀ (H : Heap) (locs : List Loc) (ls : Array Slot), wd X (va_A (@HAppend.hAppend va_W va_W va_W _ (mW m0 ma la lb n t v) ([((ma 10), .inl (X.2.1, 150, .inl fd))])) sz) (va_A (@HAppend.hAppend va_W va_W va_W _ (mW m0 ma la lb n t v) ([((ma 10), .inl (X.2.1, 150, .inl fd))])) sz) s (@HAppend.hAppend va_W va_W va_W _ (mW m0 ma la lb n t_18 v218_0) ([((ma 10), .inl (X.2.1, 150, .inl fd))])) H locs → lv_has ls 5 [(4, .int (nI k218)), (3, .int 0), (2, .int y_10), (0, .ref m0), (1, .int (nI o))] → Wx (F0 m 274 ls []) H locs) ?_ ?_
                · intro join_224
                  refine lv_icmp_ge (tgt := 274) zx zb dX11_lookAt_224 (by decide) (fun c_22 => ?_) (fun c_22 => ?_)
                  · have fc_22 := j_le (a := (t_18 1)) (b := k218) (by omega) (by omega) c_22
                    exact join_224  _ _ _  G hl
                  · have fc_22 := j_nle (a := (t_18 1)) (b := k218) (by omega) (by omega) c_22
                    refine lv_iload zx zb dX11_lookAt_227 (lv_at hl 0 rfl) ?_
                    refine lv_iconst (v := 2) zx zb dX11_lookAt_229 (by decide) ?_
                    refine lv_icmp_ge (tgt := 274) zx zb dX11_lookAt_230 (by decide) (fun c_23 => ?_) (fun c_23 => ?_)
                    · have fc_23 := j_le (a := 2) (b := k218) (by omega) (by omega) c_23
                      exact join_224  _ _ _  G hl
                    · have fc_23 := j_nle (a := 2) (b := k218) (by omega) (by omega) c_23
                      refine lv_aload_n zx zb dX11_lookAt_233 rfl (lv_at hl 3 rfl) ?_
                      refine r_get (C := RX11) (T := TX11) (N := 18) (ci := 9) (v := .int (v218_0 0)) S in_X11_lookAt_X11 G 0 rfl rfl 14 (by decide) lk_X11_lookAt_223 rfl dX11_lookAt_234 ?_
                      refine lv_iconst (v := 2) zx zb dX11_lookAt_237 (by decide) ?_
                      refine lv_icmp_ne (tgt := 274) zx zb dX11_lookAt_238 (by decide) (fun c_24 => ?_) (fun c_24 => ?_)
                      · exact join_224  _ _ _  G hl
                      · refine lv_aload_n zx zb dX11_lookAt_241 rfl (lv_at hl 3 rfl) ?_
                        refine lv_bipush (v := 10) zx zb dX11_lookAt_242 (by decide) ?_
                        refine lv_aload_n zx zb dX11_lookAt_244 rfl (lv_at hl 3 rfl) ?_
                        refine r_get (C := RX11) (T := TX11) (N := 18) (ci := 9) (v := .int (v218_0 1)) S in_X11_lookAt_X11 G 0 rfl rfl 15 (by decide) lk_X11_lookAt_226 rfl dX11_lookAt_245 ?_
                        refine r_imul (v := (10 * (v218_0 1))) S rfl dX11_lookAt_248 ?_
                        refine lv_aload_n zx zb dX11_lookAt_249 rfl (lv_at hl 3 rfl) ?_
                        refine r_get (C := RX11) (T := TX11) (N := 18) (ci := 9) (v := .ref (ma 10)) S in_X11_lookAt_X11 G 0 rfl rfl 10 (by decide) lk_X11_lookAt_39 rfl dX11_lookAt_250 ?_
                        refine lv_aload_n zx zb dX11_lookAt_253 rfl (lv_at hl 3 rfl) ?_
                        refine r_get (C := RX11) (T := TX11) (N := 18) (ci := 9) (v := .int (nI (t_18 0))) S in_X11_lookAt_X11 G 0 rfl rfl 12 (by decide) lk_X11_lookAt_217 rfl dX11_lookAt_254 ?_
                        refine lv_iload zx zb dX11_lookAt_257 (lv_at hl 0 rfl) ?_
                        refine r_iadd (v := (nI ((t_18 0) + k218))) S (nI_add (t_18 0) k218) dX11_lookAt_259 ?_
                        refine r_iald S G 1 rfl (vp_in_nI (by omega) (by decide)) rfl dX11_lookAt_260 ?_
                        refine k_itE (fun y_25 => ?_)
                        refine r_iadd (v := ((10 * (v218_0 1)) + y_25)) S rfl dX11_lookAt_261 ?_
                        refine lv_bipush (v := 48) zx zb dX11_lookAt_262 (by decide) ?_
                        refine r_isub (v := (((10 * (v218_0 1)) + y_25) - 48)) S rfl dX11_lookAt_264 ?_
                        refine r_put (C := RX11) (T := TX11) (N := 18) (ci := 9) (v := .int (((10 * (v218_0 1)) + y_25) - 48)) S in_X11_lookAt_X11 tyX11_ok nmX11 G 0 rfl rfl 15 (by decide) lk_X11_lookAt_226 rfl (vp_nar_int _) rfl (Nat.le_of_ble_eq_true rfl) dX11_lookAt_265 (fun H locs G => ?_)
                        obtain ⟨v_26, ⟨hE_v_26_1, hE_v_26_0⟩, G⟩ : ∃ v_26 : Nat → Int32, (v_26 1 = (((10 * (v218_0 1)) + y_25) - 48) ∧ v_26 0 = v218_0 0) ∧ wd X (va_A (@HAppend.hAppend va_W va_W va_W _ (mW m0 ma la lb n t v) ([((ma 10), .inl (X.2.1, 150, .inl fd))])) sz) (va_A (@HAppend.hAppend va_W va_W va_W _ (mW m0 ma la lb n t v) ([((ma 10), .inl (X.2.1, 150, .inl fd))])) sz) s (@HAppend.hAppend va_W va_W va_W _ (mW m0 ma la lb n t_18 v_26) ([((ma 10), .inl (X.2.1, 150, .inl fd))])) H locs := ⟨upd v218_0 1 (((10 * (v218_0 1)) + y_25) - 48), ⟨rfl, rfl⟩, G⟩
                        refine lv_iinc (v := (nI (k218 + 1))) (lv' := [(4, .int (nI (k218 + 1))), (3, .int 0), (2, .int y_10), (0, .ref m0), (1, .int (nI o))]) zx zb dX11_lookAt_268 hl (k := 0) rfl (nI_add k218 1) (by decide) rfl (fun ls hl => ?_)
                        refine lv_goto (tgt := 218) zx zb dX11_lookAt_271 (by decide) ?_
                        exact ih218 (k218 + 1) v_26 _ _ _ (by omega) (by omega) G hl
                · intro  H locs ls  G hl
                  refine lv_aload_n zx zb dX11_lookAt_274 rfl (lv_at hl 3 rfl) ?_
                  refine lv_aload_n zx zb dX11_lookAt_275 rfl (lv_at hl 3 rfl) ?_
                  refine r_get (C := RX11) (T := TX11) (N := 18) (ci := 9) (v := .int (v218_0 0)) S in_X11_lookAt_X11 G 0 rfl rfl 14 (by decide) lk_X11_lookAt_223 rfl dX11_lookAt_276 ?_
                  refine lv_iconst (v := 2) zx zb dX11_lookAt_279 (by decide) ?_
                  refine k_cutW (PP := fun Wx => ∀ (x_28 : Int32) (H : Heap) (locs : List Loc) (ls : Array Slot), wd X (va_A (@HAppend.hAppend va_W va_W va_W _ (mW m0 ma la lb n t v) ([((ma 10), .inl (X.2.1, 150, .inl fd))])) sz) (va_A (@HAppend.hAppend va_W va_W va_W _ (mW m0 ma la lb n t v) ([((ma 10), .inl (X.2.1, 150, .inl fd))])) sz) s (@HAppend.hAppend va_W va_W va_W _ (mW m0 ma la lb n t_18 v218_0) ([((ma 10), .inl (X.2.1, 150, .inl fd))])) H locs → lv_has ls 5 [(4, .int (nI k218)), (3, .int 0), (2, .int y_10), (0, .ref m0), (1, .int (nI o))] → Wx (F0 m 299 ls [.int x_28, .ref m0]) H locs) ?_ ?_
                  · intro join_280
                    refine lv_icmp_ne (tgt := 295) zx zb dX11_lookAt_280 (by decide) (fun c_27 => ?_) (fun c_27 => ?_)
                    · refine lv_aload_n zx zb dX11_lookAt_295 rfl (lv_at hl 3 rfl) ?_
                      refine r_get (C := RX11) (T := TX11) (N := 18) (ci := 9) (v := .int (v218_0 0)) S in_X11_lookAt_X11 G 0 rfl rfl 14 (by decide) lk_X11_lookAt_223 rfl dX11_lookAt_296 ?_
                      exact join_280 (v218_0 0) _ _ _  G hl
                    · refine lv_aload_n zx zb dX11_lookAt_283 rfl (lv_at hl 3 rfl) ?_
                      refine r_get (C := RX11) (T := TX11) (N := 18) (ci := 9) (v := .int (nI (t_18 1))) S in_X11_lookAt_X11 G 0 rfl rfl 13 (by decide) lk_X11_lookAt_220 rfl dX11_lookAt_284 ?_
                      refine lv_iconst (v := 2) zx zb dX11_lookAt_287 (by decide) ?_
                      refine lv_icmp_le (tgt := 295) zx zb dX11_lookAt_288 (by decide) (fun c_29 => ?_) (fun c_29 => ?_)
                      · have fc_29 := j_le (a := (t_18 1)) (b := 2) (by omega) (by omega) c_29
                        refine lv_aload_n zx zb dX11_lookAt_295 rfl (lv_at hl 3 rfl) ?_
                        refine r_get (C := RX11) (T := TX11) (N := 18) (ci := 9) (v := .int (v218_0 0)) S in_X11_lookAt_X11 G 0 rfl rfl 14 (by decide) lk_X11_lookAt_223 rfl dX11_lookAt_296 ?_
                        exact join_280 (v218_0 0) _ _ _  G hl
                      · have fc_29 := j_nle (a := (t_18 1)) (b := 2) (by omega) (by omega) c_29
                        refine lv_iconst (v := 4) zx zb dX11_lookAt_291 (by decide) ?_
                        refine lv_goto (tgt := 299) zx zb dX11_lookAt_292 (by decide) ?_
                        exact join_280 4 _ _ _  G hl
                  · intro x_28 H locs ls  G hl
                    refine r_put (C := RX11) (T := TX11) (N := 18) (ci := 9) (v := .int x_28) S in_X11_lookAt_X11 tyX11_ok nmX11 G 0 rfl rfl 14 (by decide) lk_X11_lookAt_223 rfl (vp_nar_int _) rfl (Nat.le_of_ble_eq_true rfl) dX11_lookAt_299 (fun H locs G => ?_)
                    obtain ⟨v_30, ⟨hE_v_30_0, hE_v_30_1⟩, G⟩ : ∃ v_30 : Nat → Int32, (v_30 0 = x_28 ∧ v_30 1 = v218_0 1) ∧ wd X (va_A (@HAppend.hAppend va_W va_W va_W _ (mW m0 ma la lb n t v) ([((ma 10), .inl (X.2.1, 150, .inl fd))])) sz) (va_A (@HAppend.hAppend va_W va_W va_W _ (mW m0 ma la lb n t v) ([((ma 10), .inl (X.2.1, 150, .inl fd))])) sz) s (@HAppend.hAppend va_W va_W va_W _ (mW m0 ma la lb n t_18 v_30) ([((ma 10), .inl (X.2.1, 150, .inl fd))])) H locs := ⟨upd v218_0 0 x_28, ⟨rfl, rfl⟩, G⟩
                    exact e_void S zr zlk G (t_18, v_30) [0, 1] rfl rfl (Or.inr rfl) (⟨hI_t_18, ⟨by first | omega | (dsimp only; omega), by first | omega | (dsimp only; omega), Or.inr (by first | omega | (dsimp only; omega))⟩⟩) dX11_lookAt_302
            · have hl : lv_has ls 5 [(3, .int 1), (2, .int y_10), (0, .ref m0), (1, .int (nI o))] := hl
              refine k_loop (P := ∀ (zm : Nat) (t136_0 : Nat → Nat) (H : Heap) (locs : List Loc) (ls : Array Slot), ((150 - t136_0 1) < zm) → ((o ≤ t136_0 0 ∧ 1 ≤ t136_0 1) ∧ t136_0 0 + t136_0 1 ≤ n) → InT t136_0 → wd X (va_A (@HAppend.hAppend va_W va_W va_W _ (mW m0 ma la lb n t v) ([((ma 10), .inl (X.2.1, 150, .inl fd))])) sz) (va_A (@HAppend.hAppend va_W va_W va_W _ (mW m0 ma la lb n t v) ([((ma 10), .inl (X.2.1, 150, .inl fd))])) sz) s (@HAppend.hAppend va_W va_W va_W _ (mW m0 ma la lb n t136_0 v_17) ([((ma 10), .inl (X.2.1, 150, .inl fd))])) H locs → lv_has ls 5 [(3, .int 1), (2, .int y_10), (0, .ref m0), (1, .int (nI o))] → W p l e _ s m _ below meth c H locs _ _ _ (F0 m 136 ls [])) (fun loop => loop ((150 - t_18 1) + 1) t_18 _ _ _ (by omega) (by omega) hI_t_18 G hl) ?_
              intro zm
              induction zm with
              | zero => intro t136_0 H locs ls zz q_x0 q_hI_t136_0 _ _; exact absurd zz (by omega)
              | succ zm ih136 =>
                intro t136_0 H locs ls zm_136 hx136_0 hI_t136_0 G hl
                have hO_t136_0 := hI_t136_0
                obtain ⟨ht0_t136_0, ht1_t136_0⟩ := hO_t136_0
                refine lv_iload_n zx zb dX11_lookAt_136 rfl (lv_at hl 0 rfl) ?_
                refine lv_if_eq (tgt := 215) zx zb dX11_lookAt_137 (by decide) (fun c_31 => absurd c_31 (by decide)) (fun c_31 => ?_)
                refine lv_aload_n zx zb dX11_lookAt_140 rfl (lv_at hl 2 rfl) ?_
                refine r_get (C := RX11) (T := TX11) (N := 18) (ci := 9) (v := .int (nI (t136_0 0))) S in_X11_lookAt_X11 G 0 rfl rfl 12 (by decide) lk_X11_lookAt_217 rfl dX11_lookAt_141 ?_
                refine lv_aload_n zx zb dX11_lookAt_144 rfl (lv_at hl 2 rfl) ?_
                refine r_get (C := RX11) (T := TX11) (N := 18) (ci := 9) (v := .int (nI (t136_0 1))) S in_X11_lookAt_X11 G 0 rfl rfl 13 (by decide) lk_X11_lookAt_220 rfl dX11_lookAt_145 ?_
                refine r_iadd (v := (nI ((t136_0 0) + (t136_0 1)))) S (nI_add (t136_0 0) (t136_0 1)) dX11_lookAt_148 ?_
                refine lv_aload_n zx zb dX11_lookAt_149 rfl (lv_at hl 2 rfl) ?_
                refine r_get (C := RX11) (T := TX11) (N := 18) (ci := 9) (v := .int (nI n)) S in_X11_lookAt_X11 G 0 rfl rfl 11 (by decide) lk_X11_lookAt_205 rfl dX11_lookAt_150 ?_
                refine lv_icmp_ge (tgt := 215) zx zb dX11_lookAt_153 (by decide) (fun c_32 => ?_) (fun c_32 => ?_)
                · have fc_32 := j_le (a := n) (b := ((t136_0 0) + (t136_0 1))) (by omega) (by omega) c_32
                  refine lv_iconst (v := 0) zx zb dX11_lookAt_215 (by decide) ?_
                  refine lv_istore (lv' := [(4, .int 0), (3, .int 1), (2, .int y_10), (0, .ref m0), (1, .int (nI o))]) zx zb dX11_lookAt_216 hl (by decide) rfl (fun ls hl => ?_)
                  refine k_loop (P := ∀ (zm : Nat) (k218 : Nat) (v218_0 : Nat → Int32) (H : Heap) (locs : List Loc) (ls : Array Slot), 2 + 1 ≤ k218 + zm → (k218 ≤ 2) → wd X (va_A (@HAppend.hAppend va_W va_W va_W _ (mW m0 ma la lb n t v) ([((ma 10), .inl (X.2.1, 150, .inl fd))])) sz) (va_A (@HAppend.hAppend va_W va_W va_W _ (mW m0 ma la lb n t v) ([((ma 10), .inl (X.2.1, 150, .inl fd))])) sz) s (@HAppend.hAppend va_W va_W va_W _ (mW m0 ma la lb n t136_0 v218_0) ([((ma 10), .inl (X.2.1, 150, .inl fd))])) H locs → lv_has ls 5 [(4, .int (nI k218)), (3, .int 1), (2, .int y_10), (0, .ref m0), (1, .int (nI o))] → W p l e _ s m _ below meth c H locs _ _ _ (F0 m 218 ls [])) (fun loop => loop (2 + 1) 0 v_17 _ _ _ (by omega) (by omega) G hl) ?_
                  intro zm
                  induction zm with
                  | zero => intro k218 v218_0 H locs ls zz q_hk_k218 _ _; exact absurd zz (by omega)
                  | succ zm ih218 =>
                    intro k218 v218_0 H locs ls zm_218 hk_k218 G hl
                    refine lv_iload zx zb dX11_lookAt_218 (lv_at hl 0 rfl) ?_
                    refine lv_aload_n zx zb dX11_lookAt_220 rfl (lv_at hl 3 rfl) ?_
                    refine r_get (C := RX11) (T := TX11) (N := 18) (ci := 9) (v := .int (nI (t136_0 1))) S in_X11_lookAt_X11 G 0 rfl rfl 13 (by decide) lk_X11_lookAt_220 rfl dX11_lookAt_221 ?_
                    refine k_cutW (PP := fun Wx => ∀ (H : Heap) (locs : List Loc) (ls : Array Slot), wd X (va_A (@HAppend.hAppend va_W va_W va_W _ (mW m0 ma la lb n t v) ([((ma 10), .inl (X.2.1, 150, .inl fd))])) sz) (va_A (@HAppend.hAppend va_W va_W va_W _ (mW m0 ma la lb n t v) ([((ma 10), .inl (X.2.1, 150, .inl fd))])) sz) s (@HAppend.hAppend va_W va_W va_W _ (mW m0 ma la lb n t136_0 v218_0) ([((ma 10), .inl (X.2.1, 150, .inl fd))])) H locs → lv_has ls 5 [(4, .int (nI k218)), (3, .int 1), (2, .int y_10), (0, .ref m0), (1, .int (nI o))] → Wx (F0 m 274 ls []) H locs) ?_ ?_
                    · intro join_224
                      refine lv_icmp_ge (tgt := 274) zx zb dX11_lookAt_224 (by decide) (fun c_33 => ?_) (fun c_33 => ?_)
                      · have fc_33 := j_le (a := (t136_0 1)) (b := k218) (by omega) (by omega) c_33
                        exact join_224  _ _ _  G hl
                      · have fc_33 := j_nle (a := (t136_0 1)) (b := k218) (by omega) (by omega) c_33
                        refine lv_iload zx zb dX11_lookAt_227 (lv_at hl 0 rfl) ?_
                        refine lv_iconst (v := 2) zx zb dX11_lookAt_229 (by decide) ?_
                        refine lv_icmp_ge (tgt := 274) zx zb dX11_lookAt_230 (by decide) (fun c_34 => ?_) (fun c_34 => ?_)
                        · have fc_34 := j_le (a := 2) (b := k218) (by omega) (by omega) c_34
                          exact join_224  _ _ _  G hl
                        · have fc_34 := j_nle (a := 2) (b := k218) (by omega) (by omega) c_34
                          refine lv_aload_n zx zb dX11_lookAt_233 rfl (lv_at hl 3 rfl) ?_
                          refine r_get (C := RX11) (T := TX11) (N := 18) (ci := 9) (v := .int (v218_0 0)) S in_X11_lookAt_X11 G 0 rfl rfl 14 (by decide) lk_X11_lookAt_223 rfl dX11_lookAt_234 ?_
                          refine lv_iconst (v := 2) zx zb dX11_lookAt_237 (by decide) ?_
                          refine lv_icmp_ne (tgt := 274) zx zb dX11_lookAt_238 (by decide) (fun c_35 => ?_) (fun c_35 => ?_)
                          · exact join_224  _ _ _  G hl
                          · refine lv_aload_n zx zb dX11_lookAt_241 rfl (lv_at hl 3 rfl) ?_
                            refine lv_bipush (v := 10) zx zb dX11_lookAt_242 (by decide) ?_
                            refine lv_aload_n zx zb dX11_lookAt_244 rfl (lv_at hl 3 rfl) ?_
                            refine r_get (C := RX11) (T := TX11) (N := 18) (ci := 9) (v := .int (v218_0 1)) S in_X11_lookAt_X11 G 0 rfl rfl 15 (by decide) lk_X11_lookAt_226 rfl dX11_lookAt_245 ?_
                            refine r_imul (v := (10 * (v218_0 1))) S rfl dX11_lookAt_248 ?_
                            refine lv_aload_n zx zb dX11_lookAt_249 rfl (lv_at hl 3 rfl) ?_
                            refine r_get (C := RX11) (T := TX11) (N := 18) (ci := 9) (v := .ref (ma 10)) S in_X11_lookAt_X11 G 0 rfl rfl 10 (by decide) lk_X11_lookAt_39 rfl dX11_lookAt_250 ?_
                            refine lv_aload_n zx zb dX11_lookAt_253 rfl (lv_at hl 3 rfl) ?_
                            refine r_get (C := RX11) (T := TX11) (N := 18) (ci := 9) (v := .int (nI (t136_0 0))) S in_X11_lookAt_X11 G 0 rfl rfl 12 (by decide) lk_X11_lookAt_217 rfl dX11_lookAt_254 ?_
                            refine lv_iload zx zb dX11_lookAt_257 (lv_at hl 0 rfl) ?_
                            refine r_iadd (v := (nI ((t136_0 0) + k218))) S (nI_add (t136_0 0) k218) dX11_lookAt_259 ?_
                            refine r_iald S G 1 rfl (vp_in_nI (by omega) (by decide)) rfl dX11_lookAt_260 ?_
                            refine k_itE (fun y_36 => ?_)
                            refine r_iadd (v := ((10 * (v218_0 1)) + y_36)) S rfl dX11_lookAt_261 ?_
                            refine lv_bipush (v := 48) zx zb dX11_lookAt_262 (by decide) ?_
                            refine r_isub (v := (((10 * (v218_0 1)) + y_36) - 48)) S rfl dX11_lookAt_264 ?_
                            refine r_put (C := RX11) (T := TX11) (N := 18) (ci := 9) (v := .int (((10 * (v218_0 1)) + y_36) - 48)) S in_X11_lookAt_X11 tyX11_ok nmX11 G 0 rfl rfl 15 (by decide) lk_X11_lookAt_226 rfl (vp_nar_int _) rfl (Nat.le_of_ble_eq_true rfl) dX11_lookAt_265 (fun H locs G => ?_)
                            obtain ⟨v_37, ⟨hE_v_37_1, hE_v_37_0⟩, G⟩ : ∃ v_37 : Nat → Int32, (v_37 1 = (((10 * (v218_0 1)) + y_36) - 48) ∧ v_37 0 = v218_0 0) ∧ wd X (va_A (@HAppend.hAppend va_W va_W va_W _ (mW m0 ma la lb n t v) ([((ma 10), .inl (X.2.1, 150, .inl fd))])) sz) (va_A (@HAppend.hAppend va_W va_W va_W _ (mW m0 ma la lb n t v) ([((ma 10), .inl (X.2.1, 150, .inl fd))])) sz) s (@HAppend.hAppend va_W va_W va_W _ (mW m0 ma la lb n t136_0 v_37) ([((ma 10), .inl (X.2.1, 150, .inl fd))])) H locs := ⟨upd v218_0 1 (((10 * (v218_0 1)) + y_36) - 48), ⟨rfl, rfl⟩, G⟩
                            refine lv_iinc (v := (nI (k218 + 1))) (lv' := [(4, .int (nI (k218 + 1))), (3, .int 1), (2, .int y_10), (0, .ref m0), (1, .int (nI o))]) zx zb dX11_lookAt_268 hl (k := 0) rfl (nI_add k218 1) (by decide) rfl (fun ls hl => ?_)
                            refine lv_goto (tgt := 218) zx zb dX11_lookAt_271 (by decide) ?_
                            exact ih218 (k218 + 1) v_37 _ _ _ (by omega) (by omega) G hl
                    · intro  H locs ls  G hl
                      refine lv_aload_n zx zb dX11_lookAt_274 rfl (lv_at hl 3 rfl) ?_
                      refine lv_aload_n zx zb dX11_lookAt_275 rfl (lv_at hl 3 rfl) ?_
                      refine r_get (C := RX11) (T := TX11) (N := 18) (ci := 9) (v := .int (v218_0 0)) S in_X11_lookAt_X11 G 0 rfl rfl 14 (by decide) lk_X11_lookAt_223 rfl dX11_lookAt_276 ?_
                      refine lv_iconst (v := 2) zx zb dX11_lookAt_279 (by decide) ?_
                      refine k_cutW (PP := fun Wx => ∀ (x_39 : Int32) (H : Heap) (locs : List Loc) (ls : Array Slot), wd X (va_A (@HAppend.hAppend va_W va_W va_W _ (mW m0 ma la lb n t v) ([((ma 10), .inl (X.2.1, 150, .inl fd))])) sz) (va_A (@HAppend.hAppend va_W va_W va_W _ (mW m0 ma la lb n t v) ([((ma 10), .inl (X.2.1, 150, .inl fd))])) sz) s (@HAppend.hAppend va_W va_W va_W _ (mW m0 ma la lb n t136_0 v218_0) ([((ma 10), .inl (X.2.1, 150, .inl fd))])) H locs → lv_has ls 5 [(4, .int (nI k218)), (3, .int 1), (2, .int y_10), (0, .ref m0), (1, .int (nI o))] → Wx (F0 m 299 ls [.int x_39, .ref m0]) H locs) ?_ ?_
                      · intro join_280
                        refine lv_icmp_ne (tgt := 295) zx zb dX11_lookAt_280 (by decide) (fun c_38 => ?_) (fun c_38 => ?_)
                        · refine lv_aload_n zx zb dX11_lookAt_295 rfl (lv_at hl 3 rfl) ?_
                          refine r_get (C := RX11) (T := TX11) (N := 18) (ci := 9) (v := .int (v218_0 0)) S in_X11_lookAt_X11 G 0 rfl rfl 14 (by decide) lk_X11_lookAt_223 rfl dX11_lookAt_296 ?_
                          exact join_280 (v218_0 0) _ _ _  G hl
                        · refine lv_aload_n zx zb dX11_lookAt_283 rfl (lv_at hl 3 rfl) ?_
                          refine r_get (C := RX11) (T := TX11) (N := 18) (ci := 9) (v := .int (nI (t136_0 1))) S in_X11_lookAt_X11 G 0 rfl rfl 13 (by decide) lk_X11_lookAt_220 rfl dX11_lookAt_284 ?_
                          refine lv_iconst (v := 2) zx zb dX11_lookAt_287 (by decide) ?_
                          refine lv_icmp_le (tgt := 295) zx zb dX11_lookAt_288 (by decide) (fun c_40 => ?_) (fun c_40 => ?_)
                          · have fc_40 := j_le (a := (t136_0 1)) (b := 2) (by omega) (by omega) c_40
                            refine lv_aload_n zx zb dX11_lookAt_295 rfl (lv_at hl 3 rfl) ?_
                            refine r_get (C := RX11) (T := TX11) (N := 18) (ci := 9) (v := .int (v218_0 0)) S in_X11_lookAt_X11 G 0 rfl rfl 14 (by decide) lk_X11_lookAt_223 rfl dX11_lookAt_296 ?_
                            exact join_280 (v218_0 0) _ _ _  G hl
                          · have fc_40 := j_nle (a := (t136_0 1)) (b := 2) (by omega) (by omega) c_40
                            refine lv_iconst (v := 4) zx zb dX11_lookAt_291 (by decide) ?_
                            refine lv_goto (tgt := 299) zx zb dX11_lookAt_292 (by decide) ?_
                            exact join_280 4 _ _ _  G hl
                      · intro x_39 H locs ls  G hl
                        refine r_put (C := RX11) (T := TX11) (N := 18) (ci := 9) (v := .int x_39) S in_X11_lookAt_X11 tyX11_ok nmX11 G 0 rfl rfl 14 (by decide) lk_X11_lookAt_223 rfl (vp_nar_int _) rfl (Nat.le_of_ble_eq_true rfl) dX11_lookAt_299 (fun H locs G => ?_)
                        obtain ⟨v_41, ⟨hE_v_41_0, hE_v_41_1⟩, G⟩ : ∃ v_41 : Nat → Int32, (v_41 0 = x_39 ∧ v_41 1 = v218_0 1) ∧ wd X (va_A (@HAppend.hAppend va_W va_W va_W _ (mW m0 ma la lb n t v) ([((ma 10), .inl (X.2.1, 150, .inl fd))])) sz) (va_A (@HAppend.hAppend va_W va_W va_W _ (mW m0 ma la lb n t v) ([((ma 10), .inl (X.2.1, 150, .inl fd))])) sz) s (@HAppend.hAppend va_W va_W va_W _ (mW m0 ma la lb n t136_0 v_41) ([((ma 10), .inl (X.2.1, 150, .inl fd))])) H locs := ⟨upd v218_0 0 x_39, ⟨rfl, rfl⟩, G⟩
                        exact e_void S zr zlk G (t136_0, v_41) [0, 1] rfl rfl (Or.inr rfl) (⟨hI_t136_0, ⟨by first | omega | (dsimp only; omega), by first | omega | (dsimp only; omega), Or.inr (by first | omega | (dsimp only; omega))⟩⟩) dX11_lookAt_302
                · have fc_32 := j_nle (a := n) (b := ((t136_0 0) + (t136_0 1))) (by omega) (by omega) c_32
                  refine lv_aload_n zx zb dX11_lookAt_156 rfl (lv_at hl 2 rfl) ?_
                  refine r_get (C := RX11) (T := TX11) (N := 18) (ci := 9) (v := .ref (ma 10)) S in_X11_lookAt_X11 G 0 rfl rfl 10 (by decide) lk_X11_lookAt_39 rfl dX11_lookAt_157 ?_
                  refine lv_aload_n zx zb dX11_lookAt_160 rfl (lv_at hl 2 rfl) ?_
                  refine r_get (C := RX11) (T := TX11) (N := 18) (ci := 9) (v := .int (nI (t136_0 0))) S in_X11_lookAt_X11 G 0 rfl rfl 12 (by decide) lk_X11_lookAt_217 rfl dX11_lookAt_161 ?_
                  refine lv_aload_n zx zb dX11_lookAt_164 rfl (lv_at hl 2 rfl) ?_
                  refine r_get (C := RX11) (T := TX11) (N := 18) (ci := 9) (v := .int (nI (t136_0 1))) S in_X11_lookAt_X11 G 0 rfl rfl 13 (by decide) lk_X11_lookAt_220 rfl dX11_lookAt_165 ?_
                  refine r_iadd (v := (nI ((t136_0 0) + (t136_0 1)))) S (nI_add (t136_0 0) (t136_0 1)) dX11_lookAt_168 ?_
                  refine r_iald S G 1 rfl (vp_in_nI (by omega) (by decide)) rfl dX11_lookAt_169 ?_
                  refine k_itE (fun y_42 => ?_)
                  refine lv_istore (lv' := [(4, .int y_42), (3, .int 1), (2, .int y_10), (0, .ref m0), (1, .int (nI o))]) zx zb dX11_lookAt_170 hl (by decide) rfl (fun ls hl => ?_)
                  refine lv_aload_n zx zb dX11_lookAt_172 rfl (lv_at hl 3 rfl) ?_
                  refine r_get (C := RX11) (T := TX11) (N := 18) (ci := 9) (v := .int (v_17 0)) S in_X11_lookAt_X11 G 0 rfl rfl 14 (by decide) lk_X11_lookAt_223 rfl dX11_lookAt_173 ?_
                  refine lv_iconst (v := 1) zx zb dX11_lookAt_176 (by decide) ?_
                  refine k_cutW (PP := fun Wx => ∀ (x_44 : Int32) (H : Heap) (locs : List Loc) (ls : Array Slot), (x_44 = 0 ∨ x_44 = 1) → wd X (va_A (@HAppend.hAppend va_W va_W va_W _ (mW m0 ma la lb n t v) ([((ma 10), .inl (X.2.1, 150, .inl fd))])) sz) (va_A (@HAppend.hAppend va_W va_W va_W _ (mW m0 ma la lb n t v) ([((ma 10), .inl (X.2.1, 150, .inl fd))])) sz) s (@HAppend.hAppend va_W va_W va_W _ (mW m0 ma la lb n t136_0 v_17) ([((ma 10), .inl (X.2.1, 150, .inl fd))])) H locs → lv_has ls 5 [(4, .int y_42), (3, .int 1), (2, .int y_10), (0, .ref m0), (1, .int (nI o))] → Wx (F0 m 193 ls [.int x_44]) H locs) ?_ ?_
                  · intro join_177
                    refine lv_icmp_ne (tgt := 188) zx zb dX11_lookAt_177 (by decide) (fun c_43 => ?_) (fun c_43 => ?_)
                    · refine lv_iload zx zb dX11_lookAt_188 (lv_at hl 0 rfl) ?_
                      refine o_ri (cells' := 0) (slots' := 0) G rfl rfl (n_S (As := [.int y_42]) (rest := []) S G (m_isFigure l X y_42 H.size) gX11_lookAt_X11_isFigure rfl rfl rfl hdS_X11_isFigure ⟨Nat.le_of_ble_eq_true rfl, Nat.le_of_ble_eq_true rfl⟩ [] rfl rfl rfl hl.1 (Nat.le_of_ble_eq_true rfl) dX11_lookAt_190 ⟨Nat.le_of_ble_eq_true rfl, Nat.le_of_ble_eq_true rfl⟩) (fun r_45 u_45 H locs hp_45 G => ?_)
                      have G : wd X (va_A (@HAppend.hAppend va_W va_W va_W _ (mW m0 ma la lb n t v) ([((ma 10), .inl (X.2.1, 150, .inl fd))])) sz) (va_A (@HAppend.hAppend va_W va_W va_W _ (mW m0 ma la lb n t v) ([((ma 10), .inl (X.2.1, 150, .inl fd))])) sz) s (@HAppend.hAppend va_W va_W va_W _ (mW m0 ma la lb n t136_0 v_17) ([((ma 10), .inl (X.2.1, 150, .inl fd))])) H locs := G
                      exact join_177 r_45 _ _ _ (by first | assumption | exact Or.inl rfl | exact Or.inr rfl) G hl
                    · refine lv_iload zx zb dX11_lookAt_180 (lv_at hl 0 rfl) ?_
                      refine o_ri (cells' := 0) (slots' := 0) G rfl rfl (n_S (As := [.int y_42]) (rest := []) S G (m_isSmall l X y_42 H.size) gX11_lookAt_X11_isSmall rfl rfl rfl hdS_X11_isSmall ⟨Nat.le_of_ble_eq_true rfl, Nat.le_of_ble_eq_true rfl⟩ [] rfl rfl rfl hl.1 (Nat.le_of_ble_eq_true rfl) dX11_lookAt_182 ⟨Nat.le_of_ble_eq_true rfl, Nat.le_of_ble_eq_true rfl⟩) (fun r_46 u_46 H locs hp_46 G => ?_)
                      have G : wd X (va_A (@HAppend.hAppend va_W va_W va_W _ (mW m0 ma la lb n t v) ([((ma 10), .inl (X.2.1, 150, .inl fd))])) sz) (va_A (@HAppend.hAppend va_W va_W va_W _ (mW m0 ma la lb n t v) ([((ma 10), .inl (X.2.1, 150, .inl fd))])) sz) s (@HAppend.hAppend va_W va_W va_W _ (mW m0 ma la lb n t136_0 v_17) ([((ma 10), .inl (X.2.1, 150, .inl fd))])) H locs := G
                      refine lv_goto (tgt := 193) zx zb dX11_lookAt_185 (by decide) ?_
                      exact join_177 r_46 _ _ _ (by first | assumption | exact Or.inl rfl | exact Or.inr rfl) G hl
                  · intro x_44 H locs ls hk_x_44 G hl
                    refine lv_istore_n (lv' := [(3, .int x_44), (4, .int y_42), (2, .int y_10), (0, .ref m0), (1, .int (nI o))]) zx zb dX11_lookAt_193 rfl hl (by decide) rfl (fun ls hl => ?_)
                    refine lv_aload_n zx zb dX11_lookAt_194 rfl (lv_at hl 3 rfl) ?_
                    refine lv_dup zx zb dX11_lookAt_195 rfl ?_
                    refine r_get (C := RX11) (T := TX11) (N := 18) (ci := 9) (v := .int (nI (t136_0 1))) S in_X11_lookAt_X11 G 0 rfl rfl 13 (by decide) lk_X11_lookAt_220 rfl dX11_lookAt_196 ?_
                    refine lv_iload_n zx zb dX11_lookAt_199 rfl (lv_at hl 0 rfl) ?_
                    refine lv_if_eq (tgt := 207) zx zb dX11_lookAt_200 (by decide) (fun c_47 => ?_) (fun c_47 => ?_)
                    · obtain rfl : x_44 = 0 := c_47
                      refine lv_iconst (v := 0) zx zb dX11_lookAt_207 (by decide) ?_
                      refine r_iadd (v := (nI ((t136_0 1) + 0))) S (nI_add (t136_0 1) 0) dX11_lookAt_208 ?_
                      refine r_put (C := RX11) (T := TX11) (N := 18) (ci := 9) (v := .int (nI ((t136_0 1) + 0))) S in_X11_lookAt_X11 tyX11_ok nmX11 G 0 rfl rfl 13 (by decide) lk_X11_lookAt_220 rfl (vp_nar_int _) rfl (Nat.le_of_ble_eq_true rfl) dX11_lookAt_209 (fun H locs G => ?_)
                      obtain ⟨t_48, hI_t_48, ⟨hE_t_48_1, hE_t_48_0⟩, G⟩ : ∃ t_48 : Nat → Nat, InT t_48 ∧ (t_48 1 = ((t136_0 1) + 0) ∧ t_48 0 = t136_0 0) ∧ wd X (va_A (@HAppend.hAppend va_W va_W va_W _ (mW m0 ma la lb n t v) ([((ma 10), .inl (X.2.1, 150, .inl fd))])) sz) (va_A (@HAppend.hAppend va_W va_W va_W _ (mW m0 ma la lb n t v) ([((ma 10), .inl (X.2.1, 150, .inl fd))])) sz) s (@HAppend.hAppend va_W va_W va_W _ (mW m0 ma la lb n t_48 v_17) ([((ma 10), .inl (X.2.1, 150, .inl fd))])) H locs := ⟨upN t136_0 1 ((t136_0 1) + 0), ⟨ht0_t136_0, (by show ((t136_0 1) + 0) ≤ 150; omega)⟩, ⟨rfl, rfl⟩, G⟩
                      have hO_t_48 := hI_t_48
                      obtain ⟨ht0_t_48, ht1_t_48⟩ := hO_t_48
                      refine lv_goto (tgt := 136) zx zb dX11_lookAt_212 (by decide) ?_
                      refine lv_iload_n zx zb dX11_lookAt_136 rfl (lv_at hl 0 rfl) ?_
                      refine lv_if_eq (tgt := 215) zx zb dX11_lookAt_137 (by decide) (fun c_49 => ?_) (fun c_49 => absurd (by decide) c_49)
                      refine lv_iconst (v := 0) zx zb dX11_lookAt_215 (by decide) ?_
                      refine lv_istore (lv' := [(4, .int 0), (3, .int 0), (2, .int y_10), (0, .ref m0), (1, .int (nI o))]) zx zb dX11_lookAt_216 hl (by decide) rfl (fun ls hl => ?_)
                      refine k_loop (P := ∀ (zm : Nat) (k218 : Nat) (v218_0 : Nat → Int32) (H : Heap) (locs : List Loc) (ls : Array Slot), 2 + 1 ≤ k218 + zm → (k218 ≤ 2) → wd X (va_A (@HAppend.hAppend va_W va_W va_W _ (mW m0 ma la lb n t v) ([((ma 10), .inl (X.2.1, 150, .inl fd))])) sz) (va_A (@HAppend.hAppend va_W va_W va_W _ (mW m0 ma la lb n t v) ([((ma 10), .inl (X.2.1, 150, .inl fd))])) sz) s (@HAppend.hAppend va_W va_W va_W _ (mW m0 ma la lb n t_48 v218_0) ([((ma 10), .inl (X.2.1, 150, .inl fd))])) H locs → lv_has ls 5 [(4, .int (nI k218)), (3, .int 0), (2, .int y_10), (0, .ref m0), (1, .int (nI o))] → W p l e _ s m _ below meth c H locs _ _ _ (F0 m 218 ls [])) (fun loop => loop (2 + 1) 0 v_17 _ _ _ (by omega) (by omega) G hl) ?_
                      intro zm
                      induction zm with
                      | zero => intro k218 v218_0 H locs ls zz q_hk_k218 _ _; exact absurd zz (by omega)
                      | succ zm ih218 =>
                        intro k218 v218_0 H locs ls zm_218 hk_k218 G hl
                        refine lv_iload zx zb dX11_lookAt_218 (lv_at hl 0 rfl) ?_
                        refine lv_aload_n zx zb dX11_lookAt_220 rfl (lv_at hl 3 rfl) ?_
                        refine r_get (C := RX11) (T := TX11) (N := 18) (ci := 9) (v := .int (nI (t_48 1))) S in_X11_lookAt_X11 G 0 rfl rfl 13 (by decide) lk_X11_lookAt_220 rfl dX11_lookAt_221 ?_
                        refine k_cutW (PP := fun Wx => ∀ (H : Heap) (locs : List Loc) (ls : Array Slot), wd X (va_A (@HAppend.hAppend va_W va_W va_W _ (mW m0 ma la lb n t v) ([((ma 10), .inl (X.2.1, 150, .inl fd))])) sz) (va_A (@HAppend.hAppend va_W va_W va_W _ (mW m0 ma la lb n t v) ([((ma 10), .inl (X.2.1, 150, .inl fd))])) sz) s (@HAppend.hAppend va_W va_W va_W _ (mW m0 ma la lb n t_48 v218_0) ([((ma 10), .inl (X.2.1, 150, .inl fd))])) H locs → lv_has ls 5 [(4, .int (nI k218)), (3, .int 0), (2, .int y_10), (0, .ref m0), (1, .int (nI o))] → Wx (F0 m 274 ls []) H locs) ?_ ?_
                        · intro join_224
                          refine lv_icmp_ge (tgt := 274) zx zb dX11_lookAt_224 (by decide) (fun c_50 => ?_) (fun c_50 => ?_)
                          · have fc_50 := j_le (a := (t_48 1)) (b := k218) (by omega) (by omega) c_50
                            exact join_224  _ _ _  G hl
                          · have fc_50 := j_nle (a := (t_48 1)) (b := k218) (by omega) (by omega) c_50
                            refine lv_iload zx zb dX11_lookAt_227 (lv_at hl 0 rfl) ?_
                            refine lv_iconst (v := 2) zx zb dX11_lookAt_229 (by decide) ?_
                            refine lv_icmp_ge (tgt := 274) zx zb dX11_lookAt_230 (by decide) (fun c_51 => ?_) (fun c_51 => ?_)
                            · have fc_51 := j_le (a := 2) (b := k218) (by omega) (by omega) c_51
                              exact join_224  _ _ _  G hl
                            · have fc_51 := j_nle (a := 2) (b := k218) (by omega) (by omega) c_51
                              refine lv_aload_n zx zb dX11_lookAt_233 rfl (lv_at hl 3 rfl) ?_
                              refine r_get (C := RX11) (T := TX11) (N := 18) (ci := 9) (v := .int (v218_0 0)) S in_X11_lookAt_X11 G 0 rfl rfl 14 (by decide) lk_X11_lookAt_223 rfl dX11_lookAt_234 ?_
                              refine lv_iconst (v := 2) zx zb dX11_lookAt_237 (by decide) ?_
                              refine lv_icmp_ne (tgt := 274) zx zb dX11_lookAt_238 (by decide) (fun c_52 => ?_) (fun c_52 => ?_)
                              · exact join_224  _ _ _  G hl
                              · refine lv_aload_n zx zb dX11_lookAt_241 rfl (lv_at hl 3 rfl) ?_
                                refine lv_bipush (v := 10) zx zb dX11_lookAt_242 (by decide) ?_
                                refine lv_aload_n zx zb dX11_lookAt_244 rfl (lv_at hl 3 rfl) ?_
                                refine r_get (C := RX11) (T := TX11) (N := 18) (ci := 9) (v := .int (v218_0 1)) S in_X11_lookAt_X11 G 0 rfl rfl 15 (by decide) lk_X11_lookAt_226 rfl dX11_lookAt_245 ?_
                                refine r_imul (v := (10 * (v218_0 1))) S rfl dX11_lookAt_248 ?_
                                refine lv_aload_n zx zb dX11_lookAt_249 rfl (lv_at hl 3 rfl) ?_
                                refine r_get (C := RX11) (T := TX11) (N := 18) (ci := 9) (v := .ref (ma 10)) S in_X11_lookAt_X11 G 0 rfl rfl 10 (by decide) lk_X11_lookAt_39 rfl dX11_lookAt_250 ?_
                                refine lv_aload_n zx zb dX11_lookAt_253 rfl (lv_at hl 3 rfl) ?_
                                refine r_get (C := RX11) (T := TX11) (N := 18) (ci := 9) (v := .int (nI (t_48 0))) S in_X11_lookAt_X11 G 0 rfl rfl 12 (by decide) lk_X11_lookAt_217 rfl dX11_lookAt_254 ?_
                                refine lv_iload zx zb dX11_lookAt_257 (lv_at hl 0 rfl) ?_
                                refine r_iadd (v := (nI ((t_48 0) + k218))) S (nI_add (t_48 0) k218) dX11_lookAt_259 ?_
                                refine r_iald S G 1 rfl (vp_in_nI (by omega) (by decide)) rfl dX11_lookAt_260 ?_
                                refine k_itE (fun y_53 => ?_)
                                refine r_iadd (v := ((10 * (v218_0 1)) + y_53)) S rfl dX11_lookAt_261 ?_
                                refine lv_bipush (v := 48) zx zb dX11_lookAt_262 (by decide) ?_
                                refine r_isub (v := (((10 * (v218_0 1)) + y_53) - 48)) S rfl dX11_lookAt_264 ?_
                                refine r_put (C := RX11) (T := TX11) (N := 18) (ci := 9) (v := .int (((10 * (v218_0 1)) + y_53) - 48)) S in_X11_lookAt_X11 tyX11_ok nmX11 G 0 rfl rfl 15 (by decide) lk_X11_lookAt_226 rfl (vp_nar_int _) rfl (Nat.le_of_ble_eq_true rfl) dX11_lookAt_265 (fun H locs G => ?_)
                                obtain ⟨v_54, ⟨hE_v_54_1, hE_v_54_0⟩, G⟩ : ∃ v_54 : Nat → Int32, (v_54 1 = (((10 * (v218_0 1)) + y_53) - 48) ∧ v_54 0 = v218_0 0) ∧ wd X (va_A (@HAppend.hAppend va_W va_W va_W _ (mW m0 ma la lb n t v) ([((ma 10), .inl (X.2.1, 150, .inl fd))])) sz) (va_A (@HAppend.hAppend va_W va_W va_W _ (mW m0 ma la lb n t v) ([((ma 10), .inl (X.2.1, 150, .inl fd))])) sz) s (@HAppend.hAppend va_W va_W va_W _ (mW m0 ma la lb n t_48 v_54) ([((ma 10), .inl (X.2.1, 150, .inl fd))])) H locs := ⟨upd v218_0 1 (((10 * (v218_0 1)) + y_53) - 48), ⟨rfl, rfl⟩, G⟩
                                refine lv_iinc (v := (nI (k218 + 1))) (lv' := [(4, .int (nI (k218 + 1))), (3, .int 0), (2, .int y_10), (0, .ref m0), (1, .int (nI o))]) zx zb dX11_lookAt_268 hl (k := 0) rfl (nI_add k218 1) (by decide) rfl (fun ls hl => ?_)
                                refine lv_goto (tgt := 218) zx zb dX11_lookAt_271 (by decide) ?_
                                exact ih218 (k218 + 1) v_54 _ _ _ (by omega) (by omega) G hl
                        · intro  H locs ls  G hl
                          refine lv_aload_n zx zb dX11_lookAt_274 rfl (lv_at hl 3 rfl) ?_
                          refine lv_aload_n zx zb dX11_lookAt_275 rfl (lv_at hl 3 rfl) ?_
                          refine r_get (C := RX11) (T := TX11) (N := 18) (ci := 9) (v := .int (v218_0 0)) S in_X11_lookAt_X11 G 0 rfl rfl 14 (by decide) lk_X11_lookAt_223 rfl dX11_lookAt_276 ?_
                          refine lv_iconst (v := 2) zx zb dX11_lookAt_279 (by decide) ?_
                          refine k_cutW (PP := fun Wx => ∀ (x_56 : Int32) (H : Heap) (locs : List Loc) (ls : Array Slot), wd X (va_A (@HAppend.hAppend va_W va_W va_W _ (mW m0 ma la lb n t v) ([((ma 10), .inl (X.2.1, 150, .inl fd))])) sz) (va_A (@HAppend.hAppend va_W va_W va_W _ (mW m0 ma la lb n t v) ([((ma 10), .inl (X.2.1, 150, .inl fd))])) sz) s (@HAppend.hAppend va_W va_W va_W _ (mW m0 ma la lb n t_48 v218_0) ([((ma 10), .inl (X.2.1, 150, .inl fd))])) H locs → lv_has ls 5 [(4, .int (nI k218)), (3, .int 0), (2, .int y_10), (0, .ref m0), (1, .int (nI o))] → Wx (F0 m 299 ls [.int x_56, .ref m0]) H locs) ?_ ?_
                          · intro join_280
                            refine lv_icmp_ne (tgt := 295) zx zb dX11_lookAt_280 (by decide) (fun c_55 => ?_) (fun c_55 => ?_)
                            · refine lv_aload_n zx zb dX11_lookAt_295 rfl (lv_at hl 3 rfl) ?_
                              refine r_get (C := RX11) (T := TX11) (N := 18) (ci := 9) (v := .int (v218_0 0)) S in_X11_lookAt_X11 G 0 rfl rfl 14 (by decide) lk_X11_lookAt_223 rfl dX11_lookAt_296 ?_
                              exact join_280 (v218_0 0) _ _ _  G hl
                            · refine lv_aload_n zx zb dX11_lookAt_283 rfl (lv_at hl 3 rfl) ?_
                              refine r_get (C := RX11) (T := TX11) (N := 18) (ci := 9) (v := .int (nI (t_48 1))) S in_X11_lookAt_X11 G 0 rfl rfl 13 (by decide) lk_X11_lookAt_220 rfl dX11_lookAt_284 ?_
                              refine lv_iconst (v := 2) zx zb dX11_lookAt_287 (by decide) ?_
                              refine lv_icmp_le (tgt := 295) zx zb dX11_lookAt_288 (by decide) (fun c_57 => ?_) (fun c_57 => ?_)
                              · have fc_57 := j_le (a := (t_48 1)) (b := 2) (by omega) (by omega) c_57
                                refine lv_aload_n zx zb dX11_lookAt_295 rfl (lv_at hl 3 rfl) ?_
                                refine r_get (C := RX11) (T := TX11) (N := 18) (ci := 9) (v := .int (v218_0 0)) S in_X11_lookAt_X11 G 0 rfl rfl 14 (by decide) lk_X11_lookAt_223 rfl dX11_lookAt_296 ?_
                                exact join_280 (v218_0 0) _ _ _  G hl
                              · have fc_57 := j_nle (a := (t_48 1)) (b := 2) (by omega) (by omega) c_57
                                refine lv_iconst (v := 4) zx zb dX11_lookAt_291 (by decide) ?_
                                refine lv_goto (tgt := 299) zx zb dX11_lookAt_292 (by decide) ?_
                                exact join_280 4 _ _ _  G hl
                          · intro x_56 H locs ls  G hl
                            refine r_put (C := RX11) (T := TX11) (N := 18) (ci := 9) (v := .int x_56) S in_X11_lookAt_X11 tyX11_ok nmX11 G 0 rfl rfl 14 (by decide) lk_X11_lookAt_223 rfl (vp_nar_int _) rfl (Nat.le_of_ble_eq_true rfl) dX11_lookAt_299 (fun H locs G => ?_)
                            obtain ⟨v_58, ⟨hE_v_58_0, hE_v_58_1⟩, G⟩ : ∃ v_58 : Nat → Int32, (v_58 0 = x_56 ∧ v_58 1 = v218_0 1) ∧ wd X (va_A (@HAppend.hAppend va_W va_W va_W _ (mW m0 ma la lb n t v) ([((ma 10), .inl (X.2.1, 150, .inl fd))])) sz) (va_A (@HAppend.hAppend va_W va_W va_W _ (mW m0 ma la lb n t v) ([((ma 10), .inl (X.2.1, 150, .inl fd))])) sz) s (@HAppend.hAppend va_W va_W va_W _ (mW m0 ma la lb n t_48 v_58) ([((ma 10), .inl (X.2.1, 150, .inl fd))])) H locs := ⟨upd v218_0 0 x_56, ⟨rfl, rfl⟩, G⟩
                            exact e_void S zr zlk G (t_48, v_58) [0, 1] rfl rfl (Or.inr rfl) (⟨hI_t_48, ⟨by first | omega | (dsimp only; omega), by first | omega | (dsimp only; omega), Or.inr (by first | omega | (dsimp only; omega))⟩⟩) dX11_lookAt_302
                    · obtain rfl : x_44 = 1 := (show x_44 = 0 ∨ x_44 = 1 by assumption).resolve_left c_47
                      refine lv_iconst (v := 1) zx zb dX11_lookAt_203 (by decide) ?_
                      refine lv_goto (tgt := 208) zx zb dX11_lookAt_204 (by decide) ?_
                      refine r_iadd (v := (nI ((t136_0 1) + 1))) S (nI_add (t136_0 1) 1) dX11_lookAt_208 ?_
                      refine r_put (C := RX11) (T := TX11) (N := 18) (ci := 9) (v := .int (nI ((t136_0 1) + 1))) S in_X11_lookAt_X11 tyX11_ok nmX11 G 0 rfl rfl 13 (by decide) lk_X11_lookAt_220 rfl (vp_nar_int _) rfl (Nat.le_of_ble_eq_true rfl) dX11_lookAt_209 (fun H locs G => ?_)
                      obtain ⟨t_59, hI_t_59, ⟨hE_t_59_1, hE_t_59_0⟩, G⟩ : ∃ t_59 : Nat → Nat, InT t_59 ∧ (t_59 1 = ((t136_0 1) + 1) ∧ t_59 0 = t136_0 0) ∧ wd X (va_A (@HAppend.hAppend va_W va_W va_W _ (mW m0 ma la lb n t v) ([((ma 10), .inl (X.2.1, 150, .inl fd))])) sz) (va_A (@HAppend.hAppend va_W va_W va_W _ (mW m0 ma la lb n t v) ([((ma 10), .inl (X.2.1, 150, .inl fd))])) sz) s (@HAppend.hAppend va_W va_W va_W _ (mW m0 ma la lb n t_59 v_17) ([((ma 10), .inl (X.2.1, 150, .inl fd))])) H locs := ⟨upN t136_0 1 ((t136_0 1) + 1), ⟨ht0_t136_0, (by show ((t136_0 1) + 1) ≤ 150; omega)⟩, ⟨rfl, rfl⟩, G⟩
                      have hO_t_59 := hI_t_59
                      obtain ⟨ht0_t_59, ht1_t_59⟩ := hO_t_59
                      refine lv_goto (tgt := 136) zx zb dX11_lookAt_212 (by decide) ?_
                      have hl := lv_sub hl (l' := [(3, .int 1), (2, .int y_10), (0, .ref m0), (1, .int (nI o))]) [0, 2, 3, 4] rfl
                      exact ih136 t_59 _ _ _ (by omega) (by omega) hI_t_59 G hl
      · have fc_9 := j_eq (a := (t_6 0)) (b := n) (by omega) (by omega) c_9
        exact e_void S zr zlk G (t_6, v_8) [0, 1] rfl rfl (Or.inr rfl) (⟨hI_t_6, ⟨by first | omega | (dsimp only; omega), by first | omega | (dsimp only; omega), Or.inl (hE_v_8_0.trans hE_v_7_0)⟩⟩) dX11_lookAt_69
theorem in_X11_goBehind_X11 : ∀ w ∈ wsX110, w ∈ wsX11_goBehind := by decide +kernel
theorem lk_X11_goBehind_217 : Cond.fieldLink RX11 217 "EggSpoonsModel" "tokenAt" "I" ∈ wsX11_goBehind := by decide +kernel
theorem lk_X11_goBehind_220 : Cond.fieldLink RX11 220 "EggSpoonsModel" "tokenLong" "I" ∈ wsX11_goBehind := by decide +kernel
theorem hdV_X11_lookAt : yX11_lookAt.cls = RX11 ∧ yX11_lookAt.cls ≠ "java/lang/invoke/MethodHandle" ∧ yX11_lookAt.cls ≠ "java/lang/invoke/VarHandle" ∧ (parseMethodDescriptor yX11_lookAt.desc).map (fun d => d.parameters.length) = some 1 := by decide +kernel
set_option maxHeartbeats 4000000 in
set_option maxRecDepth 100000 in
/-- goBehind -/
theorem m_goBehind (l : Launch) (X : EX) (m0 : Nat) (ma : Nat → Nat) (la : Int64) (lb : Int64) (n : Nat) (t : Nat → Nat) (v : Nat → Int32) (fd : Nat → Int32) (hI_n : n ≤ 150) (hI_t : InT t) (hT : t 0 + t 1 ≤ n ∧ (v 0 = 0 ∨ 1 ≤ t 1)) (sz : Nat) : Met l yX11_goBehind wsX11_goBehind ({ frames := 3, cells := 0, slots := 0, locals := 69 } : Room) (pE X [.ref m0] (@HAppend.hAppend va_W va_W va_W _ (mW m0 ma la lb n t v) ([((ma 10), .inl (X.2.1, 150, .inl fd))])) sz) (qV (fun (u : (Nat → Nat) × (Nat → Int32)) => InT u.1 ∧ (t 0 + t 1 ≤ u.1 0 ∧ u.1 0 + u.1 1 ≤ n ∧ (u.2 0 = 0 ∨ 1 ≤ u.1 1))) X (fun (u : (Nat → Nat) × (Nat → Int32)) => @HAppend.hAppend va_W va_W va_W _ (mW m0 ma la lb n u.1 u.2) ([((ma 10), .inl (X.2.1, 150, .inl fd))])) (@HAppend.hAppend va_W va_W va_W _ (mW m0 ma la lb n t v) ([((ma 10), .inl (X.2.1, 150, .inl fd))])) sz) 0 0 (va_A (@HAppend.hAppend va_W va_W va_W _ (mW m0 ma la lb n t v) ([((ma 10), .inl (X.2.1, 150, .inl fd))])) sz) := by
  refine mk_met (B := (va_A (@HAppend.hAppend va_W va_W va_W _ (mW m0 ma la lb n t v) ([((ma 10), .inl (X.2.1, 150, .inl fd))])) sz)) (A := (va_A (@HAppend.hAppend va_W va_W va_W _ (mW m0 ma la lb n t v) ([((ma 10), .inl (X.2.1, 150, .inl fd))])) sz)) (cc := cX11_goBehind) (maxL := 1) (ret := none) (by decide) rfl (Nat.le_of_ble_eq_true rfl) k_w k_a (fun p e s m below meth c S zr zlk znm zsz G ls hl => ?_)
  have S : CallFix p m c cX11_goBehind 1 s _ wsX11_goBehind RX11 := S
  have zx := S.1
  have zb := S.2.1
  have hl : lv_has ls 1 [(0, .ref m0)] := hl
  have hO_t := hI_t
  obtain ⟨ht0_t, ht1_t⟩ := hO_t
  obtain ⟨hT1, hT2⟩ := hT
  refine lv_aload_n zx zb dX11_goBehind_0 rfl (lv_at hl 0 rfl) ?_
  refine lv_aload_n zx zb dX11_goBehind_1 rfl (lv_at hl 0 rfl) ?_
  refine r_get (C := RX11) (T := TX11) (N := 18) (ci := 9) (v := .int (nI (t 0))) S in_X11_goBehind_X11 G 0 rfl rfl 12 (by decide) lk_X11_goBehind_217 rfl dX11_goBehind_2 ?_
  refine lv_aload_n zx zb dX11_goBehind_5 rfl (lv_at hl 0 rfl) ?_
  refine r_get (C := RX11) (T := TX11) (N := 18) (ci := 9) (v := .int (nI (t 1))) S in_X11_goBehind_X11 G 0 rfl rfl 13 (by decide) lk_X11_goBehind_220 rfl dX11_goBehind_6 ?_
  refine r_iadd (v := (nI ((t 0) + (t 1)))) S (nI_add (t 0) (t 1)) dX11_goBehind_9 ?_
  refine b_wv (cells' := 0) (slots' := 0) (wr := []) G rfl rfl [0, 1] [] rfl rfl rfl rfl (n_V (As := [.int (nI ((t 0) + (t 1)))]) (rest := []) (C := RX11) (T := TX11) (N := 18) (ci := 9) S G (m_lookAt l X m0 ma la lb n t v fd ((t 0) + (t 1)) hI_n hI_t (by omega) s.heap.size) gX11_goBehind_X11_lookAt rfl rfl rfl hdV_X11_lookAt ⟨Nat.le_of_ble_eq_true rfl, Nat.le_of_ble_eq_true rfl⟩ [0, 1] rfl rfl 0 rfl rfl rfl hl.1 (Nat.le_of_ble_eq_true rfl) dX11_goBehind_10 ⟨Nat.le_of_ble_eq_true rfl, Nat.le_of_ble_eq_true rfl⟩) (fun u_1 H locs hp_1 G => ?_)
  obtain ⟨t_1a, v_1b⟩ := u_1
  try dsimp only at hp_1
  obtain ⟨hI_t_1a, hq_1⟩ := hp_1
  have hO_t_1a := hI_t_1a
  obtain ⟨ht0_t_1a, ht1_t_1a⟩ := hO_t_1a
  have G : wd X (va_A (@HAppend.hAppend va_W va_W va_W _ (mW m0 ma la lb n t v) ([((ma 10), .inl (X.2.1, 150, .inl fd))])) sz) (va_A (@HAppend.hAppend va_W va_W va_W _ (mW m0 ma la lb n t v) ([((ma 10), .inl (X.2.1, 150, .inl fd))])) sz) s (@HAppend.hAppend va_W va_W va_W _ (mW m0 ma la lb n t_1a v_1b) ([((ma 10), .inl (X.2.1, 150, .inl fd))])) H locs := G
  obtain ⟨hz0_1, hz1_1, hz2_1⟩ := hq_1
  exact e_void S zr zlk G (t_1a, v_1b) [0, 1] rfl rfl (Or.inr rfl) (⟨hI_t_1a, ⟨by first | omega | (dsimp only; omega), by first | omega | (dsimp only; omega), by assumption⟩⟩) dX11_goBehind_13
