set_option maxRecDepth 20000 in
theorem ggX11_goBehind_X11_lookAt : GoodIn wsX11_goBehind wsX11_lookAt := goodIn_r _ [7, 1, 8, 9, 2, 10, 11, 12, 13, 6, 14, 15, 16, 17, 18, 19, 20, 21, 22, 23, 24, 25, 26, 27, 28, 29, 30, 31, 32, 33, 34, 35, 36, 37, 38, 39, 40, 41, 42] rfl (by decide +kernel)
set_option maxRecDepth 20000 in
theorem gX11_goBehind_X11_lookAt : GoodIn wsX11_goBehind (wsV RX11 235 RX11 yX11_lookAt wsX11_lookAt) := goodIn_app (goodIn_of _ (by decide +kernel)) ggX11_goBehind_X11_lookAt
set_option maxRecDepth 20000 in
theorem ggX11_isFigure_X11_in : GoodIn wsX11_isFigure wsX11_in := goodIn_r _ [6] rfl (by decide +kernel)
set_option maxRecDepth 20000 in
theorem gX11_isFigure_X11_in : GoodIn wsX11_isFigure (va_wsS RX11 56 yX11_in wsX11_in) := goodIn_app (goodIn_of _ (by decide +kernel)) ggX11_isFigure_X11_in
set_option maxRecDepth 20000 in
theorem ggX11_lookAt_X11_isFigure : GoodIn wsX11_lookAt wsX11_isFigure := goodIn_r _ [18, 19, 20, 13, 14, 9, 15] rfl (by decide +kernel)
set_option maxRecDepth 20000 in
theorem gX11_lookAt_X11_isFigure : GoodIn wsX11_lookAt (va_wsS RX11 232 yX11_isFigure wsX11_isFigure) := goodIn_app (goodIn_of _ (by decide +kernel)) ggX11_lookAt_X11_isFigure
set_option maxRecDepth 20000 in
theorem ggX11_lookAt_X11_isSmall : GoodIn wsX11_lookAt wsX11_isSmall := goodIn_r _ [10, 11, 12, 13, 14, 9, 15] rfl (by decide +kernel)
set_option maxRecDepth 20000 in
theorem gX11_lookAt_X11_isSmall : GoodIn wsX11_lookAt (va_wsS RX11 229 yX11_isSmall wsX11_isSmall) := goodIn_app (goodIn_of _ (by decide +kernel)) ggX11_lookAt_X11_isSmall
theorem dX11_goBehind_0 : decode cX11_goBehind 0 = .ok (.aload_n 0, 1) := by decide +kernel
theorem dX11_goBehind_1 : decode cX11_goBehind 1 = .ok (.aload_n 0, 1) := by decide +kernel
theorem dX11_goBehind_10 : decode cX11_goBehind 10 = .ok (.invokevirtual 235, 3) := by decide +kernel
theorem dX11_goBehind_13 : decode cX11_goBehind 13 = .ok (.return_, 1) := by decide +kernel
theorem dX11_goBehind_2 : decode cX11_goBehind 2 = .ok (.getfield 217, 3) := by decide +kernel
theorem dX11_goBehind_5 : decode cX11_goBehind 5 = .ok (.aload_n 0, 1) := by decide +kernel
theorem dX11_goBehind_6 : decode cX11_goBehind 6 = .ok (.getfield 220, 3) := by decide +kernel
theorem dX11_goBehind_9 : decode cX11_goBehind 9 = .ok (.iadd, 1) := by decide +kernel
theorem dX11_isFigure_0 : decode cX11_isFigure 0 = .ok (.iload_n 0, 1) := by decide +kernel
theorem dX11_isFigure_1 : decode cX11_isFigure 1 = .ok (.i2l, 1) := by decide +kernel
theorem dX11_isFigure_11 : decode cX11_isFigure 11 = .ok (.ireturn, 1) := by decide +kernel
theorem dX11_isFigure_2 : decode cX11_isFigure 2 = .ok (.ldc2_w 213, 3) := by decide +kernel
theorem dX11_isFigure_5 : decode cX11_isFigure 5 = .ok (.ldc2_w 215, 3) := by decide +kernel
theorem dX11_isFigure_8 : decode cX11_isFigure 8 = .ok (.invokestatic 56, 3) := by decide +kernel
theorem dX11_lookAt_0 : decode cX11_lookAt 0 = .ok (.aload_n 0, 1) := by decide +kernel
theorem dX11_lookAt_1 : decode cX11_lookAt 1 = .ok (.iload_n 1, 1) := by decide +kernel
theorem dX11_lookAt_10 : decode cX11_lookAt 10 = .ok (.getfield 205, 3) := by decide +kernel
theorem dX11_lookAt_100 : decode cX11_lookAt 100 = .ok (.goto 14, 3) := by decide +kernel
theorem dX11_lookAt_103 : decode cX11_lookAt 103 = .ok (.iload_n 2, 1) := by decide +kernel
theorem dX11_lookAt_104 : decode cX11_lookAt 104 = .ok (.bipush 59, 2) := by decide +kernel
theorem dX11_lookAt_106 : decode cX11_lookAt 106 = .ok (.if_icmp .ne 7, 3) := by decide +kernel
theorem dX11_lookAt_109 : decode cX11_lookAt 109 = .ok (.iconst 3, 1) := by decide +kernel
theorem dX11_lookAt_110 : decode cX11_lookAt 110 = .ok (.goto 4, 3) := by decide +kernel
theorem dX11_lookAt_113 : decode cX11_lookAt 113 = .ok (.iconst 4, 1) := by decide +kernel
theorem dX11_lookAt_114 : decode cX11_lookAt 114 = .ok (.putfield 223, 3) := by decide +kernel
theorem dX11_lookAt_117 : decode cX11_lookAt 117 = .ok (.aload_n 0, 1) := by decide +kernel
theorem dX11_lookAt_118 : decode cX11_lookAt 118 = .ok (.iconst 1, 1) := by decide +kernel
theorem dX11_lookAt_119 : decode cX11_lookAt 119 = .ok (.putfield 220, 3) := by decide +kernel
theorem dX11_lookAt_122 : decode cX11_lookAt 122 = .ok (.aload_n 0, 1) := by decide +kernel
theorem dX11_lookAt_123 : decode cX11_lookAt 123 = .ok (.getfield 223, 3) := by decide +kernel
theorem dX11_lookAt_126 : decode cX11_lookAt 126 = .ok (.iconst 3, 1) := by decide +kernel
theorem dX11_lookAt_127 : decode cX11_lookAt 127 = .ok (.if_icmp .ge 7, 3) := by decide +kernel
theorem dX11_lookAt_13 : decode cX11_lookAt 13 = .ok (.if_icmp .ge 30, 3) := by decide +kernel
theorem dX11_lookAt_130 : decode cX11_lookAt 130 = .ok (.iconst 1, 1) := by decide +kernel
theorem dX11_lookAt_131 : decode cX11_lookAt 131 = .ok (.goto 4, 3) := by decide +kernel
theorem dX11_lookAt_134 : decode cX11_lookAt 134 = .ok (.iconst 0, 1) := by decide +kernel
theorem dX11_lookAt_135 : decode cX11_lookAt 135 = .ok (.istore_n 3, 1) := by decide +kernel
theorem dX11_lookAt_136 : decode cX11_lookAt 136 = .ok (.iload_n 3, 1) := by decide +kernel
theorem dX11_lookAt_137 : decode cX11_lookAt 137 = .ok (.ifCond .eq 78, 3) := by decide +kernel
theorem dX11_lookAt_140 : decode cX11_lookAt 140 = .ok (.aload_n 0, 1) := by decide +kernel
theorem dX11_lookAt_141 : decode cX11_lookAt 141 = .ok (.getfield 217, 3) := by decide +kernel
theorem dX11_lookAt_144 : decode cX11_lookAt 144 = .ok (.aload_n 0, 1) := by decide +kernel
theorem dX11_lookAt_145 : decode cX11_lookAt 145 = .ok (.getfield 220, 3) := by decide +kernel
theorem dX11_lookAt_148 : decode cX11_lookAt 148 = .ok (.iadd, 1) := by decide +kernel
theorem dX11_lookAt_149 : decode cX11_lookAt 149 = .ok (.aload_n 0, 1) := by decide +kernel
theorem dX11_lookAt_150 : decode cX11_lookAt 150 = .ok (.getfield 205, 3) := by decide +kernel
theorem dX11_lookAt_153 : decode cX11_lookAt 153 = .ok (.if_icmp .ge 62, 3) := by decide +kernel
theorem dX11_lookAt_156 : decode cX11_lookAt 156 = .ok (.aload_n 0, 1) := by decide +kernel
theorem dX11_lookAt_157 : decode cX11_lookAt 157 = .ok (.getfield 39, 3) := by decide +kernel
theorem dX11_lookAt_16 : decode cX11_lookAt 16 = .ok (.aload_n 0, 1) := by decide +kernel
theorem dX11_lookAt_160 : decode cX11_lookAt 160 = .ok (.aload_n 0, 1) := by decide +kernel
theorem dX11_lookAt_161 : decode cX11_lookAt 161 = .ok (.getfield 217, 3) := by decide +kernel
theorem dX11_lookAt_164 : decode cX11_lookAt 164 = .ok (.aload_n 0, 1) := by decide +kernel
theorem dX11_lookAt_165 : decode cX11_lookAt 165 = .ok (.getfield 220, 3) := by decide +kernel
theorem dX11_lookAt_168 : decode cX11_lookAt 168 = .ok (.iadd, 1) := by decide +kernel
theorem dX11_lookAt_169 : decode cX11_lookAt 169 = .ok (.iaload, 1) := by decide +kernel
theorem dX11_lookAt_17 : decode cX11_lookAt 17 = .ok (.getfield 39, 3) := by decide +kernel
theorem dX11_lookAt_170 : decode cX11_lookAt 170 = .ok (.istore 4, 2) := by decide +kernel
theorem dX11_lookAt_172 : decode cX11_lookAt 172 = .ok (.aload_n 0, 1) := by decide +kernel
theorem dX11_lookAt_173 : decode cX11_lookAt 173 = .ok (.getfield 223, 3) := by decide +kernel
theorem dX11_lookAt_176 : decode cX11_lookAt 176 = .ok (.iconst 1, 1) := by decide +kernel
theorem dX11_lookAt_177 : decode cX11_lookAt 177 = .ok (.if_icmp .ne 11, 3) := by decide +kernel
theorem dX11_lookAt_180 : decode cX11_lookAt 180 = .ok (.iload 4, 2) := by decide +kernel
theorem dX11_lookAt_182 : decode cX11_lookAt 182 = .ok (.invokestatic 229, 3) := by decide +kernel
theorem dX11_lookAt_185 : decode cX11_lookAt 185 = .ok (.goto 8, 3) := by decide +kernel
theorem dX11_lookAt_188 : decode cX11_lookAt 188 = .ok (.iload 4, 2) := by decide +kernel
theorem dX11_lookAt_190 : decode cX11_lookAt 190 = .ok (.invokestatic 232, 3) := by decide +kernel
theorem dX11_lookAt_193 : decode cX11_lookAt 193 = .ok (.istore_n 3, 1) := by decide +kernel
theorem dX11_lookAt_194 : decode cX11_lookAt 194 = .ok (.aload_n 0, 1) := by decide +kernel
theorem dX11_lookAt_195 : decode cX11_lookAt 195 = .ok (.dup, 1) := by decide +kernel
theorem dX11_lookAt_196 : decode cX11_lookAt 196 = .ok (.getfield 220, 3) := by decide +kernel
theorem dX11_lookAt_199 : decode cX11_lookAt 199 = .ok (.iload_n 3, 1) := by decide +kernel
theorem dX11_lookAt_2 : decode cX11_lookAt 2 = .ok (.putfield 217, 3) := by decide +kernel
theorem dX11_lookAt_20 : decode cX11_lookAt 20 = .ok (.aload_n 0, 1) := by decide +kernel
theorem dX11_lookAt_200 : decode cX11_lookAt 200 = .ok (.ifCond .eq 7, 3) := by decide +kernel
theorem dX11_lookAt_203 : decode cX11_lookAt 203 = .ok (.iconst 1, 1) := by decide +kernel
theorem dX11_lookAt_204 : decode cX11_lookAt 204 = .ok (.goto 4, 3) := by decide +kernel
theorem dX11_lookAt_207 : decode cX11_lookAt 207 = .ok (.iconst 0, 1) := by decide +kernel
theorem dX11_lookAt_208 : decode cX11_lookAt 208 = .ok (.iadd, 1) := by decide +kernel
theorem dX11_lookAt_209 : decode cX11_lookAt 209 = .ok (.putfield 220, 3) := by decide +kernel
theorem dX11_lookAt_21 : decode cX11_lookAt 21 = .ok (.getfield 217, 3) := by decide +kernel
theorem dX11_lookAt_212 : decode cX11_lookAt 212 = .ok (.goto (-76), 3) := by decide +kernel
theorem dX11_lookAt_215 : decode cX11_lookAt 215 = .ok (.iconst 0, 1) := by decide +kernel
theorem dX11_lookAt_216 : decode cX11_lookAt 216 = .ok (.istore 4, 2) := by decide +kernel
theorem dX11_lookAt_218 : decode cX11_lookAt 218 = .ok (.iload 4, 2) := by decide +kernel
theorem dX11_lookAt_220 : decode cX11_lookAt 220 = .ok (.aload_n 0, 1) := by decide +kernel
theorem dX11_lookAt_221 : decode cX11_lookAt 221 = .ok (.getfield 220, 3) := by decide +kernel
theorem dX11_lookAt_224 : decode cX11_lookAt 224 = .ok (.if_icmp .ge 50, 3) := by decide +kernel
theorem dX11_lookAt_227 : decode cX11_lookAt 227 = .ok (.iload 4, 2) := by decide +kernel
theorem dX11_lookAt_229 : decode cX11_lookAt 229 = .ok (.iconst 2, 1) := by decide +kernel
theorem dX11_lookAt_230 : decode cX11_lookAt 230 = .ok (.if_icmp .ge 44, 3) := by decide +kernel
theorem dX11_lookAt_233 : decode cX11_lookAt 233 = .ok (.aload_n 0, 1) := by decide +kernel
theorem dX11_lookAt_234 : decode cX11_lookAt 234 = .ok (.getfield 223, 3) := by decide +kernel
theorem dX11_lookAt_237 : decode cX11_lookAt 237 = .ok (.iconst 2, 1) := by decide +kernel
theorem dX11_lookAt_238 : decode cX11_lookAt 238 = .ok (.if_icmp .ne 36, 3) := by decide +kernel
theorem dX11_lookAt_24 : decode cX11_lookAt 24 = .ok (.iaload, 1) := by decide +kernel
theorem dX11_lookAt_241 : decode cX11_lookAt 241 = .ok (.aload_n 0, 1) := by decide +kernel
theorem dX11_lookAt_242 : decode cX11_lookAt 242 = .ok (.bipush 10, 2) := by decide +kernel
theorem dX11_lookAt_244 : decode cX11_lookAt 244 = .ok (.aload_n 0, 1) := by decide +kernel
theorem dX11_lookAt_245 : decode cX11_lookAt 245 = .ok (.getfield 226, 3) := by decide +kernel
theorem dX11_lookAt_248 : decode cX11_lookAt 248 = .ok (.imul, 1) := by decide +kernel
theorem dX11_lookAt_249 : decode cX11_lookAt 249 = .ok (.aload_n 0, 1) := by decide +kernel
theorem dX11_lookAt_25 : decode cX11_lookAt 25 = .ok (.bipush 32, 2) := by decide +kernel
theorem dX11_lookAt_250 : decode cX11_lookAt 250 = .ok (.getfield 39, 3) := by decide +kernel
theorem dX11_lookAt_253 : decode cX11_lookAt 253 = .ok (.aload_n 0, 1) := by decide +kernel
theorem dX11_lookAt_254 : decode cX11_lookAt 254 = .ok (.getfield 217, 3) := by decide +kernel
theorem dX11_lookAt_257 : decode cX11_lookAt 257 = .ok (.iload 4, 2) := by decide +kernel
theorem dX11_lookAt_259 : decode cX11_lookAt 259 = .ok (.iadd, 1) := by decide +kernel
theorem dX11_lookAt_260 : decode cX11_lookAt 260 = .ok (.iaload, 1) := by decide +kernel
theorem dX11_lookAt_261 : decode cX11_lookAt 261 = .ok (.iadd, 1) := by decide +kernel
theorem dX11_lookAt_262 : decode cX11_lookAt 262 = .ok (.bipush 48, 2) := by decide +kernel
theorem dX11_lookAt_264 : decode cX11_lookAt 264 = .ok (.isub, 1) := by decide +kernel
theorem dX11_lookAt_265 : decode cX11_lookAt 265 = .ok (.putfield 226, 3) := by decide +kernel
theorem dX11_lookAt_268 : decode cX11_lookAt 268 = .ok (.iinc 4 1, 3) := by decide +kernel
theorem dX11_lookAt_27 : decode cX11_lookAt 27 = .ok (.if_icmp .ne 16, 3) := by decide +kernel
theorem dX11_lookAt_271 : decode cX11_lookAt 271 = .ok (.goto (-53), 3) := by decide +kernel
theorem dX11_lookAt_274 : decode cX11_lookAt 274 = .ok (.aload_n 0, 1) := by decide +kernel
theorem dX11_lookAt_275 : decode cX11_lookAt 275 = .ok (.aload_n 0, 1) := by decide +kernel
theorem dX11_lookAt_276 : decode cX11_lookAt 276 = .ok (.getfield 223, 3) := by decide +kernel
theorem dX11_lookAt_279 : decode cX11_lookAt 279 = .ok (.iconst 2, 1) := by decide +kernel
theorem dX11_lookAt_280 : decode cX11_lookAt 280 = .ok (.if_icmp .ne 15, 3) := by decide +kernel
theorem dX11_lookAt_283 : decode cX11_lookAt 283 = .ok (.aload_n 0, 1) := by decide +kernel
theorem dX11_lookAt_284 : decode cX11_lookAt 284 = .ok (.getfield 220, 3) := by decide +kernel
theorem dX11_lookAt_287 : decode cX11_lookAt 287 = .ok (.iconst 2, 1) := by decide +kernel
theorem dX11_lookAt_288 : decode cX11_lookAt 288 = .ok (.if_icmp .le 7, 3) := by decide +kernel
theorem dX11_lookAt_291 : decode cX11_lookAt 291 = .ok (.iconst 4, 1) := by decide +kernel
theorem dX11_lookAt_292 : decode cX11_lookAt 292 = .ok (.goto 7, 3) := by decide +kernel
theorem dX11_lookAt_295 : decode cX11_lookAt 295 = .ok (.aload_n 0, 1) := by decide +kernel
theorem dX11_lookAt_296 : decode cX11_lookAt 296 = .ok (.getfield 223, 3) := by decide +kernel
theorem dX11_lookAt_299 : decode cX11_lookAt 299 = .ok (.putfield 223, 3) := by decide +kernel
theorem dX11_lookAt_30 : decode cX11_lookAt 30 = .ok (.aload_n 0, 1) := by decide +kernel
theorem dX11_lookAt_302 : decode cX11_lookAt 302 = .ok (.return_, 1) := by decide +kernel
theorem dX11_lookAt_31 : decode cX11_lookAt 31 = .ok (.dup, 1) := by decide +kernel
theorem dX11_lookAt_32 : decode cX11_lookAt 32 = .ok (.getfield 217, 3) := by decide +kernel
theorem dX11_lookAt_35 : decode cX11_lookAt 35 = .ok (.iconst 1, 1) := by decide +kernel
theorem dX11_lookAt_36 : decode cX11_lookAt 36 = .ok (.iadd, 1) := by decide +kernel
theorem dX11_lookAt_37 : decode cX11_lookAt 37 = .ok (.putfield 217, 3) := by decide +kernel
theorem dX11_lookAt_40 : decode cX11_lookAt 40 = .ok (.goto (-35), 3) := by decide +kernel
theorem dX11_lookAt_43 : decode cX11_lookAt 43 = .ok (.aload_n 0, 1) := by decide +kernel
theorem dX11_lookAt_44 : decode cX11_lookAt 44 = .ok (.iconst 0, 1) := by decide +kernel
theorem dX11_lookAt_45 : decode cX11_lookAt 45 = .ok (.putfield 220, 3) := by decide +kernel
theorem dX11_lookAt_48 : decode cX11_lookAt 48 = .ok (.aload_n 0, 1) := by decide +kernel
theorem dX11_lookAt_49 : decode cX11_lookAt 49 = .ok (.iconst 0, 1) := by decide +kernel
theorem dX11_lookAt_5 : decode cX11_lookAt 5 = .ok (.aload_n 0, 1) := by decide +kernel
theorem dX11_lookAt_50 : decode cX11_lookAt 50 = .ok (.putfield 223, 3) := by decide +kernel
theorem dX11_lookAt_53 : decode cX11_lookAt 53 = .ok (.aload_n 0, 1) := by decide +kernel
theorem dX11_lookAt_54 : decode cX11_lookAt 54 = .ok (.iconst 0, 1) := by decide +kernel
theorem dX11_lookAt_55 : decode cX11_lookAt 55 = .ok (.putfield 226, 3) := by decide +kernel
theorem dX11_lookAt_58 : decode cX11_lookAt 58 = .ok (.aload_n 0, 1) := by decide +kernel
theorem dX11_lookAt_59 : decode cX11_lookAt 59 = .ok (.getfield 217, 3) := by decide +kernel
theorem dX11_lookAt_6 : decode cX11_lookAt 6 = .ok (.getfield 217, 3) := by decide +kernel
theorem dX11_lookAt_62 : decode cX11_lookAt 62 = .ok (.aload_n 0, 1) := by decide +kernel
theorem dX11_lookAt_63 : decode cX11_lookAt 63 = .ok (.getfield 205, 3) := by decide +kernel
theorem dX11_lookAt_66 : decode cX11_lookAt 66 = .ok (.if_icmp .ne 4, 3) := by decide +kernel
theorem dX11_lookAt_69 : decode cX11_lookAt 69 = .ok (.return_, 1) := by decide +kernel
theorem dX11_lookAt_70 : decode cX11_lookAt 70 = .ok (.aload_n 0, 1) := by decide +kernel
theorem dX11_lookAt_71 : decode cX11_lookAt 71 = .ok (.getfield 39, 3) := by decide +kernel
theorem dX11_lookAt_74 : decode cX11_lookAt 74 = .ok (.aload_n 0, 1) := by decide +kernel
theorem dX11_lookAt_75 : decode cX11_lookAt 75 = .ok (.getfield 217, 3) := by decide +kernel
theorem dX11_lookAt_78 : decode cX11_lookAt 78 = .ok (.iaload, 1) := by decide +kernel
theorem dX11_lookAt_79 : decode cX11_lookAt 79 = .ok (.istore_n 2, 1) := by decide +kernel
theorem dX11_lookAt_80 : decode cX11_lookAt 80 = .ok (.aload_n 0, 1) := by decide +kernel
theorem dX11_lookAt_81 : decode cX11_lookAt 81 = .ok (.iload_n 2, 1) := by decide +kernel
theorem dX11_lookAt_82 : decode cX11_lookAt 82 = .ok (.invokestatic 229, 3) := by decide +kernel
theorem dX11_lookAt_85 : decode cX11_lookAt 85 = .ok (.ifCond .eq 7, 3) := by decide +kernel
theorem dX11_lookAt_88 : decode cX11_lookAt 88 = .ok (.iconst 1, 1) := by decide +kernel
theorem dX11_lookAt_89 : decode cX11_lookAt 89 = .ok (.goto 25, 3) := by decide +kernel
theorem dX11_lookAt_9 : decode cX11_lookAt 9 = .ok (.aload_n 0, 1) := by decide +kernel
theorem dX11_lookAt_92 : decode cX11_lookAt 92 = .ok (.iload_n 2, 1) := by decide +kernel
theorem dX11_lookAt_93 : decode cX11_lookAt 93 = .ok (.invokestatic 232, 3) := by decide +kernel
theorem dX11_lookAt_96 : decode cX11_lookAt 96 = .ok (.ifCond .eq 7, 3) := by decide +kernel
theorem dX11_lookAt_99 : decode cX11_lookAt 99 = .ok (.iconst 2, 1) := by decide +kernel
theorem dX11_spells_0 : decode cX11_spells 0 = .ok (.aload_n 0, 1) := by decide +kernel
theorem dX11_spells_1 : decode cX11_spells 1 = .ok (.getfield 223, 3) := by decide +kernel
theorem dX11_spells_103 : decode cX11_spells 103 = .ok (.if_icmp .ne 7, 3) := by decide +kernel
theorem dX11_spells_106 : decode cX11_spells 106 = .ok (.iconst 1, 1) := by decide +kernel
theorem dX11_spells_107 : decode cX11_spells 107 = .ok (.goto 4, 3) := by decide +kernel
theorem dX11_spells_110 : decode cX11_spells 110 = .ok (.iconst 0, 1) := by decide +kernel
theorem dX11_spells_111 : decode cX11_spells 111 = .ok (.istore 8, 2) := by decide +kernel
theorem dX11_spells_113 : decode cX11_spells 113 = .ok (.iinc 9 1, 3) := by decide +kernel
theorem dX11_spells_116 : decode cX11_spells 116 = .ok (.goto (-90), 3) := by decide +kernel
theorem dX11_spells_119 : decode cX11_spells 119 = .ok (.iload 8, 2) := by decide +kernel
theorem dX11_spells_12 : decode cX11_spells 12 = .ok (.iload_n 1, 1) := by decide +kernel
theorem dX11_spells_121 : decode cX11_spells 121 = .ok (.ireturn, 1) := by decide +kernel
theorem dX11_spells_13 : decode cX11_spells 13 = .ok (.if_icmp .ne 7, 3) := by decide +kernel
theorem dX11_spells_16 : decode cX11_spells 16 = .ok (.iconst 1, 1) := by decide +kernel
theorem dX11_spells_17 : decode cX11_spells 17 = .ok (.goto 4, 3) := by decide +kernel
theorem dX11_spells_20 : decode cX11_spells 20 = .ok (.iconst 0, 1) := by decide +kernel
theorem dX11_spells_21 : decode cX11_spells 21 = .ok (.istore 8, 2) := by decide +kernel
theorem dX11_spells_23 : decode cX11_spells 23 = .ok (.iconst 0, 1) := by decide +kernel
theorem dX11_spells_24 : decode cX11_spells 24 = .ok (.istore 9, 2) := by decide +kernel
theorem dX11_spells_26 : decode cX11_spells 26 = .ok (.iload 9, 2) := by decide +kernel
theorem dX11_spells_28 : decode cX11_spells 28 = .ok (.iload_n 1, 1) := by decide +kernel
theorem dX11_spells_29 : decode cX11_spells 29 = .ok (.if_icmp .ge 90, 3) := by decide +kernel
theorem dX11_spells_32 : decode cX11_spells 32 = .ok (.iload 8, 2) := by decide +kernel
theorem dX11_spells_34 : decode cX11_spells 34 = .ok (.ifCond .eq 85, 3) := by decide +kernel
theorem dX11_spells_37 : decode cX11_spells 37 = .ok (.aload_n 0, 1) := by decide +kernel
theorem dX11_spells_38 : decode cX11_spells 38 = .ok (.getfield 39, 3) := by decide +kernel
theorem dX11_spells_4 : decode cX11_spells 4 = .ok (.iconst 1, 1) := by decide +kernel
theorem dX11_spells_41 : decode cX11_spells 41 = .ok (.aload_n 0, 1) := by decide +kernel
theorem dX11_spells_42 : decode cX11_spells 42 = .ok (.getfield 217, 3) := by decide +kernel
theorem dX11_spells_45 : decode cX11_spells 45 = .ok (.iload 9, 2) := by decide +kernel
theorem dX11_spells_47 : decode cX11_spells 47 = .ok (.iadd, 1) := by decide +kernel
theorem dX11_spells_48 : decode cX11_spells 48 = .ok (.iaload, 1) := by decide +kernel
theorem dX11_spells_49 : decode cX11_spells 49 = .ok (.iload 9, 2) := by decide +kernel
theorem dX11_spells_5 : decode cX11_spells 5 = .ok (.if_icmp .ne 15, 3) := by decide +kernel
theorem dX11_spells_51 : decode cX11_spells 51 = .ok (.ifCond .ne 7, 3) := by decide +kernel
theorem dX11_spells_54 : decode cX11_spells 54 = .ok (.iload_n 2, 1) := by decide +kernel
theorem dX11_spells_55 : decode cX11_spells 55 = .ok (.goto 48, 3) := by decide +kernel
theorem dX11_spells_58 : decode cX11_spells 58 = .ok (.iload 9, 2) := by decide +kernel
theorem dX11_spells_60 : decode cX11_spells 60 = .ok (.iconst 1, 1) := by decide +kernel
theorem dX11_spells_61 : decode cX11_spells 61 = .ok (.if_icmp .ne 7, 3) := by decide +kernel
theorem dX11_spells_64 : decode cX11_spells 64 = .ok (.iload_n 3, 1) := by decide +kernel
theorem dX11_spells_65 : decode cX11_spells 65 = .ok (.goto 38, 3) := by decide +kernel
theorem dX11_spells_68 : decode cX11_spells 68 = .ok (.iload 9, 2) := by decide +kernel
theorem dX11_spells_70 : decode cX11_spells 70 = .ok (.iconst 2, 1) := by decide +kernel
theorem dX11_spells_71 : decode cX11_spells 71 = .ok (.if_icmp .ne 8, 3) := by decide +kernel
theorem dX11_spells_74 : decode cX11_spells 74 = .ok (.iload 4, 2) := by decide +kernel
theorem dX11_spells_76 : decode cX11_spells 76 = .ok (.goto 27, 3) := by decide +kernel
theorem dX11_spells_79 : decode cX11_spells 79 = .ok (.iload 9, 2) := by decide +kernel
theorem dX11_spells_8 : decode cX11_spells 8 = .ok (.aload_n 0, 1) := by decide +kernel
theorem dX11_spells_81 : decode cX11_spells 81 = .ok (.iconst 3, 1) := by decide +kernel
theorem dX11_spells_82 : decode cX11_spells 82 = .ok (.if_icmp .ne 8, 3) := by decide +kernel
theorem dX11_spells_85 : decode cX11_spells 85 = .ok (.iload 5, 2) := by decide +kernel
theorem dX11_spells_87 : decode cX11_spells 87 = .ok (.goto 16, 3) := by decide +kernel
theorem dX11_spells_9 : decode cX11_spells 9 = .ok (.getfield 220, 3) := by decide +kernel
theorem dX11_spells_90 : decode cX11_spells 90 = .ok (.iload 9, 2) := by decide +kernel
theorem dX11_spells_92 : decode cX11_spells 92 = .ok (.iconst 4, 1) := by decide +kernel
theorem dX11_spells_93 : decode cX11_spells 93 = .ok (.if_icmp .ne 8, 3) := by decide +kernel
theorem dX11_spells_96 : decode cX11_spells 96 = .ok (.iload 6, 2) := by decide +kernel
theorem dX11_spells_98 : decode cX11_spells 98 = .ok (.goto 5, 3) := by decide +kernel
set_option maxHeartbeats 4000000 in
set_option maxRecDepth 100000 in
theorem y_isFigure (l : Launch) (X : EX) (x : Int32) (sz : Nat) : Met l yX11_isFigure wsX11_isFigure ({ frames := 1, cells := 0, slots := 0, locals := 25 } : Room) (pE X [.int x] ([]) sz) (qI (fun (r : Int32) (u : Unit) => (r = 1 ∧ lqF x = true) ∨ (r = 0 ∧ ¬ lqF x = true)) X (fun (u : Unit) => []) [] sz) 0 0 (va_A [] sz) := by
  refine mk_met (B := (fun _ => True)) (A := (va_A [] sz)) (cc := cX11_isFigure) (maxL := 1) (ret := (some .boolean)) (by decide) rfl (Nat.le_of_ble_eq_true rfl) k_ro k_a (fun p e s m below meth c S zr zlk znm zsz G ls hl => ?_)
  have S : CallFix p m c cX11_isFigure 1 s _ wsX11_isFigure RX11 := S
  have zx := S.1
  have zb := S.2.1
  have hl : lv_has ls 1 [(0, .int x)] := hl
  refine lv_iload_n zx zb dX11_isFigure_0 rfl (lv_at hl 0 rfl) ?_
  refine lv_i2l (v := (Int32.toInt64 x)) zx zb dX11_isFigure_1 rfl ?_
  refine lv_ldc2 zx zb S.2.2.2.1 (S.2.2.2.2 _ mm_X11_isFigure_c213) dX11_isFigure_2 ?_
  refine k_ld (v := (Int32.toInt64 48)) (by decide) ?_
  refine lv_ldc2 zx zb S.2.2.2.1 (S.2.2.2.2 _ mm_X11_isFigure_c215) dX11_isFigure_5 ?_
  refine k_ld (v := (Int32.toInt64 57)) (by decide) ?_
  refine o_ri (cells' := 0) (slots' := 0) G rfl rfl (n_S (As := [.long (Int32.toInt64 x), .long (Int32.toInt64 48), .long (Int32.toInt64 57)]) (rest := []) S G (m_in l X x 48 57 s.heap.size) gX11_isFigure_X11_in rfl rfl rfl hdS_X11_in ⟨Nat.le_of_ble_eq_true rfl, Nat.le_of_ble_eq_true rfl⟩ [] rfl rfl rfl hl.1 (Nat.le_of_ble_eq_true rfl) dX11_isFigure_8 ⟨Nat.le_of_ble_eq_true rfl, Nat.le_of_ble_eq_true rfl⟩) (fun r_1 u_1 H locs hp_1 G => ?_)
  have G : wd X (fun _ => True) (va_A [] sz) s ([]) H locs := G
  rcases hp_1 with ⟨rfl, hw_1⟩ | ⟨rfl, hw_1⟩
  · obtain ⟨j_1, ⟨ja_1, jb_1⟩, rfl⟩ := k_natR (a := 48) (b := 57) hw_1 rfl rfl (by decide) (by decide)
    exact e_int S zr zlk (by decide) G () [] rfl rfl (Or.inl rfl) (Or.inl ⟨rfl, lqF_t.mpr hw_1⟩) dX11_isFigure_11
  · exact e_int S zr zlk (by decide) G () [] rfl rfl (Or.inl rfl) (Or.inr ⟨rfl, fun h => hw_1 (lqF_t.mp h)⟩) dX11_isFigure_11
set_option maxHeartbeats 4000000 in
set_option maxRecDepth 100000 in
theorem y_lookAt (l : Launch) (X : EX) (m0 : Nat) (ma : Nat → Nat) (la : Int64) (lb : Int64) (n : Nat) (t : Nat → Nat) (v : Nat → Int32) (fd : Nat → Int32) (o : Nat) (hI_n : n ≤ 150) (hI_t : InT t) (ho : o ≤ n) (sz : Nat) : Met l yX11_lookAt wsX11_lookAt ({ frames := 2, cells := 0, slots := 0, locals := 45 } : Room) (pE X [.ref m0, .int (nI o)] (@HAppend.hAppend va_W va_W va_W _ (mW m0 ma la lb n t v) ([((ma 10), .inl (X.2.1, 150, .inl fd))])) sz) (qV (fun (u : (Nat → Nat) × (Nat → Int32)) => InT u.1 ∧ (tkM fd n u.1 u.2 (scanP qB fd n o))) X (fun (u : (Nat → Nat) × (Nat → Int32)) => @HAppend.hAppend va_W va_W va_W _ (mW m0 ma la lb n u.1 u.2) ([((ma 10), .inl (X.2.1, 150, .inl fd))])) (@HAppend.hAppend va_W va_W va_W _ (mW m0 ma la lb n t v) ([((ma 10), .inl (X.2.1, 150, .inl fd))])) sz) 0 0 (va_A (@HAppend.hAppend va_W va_W va_W _ (mW m0 ma la lb n t v) ([((ma 10), .inl (X.2.1, 150, .inl fd))])) sz) := by
  refine mk_met (B := (va_A (@HAppend.hAppend va_W va_W va_W _ (mW m0 ma la lb n t v) ([((ma 10), .inl (X.2.1, 150, .inl fd))])) sz)) (A := (va_A (@HAppend.hAppend va_W va_W va_W _ (mW m0 ma la lb n t v) ([((ma 10), .inl (X.2.1, 150, .inl fd))])) sz)) (cc := cX11_lookAt) (maxL := 5) (ret := none) (by decide) rfl (Nat.le_of_ble_eq_true rfl) k_w k_a (fun p e s m below meth c S zr zlk znm zsz G ls hl => ?_)
  have S : CallFix p m c cX11_lookAt 5 s _ wsX11_lookAt RX11 := S
  have zx := S.1
  have zb := S.2.1
  have hl : lv_has ls 5 [(0, .ref m0), (1, .int (nI o))] := hl
  have hO_t := hI_t
  obtain ⟨ht0_t, ht1_t⟩ := hO_t
  refine lv_aload_n zx zb dX11_lookAt_0 rfl (lv_at hl 0 rfl) ?_
  refine lv_iload_n zx zb dX11_lookAt_1 rfl (lv_at hl 1 rfl) ?_
  refine r_put (C := RX11) (T := TX11) (N := 18) (ci := 9) (v := .int (nI o)) S in_X11_lookAt_X11 tyX11_ok nmX11 G 0 rfl rfl 12 (by decide) lk_X11_lookAt_217 rfl (vp_nar_int _) rfl (Nat.le_of_ble_eq_true rfl) dX11_lookAt_2 (fun H locs G => ?_)
  obtain ⟨t_1, hI_t_1, ⟨hE_t_1_0, hE_t_1_1⟩, G⟩ : ∃ t_1 : Nat → Nat, InT t_1 ∧ (t_1 0 = o ∧ t_1 1 = t 1) ∧ wd X (va_A (@HAppend.hAppend va_W va_W va_W _ (mW m0 ma la lb n t v) ([((ma 10), .inl (X.2.1, 150, .inl fd))])) sz) (va_A (@HAppend.hAppend va_W va_W va_W _ (mW m0 ma la lb n t v) ([((ma 10), .inl (X.2.1, 150, .inl fd))])) sz) s (@HAppend.hAppend va_W va_W va_W _ (mW m0 ma la lb n t_1 v) ([((ma 10), .inl (X.2.1, 150, .inl fd))])) H locs := ⟨upN t 0 o, ⟨(by show o ≤ 150; omega), ht1_t⟩, ⟨rfl, rfl⟩, G⟩
  have hO_t_1 := hI_t_1
  obtain ⟨ht0_t_1, ht1_t_1⟩ := hO_t_1
  refine k_loop (P := ∀ (zm : Nat) (t5_0 : Nat → Nat) (H : Heap) (locs : List Loc) (ls : Array Slot), ((150 - t5_0 0) < zm) → ((o ≤ t5_0 0 ∧ t5_0 0 ≤ n) ∧ scanP qB fd n (t5_0 0) = scanP qB fd n o) → InT t5_0 → wd X (va_A (@HAppend.hAppend va_W va_W va_W _ (mW m0 ma la lb n t v) ([((ma 10), .inl (X.2.1, 150, .inl fd))])) sz) (va_A (@HAppend.hAppend va_W va_W va_W _ (mW m0 ma la lb n t v) ([((ma 10), .inl (X.2.1, 150, .inl fd))])) sz) s (@HAppend.hAppend va_W va_W va_W _ (mW m0 ma la lb n t5_0 v) ([((ma 10), .inl (X.2.1, 150, .inl fd))])) H locs → lv_has ls 5 [(0, .ref m0), (1, .int (nI o))] → W p l e _ s m _ below meth c H locs _ _ _ (F0 m 5 ls [])) (fun loop => loop ((150 - t_1 0) + 1) t_1 _ _ _ (by omega) ⟨by omega, by rw [hE_t_1_0]⟩ hI_t_1 G hl) ?_
  intro zm
  induction zm with
  | zero => intro t5_0 H locs ls zz q_x0 q_hI_t5_0 _ _; exact absurd zz (by omega)
  | succ zm ih5 =>
    intro t5_0 H locs ls zm_5 hx5_0 hI_t5_0 G hl
    have hO_t5_0 := hI_t5_0
    obtain ⟨ht0_t5_0, ht1_t5_0⟩ := hO_t5_0
    refine lv_aload_n zx zb dX11_lookAt_5 rfl (lv_at hl 0 rfl) ?_
    refine r_get (C := RX11) (T := TX11) (N := 18) (ci := 9) (v := .int (nI (t5_0 0))) S in_X11_lookAt_X11 G 0 rfl rfl 12 (by decide) lk_X11_lookAt_217 rfl dX11_lookAt_6 ?_
    refine lv_aload_n zx zb dX11_lookAt_9 rfl (lv_at hl 0 rfl) ?_
    refine r_get (C := RX11) (T := TX11) (N := 18) (ci := 9) (v := .int (nI n)) S in_X11_lookAt_X11 G 0 rfl rfl 11 (by decide) lk_X11_lookAt_205 rfl dX11_lookAt_10 ?_
    refine lv_icmp_ge (tgt := 43) zx zb dX11_lookAt_13 (by decide) (fun c_2 => ?_) (fun c_2 => ?_)
    · have fc_2 := j_le (a := n) (b := (t5_0 0)) (by omega) (by omega) c_2
      refine lv_aload_n zx zb dX11_lookAt_43 rfl (lv_at hl 0 rfl) ?_
      refine lv_iconst (v := 0) zx zb dX11_lookAt_44 (by decide) ?_
      refine r_put (C := RX11) (T := TX11) (N := 18) (ci := 9) (v := .int 0) S in_X11_lookAt_X11 tyX11_ok nmX11 G 0 rfl rfl 13 (by decide) lk_X11_lookAt_220 rfl (vp_nar_int _) rfl (Nat.le_of_ble_eq_true rfl) dX11_lookAt_45 (fun H locs G => ?_)
      obtain ⟨t_3, hI_t_3, ⟨hE_t_3_1, hE_t_3_0⟩, G⟩ : ∃ t_3 : Nat → Nat, InT t_3 ∧ (t_3 1 = 0 ∧ t_3 0 = t5_0 0) ∧ wd X (va_A (@HAppend.hAppend va_W va_W va_W _ (mW m0 ma la lb n t v) ([((ma 10), .inl (X.2.1, 150, .inl fd))])) sz) (va_A (@HAppend.hAppend va_W va_W va_W _ (mW m0 ma la lb n t v) ([((ma 10), .inl (X.2.1, 150, .inl fd))])) sz) s (@HAppend.hAppend va_W va_W va_W _ (mW m0 ma la lb n t_3 v) ([((ma 10), .inl (X.2.1, 150, .inl fd))])) H locs := ⟨upN t5_0 1 0, ⟨ht0_t5_0, (by show 0 ≤ 150; omega)⟩, ⟨rfl, rfl⟩, G⟩
      have hO_t_3 := hI_t_3
      obtain ⟨ht0_t_3, ht1_t_3⟩ := hO_t_3
      refine lv_aload_n zx zb dX11_lookAt_48 rfl (lv_at hl 0 rfl) ?_
      refine lv_iconst (v := 0) zx zb dX11_lookAt_49 (by decide) ?_
      refine r_put (C := RX11) (T := TX11) (N := 18) (ci := 9) (v := .int 0) S in_X11_lookAt_X11 tyX11_ok nmX11 G 0 rfl rfl 14 (by decide) lk_X11_lookAt_223 rfl (vp_nar_int _) rfl (Nat.le_of_ble_eq_true rfl) dX11_lookAt_50 (fun H locs G => ?_)
      obtain ⟨v_4, ⟨hE_v_4_0, hE_v_4_1⟩, G⟩ : ∃ v_4 : Nat → Int32, (v_4 0 = 0 ∧ v_4 1 = v 1) ∧ wd X (va_A (@HAppend.hAppend va_W va_W va_W _ (mW m0 ma la lb n t v) ([((ma 10), .inl (X.2.1, 150, .inl fd))])) sz) (va_A (@HAppend.hAppend va_W va_W va_W _ (mW m0 ma la lb n t v) ([((ma 10), .inl (X.2.1, 150, .inl fd))])) sz) s (@HAppend.hAppend va_W va_W va_W _ (mW m0 ma la lb n t_3 v_4) ([((ma 10), .inl (X.2.1, 150, .inl fd))])) H locs := ⟨upd v 0 0, ⟨rfl, rfl⟩, G⟩
      refine lv_aload_n zx zb dX11_lookAt_53 rfl (lv_at hl 0 rfl) ?_
      refine lv_iconst (v := 0) zx zb dX11_lookAt_54 (by decide) ?_
      refine r_put (C := RX11) (T := TX11) (N := 18) (ci := 9) (v := .int 0) S in_X11_lookAt_X11 tyX11_ok nmX11 G 0 rfl rfl 15 (by decide) lk_X11_lookAt_226 rfl (vp_nar_int _) rfl (Nat.le_of_ble_eq_true rfl) dX11_lookAt_55 (fun H locs G => ?_)
      obtain ⟨v_5, ⟨hE_v_5_1, hE_v_5_0⟩, G⟩ : ∃ v_5 : Nat → Int32, (v_5 1 = 0 ∧ v_5 0 = v_4 0) ∧ wd X (va_A (@HAppend.hAppend va_W va_W va_W _ (mW m0 ma la lb n t v) ([((ma 10), .inl (X.2.1, 150, .inl fd))])) sz) (va_A (@HAppend.hAppend va_W va_W va_W _ (mW m0 ma la lb n t v) ([((ma 10), .inl (X.2.1, 150, .inl fd))])) sz) s (@HAppend.hAppend va_W va_W va_W _ (mW m0 ma la lb n t_3 v_5) ([((ma 10), .inl (X.2.1, 150, .inl fd))])) H locs := ⟨upd v_4 1 0, ⟨rfl, rfl⟩, G⟩
      have hta : t_3 0 = (t5_0 0) := by omega
      have hs : scanP qB fd n o = (t5_0 0) := hx5_0.2.symm.trans (scan_e (fun h => absurd h.1 (by omega)))
      refine lv_aload_n zx zb dX11_lookAt_58 rfl (lv_at hl 0 rfl) ?_
      refine r_get (C := RX11) (T := TX11) (N := 18) (ci := 9) (v := .int (nI (t_3 0))) S in_X11_lookAt_X11 G 0 rfl rfl 12 (by decide) lk_X11_lookAt_217 rfl dX11_lookAt_59 ?_
      refine lv_aload_n zx zb dX11_lookAt_62 rfl (lv_at hl 0 rfl) ?_
      refine r_get (C := RX11) (T := TX11) (N := 18) (ci := 9) (v := .int (nI n)) S in_X11_lookAt_X11 G 0 rfl rfl 11 (by decide) lk_X11_lookAt_205 rfl dX11_lookAt_63 ?_
      refine lv_icmp_ne (tgt := 70) zx zb dX11_lookAt_66 (by decide) (fun c_6 => absurd (congrArg nI (by omega)) c_6) (fun c_6 => ?_)
      exact e_void S zr zlk G (t_3, v_5) [0, 1] rfl rfl (Or.inr rfl) (⟨hI_t_3, by rw [hs]; have hn : ¬ (t5_0 0) < n := (by first | omega | (dsimp only; omega)); exact ⟨by first | omega | (dsimp only; omega), by rw [(tok_end hn).1]; first | omega | (dsimp only; omega), (hE_v_5_0.trans (hE_v_4_0)).trans (tok_end hn).2.symm, fun h => absurd (h.symm.trans (tok_end hn).2) (by decide), by first | omega | (dsimp only; omega)⟩⟩) dX11_lookAt_69
    · have fc_2 := j_nle (a := n) (b := (t5_0 0)) (by omega) (by omega) c_2
      refine lv_aload_n zx zb dX11_lookAt_16 rfl (lv_at hl 0 rfl) ?_
      refine r_get (C := RX11) (T := TX11) (N := 18) (ci := 9) (v := .ref (ma 10)) S in_X11_lookAt_X11 G 0 rfl rfl 10 (by decide) lk_X11_lookAt_39 rfl dX11_lookAt_17 ?_
      refine lv_aload_n zx zb dX11_lookAt_20 rfl (lv_at hl 0 rfl) ?_
      refine r_get (C := RX11) (T := TX11) (N := 18) (ci := 9) (v := .int (nI (t5_0 0))) S in_X11_lookAt_X11 G 0 rfl rfl 12 (by decide) lk_X11_lookAt_217 rfl dX11_lookAt_21 ?_
      refine r_iald (v := (fd (t5_0 0))) S G 1 rfl (vp_in_nI (by omega) (by decide)) (congrArg fd (nI_clamp (by omega))) dX11_lookAt_24 ?_
      refine lv_bipush (v := 32) zx zb dX11_lookAt_25 (by decide) ?_
      refine lv_icmp_ne (tgt := 43) zx zb dX11_lookAt_27 (by decide) (fun c_8 => ?_) (fun c_8 => ?_)
      · refine lv_aload_n zx zb dX11_lookAt_43 rfl (lv_at hl 0 rfl) ?_
        refine lv_iconst (v := 0) zx zb dX11_lookAt_44 (by decide) ?_
        refine r_put (C := RX11) (T := TX11) (N := 18) (ci := 9) (v := .int 0) S in_X11_lookAt_X11 tyX11_ok nmX11 G 0 rfl rfl 13 (by decide) lk_X11_lookAt_220 rfl (vp_nar_int _) rfl (Nat.le_of_ble_eq_true rfl) dX11_lookAt_45 (fun H locs G => ?_)
        obtain ⟨t_9, hI_t_9, ⟨hE_t_9_1, hE_t_9_0⟩, G⟩ : ∃ t_9 : Nat → Nat, InT t_9 ∧ (t_9 1 = 0 ∧ t_9 0 = t5_0 0) ∧ wd X (va_A (@HAppend.hAppend va_W va_W va_W _ (mW m0 ma la lb n t v) ([((ma 10), .inl (X.2.1, 150, .inl fd))])) sz) (va_A (@HAppend.hAppend va_W va_W va_W _ (mW m0 ma la lb n t v) ([((ma 10), .inl (X.2.1, 150, .inl fd))])) sz) s (@HAppend.hAppend va_W va_W va_W _ (mW m0 ma la lb n t_9 v) ([((ma 10), .inl (X.2.1, 150, .inl fd))])) H locs := ⟨upN t5_0 1 0, ⟨ht0_t5_0, (by show 0 ≤ 150; omega)⟩, ⟨rfl, rfl⟩, G⟩
        have hO_t_9 := hI_t_9
        obtain ⟨ht0_t_9, ht1_t_9⟩ := hO_t_9
        refine lv_aload_n zx zb dX11_lookAt_48 rfl (lv_at hl 0 rfl) ?_
        refine lv_iconst (v := 0) zx zb dX11_lookAt_49 (by decide) ?_
        refine r_put (C := RX11) (T := TX11) (N := 18) (ci := 9) (v := .int 0) S in_X11_lookAt_X11 tyX11_ok nmX11 G 0 rfl rfl 14 (by decide) lk_X11_lookAt_223 rfl (vp_nar_int _) rfl (Nat.le_of_ble_eq_true rfl) dX11_lookAt_50 (fun H locs G => ?_)
        obtain ⟨v_10, ⟨hE_v_10_0, hE_v_10_1⟩, G⟩ : ∃ v_10 : Nat → Int32, (v_10 0 = 0 ∧ v_10 1 = v 1) ∧ wd X (va_A (@HAppend.hAppend va_W va_W va_W _ (mW m0 ma la lb n t v) ([((ma 10), .inl (X.2.1, 150, .inl fd))])) sz) (va_A (@HAppend.hAppend va_W va_W va_W _ (mW m0 ma la lb n t v) ([((ma 10), .inl (X.2.1, 150, .inl fd))])) sz) s (@HAppend.hAppend va_W va_W va_W _ (mW m0 ma la lb n t_9 v_10) ([((ma 10), .inl (X.2.1, 150, .inl fd))])) H locs := ⟨upd v 0 0, ⟨rfl, rfl⟩, G⟩
        refine lv_aload_n zx zb dX11_lookAt_53 rfl (lv_at hl 0 rfl) ?_
        refine lv_iconst (v := 0) zx zb dX11_lookAt_54 (by decide) ?_
        refine r_put (C := RX11) (T := TX11) (N := 18) (ci := 9) (v := .int 0) S in_X11_lookAt_X11 tyX11_ok nmX11 G 0 rfl rfl 15 (by decide) lk_X11_lookAt_226 rfl (vp_nar_int _) rfl (Nat.le_of_ble_eq_true rfl) dX11_lookAt_55 (fun H locs G => ?_)
        obtain ⟨v_11, ⟨hE_v_11_1, hE_v_11_0⟩, G⟩ : ∃ v_11 : Nat → Int32, (v_11 1 = 0 ∧ v_11 0 = v_10 0) ∧ wd X (va_A (@HAppend.hAppend va_W va_W va_W _ (mW m0 ma la lb n t v) ([((ma 10), .inl (X.2.1, 150, .inl fd))])) sz) (va_A (@HAppend.hAppend va_W va_W va_W _ (mW m0 ma la lb n t v) ([((ma 10), .inl (X.2.1, 150, .inl fd))])) sz) s (@HAppend.hAppend va_W va_W va_W _ (mW m0 ma la lb n t_9 v_11) ([((ma 10), .inl (X.2.1, 150, .inl fd))])) H locs := ⟨upd v_10 1 0, ⟨rfl, rfl⟩, G⟩
        have hta : t_9 0 = (t5_0 0) := by omega
        have hs : scanP qB fd n o = (t5_0 0) := hx5_0.2.symm.trans (scan_e (fun h => c_8 (qB_t.mp h.2)))
        refine lv_aload_n zx zb dX11_lookAt_58 rfl (lv_at hl 0 rfl) ?_
        refine r_get (C := RX11) (T := TX11) (N := 18) (ci := 9) (v := .int (nI (t_9 0))) S in_X11_lookAt_X11 G 0 rfl rfl 12 (by decide) lk_X11_lookAt_217 rfl dX11_lookAt_59 ?_
        refine lv_aload_n zx zb dX11_lookAt_62 rfl (lv_at hl 0 rfl) ?_
        refine r_get (C := RX11) (T := TX11) (N := 18) (ci := 9) (v := .int (nI n)) S in_X11_lookAt_X11 G 0 rfl rfl 11 (by decide) lk_X11_lookAt_205 rfl dX11_lookAt_63 ?_
        refine lv_icmp_ne (tgt := 70) zx zb dX11_lookAt_66 (by decide) (fun c_12 => ?_) (fun c_12 => absurd c_12 (fun q => absurd (j_eq (by omega) (by omega) q) (by omega)))
        refine lv_aload_n zx zb dX11_lookAt_70 rfl (lv_at hl 0 rfl) ?_
        refine r_get (C := RX11) (T := TX11) (N := 18) (ci := 9) (v := .ref (ma 10)) S in_X11_lookAt_X11 G 0 rfl rfl 10 (by decide) lk_X11_lookAt_39 rfl dX11_lookAt_71 ?_
        refine lv_aload_n zx zb dX11_lookAt_74 rfl (lv_at hl 0 rfl) ?_
        refine r_get (C := RX11) (T := TX11) (N := 18) (ci := 9) (v := .int (nI (t_9 0))) S in_X11_lookAt_X11 G 0 rfl rfl 12 (by decide) lk_X11_lookAt_217 rfl dX11_lookAt_75 ?_
        refine r_iald (v := (fd (t_9 0))) S G 1 rfl (vp_in_nI (by omega) (by decide)) (congrArg fd (nI_clamp (by omega))) dX11_lookAt_78 ?_
        refine lv_istore_n (lv' := [(2, .int (fd (t_9 0))), (0, .ref m0), (1, .int (nI o))]) zx zb dX11_lookAt_79 rfl hl (by decide) rfl (fun ls hl => ?_)
        refine lv_aload_n zx zb dX11_lookAt_80 rfl (lv_at hl 1 rfl) ?_
        refine lv_iload_n zx zb dX11_lookAt_81 rfl (lv_at hl 0 rfl) ?_
        refine o_ri (cells' := 0) (slots' := 0) G rfl rfl (n_S (As := [.int (fd (t_9 0))]) (rest := [.ref m0]) S G (y_isSmall l X (fd (t_9 0)) H.size) gX11_lookAt_X11_isSmall rfl rfl rfl hdS_X11_isSmall ⟨Nat.le_of_ble_eq_true rfl, Nat.le_of_ble_eq_true rfl⟩ [] rfl rfl rfl hl.1 (Nat.le_of_ble_eq_true rfl) dX11_lookAt_82 ⟨Nat.le_of_ble_eq_true rfl, Nat.le_of_ble_eq_true rfl⟩) (fun r_14 u_14 H locs hp_14 G => ?_)
        have G : wd X (va_A (@HAppend.hAppend va_W va_W va_W _ (mW m0 ma la lb n t v) ([((ma 10), .inl (X.2.1, 150, .inl fd))])) sz) (va_A (@HAppend.hAppend va_W va_W va_W _ (mW m0 ma la lb n t v) ([((ma 10), .inl (X.2.1, 150, .inl fd))])) sz) s (@HAppend.hAppend va_W va_W va_W _ (mW m0 ma la lb n t_9 v_11) ([((ma 10), .inl (X.2.1, 150, .inl fd))])) H locs := G
        rcases hp_14 with ⟨rfl, hl_14⟩ | ⟨rfl, hl_14⟩
        · refine lv_if_eq (tgt := 92) zx zb dX11_lookAt_85 (by decide) (fun c_15 => absurd c_15 (by decide)) (fun c_15 => ?_)
          refine lv_iconst (v := 1) zx zb dX11_lookAt_88 (by decide) ?_
          refine lv_goto (tgt := 114) zx zb dX11_lookAt_89 (by decide) ?_
          refine r_put (C := RX11) (T := TX11) (N := 18) (ci := 9) (v := .int 1) S in_X11_lookAt_X11 tyX11_ok nmX11 G 0 rfl rfl 14 (by decide) lk_X11_lookAt_223 rfl (vp_nar_int _) rfl (Nat.le_of_ble_eq_true rfl) dX11_lookAt_114 (fun H locs G => ?_)
          obtain ⟨v_16, ⟨hE_v_16_0, hE_v_16_1⟩, G⟩ : ∃ v_16 : Nat → Int32, (v_16 0 = 1 ∧ v_16 1 = v_11 1) ∧ wd X (va_A (@HAppend.hAppend va_W va_W va_W _ (mW m0 ma la lb n t v) ([((ma 10), .inl (X.2.1, 150, .inl fd))])) sz) (va_A (@HAppend.hAppend va_W va_W va_W _ (mW m0 ma la lb n t v) ([((ma 10), .inl (X.2.1, 150, .inl fd))])) sz) s (@HAppend.hAppend va_W va_W va_W _ (mW m0 ma la lb n t_9 v_16) ([((ma 10), .inl (X.2.1, 150, .inl fd))])) H locs := ⟨upd v_11 0 1, ⟨rfl, rfl⟩, G⟩
          refine lv_aload_n zx zb dX11_lookAt_117 rfl (lv_at hl 1 rfl) ?_
          refine lv_iconst (v := 1) zx zb dX11_lookAt_118 (by decide) ?_
          refine r_put (C := RX11) (T := TX11) (N := 18) (ci := 9) (v := .int 1) S in_X11_lookAt_X11 tyX11_ok nmX11 G 0 rfl rfl 13 (by decide) lk_X11_lookAt_220 rfl (vp_nar_int _) rfl (Nat.le_of_ble_eq_true rfl) dX11_lookAt_119 (fun H locs G => ?_)
          obtain ⟨t_17, hI_t_17, ⟨hE_t_17_1, hE_t_17_0⟩, G⟩ : ∃ t_17 : Nat → Nat, InT t_17 ∧ (t_17 1 = 1 ∧ t_17 0 = t_9 0) ∧ wd X (va_A (@HAppend.hAppend va_W va_W va_W _ (mW m0 ma la lb n t v) ([((ma 10), .inl (X.2.1, 150, .inl fd))])) sz) (va_A (@HAppend.hAppend va_W va_W va_W _ (mW m0 ma la lb n t v) ([((ma 10), .inl (X.2.1, 150, .inl fd))])) sz) s (@HAppend.hAppend va_W va_W va_W _ (mW m0 ma la lb n t_17 v_16) ([((ma 10), .inl (X.2.1, 150, .inl fd))])) H locs := ⟨upN t_9 1 1, ⟨ht0_t_9, (by show 1 ≤ 150; omega)⟩, ⟨rfl, rfl⟩, G⟩
          have hO_t_17 := hI_t_17
          obtain ⟨ht0_t_17, ht1_t_17⟩ := hO_t_17
          refine lv_aload_n zx zb dX11_lookAt_122 rfl (lv_at hl 1 rfl) ?_
          refine r_get (C := RX11) (T := TX11) (N := 18) (ci := 9) (v := .int (v_16 0)) S in_X11_lookAt_X11 G 0 rfl rfl 14 (by decide) lk_X11_lookAt_223 rfl dX11_lookAt_123 ?_
          refine lv_iconst (v := 3) zx zb dX11_lookAt_126 (by decide) ?_
          refine lv_icmp_ge (tgt := 134) zx zb dX11_lookAt_127 (by decide) (fun c_18 => absurd c_18 (by rw [hE_v_16_0]; decide)) (fun c_18 => ?_)
          refine lv_iconst (v := 1) zx zb dX11_lookAt_130 (by decide) ?_
          refine lv_goto (tgt := 135) zx zb dX11_lookAt_131 (by decide) ?_
          refine lv_istore_n (lv' := [(3, .int 1), (2, .int (fd (t_9 0))), (0, .ref m0), (1, .int (nI o))]) zx zb dX11_lookAt_135 rfl hl (by decide) rfl (fun ls hl => ?_)
          refine k_loop (P := ∀ (zm : Nat) (t136_0 : Nat → Nat) (H : Heap) (locs : List Loc) (ls : Array Slot), ((150 - t136_0 1) < zm) → ((t136_0 0 = (t5_0 0) ∧ 1 ≤ t136_0 1 ∧ t136_0 0 + t136_0 1 ≤ n) ∧ scanP lqL fd n (t136_0 0 + t136_0 1) = scanP lqL fd n (t5_0 0)) → InT t136_0 → wd X (va_A (@HAppend.hAppend va_W va_W va_W _ (mW m0 ma la lb n t v) ([((ma 10), .inl (X.2.1, 150, .inl fd))])) sz) (va_A (@HAppend.hAppend va_W va_W va_W _ (mW m0 ma la lb n t v) ([((ma 10), .inl (X.2.1, 150, .inl fd))])) sz) s (@HAppend.hAppend va_W va_W va_W _ (mW m0 ma la lb n t136_0 v_16) ([((ma 10), .inl (X.2.1, 150, .inl fd))])) H locs → lv_has ls 5 [(3, .int 1), (2, .int (fd (t_9 0))), (0, .ref m0), (1, .int (nI o))] → W p l e _ s m _ below meth c H locs _ _ _ (F0 m 136 ls [])) (fun loop => loop ((150 - t_17 1) + 1) t_17 _ _ _ (by omega) ⟨by omega, by rw [show t_17 0 + t_17 1 = (t5_0 0) + 1 from by omega]; exact (scan_s (by omega) (by rw [← hta]; exact hl_14)).symm⟩ hI_t_17 G hl) ?_
          intro zm
          induction zm with
          | zero => intro t136_0 H locs ls zz q_x0 q_hI_t136_0 _ _; exact absurd zz (by omega)
          | succ zm ih136 =>
            intro t136_0 H locs ls zm_136 hx136_0 hI_t136_0 G hl
            have hO_t136_0 := hI_t136_0
            obtain ⟨ht0_t136_0, ht1_t136_0⟩ := hO_t136_0
            refine lv_iload_n zx zb dX11_lookAt_136 rfl (lv_at hl 0 rfl) ?_
            refine lv_if_eq (tgt := 215) zx zb dX11_lookAt_137 (by decide) (fun c_19 => absurd c_19 (by decide)) (fun c_19 => ?_)
            refine lv_aload_n zx zb dX11_lookAt_140 rfl (lv_at hl 2 rfl) ?_
            refine r_get (C := RX11) (T := TX11) (N := 18) (ci := 9) (v := .int (nI (t136_0 0))) S in_X11_lookAt_X11 G 0 rfl rfl 12 (by decide) lk_X11_lookAt_217 rfl dX11_lookAt_141 ?_
            refine lv_aload_n zx zb dX11_lookAt_144 rfl (lv_at hl 2 rfl) ?_
            refine r_get (C := RX11) (T := TX11) (N := 18) (ci := 9) (v := .int (nI (t136_0 1))) S in_X11_lookAt_X11 G 0 rfl rfl 13 (by decide) lk_X11_lookAt_220 rfl dX11_lookAt_145 ?_
            refine r_iadd (v := (nI ((t136_0 0) + (t136_0 1)))) S (nI_add (t136_0 0) (t136_0 1)) dX11_lookAt_148 ?_
            refine lv_aload_n zx zb dX11_lookAt_149 rfl (lv_at hl 2 rfl) ?_
            refine r_get (C := RX11) (T := TX11) (N := 18) (ci := 9) (v := .int (nI n)) S in_X11_lookAt_X11 G 0 rfl rfl 11 (by decide) lk_X11_lookAt_205 rfl dX11_lookAt_150 ?_
            refine lv_icmp_ge (tgt := 215) zx zb dX11_lookAt_153 (by decide) (fun c_20 => ?_) (fun c_20 => ?_)
            · have fc_20 := j_le (a := n) (b := ((t136_0 0) + (t136_0 1))) (by omega) (by omega) c_20
              have hEnd : t136_0 0 + t136_0 1 = scanP lqL fd n (t5_0 0) := (show t136_0 0 + t136_0 1 = t136_0 0 + t136_0 1 from by omega).trans ((scan_e (fun h => absurd h.1 (by omega))).symm.trans hx136_0.2)
              refine lv_iconst (v := 0) zx zb dX11_lookAt_215 (by decide) ?_
              refine lv_istore (lv' := [(4, .int 0), (3, .int 1), (2, .int (fd (t_9 0))), (0, .ref m0), (1, .int (nI o))]) zx zb dX11_lookAt_216 hl (by decide) rfl (fun ls hl => ?_)
              refine lv_iload zx zb dX11_lookAt_218 (lv_at hl 0 rfl) ?_
              refine lv_aload_n zx zb dX11_lookAt_220 rfl (lv_at hl 3 rfl) ?_
              refine r_get (C := RX11) (T := TX11) (N := 18) (ci := 9) (v := .int (nI (t136_0 1))) S in_X11_lookAt_X11 G 0 rfl rfl 13 (by decide) lk_X11_lookAt_220 rfl dX11_lookAt_221 ?_
              refine lv_icmp_ge (tgt := 274) zx zb dX11_lookAt_224 (by decide) (fun c_21 => absurd c_21 (fun q => absurd (j_le (a := (t136_0 1)) (b := 0) (by omega) (by omega) q) (by omega))) (fun c_21 => ?_)
              refine lv_iload zx zb dX11_lookAt_227 (lv_at hl 0 rfl) ?_
              refine lv_iconst (v := 2) zx zb dX11_lookAt_229 (by decide) ?_
              refine lv_icmp_ge (tgt := 274) zx zb dX11_lookAt_230 (by decide) (fun c_22 => absurd c_22 (by decide)) (fun c_22 => ?_)
              refine lv_aload_n zx zb dX11_lookAt_233 rfl (lv_at hl 3 rfl) ?_
              refine r_get (C := RX11) (T := TX11) (N := 18) (ci := 9) (v := .int (v_16 0)) S in_X11_lookAt_X11 G 0 rfl rfl 14 (by decide) lk_X11_lookAt_223 rfl dX11_lookAt_234 ?_
              refine lv_iconst (v := 2) zx zb dX11_lookAt_237 (by decide) ?_
              refine lv_icmp_ne (tgt := 274) zx zb dX11_lookAt_238 (by decide) (fun c_23 => ?_) (fun c_23 => absurd c_23 (by rw [hE_v_16_0]; decide))
              refine lv_aload_n zx zb dX11_lookAt_274 rfl (lv_at hl 3 rfl) ?_
              refine lv_aload_n zx zb dX11_lookAt_275 rfl (lv_at hl 3 rfl) ?_
              refine r_get (C := RX11) (T := TX11) (N := 18) (ci := 9) (v := .int (v_16 0)) S in_X11_lookAt_X11 G 0 rfl rfl 14 (by decide) lk_X11_lookAt_223 rfl dX11_lookAt_276 ?_
              refine lv_iconst (v := 2) zx zb dX11_lookAt_279 (by decide) ?_
              refine lv_icmp_ne (tgt := 295) zx zb dX11_lookAt_280 (by decide) (fun c_24 => ?_) (fun c_24 => absurd c_24 (by rw [hE_v_16_0]; decide))
              refine lv_aload_n zx zb dX11_lookAt_295 rfl (lv_at hl 3 rfl) ?_
              refine r_get (C := RX11) (T := TX11) (N := 18) (ci := 9) (v := .int (v_16 0)) S in_X11_lookAt_X11 G 0 rfl rfl 14 (by decide) lk_X11_lookAt_223 rfl dX11_lookAt_296 ?_
              refine r_put (C := RX11) (T := TX11) (N := 18) (ci := 9) (v := .int (v_16 0)) S in_X11_lookAt_X11 tyX11_ok nmX11 G 0 rfl rfl 14 (by decide) lk_X11_lookAt_223 rfl (vp_nar_int _) rfl (Nat.le_of_ble_eq_true rfl) dX11_lookAt_299 (fun H locs G => ?_)
              obtain ⟨v_25, ⟨hE_v_25_0, hE_v_25_1⟩, G⟩ : ∃ v_25 : Nat → Int32, (v_25 0 = (v_16 0) ∧ v_25 1 = v_16 1) ∧ wd X (va_A (@HAppend.hAppend va_W va_W va_W _ (mW m0 ma la lb n t v) ([((ma 10), .inl (X.2.1, 150, .inl fd))])) sz) (va_A (@HAppend.hAppend va_W va_W va_W _ (mW m0 ma la lb n t v) ([((ma 10), .inl (X.2.1, 150, .inl fd))])) sz) s (@HAppend.hAppend va_W va_W va_W _ (mW m0 ma la lb n t136_0 v_25) ([((ma 10), .inl (X.2.1, 150, .inl fd))])) H locs := ⟨upd v_16 0 (v_16 0), ⟨rfl, rfl⟩, G⟩
              exact e_void S zr zlk G (t136_0, v_25) [0, 1] rfl rfl (Or.inr rfl) (⟨hI_t136_0, by rw [hs]; have hn : (t5_0 0) < n := (by first | omega | (dsimp only; omega)); have hc : lqL (fd (t5_0 0)) = true := (by rw [← hta]; exact hl_14); exact ⟨by first | omega | (dsimp only; omega), hEnd.trans (tok_let hn hc).1.symm, (hE_v_25_0.trans (hE_v_16_0)).trans (tok_let hn hc).2.symm, fun h => absurd (h.symm.trans (tok_let hn hc).2) (by decide), by first | omega | (dsimp only; omega)⟩⟩) dX11_lookAt_302
            · have fc_20 := j_nle (a := n) (b := ((t136_0 0) + (t136_0 1))) (by omega) (by omega) c_20
              refine lv_aload_n zx zb dX11_lookAt_156 rfl (lv_at hl 2 rfl) ?_
              refine r_get (C := RX11) (T := TX11) (N := 18) (ci := 9) (v := .ref (ma 10)) S in_X11_lookAt_X11 G 0 rfl rfl 10 (by decide) lk_X11_lookAt_39 rfl dX11_lookAt_157 ?_
              refine lv_aload_n zx zb dX11_lookAt_160 rfl (lv_at hl 2 rfl) ?_
              refine r_get (C := RX11) (T := TX11) (N := 18) (ci := 9) (v := .int (nI (t136_0 0))) S in_X11_lookAt_X11 G 0 rfl rfl 12 (by decide) lk_X11_lookAt_217 rfl dX11_lookAt_161 ?_
              refine lv_aload_n zx zb dX11_lookAt_164 rfl (lv_at hl 2 rfl) ?_
              refine r_get (C := RX11) (T := TX11) (N := 18) (ci := 9) (v := .int (nI (t136_0 1))) S in_X11_lookAt_X11 G 0 rfl rfl 13 (by decide) lk_X11_lookAt_220 rfl dX11_lookAt_165 ?_
              refine r_iadd (v := (nI ((t136_0 0) + (t136_0 1)))) S (nI_add (t136_0 0) (t136_0 1)) dX11_lookAt_168 ?_
              refine r_iald (v := (fd ((t136_0 0) + (t136_0 1)))) S G 1 rfl (vp_in_nI (by omega) (by decide)) (congrArg fd (nI_clamp (by omega))) dX11_lookAt_169 ?_
              refine lv_istore (lv' := [(4, .int (fd ((t136_0 0) + (t136_0 1)))), (3, .int 1), (2, .int (fd (t_9 0))), (0, .ref m0), (1, .int (nI o))]) zx zb dX11_lookAt_170 hl (by decide) rfl (fun ls hl => ?_)
              refine lv_aload_n zx zb dX11_lookAt_172 rfl (lv_at hl 3 rfl) ?_
              refine r_get (C := RX11) (T := TX11) (N := 18) (ci := 9) (v := .int (v_16 0)) S in_X11_lookAt_X11 G 0 rfl rfl 14 (by decide) lk_X11_lookAt_223 rfl dX11_lookAt_173 ?_
              refine lv_iconst (v := 1) zx zb dX11_lookAt_176 (by decide) ?_
              refine lv_icmp_ne (tgt := 188) zx zb dX11_lookAt_177 (by decide) (fun c_27 => absurd (hE_v_16_0) c_27) (fun c_27 => ?_)
              refine lv_iload zx zb dX11_lookAt_180 (lv_at hl 0 rfl) ?_
              refine o_ri (cells' := 0) (slots' := 0) G rfl rfl (n_S (As := [.int (fd ((t136_0 0) + (t136_0 1)))]) (rest := []) S G (y_isSmall l X (fd ((t136_0 0) + (t136_0 1))) H.size) gX11_lookAt_X11_isSmall rfl rfl rfl hdS_X11_isSmall ⟨Nat.le_of_ble_eq_true rfl, Nat.le_of_ble_eq_true rfl⟩ [] rfl rfl rfl hl.1 (Nat.le_of_ble_eq_true rfl) dX11_lookAt_182 ⟨Nat.le_of_ble_eq_true rfl, Nat.le_of_ble_eq_true rfl⟩) (fun r_28 u_28 H locs hp_28 G => ?_)
              have G : wd X (va_A (@HAppend.hAppend va_W va_W va_W _ (mW m0 ma la lb n t v) ([((ma 10), .inl (X.2.1, 150, .inl fd))])) sz) (va_A (@HAppend.hAppend va_W va_W va_W _ (mW m0 ma la lb n t v) ([((ma 10), .inl (X.2.1, 150, .inl fd))])) sz) s (@HAppend.hAppend va_W va_W va_W _ (mW m0 ma la lb n t136_0 v_16) ([((ma 10), .inl (X.2.1, 150, .inl fd))])) H locs := G
              rcases hp_28 with ⟨rfl, hl_28⟩ | ⟨rfl, hl_28⟩
              · refine lv_goto (tgt := 193) zx zb dX11_lookAt_185 (by decide) ?_
                refine lv_istore_n (lv' := [(3, .int 1), (4, .int (fd ((t136_0 0) + (t136_0 1)))), (2, .int (fd (t_9 0))), (0, .ref m0), (1, .int (nI o))]) zx zb dX11_lookAt_193 rfl hl (by decide) rfl (fun ls hl => ?_)
                refine lv_aload_n zx zb dX11_lookAt_194 rfl (lv_at hl 3 rfl) ?_
                refine lv_dup zx zb dX11_lookAt_195 rfl ?_
                refine r_get (C := RX11) (T := TX11) (N := 18) (ci := 9) (v := .int (nI (t136_0 1))) S in_X11_lookAt_X11 G 0 rfl rfl 13 (by decide) lk_X11_lookAt_220 rfl dX11_lookAt_196 ?_
                refine lv_iload_n zx zb dX11_lookAt_199 rfl (lv_at hl 0 rfl) ?_
                refine lv_if_eq (tgt := 207) zx zb dX11_lookAt_200 (by decide) (fun c_29 => absurd c_29 (by decide)) (fun c_29 => ?_)
                refine lv_iconst (v := 1) zx zb dX11_lookAt_203 (by decide) ?_
                refine lv_goto (tgt := 208) zx zb dX11_lookAt_204 (by decide) ?_
                refine r_iadd (v := (nI ((t136_0 1) + 1))) S (nI_add (t136_0 1) 1) dX11_lookAt_208 ?_
                refine r_put (C := RX11) (T := TX11) (N := 18) (ci := 9) (v := .int (nI ((t136_0 1) + 1))) S in_X11_lookAt_X11 tyX11_ok nmX11 G 0 rfl rfl 13 (by decide) lk_X11_lookAt_220 rfl (vp_nar_int _) rfl (Nat.le_of_ble_eq_true rfl) dX11_lookAt_209 (fun H locs G => ?_)
                obtain ⟨t_30, hI_t_30, ⟨hE_t_30_1, hE_t_30_0⟩, G⟩ : ∃ t_30 : Nat → Nat, InT t_30 ∧ (t_30 1 = ((t136_0 1) + 1) ∧ t_30 0 = t136_0 0) ∧ wd X (va_A (@HAppend.hAppend va_W va_W va_W _ (mW m0 ma la lb n t v) ([((ma 10), .inl (X.2.1, 150, .inl fd))])) sz) (va_A (@HAppend.hAppend va_W va_W va_W _ (mW m0 ma la lb n t v) ([((ma 10), .inl (X.2.1, 150, .inl fd))])) sz) s (@HAppend.hAppend va_W va_W va_W _ (mW m0 ma la lb n t_30 v_16) ([((ma 10), .inl (X.2.1, 150, .inl fd))])) H locs := ⟨upN t136_0 1 ((t136_0 1) + 1), ⟨ht0_t136_0, (by show ((t136_0 1) + 1) ≤ 150; omega)⟩, ⟨rfl, rfl⟩, G⟩
                have hO_t_30 := hI_t_30
                obtain ⟨ht0_t_30, ht1_t_30⟩ := hO_t_30
                refine lv_goto (tgt := 136) zx zb dX11_lookAt_212 (by decide) ?_
                have hl := lv_sub hl (l' := [(3, .int 1), (2, .int (fd (t_9 0))), (0, .ref m0), (1, .int (nI o))]) [0, 2, 3, 4] rfl
                exact ih136 t_30 _ _ _ (by omega) ⟨by omega, by rw [show t_30 0 + t_30 1 = (t136_0 0 + t136_0 1) + 1 from by omega, ← scan_s (by omega) hl_28]; exact hx136_0.2⟩ hI_t_30 G hl
              · refine lv_goto (tgt := 193) zx zb dX11_lookAt_185 (by decide) ?_
                refine lv_istore_n (lv' := [(3, .int 0), (4, .int (fd ((t136_0 0) + (t136_0 1)))), (2, .int (fd (t_9 0))), (0, .ref m0), (1, .int (nI o))]) zx zb dX11_lookAt_193 rfl hl (by decide) rfl (fun ls hl => ?_)
                refine lv_aload_n zx zb dX11_lookAt_194 rfl (lv_at hl 3 rfl) ?_
                refine lv_dup zx zb dX11_lookAt_195 rfl ?_
                refine r_get (C := RX11) (T := TX11) (N := 18) (ci := 9) (v := .int (nI (t136_0 1))) S in_X11_lookAt_X11 G 0 rfl rfl 13 (by decide) lk_X11_lookAt_220 rfl dX11_lookAt_196 ?_
                refine lv_iload_n zx zb dX11_lookAt_199 rfl (lv_at hl 0 rfl) ?_
                refine lv_if_eq (tgt := 207) zx zb dX11_lookAt_200 (by decide) (fun c_31 => ?_) (fun c_31 => absurd (by decide) c_31)
                refine lv_iconst (v := 0) zx zb dX11_lookAt_207 (by decide) ?_
                refine r_iadd (v := (nI ((t136_0 1) + 0))) S (nI_add (t136_0 1) 0) dX11_lookAt_208 ?_
                refine r_put (C := RX11) (T := TX11) (N := 18) (ci := 9) (v := .int (nI ((t136_0 1) + 0))) S in_X11_lookAt_X11 tyX11_ok nmX11 G 0 rfl rfl 13 (by decide) lk_X11_lookAt_220 rfl (vp_nar_int _) rfl (Nat.le_of_ble_eq_true rfl) dX11_lookAt_209 (fun H locs G => ?_)
                obtain ⟨t_32, hI_t_32, ⟨hE_t_32_1, hE_t_32_0⟩, G⟩ : ∃ t_32 : Nat → Nat, InT t_32 ∧ (t_32 1 = ((t136_0 1) + 0) ∧ t_32 0 = t136_0 0) ∧ wd X (va_A (@HAppend.hAppend va_W va_W va_W _ (mW m0 ma la lb n t v) ([((ma 10), .inl (X.2.1, 150, .inl fd))])) sz) (va_A (@HAppend.hAppend va_W va_W va_W _ (mW m0 ma la lb n t v) ([((ma 10), .inl (X.2.1, 150, .inl fd))])) sz) s (@HAppend.hAppend va_W va_W va_W _ (mW m0 ma la lb n t_32 v_16) ([((ma 10), .inl (X.2.1, 150, .inl fd))])) H locs := ⟨upN t136_0 1 ((t136_0 1) + 0), ⟨ht0_t136_0, (by show ((t136_0 1) + 0) ≤ 150; omega)⟩, ⟨rfl, rfl⟩, G⟩
                have hO_t_32 := hI_t_32
                obtain ⟨ht0_t_32, ht1_t_32⟩ := hO_t_32
                refine lv_goto (tgt := 136) zx zb dX11_lookAt_212 (by decide) ?_
                refine lv_iload_n zx zb dX11_lookAt_136 rfl (lv_at hl 0 rfl) ?_
                refine lv_if_eq (tgt := 215) zx zb dX11_lookAt_137 (by decide) (fun c_33 => ?_) (fun c_33 => absurd (by decide) c_33)
                have hEnd : t_32 0 + t_32 1 = scanP lqL fd n (t5_0 0) := (show t_32 0 + t_32 1 = t136_0 0 + t136_0 1 from by omega).trans ((scan_e (fun h => hl_28 h.2)).symm.trans hx136_0.2)
                refine lv_iconst (v := 0) zx zb dX11_lookAt_215 (by decide) ?_
                refine lv_istore (lv' := [(4, .int 0), (3, .int 0), (2, .int (fd (t_9 0))), (0, .ref m0), (1, .int (nI o))]) zx zb dX11_lookAt_216 hl (by decide) rfl (fun ls hl => ?_)
                refine lv_iload zx zb dX11_lookAt_218 (lv_at hl 0 rfl) ?_
                refine lv_aload_n zx zb dX11_lookAt_220 rfl (lv_at hl 3 rfl) ?_
                refine r_get (C := RX11) (T := TX11) (N := 18) (ci := 9) (v := .int (nI (t_32 1))) S in_X11_lookAt_X11 G 0 rfl rfl 13 (by decide) lk_X11_lookAt_220 rfl dX11_lookAt_221 ?_
                refine lv_icmp_ge (tgt := 274) zx zb dX11_lookAt_224 (by decide) (fun c_34 => absurd c_34 (fun q => absurd (j_le (a := (t_32 1)) (b := 0) (by omega) (by omega) q) (by omega))) (fun c_34 => ?_)
                refine lv_iload zx zb dX11_lookAt_227 (lv_at hl 0 rfl) ?_
                refine lv_iconst (v := 2) zx zb dX11_lookAt_229 (by decide) ?_
                refine lv_icmp_ge (tgt := 274) zx zb dX11_lookAt_230 (by decide) (fun c_35 => absurd c_35 (by decide)) (fun c_35 => ?_)
                refine lv_aload_n zx zb dX11_lookAt_233 rfl (lv_at hl 3 rfl) ?_
                refine r_get (C := RX11) (T := TX11) (N := 18) (ci := 9) (v := .int (v_16 0)) S in_X11_lookAt_X11 G 0 rfl rfl 14 (by decide) lk_X11_lookAt_223 rfl dX11_lookAt_234 ?_
                refine lv_iconst (v := 2) zx zb dX11_lookAt_237 (by decide) ?_
                refine lv_icmp_ne (tgt := 274) zx zb dX11_lookAt_238 (by decide) (fun c_36 => ?_) (fun c_36 => absurd c_36 (by rw [hE_v_16_0]; decide))
                refine lv_aload_n zx zb dX11_lookAt_274 rfl (lv_at hl 3 rfl) ?_
                refine lv_aload_n zx zb dX11_lookAt_275 rfl (lv_at hl 3 rfl) ?_
                refine r_get (C := RX11) (T := TX11) (N := 18) (ci := 9) (v := .int (v_16 0)) S in_X11_lookAt_X11 G 0 rfl rfl 14 (by decide) lk_X11_lookAt_223 rfl dX11_lookAt_276 ?_
                refine lv_iconst (v := 2) zx zb dX11_lookAt_279 (by decide) ?_
                refine lv_icmp_ne (tgt := 295) zx zb dX11_lookAt_280 (by decide) (fun c_37 => ?_) (fun c_37 => absurd c_37 (by rw [hE_v_16_0]; decide))
                refine lv_aload_n zx zb dX11_lookAt_295 rfl (lv_at hl 3 rfl) ?_
                refine r_get (C := RX11) (T := TX11) (N := 18) (ci := 9) (v := .int (v_16 0)) S in_X11_lookAt_X11 G 0 rfl rfl 14 (by decide) lk_X11_lookAt_223 rfl dX11_lookAt_296 ?_
                refine r_put (C := RX11) (T := TX11) (N := 18) (ci := 9) (v := .int (v_16 0)) S in_X11_lookAt_X11 tyX11_ok nmX11 G 0 rfl rfl 14 (by decide) lk_X11_lookAt_223 rfl (vp_nar_int _) rfl (Nat.le_of_ble_eq_true rfl) dX11_lookAt_299 (fun H locs G => ?_)
                obtain ⟨v_38, ⟨hE_v_38_0, hE_v_38_1⟩, G⟩ : ∃ v_38 : Nat → Int32, (v_38 0 = (v_16 0) ∧ v_38 1 = v_16 1) ∧ wd X (va_A (@HAppend.hAppend va_W va_W va_W _ (mW m0 ma la lb n t v) ([((ma 10), .inl (X.2.1, 150, .inl fd))])) sz) (va_A (@HAppend.hAppend va_W va_W va_W _ (mW m0 ma la lb n t v) ([((ma 10), .inl (X.2.1, 150, .inl fd))])) sz) s (@HAppend.hAppend va_W va_W va_W _ (mW m0 ma la lb n t_32 v_38) ([((ma 10), .inl (X.2.1, 150, .inl fd))])) H locs := ⟨upd v_16 0 (v_16 0), ⟨rfl, rfl⟩, G⟩
                exact e_void S zr zlk G (t_32, v_38) [0, 1] rfl rfl (Or.inr rfl) (⟨hI_t_32, by rw [hs]; have hn : (t5_0 0) < n := (by first | omega | (dsimp only; omega)); have hc : lqL (fd (t5_0 0)) = true := (by rw [← hta]; exact hl_14); exact ⟨by first | omega | (dsimp only; omega), hEnd.trans (tok_let hn hc).1.symm, (hE_v_38_0.trans (hE_v_16_0)).trans (tok_let hn hc).2.symm, fun h => absurd (h.symm.trans (tok_let hn hc).2) (by decide), by first | omega | (dsimp only; omega)⟩⟩) dX11_lookAt_302
        · refine lv_if_eq (tgt := 92) zx zb dX11_lookAt_85 (by decide) (fun c_39 => ?_) (fun c_39 => absurd (by decide) c_39)
          refine lv_iload_n zx zb dX11_lookAt_92 rfl (lv_at hl 0 rfl) ?_
          refine o_ri (cells' := 0) (slots' := 0) G rfl rfl (n_S (As := [.int (fd (t_9 0))]) (rest := [.ref m0]) S G (y_isFigure l X (fd (t_9 0)) H.size) gX11_lookAt_X11_isFigure rfl rfl rfl hdS_X11_isFigure ⟨Nat.le_of_ble_eq_true rfl, Nat.le_of_ble_eq_true rfl⟩ [] rfl rfl rfl hl.1 (Nat.le_of_ble_eq_true rfl) dX11_lookAt_93 ⟨Nat.le_of_ble_eq_true rfl, Nat.le_of_ble_eq_true rfl⟩) (fun r_40 u_40 H locs hp_40 G => ?_)
          have G : wd X (va_A (@HAppend.hAppend va_W va_W va_W _ (mW m0 ma la lb n t v) ([((ma 10), .inl (X.2.1, 150, .inl fd))])) sz) (va_A (@HAppend.hAppend va_W va_W va_W _ (mW m0 ma la lb n t v) ([((ma 10), .inl (X.2.1, 150, .inl fd))])) sz) s (@HAppend.hAppend va_W va_W va_W _ (mW m0 ma la lb n t_9 v_11) ([((ma 10), .inl (X.2.1, 150, .inl fd))])) H locs := G
          rcases hp_40 with ⟨rfl, hl_40⟩ | ⟨rfl, hl_40⟩
          · refine lv_if_eq (tgt := 103) zx zb dX11_lookAt_96 (by decide) (fun c_41 => absurd c_41 (by decide)) (fun c_41 => ?_)
            refine lv_iconst (v := 2) zx zb dX11_lookAt_99 (by decide) ?_
            refine lv_goto (tgt := 114) zx zb dX11_lookAt_100 (by decide) ?_
            refine r_put (C := RX11) (T := TX11) (N := 18) (ci := 9) (v := .int 2) S in_X11_lookAt_X11 tyX11_ok nmX11 G 0 rfl rfl 14 (by decide) lk_X11_lookAt_223 rfl (vp_nar_int _) rfl (Nat.le_of_ble_eq_true rfl) dX11_lookAt_114 (fun H locs G => ?_)
            obtain ⟨v_42, ⟨hE_v_42_0, hE_v_42_1⟩, G⟩ : ∃ v_42 : Nat → Int32, (v_42 0 = 2 ∧ v_42 1 = v_11 1) ∧ wd X (va_A (@HAppend.hAppend va_W va_W va_W _ (mW m0 ma la lb n t v) ([((ma 10), .inl (X.2.1, 150, .inl fd))])) sz) (va_A (@HAppend.hAppend va_W va_W va_W _ (mW m0 ma la lb n t v) ([((ma 10), .inl (X.2.1, 150, .inl fd))])) sz) s (@HAppend.hAppend va_W va_W va_W _ (mW m0 ma la lb n t_9 v_42) ([((ma 10), .inl (X.2.1, 150, .inl fd))])) H locs := ⟨upd v_11 0 2, ⟨rfl, rfl⟩, G⟩
            refine lv_aload_n zx zb dX11_lookAt_117 rfl (lv_at hl 1 rfl) ?_
            refine lv_iconst (v := 1) zx zb dX11_lookAt_118 (by decide) ?_
            refine r_put (C := RX11) (T := TX11) (N := 18) (ci := 9) (v := .int 1) S in_X11_lookAt_X11 tyX11_ok nmX11 G 0 rfl rfl 13 (by decide) lk_X11_lookAt_220 rfl (vp_nar_int _) rfl (Nat.le_of_ble_eq_true rfl) dX11_lookAt_119 (fun H locs G => ?_)
            obtain ⟨t_43, hI_t_43, ⟨hE_t_43_1, hE_t_43_0⟩, G⟩ : ∃ t_43 : Nat → Nat, InT t_43 ∧ (t_43 1 = 1 ∧ t_43 0 = t_9 0) ∧ wd X (va_A (@HAppend.hAppend va_W va_W va_W _ (mW m0 ma la lb n t v) ([((ma 10), .inl (X.2.1, 150, .inl fd))])) sz) (va_A (@HAppend.hAppend va_W va_W va_W _ (mW m0 ma la lb n t v) ([((ma 10), .inl (X.2.1, 150, .inl fd))])) sz) s (@HAppend.hAppend va_W va_W va_W _ (mW m0 ma la lb n t_43 v_42) ([((ma 10), .inl (X.2.1, 150, .inl fd))])) H locs := ⟨upN t_9 1 1, ⟨ht0_t_9, (by show 1 ≤ 150; omega)⟩, ⟨rfl, rfl⟩, G⟩
            have hO_t_43 := hI_t_43
            obtain ⟨ht0_t_43, ht1_t_43⟩ := hO_t_43
            refine lv_aload_n zx zb dX11_lookAt_122 rfl (lv_at hl 1 rfl) ?_
            refine r_get (C := RX11) (T := TX11) (N := 18) (ci := 9) (v := .int (v_42 0)) S in_X11_lookAt_X11 G 0 rfl rfl 14 (by decide) lk_X11_lookAt_223 rfl dX11_lookAt_123 ?_
            refine lv_iconst (v := 3) zx zb dX11_lookAt_126 (by decide) ?_
            refine lv_icmp_ge (tgt := 134) zx zb dX11_lookAt_127 (by decide) (fun c_44 => absurd c_44 (by rw [hE_v_42_0]; decide)) (fun c_44 => ?_)
            refine lv_iconst (v := 1) zx zb dX11_lookAt_130 (by decide) ?_
            refine lv_goto (tgt := 135) zx zb dX11_lookAt_131 (by decide) ?_
            refine lv_istore_n (lv' := [(3, .int 1), (2, .int (fd (t_9 0))), (0, .ref m0), (1, .int (nI o))]) zx zb dX11_lookAt_135 rfl hl (by decide) rfl (fun ls hl => ?_)
            refine k_loop (P := ∀ (zm : Nat) (t136_0 : Nat → Nat) (H : Heap) (locs : List Loc) (ls : Array Slot), ((150 - t136_0 1) < zm) → ((t136_0 0 = (t5_0 0) ∧ 1 ≤ t136_0 1 ∧ t136_0 0 + t136_0 1 ≤ n) ∧ scanP lqF fd n (t136_0 0 + t136_0 1) = scanP lqF fd n (t5_0 0)) → InT t136_0 → wd X (va_A (@HAppend.hAppend va_W va_W va_W _ (mW m0 ma la lb n t v) ([((ma 10), .inl (X.2.1, 150, .inl fd))])) sz) (va_A (@HAppend.hAppend va_W va_W va_W _ (mW m0 ma la lb n t v) ([((ma 10), .inl (X.2.1, 150, .inl fd))])) sz) s (@HAppend.hAppend va_W va_W va_W _ (mW m0 ma la lb n t136_0 v_42) ([((ma 10), .inl (X.2.1, 150, .inl fd))])) H locs → lv_has ls 5 [(3, .int 1), (2, .int (fd (t_9 0))), (0, .ref m0), (1, .int (nI o))] → W p l e _ s m _ below meth c H locs _ _ _ (F0 m 136 ls [])) (fun loop => loop ((150 - t_43 1) + 1) t_43 _ _ _ (by omega) ⟨by omega, by rw [show t_43 0 + t_43 1 = (t5_0 0) + 1 from by omega]; exact (scan_s (by omega) (by rw [← hta]; exact hl_40)).symm⟩ hI_t_43 G hl) ?_
            intro zm
            induction zm with
            | zero => intro t136_0 H locs ls zz q_x0 q_hI_t136_0 _ _; exact absurd zz (by omega)
            | succ zm ih136 =>
              intro t136_0 H locs ls zm_136 hx136_0 hI_t136_0 G hl
              have hO_t136_0 := hI_t136_0
              obtain ⟨ht0_t136_0, ht1_t136_0⟩ := hO_t136_0
              refine lv_iload_n zx zb dX11_lookAt_136 rfl (lv_at hl 0 rfl) ?_
              refine lv_if_eq (tgt := 215) zx zb dX11_lookAt_137 (by decide) (fun c_45 => absurd c_45 (by decide)) (fun c_45 => ?_)
              refine lv_aload_n zx zb dX11_lookAt_140 rfl (lv_at hl 2 rfl) ?_
              refine r_get (C := RX11) (T := TX11) (N := 18) (ci := 9) (v := .int (nI (t136_0 0))) S in_X11_lookAt_X11 G 0 rfl rfl 12 (by decide) lk_X11_lookAt_217 rfl dX11_lookAt_141 ?_
              refine lv_aload_n zx zb dX11_lookAt_144 rfl (lv_at hl 2 rfl) ?_
              refine r_get (C := RX11) (T := TX11) (N := 18) (ci := 9) (v := .int (nI (t136_0 1))) S in_X11_lookAt_X11 G 0 rfl rfl 13 (by decide) lk_X11_lookAt_220 rfl dX11_lookAt_145 ?_
              refine r_iadd (v := (nI ((t136_0 0) + (t136_0 1)))) S (nI_add (t136_0 0) (t136_0 1)) dX11_lookAt_148 ?_
              refine lv_aload_n zx zb dX11_lookAt_149 rfl (lv_at hl 2 rfl) ?_
              refine r_get (C := RX11) (T := TX11) (N := 18) (ci := 9) (v := .int (nI n)) S in_X11_lookAt_X11 G 0 rfl rfl 11 (by decide) lk_X11_lookAt_205 rfl dX11_lookAt_150 ?_
              refine lv_icmp_ge (tgt := 215) zx zb dX11_lookAt_153 (by decide) (fun c_46 => ?_) (fun c_46 => ?_)
              · have fc_46 := j_le (a := n) (b := ((t136_0 0) + (t136_0 1))) (by omega) (by omega) c_46
                have hEnd : t136_0 0 + t136_0 1 = scanP lqF fd n (t5_0 0) := (show t136_0 0 + t136_0 1 = t136_0 0 + t136_0 1 from by omega).trans ((scan_e (fun h => absurd h.1 (by omega))).symm.trans hx136_0.2)
                refine lv_iconst (v := 0) zx zb dX11_lookAt_215 (by decide) ?_
                refine lv_istore (lv' := [(4, .int 0), (3, .int 1), (2, .int (fd (t_9 0))), (0, .ref m0), (1, .int (nI o))]) zx zb dX11_lookAt_216 hl (by decide) rfl (fun ls hl => ?_)
                refine k_loop (P := ∀ (zm : Nat) (n218_4 : Nat) (v218_0 : Nat → Int32) (H : Heap) (locs : List Loc) (ls : Array Slot), ((2 - n218_4) < zm) → (n218_4 ≤ t136_0 1 ∧ v218_0 0 = 2 ∧ v218_0 1 = vF fd (t5_0 0) n218_4) → (n218_4 ≤ 2) → wd X (va_A (@HAppend.hAppend va_W va_W va_W _ (mW m0 ma la lb n t v) ([((ma 10), .inl (X.2.1, 150, .inl fd))])) sz) (va_A (@HAppend.hAppend va_W va_W va_W _ (mW m0 ma la lb n t v) ([((ma 10), .inl (X.2.1, 150, .inl fd))])) sz) s (@HAppend.hAppend va_W va_W va_W _ (mW m0 ma la lb n t136_0 v218_0) ([((ma 10), .inl (X.2.1, 150, .inl fd))])) H locs → lv_has ls 5 [(4, .int (nI n218_4)), (3, .int 1), (2, .int (fd (t_9 0))), (0, .ref m0), (1, .int (nI o))] → W p l e _ s m _ below meth c H locs _ _ _ (F0 m 218 ls [])) (fun loop => loop ((2 - 0) + 1) 0 v_42 _ _ _ (by omega) ⟨by omega, hE_v_42_0, hE_v_42_1.trans (hE_v_11_1)⟩ (by omega) G hl) ?_
                intro zm
                induction zm with
                | zero => intro n218_4 v218_0 H locs ls zz q_x0 q_hk_n218_4 _ _; exact absurd zz (by omega)
                | succ zm ih218 =>
                  intro n218_4 v218_0 H locs ls zm_218 hx218_0 hk_n218_4 G hl
                  refine lv_iload zx zb dX11_lookAt_218 (lv_at hl 0 rfl) ?_
                  refine lv_aload_n zx zb dX11_lookAt_220 rfl (lv_at hl 3 rfl) ?_
                  refine r_get (C := RX11) (T := TX11) (N := 18) (ci := 9) (v := .int (nI (t136_0 1))) S in_X11_lookAt_X11 G 0 rfl rfl 13 (by decide) lk_X11_lookAt_220 rfl dX11_lookAt_221 ?_
                  refine lv_icmp_ge (tgt := 274) zx zb dX11_lookAt_224 (by decide) (fun c_47 => ?_) (fun c_47 => ?_)
                  · have fc_47 := j_le (a := (t136_0 1)) (b := n218_4) (by omega) (by omega) c_47
                    refine lv_aload_n zx zb dX11_lookAt_274 rfl (lv_at hl 3 rfl) ?_
                    refine lv_aload_n zx zb dX11_lookAt_275 rfl (lv_at hl 3 rfl) ?_
                    refine r_get (C := RX11) (T := TX11) (N := 18) (ci := 9) (v := .int (v218_0 0)) S in_X11_lookAt_X11 G 0 rfl rfl 14 (by decide) lk_X11_lookAt_223 rfl dX11_lookAt_276 ?_
                    refine lv_iconst (v := 2) zx zb dX11_lookAt_279 (by decide) ?_
                    refine lv_icmp_ne (tgt := 295) zx zb dX11_lookAt_280 (by decide) (fun c_48 => absurd (hx218_0.2.1) c_48) (fun c_48 => ?_)
                    refine lv_aload_n zx zb dX11_lookAt_283 rfl (lv_at hl 3 rfl) ?_
                    refine r_get (C := RX11) (T := TX11) (N := 18) (ci := 9) (v := .int (nI (t136_0 1))) S in_X11_lookAt_X11 G 0 rfl rfl 13 (by decide) lk_X11_lookAt_220 rfl dX11_lookAt_284 ?_
                    refine lv_iconst (v := 2) zx zb dX11_lookAt_287 (by decide) ?_
                    refine lv_icmp_le (tgt := 295) zx zb dX11_lookAt_288 (by decide) (fun c_49 => ?_) (fun c_49 => ?_)
                    · have fc_49 := j_le (a := (t136_0 1)) (b := 2) (by omega) (by omega) c_49
                      refine lv_aload_n zx zb dX11_lookAt_295 rfl (lv_at hl 3 rfl) ?_
                      refine r_get (C := RX11) (T := TX11) (N := 18) (ci := 9) (v := .int (v218_0 0)) S in_X11_lookAt_X11 G 0 rfl rfl 14 (by decide) lk_X11_lookAt_223 rfl dX11_lookAt_296 ?_
                      refine r_put (C := RX11) (T := TX11) (N := 18) (ci := 9) (v := .int (v218_0 0)) S in_X11_lookAt_X11 tyX11_ok nmX11 G 0 rfl rfl 14 (by decide) lk_X11_lookAt_223 rfl (vp_nar_int _) rfl (Nat.le_of_ble_eq_true rfl) dX11_lookAt_299 (fun H locs G => ?_)
                      obtain ⟨v_50, ⟨hE_v_50_0, hE_v_50_1⟩, G⟩ : ∃ v_50 : Nat → Int32, (v_50 0 = (v218_0 0) ∧ v_50 1 = v218_0 1) ∧ wd X (va_A (@HAppend.hAppend va_W va_W va_W _ (mW m0 ma la lb n t v) ([((ma 10), .inl (X.2.1, 150, .inl fd))])) sz) (va_A (@HAppend.hAppend va_W va_W va_W _ (mW m0 ma la lb n t v) ([((ma 10), .inl (X.2.1, 150, .inl fd))])) sz) s (@HAppend.hAppend va_W va_W va_W _ (mW m0 ma la lb n t136_0 v_50) ([((ma 10), .inl (X.2.1, 150, .inl fd))])) H locs := ⟨upd v218_0 0 (v218_0 0), ⟨rfl, rfl⟩, G⟩
                      exact e_void S zr zlk G (t136_0, v_50) [0, 1] rfl rfl (Or.inr rfl) (⟨hI_t136_0, by rw [hs]; have hn : (t5_0 0) < n := (by first | omega | (dsimp only; omega)); have hc : ¬ lqL (fd (t5_0 0)) = true := (by rw [← hta]; exact hl_14); have hd : lqF (fd (t5_0 0)) = true := (by rw [← hta]; exact hl_40); exact ⟨by first | omega | (dsimp only; omega), hEnd.trans (tok_fig hn hc hd).1.symm, (hE_v_50_0.trans hx218_0.2.1).trans ((tok_fig hn hc hd).2.trans (if_pos (by first | omega | (dsimp only; omega)))).symm, fun _ => by rw [tV, (tok_fig hn hc hd).1, ← hEnd, show t136_0 0 + t136_0 1 - (t5_0 0) = n218_4 from by first | omega | (dsimp only; omega)]; exact hE_v_50_1.trans hx218_0.2.2, by first | omega | (dsimp only; omega)⟩⟩) dX11_lookAt_302
                    · have fc_49 := j_nle (a := (t136_0 1)) (b := 2) (by omega) (by omega) c_49
                      refine lv_iconst (v := 4) zx zb dX11_lookAt_291 (by decide) ?_
                      refine lv_goto (tgt := 299) zx zb dX11_lookAt_292 (by decide) ?_
                      refine r_put (C := RX11) (T := TX11) (N := 18) (ci := 9) (v := .int 4) S in_X11_lookAt_X11 tyX11_ok nmX11 G 0 rfl rfl 14 (by decide) lk_X11_lookAt_223 rfl (vp_nar_int _) rfl (Nat.le_of_ble_eq_true rfl) dX11_lookAt_299 (fun H locs G => ?_)
                      obtain ⟨v_51, ⟨hE_v_51_0, hE_v_51_1⟩, G⟩ : ∃ v_51 : Nat → Int32, (v_51 0 = 4 ∧ v_51 1 = v218_0 1) ∧ wd X (va_A (@HAppend.hAppend va_W va_W va_W _ (mW m0 ma la lb n t v) ([((ma 10), .inl (X.2.1, 150, .inl fd))])) sz) (va_A (@HAppend.hAppend va_W va_W va_W _ (mW m0 ma la lb n t v) ([((ma 10), .inl (X.2.1, 150, .inl fd))])) sz) s (@HAppend.hAppend va_W va_W va_W _ (mW m0 ma la lb n t136_0 v_51) ([((ma 10), .inl (X.2.1, 150, .inl fd))])) H locs := ⟨upd v218_0 0 4, ⟨rfl, rfl⟩, G⟩
                      exact e_void S zr zlk G (t136_0, v_51) [0, 1] rfl rfl (Or.inr rfl) (⟨hI_t136_0, by rw [hs]; have hn : (t5_0 0) < n := (by first | omega | (dsimp only; omega)); have hc : ¬ lqL (fd (t5_0 0)) = true := (by rw [← hta]; exact hl_14); have hd : lqF (fd (t5_0 0)) = true := (by rw [← hta]; exact hl_40); have h4 : tK fd n (t5_0 0) = 4 := ((tok_fig hn hc hd).2.trans (if_neg (by first | omega | (dsimp only; omega)))); exact ⟨by first | omega | (dsimp only; omega), hEnd.trans (tok_fig hn hc hd).1.symm, hE_v_51_0.trans h4.symm, fun h => absurd (h.symm.trans h4) (by decide), by first | omega | (dsimp only; omega)⟩⟩) dX11_lookAt_302
                  · have fc_47 := j_nle (a := (t136_0 1)) (b := n218_4) (by omega) (by omega) c_47
                    refine lv_iload zx zb dX11_lookAt_227 (lv_at hl 0 rfl) ?_
                    refine lv_iconst (v := 2) zx zb dX11_lookAt_229 (by decide) ?_
                    refine lv_icmp_ge (tgt := 274) zx zb dX11_lookAt_230 (by decide) (fun c_52 => ?_) (fun c_52 => ?_)
                    · have fc_52 := j_le (a := 2) (b := n218_4) (by omega) (by omega) c_52
                      refine lv_aload_n zx zb dX11_lookAt_274 rfl (lv_at hl 3 rfl) ?_
                      refine lv_aload_n zx zb dX11_lookAt_275 rfl (lv_at hl 3 rfl) ?_
                      refine r_get (C := RX11) (T := TX11) (N := 18) (ci := 9) (v := .int (v218_0 0)) S in_X11_lookAt_X11 G 0 rfl rfl 14 (by decide) lk_X11_lookAt_223 rfl dX11_lookAt_276 ?_
                      refine lv_iconst (v := 2) zx zb dX11_lookAt_279 (by decide) ?_
                      refine lv_icmp_ne (tgt := 295) zx zb dX11_lookAt_280 (by decide) (fun c_53 => absurd (hx218_0.2.1) c_53) (fun c_53 => ?_)
                      refine lv_aload_n zx zb dX11_lookAt_283 rfl (lv_at hl 3 rfl) ?_
                      refine r_get (C := RX11) (T := TX11) (N := 18) (ci := 9) (v := .int (nI (t136_0 1))) S in_X11_lookAt_X11 G 0 rfl rfl 13 (by decide) lk_X11_lookAt_220 rfl dX11_lookAt_284 ?_
                      refine lv_iconst (v := 2) zx zb dX11_lookAt_287 (by decide) ?_
                      refine lv_icmp_le (tgt := 295) zx zb dX11_lookAt_288 (by decide) (fun c_54 => ?_) (fun c_54 => ?_)
                      · have fc_54 := j_le (a := (t136_0 1)) (b := 2) (by omega) (by omega) c_54
                        refine lv_aload_n zx zb dX11_lookAt_295 rfl (lv_at hl 3 rfl) ?_
                        refine r_get (C := RX11) (T := TX11) (N := 18) (ci := 9) (v := .int (v218_0 0)) S in_X11_lookAt_X11 G 0 rfl rfl 14 (by decide) lk_X11_lookAt_223 rfl dX11_lookAt_296 ?_
                        refine r_put (C := RX11) (T := TX11) (N := 18) (ci := 9) (v := .int (v218_0 0)) S in_X11_lookAt_X11 tyX11_ok nmX11 G 0 rfl rfl 14 (by decide) lk_X11_lookAt_223 rfl (vp_nar_int _) rfl (Nat.le_of_ble_eq_true rfl) dX11_lookAt_299 (fun H locs G => ?_)
                        obtain ⟨v_55, ⟨hE_v_55_0, hE_v_55_1⟩, G⟩ : ∃ v_55 : Nat → Int32, (v_55 0 = (v218_0 0) ∧ v_55 1 = v218_0 1) ∧ wd X (va_A (@HAppend.hAppend va_W va_W va_W _ (mW m0 ma la lb n t v) ([((ma 10), .inl (X.2.1, 150, .inl fd))])) sz) (va_A (@HAppend.hAppend va_W va_W va_W _ (mW m0 ma la lb n t v) ([((ma 10), .inl (X.2.1, 150, .inl fd))])) sz) s (@HAppend.hAppend va_W va_W va_W _ (mW m0 ma la lb n t136_0 v_55) ([((ma 10), .inl (X.2.1, 150, .inl fd))])) H locs := ⟨upd v218_0 0 (v218_0 0), ⟨rfl, rfl⟩, G⟩
                        exact e_void S zr zlk G (t136_0, v_55) [0, 1] rfl rfl (Or.inr rfl) (⟨hI_t136_0, by rw [hs]; have hn : (t5_0 0) < n := (by first | omega | (dsimp only; omega)); have hc : ¬ lqL (fd (t5_0 0)) = true := (by rw [← hta]; exact hl_14); have hd : lqF (fd (t5_0 0)) = true := (by rw [← hta]; exact hl_40); exact ⟨by first | omega | (dsimp only; omega), hEnd.trans (tok_fig hn hc hd).1.symm, (hE_v_55_0.trans hx218_0.2.1).trans ((tok_fig hn hc hd).2.trans (if_pos (by first | omega | (dsimp only; omega)))).symm, fun _ => by rw [tV, (tok_fig hn hc hd).1, ← hEnd, show t136_0 0 + t136_0 1 - (t5_0 0) = n218_4 from by first | omega | (dsimp only; omega)]; exact hE_v_55_1.trans hx218_0.2.2, by first | omega | (dsimp only; omega)⟩⟩) dX11_lookAt_302
                      · have fc_54 := j_nle (a := (t136_0 1)) (b := 2) (by omega) (by omega) c_54
                        refine lv_iconst (v := 4) zx zb dX11_lookAt_291 (by decide) ?_
                        refine lv_goto (tgt := 299) zx zb dX11_lookAt_292 (by decide) ?_
                        refine r_put (C := RX11) (T := TX11) (N := 18) (ci := 9) (v := .int 4) S in_X11_lookAt_X11 tyX11_ok nmX11 G 0 rfl rfl 14 (by decide) lk_X11_lookAt_223 rfl (vp_nar_int _) rfl (Nat.le_of_ble_eq_true rfl) dX11_lookAt_299 (fun H locs G => ?_)
                        obtain ⟨v_56, ⟨hE_v_56_0, hE_v_56_1⟩, G⟩ : ∃ v_56 : Nat → Int32, (v_56 0 = 4 ∧ v_56 1 = v218_0 1) ∧ wd X (va_A (@HAppend.hAppend va_W va_W va_W _ (mW m0 ma la lb n t v) ([((ma 10), .inl (X.2.1, 150, .inl fd))])) sz) (va_A (@HAppend.hAppend va_W va_W va_W _ (mW m0 ma la lb n t v) ([((ma 10), .inl (X.2.1, 150, .inl fd))])) sz) s (@HAppend.hAppend va_W va_W va_W _ (mW m0 ma la lb n t136_0 v_56) ([((ma 10), .inl (X.2.1, 150, .inl fd))])) H locs := ⟨upd v218_0 0 4, ⟨rfl, rfl⟩, G⟩
                        exact e_void S zr zlk G (t136_0, v_56) [0, 1] rfl rfl (Or.inr rfl) (⟨hI_t136_0, by rw [hs]; have hn : (t5_0 0) < n := (by first | omega | (dsimp only; omega)); have hc : ¬ lqL (fd (t5_0 0)) = true := (by rw [← hta]; exact hl_14); have hd : lqF (fd (t5_0 0)) = true := (by rw [← hta]; exact hl_40); have h4 : tK fd n (t5_0 0) = 4 := ((tok_fig hn hc hd).2.trans (if_neg (by first | omega | (dsimp only; omega)))); exact ⟨by first | omega | (dsimp only; omega), hEnd.trans (tok_fig hn hc hd).1.symm, hE_v_56_0.trans h4.symm, fun h => absurd (h.symm.trans h4) (by decide), by first | omega | (dsimp only; omega)⟩⟩) dX11_lookAt_302
                    · have fc_52 := j_nle (a := 2) (b := n218_4) (by omega) (by omega) c_52
                      refine lv_aload_n zx zb dX11_lookAt_233 rfl (lv_at hl 3 rfl) ?_
                      refine r_get (C := RX11) (T := TX11) (N := 18) (ci := 9) (v := .int (v218_0 0)) S in_X11_lookAt_X11 G 0 rfl rfl 14 (by decide) lk_X11_lookAt_223 rfl dX11_lookAt_234 ?_
                      refine lv_iconst (v := 2) zx zb dX11_lookAt_237 (by decide) ?_
                      refine lv_icmp_ne (tgt := 274) zx zb dX11_lookAt_238 (by decide) (fun c_57 => absurd (hx218_0.2.1) c_57) (fun c_57 => ?_)
                      refine lv_aload_n zx zb dX11_lookAt_241 rfl (lv_at hl 3 rfl) ?_
                      refine lv_bipush (v := 10) zx zb dX11_lookAt_242 (by decide) ?_
                      refine lv_aload_n zx zb dX11_lookAt_244 rfl (lv_at hl 3 rfl) ?_
                      refine r_get (C := RX11) (T := TX11) (N := 18) (ci := 9) (v := .int (v218_0 1)) S in_X11_lookAt_X11 G 0 rfl rfl 15 (by decide) lk_X11_lookAt_226 rfl dX11_lookAt_245 ?_
                      refine r_imul (v := (10 * (v218_0 1))) S rfl dX11_lookAt_248 ?_
                      refine lv_aload_n zx zb dX11_lookAt_249 rfl (lv_at hl 3 rfl) ?_
                      refine r_get (C := RX11) (T := TX11) (N := 18) (ci := 9) (v := .ref (ma 10)) S in_X11_lookAt_X11 G 0 rfl rfl 10 (by decide) lk_X11_lookAt_39 rfl dX11_lookAt_250 ?_
                      refine lv_aload_n zx zb dX11_lookAt_253 rfl (lv_at hl 3 rfl) ?_
                      refine r_get (C := RX11) (T := TX11) (N := 18) (ci := 9) (v := .int (nI (t136_0 0))) S in_X11_lookAt_X11 G 0 rfl rfl 12 (by decide) lk_X11_lookAt_217 rfl dX11_lookAt_254 ?_
                      refine lv_iload zx zb dX11_lookAt_257 (lv_at hl 0 rfl) ?_
                      refine r_iadd (v := (nI ((t136_0 0) + n218_4))) S (nI_add (t136_0 0) n218_4) dX11_lookAt_259 ?_
                      refine r_iald (v := (fd ((t136_0 0) + n218_4))) S G 1 rfl (vp_in_nI (by omega) (by decide)) (congrArg fd (nI_clamp (by omega))) dX11_lookAt_260 ?_
                      refine r_iadd (v := ((10 * (v218_0 1)) + (fd ((t136_0 0) + n218_4)))) S rfl dX11_lookAt_261 ?_
                      refine lv_bipush (v := 48) zx zb dX11_lookAt_262 (by decide) ?_
                      refine r_isub (v := (((10 * (v218_0 1)) + (fd ((t136_0 0) + n218_4))) - 48)) S rfl dX11_lookAt_264 ?_
                      refine r_put (C := RX11) (T := TX11) (N := 18) (ci := 9) (v := .int (((10 * (v218_0 1)) + (fd ((t136_0 0) + n218_4))) - 48)) S in_X11_lookAt_X11 tyX11_ok nmX11 G 0 rfl rfl 15 (by decide) lk_X11_lookAt_226 rfl (vp_nar_int _) rfl (Nat.le_of_ble_eq_true rfl) dX11_lookAt_265 (fun H locs G => ?_)
                      obtain ⟨v_59, ⟨hE_v_59_1, hE_v_59_0⟩, G⟩ : ∃ v_59 : Nat → Int32, (v_59 1 = (((10 * (v218_0 1)) + (fd ((t136_0 0) + n218_4))) - 48) ∧ v_59 0 = v218_0 0) ∧ wd X (va_A (@HAppend.hAppend va_W va_W va_W _ (mW m0 ma la lb n t v) ([((ma 10), .inl (X.2.1, 150, .inl fd))])) sz) (va_A (@HAppend.hAppend va_W va_W va_W _ (mW m0 ma la lb n t v) ([((ma 10), .inl (X.2.1, 150, .inl fd))])) sz) s (@HAppend.hAppend va_W va_W va_W _ (mW m0 ma la lb n t136_0 v_59) ([((ma 10), .inl (X.2.1, 150, .inl fd))])) H locs := ⟨upd v218_0 1 (((10 * (v218_0 1)) + (fd ((t136_0 0) + n218_4))) - 48), ⟨rfl, rfl⟩, G⟩
                      refine lv_iinc (v := (nI (n218_4 + 1))) (lv' := [(4, .int (nI (n218_4 + 1))), (3, .int 1), (2, .int (fd (t_9 0))), (0, .ref m0), (1, .int (nI o))]) zx zb dX11_lookAt_268 hl (k := 0) rfl (nI_add n218_4 1) (by decide) rfl (fun ls hl => ?_)
                      refine lv_goto (tgt := 218) zx zb dX11_lookAt_271 (by decide) ?_
                      exact ih218 (n218_4 + 1) v_59 _ _ _ (by omega) ⟨by omega, hE_v_59_0.trans hx218_0.2.1, hE_v_59_1.trans (by rw [hx218_0.2.2, show t136_0 0 + n218_4 = (t5_0 0) + n218_4 from by omega]; first | done | rfl)⟩ (by omega) G hl
              · have fc_46 := j_nle (a := n) (b := ((t136_0 0) + (t136_0 1))) (by omega) (by omega) c_46
                refine lv_aload_n zx zb dX11_lookAt_156 rfl (lv_at hl 2 rfl) ?_
                refine r_get (C := RX11) (T := TX11) (N := 18) (ci := 9) (v := .ref (ma 10)) S in_X11_lookAt_X11 G 0 rfl rfl 10 (by decide) lk_X11_lookAt_39 rfl dX11_lookAt_157 ?_
                refine lv_aload_n zx zb dX11_lookAt_160 rfl (lv_at hl 2 rfl) ?_
                refine r_get (C := RX11) (T := TX11) (N := 18) (ci := 9) (v := .int (nI (t136_0 0))) S in_X11_lookAt_X11 G 0 rfl rfl 12 (by decide) lk_X11_lookAt_217 rfl dX11_lookAt_161 ?_
                refine lv_aload_n zx zb dX11_lookAt_164 rfl (lv_at hl 2 rfl) ?_
                refine r_get (C := RX11) (T := TX11) (N := 18) (ci := 9) (v := .int (nI (t136_0 1))) S in_X11_lookAt_X11 G 0 rfl rfl 13 (by decide) lk_X11_lookAt_220 rfl dX11_lookAt_165 ?_
                refine r_iadd (v := (nI ((t136_0 0) + (t136_0 1)))) S (nI_add (t136_0 0) (t136_0 1)) dX11_lookAt_168 ?_
                refine r_iald (v := (fd ((t136_0 0) + (t136_0 1)))) S G 1 rfl (vp_in_nI (by omega) (by decide)) (congrArg fd (nI_clamp (by omega))) dX11_lookAt_169 ?_
                refine lv_istore (lv' := [(4, .int (fd ((t136_0 0) + (t136_0 1)))), (3, .int 1), (2, .int (fd (t_9 0))), (0, .ref m0), (1, .int (nI o))]) zx zb dX11_lookAt_170 hl (by decide) rfl (fun ls hl => ?_)
                refine lv_aload_n zx zb dX11_lookAt_172 rfl (lv_at hl 3 rfl) ?_
                refine r_get (C := RX11) (T := TX11) (N := 18) (ci := 9) (v := .int (v_42 0)) S in_X11_lookAt_X11 G 0 rfl rfl 14 (by decide) lk_X11_lookAt_223 rfl dX11_lookAt_173 ?_
                refine lv_iconst (v := 1) zx zb dX11_lookAt_176 (by decide) ?_
                refine lv_icmp_ne (tgt := 188) zx zb dX11_lookAt_177 (by decide) (fun c_61 => ?_) (fun c_61 => absurd c_61 (by rw [hE_v_42_0]; decide))
                refine lv_iload zx zb dX11_lookAt_188 (lv_at hl 0 rfl) ?_
                refine o_ri (cells' := 0) (slots' := 0) G rfl rfl (n_S (As := [.int (fd ((t136_0 0) + (t136_0 1)))]) (rest := []) S G (y_isFigure l X (fd ((t136_0 0) + (t136_0 1))) H.size) gX11_lookAt_X11_isFigure rfl rfl rfl hdS_X11_isFigure ⟨Nat.le_of_ble_eq_true rfl, Nat.le_of_ble_eq_true rfl⟩ [] rfl rfl rfl hl.1 (Nat.le_of_ble_eq_true rfl) dX11_lookAt_190 ⟨Nat.le_of_ble_eq_true rfl, Nat.le_of_ble_eq_true rfl⟩) (fun r_62 u_62 H locs hp_62 G => ?_)
                have G : wd X (va_A (@HAppend.hAppend va_W va_W va_W _ (mW m0 ma la lb n t v) ([((ma 10), .inl (X.2.1, 150, .inl fd))])) sz) (va_A (@HAppend.hAppend va_W va_W va_W _ (mW m0 ma la lb n t v) ([((ma 10), .inl (X.2.1, 150, .inl fd))])) sz) s (@HAppend.hAppend va_W va_W va_W _ (mW m0 ma la lb n t136_0 v_42) ([((ma 10), .inl (X.2.1, 150, .inl fd))])) H locs := G
                rcases hp_62 with ⟨rfl, hl_62⟩ | ⟨rfl, hl_62⟩
                · refine lv_istore_n (lv' := [(3, .int 1), (4, .int (fd ((t136_0 0) + (t136_0 1)))), (2, .int (fd (t_9 0))), (0, .ref m0), (1, .int (nI o))]) zx zb dX11_lookAt_193 rfl hl (by decide) rfl (fun ls hl => ?_)
                  refine lv_aload_n zx zb dX11_lookAt_194 rfl (lv_at hl 3 rfl) ?_
                  refine lv_dup zx zb dX11_lookAt_195 rfl ?_
                  refine r_get (C := RX11) (T := TX11) (N := 18) (ci := 9) (v := .int (nI (t136_0 1))) S in_X11_lookAt_X11 G 0 rfl rfl 13 (by decide) lk_X11_lookAt_220 rfl dX11_lookAt_196 ?_
                  refine lv_iload_n zx zb dX11_lookAt_199 rfl (lv_at hl 0 rfl) ?_
                  refine lv_if_eq (tgt := 207) zx zb dX11_lookAt_200 (by decide) (fun c_63 => absurd c_63 (by decide)) (fun c_63 => ?_)
                  refine lv_iconst (v := 1) zx zb dX11_lookAt_203 (by decide) ?_
                  refine lv_goto (tgt := 208) zx zb dX11_lookAt_204 (by decide) ?_
                  refine r_iadd (v := (nI ((t136_0 1) + 1))) S (nI_add (t136_0 1) 1) dX11_lookAt_208 ?_
                  refine r_put (C := RX11) (T := TX11) (N := 18) (ci := 9) (v := .int (nI ((t136_0 1) + 1))) S in_X11_lookAt_X11 tyX11_ok nmX11 G 0 rfl rfl 13 (by decide) lk_X11_lookAt_220 rfl (vp_nar_int _) rfl (Nat.le_of_ble_eq_true rfl) dX11_lookAt_209 (fun H locs G => ?_)
                  obtain ⟨t_64, hI_t_64, ⟨hE_t_64_1, hE_t_64_0⟩, G⟩ : ∃ t_64 : Nat → Nat, InT t_64 ∧ (t_64 1 = ((t136_0 1) + 1) ∧ t_64 0 = t136_0 0) ∧ wd X (va_A (@HAppend.hAppend va_W va_W va_W _ (mW m0 ma la lb n t v) ([((ma 10), .inl (X.2.1, 150, .inl fd))])) sz) (va_A (@HAppend.hAppend va_W va_W va_W _ (mW m0 ma la lb n t v) ([((ma 10), .inl (X.2.1, 150, .inl fd))])) sz) s (@HAppend.hAppend va_W va_W va_W _ (mW m0 ma la lb n t_64 v_42) ([((ma 10), .inl (X.2.1, 150, .inl fd))])) H locs := ⟨upN t136_0 1 ((t136_0 1) + 1), ⟨ht0_t136_0, (by show ((t136_0 1) + 1) ≤ 150; omega)⟩, ⟨rfl, rfl⟩, G⟩
                  have hO_t_64 := hI_t_64
                  obtain ⟨ht0_t_64, ht1_t_64⟩ := hO_t_64
                  refine lv_goto (tgt := 136) zx zb dX11_lookAt_212 (by decide) ?_
                  have hl := lv_sub hl (l' := [(3, .int 1), (2, .int (fd (t_9 0))), (0, .ref m0), (1, .int (nI o))]) [0, 2, 3, 4] rfl
                  exact ih136 t_64 _ _ _ (by omega) ⟨by omega, by rw [show t_64 0 + t_64 1 = (t136_0 0 + t136_0 1) + 1 from by omega, ← scan_s (by omega) hl_62]; exact hx136_0.2⟩ hI_t_64 G hl
                · refine lv_istore_n (lv' := [(3, .int 0), (4, .int (fd ((t136_0 0) + (t136_0 1)))), (2, .int (fd (t_9 0))), (0, .ref m0), (1, .int (nI o))]) zx zb dX11_lookAt_193 rfl hl (by decide) rfl (fun ls hl => ?_)
                  refine lv_aload_n zx zb dX11_lookAt_194 rfl (lv_at hl 3 rfl) ?_
                  refine lv_dup zx zb dX11_lookAt_195 rfl ?_
                  refine r_get (C := RX11) (T := TX11) (N := 18) (ci := 9) (v := .int (nI (t136_0 1))) S in_X11_lookAt_X11 G 0 rfl rfl 13 (by decide) lk_X11_lookAt_220 rfl dX11_lookAt_196 ?_
                  refine lv_iload_n zx zb dX11_lookAt_199 rfl (lv_at hl 0 rfl) ?_
                  refine lv_if_eq (tgt := 207) zx zb dX11_lookAt_200 (by decide) (fun c_65 => ?_) (fun c_65 => absurd (by decide) c_65)
                  refine lv_iconst (v := 0) zx zb dX11_lookAt_207 (by decide) ?_
                  refine r_iadd (v := (nI ((t136_0 1) + 0))) S (nI_add (t136_0 1) 0) dX11_lookAt_208 ?_
                  refine r_put (C := RX11) (T := TX11) (N := 18) (ci := 9) (v := .int (nI ((t136_0 1) + 0))) S in_X11_lookAt_X11 tyX11_ok nmX11 G 0 rfl rfl 13 (by decide) lk_X11_lookAt_220 rfl (vp_nar_int _) rfl (Nat.le_of_ble_eq_true rfl) dX11_lookAt_209 (fun H locs G => ?_)
                  obtain ⟨t_66, hI_t_66, ⟨hE_t_66_1, hE_t_66_0⟩, G⟩ : ∃ t_66 : Nat → Nat, InT t_66 ∧ (t_66 1 = ((t136_0 1) + 0) ∧ t_66 0 = t136_0 0) ∧ wd X (va_A (@HAppend.hAppend va_W va_W va_W _ (mW m0 ma la lb n t v) ([((ma 10), .inl (X.2.1, 150, .inl fd))])) sz) (va_A (@HAppend.hAppend va_W va_W va_W _ (mW m0 ma la lb n t v) ([((ma 10), .inl (X.2.1, 150, .inl fd))])) sz) s (@HAppend.hAppend va_W va_W va_W _ (mW m0 ma la lb n t_66 v_42) ([((ma 10), .inl (X.2.1, 150, .inl fd))])) H locs := ⟨upN t136_0 1 ((t136_0 1) + 0), ⟨ht0_t136_0, (by show ((t136_0 1) + 0) ≤ 150; omega)⟩, ⟨rfl, rfl⟩, G⟩
                  have hO_t_66 := hI_t_66
                  obtain ⟨ht0_t_66, ht1_t_66⟩ := hO_t_66
                  refine lv_goto (tgt := 136) zx zb dX11_lookAt_212 (by decide) ?_
                  refine lv_iload_n zx zb dX11_lookAt_136 rfl (lv_at hl 0 rfl) ?_
                  refine lv_if_eq (tgt := 215) zx zb dX11_lookAt_137 (by decide) (fun c_67 => ?_) (fun c_67 => absurd (by decide) c_67)
                  have hEnd : t_66 0 + t_66 1 = scanP lqF fd n (t5_0 0) := (show t_66 0 + t_66 1 = t136_0 0 + t136_0 1 from by omega).trans ((scan_e (fun h => hl_62 h.2)).symm.trans hx136_0.2)
                  refine lv_iconst (v := 0) zx zb dX11_lookAt_215 (by decide) ?_
                  refine lv_istore (lv' := [(4, .int 0), (3, .int 0), (2, .int (fd (t_9 0))), (0, .ref m0), (1, .int (nI o))]) zx zb dX11_lookAt_216 hl (by decide) rfl (fun ls hl => ?_)
                  refine k_loop (P := ∀ (zm : Nat) (n218_4 : Nat) (v218_0 : Nat → Int32) (H : Heap) (locs : List Loc) (ls : Array Slot), ((2 - n218_4) < zm) → (n218_4 ≤ t_66 1 ∧ v218_0 0 = 2 ∧ v218_0 1 = vF fd (t5_0 0) n218_4) → (n218_4 ≤ 2) → wd X (va_A (@HAppend.hAppend va_W va_W va_W _ (mW m0 ma la lb n t v) ([((ma 10), .inl (X.2.1, 150, .inl fd))])) sz) (va_A (@HAppend.hAppend va_W va_W va_W _ (mW m0 ma la lb n t v) ([((ma 10), .inl (X.2.1, 150, .inl fd))])) sz) s (@HAppend.hAppend va_W va_W va_W _ (mW m0 ma la lb n t_66 v218_0) ([((ma 10), .inl (X.2.1, 150, .inl fd))])) H locs → lv_has ls 5 [(4, .int (nI n218_4)), (3, .int 0), (2, .int (fd (t_9 0))), (0, .ref m0), (1, .int (nI o))] → W p l e _ s m _ below meth c H locs _ _ _ (F0 m 218 ls [])) (fun loop => loop ((2 - 0) + 1) 0 v_42 _ _ _ (by omega) ⟨by omega, hE_v_42_0, hE_v_42_1.trans (hE_v_11_1)⟩ (by omega) G hl) ?_
                  intro zm
                  induction zm with
                  | zero => intro n218_4 v218_0 H locs ls zz q_x0 q_hk_n218_4 _ _; exact absurd zz (by omega)
                  | succ zm ih218 =>
                    intro n218_4 v218_0 H locs ls zm_218 hx218_0 hk_n218_4 G hl
                    refine lv_iload zx zb dX11_lookAt_218 (lv_at hl 0 rfl) ?_
                    refine lv_aload_n zx zb dX11_lookAt_220 rfl (lv_at hl 3 rfl) ?_
                    refine r_get (C := RX11) (T := TX11) (N := 18) (ci := 9) (v := .int (nI (t_66 1))) S in_X11_lookAt_X11 G 0 rfl rfl 13 (by decide) lk_X11_lookAt_220 rfl dX11_lookAt_221 ?_
                    refine lv_icmp_ge (tgt := 274) zx zb dX11_lookAt_224 (by decide) (fun c_68 => ?_) (fun c_68 => ?_)
                    · have fc_68 := j_le (a := (t_66 1)) (b := n218_4) (by omega) (by omega) c_68
                      refine lv_aload_n zx zb dX11_lookAt_274 rfl (lv_at hl 3 rfl) ?_
                      refine lv_aload_n zx zb dX11_lookAt_275 rfl (lv_at hl 3 rfl) ?_
                      refine r_get (C := RX11) (T := TX11) (N := 18) (ci := 9) (v := .int (v218_0 0)) S in_X11_lookAt_X11 G 0 rfl rfl 14 (by decide) lk_X11_lookAt_223 rfl dX11_lookAt_276 ?_
                      refine lv_iconst (v := 2) zx zb dX11_lookAt_279 (by decide) ?_
                      refine lv_icmp_ne (tgt := 295) zx zb dX11_lookAt_280 (by decide) (fun c_69 => absurd (hx218_0.2.1) c_69) (fun c_69 => ?_)
                      refine lv_aload_n zx zb dX11_lookAt_283 rfl (lv_at hl 3 rfl) ?_
                      refine r_get (C := RX11) (T := TX11) (N := 18) (ci := 9) (v := .int (nI (t_66 1))) S in_X11_lookAt_X11 G 0 rfl rfl 13 (by decide) lk_X11_lookAt_220 rfl dX11_lookAt_284 ?_
                      refine lv_iconst (v := 2) zx zb dX11_lookAt_287 (by decide) ?_
                      refine lv_icmp_le (tgt := 295) zx zb dX11_lookAt_288 (by decide) (fun c_70 => ?_) (fun c_70 => ?_)
                      · have fc_70 := j_le (a := (t_66 1)) (b := 2) (by omega) (by omega) c_70
                        refine lv_aload_n zx zb dX11_lookAt_295 rfl (lv_at hl 3 rfl) ?_
                        refine r_get (C := RX11) (T := TX11) (N := 18) (ci := 9) (v := .int (v218_0 0)) S in_X11_lookAt_X11 G 0 rfl rfl 14 (by decide) lk_X11_lookAt_223 rfl dX11_lookAt_296 ?_
                        refine r_put (C := RX11) (T := TX11) (N := 18) (ci := 9) (v := .int (v218_0 0)) S in_X11_lookAt_X11 tyX11_ok nmX11 G 0 rfl rfl 14 (by decide) lk_X11_lookAt_223 rfl (vp_nar_int _) rfl (Nat.le_of_ble_eq_true rfl) dX11_lookAt_299 (fun H locs G => ?_)
                        obtain ⟨v_71, ⟨hE_v_71_0, hE_v_71_1⟩, G⟩ : ∃ v_71 : Nat → Int32, (v_71 0 = (v218_0 0) ∧ v_71 1 = v218_0 1) ∧ wd X (va_A (@HAppend.hAppend va_W va_W va_W _ (mW m0 ma la lb n t v) ([((ma 10), .inl (X.2.1, 150, .inl fd))])) sz) (va_A (@HAppend.hAppend va_W va_W va_W _ (mW m0 ma la lb n t v) ([((ma 10), .inl (X.2.1, 150, .inl fd))])) sz) s (@HAppend.hAppend va_W va_W va_W _ (mW m0 ma la lb n t_66 v_71) ([((ma 10), .inl (X.2.1, 150, .inl fd))])) H locs := ⟨upd v218_0 0 (v218_0 0), ⟨rfl, rfl⟩, G⟩
                        exact e_void S zr zlk G (t_66, v_71) [0, 1] rfl rfl (Or.inr rfl) (⟨hI_t_66, by rw [hs]; have hn : (t5_0 0) < n := (by first | omega | (dsimp only; omega)); have hc : ¬ lqL (fd (t5_0 0)) = true := (by rw [← hta]; exact hl_14); have hd : lqF (fd (t5_0 0)) = true := (by rw [← hta]; exact hl_40); exact ⟨by first | omega | (dsimp only; omega), hEnd.trans (tok_fig hn hc hd).1.symm, (hE_v_71_0.trans hx218_0.2.1).trans ((tok_fig hn hc hd).2.trans (if_pos (by first | omega | (dsimp only; omega)))).symm, fun _ => by rw [tV, (tok_fig hn hc hd).1, ← hEnd, show t_66 0 + t_66 1 - (t5_0 0) = n218_4 from by first | omega | (dsimp only; omega)]; exact hE_v_71_1.trans hx218_0.2.2, by first | omega | (dsimp only; omega)⟩⟩) dX11_lookAt_302
                      · have fc_70 := j_nle (a := (t_66 1)) (b := 2) (by omega) (by omega) c_70
                        refine lv_iconst (v := 4) zx zb dX11_lookAt_291 (by decide) ?_
                        refine lv_goto (tgt := 299) zx zb dX11_lookAt_292 (by decide) ?_
                        refine r_put (C := RX11) (T := TX11) (N := 18) (ci := 9) (v := .int 4) S in_X11_lookAt_X11 tyX11_ok nmX11 G 0 rfl rfl 14 (by decide) lk_X11_lookAt_223 rfl (vp_nar_int _) rfl (Nat.le_of_ble_eq_true rfl) dX11_lookAt_299 (fun H locs G => ?_)
                        obtain ⟨v_72, ⟨hE_v_72_0, hE_v_72_1⟩, G⟩ : ∃ v_72 : Nat → Int32, (v_72 0 = 4 ∧ v_72 1 = v218_0 1) ∧ wd X (va_A (@HAppend.hAppend va_W va_W va_W _ (mW m0 ma la lb n t v) ([((ma 10), .inl (X.2.1, 150, .inl fd))])) sz) (va_A (@HAppend.hAppend va_W va_W va_W _ (mW m0 ma la lb n t v) ([((ma 10), .inl (X.2.1, 150, .inl fd))])) sz) s (@HAppend.hAppend va_W va_W va_W _ (mW m0 ma la lb n t_66 v_72) ([((ma 10), .inl (X.2.1, 150, .inl fd))])) H locs := ⟨upd v218_0 0 4, ⟨rfl, rfl⟩, G⟩
                        exact e_void S zr zlk G (t_66, v_72) [0, 1] rfl rfl (Or.inr rfl) (⟨hI_t_66, by rw [hs]; have hn : (t5_0 0) < n := (by first | omega | (dsimp only; omega)); have hc : ¬ lqL (fd (t5_0 0)) = true := (by rw [← hta]; exact hl_14); have hd : lqF (fd (t5_0 0)) = true := (by rw [← hta]; exact hl_40); have h4 : tK fd n (t5_0 0) = 4 := ((tok_fig hn hc hd).2.trans (if_neg (by first | omega | (dsimp only; omega)))); exact ⟨by first | omega | (dsimp only; omega), hEnd.trans (tok_fig hn hc hd).1.symm, hE_v_72_0.trans h4.symm, fun h => absurd (h.symm.trans h4) (by decide), by first | omega | (dsimp only; omega)⟩⟩) dX11_lookAt_302
                    · have fc_68 := j_nle (a := (t_66 1)) (b := n218_4) (by omega) (by omega) c_68
                      refine lv_iload zx zb dX11_lookAt_227 (lv_at hl 0 rfl) ?_
                      refine lv_iconst (v := 2) zx zb dX11_lookAt_229 (by decide) ?_
                      refine lv_icmp_ge (tgt := 274) zx zb dX11_lookAt_230 (by decide) (fun c_73 => ?_) (fun c_73 => ?_)
                      · have fc_73 := j_le (a := 2) (b := n218_4) (by omega) (by omega) c_73
                        refine lv_aload_n zx zb dX11_lookAt_274 rfl (lv_at hl 3 rfl) ?_
                        refine lv_aload_n zx zb dX11_lookAt_275 rfl (lv_at hl 3 rfl) ?_
                        refine r_get (C := RX11) (T := TX11) (N := 18) (ci := 9) (v := .int (v218_0 0)) S in_X11_lookAt_X11 G 0 rfl rfl 14 (by decide) lk_X11_lookAt_223 rfl dX11_lookAt_276 ?_
                        refine lv_iconst (v := 2) zx zb dX11_lookAt_279 (by decide) ?_
                        refine lv_icmp_ne (tgt := 295) zx zb dX11_lookAt_280 (by decide) (fun c_74 => absurd (hx218_0.2.1) c_74) (fun c_74 => ?_)
                        refine lv_aload_n zx zb dX11_lookAt_283 rfl (lv_at hl 3 rfl) ?_
                        refine r_get (C := RX11) (T := TX11) (N := 18) (ci := 9) (v := .int (nI (t_66 1))) S in_X11_lookAt_X11 G 0 rfl rfl 13 (by decide) lk_X11_lookAt_220 rfl dX11_lookAt_284 ?_
                        refine lv_iconst (v := 2) zx zb dX11_lookAt_287 (by decide) ?_
                        refine lv_icmp_le (tgt := 295) zx zb dX11_lookAt_288 (by decide) (fun c_75 => ?_) (fun c_75 => ?_)
                        · have fc_75 := j_le (a := (t_66 1)) (b := 2) (by omega) (by omega) c_75
                          refine lv_aload_n zx zb dX11_lookAt_295 rfl (lv_at hl 3 rfl) ?_
                          refine r_get (C := RX11) (T := TX11) (N := 18) (ci := 9) (v := .int (v218_0 0)) S in_X11_lookAt_X11 G 0 rfl rfl 14 (by decide) lk_X11_lookAt_223 rfl dX11_lookAt_296 ?_
                          refine r_put (C := RX11) (T := TX11) (N := 18) (ci := 9) (v := .int (v218_0 0)) S in_X11_lookAt_X11 tyX11_ok nmX11 G 0 rfl rfl 14 (by decide) lk_X11_lookAt_223 rfl (vp_nar_int _) rfl (Nat.le_of_ble_eq_true rfl) dX11_lookAt_299 (fun H locs G => ?_)
                          obtain ⟨v_76, ⟨hE_v_76_0, hE_v_76_1⟩, G⟩ : ∃ v_76 : Nat → Int32, (v_76 0 = (v218_0 0) ∧ v_76 1 = v218_0 1) ∧ wd X (va_A (@HAppend.hAppend va_W va_W va_W _ (mW m0 ma la lb n t v) ([((ma 10), .inl (X.2.1, 150, .inl fd))])) sz) (va_A (@HAppend.hAppend va_W va_W va_W _ (mW m0 ma la lb n t v) ([((ma 10), .inl (X.2.1, 150, .inl fd))])) sz) s (@HAppend.hAppend va_W va_W va_W _ (mW m0 ma la lb n t_66 v_76) ([((ma 10), .inl (X.2.1, 150, .inl fd))])) H locs := ⟨upd v218_0 0 (v218_0 0), ⟨rfl, rfl⟩, G⟩
                          exact e_void S zr zlk G (t_66, v_76) [0, 1] rfl rfl (Or.inr rfl) (⟨hI_t_66, by rw [hs]; have hn : (t5_0 0) < n := (by first | omega | (dsimp only; omega)); have hc : ¬ lqL (fd (t5_0 0)) = true := (by rw [← hta]; exact hl_14); have hd : lqF (fd (t5_0 0)) = true := (by rw [← hta]; exact hl_40); exact ⟨by first | omega | (dsimp only; omega), hEnd.trans (tok_fig hn hc hd).1.symm, (hE_v_76_0.trans hx218_0.2.1).trans ((tok_fig hn hc hd).2.trans (if_pos (by first | omega | (dsimp only; omega)))).symm, fun _ => by rw [tV, (tok_fig hn hc hd).1, ← hEnd, show t_66 0 + t_66 1 - (t5_0 0) = n218_4 from by first | omega | (dsimp only; omega)]; exact hE_v_76_1.trans hx218_0.2.2, by first | omega | (dsimp only; omega)⟩⟩) dX11_lookAt_302
                        · have fc_75 := j_nle (a := (t_66 1)) (b := 2) (by omega) (by omega) c_75
                          refine lv_iconst (v := 4) zx zb dX11_lookAt_291 (by decide) ?_
                          refine lv_goto (tgt := 299) zx zb dX11_lookAt_292 (by decide) ?_
                          refine r_put (C := RX11) (T := TX11) (N := 18) (ci := 9) (v := .int 4) S in_X11_lookAt_X11 tyX11_ok nmX11 G 0 rfl rfl 14 (by decide) lk_X11_lookAt_223 rfl (vp_nar_int _) rfl (Nat.le_of_ble_eq_true rfl) dX11_lookAt_299 (fun H locs G => ?_)
                          obtain ⟨v_77, ⟨hE_v_77_0, hE_v_77_1⟩, G⟩ : ∃ v_77 : Nat → Int32, (v_77 0 = 4 ∧ v_77 1 = v218_0 1) ∧ wd X (va_A (@HAppend.hAppend va_W va_W va_W _ (mW m0 ma la lb n t v) ([((ma 10), .inl (X.2.1, 150, .inl fd))])) sz) (va_A (@HAppend.hAppend va_W va_W va_W _ (mW m0 ma la lb n t v) ([((ma 10), .inl (X.2.1, 150, .inl fd))])) sz) s (@HAppend.hAppend va_W va_W va_W _ (mW m0 ma la lb n t_66 v_77) ([((ma 10), .inl (X.2.1, 150, .inl fd))])) H locs := ⟨upd v218_0 0 4, ⟨rfl, rfl⟩, G⟩
                          exact e_void S zr zlk G (t_66, v_77) [0, 1] rfl rfl (Or.inr rfl) (⟨hI_t_66, by rw [hs]; have hn : (t5_0 0) < n := (by first | omega | (dsimp only; omega)); have hc : ¬ lqL (fd (t5_0 0)) = true := (by rw [← hta]; exact hl_14); have hd : lqF (fd (t5_0 0)) = true := (by rw [← hta]; exact hl_40); have h4 : tK fd n (t5_0 0) = 4 := ((tok_fig hn hc hd).2.trans (if_neg (by first | omega | (dsimp only; omega)))); exact ⟨by first | omega | (dsimp only; omega), hEnd.trans (tok_fig hn hc hd).1.symm, hE_v_77_0.trans h4.symm, fun h => absurd (h.symm.trans h4) (by decide), by first | omega | (dsimp only; omega)⟩⟩) dX11_lookAt_302
                      · have fc_73 := j_nle (a := 2) (b := n218_4) (by omega) (by omega) c_73
                        refine lv_aload_n zx zb dX11_lookAt_233 rfl (lv_at hl 3 rfl) ?_
                        refine r_get (C := RX11) (T := TX11) (N := 18) (ci := 9) (v := .int (v218_0 0)) S in_X11_lookAt_X11 G 0 rfl rfl 14 (by decide) lk_X11_lookAt_223 rfl dX11_lookAt_234 ?_
                        refine lv_iconst (v := 2) zx zb dX11_lookAt_237 (by decide) ?_
                        refine lv_icmp_ne (tgt := 274) zx zb dX11_lookAt_238 (by decide) (fun c_78 => absurd (hx218_0.2.1) c_78) (fun c_78 => ?_)
                        refine lv_aload_n zx zb dX11_lookAt_241 rfl (lv_at hl 3 rfl) ?_
                        refine lv_bipush (v := 10) zx zb dX11_lookAt_242 (by decide) ?_
                        refine lv_aload_n zx zb dX11_lookAt_244 rfl (lv_at hl 3 rfl) ?_
                        refine r_get (C := RX11) (T := TX11) (N := 18) (ci := 9) (v := .int (v218_0 1)) S in_X11_lookAt_X11 G 0 rfl rfl 15 (by decide) lk_X11_lookAt_226 rfl dX11_lookAt_245 ?_
                        refine r_imul (v := (10 * (v218_0 1))) S rfl dX11_lookAt_248 ?_
                        refine lv_aload_n zx zb dX11_lookAt_249 rfl (lv_at hl 3 rfl) ?_
                        refine r_get (C := RX11) (T := TX11) (N := 18) (ci := 9) (v := .ref (ma 10)) S in_X11_lookAt_X11 G 0 rfl rfl 10 (by decide) lk_X11_lookAt_39 rfl dX11_lookAt_250 ?_
                        refine lv_aload_n zx zb dX11_lookAt_253 rfl (lv_at hl 3 rfl) ?_
                        refine r_get (C := RX11) (T := TX11) (N := 18) (ci := 9) (v := .int (nI (t_66 0))) S in_X11_lookAt_X11 G 0 rfl rfl 12 (by decide) lk_X11_lookAt_217 rfl dX11_lookAt_254 ?_
                        refine lv_iload zx zb dX11_lookAt_257 (lv_at hl 0 rfl) ?_
                        refine r_iadd (v := (nI ((t_66 0) + n218_4))) S (nI_add (t_66 0) n218_4) dX11_lookAt_259 ?_
                        refine r_iald (v := (fd ((t_66 0) + n218_4))) S G 1 rfl (vp_in_nI (by omega) (by decide)) (congrArg fd (nI_clamp (by omega))) dX11_lookAt_260 ?_
                        refine r_iadd (v := ((10 * (v218_0 1)) + (fd ((t_66 0) + n218_4)))) S rfl dX11_lookAt_261 ?_
                        refine lv_bipush (v := 48) zx zb dX11_lookAt_262 (by decide) ?_
                        refine r_isub (v := (((10 * (v218_0 1)) + (fd ((t_66 0) + n218_4))) - 48)) S rfl dX11_lookAt_264 ?_
                        refine r_put (C := RX11) (T := TX11) (N := 18) (ci := 9) (v := .int (((10 * (v218_0 1)) + (fd ((t_66 0) + n218_4))) - 48)) S in_X11_lookAt_X11 tyX11_ok nmX11 G 0 rfl rfl 15 (by decide) lk_X11_lookAt_226 rfl (vp_nar_int _) rfl (Nat.le_of_ble_eq_true rfl) dX11_lookAt_265 (fun H locs G => ?_)
                        obtain ⟨v_80, ⟨hE_v_80_1, hE_v_80_0⟩, G⟩ : ∃ v_80 : Nat → Int32, (v_80 1 = (((10 * (v218_0 1)) + (fd ((t_66 0) + n218_4))) - 48) ∧ v_80 0 = v218_0 0) ∧ wd X (va_A (@HAppend.hAppend va_W va_W va_W _ (mW m0 ma la lb n t v) ([((ma 10), .inl (X.2.1, 150, .inl fd))])) sz) (va_A (@HAppend.hAppend va_W va_W va_W _ (mW m0 ma la lb n t v) ([((ma 10), .inl (X.2.1, 150, .inl fd))])) sz) s (@HAppend.hAppend va_W va_W va_W _ (mW m0 ma la lb n t_66 v_80) ([((ma 10), .inl (X.2.1, 150, .inl fd))])) H locs := ⟨upd v218_0 1 (((10 * (v218_0 1)) + (fd ((t_66 0) + n218_4))) - 48), ⟨rfl, rfl⟩, G⟩
                        refine lv_iinc (v := (nI (n218_4 + 1))) (lv' := [(4, .int (nI (n218_4 + 1))), (3, .int 0), (2, .int (fd (t_9 0))), (0, .ref m0), (1, .int (nI o))]) zx zb dX11_lookAt_268 hl (k := 0) rfl (nI_add n218_4 1) (by decide) rfl (fun ls hl => ?_)
                        refine lv_goto (tgt := 218) zx zb dX11_lookAt_271 (by decide) ?_
                        exact ih218 (n218_4 + 1) v_80 _ _ _ (by omega) ⟨by omega, hE_v_80_0.trans hx218_0.2.1, hE_v_80_1.trans (by rw [hx218_0.2.2, show t_66 0 + n218_4 = (t5_0 0) + n218_4 from by omega]; first | done | rfl)⟩ (by omega) G hl
          · refine lv_if_eq (tgt := 103) zx zb dX11_lookAt_96 (by decide) (fun c_81 => ?_) (fun c_81 => absurd (by decide) c_81)
            refine lv_iload_n zx zb dX11_lookAt_103 rfl (lv_at hl 0 rfl) ?_
            refine lv_bipush (v := 59) zx zb dX11_lookAt_104 (by decide) ?_
            refine lv_icmp_ne (tgt := 113) zx zb dX11_lookAt_106 (by decide) (fun c_82 => ?_) (fun c_82 => ?_)
            · refine lv_iconst (v := 4) zx zb dX11_lookAt_113 (by decide) ?_
              refine r_put (C := RX11) (T := TX11) (N := 18) (ci := 9) (v := .int 4) S in_X11_lookAt_X11 tyX11_ok nmX11 G 0 rfl rfl 14 (by decide) lk_X11_lookAt_223 rfl (vp_nar_int _) rfl (Nat.le_of_ble_eq_true rfl) dX11_lookAt_114 (fun H locs G => ?_)
              obtain ⟨v_83, ⟨hE_v_83_0, hE_v_83_1⟩, G⟩ : ∃ v_83 : Nat → Int32, (v_83 0 = 4 ∧ v_83 1 = v_11 1) ∧ wd X (va_A (@HAppend.hAppend va_W va_W va_W _ (mW m0 ma la lb n t v) ([((ma 10), .inl (X.2.1, 150, .inl fd))])) sz) (va_A (@HAppend.hAppend va_W va_W va_W _ (mW m0 ma la lb n t v) ([((ma 10), .inl (X.2.1, 150, .inl fd))])) sz) s (@HAppend.hAppend va_W va_W va_W _ (mW m0 ma la lb n t_9 v_83) ([((ma 10), .inl (X.2.1, 150, .inl fd))])) H locs := ⟨upd v_11 0 4, ⟨rfl, rfl⟩, G⟩
              refine lv_aload_n zx zb dX11_lookAt_117 rfl (lv_at hl 1 rfl) ?_
              refine lv_iconst (v := 1) zx zb dX11_lookAt_118 (by decide) ?_
              refine r_put (C := RX11) (T := TX11) (N := 18) (ci := 9) (v := .int 1) S in_X11_lookAt_X11 tyX11_ok nmX11 G 0 rfl rfl 13 (by decide) lk_X11_lookAt_220 rfl (vp_nar_int _) rfl (Nat.le_of_ble_eq_true rfl) dX11_lookAt_119 (fun H locs G => ?_)
              obtain ⟨t_84, hI_t_84, ⟨hE_t_84_1, hE_t_84_0⟩, G⟩ : ∃ t_84 : Nat → Nat, InT t_84 ∧ (t_84 1 = 1 ∧ t_84 0 = t_9 0) ∧ wd X (va_A (@HAppend.hAppend va_W va_W va_W _ (mW m0 ma la lb n t v) ([((ma 10), .inl (X.2.1, 150, .inl fd))])) sz) (va_A (@HAppend.hAppend va_W va_W va_W _ (mW m0 ma la lb n t v) ([((ma 10), .inl (X.2.1, 150, .inl fd))])) sz) s (@HAppend.hAppend va_W va_W va_W _ (mW m0 ma la lb n t_84 v_83) ([((ma 10), .inl (X.2.1, 150, .inl fd))])) H locs := ⟨upN t_9 1 1, ⟨ht0_t_9, (by show 1 ≤ 150; omega)⟩, ⟨rfl, rfl⟩, G⟩
              have hO_t_84 := hI_t_84
              obtain ⟨ht0_t_84, ht1_t_84⟩ := hO_t_84
              refine lv_aload_n zx zb dX11_lookAt_122 rfl (lv_at hl 1 rfl) ?_
              refine r_get (C := RX11) (T := TX11) (N := 18) (ci := 9) (v := .int (v_83 0)) S in_X11_lookAt_X11 G 0 rfl rfl 14 (by decide) lk_X11_lookAt_223 rfl dX11_lookAt_123 ?_
              refine lv_iconst (v := 3) zx zb dX11_lookAt_126 (by decide) ?_
              refine lv_icmp_ge (tgt := 134) zx zb dX11_lookAt_127 (by decide) (fun c_85 => ?_) (fun c_85 => absurd (by rw [hE_v_83_0]; decide) c_85)
              refine lv_iconst (v := 0) zx zb dX11_lookAt_134 (by decide) ?_
              refine lv_istore_n (lv' := [(3, .int 0), (2, .int (fd (t_9 0))), (0, .ref m0), (1, .int (nI o))]) zx zb dX11_lookAt_135 rfl hl (by decide) rfl (fun ls hl => ?_)
              refine lv_iload_n zx zb dX11_lookAt_136 rfl (lv_at hl 0 rfl) ?_
              refine lv_if_eq (tgt := 215) zx zb dX11_lookAt_137 (by decide) (fun c_86 => ?_) (fun c_86 => absurd (by decide) c_86)
              refine lv_iconst (v := 0) zx zb dX11_lookAt_215 (by decide) ?_
              refine lv_istore (lv' := [(4, .int 0), (3, .int 0), (2, .int (fd (t_9 0))), (0, .ref m0), (1, .int (nI o))]) zx zb dX11_lookAt_216 hl (by decide) rfl (fun ls hl => ?_)
              refine lv_iload zx zb dX11_lookAt_218 (lv_at hl 0 rfl) ?_
              refine lv_aload_n zx zb dX11_lookAt_220 rfl (lv_at hl 3 rfl) ?_
              refine r_get (C := RX11) (T := TX11) (N := 18) (ci := 9) (v := .int (nI (t_84 1))) S in_X11_lookAt_X11 G 0 rfl rfl 13 (by decide) lk_X11_lookAt_220 rfl dX11_lookAt_221 ?_
              refine lv_icmp_ge (tgt := 274) zx zb dX11_lookAt_224 (by decide) (fun c_87 => absurd c_87 (fun q => absurd (j_le (a := (t_84 1)) (b := 0) (by omega) (by omega) q) (by omega))) (fun c_87 => ?_)
              refine lv_iload zx zb dX11_lookAt_227 (lv_at hl 0 rfl) ?_
              refine lv_iconst (v := 2) zx zb dX11_lookAt_229 (by decide) ?_
              refine lv_icmp_ge (tgt := 274) zx zb dX11_lookAt_230 (by decide) (fun c_88 => absurd c_88 (by decide)) (fun c_88 => ?_)
              refine lv_aload_n zx zb dX11_lookAt_233 rfl (lv_at hl 3 rfl) ?_
              refine r_get (C := RX11) (T := TX11) (N := 18) (ci := 9) (v := .int (v_83 0)) S in_X11_lookAt_X11 G 0 rfl rfl 14 (by decide) lk_X11_lookAt_223 rfl dX11_lookAt_234 ?_
              refine lv_iconst (v := 2) zx zb dX11_lookAt_237 (by decide) ?_
              refine lv_icmp_ne (tgt := 274) zx zb dX11_lookAt_238 (by decide) (fun c_89 => ?_) (fun c_89 => absurd c_89 (by rw [hE_v_83_0]; decide))
              refine lv_aload_n zx zb dX11_lookAt_274 rfl (lv_at hl 3 rfl) ?_
              refine lv_aload_n zx zb dX11_lookAt_275 rfl (lv_at hl 3 rfl) ?_
              refine r_get (C := RX11) (T := TX11) (N := 18) (ci := 9) (v := .int (v_83 0)) S in_X11_lookAt_X11 G 0 rfl rfl 14 (by decide) lk_X11_lookAt_223 rfl dX11_lookAt_276 ?_
              refine lv_iconst (v := 2) zx zb dX11_lookAt_279 (by decide) ?_
              refine lv_icmp_ne (tgt := 295) zx zb dX11_lookAt_280 (by decide) (fun c_90 => ?_) (fun c_90 => absurd c_90 (by rw [hE_v_83_0]; decide))
              refine lv_aload_n zx zb dX11_lookAt_295 rfl (lv_at hl 3 rfl) ?_
              refine r_get (C := RX11) (T := TX11) (N := 18) (ci := 9) (v := .int (v_83 0)) S in_X11_lookAt_X11 G 0 rfl rfl 14 (by decide) lk_X11_lookAt_223 rfl dX11_lookAt_296 ?_
              refine r_put (C := RX11) (T := TX11) (N := 18) (ci := 9) (v := .int (v_83 0)) S in_X11_lookAt_X11 tyX11_ok nmX11 G 0 rfl rfl 14 (by decide) lk_X11_lookAt_223 rfl (vp_nar_int _) rfl (Nat.le_of_ble_eq_true rfl) dX11_lookAt_299 (fun H locs G => ?_)
              obtain ⟨v_91, ⟨hE_v_91_0, hE_v_91_1⟩, G⟩ : ∃ v_91 : Nat → Int32, (v_91 0 = (v_83 0) ∧ v_91 1 = v_83 1) ∧ wd X (va_A (@HAppend.hAppend va_W va_W va_W _ (mW m0 ma la lb n t v) ([((ma 10), .inl (X.2.1, 150, .inl fd))])) sz) (va_A (@HAppend.hAppend va_W va_W va_W _ (mW m0 ma la lb n t v) ([((ma 10), .inl (X.2.1, 150, .inl fd))])) sz) s (@HAppend.hAppend va_W va_W va_W _ (mW m0 ma la lb n t_84 v_91) ([((ma 10), .inl (X.2.1, 150, .inl fd))])) H locs := ⟨upd v_83 0 (v_83 0), ⟨rfl, rfl⟩, G⟩
              exact e_void S zr zlk G (t_84, v_91) [0, 1] rfl rfl (Or.inr rfl) (⟨hI_t_84, by rw [hs]; have hn : (t5_0 0) < n := (by first | omega | (dsimp only; omega)); have hc : ¬ lqL (fd (t5_0 0)) = true := (by rw [← hta]; exact hl_14); have hd : ¬ lqF (fd (t5_0 0)) = true := (by rw [← hta]; exact hl_40); have he : ¬ fd (t5_0 0) = 59 := (by rw [← hta]; exact c_82); have h4 : tK fd n (t5_0 0) = 4 := ((tok_oth hn hc hd).2.trans (if_neg he)); exact ⟨by first | omega | (dsimp only; omega), by rw [(tok_oth hn hc hd).1]; first | omega | (dsimp only; omega), (hE_v_91_0.trans (hE_v_83_0)).trans h4.symm, fun h => absurd (h.symm.trans h4) (by decide), by first | omega | (dsimp only; omega)⟩⟩) dX11_lookAt_302
            · refine lv_iconst (v := 3) zx zb dX11_lookAt_109 (by decide) ?_
              refine lv_goto (tgt := 114) zx zb dX11_lookAt_110 (by decide) ?_
              refine r_put (C := RX11) (T := TX11) (N := 18) (ci := 9) (v := .int 3) S in_X11_lookAt_X11 tyX11_ok nmX11 G 0 rfl rfl 14 (by decide) lk_X11_lookAt_223 rfl (vp_nar_int _) rfl (Nat.le_of_ble_eq_true rfl) dX11_lookAt_114 (fun H locs G => ?_)
              obtain ⟨v_92, ⟨hE_v_92_0, hE_v_92_1⟩, G⟩ : ∃ v_92 : Nat → Int32, (v_92 0 = 3 ∧ v_92 1 = v_11 1) ∧ wd X (va_A (@HAppend.hAppend va_W va_W va_W _ (mW m0 ma la lb n t v) ([((ma 10), .inl (X.2.1, 150, .inl fd))])) sz) (va_A (@HAppend.hAppend va_W va_W va_W _ (mW m0 ma la lb n t v) ([((ma 10), .inl (X.2.1, 150, .inl fd))])) sz) s (@HAppend.hAppend va_W va_W va_W _ (mW m0 ma la lb n t_9 v_92) ([((ma 10), .inl (X.2.1, 150, .inl fd))])) H locs := ⟨upd v_11 0 3, ⟨rfl, rfl⟩, G⟩
              refine lv_aload_n zx zb dX11_lookAt_117 rfl (lv_at hl 1 rfl) ?_
              refine lv_iconst (v := 1) zx zb dX11_lookAt_118 (by decide) ?_
              refine r_put (C := RX11) (T := TX11) (N := 18) (ci := 9) (v := .int 1) S in_X11_lookAt_X11 tyX11_ok nmX11 G 0 rfl rfl 13 (by decide) lk_X11_lookAt_220 rfl (vp_nar_int _) rfl (Nat.le_of_ble_eq_true rfl) dX11_lookAt_119 (fun H locs G => ?_)
              obtain ⟨t_93, hI_t_93, ⟨hE_t_93_1, hE_t_93_0⟩, G⟩ : ∃ t_93 : Nat → Nat, InT t_93 ∧ (t_93 1 = 1 ∧ t_93 0 = t_9 0) ∧ wd X (va_A (@HAppend.hAppend va_W va_W va_W _ (mW m0 ma la lb n t v) ([((ma 10), .inl (X.2.1, 150, .inl fd))])) sz) (va_A (@HAppend.hAppend va_W va_W va_W _ (mW m0 ma la lb n t v) ([((ma 10), .inl (X.2.1, 150, .inl fd))])) sz) s (@HAppend.hAppend va_W va_W va_W _ (mW m0 ma la lb n t_93 v_92) ([((ma 10), .inl (X.2.1, 150, .inl fd))])) H locs := ⟨upN t_9 1 1, ⟨ht0_t_9, (by show 1 ≤ 150; omega)⟩, ⟨rfl, rfl⟩, G⟩
              have hO_t_93 := hI_t_93
              obtain ⟨ht0_t_93, ht1_t_93⟩ := hO_t_93
              refine lv_aload_n zx zb dX11_lookAt_122 rfl (lv_at hl 1 rfl) ?_
              refine r_get (C := RX11) (T := TX11) (N := 18) (ci := 9) (v := .int (v_92 0)) S in_X11_lookAt_X11 G 0 rfl rfl 14 (by decide) lk_X11_lookAt_223 rfl dX11_lookAt_123 ?_
              refine lv_iconst (v := 3) zx zb dX11_lookAt_126 (by decide) ?_
              refine lv_icmp_ge (tgt := 134) zx zb dX11_lookAt_127 (by decide) (fun c_94 => ?_) (fun c_94 => absurd (by rw [hE_v_92_0]; decide) c_94)
              refine lv_iconst (v := 0) zx zb dX11_lookAt_134 (by decide) ?_
              refine lv_istore_n (lv' := [(3, .int 0), (2, .int (fd (t_9 0))), (0, .ref m0), (1, .int (nI o))]) zx zb dX11_lookAt_135 rfl hl (by decide) rfl (fun ls hl => ?_)
              refine lv_iload_n zx zb dX11_lookAt_136 rfl (lv_at hl 0 rfl) ?_
              refine lv_if_eq (tgt := 215) zx zb dX11_lookAt_137 (by decide) (fun c_95 => ?_) (fun c_95 => absurd (by decide) c_95)
              refine lv_iconst (v := 0) zx zb dX11_lookAt_215 (by decide) ?_
              refine lv_istore (lv' := [(4, .int 0), (3, .int 0), (2, .int (fd (t_9 0))), (0, .ref m0), (1, .int (nI o))]) zx zb dX11_lookAt_216 hl (by decide) rfl (fun ls hl => ?_)
              refine lv_iload zx zb dX11_lookAt_218 (lv_at hl 0 rfl) ?_
              refine lv_aload_n zx zb dX11_lookAt_220 rfl (lv_at hl 3 rfl) ?_
              refine r_get (C := RX11) (T := TX11) (N := 18) (ci := 9) (v := .int (nI (t_93 1))) S in_X11_lookAt_X11 G 0 rfl rfl 13 (by decide) lk_X11_lookAt_220 rfl dX11_lookAt_221 ?_
              refine lv_icmp_ge (tgt := 274) zx zb dX11_lookAt_224 (by decide) (fun c_96 => absurd c_96 (fun q => absurd (j_le (a := (t_93 1)) (b := 0) (by omega) (by omega) q) (by omega))) (fun c_96 => ?_)
              refine lv_iload zx zb dX11_lookAt_227 (lv_at hl 0 rfl) ?_
              refine lv_iconst (v := 2) zx zb dX11_lookAt_229 (by decide) ?_
              refine lv_icmp_ge (tgt := 274) zx zb dX11_lookAt_230 (by decide) (fun c_97 => absurd c_97 (by decide)) (fun c_97 => ?_)
              refine lv_aload_n zx zb dX11_lookAt_233 rfl (lv_at hl 3 rfl) ?_
              refine r_get (C := RX11) (T := TX11) (N := 18) (ci := 9) (v := .int (v_92 0)) S in_X11_lookAt_X11 G 0 rfl rfl 14 (by decide) lk_X11_lookAt_223 rfl dX11_lookAt_234 ?_
              refine lv_iconst (v := 2) zx zb dX11_lookAt_237 (by decide) ?_
              refine lv_icmp_ne (tgt := 274) zx zb dX11_lookAt_238 (by decide) (fun c_98 => ?_) (fun c_98 => absurd c_98 (by rw [hE_v_92_0]; decide))
              refine lv_aload_n zx zb dX11_lookAt_274 rfl (lv_at hl 3 rfl) ?_
              refine lv_aload_n zx zb dX11_lookAt_275 rfl (lv_at hl 3 rfl) ?_
              refine r_get (C := RX11) (T := TX11) (N := 18) (ci := 9) (v := .int (v_92 0)) S in_X11_lookAt_X11 G 0 rfl rfl 14 (by decide) lk_X11_lookAt_223 rfl dX11_lookAt_276 ?_
              refine lv_iconst (v := 2) zx zb dX11_lookAt_279 (by decide) ?_
              refine lv_icmp_ne (tgt := 295) zx zb dX11_lookAt_280 (by decide) (fun c_99 => ?_) (fun c_99 => absurd c_99 (by rw [hE_v_92_0]; decide))
              refine lv_aload_n zx zb dX11_lookAt_295 rfl (lv_at hl 3 rfl) ?_
              refine r_get (C := RX11) (T := TX11) (N := 18) (ci := 9) (v := .int (v_92 0)) S in_X11_lookAt_X11 G 0 rfl rfl 14 (by decide) lk_X11_lookAt_223 rfl dX11_lookAt_296 ?_
              refine r_put (C := RX11) (T := TX11) (N := 18) (ci := 9) (v := .int (v_92 0)) S in_X11_lookAt_X11 tyX11_ok nmX11 G 0 rfl rfl 14 (by decide) lk_X11_lookAt_223 rfl (vp_nar_int _) rfl (Nat.le_of_ble_eq_true rfl) dX11_lookAt_299 (fun H locs G => ?_)
              obtain ⟨v_100, ⟨hE_v_100_0, hE_v_100_1⟩, G⟩ : ∃ v_100 : Nat → Int32, (v_100 0 = (v_92 0) ∧ v_100 1 = v_92 1) ∧ wd X (va_A (@HAppend.hAppend va_W va_W va_W _ (mW m0 ma la lb n t v) ([((ma 10), .inl (X.2.1, 150, .inl fd))])) sz) (va_A (@HAppend.hAppend va_W va_W va_W _ (mW m0 ma la lb n t v) ([((ma 10), .inl (X.2.1, 150, .inl fd))])) sz) s (@HAppend.hAppend va_W va_W va_W _ (mW m0 ma la lb n t_93 v_100) ([((ma 10), .inl (X.2.1, 150, .inl fd))])) H locs := ⟨upd v_92 0 (v_92 0), ⟨rfl, rfl⟩, G⟩
              exact e_void S zr zlk G (t_93, v_100) [0, 1] rfl rfl (Or.inr rfl) (⟨hI_t_93, by rw [hs]; have hn : (t5_0 0) < n := (by first | omega | (dsimp only; omega)); have hc : ¬ lqL (fd (t5_0 0)) = true := (by rw [← hta]; exact hl_14); have hd : ¬ lqF (fd (t5_0 0)) = true := (by rw [← hta]; exact hl_40); have he : fd (t5_0 0) = 59 := (by rw [← hta]; exact c_82); have h4 : tK fd n (t5_0 0) = 3 := ((tok_oth hn hc hd).2.trans (if_pos he)); exact ⟨by first | omega | (dsimp only; omega), by rw [(tok_oth hn hc hd).1]; first | omega | (dsimp only; omega), (hE_v_100_0.trans (hE_v_92_0)).trans h4.symm, fun h => absurd (h.symm.trans h4) (by decide), by first | omega | (dsimp only; omega)⟩⟩) dX11_lookAt_302
      · refine lv_aload_n zx zb dX11_lookAt_30 rfl (lv_at hl 0 rfl) ?_
        refine lv_dup zx zb dX11_lookAt_31 rfl ?_
        refine r_get (C := RX11) (T := TX11) (N := 18) (ci := 9) (v := .int (nI (t5_0 0))) S in_X11_lookAt_X11 G 0 rfl rfl 12 (by decide) lk_X11_lookAt_217 rfl dX11_lookAt_32 ?_
        refine lv_iconst (v := 1) zx zb dX11_lookAt_35 (by decide) ?_
        refine r_iadd (v := (nI ((t5_0 0) + 1))) S (nI_add (t5_0 0) 1) dX11_lookAt_36 ?_
        refine r_put (C := RX11) (T := TX11) (N := 18) (ci := 9) (v := .int (nI ((t5_0 0) + 1))) S in_X11_lookAt_X11 tyX11_ok nmX11 G 0 rfl rfl 12 (by decide) lk_X11_lookAt_217 rfl (vp_nar_int _) rfl (Nat.le_of_ble_eq_true rfl) dX11_lookAt_37 (fun H locs G => ?_)
        obtain ⟨t_101, hI_t_101, ⟨hE_t_101_0, hE_t_101_1⟩, G⟩ : ∃ t_101 : Nat → Nat, InT t_101 ∧ (t_101 0 = ((t5_0 0) + 1) ∧ t_101 1 = t5_0 1) ∧ wd X (va_A (@HAppend.hAppend va_W va_W va_W _ (mW m0 ma la lb n t v) ([((ma 10), .inl (X.2.1, 150, .inl fd))])) sz) (va_A (@HAppend.hAppend va_W va_W va_W _ (mW m0 ma la lb n t v) ([((ma 10), .inl (X.2.1, 150, .inl fd))])) sz) s (@HAppend.hAppend va_W va_W va_W _ (mW m0 ma la lb n t_101 v) ([((ma 10), .inl (X.2.1, 150, .inl fd))])) H locs := ⟨upN t5_0 0 ((t5_0 0) + 1), ⟨(by show ((t5_0 0) + 1) ≤ 150; omega), ht1_t5_0⟩, ⟨rfl, rfl⟩, G⟩
        have hO_t_101 := hI_t_101
        obtain ⟨ht0_t_101, ht1_t_101⟩ := hO_t_101
        refine lv_goto (tgt := 5) zx zb dX11_lookAt_40 (by decide) ?_
        exact ih5 t_101 _ _ _ (by omega) ⟨by omega, by rw [hE_t_101_0, ← scan_s (by omega) (qB_t.mpr c_8)]; exact hx5_0.2⟩ hI_t_101 G hl
set_option maxHeartbeats 4000000 in
set_option maxRecDepth 100000 in
theorem y_goBehind (l : Launch) (X : EX) (m0 : Nat) (ma : Nat → Nat) (la : Int64) (lb : Int64) (n : Nat) (t : Nat → Nat) (v : Nat → Int32) (fd : Nat → Int32) (s0 : Nat) (hI_n : n ≤ 150) (hI_t : InT t) (hK : tkM fd n t v s0) (sz : Nat) : Met l yX11_goBehind wsX11_goBehind ({ frames := 3, cells := 0, slots := 0, locals := 69 } : Room) (pE X [.ref m0] (@HAppend.hAppend va_W va_W va_W _ (mW m0 ma la lb n t v) ([((ma 10), .inl (X.2.1, 150, .inl fd))])) sz) (qV (fun (u : (Nat → Nat) × (Nat → Int32)) => InT u.1 ∧ (tkM fd n u.1 u.2 (tN fd n s0))) X (fun (u : (Nat → Nat) × (Nat → Int32)) => @HAppend.hAppend va_W va_W va_W _ (mW m0 ma la lb n u.1 u.2) ([((ma 10), .inl (X.2.1, 150, .inl fd))])) (@HAppend.hAppend va_W va_W va_W _ (mW m0 ma la lb n t v) ([((ma 10), .inl (X.2.1, 150, .inl fd))])) sz) 0 0 (va_A (@HAppend.hAppend va_W va_W va_W _ (mW m0 ma la lb n t v) ([((ma 10), .inl (X.2.1, 150, .inl fd))])) sz) := by
  refine mk_met (B := (va_A (@HAppend.hAppend va_W va_W va_W _ (mW m0 ma la lb n t v) ([((ma 10), .inl (X.2.1, 150, .inl fd))])) sz)) (A := (va_A (@HAppend.hAppend va_W va_W va_W _ (mW m0 ma la lb n t v) ([((ma 10), .inl (X.2.1, 150, .inl fd))])) sz)) (cc := cX11_goBehind) (maxL := 1) (ret := none) (by decide) rfl (Nat.le_of_ble_eq_true rfl) k_w k_a (fun p e s m below meth c S zr zlk znm zsz G ls hl => ?_)
  have S : CallFix p m c cX11_goBehind 1 s _ wsX11_goBehind RX11 := S
  have zx := S.1
  have zb := S.2.1
  have hl : lv_has ls 1 [(0, .ref m0)] := hl
  have hO_t := hI_t
  obtain ⟨ht0_t, ht1_t⟩ := hO_t
  obtain ⟨hK0, hK1, hK2, hK3, hK4⟩ := hK
  have hTe := tE_le (T := fd) (n := n) (s := s0) hK4
  refine lv_aload_n zx zb dX11_goBehind_0 rfl (lv_at hl 0 rfl) ?_
  refine lv_aload_n zx zb dX11_goBehind_1 rfl (lv_at hl 0 rfl) ?_
  refine r_get (C := RX11) (T := TX11) (N := 18) (ci := 9) (v := .int (nI (t 0))) S in_X11_goBehind_X11 G 0 rfl rfl 12 (by decide) lk_X11_goBehind_217 rfl dX11_goBehind_2 ?_
  refine lv_aload_n zx zb dX11_goBehind_5 rfl (lv_at hl 0 rfl) ?_
  refine r_get (C := RX11) (T := TX11) (N := 18) (ci := 9) (v := .int (nI (t 1))) S in_X11_goBehind_X11 G 0 rfl rfl 13 (by decide) lk_X11_goBehind_220 rfl dX11_goBehind_6 ?_
  refine r_iadd (v := (nI ((t 0) + (t 1)))) S (nI_add (t 0) (t 1)) dX11_goBehind_9 ?_
  refine b_wv (cells' := 0) (slots' := 0) (wr := []) G rfl rfl [0, 1] [] rfl rfl rfl rfl (n_V (As := [.int (nI ((t 0) + (t 1)))]) (rest := []) (C := RX11) (T := TX11) (N := 18) (ci := 9) S G (y_lookAt l X m0 ma la lb n t v fd ((t 0) + (t 1)) hI_n hI_t (by omega) s.heap.size) gX11_goBehind_X11_lookAt rfl rfl rfl hdV_X11_lookAt ⟨Nat.le_of_ble_eq_true rfl, Nat.le_of_ble_eq_true rfl⟩ [0, 1] rfl rfl 0 rfl rfl rfl hl.1 (Nat.le_of_ble_eq_true rfl) dX11_goBehind_10 ⟨Nat.le_of_ble_eq_true rfl, Nat.le_of_ble_eq_true rfl⟩) (fun u_1 H locs hp_1 G => ?_)
  obtain ⟨t_1a, v_1b⟩ := u_1
  try dsimp only at hp_1
  obtain ⟨hI_t_1a, hq_1⟩ := hp_1
  have hO_t_1a := hI_t_1a
  obtain ⟨ht0_t_1a, ht1_t_1a⟩ := hO_t_1a
  have G : wd X (va_A (@HAppend.hAppend va_W va_W va_W _ (mW m0 ma la lb n t v) ([((ma 10), .inl (X.2.1, 150, .inl fd))])) sz) (va_A (@HAppend.hAppend va_W va_W va_W _ (mW m0 ma la lb n t v) ([((ma 10), .inl (X.2.1, 150, .inl fd))])) sz) s (@HAppend.hAppend va_W va_W va_W _ (mW m0 ma la lb n t_1a v_1b) ([((ma 10), .inl (X.2.1, 150, .inl fd))])) H locs := G
  exact e_void S zr zlk G (t_1a, v_1b) [0, 1] rfl rfl (Or.inr rfl) (⟨hI_t_1a, by have e : scanP qB fd n (t 0 + t 1) = tN fd n s0 := (by rw [hK1]; rfl); rw [← e]; exact hq_1⟩) dX11_goBehind_13
set_option maxHeartbeats 4000000 in
set_option maxRecDepth 100000 in
theorem y_spells0 (l : Launch) (X : EX) (m0 : Nat) (ma : Nat → Nat) (la : Int64) (lb : Int64) (n : Nat) (t : Nat → Nat) (v : Nat → Int32) (fd : Nat → Int32) (s0 : Nat) (hI_n : n ≤ 150) (hI_t : InT t) (hK : tkM fd n t v s0) (sz : Nat) : Met l yX11_spells wsX11_spells ({ frames := 0, cells := 0, slots := 0, locals := 0 } : Room) (pE X [.ref m0, .int 4, .int 114, .int 97, .int 99, .int 101, .int 0, .int 0] (@HAppend.hAppend va_W va_W va_W _ (mW m0 ma la lb n t v) ([((ma 10), .inl (X.2.1, 150, .inl fd))])) sz) (qI (fun (r : Int32) (u : Unit) => (r = 1 ∧ tK fd n s0 = 1 ∧ wrdB fd n s0 0 = true) ∨ (r = 0 ∧ ¬ (tK fd n s0 = 1 ∧ wrdB fd n s0 0 = true))) X (fun (u : Unit) => []) [] sz) 0 0 (va_A [] sz) := by
  refine mk_met (B := (fun _ => True)) (A := (va_A [] sz)) (cc := cX11_spells) (maxL := 10) (ret := (some .boolean)) (by decide) rfl (Nat.le_of_ble_eq_true rfl) k_ro k_a (fun p e s m below meth c S zr zlk znm zsz G ls hl => ?_)
  have S : CallFix p m c cX11_spells 10 s _ wsX11_spells RX11 := S
  have zx := S.1
  have zb := S.2.1
  have hl : lv_has ls 10 [(0, .ref m0), (1, .int 4), (2, .int 114), (3, .int 97), (4, .int 99), (5, .int 101), (6, .int 0), (7, .int 0)] := hl
  have hO_t := hI_t
  obtain ⟨ht0_t, ht1_t⟩ := hO_t
  obtain ⟨hK0, hK1, hK2, hK3, hK4⟩ := hK
  have hTe := tE_le (T := fd) (n := n) (s := s0) hK4
  refine lv_aload_n zx zb dX11_spells_0 rfl (lv_at hl 0 rfl) ?_
  refine r_get (C := RX11) (T := TX11) (N := 18) (ci := 9) (v := .int (v 0)) S in_X11_spells_X11 G 0 rfl rfl 14 (by decide) lk_X11_spells_223 rfl dX11_spells_1 ?_
  refine lv_iconst (v := 1) zx zb dX11_spells_4 (by decide) ?_
  refine lv_icmp_ne (tgt := 20) zx zb dX11_spells_5 (by decide) (fun c_1 => ?_) (fun c_1 => ?_)
  · refine lv_iconst (v := 0) zx zb dX11_spells_20 (by decide) ?_
    refine lv_istore (lv' := [(8, .int 0), (0, .ref m0), (1, .int 4), (2, .int 114), (3, .int 97), (4, .int 99), (5, .int 101), (6, .int 0), (7, .int 0)]) zx zb dX11_spells_21 hl (by decide) rfl (fun ls hl => ?_)
    refine lv_iconst (v := 0) zx zb dX11_spells_23 (by decide) ?_
    refine lv_istore (lv' := [(9, .int 0), (8, .int 0), (0, .ref m0), (1, .int 4), (2, .int 114), (3, .int 97), (4, .int 99), (5, .int 101), (6, .int 0), (7, .int 0)]) zx zb dX11_spells_24 hl (by decide) rfl (fun ls hl => ?_)
    refine lv_iload zx zb dX11_spells_26 (lv_at hl 0 rfl) ?_
    refine lv_iload_n zx zb dX11_spells_28 rfl (lv_at hl 3 rfl) ?_
    refine lv_icmp_ge (tgt := 119) zx zb dX11_spells_29 (by decide) (fun c_2 => absurd c_2 (by decide)) (fun c_2 => ?_)
    refine lv_iload zx zb dX11_spells_32 (lv_at hl 1 rfl) ?_
    refine lv_if_eq (tgt := 119) zx zb dX11_spells_34 (by decide) (fun c_3 => ?_) (fun c_3 => absurd (by decide) c_3)
    refine lv_iload zx zb dX11_spells_119 (lv_at hl 1 rfl) ?_
    exact e_int S zr zlk (by decide) G () [] rfl rfl (Or.inl rfl) (Or.inr ⟨rfl, fun h => c_1 (hK2.trans h.1)⟩) dX11_spells_121
  · refine lv_aload_n zx zb dX11_spells_8 rfl (lv_at hl 0 rfl) ?_
    refine r_get (C := RX11) (T := TX11) (N := 18) (ci := 9) (v := .int (nI (t 1))) S in_X11_spells_X11 G 0 rfl rfl 13 (by decide) lk_X11_spells_220 rfl dX11_spells_9 ?_
    refine lv_iload_n zx zb dX11_spells_12 rfl (lv_at hl 1 rfl) ?_
    refine lv_icmp_ne (tgt := 20) zx zb dX11_spells_13 (by decide) (fun c_4 => ?_) (fun c_4 => ?_)
    · have fc_4 := j_ne (a := (t 1)) (b := 4) c_4
      refine lv_iconst (v := 0) zx zb dX11_spells_20 (by decide) ?_
      refine lv_istore (lv' := [(8, .int 0), (0, .ref m0), (1, .int 4), (2, .int 114), (3, .int 97), (4, .int 99), (5, .int 101), (6, .int 0), (7, .int 0)]) zx zb dX11_spells_21 hl (by decide) rfl (fun ls hl => ?_)
      refine lv_iconst (v := 0) zx zb dX11_spells_23 (by decide) ?_
      refine lv_istore (lv' := [(9, .int 0), (8, .int 0), (0, .ref m0), (1, .int 4), (2, .int 114), (3, .int 97), (4, .int 99), (5, .int 101), (6, .int 0), (7, .int 0)]) zx zb dX11_spells_24 hl (by decide) rfl (fun ls hl => ?_)
      refine lv_iload zx zb dX11_spells_26 (lv_at hl 0 rfl) ?_
      refine lv_iload_n zx zb dX11_spells_28 rfl (lv_at hl 3 rfl) ?_
      refine lv_icmp_ge (tgt := 119) zx zb dX11_spells_29 (by decide) (fun c_5 => absurd c_5 (by decide)) (fun c_5 => ?_)
      refine lv_iload zx zb dX11_spells_32 (lv_at hl 1 rfl) ?_
      refine lv_if_eq (tgt := 119) zx zb dX11_spells_34 (by decide) (fun c_6 => ?_) (fun c_6 => absurd (by decide) c_6)
      refine lv_iload zx zb dX11_spells_119 (lv_at hl 1 rfl) ?_
      exact e_int S zr zlk (by decide) G () [] rfl rfl (Or.inl rfl) (Or.inr ⟨rfl, fun h => absurd (wrdB_t.mp h.2).1 (show ¬ tE fd n s0 - s0 = 4 from by omega)⟩) dX11_spells_121
    · have fc_4 := j_eq (a := (t 1)) (b := 4) (by omega) (by omega) c_4
      refine lv_iconst (v := 1) zx zb dX11_spells_16 (by decide) ?_
      refine lv_goto (tgt := 21) zx zb dX11_spells_17 (by decide) ?_
      refine lv_istore (lv' := [(8, .int 1), (0, .ref m0), (1, .int 4), (2, .int 114), (3, .int 97), (4, .int 99), (5, .int 101), (6, .int 0), (7, .int 0)]) zx zb dX11_spells_21 hl (by decide) rfl (fun ls hl => ?_)
      refine lv_iconst (v := 0) zx zb dX11_spells_23 (by decide) ?_
      refine lv_istore (lv' := [(9, .int 0), (8, .int 1), (0, .ref m0), (1, .int 4), (2, .int 114), (3, .int 97), (4, .int 99), (5, .int 101), (6, .int 0), (7, .int 0)]) zx zb dX11_spells_24 hl (by decide) rfl (fun ls hl => ?_)
      refine lv_iload zx zb dX11_spells_26 (lv_at hl 0 rfl) ?_
      refine lv_iload_n zx zb dX11_spells_28 rfl (lv_at hl 3 rfl) ?_
      refine lv_icmp_ge (tgt := 119) zx zb dX11_spells_29 (by decide) (fun c_7 => absurd c_7 (by decide)) (fun c_7 => ?_)
      refine lv_iload zx zb dX11_spells_32 (lv_at hl 1 rfl) ?_
      refine lv_if_eq (tgt := 119) zx zb dX11_spells_34 (by decide) (fun c_8 => absurd c_8 (by decide)) (fun c_8 => ?_)
      refine lv_aload_n zx zb dX11_spells_37 rfl (lv_at hl 2 rfl) ?_
      refine r_get (C := RX11) (T := TX11) (N := 18) (ci := 9) (v := .ref (ma 10)) S in_X11_spells_X11 G 0 rfl rfl 10 (by decide) lk_X11_spells_39 rfl dX11_spells_38 ?_
      refine lv_aload_n zx zb dX11_spells_41 rfl (lv_at hl 2 rfl) ?_
      refine r_get (C := RX11) (T := TX11) (N := 18) (ci := 9) (v := .int (nI (t 0))) S in_X11_spells_X11 G 0 rfl rfl 12 (by decide) lk_X11_spells_217 rfl dX11_spells_42 ?_
      refine lv_iload zx zb dX11_spells_45 (lv_at hl 0 rfl) ?_
      refine r_iadd (v := (nI ((t 0) + 0))) S (nI_add (t 0) 0) dX11_spells_47 ?_
      refine r_iald (v := (fd ((t 0) + 0))) S G 1 rfl (vp_in_nI (by omega) (by decide)) (congrArg fd (nI_clamp (by omega))) dX11_spells_48 ?_
      refine lv_iload zx zb dX11_spells_49 (lv_at hl 0 rfl) ?_
      refine lv_if_ne (tgt := 58) zx zb dX11_spells_51 (by decide) (fun c_10 => absurd (by decide) c_10) (fun c_10 => ?_)
      refine lv_iload_n zx zb dX11_spells_54 rfl (lv_at hl 4 rfl) ?_
      refine lv_goto (tgt := 103) zx zb dX11_spells_55 (by decide) ?_
      refine lv_icmp_ne (tgt := 110) zx zb dX11_spells_103 (by decide) (fun c_11 => ?_) (fun c_11 => ?_)
      · refine lv_iconst (v := 0) zx zb dX11_spells_110 (by decide) ?_
        refine lv_istore (lv' := [(8, .int 0), (9, .int 0), (0, .ref m0), (1, .int 4), (2, .int 114), (3, .int 97), (4, .int 99), (5, .int 101), (6, .int 0), (7, .int 0)]) zx zb dX11_spells_111 hl (by decide) rfl (fun ls hl => ?_)
        refine lv_iinc (v := 1) (lv' := [(9, .int 1), (8, .int 0), (0, .ref m0), (1, .int 4), (2, .int 114), (3, .int 97), (4, .int 99), (5, .int 101), (6, .int 0), (7, .int 0)]) zx zb dX11_spells_113 hl (k := 1) rfl (by decide) (by decide) rfl (fun ls hl => ?_)
        refine lv_goto (tgt := 26) zx zb dX11_spells_116 (by decide) ?_
        refine lv_iload zx zb dX11_spells_26 (lv_at hl 0 rfl) ?_
        refine lv_iload_n zx zb dX11_spells_28 rfl (lv_at hl 3 rfl) ?_
        refine lv_icmp_ge (tgt := 119) zx zb dX11_spells_29 (by decide) (fun c_12 => absurd c_12 (by decide)) (fun c_12 => ?_)
        refine lv_iload zx zb dX11_spells_32 (lv_at hl 1 rfl) ?_
        refine lv_if_eq (tgt := 119) zx zb dX11_spells_34 (by decide) (fun c_13 => ?_) (fun c_13 => absurd (by decide) c_13)
        refine lv_iload zx zb dX11_spells_119 (lv_at hl 1 rfl) ?_
        exact e_int S zr zlk (by decide) G () [] rfl rfl (Or.inl rfl) (Or.inr ⟨rfl, fun h => c_11 (by rw [hK0]; exact (wrdB_t.mp h.2).2 0 (by decide))⟩) dX11_spells_121
      · refine lv_iconst (v := 1) zx zb dX11_spells_106 (by decide) ?_
        refine lv_goto (tgt := 111) zx zb dX11_spells_107 (by decide) ?_
        refine lv_istore (lv' := [(8, .int 1), (9, .int 0), (0, .ref m0), (1, .int 4), (2, .int 114), (3, .int 97), (4, .int 99), (5, .int 101), (6, .int 0), (7, .int 0)]) zx zb dX11_spells_111 hl (by decide) rfl (fun ls hl => ?_)
        refine lv_iinc (v := 1) (lv' := [(9, .int 1), (8, .int 1), (0, .ref m0), (1, .int 4), (2, .int 114), (3, .int 97), (4, .int 99), (5, .int 101), (6, .int 0), (7, .int 0)]) zx zb dX11_spells_113 hl (k := 1) rfl (by decide) (by decide) rfl (fun ls hl => ?_)
        refine lv_goto (tgt := 26) zx zb dX11_spells_116 (by decide) ?_
        refine lv_iload zx zb dX11_spells_26 (lv_at hl 0 rfl) ?_
        refine lv_iload_n zx zb dX11_spells_28 rfl (lv_at hl 3 rfl) ?_
        refine lv_icmp_ge (tgt := 119) zx zb dX11_spells_29 (by decide) (fun c_14 => absurd c_14 (by decide)) (fun c_14 => ?_)
        refine lv_iload zx zb dX11_spells_32 (lv_at hl 1 rfl) ?_
        refine lv_if_eq (tgt := 119) zx zb dX11_spells_34 (by decide) (fun c_15 => absurd c_15 (by decide)) (fun c_15 => ?_)
        refine lv_aload_n zx zb dX11_spells_37 rfl (lv_at hl 2 rfl) ?_
        refine r_get (C := RX11) (T := TX11) (N := 18) (ci := 9) (v := .ref (ma 10)) S in_X11_spells_X11 G 0 rfl rfl 10 (by decide) lk_X11_spells_39 rfl dX11_spells_38 ?_
        refine lv_aload_n zx zb dX11_spells_41 rfl (lv_at hl 2 rfl) ?_
        refine r_get (C := RX11) (T := TX11) (N := 18) (ci := 9) (v := .int (nI (t 0))) S in_X11_spells_X11 G 0 rfl rfl 12 (by decide) lk_X11_spells_217 rfl dX11_spells_42 ?_
        refine lv_iload zx zb dX11_spells_45 (lv_at hl 0 rfl) ?_
        refine r_iadd (v := (nI ((t 0) + 1))) S (nI_add (t 0) 1) dX11_spells_47 ?_
        refine r_iald (v := (fd ((t 0) + 1))) S G 1 rfl (vp_in_nI (by omega) (by decide)) (congrArg fd (nI_clamp (by omega))) dX11_spells_48 ?_
        refine lv_iload zx zb dX11_spells_49 (lv_at hl 0 rfl) ?_
        refine lv_if_ne (tgt := 58) zx zb dX11_spells_51 (by decide) (fun c_17 => ?_) (fun c_17 => absurd c_17 (by decide))
        refine lv_iload zx zb dX11_spells_58 (lv_at hl 0 rfl) ?_
        refine lv_iconst (v := 1) zx zb dX11_spells_60 (by decide) ?_
        refine lv_icmp_ne (tgt := 68) zx zb dX11_spells_61 (by decide) (fun c_18 => absurd (by decide) c_18) (fun c_18 => ?_)
        refine lv_iload_n zx zb dX11_spells_64 rfl (lv_at hl 5 rfl) ?_
        refine lv_goto (tgt := 103) zx zb dX11_spells_65 (by decide) ?_
        refine lv_icmp_ne (tgt := 110) zx zb dX11_spells_103 (by decide) (fun c_19 => ?_) (fun c_19 => ?_)
        · refine lv_iconst (v := 0) zx zb dX11_spells_110 (by decide) ?_
          refine lv_istore (lv' := [(8, .int 0), (9, .int 1), (0, .ref m0), (1, .int 4), (2, .int 114), (3, .int 97), (4, .int 99), (5, .int 101), (6, .int 0), (7, .int 0)]) zx zb dX11_spells_111 hl (by decide) rfl (fun ls hl => ?_)
          refine lv_iinc (v := 2) (lv' := [(9, .int 2), (8, .int 0), (0, .ref m0), (1, .int 4), (2, .int 114), (3, .int 97), (4, .int 99), (5, .int 101), (6, .int 0), (7, .int 0)]) zx zb dX11_spells_113 hl (k := 1) rfl (by decide) (by decide) rfl (fun ls hl => ?_)
          refine lv_goto (tgt := 26) zx zb dX11_spells_116 (by decide) ?_
          refine lv_iload zx zb dX11_spells_26 (lv_at hl 0 rfl) ?_
          refine lv_iload_n zx zb dX11_spells_28 rfl (lv_at hl 3 rfl) ?_
          refine lv_icmp_ge (tgt := 119) zx zb dX11_spells_29 (by decide) (fun c_20 => absurd c_20 (by decide)) (fun c_20 => ?_)
          refine lv_iload zx zb dX11_spells_32 (lv_at hl 1 rfl) ?_
          refine lv_if_eq (tgt := 119) zx zb dX11_spells_34 (by decide) (fun c_21 => ?_) (fun c_21 => absurd (by decide) c_21)
          refine lv_iload zx zb dX11_spells_119 (lv_at hl 1 rfl) ?_
          exact e_int S zr zlk (by decide) G () [] rfl rfl (Or.inl rfl) (Or.inr ⟨rfl, fun h => c_19 (by rw [hK0]; exact (wrdB_t.mp h.2).2 1 (by decide))⟩) dX11_spells_121
        · refine lv_iconst (v := 1) zx zb dX11_spells_106 (by decide) ?_
          refine lv_goto (tgt := 111) zx zb dX11_spells_107 (by decide) ?_
          refine lv_istore (lv' := [(8, .int 1), (9, .int 1), (0, .ref m0), (1, .int 4), (2, .int 114), (3, .int 97), (4, .int 99), (5, .int 101), (6, .int 0), (7, .int 0)]) zx zb dX11_spells_111 hl (by decide) rfl (fun ls hl => ?_)
          refine lv_iinc (v := 2) (lv' := [(9, .int 2), (8, .int 1), (0, .ref m0), (1, .int 4), (2, .int 114), (3, .int 97), (4, .int 99), (5, .int 101), (6, .int 0), (7, .int 0)]) zx zb dX11_spells_113 hl (k := 1) rfl (by decide) (by decide) rfl (fun ls hl => ?_)
          refine lv_goto (tgt := 26) zx zb dX11_spells_116 (by decide) ?_
          refine lv_iload zx zb dX11_spells_26 (lv_at hl 0 rfl) ?_
          refine lv_iload_n zx zb dX11_spells_28 rfl (lv_at hl 3 rfl) ?_
          refine lv_icmp_ge (tgt := 119) zx zb dX11_spells_29 (by decide) (fun c_22 => absurd c_22 (by decide)) (fun c_22 => ?_)
          refine lv_iload zx zb dX11_spells_32 (lv_at hl 1 rfl) ?_
          refine lv_if_eq (tgt := 119) zx zb dX11_spells_34 (by decide) (fun c_23 => absurd c_23 (by decide)) (fun c_23 => ?_)
          refine lv_aload_n zx zb dX11_spells_37 rfl (lv_at hl 2 rfl) ?_
          refine r_get (C := RX11) (T := TX11) (N := 18) (ci := 9) (v := .ref (ma 10)) S in_X11_spells_X11 G 0 rfl rfl 10 (by decide) lk_X11_spells_39 rfl dX11_spells_38 ?_
          refine lv_aload_n zx zb dX11_spells_41 rfl (lv_at hl 2 rfl) ?_
          refine r_get (C := RX11) (T := TX11) (N := 18) (ci := 9) (v := .int (nI (t 0))) S in_X11_spells_X11 G 0 rfl rfl 12 (by decide) lk_X11_spells_217 rfl dX11_spells_42 ?_
          refine lv_iload zx zb dX11_spells_45 (lv_at hl 0 rfl) ?_
          refine r_iadd (v := (nI ((t 0) + 2))) S (nI_add (t 0) 2) dX11_spells_47 ?_
          refine r_iald (v := (fd ((t 0) + 2))) S G 1 rfl (vp_in_nI (by omega) (by decide)) (congrArg fd (nI_clamp (by omega))) dX11_spells_48 ?_
          refine lv_iload zx zb dX11_spells_49 (lv_at hl 0 rfl) ?_
          refine lv_if_ne (tgt := 58) zx zb dX11_spells_51 (by decide) (fun c_25 => ?_) (fun c_25 => absurd c_25 (by decide))
          refine lv_iload zx zb dX11_spells_58 (lv_at hl 0 rfl) ?_
          refine lv_iconst (v := 1) zx zb dX11_spells_60 (by decide) ?_
          refine lv_icmp_ne (tgt := 68) zx zb dX11_spells_61 (by decide) (fun c_26 => ?_) (fun c_26 => absurd c_26 (by decide))
          refine lv_iload zx zb dX11_spells_68 (lv_at hl 0 rfl) ?_
          refine lv_iconst (v := 2) zx zb dX11_spells_70 (by decide) ?_
          refine lv_icmp_ne (tgt := 79) zx zb dX11_spells_71 (by decide) (fun c_27 => absurd (by decide) c_27) (fun c_27 => ?_)
          refine lv_iload zx zb dX11_spells_74 (lv_at hl 6 rfl) ?_
          refine lv_goto (tgt := 103) zx zb dX11_spells_76 (by decide) ?_
          refine lv_icmp_ne (tgt := 110) zx zb dX11_spells_103 (by decide) (fun c_28 => ?_) (fun c_28 => ?_)
          · refine lv_iconst (v := 0) zx zb dX11_spells_110 (by decide) ?_
            refine lv_istore (lv' := [(8, .int 0), (9, .int 2), (0, .ref m0), (1, .int 4), (2, .int 114), (3, .int 97), (4, .int 99), (5, .int 101), (6, .int 0), (7, .int 0)]) zx zb dX11_spells_111 hl (by decide) rfl (fun ls hl => ?_)
            refine lv_iinc (v := 3) (lv' := [(9, .int 3), (8, .int 0), (0, .ref m0), (1, .int 4), (2, .int 114), (3, .int 97), (4, .int 99), (5, .int 101), (6, .int 0), (7, .int 0)]) zx zb dX11_spells_113 hl (k := 1) rfl (by decide) (by decide) rfl (fun ls hl => ?_)
            refine lv_goto (tgt := 26) zx zb dX11_spells_116 (by decide) ?_
            refine lv_iload zx zb dX11_spells_26 (lv_at hl 0 rfl) ?_
            refine lv_iload_n zx zb dX11_spells_28 rfl (lv_at hl 3 rfl) ?_
            refine lv_icmp_ge (tgt := 119) zx zb dX11_spells_29 (by decide) (fun c_29 => absurd c_29 (by decide)) (fun c_29 => ?_)
            refine lv_iload zx zb dX11_spells_32 (lv_at hl 1 rfl) ?_
            refine lv_if_eq (tgt := 119) zx zb dX11_spells_34 (by decide) (fun c_30 => ?_) (fun c_30 => absurd (by decide) c_30)
            refine lv_iload zx zb dX11_spells_119 (lv_at hl 1 rfl) ?_
            exact e_int S zr zlk (by decide) G () [] rfl rfl (Or.inl rfl) (Or.inr ⟨rfl, fun h => c_28 (by rw [hK0]; exact (wrdB_t.mp h.2).2 2 (by decide))⟩) dX11_spells_121
          · refine lv_iconst (v := 1) zx zb dX11_spells_106 (by decide) ?_
            refine lv_goto (tgt := 111) zx zb dX11_spells_107 (by decide) ?_
            refine lv_istore (lv' := [(8, .int 1), (9, .int 2), (0, .ref m0), (1, .int 4), (2, .int 114), (3, .int 97), (4, .int 99), (5, .int 101), (6, .int 0), (7, .int 0)]) zx zb dX11_spells_111 hl (by decide) rfl (fun ls hl => ?_)
            refine lv_iinc (v := 3) (lv' := [(9, .int 3), (8, .int 1), (0, .ref m0), (1, .int 4), (2, .int 114), (3, .int 97), (4, .int 99), (5, .int 101), (6, .int 0), (7, .int 0)]) zx zb dX11_spells_113 hl (k := 1) rfl (by decide) (by decide) rfl (fun ls hl => ?_)
            refine lv_goto (tgt := 26) zx zb dX11_spells_116 (by decide) ?_
            refine lv_iload zx zb dX11_spells_26 (lv_at hl 0 rfl) ?_
            refine lv_iload_n zx zb dX11_spells_28 rfl (lv_at hl 3 rfl) ?_
            refine lv_icmp_ge (tgt := 119) zx zb dX11_spells_29 (by decide) (fun c_31 => absurd c_31 (by decide)) (fun c_31 => ?_)
            refine lv_iload zx zb dX11_spells_32 (lv_at hl 1 rfl) ?_
            refine lv_if_eq (tgt := 119) zx zb dX11_spells_34 (by decide) (fun c_32 => absurd c_32 (by decide)) (fun c_32 => ?_)
            refine lv_aload_n zx zb dX11_spells_37 rfl (lv_at hl 2 rfl) ?_
            refine r_get (C := RX11) (T := TX11) (N := 18) (ci := 9) (v := .ref (ma 10)) S in_X11_spells_X11 G 0 rfl rfl 10 (by decide) lk_X11_spells_39 rfl dX11_spells_38 ?_
            refine lv_aload_n zx zb dX11_spells_41 rfl (lv_at hl 2 rfl) ?_
            refine r_get (C := RX11) (T := TX11) (N := 18) (ci := 9) (v := .int (nI (t 0))) S in_X11_spells_X11 G 0 rfl rfl 12 (by decide) lk_X11_spells_217 rfl dX11_spells_42 ?_
            refine lv_iload zx zb dX11_spells_45 (lv_at hl 0 rfl) ?_
            refine r_iadd (v := (nI ((t 0) + 3))) S (nI_add (t 0) 3) dX11_spells_47 ?_
            refine r_iald (v := (fd ((t 0) + 3))) S G 1 rfl (vp_in_nI (by omega) (by decide)) (congrArg fd (nI_clamp (by omega))) dX11_spells_48 ?_
            refine lv_iload zx zb dX11_spells_49 (lv_at hl 0 rfl) ?_
            refine lv_if_ne (tgt := 58) zx zb dX11_spells_51 (by decide) (fun c_34 => ?_) (fun c_34 => absurd c_34 (by decide))
            refine lv_iload zx zb dX11_spells_58 (lv_at hl 0 rfl) ?_
            refine lv_iconst (v := 1) zx zb dX11_spells_60 (by decide) ?_
            refine lv_icmp_ne (tgt := 68) zx zb dX11_spells_61 (by decide) (fun c_35 => ?_) (fun c_35 => absurd c_35 (by decide))
            refine lv_iload zx zb dX11_spells_68 (lv_at hl 0 rfl) ?_
            refine lv_iconst (v := 2) zx zb dX11_spells_70 (by decide) ?_
            refine lv_icmp_ne (tgt := 79) zx zb dX11_spells_71 (by decide) (fun c_36 => ?_) (fun c_36 => absurd c_36 (by decide))
            refine lv_iload zx zb dX11_spells_79 (lv_at hl 0 rfl) ?_
            refine lv_iconst (v := 3) zx zb dX11_spells_81 (by decide) ?_
            refine lv_icmp_ne (tgt := 90) zx zb dX11_spells_82 (by decide) (fun c_37 => absurd (by decide) c_37) (fun c_37 => ?_)
            refine lv_iload zx zb dX11_spells_85 (lv_at hl 7 rfl) ?_
            refine lv_goto (tgt := 103) zx zb dX11_spells_87 (by decide) ?_
            refine lv_icmp_ne (tgt := 110) zx zb dX11_spells_103 (by decide) (fun c_38 => ?_) (fun c_38 => ?_)
            · refine lv_iconst (v := 0) zx zb dX11_spells_110 (by decide) ?_
              refine lv_istore (lv' := [(8, .int 0), (9, .int 3), (0, .ref m0), (1, .int 4), (2, .int 114), (3, .int 97), (4, .int 99), (5, .int 101), (6, .int 0), (7, .int 0)]) zx zb dX11_spells_111 hl (by decide) rfl (fun ls hl => ?_)
              refine lv_iinc (v := 4) (lv' := [(9, .int 4), (8, .int 0), (0, .ref m0), (1, .int 4), (2, .int 114), (3, .int 97), (4, .int 99), (5, .int 101), (6, .int 0), (7, .int 0)]) zx zb dX11_spells_113 hl (k := 1) rfl (by decide) (by decide) rfl (fun ls hl => ?_)
              refine lv_goto (tgt := 26) zx zb dX11_spells_116 (by decide) ?_
              refine lv_iload zx zb dX11_spells_26 (lv_at hl 0 rfl) ?_
              refine lv_iload_n zx zb dX11_spells_28 rfl (lv_at hl 3 rfl) ?_
              refine lv_icmp_ge (tgt := 119) zx zb dX11_spells_29 (by decide) (fun c_39 => ?_) (fun c_39 => absurd (by decide) c_39)
              refine lv_iload zx zb dX11_spells_119 (lv_at hl 1 rfl) ?_
              exact e_int S zr zlk (by decide) G () [] rfl rfl (Or.inl rfl) (Or.inr ⟨rfl, fun h => c_38 (by rw [hK0]; exact (wrdB_t.mp h.2).2 3 (by decide))⟩) dX11_spells_121
            · refine lv_iconst (v := 1) zx zb dX11_spells_106 (by decide) ?_
              refine lv_goto (tgt := 111) zx zb dX11_spells_107 (by decide) ?_
              refine lv_istore (lv' := [(8, .int 1), (9, .int 3), (0, .ref m0), (1, .int 4), (2, .int 114), (3, .int 97), (4, .int 99), (5, .int 101), (6, .int 0), (7, .int 0)]) zx zb dX11_spells_111 hl (by decide) rfl (fun ls hl => ?_)
              refine lv_iinc (v := 4) (lv' := [(9, .int 4), (8, .int 1), (0, .ref m0), (1, .int 4), (2, .int 114), (3, .int 97), (4, .int 99), (5, .int 101), (6, .int 0), (7, .int 0)]) zx zb dX11_spells_113 hl (k := 1) rfl (by decide) (by decide) rfl (fun ls hl => ?_)
              refine lv_goto (tgt := 26) zx zb dX11_spells_116 (by decide) ?_
              refine lv_iload zx zb dX11_spells_26 (lv_at hl 0 rfl) ?_
              refine lv_iload_n zx zb dX11_spells_28 rfl (lv_at hl 3 rfl) ?_
              refine lv_icmp_ge (tgt := 119) zx zb dX11_spells_29 (by decide) (fun c_40 => ?_) (fun c_40 => absurd (by decide) c_40)
              refine lv_iload zx zb dX11_spells_119 (lv_at hl 1 rfl) ?_
              exact e_int S zr zlk (by decide) G () [] rfl rfl (Or.inl rfl) (Or.inl ⟨rfl, hK2.symm.trans c_1, wrdB_t.mpr ⟨(show tE fd n s0 - s0 = 4 from by omega), k_al4 (by rw [← hK0]; exact c_11) (by rw [← hK0]; exact c_19) (by rw [← hK0]; exact c_28) (by rw [← hK0]; exact c_38)⟩⟩) dX11_spells_121
set_option maxHeartbeats 4000000 in
set_option maxRecDepth 100000 in
theorem y_spells1 (l : Launch) (X : EX) (m0 : Nat) (ma : Nat → Nat) (la : Int64) (lb : Int64) (n : Nat) (t : Nat → Nat) (v : Nat → Int32) (fd : Nat → Int32) (s0 : Nat) (hI_n : n ≤ 150) (hI_t : InT t) (hK : tkM fd n t v s0) (sz : Nat) : Met l yX11_spells wsX11_spells ({ frames := 0, cells := 0, slots := 0, locals := 0 } : Room) (pE X [.ref m0, .int 3, .int 111, .int 110, .int 101, .int 0, .int 0, .int 0] (@HAppend.hAppend va_W va_W va_W _ (mW m0 ma la lb n t v) ([((ma 10), .inl (X.2.1, 150, .inl fd))])) sz) (qI (fun (r : Int32) (u : Unit) => (r = 1 ∧ tK fd n s0 = 1 ∧ wrdB fd n s0 1 = true) ∨ (r = 0 ∧ ¬ (tK fd n s0 = 1 ∧ wrdB fd n s0 1 = true))) X (fun (u : Unit) => []) [] sz) 0 0 (va_A [] sz) := by
  refine mk_met (B := (fun _ => True)) (A := (va_A [] sz)) (cc := cX11_spells) (maxL := 10) (ret := (some .boolean)) (by decide) rfl (Nat.le_of_ble_eq_true rfl) k_ro k_a (fun p e s m below meth c S zr zlk znm zsz G ls hl => ?_)
  have S : CallFix p m c cX11_spells 10 s _ wsX11_spells RX11 := S
  have zx := S.1
  have zb := S.2.1
  have hl : lv_has ls 10 [(0, .ref m0), (1, .int 3), (2, .int 111), (3, .int 110), (4, .int 101), (5, .int 0), (6, .int 0), (7, .int 0)] := hl
  have hO_t := hI_t
  obtain ⟨ht0_t, ht1_t⟩ := hO_t
  obtain ⟨hK0, hK1, hK2, hK3, hK4⟩ := hK
  have hTe := tE_le (T := fd) (n := n) (s := s0) hK4
  refine lv_aload_n zx zb dX11_spells_0 rfl (lv_at hl 0 rfl) ?_
  refine r_get (C := RX11) (T := TX11) (N := 18) (ci := 9) (v := .int (v 0)) S in_X11_spells_X11 G 0 rfl rfl 14 (by decide) lk_X11_spells_223 rfl dX11_spells_1 ?_
  refine lv_iconst (v := 1) zx zb dX11_spells_4 (by decide) ?_
  refine lv_icmp_ne (tgt := 20) zx zb dX11_spells_5 (by decide) (fun c_1 => ?_) (fun c_1 => ?_)
  · refine lv_iconst (v := 0) zx zb dX11_spells_20 (by decide) ?_
    refine lv_istore (lv' := [(8, .int 0), (0, .ref m0), (1, .int 3), (2, .int 111), (3, .int 110), (4, .int 101), (5, .int 0), (6, .int 0), (7, .int 0)]) zx zb dX11_spells_21 hl (by decide) rfl (fun ls hl => ?_)
    refine lv_iconst (v := 0) zx zb dX11_spells_23 (by decide) ?_
    refine lv_istore (lv' := [(9, .int 0), (8, .int 0), (0, .ref m0), (1, .int 3), (2, .int 111), (3, .int 110), (4, .int 101), (5, .int 0), (6, .int 0), (7, .int 0)]) zx zb dX11_spells_24 hl (by decide) rfl (fun ls hl => ?_)
    refine lv_iload zx zb dX11_spells_26 (lv_at hl 0 rfl) ?_
    refine lv_iload_n zx zb dX11_spells_28 rfl (lv_at hl 3 rfl) ?_
    refine lv_icmp_ge (tgt := 119) zx zb dX11_spells_29 (by decide) (fun c_2 => absurd c_2 (by decide)) (fun c_2 => ?_)
    refine lv_iload zx zb dX11_spells_32 (lv_at hl 1 rfl) ?_
    refine lv_if_eq (tgt := 119) zx zb dX11_spells_34 (by decide) (fun c_3 => ?_) (fun c_3 => absurd (by decide) c_3)
    refine lv_iload zx zb dX11_spells_119 (lv_at hl 1 rfl) ?_
    exact e_int S zr zlk (by decide) G () [] rfl rfl (Or.inl rfl) (Or.inr ⟨rfl, fun h => c_1 (hK2.trans h.1)⟩) dX11_spells_121
  · refine lv_aload_n zx zb dX11_spells_8 rfl (lv_at hl 0 rfl) ?_
    refine r_get (C := RX11) (T := TX11) (N := 18) (ci := 9) (v := .int (nI (t 1))) S in_X11_spells_X11 G 0 rfl rfl 13 (by decide) lk_X11_spells_220 rfl dX11_spells_9 ?_
    refine lv_iload_n zx zb dX11_spells_12 rfl (lv_at hl 1 rfl) ?_
    refine lv_icmp_ne (tgt := 20) zx zb dX11_spells_13 (by decide) (fun c_4 => ?_) (fun c_4 => ?_)
    · have fc_4 := j_ne (a := (t 1)) (b := 3) c_4
      refine lv_iconst (v := 0) zx zb dX11_spells_20 (by decide) ?_
      refine lv_istore (lv' := [(8, .int 0), (0, .ref m0), (1, .int 3), (2, .int 111), (3, .int 110), (4, .int 101), (5, .int 0), (6, .int 0), (7, .int 0)]) zx zb dX11_spells_21 hl (by decide) rfl (fun ls hl => ?_)
      refine lv_iconst (v := 0) zx zb dX11_spells_23 (by decide) ?_
      refine lv_istore (lv' := [(9, .int 0), (8, .int 0), (0, .ref m0), (1, .int 3), (2, .int 111), (3, .int 110), (4, .int 101), (5, .int 0), (6, .int 0), (7, .int 0)]) zx zb dX11_spells_24 hl (by decide) rfl (fun ls hl => ?_)
      refine lv_iload zx zb dX11_spells_26 (lv_at hl 0 rfl) ?_
      refine lv_iload_n zx zb dX11_spells_28 rfl (lv_at hl 3 rfl) ?_
      refine lv_icmp_ge (tgt := 119) zx zb dX11_spells_29 (by decide) (fun c_5 => absurd c_5 (by decide)) (fun c_5 => ?_)
      refine lv_iload zx zb dX11_spells_32 (lv_at hl 1 rfl) ?_
      refine lv_if_eq (tgt := 119) zx zb dX11_spells_34 (by decide) (fun c_6 => ?_) (fun c_6 => absurd (by decide) c_6)
      refine lv_iload zx zb dX11_spells_119 (lv_at hl 1 rfl) ?_
      exact e_int S zr zlk (by decide) G () [] rfl rfl (Or.inl rfl) (Or.inr ⟨rfl, fun h => absurd (wrdB_t.mp h.2).1 (show ¬ tE fd n s0 - s0 = 3 from by omega)⟩) dX11_spells_121
    · have fc_4 := j_eq (a := (t 1)) (b := 3) (by omega) (by omega) c_4
      refine lv_iconst (v := 1) zx zb dX11_spells_16 (by decide) ?_
      refine lv_goto (tgt := 21) zx zb dX11_spells_17 (by decide) ?_
      refine lv_istore (lv' := [(8, .int 1), (0, .ref m0), (1, .int 3), (2, .int 111), (3, .int 110), (4, .int 101), (5, .int 0), (6, .int 0), (7, .int 0)]) zx zb dX11_spells_21 hl (by decide) rfl (fun ls hl => ?_)
      refine lv_iconst (v := 0) zx zb dX11_spells_23 (by decide) ?_
      refine lv_istore (lv' := [(9, .int 0), (8, .int 1), (0, .ref m0), (1, .int 3), (2, .int 111), (3, .int 110), (4, .int 101), (5, .int 0), (6, .int 0), (7, .int 0)]) zx zb dX11_spells_24 hl (by decide) rfl (fun ls hl => ?_)
      refine lv_iload zx zb dX11_spells_26 (lv_at hl 0 rfl) ?_
      refine lv_iload_n zx zb dX11_spells_28 rfl (lv_at hl 3 rfl) ?_
      refine lv_icmp_ge (tgt := 119) zx zb dX11_spells_29 (by decide) (fun c_7 => absurd c_7 (by decide)) (fun c_7 => ?_)
      refine lv_iload zx zb dX11_spells_32 (lv_at hl 1 rfl) ?_
      refine lv_if_eq (tgt := 119) zx zb dX11_spells_34 (by decide) (fun c_8 => absurd c_8 (by decide)) (fun c_8 => ?_)
      refine lv_aload_n zx zb dX11_spells_37 rfl (lv_at hl 2 rfl) ?_
      refine r_get (C := RX11) (T := TX11) (N := 18) (ci := 9) (v := .ref (ma 10)) S in_X11_spells_X11 G 0 rfl rfl 10 (by decide) lk_X11_spells_39 rfl dX11_spells_38 ?_
      refine lv_aload_n zx zb dX11_spells_41 rfl (lv_at hl 2 rfl) ?_
      refine r_get (C := RX11) (T := TX11) (N := 18) (ci := 9) (v := .int (nI (t 0))) S in_X11_spells_X11 G 0 rfl rfl 12 (by decide) lk_X11_spells_217 rfl dX11_spells_42 ?_
      refine lv_iload zx zb dX11_spells_45 (lv_at hl 0 rfl) ?_
      refine r_iadd (v := (nI ((t 0) + 0))) S (nI_add (t 0) 0) dX11_spells_47 ?_
      refine r_iald (v := (fd ((t 0) + 0))) S G 1 rfl (vp_in_nI (by omega) (by decide)) (congrArg fd (nI_clamp (by omega))) dX11_spells_48 ?_
      refine lv_iload zx zb dX11_spells_49 (lv_at hl 0 rfl) ?_
      refine lv_if_ne (tgt := 58) zx zb dX11_spells_51 (by decide) (fun c_10 => absurd (by decide) c_10) (fun c_10 => ?_)
      refine lv_iload_n zx zb dX11_spells_54 rfl (lv_at hl 4 rfl) ?_
      refine lv_goto (tgt := 103) zx zb dX11_spells_55 (by decide) ?_
      refine lv_icmp_ne (tgt := 110) zx zb dX11_spells_103 (by decide) (fun c_11 => ?_) (fun c_11 => ?_)
      · refine lv_iconst (v := 0) zx zb dX11_spells_110 (by decide) ?_
        refine lv_istore (lv' := [(8, .int 0), (9, .int 0), (0, .ref m0), (1, .int 3), (2, .int 111), (3, .int 110), (4, .int 101), (5, .int 0), (6, .int 0), (7, .int 0)]) zx zb dX11_spells_111 hl (by decide) rfl (fun ls hl => ?_)
        refine lv_iinc (v := 1) (lv' := [(9, .int 1), (8, .int 0), (0, .ref m0), (1, .int 3), (2, .int 111), (3, .int 110), (4, .int 101), (5, .int 0), (6, .int 0), (7, .int 0)]) zx zb dX11_spells_113 hl (k := 1) rfl (by decide) (by decide) rfl (fun ls hl => ?_)
        refine lv_goto (tgt := 26) zx zb dX11_spells_116 (by decide) ?_
        refine lv_iload zx zb dX11_spells_26 (lv_at hl 0 rfl) ?_
        refine lv_iload_n zx zb dX11_spells_28 rfl (lv_at hl 3 rfl) ?_
        refine lv_icmp_ge (tgt := 119) zx zb dX11_spells_29 (by decide) (fun c_12 => absurd c_12 (by decide)) (fun c_12 => ?_)
        refine lv_iload zx zb dX11_spells_32 (lv_at hl 1 rfl) ?_
        refine lv_if_eq (tgt := 119) zx zb dX11_spells_34 (by decide) (fun c_13 => ?_) (fun c_13 => absurd (by decide) c_13)
        refine lv_iload zx zb dX11_spells_119 (lv_at hl 1 rfl) ?_
        exact e_int S zr zlk (by decide) G () [] rfl rfl (Or.inl rfl) (Or.inr ⟨rfl, fun h => c_11 (by rw [hK0]; exact (wrdB_t.mp h.2).2 0 (by decide))⟩) dX11_spells_121
      · refine lv_iconst (v := 1) zx zb dX11_spells_106 (by decide) ?_
        refine lv_goto (tgt := 111) zx zb dX11_spells_107 (by decide) ?_
        refine lv_istore (lv' := [(8, .int 1), (9, .int 0), (0, .ref m0), (1, .int 3), (2, .int 111), (3, .int 110), (4, .int 101), (5, .int 0), (6, .int 0), (7, .int 0)]) zx zb dX11_spells_111 hl (by decide) rfl (fun ls hl => ?_)
        refine lv_iinc (v := 1) (lv' := [(9, .int 1), (8, .int 1), (0, .ref m0), (1, .int 3), (2, .int 111), (3, .int 110), (4, .int 101), (5, .int 0), (6, .int 0), (7, .int 0)]) zx zb dX11_spells_113 hl (k := 1) rfl (by decide) (by decide) rfl (fun ls hl => ?_)
        refine lv_goto (tgt := 26) zx zb dX11_spells_116 (by decide) ?_
        refine lv_iload zx zb dX11_spells_26 (lv_at hl 0 rfl) ?_
        refine lv_iload_n zx zb dX11_spells_28 rfl (lv_at hl 3 rfl) ?_
        refine lv_icmp_ge (tgt := 119) zx zb dX11_spells_29 (by decide) (fun c_14 => absurd c_14 (by decide)) (fun c_14 => ?_)
        refine lv_iload zx zb dX11_spells_32 (lv_at hl 1 rfl) ?_
        refine lv_if_eq (tgt := 119) zx zb dX11_spells_34 (by decide) (fun c_15 => absurd c_15 (by decide)) (fun c_15 => ?_)
        refine lv_aload_n zx zb dX11_spells_37 rfl (lv_at hl 2 rfl) ?_
        refine r_get (C := RX11) (T := TX11) (N := 18) (ci := 9) (v := .ref (ma 10)) S in_X11_spells_X11 G 0 rfl rfl 10 (by decide) lk_X11_spells_39 rfl dX11_spells_38 ?_
        refine lv_aload_n zx zb dX11_spells_41 rfl (lv_at hl 2 rfl) ?_
        refine r_get (C := RX11) (T := TX11) (N := 18) (ci := 9) (v := .int (nI (t 0))) S in_X11_spells_X11 G 0 rfl rfl 12 (by decide) lk_X11_spells_217 rfl dX11_spells_42 ?_
        refine lv_iload zx zb dX11_spells_45 (lv_at hl 0 rfl) ?_
        refine r_iadd (v := (nI ((t 0) + 1))) S (nI_add (t 0) 1) dX11_spells_47 ?_
        refine r_iald (v := (fd ((t 0) + 1))) S G 1 rfl (vp_in_nI (by omega) (by decide)) (congrArg fd (nI_clamp (by omega))) dX11_spells_48 ?_
        refine lv_iload zx zb dX11_spells_49 (lv_at hl 0 rfl) ?_
        refine lv_if_ne (tgt := 58) zx zb dX11_spells_51 (by decide) (fun c_17 => ?_) (fun c_17 => absurd c_17 (by decide))
        refine lv_iload zx zb dX11_spells_58 (lv_at hl 0 rfl) ?_
        refine lv_iconst (v := 1) zx zb dX11_spells_60 (by decide) ?_
        refine lv_icmp_ne (tgt := 68) zx zb dX11_spells_61 (by decide) (fun c_18 => absurd (by decide) c_18) (fun c_18 => ?_)
        refine lv_iload_n zx zb dX11_spells_64 rfl (lv_at hl 5 rfl) ?_
        refine lv_goto (tgt := 103) zx zb dX11_spells_65 (by decide) ?_
        refine lv_icmp_ne (tgt := 110) zx zb dX11_spells_103 (by decide) (fun c_19 => ?_) (fun c_19 => ?_)
        · refine lv_iconst (v := 0) zx zb dX11_spells_110 (by decide) ?_
          refine lv_istore (lv' := [(8, .int 0), (9, .int 1), (0, .ref m0), (1, .int 3), (2, .int 111), (3, .int 110), (4, .int 101), (5, .int 0), (6, .int 0), (7, .int 0)]) zx zb dX11_spells_111 hl (by decide) rfl (fun ls hl => ?_)
          refine lv_iinc (v := 2) (lv' := [(9, .int 2), (8, .int 0), (0, .ref m0), (1, .int 3), (2, .int 111), (3, .int 110), (4, .int 101), (5, .int 0), (6, .int 0), (7, .int 0)]) zx zb dX11_spells_113 hl (k := 1) rfl (by decide) (by decide) rfl (fun ls hl => ?_)
          refine lv_goto (tgt := 26) zx zb dX11_spells_116 (by decide) ?_
          refine lv_iload zx zb dX11_spells_26 (lv_at hl 0 rfl) ?_
          refine lv_iload_n zx zb dX11_spells_28 rfl (lv_at hl 3 rfl) ?_
          refine lv_icmp_ge (tgt := 119) zx zb dX11_spells_29 (by decide) (fun c_20 => absurd c_20 (by decide)) (fun c_20 => ?_)
          refine lv_iload zx zb dX11_spells_32 (lv_at hl 1 rfl) ?_
          refine lv_if_eq (tgt := 119) zx zb dX11_spells_34 (by decide) (fun c_21 => ?_) (fun c_21 => absurd (by decide) c_21)
          refine lv_iload zx zb dX11_spells_119 (lv_at hl 1 rfl) ?_
          exact e_int S zr zlk (by decide) G () [] rfl rfl (Or.inl rfl) (Or.inr ⟨rfl, fun h => c_19 (by rw [hK0]; exact (wrdB_t.mp h.2).2 1 (by decide))⟩) dX11_spells_121
        · refine lv_iconst (v := 1) zx zb dX11_spells_106 (by decide) ?_
          refine lv_goto (tgt := 111) zx zb dX11_spells_107 (by decide) ?_
          refine lv_istore (lv' := [(8, .int 1), (9, .int 1), (0, .ref m0), (1, .int 3), (2, .int 111), (3, .int 110), (4, .int 101), (5, .int 0), (6, .int 0), (7, .int 0)]) zx zb dX11_spells_111 hl (by decide) rfl (fun ls hl => ?_)
          refine lv_iinc (v := 2) (lv' := [(9, .int 2), (8, .int 1), (0, .ref m0), (1, .int 3), (2, .int 111), (3, .int 110), (4, .int 101), (5, .int 0), (6, .int 0), (7, .int 0)]) zx zb dX11_spells_113 hl (k := 1) rfl (by decide) (by decide) rfl (fun ls hl => ?_)
          refine lv_goto (tgt := 26) zx zb dX11_spells_116 (by decide) ?_
          refine lv_iload zx zb dX11_spells_26 (lv_at hl 0 rfl) ?_
          refine lv_iload_n zx zb dX11_spells_28 rfl (lv_at hl 3 rfl) ?_
          refine lv_icmp_ge (tgt := 119) zx zb dX11_spells_29 (by decide) (fun c_22 => absurd c_22 (by decide)) (fun c_22 => ?_)
          refine lv_iload zx zb dX11_spells_32 (lv_at hl 1 rfl) ?_
          refine lv_if_eq (tgt := 119) zx zb dX11_spells_34 (by decide) (fun c_23 => absurd c_23 (by decide)) (fun c_23 => ?_)
          refine lv_aload_n zx zb dX11_spells_37 rfl (lv_at hl 2 rfl) ?_
          refine r_get (C := RX11) (T := TX11) (N := 18) (ci := 9) (v := .ref (ma 10)) S in_X11_spells_X11 G 0 rfl rfl 10 (by decide) lk_X11_spells_39 rfl dX11_spells_38 ?_
          refine lv_aload_n zx zb dX11_spells_41 rfl (lv_at hl 2 rfl) ?_
          refine r_get (C := RX11) (T := TX11) (N := 18) (ci := 9) (v := .int (nI (t 0))) S in_X11_spells_X11 G 0 rfl rfl 12 (by decide) lk_X11_spells_217 rfl dX11_spells_42 ?_
          refine lv_iload zx zb dX11_spells_45 (lv_at hl 0 rfl) ?_
          refine r_iadd (v := (nI ((t 0) + 2))) S (nI_add (t 0) 2) dX11_spells_47 ?_
          refine r_iald (v := (fd ((t 0) + 2))) S G 1 rfl (vp_in_nI (by omega) (by decide)) (congrArg fd (nI_clamp (by omega))) dX11_spells_48 ?_
          refine lv_iload zx zb dX11_spells_49 (lv_at hl 0 rfl) ?_
          refine lv_if_ne (tgt := 58) zx zb dX11_spells_51 (by decide) (fun c_25 => ?_) (fun c_25 => absurd c_25 (by decide))
          refine lv_iload zx zb dX11_spells_58 (lv_at hl 0 rfl) ?_
          refine lv_iconst (v := 1) zx zb dX11_spells_60 (by decide) ?_
          refine lv_icmp_ne (tgt := 68) zx zb dX11_spells_61 (by decide) (fun c_26 => ?_) (fun c_26 => absurd c_26 (by decide))
          refine lv_iload zx zb dX11_spells_68 (lv_at hl 0 rfl) ?_
          refine lv_iconst (v := 2) zx zb dX11_spells_70 (by decide) ?_
          refine lv_icmp_ne (tgt := 79) zx zb dX11_spells_71 (by decide) (fun c_27 => absurd (by decide) c_27) (fun c_27 => ?_)
          refine lv_iload zx zb dX11_spells_74 (lv_at hl 6 rfl) ?_
          refine lv_goto (tgt := 103) zx zb dX11_spells_76 (by decide) ?_
          refine lv_icmp_ne (tgt := 110) zx zb dX11_spells_103 (by decide) (fun c_28 => ?_) (fun c_28 => ?_)
          · refine lv_iconst (v := 0) zx zb dX11_spells_110 (by decide) ?_
            refine lv_istore (lv' := [(8, .int 0), (9, .int 2), (0, .ref m0), (1, .int 3), (2, .int 111), (3, .int 110), (4, .int 101), (5, .int 0), (6, .int 0), (7, .int 0)]) zx zb dX11_spells_111 hl (by decide) rfl (fun ls hl => ?_)
            refine lv_iinc (v := 3) (lv' := [(9, .int 3), (8, .int 0), (0, .ref m0), (1, .int 3), (2, .int 111), (3, .int 110), (4, .int 101), (5, .int 0), (6, .int 0), (7, .int 0)]) zx zb dX11_spells_113 hl (k := 1) rfl (by decide) (by decide) rfl (fun ls hl => ?_)
            refine lv_goto (tgt := 26) zx zb dX11_spells_116 (by decide) ?_
            refine lv_iload zx zb dX11_spells_26 (lv_at hl 0 rfl) ?_
            refine lv_iload_n zx zb dX11_spells_28 rfl (lv_at hl 3 rfl) ?_
            refine lv_icmp_ge (tgt := 119) zx zb dX11_spells_29 (by decide) (fun c_29 => ?_) (fun c_29 => absurd (by decide) c_29)
            refine lv_iload zx zb dX11_spells_119 (lv_at hl 1 rfl) ?_
            exact e_int S zr zlk (by decide) G () [] rfl rfl (Or.inl rfl) (Or.inr ⟨rfl, fun h => c_28 (by rw [hK0]; exact (wrdB_t.mp h.2).2 2 (by decide))⟩) dX11_spells_121
          · refine lv_iconst (v := 1) zx zb dX11_spells_106 (by decide) ?_
            refine lv_goto (tgt := 111) zx zb dX11_spells_107 (by decide) ?_
            refine lv_istore (lv' := [(8, .int 1), (9, .int 2), (0, .ref m0), (1, .int 3), (2, .int 111), (3, .int 110), (4, .int 101), (5, .int 0), (6, .int 0), (7, .int 0)]) zx zb dX11_spells_111 hl (by decide) rfl (fun ls hl => ?_)
            refine lv_iinc (v := 3) (lv' := [(9, .int 3), (8, .int 1), (0, .ref m0), (1, .int 3), (2, .int 111), (3, .int 110), (4, .int 101), (5, .int 0), (6, .int 0), (7, .int 0)]) zx zb dX11_spells_113 hl (k := 1) rfl (by decide) (by decide) rfl (fun ls hl => ?_)
            refine lv_goto (tgt := 26) zx zb dX11_spells_116 (by decide) ?_
            refine lv_iload zx zb dX11_spells_26 (lv_at hl 0 rfl) ?_
            refine lv_iload_n zx zb dX11_spells_28 rfl (lv_at hl 3 rfl) ?_
            refine lv_icmp_ge (tgt := 119) zx zb dX11_spells_29 (by decide) (fun c_30 => ?_) (fun c_30 => absurd (by decide) c_30)
            refine lv_iload zx zb dX11_spells_119 (lv_at hl 1 rfl) ?_
            exact e_int S zr zlk (by decide) G () [] rfl rfl (Or.inl rfl) (Or.inl ⟨rfl, hK2.symm.trans c_1, wrdB_t.mpr ⟨(show tE fd n s0 - s0 = 3 from by omega), k_al3 (by rw [← hK0]; exact c_11) (by rw [← hK0]; exact c_19) (by rw [← hK0]; exact c_28)⟩⟩) dX11_spells_121
set_option maxHeartbeats 4000000 in
set_option maxRecDepth 100000 in
theorem y_spells2 (l : Launch) (X : EX) (m0 : Nat) (ma : Nat → Nat) (la : Int64) (lb : Int64) (n : Nat) (t : Nat → Nat) (v : Nat → Int32) (fd : Nat → Int32) (s0 : Nat) (hI_n : n ≤ 150) (hI_t : InT t) (hK : tkM fd n t v s0) (sz : Nat) : Met l yX11_spells wsX11_spells ({ frames := 0, cells := 0, slots := 0, locals := 0 } : Room) (pE X [.ref m0, .int 5, .int 115, .int 112, .int 101, .int 101, .int 100, .int 0] (@HAppend.hAppend va_W va_W va_W _ (mW m0 ma la lb n t v) ([((ma 10), .inl (X.2.1, 150, .inl fd))])) sz) (qI (fun (r : Int32) (u : Unit) => (r = 1 ∧ tK fd n s0 = 1 ∧ wrdB fd n s0 2 = true) ∨ (r = 0 ∧ ¬ (tK fd n s0 = 1 ∧ wrdB fd n s0 2 = true))) X (fun (u : Unit) => []) [] sz) 0 0 (va_A [] sz) := by
  refine mk_met (B := (fun _ => True)) (A := (va_A [] sz)) (cc := cX11_spells) (maxL := 10) (ret := (some .boolean)) (by decide) rfl (Nat.le_of_ble_eq_true rfl) k_ro k_a (fun p e s m below meth c S zr zlk znm zsz G ls hl => ?_)
  have S : CallFix p m c cX11_spells 10 s _ wsX11_spells RX11 := S
  have zx := S.1
  have zb := S.2.1
  have hl : lv_has ls 10 [(0, .ref m0), (1, .int 5), (2, .int 115), (3, .int 112), (4, .int 101), (5, .int 101), (6, .int 100), (7, .int 0)] := hl
  have hO_t := hI_t
  obtain ⟨ht0_t, ht1_t⟩ := hO_t
  obtain ⟨hK0, hK1, hK2, hK3, hK4⟩ := hK
  have hTe := tE_le (T := fd) (n := n) (s := s0) hK4
  refine lv_aload_n zx zb dX11_spells_0 rfl (lv_at hl 0 rfl) ?_
  refine r_get (C := RX11) (T := TX11) (N := 18) (ci := 9) (v := .int (v 0)) S in_X11_spells_X11 G 0 rfl rfl 14 (by decide) lk_X11_spells_223 rfl dX11_spells_1 ?_
  refine lv_iconst (v := 1) zx zb dX11_spells_4 (by decide) ?_
  refine lv_icmp_ne (tgt := 20) zx zb dX11_spells_5 (by decide) (fun c_1 => ?_) (fun c_1 => ?_)
  · refine lv_iconst (v := 0) zx zb dX11_spells_20 (by decide) ?_
    refine lv_istore (lv' := [(8, .int 0), (0, .ref m0), (1, .int 5), (2, .int 115), (3, .int 112), (4, .int 101), (5, .int 101), (6, .int 100), (7, .int 0)]) zx zb dX11_spells_21 hl (by decide) rfl (fun ls hl => ?_)
    refine lv_iconst (v := 0) zx zb dX11_spells_23 (by decide) ?_
    refine lv_istore (lv' := [(9, .int 0), (8, .int 0), (0, .ref m0), (1, .int 5), (2, .int 115), (3, .int 112), (4, .int 101), (5, .int 101), (6, .int 100), (7, .int 0)]) zx zb dX11_spells_24 hl (by decide) rfl (fun ls hl => ?_)
    refine lv_iload zx zb dX11_spells_26 (lv_at hl 0 rfl) ?_
    refine lv_iload_n zx zb dX11_spells_28 rfl (lv_at hl 3 rfl) ?_
    refine lv_icmp_ge (tgt := 119) zx zb dX11_spells_29 (by decide) (fun c_2 => absurd c_2 (by decide)) (fun c_2 => ?_)
    refine lv_iload zx zb dX11_spells_32 (lv_at hl 1 rfl) ?_
    refine lv_if_eq (tgt := 119) zx zb dX11_spells_34 (by decide) (fun c_3 => ?_) (fun c_3 => absurd (by decide) c_3)
    refine lv_iload zx zb dX11_spells_119 (lv_at hl 1 rfl) ?_
    exact e_int S zr zlk (by decide) G () [] rfl rfl (Or.inl rfl) (Or.inr ⟨rfl, fun h => c_1 (hK2.trans h.1)⟩) dX11_spells_121
  · refine lv_aload_n zx zb dX11_spells_8 rfl (lv_at hl 0 rfl) ?_
    refine r_get (C := RX11) (T := TX11) (N := 18) (ci := 9) (v := .int (nI (t 1))) S in_X11_spells_X11 G 0 rfl rfl 13 (by decide) lk_X11_spells_220 rfl dX11_spells_9 ?_
    refine lv_iload_n zx zb dX11_spells_12 rfl (lv_at hl 1 rfl) ?_
    refine lv_icmp_ne (tgt := 20) zx zb dX11_spells_13 (by decide) (fun c_4 => ?_) (fun c_4 => ?_)
    · have fc_4 := j_ne (a := (t 1)) (b := 5) c_4
      refine lv_iconst (v := 0) zx zb dX11_spells_20 (by decide) ?_
      refine lv_istore (lv' := [(8, .int 0), (0, .ref m0), (1, .int 5), (2, .int 115), (3, .int 112), (4, .int 101), (5, .int 101), (6, .int 100), (7, .int 0)]) zx zb dX11_spells_21 hl (by decide) rfl (fun ls hl => ?_)
      refine lv_iconst (v := 0) zx zb dX11_spells_23 (by decide) ?_
      refine lv_istore (lv' := [(9, .int 0), (8, .int 0), (0, .ref m0), (1, .int 5), (2, .int 115), (3, .int 112), (4, .int 101), (5, .int 101), (6, .int 100), (7, .int 0)]) zx zb dX11_spells_24 hl (by decide) rfl (fun ls hl => ?_)
      refine lv_iload zx zb dX11_spells_26 (lv_at hl 0 rfl) ?_
      refine lv_iload_n zx zb dX11_spells_28 rfl (lv_at hl 3 rfl) ?_
      refine lv_icmp_ge (tgt := 119) zx zb dX11_spells_29 (by decide) (fun c_5 => absurd c_5 (by decide)) (fun c_5 => ?_)
      refine lv_iload zx zb dX11_spells_32 (lv_at hl 1 rfl) ?_
      refine lv_if_eq (tgt := 119) zx zb dX11_spells_34 (by decide) (fun c_6 => ?_) (fun c_6 => absurd (by decide) c_6)
      refine lv_iload zx zb dX11_spells_119 (lv_at hl 1 rfl) ?_
      exact e_int S zr zlk (by decide) G () [] rfl rfl (Or.inl rfl) (Or.inr ⟨rfl, fun h => absurd (wrdB_t.mp h.2).1 (show ¬ tE fd n s0 - s0 = 5 from by omega)⟩) dX11_spells_121
    · have fc_4 := j_eq (a := (t 1)) (b := 5) (by omega) (by omega) c_4
      refine lv_iconst (v := 1) zx zb dX11_spells_16 (by decide) ?_
      refine lv_goto (tgt := 21) zx zb dX11_spells_17 (by decide) ?_
      refine lv_istore (lv' := [(8, .int 1), (0, .ref m0), (1, .int 5), (2, .int 115), (3, .int 112), (4, .int 101), (5, .int 101), (6, .int 100), (7, .int 0)]) zx zb dX11_spells_21 hl (by decide) rfl (fun ls hl => ?_)
      refine lv_iconst (v := 0) zx zb dX11_spells_23 (by decide) ?_
      refine lv_istore (lv' := [(9, .int 0), (8, .int 1), (0, .ref m0), (1, .int 5), (2, .int 115), (3, .int 112), (4, .int 101), (5, .int 101), (6, .int 100), (7, .int 0)]) zx zb dX11_spells_24 hl (by decide) rfl (fun ls hl => ?_)
      refine lv_iload zx zb dX11_spells_26 (lv_at hl 0 rfl) ?_
      refine lv_iload_n zx zb dX11_spells_28 rfl (lv_at hl 3 rfl) ?_
      refine lv_icmp_ge (tgt := 119) zx zb dX11_spells_29 (by decide) (fun c_7 => absurd c_7 (by decide)) (fun c_7 => ?_)
      refine lv_iload zx zb dX11_spells_32 (lv_at hl 1 rfl) ?_
      refine lv_if_eq (tgt := 119) zx zb dX11_spells_34 (by decide) (fun c_8 => absurd c_8 (by decide)) (fun c_8 => ?_)
      refine lv_aload_n zx zb dX11_spells_37 rfl (lv_at hl 2 rfl) ?_
      refine r_get (C := RX11) (T := TX11) (N := 18) (ci := 9) (v := .ref (ma 10)) S in_X11_spells_X11 G 0 rfl rfl 10 (by decide) lk_X11_spells_39 rfl dX11_spells_38 ?_
      refine lv_aload_n zx zb dX11_spells_41 rfl (lv_at hl 2 rfl) ?_
      refine r_get (C := RX11) (T := TX11) (N := 18) (ci := 9) (v := .int (nI (t 0))) S in_X11_spells_X11 G 0 rfl rfl 12 (by decide) lk_X11_spells_217 rfl dX11_spells_42 ?_
      refine lv_iload zx zb dX11_spells_45 (lv_at hl 0 rfl) ?_
      refine r_iadd (v := (nI ((t 0) + 0))) S (nI_add (t 0) 0) dX11_spells_47 ?_
      refine r_iald (v := (fd ((t 0) + 0))) S G 1 rfl (vp_in_nI (by omega) (by decide)) (congrArg fd (nI_clamp (by omega))) dX11_spells_48 ?_
      refine lv_iload zx zb dX11_spells_49 (lv_at hl 0 rfl) ?_
      refine lv_if_ne (tgt := 58) zx zb dX11_spells_51 (by decide) (fun c_10 => absurd (by decide) c_10) (fun c_10 => ?_)
      refine lv_iload_n zx zb dX11_spells_54 rfl (lv_at hl 4 rfl) ?_
      refine lv_goto (tgt := 103) zx zb dX11_spells_55 (by decide) ?_
      refine lv_icmp_ne (tgt := 110) zx zb dX11_spells_103 (by decide) (fun c_11 => ?_) (fun c_11 => ?_)
      · refine lv_iconst (v := 0) zx zb dX11_spells_110 (by decide) ?_
        refine lv_istore (lv' := [(8, .int 0), (9, .int 0), (0, .ref m0), (1, .int 5), (2, .int 115), (3, .int 112), (4, .int 101), (5, .int 101), (6, .int 100), (7, .int 0)]) zx zb dX11_spells_111 hl (by decide) rfl (fun ls hl => ?_)
        refine lv_iinc (v := 1) (lv' := [(9, .int 1), (8, .int 0), (0, .ref m0), (1, .int 5), (2, .int 115), (3, .int 112), (4, .int 101), (5, .int 101), (6, .int 100), (7, .int 0)]) zx zb dX11_spells_113 hl (k := 1) rfl (by decide) (by decide) rfl (fun ls hl => ?_)
        refine lv_goto (tgt := 26) zx zb dX11_spells_116 (by decide) ?_
        refine lv_iload zx zb dX11_spells_26 (lv_at hl 0 rfl) ?_
        refine lv_iload_n zx zb dX11_spells_28 rfl (lv_at hl 3 rfl) ?_
        refine lv_icmp_ge (tgt := 119) zx zb dX11_spells_29 (by decide) (fun c_12 => absurd c_12 (by decide)) (fun c_12 => ?_)
        refine lv_iload zx zb dX11_spells_32 (lv_at hl 1 rfl) ?_
        refine lv_if_eq (tgt := 119) zx zb dX11_spells_34 (by decide) (fun c_13 => ?_) (fun c_13 => absurd (by decide) c_13)
        refine lv_iload zx zb dX11_spells_119 (lv_at hl 1 rfl) ?_
        exact e_int S zr zlk (by decide) G () [] rfl rfl (Or.inl rfl) (Or.inr ⟨rfl, fun h => c_11 (by rw [hK0]; exact (wrdB_t.mp h.2).2 0 (by decide))⟩) dX11_spells_121
      · refine lv_iconst (v := 1) zx zb dX11_spells_106 (by decide) ?_
        refine lv_goto (tgt := 111) zx zb dX11_spells_107 (by decide) ?_
        refine lv_istore (lv' := [(8, .int 1), (9, .int 0), (0, .ref m0), (1, .int 5), (2, .int 115), (3, .int 112), (4, .int 101), (5, .int 101), (6, .int 100), (7, .int 0)]) zx zb dX11_spells_111 hl (by decide) rfl (fun ls hl => ?_)
        refine lv_iinc (v := 1) (lv' := [(9, .int 1), (8, .int 1), (0, .ref m0), (1, .int 5), (2, .int 115), (3, .int 112), (4, .int 101), (5, .int 101), (6, .int 100), (7, .int 0)]) zx zb dX11_spells_113 hl (k := 1) rfl (by decide) (by decide) rfl (fun ls hl => ?_)
        refine lv_goto (tgt := 26) zx zb dX11_spells_116 (by decide) ?_
        refine lv_iload zx zb dX11_spells_26 (lv_at hl 0 rfl) ?_
        refine lv_iload_n zx zb dX11_spells_28 rfl (lv_at hl 3 rfl) ?_
        refine lv_icmp_ge (tgt := 119) zx zb dX11_spells_29 (by decide) (fun c_14 => absurd c_14 (by decide)) (fun c_14 => ?_)
        refine lv_iload zx zb dX11_spells_32 (lv_at hl 1 rfl) ?_
        refine lv_if_eq (tgt := 119) zx zb dX11_spells_34 (by decide) (fun c_15 => absurd c_15 (by decide)) (fun c_15 => ?_)
        refine lv_aload_n zx zb dX11_spells_37 rfl (lv_at hl 2 rfl) ?_
        refine r_get (C := RX11) (T := TX11) (N := 18) (ci := 9) (v := .ref (ma 10)) S in_X11_spells_X11 G 0 rfl rfl 10 (by decide) lk_X11_spells_39 rfl dX11_spells_38 ?_
        refine lv_aload_n zx zb dX11_spells_41 rfl (lv_at hl 2 rfl) ?_
        refine r_get (C := RX11) (T := TX11) (N := 18) (ci := 9) (v := .int (nI (t 0))) S in_X11_spells_X11 G 0 rfl rfl 12 (by decide) lk_X11_spells_217 rfl dX11_spells_42 ?_
        refine lv_iload zx zb dX11_spells_45 (lv_at hl 0 rfl) ?_
        refine r_iadd (v := (nI ((t 0) + 1))) S (nI_add (t 0) 1) dX11_spells_47 ?_
        refine r_iald (v := (fd ((t 0) + 1))) S G 1 rfl (vp_in_nI (by omega) (by decide)) (congrArg fd (nI_clamp (by omega))) dX11_spells_48 ?_
        refine lv_iload zx zb dX11_spells_49 (lv_at hl 0 rfl) ?_
        refine lv_if_ne (tgt := 58) zx zb dX11_spells_51 (by decide) (fun c_17 => ?_) (fun c_17 => absurd c_17 (by decide))
        refine lv_iload zx zb dX11_spells_58 (lv_at hl 0 rfl) ?_
        refine lv_iconst (v := 1) zx zb dX11_spells_60 (by decide) ?_
        refine lv_icmp_ne (tgt := 68) zx zb dX11_spells_61 (by decide) (fun c_18 => absurd (by decide) c_18) (fun c_18 => ?_)
        refine lv_iload_n zx zb dX11_spells_64 rfl (lv_at hl 5 rfl) ?_
        refine lv_goto (tgt := 103) zx zb dX11_spells_65 (by decide) ?_
        refine lv_icmp_ne (tgt := 110) zx zb dX11_spells_103 (by decide) (fun c_19 => ?_) (fun c_19 => ?_)
        · refine lv_iconst (v := 0) zx zb dX11_spells_110 (by decide) ?_
          refine lv_istore (lv' := [(8, .int 0), (9, .int 1), (0, .ref m0), (1, .int 5), (2, .int 115), (3, .int 112), (4, .int 101), (5, .int 101), (6, .int 100), (7, .int 0)]) zx zb dX11_spells_111 hl (by decide) rfl (fun ls hl => ?_)
          refine lv_iinc (v := 2) (lv' := [(9, .int 2), (8, .int 0), (0, .ref m0), (1, .int 5), (2, .int 115), (3, .int 112), (4, .int 101), (5, .int 101), (6, .int 100), (7, .int 0)]) zx zb dX11_spells_113 hl (k := 1) rfl (by decide) (by decide) rfl (fun ls hl => ?_)
          refine lv_goto (tgt := 26) zx zb dX11_spells_116 (by decide) ?_
          refine lv_iload zx zb dX11_spells_26 (lv_at hl 0 rfl) ?_
          refine lv_iload_n zx zb dX11_spells_28 rfl (lv_at hl 3 rfl) ?_
          refine lv_icmp_ge (tgt := 119) zx zb dX11_spells_29 (by decide) (fun c_20 => absurd c_20 (by decide)) (fun c_20 => ?_)
          refine lv_iload zx zb dX11_spells_32 (lv_at hl 1 rfl) ?_
          refine lv_if_eq (tgt := 119) zx zb dX11_spells_34 (by decide) (fun c_21 => ?_) (fun c_21 => absurd (by decide) c_21)
          refine lv_iload zx zb dX11_spells_119 (lv_at hl 1 rfl) ?_
          exact e_int S zr zlk (by decide) G () [] rfl rfl (Or.inl rfl) (Or.inr ⟨rfl, fun h => c_19 (by rw [hK0]; exact (wrdB_t.mp h.2).2 1 (by decide))⟩) dX11_spells_121
        · refine lv_iconst (v := 1) zx zb dX11_spells_106 (by decide) ?_
          refine lv_goto (tgt := 111) zx zb dX11_spells_107 (by decide) ?_
          refine lv_istore (lv' := [(8, .int 1), (9, .int 1), (0, .ref m0), (1, .int 5), (2, .int 115), (3, .int 112), (4, .int 101), (5, .int 101), (6, .int 100), (7, .int 0)]) zx zb dX11_spells_111 hl (by decide) rfl (fun ls hl => ?_)
          refine lv_iinc (v := 2) (lv' := [(9, .int 2), (8, .int 1), (0, .ref m0), (1, .int 5), (2, .int 115), (3, .int 112), (4, .int 101), (5, .int 101), (6, .int 100), (7, .int 0)]) zx zb dX11_spells_113 hl (k := 1) rfl (by decide) (by decide) rfl (fun ls hl => ?_)
          refine lv_goto (tgt := 26) zx zb dX11_spells_116 (by decide) ?_
          refine lv_iload zx zb dX11_spells_26 (lv_at hl 0 rfl) ?_
          refine lv_iload_n zx zb dX11_spells_28 rfl (lv_at hl 3 rfl) ?_
          refine lv_icmp_ge (tgt := 119) zx zb dX11_spells_29 (by decide) (fun c_22 => absurd c_22 (by decide)) (fun c_22 => ?_)
          refine lv_iload zx zb dX11_spells_32 (lv_at hl 1 rfl) ?_
          refine lv_if_eq (tgt := 119) zx zb dX11_spells_34 (by decide) (fun c_23 => absurd c_23 (by decide)) (fun c_23 => ?_)
          refine lv_aload_n zx zb dX11_spells_37 rfl (lv_at hl 2 rfl) ?_
          refine r_get (C := RX11) (T := TX11) (N := 18) (ci := 9) (v := .ref (ma 10)) S in_X11_spells_X11 G 0 rfl rfl 10 (by decide) lk_X11_spells_39 rfl dX11_spells_38 ?_
          refine lv_aload_n zx zb dX11_spells_41 rfl (lv_at hl 2 rfl) ?_
          refine r_get (C := RX11) (T := TX11) (N := 18) (ci := 9) (v := .int (nI (t 0))) S in_X11_spells_X11 G 0 rfl rfl 12 (by decide) lk_X11_spells_217 rfl dX11_spells_42 ?_
          refine lv_iload zx zb dX11_spells_45 (lv_at hl 0 rfl) ?_
          refine r_iadd (v := (nI ((t 0) + 2))) S (nI_add (t 0) 2) dX11_spells_47 ?_
          refine r_iald (v := (fd ((t 0) + 2))) S G 1 rfl (vp_in_nI (by omega) (by decide)) (congrArg fd (nI_clamp (by omega))) dX11_spells_48 ?_
          refine lv_iload zx zb dX11_spells_49 (lv_at hl 0 rfl) ?_
          refine lv_if_ne (tgt := 58) zx zb dX11_spells_51 (by decide) (fun c_25 => ?_) (fun c_25 => absurd c_25 (by decide))
          refine lv_iload zx zb dX11_spells_58 (lv_at hl 0 rfl) ?_
          refine lv_iconst (v := 1) zx zb dX11_spells_60 (by decide) ?_
          refine lv_icmp_ne (tgt := 68) zx zb dX11_spells_61 (by decide) (fun c_26 => ?_) (fun c_26 => absurd c_26 (by decide))
          refine lv_iload zx zb dX11_spells_68 (lv_at hl 0 rfl) ?_
          refine lv_iconst (v := 2) zx zb dX11_spells_70 (by decide) ?_
          refine lv_icmp_ne (tgt := 79) zx zb dX11_spells_71 (by decide) (fun c_27 => absurd (by decide) c_27) (fun c_27 => ?_)
          refine lv_iload zx zb dX11_spells_74 (lv_at hl 6 rfl) ?_
          refine lv_goto (tgt := 103) zx zb dX11_spells_76 (by decide) ?_
          refine lv_icmp_ne (tgt := 110) zx zb dX11_spells_103 (by decide) (fun c_28 => ?_) (fun c_28 => ?_)
          · refine lv_iconst (v := 0) zx zb dX11_spells_110 (by decide) ?_
            refine lv_istore (lv' := [(8, .int 0), (9, .int 2), (0, .ref m0), (1, .int 5), (2, .int 115), (3, .int 112), (4, .int 101), (5, .int 101), (6, .int 100), (7, .int 0)]) zx zb dX11_spells_111 hl (by decide) rfl (fun ls hl => ?_)
            refine lv_iinc (v := 3) (lv' := [(9, .int 3), (8, .int 0), (0, .ref m0), (1, .int 5), (2, .int 115), (3, .int 112), (4, .int 101), (5, .int 101), (6, .int 100), (7, .int 0)]) zx zb dX11_spells_113 hl (k := 1) rfl (by decide) (by decide) rfl (fun ls hl => ?_)
            refine lv_goto (tgt := 26) zx zb dX11_spells_116 (by decide) ?_
            refine lv_iload zx zb dX11_spells_26 (lv_at hl 0 rfl) ?_
            refine lv_iload_n zx zb dX11_spells_28 rfl (lv_at hl 3 rfl) ?_
            refine lv_icmp_ge (tgt := 119) zx zb dX11_spells_29 (by decide) (fun c_29 => absurd c_29 (by decide)) (fun c_29 => ?_)
            refine lv_iload zx zb dX11_spells_32 (lv_at hl 1 rfl) ?_
            refine lv_if_eq (tgt := 119) zx zb dX11_spells_34 (by decide) (fun c_30 => ?_) (fun c_30 => absurd (by decide) c_30)
            refine lv_iload zx zb dX11_spells_119 (lv_at hl 1 rfl) ?_
            exact e_int S zr zlk (by decide) G () [] rfl rfl (Or.inl rfl) (Or.inr ⟨rfl, fun h => c_28 (by rw [hK0]; exact (wrdB_t.mp h.2).2 2 (by decide))⟩) dX11_spells_121
          · refine lv_iconst (v := 1) zx zb dX11_spells_106 (by decide) ?_
            refine lv_goto (tgt := 111) zx zb dX11_spells_107 (by decide) ?_
            refine lv_istore (lv' := [(8, .int 1), (9, .int 2), (0, .ref m0), (1, .int 5), (2, .int 115), (3, .int 112), (4, .int 101), (5, .int 101), (6, .int 100), (7, .int 0)]) zx zb dX11_spells_111 hl (by decide) rfl (fun ls hl => ?_)
            refine lv_iinc (v := 3) (lv' := [(9, .int 3), (8, .int 1), (0, .ref m0), (1, .int 5), (2, .int 115), (3, .int 112), (4, .int 101), (5, .int 101), (6, .int 100), (7, .int 0)]) zx zb dX11_spells_113 hl (k := 1) rfl (by decide) (by decide) rfl (fun ls hl => ?_)
            refine lv_goto (tgt := 26) zx zb dX11_spells_116 (by decide) ?_
            refine lv_iload zx zb dX11_spells_26 (lv_at hl 0 rfl) ?_
            refine lv_iload_n zx zb dX11_spells_28 rfl (lv_at hl 3 rfl) ?_
            refine lv_icmp_ge (tgt := 119) zx zb dX11_spells_29 (by decide) (fun c_31 => absurd c_31 (by decide)) (fun c_31 => ?_)
            refine lv_iload zx zb dX11_spells_32 (lv_at hl 1 rfl) ?_
            refine lv_if_eq (tgt := 119) zx zb dX11_spells_34 (by decide) (fun c_32 => absurd c_32 (by decide)) (fun c_32 => ?_)
            refine lv_aload_n zx zb dX11_spells_37 rfl (lv_at hl 2 rfl) ?_
            refine r_get (C := RX11) (T := TX11) (N := 18) (ci := 9) (v := .ref (ma 10)) S in_X11_spells_X11 G 0 rfl rfl 10 (by decide) lk_X11_spells_39 rfl dX11_spells_38 ?_
            refine lv_aload_n zx zb dX11_spells_41 rfl (lv_at hl 2 rfl) ?_
            refine r_get (C := RX11) (T := TX11) (N := 18) (ci := 9) (v := .int (nI (t 0))) S in_X11_spells_X11 G 0 rfl rfl 12 (by decide) lk_X11_spells_217 rfl dX11_spells_42 ?_
            refine lv_iload zx zb dX11_spells_45 (lv_at hl 0 rfl) ?_
            refine r_iadd (v := (nI ((t 0) + 3))) S (nI_add (t 0) 3) dX11_spells_47 ?_
            refine r_iald (v := (fd ((t 0) + 3))) S G 1 rfl (vp_in_nI (by omega) (by decide)) (congrArg fd (nI_clamp (by omega))) dX11_spells_48 ?_
            refine lv_iload zx zb dX11_spells_49 (lv_at hl 0 rfl) ?_
            refine lv_if_ne (tgt := 58) zx zb dX11_spells_51 (by decide) (fun c_34 => ?_) (fun c_34 => absurd c_34 (by decide))
            refine lv_iload zx zb dX11_spells_58 (lv_at hl 0 rfl) ?_
            refine lv_iconst (v := 1) zx zb dX11_spells_60 (by decide) ?_
            refine lv_icmp_ne (tgt := 68) zx zb dX11_spells_61 (by decide) (fun c_35 => ?_) (fun c_35 => absurd c_35 (by decide))
            refine lv_iload zx zb dX11_spells_68 (lv_at hl 0 rfl) ?_
            refine lv_iconst (v := 2) zx zb dX11_spells_70 (by decide) ?_
            refine lv_icmp_ne (tgt := 79) zx zb dX11_spells_71 (by decide) (fun c_36 => ?_) (fun c_36 => absurd c_36 (by decide))
            refine lv_iload zx zb dX11_spells_79 (lv_at hl 0 rfl) ?_
            refine lv_iconst (v := 3) zx zb dX11_spells_81 (by decide) ?_
            refine lv_icmp_ne (tgt := 90) zx zb dX11_spells_82 (by decide) (fun c_37 => absurd (by decide) c_37) (fun c_37 => ?_)
            refine lv_iload zx zb dX11_spells_85 (lv_at hl 7 rfl) ?_
            refine lv_goto (tgt := 103) zx zb dX11_spells_87 (by decide) ?_
            refine lv_icmp_ne (tgt := 110) zx zb dX11_spells_103 (by decide) (fun c_38 => ?_) (fun c_38 => ?_)
            · refine lv_iconst (v := 0) zx zb dX11_spells_110 (by decide) ?_
              refine lv_istore (lv' := [(8, .int 0), (9, .int 3), (0, .ref m0), (1, .int 5), (2, .int 115), (3, .int 112), (4, .int 101), (5, .int 101), (6, .int 100), (7, .int 0)]) zx zb dX11_spells_111 hl (by decide) rfl (fun ls hl => ?_)
              refine lv_iinc (v := 4) (lv' := [(9, .int 4), (8, .int 0), (0, .ref m0), (1, .int 5), (2, .int 115), (3, .int 112), (4, .int 101), (5, .int 101), (6, .int 100), (7, .int 0)]) zx zb dX11_spells_113 hl (k := 1) rfl (by decide) (by decide) rfl (fun ls hl => ?_)
              refine lv_goto (tgt := 26) zx zb dX11_spells_116 (by decide) ?_
              refine lv_iload zx zb dX11_spells_26 (lv_at hl 0 rfl) ?_
              refine lv_iload_n zx zb dX11_spells_28 rfl (lv_at hl 3 rfl) ?_
              refine lv_icmp_ge (tgt := 119) zx zb dX11_spells_29 (by decide) (fun c_39 => absurd c_39 (by decide)) (fun c_39 => ?_)
              refine lv_iload zx zb dX11_spells_32 (lv_at hl 1 rfl) ?_
              refine lv_if_eq (tgt := 119) zx zb dX11_spells_34 (by decide) (fun c_40 => ?_) (fun c_40 => absurd (by decide) c_40)
              refine lv_iload zx zb dX11_spells_119 (lv_at hl 1 rfl) ?_
              exact e_int S zr zlk (by decide) G () [] rfl rfl (Or.inl rfl) (Or.inr ⟨rfl, fun h => c_38 (by rw [hK0]; exact (wrdB_t.mp h.2).2 3 (by decide))⟩) dX11_spells_121
            · refine lv_iconst (v := 1) zx zb dX11_spells_106 (by decide) ?_
              refine lv_goto (tgt := 111) zx zb dX11_spells_107 (by decide) ?_
              refine lv_istore (lv' := [(8, .int 1), (9, .int 3), (0, .ref m0), (1, .int 5), (2, .int 115), (3, .int 112), (4, .int 101), (5, .int 101), (6, .int 100), (7, .int 0)]) zx zb dX11_spells_111 hl (by decide) rfl (fun ls hl => ?_)
              refine lv_iinc (v := 4) (lv' := [(9, .int 4), (8, .int 1), (0, .ref m0), (1, .int 5), (2, .int 115), (3, .int 112), (4, .int 101), (5, .int 101), (6, .int 100), (7, .int 0)]) zx zb dX11_spells_113 hl (k := 1) rfl (by decide) (by decide) rfl (fun ls hl => ?_)
              refine lv_goto (tgt := 26) zx zb dX11_spells_116 (by decide) ?_
              refine lv_iload zx zb dX11_spells_26 (lv_at hl 0 rfl) ?_
              refine lv_iload_n zx zb dX11_spells_28 rfl (lv_at hl 3 rfl) ?_
              refine lv_icmp_ge (tgt := 119) zx zb dX11_spells_29 (by decide) (fun c_41 => absurd c_41 (by decide)) (fun c_41 => ?_)
              refine lv_iload zx zb dX11_spells_32 (lv_at hl 1 rfl) ?_
              refine lv_if_eq (tgt := 119) zx zb dX11_spells_34 (by decide) (fun c_42 => absurd c_42 (by decide)) (fun c_42 => ?_)
              refine lv_aload_n zx zb dX11_spells_37 rfl (lv_at hl 2 rfl) ?_
              refine r_get (C := RX11) (T := TX11) (N := 18) (ci := 9) (v := .ref (ma 10)) S in_X11_spells_X11 G 0 rfl rfl 10 (by decide) lk_X11_spells_39 rfl dX11_spells_38 ?_
              refine lv_aload_n zx zb dX11_spells_41 rfl (lv_at hl 2 rfl) ?_
              refine r_get (C := RX11) (T := TX11) (N := 18) (ci := 9) (v := .int (nI (t 0))) S in_X11_spells_X11 G 0 rfl rfl 12 (by decide) lk_X11_spells_217 rfl dX11_spells_42 ?_
              refine lv_iload zx zb dX11_spells_45 (lv_at hl 0 rfl) ?_
              refine r_iadd (v := (nI ((t 0) + 4))) S (nI_add (t 0) 4) dX11_spells_47 ?_
              refine r_iald (v := (fd ((t 0) + 4))) S G 1 rfl (vp_in_nI (by omega) (by decide)) (congrArg fd (nI_clamp (by omega))) dX11_spells_48 ?_
              refine lv_iload zx zb dX11_spells_49 (lv_at hl 0 rfl) ?_
              refine lv_if_ne (tgt := 58) zx zb dX11_spells_51 (by decide) (fun c_44 => ?_) (fun c_44 => absurd c_44 (by decide))
              refine lv_iload zx zb dX11_spells_58 (lv_at hl 0 rfl) ?_
              refine lv_iconst (v := 1) zx zb dX11_spells_60 (by decide) ?_
              refine lv_icmp_ne (tgt := 68) zx zb dX11_spells_61 (by decide) (fun c_45 => ?_) (fun c_45 => absurd c_45 (by decide))
              refine lv_iload zx zb dX11_spells_68 (lv_at hl 0 rfl) ?_
              refine lv_iconst (v := 2) zx zb dX11_spells_70 (by decide) ?_
              refine lv_icmp_ne (tgt := 79) zx zb dX11_spells_71 (by decide) (fun c_46 => ?_) (fun c_46 => absurd c_46 (by decide))
              refine lv_iload zx zb dX11_spells_79 (lv_at hl 0 rfl) ?_
              refine lv_iconst (v := 3) zx zb dX11_spells_81 (by decide) ?_
              refine lv_icmp_ne (tgt := 90) zx zb dX11_spells_82 (by decide) (fun c_47 => ?_) (fun c_47 => absurd c_47 (by decide))
              refine lv_iload zx zb dX11_spells_90 (lv_at hl 0 rfl) ?_
              refine lv_iconst (v := 4) zx zb dX11_spells_92 (by decide) ?_
              refine lv_icmp_ne (tgt := 101) zx zb dX11_spells_93 (by decide) (fun c_48 => absurd (by decide) c_48) (fun c_48 => ?_)
              refine lv_iload zx zb dX11_spells_96 (lv_at hl 8 rfl) ?_
              refine lv_goto (tgt := 103) zx zb dX11_spells_98 (by decide) ?_
              refine lv_icmp_ne (tgt := 110) zx zb dX11_spells_103 (by decide) (fun c_49 => ?_) (fun c_49 => ?_)
              · refine lv_iconst (v := 0) zx zb dX11_spells_110 (by decide) ?_
                refine lv_istore (lv' := [(8, .int 0), (9, .int 4), (0, .ref m0), (1, .int 5), (2, .int 115), (3, .int 112), (4, .int 101), (5, .int 101), (6, .int 100), (7, .int 0)]) zx zb dX11_spells_111 hl (by decide) rfl (fun ls hl => ?_)
                refine lv_iinc (v := 5) (lv' := [(9, .int 5), (8, .int 0), (0, .ref m0), (1, .int 5), (2, .int 115), (3, .int 112), (4, .int 101), (5, .int 101), (6, .int 100), (7, .int 0)]) zx zb dX11_spells_113 hl (k := 1) rfl (by decide) (by decide) rfl (fun ls hl => ?_)
                refine lv_goto (tgt := 26) zx zb dX11_spells_116 (by decide) ?_
                refine lv_iload zx zb dX11_spells_26 (lv_at hl 0 rfl) ?_
                refine lv_iload_n zx zb dX11_spells_28 rfl (lv_at hl 3 rfl) ?_
                refine lv_icmp_ge (tgt := 119) zx zb dX11_spells_29 (by decide) (fun c_50 => ?_) (fun c_50 => absurd (by decide) c_50)
                refine lv_iload zx zb dX11_spells_119 (lv_at hl 1 rfl) ?_
                exact e_int S zr zlk (by decide) G () [] rfl rfl (Or.inl rfl) (Or.inr ⟨rfl, fun h => c_49 (by rw [hK0]; exact (wrdB_t.mp h.2).2 4 (by decide))⟩) dX11_spells_121
              · refine lv_iconst (v := 1) zx zb dX11_spells_106 (by decide) ?_
                refine lv_goto (tgt := 111) zx zb dX11_spells_107 (by decide) ?_
                refine lv_istore (lv' := [(8, .int 1), (9, .int 4), (0, .ref m0), (1, .int 5), (2, .int 115), (3, .int 112), (4, .int 101), (5, .int 101), (6, .int 100), (7, .int 0)]) zx zb dX11_spells_111 hl (by decide) rfl (fun ls hl => ?_)
                refine lv_iinc (v := 5) (lv' := [(9, .int 5), (8, .int 1), (0, .ref m0), (1, .int 5), (2, .int 115), (3, .int 112), (4, .int 101), (5, .int 101), (6, .int 100), (7, .int 0)]) zx zb dX11_spells_113 hl (k := 1) rfl (by decide) (by decide) rfl (fun ls hl => ?_)
                refine lv_goto (tgt := 26) zx zb dX11_spells_116 (by decide) ?_
                refine lv_iload zx zb dX11_spells_26 (lv_at hl 0 rfl) ?_
                refine lv_iload_n zx zb dX11_spells_28 rfl (lv_at hl 3 rfl) ?_
                refine lv_icmp_ge (tgt := 119) zx zb dX11_spells_29 (by decide) (fun c_51 => ?_) (fun c_51 => absurd (by decide) c_51)
                refine lv_iload zx zb dX11_spells_119 (lv_at hl 1 rfl) ?_
                exact e_int S zr zlk (by decide) G () [] rfl rfl (Or.inl rfl) (Or.inl ⟨rfl, hK2.symm.trans c_1, wrdB_t.mpr ⟨(show tE fd n s0 - s0 = 5 from by omega), k_al5 (by rw [← hK0]; exact c_11) (by rw [← hK0]; exact c_19) (by rw [← hK0]; exact c_28) (by rw [← hK0]; exact c_38) (by rw [← hK0]; exact c_49)⟩⟩) dX11_spells_121
