theorem dL_law_196 : decode cL_law 196 = .ok (.aload_n 1, 1) := by decide +kernel
theorem dL_law_197 : decode cL_law 197 = .ok (.aload_n 0, 1) := by decide +kernel
theorem dL_law_198 : decode cL_law 198 = .ok (.iload_n 3, 1) := by decide +kernel
theorem dL_law_199 : decode cL_law 199 = .ok (.iconst 1, 1) := by decide +kernel
theorem dL_law_200 : decode cL_law 200 = .ok (.iadd, 1) := by decide +kernel
theorem dL_law_201 : decode cL_law 201 = .ok (.iaload, 1) := by decide +kernel
theorem dL_law_202 : decode cL_law 202 = .ok (.invokevirtual 13, 3) := by decide +kernel
theorem dL_law_205 : decode cL_law 205 = .ok (.pop, 1) := by decide +kernel
theorem dL_law_206 : decode cL_law 206 = .ok (.aload_n 2, 1) := by decide +kernel
theorem dL_law_207 : decode cL_law 207 = .ok (.aload_n 0, 1) := by decide +kernel
theorem dL_law_208 : decode cL_law 208 = .ok (.iload_n 3, 1) := by decide +kernel
theorem dL_law_209 : decode cL_law 209 = .ok (.iconst 1, 1) := by decide +kernel
theorem dL_law_210 : decode cL_law 210 = .ok (.iadd, 1) := by decide +kernel
theorem dL_law_211 : decode cL_law 211 = .ok (.iaload, 1) := by decide +kernel
theorem dL_law_212 : decode cL_law 212 = .ok (.invokevirtual 17, 3) := by decide +kernel
theorem dL_law_215 : decode cL_law 215 = .ok (.pop, 1) := by decide +kernel
theorem dL_law_216 : decode cL_law 216 = .ok (.goto 1061, 3) := by decide +kernel
theorem dL_law_219 : decode cL_law 219 = .ok (.aload_n 1, 1) := by decide +kernel
theorem dL_law_220 : decode cL_law 220 = .ok (.aload_n 0, 1) := by decide +kernel
theorem dL_law_221 : decode cL_law 221 = .ok (.iload_n 3, 1) := by decide +kernel
theorem dL_law_222 : decode cL_law 222 = .ok (.iconst 1, 1) := by decide +kernel
theorem dL_law_223 : decode cL_law 223 = .ok (.iadd, 1) := by decide +kernel
theorem dL_law_224 : decode cL_law 224 = .ok (.iaload, 1) := by decide +kernel
theorem dL_law_225 : decode cL_law 225 = .ok (.aload_n 0, 1) := by decide +kernel
theorem dL_law_226 : decode cL_law 226 = .ok (.iload_n 3, 1) := by decide +kernel
theorem dL_law_227 : decode cL_law 227 = .ok (.iconst 2, 1) := by decide +kernel
theorem dL_law_228 : decode cL_law 228 = .ok (.iadd, 1) := by decide +kernel
theorem dL_law_229 : decode cL_law 229 = .ok (.iaload, 1) := by decide +kernel
theorem dL_law_230 : decode cL_law 230 = .ok (.aload_n 0, 1) := by decide +kernel
theorem dL_law_231 : decode cL_law 231 = .ok (.iload_n 3, 1) := by decide +kernel
theorem dL_law_232 : decode cL_law 232 = .ok (.iconst 3, 1) := by decide +kernel
theorem dL_law_233 : decode cL_law 233 = .ok (.iadd, 1) := by decide +kernel
theorem dL_law_234 : decode cL_law 234 = .ok (.iaload, 1) := by decide +kernel
theorem dL_law_235 : decode cL_law 235 = .ok (.invokevirtual 18, 3) := by decide +kernel
theorem dL_law_238 : decode cL_law 238 = .ok (.pop, 1) := by decide +kernel
theorem dL_law_239 : decode cL_law 239 = .ok (.aload_n 2, 1) := by decide +kernel
theorem dL_law_240 : decode cL_law 240 = .ok (.aload_n 0, 1) := by decide +kernel
theorem dL_law_241 : decode cL_law 241 = .ok (.iload_n 3, 1) := by decide +kernel
theorem dL_law_242 : decode cL_law 242 = .ok (.iconst 1, 1) := by decide +kernel
theorem dL_law_243 : decode cL_law 243 = .ok (.iadd, 1) := by decide +kernel
theorem dL_law_244 : decode cL_law 244 = .ok (.iaload, 1) := by decide +kernel
theorem dL_law_245 : decode cL_law 245 = .ok (.aload_n 0, 1) := by decide +kernel
theorem dL_law_246 : decode cL_law 246 = .ok (.iload_n 3, 1) := by decide +kernel
theorem dL_law_247 : decode cL_law 247 = .ok (.iconst 2, 1) := by decide +kernel
theorem dL_law_248 : decode cL_law 248 = .ok (.iadd, 1) := by decide +kernel
theorem dL_law_249 : decode cL_law 249 = .ok (.iaload, 1) := by decide +kernel
theorem dL_law_250 : decode cL_law 250 = .ok (.aload_n 0, 1) := by decide +kernel
theorem dL_law_251 : decode cL_law 251 = .ok (.iload_n 3, 1) := by decide +kernel
theorem dL_law_252 : decode cL_law 252 = .ok (.iconst 3, 1) := by decide +kernel
theorem dL_law_253 : decode cL_law 253 = .ok (.iadd, 1) := by decide +kernel
theorem dL_law_254 : decode cL_law 254 = .ok (.iaload, 1) := by decide +kernel
theorem dL_law_255 : decode cL_law 255 = .ok (.invokevirtual 22, 3) := by decide +kernel
theorem dL_law_258 : decode cL_law 258 = .ok (.pop, 1) := by decide +kernel
theorem dL_law_259 : decode cL_law 259 = .ok (.goto 1018, 3) := by decide +kernel
section LC
variable {p : Program} {l : Launch} {e : Env} {s : State} {m : MethodId} {below : List Frame} {meth : Method} {c : Code} {b L : Nat} {xs : Nat → Int32} {X : EX} {K : SK} {h0 m0 zi : Nat} {H : Heap} {locs : List Loc} {ls : Array Slot} {Q : State → Prop}
theorem hdV_X10_race : yX10_race.cls = RX10 ∧ yX10_race.cls ≠ "java/lang/invoke/MethodHandle" ∧ yX10_race.cls ≠ "java/lang/invoke/VarHandle" ∧ (parseMethodDescriptor yX10_race.desc).map (fun d => d.parameters.length) = some 1 := by decide +kernel
theorem hdV_X11_race : yX11_race.cls = RX11 ∧ yX11_race.cls ≠ "java/lang/invoke/MethodHandle" ∧ yX11_race.cls ≠ "java/lang/invoke/VarHandle" ∧ (parseMethodDescriptor yX11_race.desc).map (fun d => d.parameters.length) = some 1 := by decide +kernel
set_option maxRecDepth 100000 in
set_option maxHeartbeats 8000000 in
theorem lc_0 (S : CallFix p m c cL_law 4 s #[Value.ref b] wsL_law RL) (hX : va_X b L xs s s.heap) (hbl : b < s.heap.size) (hL : L ≤ 3072) (hzi : zi + 6 ≤ L) (hZ : sE K (fun q : Nat => s.heap.size ≤ q) s s.heap) (hW : LW X h0 m0 s H locs) (hl : lv_has ls 4 [(3, .int (nI zi)), (2, .ref m0), (1, .ref h0), (0, .ref b)]) (kk : ∀ (H : Heap) (locs : List Loc) (ls : Array Slot), LW X h0 m0 s H locs → lv_has ls 4 [(3, .int (nI zi)), (2, .ref m0), (1, .ref h0), (0, .ref b)] → W p l e room_1 s m #[Value.ref b] below meth c H locs 94 3522 Q (F0 m 1277 ls [])) : W p l e room_1 s m #[Value.ref b] below meth c H locs 94 3522 Q (F0 m 196 ls []) := by
  have zx := S.1
  have zb := S.2.1
  have hbA : ¬ (fun q : Nat => s.heap.size ≤ q) b := Nat.not_le.mpr hbl
  refine LW_e hW (fun nw sp xa la lb an sv dv n0 n1 n2 n3 n4 g0 gs gn gm ap svp dvp n0p n1p n2p n3p n4p g0p gsp gnp gmp i0 i1 ai svi dvi n0i n1i n2i n3i n4i g0i gsi gni gmi aj svj dvj n0j n1j n2j n3j n4j g0j gsj gnj gmj fz hb n bd vd fd fr ag dg ar dr hc tm tf vo da gd fk ma lc ld t vt fa u4 fK u5 u6 fR fh d0 d1 d2 d3 d4 fg ft fb fw w0 w1 w2 w3 w4 fv hIV hRL G => ?_)
  obtain ⟨hR0, hR1, hR2⟩ := hRL
  obtain ⟨hI_n0, hI_n1, hI_n2, hI_n3, hI_n4, hI_n0p, hI_n1p, hI_n2p, hI_n3p, hI_n4p, hI_n0i, hI_n1i, hI_n2i, hI_n3i, hI_n4i, hI_n0j, hI_n1j, hI_n2j, hI_n3j, hI_n4j, hI_n, hI_bd, hI_t, hI_fa, hI_fK, hI_fh, hI_fw⟩ := hIV
  have hO_bd := hI_bd
  obtain ⟨hd0_bd, hd1_bd⟩ := hO_bd
  have hO_t := hI_t
  obtain ⟨ht0_t, ht1_t⟩ := hO_t
  have hO_fa := hI_fa.2
  obtain ⟨hm0_fa, hm1_fa, hm2_fa, hm3_fa, hm4_fa⟩ := hO_fa
  have hO_fh := hI_fh.2
  obtain ⟨hm0_fh, hm1_fh, hm2_fh, hm3_fh, hm4_fh⟩ := hO_fh
  have hO_fw := hI_fw.2
  obtain ⟨hm0_fw, hm1_fw, hm2_fw, hm3_fw, hm4_fw⟩ := hO_fw
  refine lv_aload_n zx zb dL_law_196 rfl (lv_at hl 2 rfl) ?_
  refine lv_aload_n zx zb dL_law_197 rfl (lv_at hl 3 rfl) ?_
  refine lv_iload_n zx zb dL_law_198 rfl (lv_at hl 0 rfl) ?_
  refine lv_iconst (v := 1) zx zb dL_law_199 (by decide) ?_
  refine r_iadd (v := (nI (zi + 1))) S (nI_add zi 1) dL_law_200 ?_
  refine va_sld zx zb hX hbl hbA G.2.2.2.1 (vp_in_nI (by omega) (by omega)) dL_law_201 ?_
  refine k_it (v := xs (zi + 1)) (congrArg xs (nI_clamp (by omega))) ?_
  refine b_wi (cells' := 94) (slots' := 3522) (wr := @HAppend.hAppend va_W va_W va_W _ (rcV X sp ap svp dvp n0p n1p n2p n3p n4p g0p gsp gnp gmp) (@HAppend.hAppend va_W va_W va_W _ ([((xa 2), .inl (X.2.2.2.1, 2, .inr (.inr (.inr (.inr (imQ i0 i1))))))]) (@HAppend.hAppend va_W va_W va_W _ (rcV X i0 ai svi dvi n0i n1i n2i n3i n4i g0i gsi gni gmi) (@HAppend.hAppend va_W va_W va_W _ (rcV X i1 aj svj dvj n0j n1j n2j n3j n4j g0j gsj gnj gmj) (@HAppend.hAppend va_W va_W va_W _ ([((xa 3), .inl (X.2.2.1, 2, .inl fz))]) (@HAppend.hAppend va_W va_W va_W _ (rdV X (xa 4) hb n bd vd fd) (@HAppend.hAppend va_W va_W va_W _ (rnV (xa 8) ag dg) (@HAppend.hAppend va_W va_W va_W _ (rnV (xa 9) ar dr) (@HAppend.hAppend va_W va_W va_W _ ([((xa 10), .inr (7, [.ref hc, .int tm])), (hc, .inl (X.2.1, 16, .inl tf))]) (@HAppend.hAppend va_W va_W va_W _ (odW (xa 11) vo) (@HAppend.hAppend va_W va_W va_W _ (duW X (xa 12) da gd) (@HAppend.hAppend va_W va_W va_W _ ([((xa 13), .inl (X.2.1, 6, .inl fk))]) (@HAppend.hAppend va_W va_W va_W _ (mW m0 ma lc ld n t vt) (@HAppend.hAppend va_W va_W va_W _ ([((ma 0), .inl (X.2.1, 371, .inl fa))]) (@HAppend.hAppend va_W va_W va_W _ ([((ma 1), .inl (X.2.1, 742, .inl fK))]) (@HAppend.hAppend va_W va_W va_W _ ([((ma 2), .inl (X.2.2.1, 2, .inl fz))]) (@HAppend.hAppend va_W va_W va_W _ ([((ma 3), .inl (X.2.1, 3, .inl fR))]) (@HAppend.hAppend va_W va_W va_W _ ([((ma 6), .inl (X.2.1, 55, .inl fh))]) (@HAppend.hAppend va_W va_W va_W _ ([((ma 7), .inl (X.2.1, 6, .inl fg))]) (@HAppend.hAppend va_W va_W va_W _ ([((ma 8), .inl (X.2.1, 10, .inl ft))]) (@HAppend.hAppend va_W va_W va_W _ ([((ma 9), .inl (X.2.1, 20, .inl fb))]) (@HAppend.hAppend va_W va_W va_W _ ([((ma 10), .inl (X.2.1, 150, .inl fd))]) (@HAppend.hAppend va_W va_W va_W _ ([((ma 16), .inl (X.2.1, 123, .inl fw))]) ([((ma 17), .inl (X.2.1, 3, .inl fv))])))))))))))))))))))))))) G rfl rfl [0, 1, 2, 3, 4, 5, 6, 7, 8, 9, 10, 11, 12, 13, 14, 15, 16, 69] [17, 18, 19, 20, 21, 22, 23, 24, 25, 26, 27, 28, 29, 30, 31, 32, 33, 34, 35, 36, 37, 38, 39, 40, 41, 42, 43, 44, 45, 46, 47, 48, 49, 50, 51, 52, 53, 54, 55, 56, 57, 58, 59, 60, 61, 62, 63, 64, 65, 66, 67, 68, 70, 71, 72, 73, 74, 75, 76, 77, 78, 79, 80, 81, 82, 83, 84, 85, 86, 87, 88, 89, 90, 91, 92, 93] rfl rfl rfl rfl (n_V (As := [.int (xs (zi + 1))]) (rest := []) (C := RX10) (T := TX10) (N := 14) (ci := 8) S G (s_race l X h0 nw sp xa la lb an sv dv n0 n1 n2 n3 n4 g0 gs gn gm fr (xs (zi + 1)) hI_n0 hI_n1 hI_n2 hI_n3 hI_n4 H.size) gL_law_X10_race rfl rfl rfl hdV_X10_race ⟨Nat.le_of_ble_eq_true rfl, Nat.le_of_ble_eq_true rfl⟩ [0, 1, 2, 3, 4, 5, 6, 7, 8, 9, 10, 11, 12, 13, 14, 15, 16, 69] rfl rfl 0 rfl rfl rfl hl.1 (Nat.le_of_ble_eq_true rfl) dL_law_202 ⟨Nat.le_of_ble_eq_true rfl, Nat.le_of_ble_eq_true rfl⟩) (fun r_1 u_1 H locs hp_1 G => ?_)
  obtain ⟨dv_1a, n0_1b, n1_1c, n2_1d, n3_1e, n4_1f, f_1g⟩ := u_1
  try dsimp only at hp_1
  obtain ⟨hI_n0_1b, hI_n1_1c, hI_n2_1d, hI_n3_1e, hI_n4_1f, hq_1⟩ := hp_1
  refine lv_pop zx zb dL_law_205 rfl ?_
  refine lv_aload_n zx zb dL_law_206 rfl (lv_at hl 1 rfl) ?_
  refine lv_aload_n zx zb dL_law_207 rfl (lv_at hl 3 rfl) ?_
  refine lv_iload_n zx zb dL_law_208 rfl (lv_at hl 0 rfl) ?_
  refine lv_iconst (v := 1) zx zb dL_law_209 (by decide) ?_
  refine r_iadd (v := (nI (zi + 1))) S (nI_add zi 1) dL_law_210 ?_
  refine va_sld zx zb hX hbl hbA G.2.2.2.1 (vp_in_nI (by omega) (by omega)) dL_law_211 ?_
  refine k_it (v := xs (zi + 1)) (congrArg xs (nI_clamp (by omega))) ?_
  refine b_wi (cells' := 94) (slots' := 3522) (wr := @HAppend.hAppend va_W va_W va_W _ (rcV X sp ap svp dvp n0p n1p n2p n3p n4p g0p gsp gnp gmp) (@HAppend.hAppend va_W va_W va_W _ ([((xa 2), .inl (X.2.2.2.1, 2, .inr (.inr (.inr (.inr (imQ i0 i1))))))]) (@HAppend.hAppend va_W va_W va_W _ (rcV X i0 ai svi dvi n0i n1i n2i n3i n4i g0i gsi gni gmi) (@HAppend.hAppend va_W va_W va_W _ (rcV X i1 aj svj dvj n0j n1j n2j n3j n4j g0j gsj gnj gmj) (@HAppend.hAppend va_W va_W va_W _ ([((xa 3), .inl (X.2.2.1, 2, .inl fz))]) (@HAppend.hAppend va_W va_W va_W _ (rdV X (xa 4) hb n bd vd fd) (@HAppend.hAppend va_W va_W va_W _ (rnV (xa 8) ag dg) (@HAppend.hAppend va_W va_W va_W _ (rnV (xa 9) ar dr) (@HAppend.hAppend va_W va_W va_W _ ([((xa 10), .inr (7, [.ref hc, .int tm])), (hc, .inl (X.2.1, 16, .inl tf))]) (@HAppend.hAppend va_W va_W va_W _ (odW (xa 11) vo) (@HAppend.hAppend va_W va_W va_W _ (duW X (xa 12) da gd) (@HAppend.hAppend va_W va_W va_W _ ([((xa 13), .inl (X.2.1, 6, .inl fk))]) (@HAppend.hAppend va_W va_W va_W _ ([((ma 1), .inl (X.2.1, 742, .inl fK))]) (@HAppend.hAppend va_W va_W va_W _ ([((ma 2), .inl (X.2.2.1, 2, .inl fz))]) (@HAppend.hAppend va_W va_W va_W _ ([((ma 6), .inl (X.2.1, 55, .inl fh))]) (@HAppend.hAppend va_W va_W va_W _ ([((ma 7), .inl (X.2.1, 6, .inl fg))]) (@HAppend.hAppend va_W va_W va_W _ ([((ma 8), .inl (X.2.1, 10, .inl ft))]) (@HAppend.hAppend va_W va_W va_W _ ([((ma 9), .inl (X.2.1, 20, .inl fb))]) (@HAppend.hAppend va_W va_W va_W _ ([((ma 10), .inl (X.2.1, 150, .inl fd))]) (@HAppend.hAppend va_W va_W va_W _ ([((ma 16), .inl (X.2.1, 123, .inl fw))]) (@HAppend.hAppend va_W va_W va_W _ ([((ma 17), .inl (X.2.1, 3, .inl fv))]) (@HAppend.hAppend va_W va_W va_W _ (xW h0 nw sp xa la lb) (@HAppend.hAppend va_W va_W va_W _ (rcV X nw an sv dv_1a n0_1b n1_1c n2_1d n3_1e n4_1f g0 gs gn gm) ([((xa 5), .inl (X.2.1, 3, .inl f_1g))])))))))))))))))))))))))) G rfl rfl [64, 65, 68] [0, 1, 2, 3, 4, 5, 6, 7, 8, 9, 10, 11, 12, 13, 14, 15, 16, 17, 18, 19, 20, 21, 22, 23, 24, 25, 26, 27, 28, 29, 30, 31, 32, 33, 34, 35, 36, 37, 38, 39, 40, 41, 42, 43, 44, 45, 46, 47, 48, 49, 50, 51, 52, 53, 54, 55, 56, 57, 58, 59, 60, 61, 62, 63, 66, 67, 69, 70, 71, 72, 73, 74, 75, 76, 77, 78, 79, 80, 81, 82, 83, 84, 85, 86, 87, 88, 89, 90, 91, 92, 93] rfl rfl rfl rfl (n_V (As := [.int (xs (zi + 1))]) (rest := []) (C := RX11) (T := TX11) (N := 18) (ci := 9) S G (y_race l X m0 ma lc ld n t vt fa n0 n2 n3 n4 u4 fR (xs (zi + 1)) hI_n hI_t hI_fa H.size) gL_law_X11_race rfl rfl rfl hdV_X11_race ⟨Nat.le_of_ble_eq_true rfl, Nat.le_of_ble_eq_true rfl⟩ [64, 65, 68] rfl rfl 64 rfl rfl rfl hl.1 (Nat.le_of_ble_eq_true rfl) dL_law_212 ⟨Nat.le_of_ble_eq_true rfl, Nat.le_of_ble_eq_true rfl⟩) (fun r_2 u_2 H locs hp_2 G => ?_)
  obtain ⟨f_2a, c0_2b, c1_2c, c2_2d, c3_2e, c4_2f, f_2g⟩ := u_2
  try dsimp only at hp_2
  obtain ⟨hI_f_2a, hq_2⟩ := hp_2
  have hO_f_2a := hI_f_2a.2
  obtain ⟨hm0_f_2a, hm1_f_2a, hm2_f_2a, hm3_f_2a, hm4_f_2a⟩ := hO_f_2a
  obtain ⟨hmA, hmB⟩ := hq_2
  have hEQ := (hq_1).trans (hmA).symm
  have hN0 : REL n0_1b n2_1d n3_1e n4_1f sv gs gn gm f_2a := REL_race hR0 hq_1 hmB
  have hEA : r_1 = r_2 := congrArg (fun z => z.1) hEQ
  refine lv_pop zx zb dL_law_215 rfl ?_
  refine lv_goto (tgt := 1277) zx zb dL_law_216 (by decide) ?_
  obtain rfl : n0_1b = c0_2b := congrArg (fun z => z.2.1) hEQ
  obtain rfl : n2_1d = c1_2c := congrArg (fun z => z.2.2.1) hEQ
  obtain rfl : n3_1e = c2_2d := congrArg (fun z => z.2.2.2.1) hEQ
  obtain rfl : n4_1f = c3_2e := congrArg (fun z => z.2.2.2.2) hEQ
  have G : wd X (fun q : Nat => s.heap.size ≤ q) (fun q : Nat => s.heap.size ≤ q) s (@HAppend.hAppend va_W va_W va_W _ (xW h0 nw sp xa la lb) (@HAppend.hAppend va_W va_W va_W _ (rcV X nw an sv dv_1a n0_1b n1_1c n2_1d n3_1e n4_1f g0 gs gn gm) (@HAppend.hAppend va_W va_W va_W _ (rcV X sp ap svp dvp n0p n1p n2p n3p n4p g0p gsp gnp gmp) (@HAppend.hAppend va_W va_W va_W _ ([((xa 2), .inl (X.2.2.2.1, 2, .inr (.inr (.inr (.inr (imQ i0 i1))))))]) (@HAppend.hAppend va_W va_W va_W _ (rcV X i0 ai svi dvi n0i n1i n2i n3i n4i g0i gsi gni gmi) (@HAppend.hAppend va_W va_W va_W _ (rcV X i1 aj svj dvj n0j n1j n2j n3j n4j g0j gsj gnj gmj) (@HAppend.hAppend va_W va_W va_W _ ([((xa 3), .inl (X.2.2.1, 2, .inl fz))]) (@HAppend.hAppend va_W va_W va_W _ (rdV X (xa 4) hb n bd vd fd) (@HAppend.hAppend va_W va_W va_W _ ([((xa 5), .inl (X.2.1, 3, .inl f_1g))]) (@HAppend.hAppend va_W va_W va_W _ (rnV (xa 8) ag dg) (@HAppend.hAppend va_W va_W va_W _ (rnV (xa 9) ar dr) (@HAppend.hAppend va_W va_W va_W _ ([((xa 10), .inr (7, [.ref hc, .int tm])), (hc, .inl (X.2.1, 16, .inl tf))]) (@HAppend.hAppend va_W va_W va_W _ (odW (xa 11) vo) (@HAppend.hAppend va_W va_W va_W _ (duW X (xa 12) da gd) (@HAppend.hAppend va_W va_W va_W _ ([((xa 13), .inl (X.2.1, 6, .inl fk))]) (@HAppend.hAppend va_W va_W va_W _ (mW m0 ma lc ld n t vt) (@HAppend.hAppend va_W va_W va_W _ ([((ma 0), .inl (X.2.1, 371, .inl f_2a))]) (@HAppend.hAppend va_W va_W va_W _ ([((ma 1), .inl (X.2.1, 742, .inl fK))]) (@HAppend.hAppend va_W va_W va_W _ ([((ma 2), .inl (X.2.2.1, 2, .inl fz))]) (@HAppend.hAppend va_W va_W va_W _ ([((ma 3), .inl (X.2.1, 3, .inl f_2g))]) (@HAppend.hAppend va_W va_W va_W _ ([((ma 6), .inl (X.2.1, 55, .inl fh))]) (@HAppend.hAppend va_W va_W va_W _ ([((ma 7), .inl (X.2.1, 6, .inl fg))]) (@HAppend.hAppend va_W va_W va_W _ ([((ma 8), .inl (X.2.1, 10, .inl ft))]) (@HAppend.hAppend va_W va_W va_W _ ([((ma 9), .inl (X.2.1, 20, .inl fb))]) (@HAppend.hAppend va_W va_W va_W _ ([((ma 10), .inl (X.2.1, 150, .inl fd))]) (@HAppend.hAppend va_W va_W va_W _ ([((ma 16), .inl (X.2.1, 123, .inl fw))]) ([((ma 17), .inl (X.2.1, 3, .inl fv))]))))))))))))))))))))))))))) H locs := wd_sub G [73, 74, 75, 76, 77, 78, 79, 80, 81, 82, 83, 84, 85, 86, 87, 88, 89, 0, 1, 2, 3, 4, 5, 6, 7, 8, 9, 10, 11, 12, 13, 14, 15, 16, 17, 18, 19, 20, 21, 22, 23, 24, 25, 26, 27, 28, 29, 30, 31, 32, 33, 34, 35, 36, 37, 38, 39, 40, 41, 42, 43, 44, 45, 46, 47, 48, 49, 50, 51, 90, 52, 53, 54, 55, 56, 57, 58, 59, 60, 61, 62, 63, 91, 92, 64, 65, 93, 66, 67, 68, 69, 70, 71, 72] rfl rfl
  exact kk _ _ _ (LW_i nw sp xa la lb an sv dv_1a n0_1b n1_1c n2_1d n3_1e n4_1f g0 gs gn gm ap svp dvp n0p n1p n2p n3p n4p g0p gsp gnp gmp i0 i1 ai svi dvi n0i n1i n2i n3i n4i g0i gsi gni gmi aj svj dvj n0j n1j n2j n3j n4j g0j gsj gnj gmj fz hb n bd vd fd f_1g ag dg ar dr hc tm tf vo da gd fk ma lc ld t vt f_2a c4_2f fK u5 u6 f_2g fh d0 d1 d2 d3 d4 fg ft fb fw w0 w1 w2 w3 w4 fv ⟨hI_n0_1b, hI_n1_1c, hI_n2_1d, hI_n3_1e, hI_n4_1f, hI_n0p, hI_n1p, hI_n2p, hI_n3p, hI_n4p, hI_n0i, hI_n1i, hI_n2i, hI_n3i, hI_n4i, hI_n0j, hI_n1j, hI_n2j, hI_n3j, hI_n4j, hI_n, hI_bd, hI_t, hI_f_2a, hI_fK, hI_fh, hI_fw⟩ ⟨hN0, hR1, hR2⟩ G) hl
theorem hdV_X10_one : yX10_one.cls = RX10 ∧ yX10_one.cls ≠ "java/lang/invoke/MethodHandle" ∧ yX10_one.cls ≠ "java/lang/invoke/VarHandle" ∧ (parseMethodDescriptor yX10_one.desc).map (fun d => d.parameters.length) = some 3 := by decide +kernel
theorem hdV_X11_one : yX11_one.cls = RX11 ∧ yX11_one.cls ≠ "java/lang/invoke/MethodHandle" ∧ yX11_one.cls ≠ "java/lang/invoke/VarHandle" ∧ (parseMethodDescriptor yX11_one.desc).map (fun d => d.parameters.length) = some 3 := by decide +kernel
set_option maxRecDepth 100000 in
set_option maxHeartbeats 8000000 in
theorem lc_1 (S : CallFix p m c cL_law 4 s #[Value.ref b] wsL_law RL) (hX : va_X b L xs s s.heap) (hbl : b < s.heap.size) (hL : L ≤ 3072) (hzi : zi + 6 ≤ L) (hZ : sE K (fun q : Nat => s.heap.size ≤ q) s s.heap) (hW : LW X h0 m0 s H locs) (hl : lv_has ls 4 [(3, .int (nI zi)), (2, .ref m0), (1, .ref h0), (0, .ref b)]) (kk : ∀ (H : Heap) (locs : List Loc) (ls : Array Slot), LW X h0 m0 s H locs → lv_has ls 4 [(3, .int (nI zi)), (2, .ref m0), (1, .ref h0), (0, .ref b)] → W p l e room_1 s m #[Value.ref b] below meth c H locs 94 3522 Q (F0 m 1277 ls [])) : W p l e room_1 s m #[Value.ref b] below meth c H locs 94 3522 Q (F0 m 219 ls []) := by
  have zx := S.1
  have zb := S.2.1
  have hbA : ¬ (fun q : Nat => s.heap.size ≤ q) b := Nat.not_le.mpr hbl
  refine LW_e hW (fun nw sp xa la lb an sv dv n0 n1 n2 n3 n4 g0 gs gn gm ap svp dvp n0p n1p n2p n3p n4p g0p gsp gnp gmp i0 i1 ai svi dvi n0i n1i n2i n3i n4i g0i gsi gni gmi aj svj dvj n0j n1j n2j n3j n4j g0j gsj gnj gmj fz hb n bd vd fd fr ag dg ar dr hc tm tf vo da gd fk ma lc ld t vt fa u4 fK u5 u6 fR fh d0 d1 d2 d3 d4 fg ft fb fw w0 w1 w2 w3 w4 fv hIV hRL G => ?_)
  obtain ⟨hR0, hR1, hR2⟩ := hRL
  obtain ⟨hI_n0, hI_n1, hI_n2, hI_n3, hI_n4, hI_n0p, hI_n1p, hI_n2p, hI_n3p, hI_n4p, hI_n0i, hI_n1i, hI_n2i, hI_n3i, hI_n4i, hI_n0j, hI_n1j, hI_n2j, hI_n3j, hI_n4j, hI_n, hI_bd, hI_t, hI_fa, hI_fK, hI_fh, hI_fw⟩ := hIV
  have hO_bd := hI_bd
  obtain ⟨hd0_bd, hd1_bd⟩ := hO_bd
  have hO_t := hI_t
  obtain ⟨ht0_t, ht1_t⟩ := hO_t
  have hO_fa := hI_fa.2
  obtain ⟨hm0_fa, hm1_fa, hm2_fa, hm3_fa, hm4_fa⟩ := hO_fa
  have hO_fh := hI_fh.2
  obtain ⟨hm0_fh, hm1_fh, hm2_fh, hm3_fh, hm4_fh⟩ := hO_fh
  have hO_fw := hI_fw.2
  obtain ⟨hm0_fw, hm1_fw, hm2_fw, hm3_fw, hm4_fw⟩ := hO_fw
  refine lv_aload_n zx zb dL_law_219 rfl (lv_at hl 2 rfl) ?_
  refine lv_aload_n zx zb dL_law_220 rfl (lv_at hl 3 rfl) ?_
  refine lv_iload_n zx zb dL_law_221 rfl (lv_at hl 0 rfl) ?_
  refine lv_iconst (v := 1) zx zb dL_law_222 (by decide) ?_
  refine r_iadd (v := (nI (zi + 1))) S (nI_add zi 1) dL_law_223 ?_
  refine va_sld zx zb hX hbl hbA G.2.2.2.1 (vp_in_nI (by omega) (by omega)) dL_law_224 ?_
  refine k_it (v := xs (zi + 1)) (congrArg xs (nI_clamp (by omega))) ?_
  refine lv_aload_n zx zb dL_law_225 rfl (lv_at hl 3 rfl) ?_
  refine lv_iload_n zx zb dL_law_226 rfl (lv_at hl 0 rfl) ?_
  refine lv_iconst (v := 2) zx zb dL_law_227 (by decide) ?_
  refine r_iadd (v := (nI (zi + 2))) S (nI_add zi 2) dL_law_228 ?_
  refine va_sld zx zb hX hbl hbA G.2.2.2.1 (vp_in_nI (by omega) (by omega)) dL_law_229 ?_
  refine k_it (v := xs (zi + 2)) (congrArg xs (nI_clamp (by omega))) ?_
  refine lv_aload_n zx zb dL_law_230 rfl (lv_at hl 3 rfl) ?_
  refine lv_iload_n zx zb dL_law_231 rfl (lv_at hl 0 rfl) ?_
  refine lv_iconst (v := 3) zx zb dL_law_232 (by decide) ?_
  refine r_iadd (v := (nI (zi + 3))) S (nI_add zi 3) dL_law_233 ?_
  refine va_sld zx zb hX hbl hbA G.2.2.2.1 (vp_in_nI (by omega) (by omega)) dL_law_234 ?_
  refine k_it (v := xs (zi + 3)) (congrArg xs (nI_clamp (by omega))) ?_
  refine b_wi (cells' := 94) (slots' := 3522) (wr := @HAppend.hAppend va_W va_W va_W _ (rcV X sp ap svp dvp n0p n1p n2p n3p n4p g0p gsp gnp gmp) (@HAppend.hAppend va_W va_W va_W _ ([((xa 2), .inl (X.2.2.2.1, 2, .inr (.inr (.inr (.inr (imQ i0 i1))))))]) (@HAppend.hAppend va_W va_W va_W _ (rcV X i0 ai svi dvi n0i n1i n2i n3i n4i g0i gsi gni gmi) (@HAppend.hAppend va_W va_W va_W _ (rcV X i1 aj svj dvj n0j n1j n2j n3j n4j g0j gsj gnj gmj) (@HAppend.hAppend va_W va_W va_W _ ([((xa 3), .inl (X.2.2.1, 2, .inl fz))]) (@HAppend.hAppend va_W va_W va_W _ (rdV X (xa 4) hb n bd vd fd) (@HAppend.hAppend va_W va_W va_W _ (rnV (xa 8) ag dg) (@HAppend.hAppend va_W va_W va_W _ (rnV (xa 9) ar dr) (@HAppend.hAppend va_W va_W va_W _ ([((xa 10), .inr (7, [.ref hc, .int tm])), (hc, .inl (X.2.1, 16, .inl tf))]) (@HAppend.hAppend va_W va_W va_W _ (odW (xa 11) vo) (@HAppend.hAppend va_W va_W va_W _ (duW X (xa 12) da gd) (@HAppend.hAppend va_W va_W va_W _ ([((xa 13), .inl (X.2.1, 6, .inl fk))]) (@HAppend.hAppend va_W va_W va_W _ (mW m0 ma lc ld n t vt) (@HAppend.hAppend va_W va_W va_W _ ([((ma 0), .inl (X.2.1, 371, .inl fa))]) (@HAppend.hAppend va_W va_W va_W _ ([((ma 1), .inl (X.2.1, 742, .inl fK))]) (@HAppend.hAppend va_W va_W va_W _ ([((ma 2), .inl (X.2.2.1, 2, .inl fz))]) (@HAppend.hAppend va_W va_W va_W _ ([((ma 3), .inl (X.2.1, 3, .inl fR))]) (@HAppend.hAppend va_W va_W va_W _ ([((ma 6), .inl (X.2.1, 55, .inl fh))]) (@HAppend.hAppend va_W va_W va_W _ ([((ma 7), .inl (X.2.1, 6, .inl fg))]) (@HAppend.hAppend va_W va_W va_W _ ([((ma 8), .inl (X.2.1, 10, .inl ft))]) (@HAppend.hAppend va_W va_W va_W _ ([((ma 9), .inl (X.2.1, 20, .inl fb))]) (@HAppend.hAppend va_W va_W va_W _ ([((ma 10), .inl (X.2.1, 150, .inl fd))]) (@HAppend.hAppend va_W va_W va_W _ ([((ma 16), .inl (X.2.1, 123, .inl fw))]) ([((ma 17), .inl (X.2.1, 3, .inl fv))])))))))))))))))))))))))) G rfl rfl [0, 1, 2, 3, 4, 5, 6, 7, 8, 9, 10, 11, 12, 13, 14, 15, 16, 69] [17, 18, 19, 20, 21, 22, 23, 24, 25, 26, 27, 28, 29, 30, 31, 32, 33, 34, 35, 36, 37, 38, 39, 40, 41, 42, 43, 44, 45, 46, 47, 48, 49, 50, 51, 52, 53, 54, 55, 56, 57, 58, 59, 60, 61, 62, 63, 64, 65, 66, 67, 68, 70, 71, 72, 73, 74, 75, 76, 77, 78, 79, 80, 81, 82, 83, 84, 85, 86, 87, 88, 89, 90, 91, 92, 93] rfl rfl rfl rfl (n_V (As := [.int (xs (zi + 1)), .int (xs (zi + 2)), .int (xs (zi + 3))]) (rest := []) (C := RX10) (T := TX10) (N := 14) (ci := 8) S G (x_one l X h0 nw sp xa la lb an sv dv n0 n1 n2 n3 n4 g0 gs gn gm fr (xs (zi + 1)) (xs (zi + 2)) (xs (zi + 3)) hI_n0 hI_n1 hI_n2 hI_n3 hI_n4 H.size) gL_law_X10_one rfl rfl rfl hdV_X10_one ⟨Nat.le_of_ble_eq_true rfl, Nat.le_of_ble_eq_true rfl⟩ [0, 1, 2, 3, 4, 5, 6, 7, 8, 9, 10, 11, 12, 13, 14, 15, 16, 69] rfl rfl 0 rfl rfl rfl hl.1 (Nat.le_of_ble_eq_true rfl) dL_law_235 ⟨Nat.le_of_ble_eq_true rfl, Nat.le_of_ble_eq_true rfl⟩) (fun r_1 u_1 H locs hp_1 G => ?_)
  obtain ⟨sv_1a, dv_1b, n0_1c, n1_1d, f_1e⟩ := u_1
  try dsimp only at hp_1
  obtain ⟨hI_n0_1c, hI_n1_1d, hq_1⟩ := hp_1
  refine lv_pop zx zb dL_law_238 rfl ?_
  refine lv_aload_n zx zb dL_law_239 rfl (lv_at hl 1 rfl) ?_
  refine lv_aload_n zx zb dL_law_240 rfl (lv_at hl 3 rfl) ?_
  refine lv_iload_n zx zb dL_law_241 rfl (lv_at hl 0 rfl) ?_
  refine lv_iconst (v := 1) zx zb dL_law_242 (by decide) ?_
  refine r_iadd (v := (nI (zi + 1))) S (nI_add zi 1) dL_law_243 ?_
  refine va_sld zx zb hX hbl hbA G.2.2.2.1 (vp_in_nI (by omega) (by omega)) dL_law_244 ?_
  refine k_it (v := xs (zi + 1)) (congrArg xs (nI_clamp (by omega))) ?_
  refine lv_aload_n zx zb dL_law_245 rfl (lv_at hl 3 rfl) ?_
  refine lv_iload_n zx zb dL_law_246 rfl (lv_at hl 0 rfl) ?_
  refine lv_iconst (v := 2) zx zb dL_law_247 (by decide) ?_
  refine r_iadd (v := (nI (zi + 2))) S (nI_add zi 2) dL_law_248 ?_
  refine va_sld zx zb hX hbl hbA G.2.2.2.1 (vp_in_nI (by omega) (by omega)) dL_law_249 ?_
  refine k_it (v := xs (zi + 2)) (congrArg xs (nI_clamp (by omega))) ?_
  refine lv_aload_n zx zb dL_law_250 rfl (lv_at hl 3 rfl) ?_
  refine lv_iload_n zx zb dL_law_251 rfl (lv_at hl 0 rfl) ?_
  refine lv_iconst (v := 3) zx zb dL_law_252 (by decide) ?_
  refine r_iadd (v := (nI (zi + 3))) S (nI_add zi 3) dL_law_253 ?_
  refine va_sld zx zb hX hbl hbA G.2.2.2.1 (vp_in_nI (by omega) (by omega)) dL_law_254 ?_
  refine k_it (v := xs (zi + 3)) (congrArg xs (nI_clamp (by omega))) ?_
  refine b_wi (cells' := 94) (slots' := 3522) (wr := @HAppend.hAppend va_W va_W va_W _ (rcV X sp ap svp dvp n0p n1p n2p n3p n4p g0p gsp gnp gmp) (@HAppend.hAppend va_W va_W va_W _ ([((xa 2), .inl (X.2.2.2.1, 2, .inr (.inr (.inr (.inr (imQ i0 i1))))))]) (@HAppend.hAppend va_W va_W va_W _ (rcV X i0 ai svi dvi n0i n1i n2i n3i n4i g0i gsi gni gmi) (@HAppend.hAppend va_W va_W va_W _ (rcV X i1 aj svj dvj n0j n1j n2j n3j n4j g0j gsj gnj gmj) (@HAppend.hAppend va_W va_W va_W _ ([((xa 3), .inl (X.2.2.1, 2, .inl fz))]) (@HAppend.hAppend va_W va_W va_W _ (rdV X (xa 4) hb n bd vd fd) (@HAppend.hAppend va_W va_W va_W _ (rnV (xa 8) ag dg) (@HAppend.hAppend va_W va_W va_W _ (rnV (xa 9) ar dr) (@HAppend.hAppend va_W va_W va_W _ ([((xa 10), .inr (7, [.ref hc, .int tm])), (hc, .inl (X.2.1, 16, .inl tf))]) (@HAppend.hAppend va_W va_W va_W _ (odW (xa 11) vo) (@HAppend.hAppend va_W va_W va_W _ (duW X (xa 12) da gd) (@HAppend.hAppend va_W va_W va_W _ ([((xa 13), .inl (X.2.1, 6, .inl fk))]) (@HAppend.hAppend va_W va_W va_W _ ([((ma 1), .inl (X.2.1, 742, .inl fK))]) (@HAppend.hAppend va_W va_W va_W _ ([((ma 2), .inl (X.2.2.1, 2, .inl fz))]) (@HAppend.hAppend va_W va_W va_W _ ([((ma 6), .inl (X.2.1, 55, .inl fh))]) (@HAppend.hAppend va_W va_W va_W _ ([((ma 7), .inl (X.2.1, 6, .inl fg))]) (@HAppend.hAppend va_W va_W va_W _ ([((ma 8), .inl (X.2.1, 10, .inl ft))]) (@HAppend.hAppend va_W va_W va_W _ ([((ma 9), .inl (X.2.1, 20, .inl fb))]) (@HAppend.hAppend va_W va_W va_W _ ([((ma 10), .inl (X.2.1, 150, .inl fd))]) (@HAppend.hAppend va_W va_W va_W _ ([((ma 16), .inl (X.2.1, 123, .inl fw))]) (@HAppend.hAppend va_W va_W va_W _ ([((ma 17), .inl (X.2.1, 3, .inl fv))]) (@HAppend.hAppend va_W va_W va_W _ (xW h0 nw sp xa la lb) (@HAppend.hAppend va_W va_W va_W _ (rcV X nw an sv_1a dv_1b n0_1c n1_1d n2 n3 n4 g0 gs gn gm) ([((xa 5), .inl (X.2.1, 3, .inl f_1e))])))))))))))))))))))))))) G rfl rfl [64, 65, 68] [0, 1, 2, 3, 4, 5, 6, 7, 8, 9, 10, 11, 12, 13, 14, 15, 16, 17, 18, 19, 20, 21, 22, 23, 24, 25, 26, 27, 28, 29, 30, 31, 32, 33, 34, 35, 36, 37, 38, 39, 40, 41, 42, 43, 44, 45, 46, 47, 48, 49, 50, 51, 52, 53, 54, 55, 56, 57, 58, 59, 60, 61, 62, 63, 66, 67, 69, 70, 71, 72, 73, 74, 75, 76, 77, 78, 79, 80, 81, 82, 83, 84, 85, 86, 87, 88, 89, 90, 91, 92, 93] rfl rfl rfl rfl (n_V (As := [.int (xs (zi + 1)), .int (xs (zi + 2)), .int (xs (zi + 3))]) (rest := []) (C := RX11) (T := TX11) (N := 18) (ci := 9) S G (y_one l X m0 ma lc ld n t vt fa n0 n2 n3 n4 u4 fR (xs (zi + 1)) (xs (zi + 2)) (xs (zi + 3)) hI_n hI_t hI_fa H.size) gL_law_X11_one rfl rfl rfl hdV_X11_one ⟨Nat.le_of_ble_eq_true rfl, Nat.le_of_ble_eq_true rfl⟩ [64, 65, 68] rfl rfl 64 rfl rfl rfl hl.1 (Nat.le_of_ble_eq_true rfl) dL_law_255 ⟨Nat.le_of_ble_eq_true rfl, Nat.le_of_ble_eq_true rfl⟩) (fun r_2 u_2 H locs hp_2 G => ?_)
  obtain ⟨f_2a, c0_2b, c4_2c, f_2d⟩ := u_2
  try dsimp only at hp_2
  obtain ⟨hI_f_2a, hq_2⟩ := hp_2
  have hO_f_2a := hI_f_2a.2
  obtain ⟨hm0_f_2a, hm1_f_2a, hm2_f_2a, hm3_f_2a, hm4_f_2a⟩ := hO_f_2a
  have hEQ := (onxF_rn hq_1).trans (onxF_rn hq_2).symm
  have hN0 : REL n0_1c n2 n3 n4 sv_1a gs gn gm f_2a := REL_one hR0 (fun p => Int32.le_trans (by decide) p.2.1.1) (by omega) (by omega) (by omega) hq_1 hq_2
  have hEA : r_1 = r_2 := congrArg (fun z => z.1) hEQ
  refine lv_pop zx zb dL_law_258 rfl ?_
  refine lv_goto (tgt := 1277) zx zb dL_law_259 (by decide) ?_
  obtain rfl : n0_1c = c0_2b := congrArg (fun z => z.2) hEQ
  have G : wd X (fun q : Nat => s.heap.size ≤ q) (fun q : Nat => s.heap.size ≤ q) s (@HAppend.hAppend va_W va_W va_W _ (xW h0 nw sp xa la lb) (@HAppend.hAppend va_W va_W va_W _ (rcV X nw an sv_1a dv_1b n0_1c n1_1d n2 n3 n4 g0 gs gn gm) (@HAppend.hAppend va_W va_W va_W _ (rcV X sp ap svp dvp n0p n1p n2p n3p n4p g0p gsp gnp gmp) (@HAppend.hAppend va_W va_W va_W _ ([((xa 2), .inl (X.2.2.2.1, 2, .inr (.inr (.inr (.inr (imQ i0 i1))))))]) (@HAppend.hAppend va_W va_W va_W _ (rcV X i0 ai svi dvi n0i n1i n2i n3i n4i g0i gsi gni gmi) (@HAppend.hAppend va_W va_W va_W _ (rcV X i1 aj svj dvj n0j n1j n2j n3j n4j g0j gsj gnj gmj) (@HAppend.hAppend va_W va_W va_W _ ([((xa 3), .inl (X.2.2.1, 2, .inl fz))]) (@HAppend.hAppend va_W va_W va_W _ (rdV X (xa 4) hb n bd vd fd) (@HAppend.hAppend va_W va_W va_W _ ([((xa 5), .inl (X.2.1, 3, .inl f_1e))]) (@HAppend.hAppend va_W va_W va_W _ (rnV (xa 8) ag dg) (@HAppend.hAppend va_W va_W va_W _ (rnV (xa 9) ar dr) (@HAppend.hAppend va_W va_W va_W _ ([((xa 10), .inr (7, [.ref hc, .int tm])), (hc, .inl (X.2.1, 16, .inl tf))]) (@HAppend.hAppend va_W va_W va_W _ (odW (xa 11) vo) (@HAppend.hAppend va_W va_W va_W _ (duW X (xa 12) da gd) (@HAppend.hAppend va_W va_W va_W _ ([((xa 13), .inl (X.2.1, 6, .inl fk))]) (@HAppend.hAppend va_W va_W va_W _ (mW m0 ma lc ld n t vt) (@HAppend.hAppend va_W va_W va_W _ ([((ma 0), .inl (X.2.1, 371, .inl f_2a))]) (@HAppend.hAppend va_W va_W va_W _ ([((ma 1), .inl (X.2.1, 742, .inl fK))]) (@HAppend.hAppend va_W va_W va_W _ ([((ma 2), .inl (X.2.2.1, 2, .inl fz))]) (@HAppend.hAppend va_W va_W va_W _ ([((ma 3), .inl (X.2.1, 3, .inl f_2d))]) (@HAppend.hAppend va_W va_W va_W _ ([((ma 6), .inl (X.2.1, 55, .inl fh))]) (@HAppend.hAppend va_W va_W va_W _ ([((ma 7), .inl (X.2.1, 6, .inl fg))]) (@HAppend.hAppend va_W va_W va_W _ ([((ma 8), .inl (X.2.1, 10, .inl ft))]) (@HAppend.hAppend va_W va_W va_W _ ([((ma 9), .inl (X.2.1, 20, .inl fb))]) (@HAppend.hAppend va_W va_W va_W _ ([((ma 10), .inl (X.2.1, 150, .inl fd))]) (@HAppend.hAppend va_W va_W va_W _ ([((ma 16), .inl (X.2.1, 123, .inl fw))]) ([((ma 17), .inl (X.2.1, 3, .inl fv))]))))))))))))))))))))))))))) H locs := wd_sub G [73, 74, 75, 76, 77, 78, 79, 80, 81, 82, 83, 84, 85, 86, 87, 88, 89, 0, 1, 2, 3, 4, 5, 6, 7, 8, 9, 10, 11, 12, 13, 14, 15, 16, 17, 18, 19, 20, 21, 22, 23, 24, 25, 26, 27, 28, 29, 30, 31, 32, 33, 34, 35, 36, 37, 38, 39, 40, 41, 42, 43, 44, 45, 46, 47, 48, 49, 50, 51, 90, 52, 53, 54, 55, 56, 57, 58, 59, 60, 61, 62, 63, 91, 92, 64, 65, 93, 66, 67, 68, 69, 70, 71, 72] rfl rfl
  exact kk _ _ _ (LW_i nw sp xa la lb an sv_1a dv_1b n0_1c n1_1d n2 n3 n4 g0 gs gn gm ap svp dvp n0p n1p n2p n3p n4p g0p gsp gnp gmp i0 i1 ai svi dvi n0i n1i n2i n3i n4i g0i gsi gni gmi aj svj dvj n0j n1j n2j n3j n4j g0j gsj gnj gmj fz hb n bd vd fd f_1e ag dg ar dr hc tm tf vo da gd fk ma lc ld t vt f_2a c4_2c fK u5 u6 f_2d fh d0 d1 d2 d3 d4 fg ft fb fw w0 w1 w2 w3 w4 fv ⟨hI_n0_1c, hI_n1_1d, hI_n2, hI_n3, hI_n4, hI_n0p, hI_n1p, hI_n2p, hI_n3p, hI_n4p, hI_n0i, hI_n1i, hI_n2i, hI_n3i, hI_n4i, hI_n0j, hI_n1j, hI_n2j, hI_n3j, hI_n4j, hI_n, hI_bd, hI_t, hI_f_2a, hI_fK, hI_fh, hI_fw⟩ ⟨hN0, hR1, hR2⟩ G) hl
end LC
