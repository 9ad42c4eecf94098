theorem dL_law_1172 : decode cL_law 1172 = .ok (.aload_n 1, 1) := by decide +kernel
theorem dL_law_1173 : decode cL_law 1173 = .ok (.aload_n 0, 1) := by decide +kernel
theorem dL_law_1174 : decode cL_law 1174 = .ok (.iload_n 3, 1) := by decide +kernel
theorem dL_law_1175 : decode cL_law 1175 = .ok (.iconst 1, 1) := by decide +kernel
theorem dL_law_1176 : decode cL_law 1176 = .ok (.iadd, 1) := by decide +kernel
theorem dL_law_1177 : decode cL_law 1177 = .ok (.iaload, 1) := by decide +kernel
theorem dL_law_1178 : decode cL_law 1178 = .ok (.invokevirtual 148, 3) := by decide +kernel
theorem dL_law_1181 : decode cL_law 1181 = .ok (.pop, 1) := by decide +kernel
theorem dL_law_1182 : decode cL_law 1182 = .ok (.aload_n 2, 1) := by decide +kernel
theorem dL_law_1183 : decode cL_law 1183 = .ok (.aload_n 0, 1) := by decide +kernel
theorem dL_law_1184 : decode cL_law 1184 = .ok (.iload_n 3, 1) := by decide +kernel
theorem dL_law_1185 : decode cL_law 1185 = .ok (.iconst 1, 1) := by decide +kernel
theorem dL_law_1186 : decode cL_law 1186 = .ok (.iadd, 1) := by decide +kernel
theorem dL_law_1187 : decode cL_law 1187 = .ok (.iaload, 1) := by decide +kernel
theorem dL_law_1188 : decode cL_law 1188 = .ok (.invokevirtual 151, 3) := by decide +kernel
theorem dL_law_1191 : decode cL_law 1191 = .ok (.pop, 1) := by decide +kernel
theorem dL_law_1192 : decode cL_law 1192 = .ok (.goto 85, 3) := by decide +kernel
theorem dL_law_1195 : decode cL_law 1195 = .ok (.aload_n 1, 1) := by decide +kernel
theorem dL_law_1196 : decode cL_law 1196 = .ok (.aload_n 0, 1) := by decide +kernel
theorem dL_law_1197 : decode cL_law 1197 = .ok (.iload_n 3, 1) := by decide +kernel
theorem dL_law_1198 : decode cL_law 1198 = .ok (.iconst 1, 1) := by decide +kernel
theorem dL_law_1199 : decode cL_law 1199 = .ok (.iadd, 1) := by decide +kernel
theorem dL_law_1200 : decode cL_law 1200 = .ok (.iaload, 1) := by decide +kernel
theorem dL_law_1201 : decode cL_law 1201 = .ok (.invokevirtual 152, 3) := by decide +kernel
theorem dL_law_1204 : decode cL_law 1204 = .ok (.aload_n 2, 1) := by decide +kernel
theorem dL_law_1205 : decode cL_law 1205 = .ok (.aload_n 0, 1) := by decide +kernel
theorem dL_law_1206 : decode cL_law 1206 = .ok (.iload_n 3, 1) := by decide +kernel
theorem dL_law_1207 : decode cL_law 1207 = .ok (.iconst 1, 1) := by decide +kernel
theorem dL_law_1208 : decode cL_law 1208 = .ok (.iadd, 1) := by decide +kernel
theorem dL_law_1209 : decode cL_law 1209 = .ok (.iaload, 1) := by decide +kernel
theorem dL_law_1210 : decode cL_law 1210 = .ok (.invokevirtual 155, 3) := by decide +kernel
theorem dL_law_1213 : decode cL_law 1213 = .ok (.if_icmp .eq 64, 3) := by decide +kernel
theorem dL_law_1218 : decode cL_law 1218 = .ok (.aload_n 1, 1) := by decide +kernel
theorem dL_law_1219 : decode cL_law 1219 = .ok (.aload_n 0, 1) := by decide +kernel
theorem dL_law_1220 : decode cL_law 1220 = .ok (.iload_n 3, 1) := by decide +kernel
theorem dL_law_1221 : decode cL_law 1221 = .ok (.iconst 1, 1) := by decide +kernel
theorem dL_law_1222 : decode cL_law 1222 = .ok (.iadd, 1) := by decide +kernel
theorem dL_law_1223 : decode cL_law 1223 = .ok (.iaload, 1) := by decide +kernel
theorem dL_law_1224 : decode cL_law 1224 = .ok (.invokevirtual 156, 3) := by decide +kernel
theorem dL_law_1227 : decode cL_law 1227 = .ok (.pop, 1) := by decide +kernel
theorem dL_law_1228 : decode cL_law 1228 = .ok (.aload_n 2, 1) := by decide +kernel
theorem dL_law_1229 : decode cL_law 1229 = .ok (.aload_n 0, 1) := by decide +kernel
theorem dL_law_1230 : decode cL_law 1230 = .ok (.iload_n 3, 1) := by decide +kernel
theorem dL_law_1231 : decode cL_law 1231 = .ok (.iconst 1, 1) := by decide +kernel
theorem dL_law_1232 : decode cL_law 1232 = .ok (.iadd, 1) := by decide +kernel
theorem dL_law_1233 : decode cL_law 1233 = .ok (.iaload, 1) := by decide +kernel
theorem dL_law_1234 : decode cL_law 1234 = .ok (.invokevirtual 159, 3) := by decide +kernel
theorem dL_law_1237 : decode cL_law 1237 = .ok (.pop, 1) := by decide +kernel
theorem dL_law_1238 : decode cL_law 1238 = .ok (.goto 39, 3) := by decide +kernel
theorem dL_law_1241 : decode cL_law 1241 = .ok (.aload_n 1, 1) := by decide +kernel
theorem dL_law_1242 : decode cL_law 1242 = .ok (.aload_n 0, 1) := by decide +kernel
theorem dL_law_1243 : decode cL_law 1243 = .ok (.iload_n 3, 1) := by decide +kernel
theorem dL_law_1244 : decode cL_law 1244 = .ok (.iconst 1, 1) := by decide +kernel
theorem dL_law_1245 : decode cL_law 1245 = .ok (.iadd, 1) := by decide +kernel
theorem dL_law_1246 : decode cL_law 1246 = .ok (.iaload, 1) := by decide +kernel
theorem dL_law_1247 : decode cL_law 1247 = .ok (.invokevirtual 160, 3) := by decide +kernel
theorem dL_law_1250 : decode cL_law 1250 = .ok (.pop, 1) := by decide +kernel
theorem dL_law_1251 : decode cL_law 1251 = .ok (.aload_n 2, 1) := by decide +kernel
theorem dL_law_1252 : decode cL_law 1252 = .ok (.aload_n 0, 1) := by decide +kernel
theorem dL_law_1253 : decode cL_law 1253 = .ok (.iload_n 3, 1) := by decide +kernel
theorem dL_law_1254 : decode cL_law 1254 = .ok (.iconst 1, 1) := by decide +kernel
theorem dL_law_1255 : decode cL_law 1255 = .ok (.iadd, 1) := by decide +kernel
theorem dL_law_1256 : decode cL_law 1256 = .ok (.iaload, 1) := by decide +kernel
theorem dL_law_1257 : decode cL_law 1257 = .ok (.invokevirtual 163, 3) := by decide +kernel
theorem dL_law_1260 : decode cL_law 1260 = .ok (.pop, 1) := by decide +kernel
theorem dL_law_1261 : decode cL_law 1261 = .ok (.goto 16, 3) := by decide +kernel
theorem dL_law_1264 : decode cL_law 1264 = .ok (.aload_n 1, 1) := by decide +kernel
theorem dL_law_1265 : decode cL_law 1265 = .ok (.invokevirtual 164, 3) := by decide +kernel
theorem dL_law_1268 : decode cL_law 1268 = .ok (.pop2, 1) := by decide +kernel
theorem dL_law_1269 : decode cL_law 1269 = .ok (.aload_n 2, 1) := by decide +kernel
theorem dL_law_1270 : decode cL_law 1270 = .ok (.invokevirtual 168, 3) := by decide +kernel
theorem dL_law_1273 : decode cL_law 1273 = .ok (.pop2, 1) := by decide +kernel
theorem dL_law_1274 : decode cL_law 1274 = .ok (.goto 3, 3) := by decide +kernel
section LC
variable {p : Program} {l : Launch} {e : Env} {s : State} {m : MethodId} {below : List Frame} {meth : Method} {c : Code} {b L : Nat} {xs : Nat → Int32} {X : EX} {K : SK} {h0 m0 zi : Nat} {H : Heap} {locs : List Loc} {ls : Array Slot} {Q : State → Prop}
theorem hdV_X10_image : yX10_image.cls = RX10 ∧ yX10_image.cls ≠ "java/lang/invoke/MethodHandle" ∧ yX10_image.cls ≠ "java/lang/invoke/VarHandle" ∧ (parseMethodDescriptor yX10_image.desc).map (fun d => d.parameters.length) = some 1 := by decide +kernel
theorem hdV_X11_image : yX11_image.cls = RX11 ∧ yX11_image.cls ≠ "java/lang/invoke/MethodHandle" ∧ yX11_image.cls ≠ "java/lang/invoke/VarHandle" ∧ (parseMethodDescriptor yX11_image.desc).map (fun d => d.parameters.length) = some 1 := by decide +kernel
set_option maxRecDepth 100000 in
set_option maxHeartbeats 8000000 in
theorem lc_32 (S : CallFix p m c cL_law 4 s #[Value.ref b] wsL_law RL) (hX : va_X b L xs s s.heap) (hbl : b < s.heap.size) (hL : L ≤ 3072) (hzi : zi + 6 ≤ L) (hZ : sE K (fun q : Nat => s.heap.size ≤ q) s s.heap) (hW : LW X h0 m0 s H locs) (hl : lv_has ls 4 [(3, .int (nI zi)), (2, .ref m0), (1, .ref h0), (0, .ref b)]) (kk : ∀ (H : Heap) (locs : List Loc) (ls : Array Slot), LW X h0 m0 s H locs → lv_has ls 4 [(3, .int (nI zi)), (2, .ref m0), (1, .ref h0), (0, .ref b)] → W p l e room_1 s m #[Value.ref b] below meth c H locs 94 3522 Q (F0 m 1277 ls [])) : W p l e room_1 s m #[Value.ref b] below meth c H locs 94 3522 Q (F0 m 1172 ls []) := by
  have zx := S.1
  have zb := S.2.1
  have hbA : ¬ (fun q : Nat => s.heap.size ≤ q) b := Nat.not_le.mpr hbl
  refine LW_e hW (fun nw sp xa la lb an wv wb wg ap vp bp gp i0 i1 ai vi bi gi aj vj bj gj fz hb n bd vd fd fr vg vr hc tm tf vo da gd fk ma lc ld t vt fa ba fK fR fh bh fg ft fb fD fw bw fv hIV G => ?_)
  obtain ⟨hI_wb, hI_bp, hI_bi, hI_bj, hI_n, hI_bd, hI_t, hI_fa, hI_fK, hI_fh, hI_fw⟩ := hIV
  have hO_wb := hI_wb
  obtain ⟨hb0_wb, hb1_wb, hb2_wb, hb3_wb, hb4_wb⟩ := hO_wb
  have hO_bp := hI_bp
  obtain ⟨hb0_bp, hb1_bp, hb2_bp, hb3_bp, hb4_bp⟩ := hO_bp
  have hO_bi := hI_bi
  obtain ⟨hb0_bi, hb1_bi, hb2_bi, hb3_bi, hb4_bi⟩ := hO_bi
  have hO_bj := hI_bj
  obtain ⟨hb0_bj, hb1_bj, hb2_bj, hb3_bj, hb4_bj⟩ := hO_bj
  have hO_bd := hI_bd
  obtain ⟨hd0_bd, hd1_bd⟩ := hO_bd
  have hO_t := hI_t
  obtain ⟨ht0_t, ht1_t⟩ := hO_t
  have hO_fa := hI_fa.2
  obtain ⟨hm0_fa, hm1_fa, hm2_fa, hm3_fa, hm4_fa⟩ := hO_fa
  have hO_fh := hI_fh.2
  obtain ⟨hm0_fh, hm1_fh, hm2_fh, hm3_fh, hm4_fh⟩ := hO_fh
  have hO_fw := hI_fw.2
  obtain ⟨hm0_fw, hm1_fw, hm2_fw, hm3_fw, hm4_fw⟩ := hO_fw
  refine lv_aload_n zx zb dL_law_1172 rfl (lv_at hl 2 rfl) ?_
  refine lv_aload_n zx zb dL_law_1173 rfl (lv_at hl 3 rfl) ?_
  refine lv_iload_n zx zb dL_law_1174 rfl (lv_at hl 0 rfl) ?_
  refine lv_iconst (v := 1) zx zb dL_law_1175 (by decide) ?_
  refine r_iadd (v := (nI (zi + 1))) S (nI_add zi 1) dL_law_1176 ?_
  refine va_sld zx zb hX hbl hbA G.2.2.2.1 (vp_in_nI (by omega) (by omega)) dL_law_1177 ?_
  refine k_it (v := xs (zi + 1)) (congrArg xs (nI_clamp (by omega))) ?_
  refine b_wi (cells' := 94) (slots' := 3522) (wr := @HAppend.hAppend va_W va_W va_W _ (rcW X sp ap vp bp gp) (@HAppend.hAppend va_W va_W va_W _ (rdV X (xa 4) hb n bd vd fd) (@HAppend.hAppend va_W va_W va_W _ (rnW (xa 8) vg) (@HAppend.hAppend va_W va_W va_W _ (rnW (xa 9) vr) (@HAppend.hAppend va_W va_W va_W _ ([((xa 10), .inr (7, [.ref hc, .int tm])), (hc, .inl (X.2.1, 16, .inl tf))]) (@HAppend.hAppend va_W va_W va_W _ (odW (xa 11) vo) (@HAppend.hAppend va_W va_W va_W _ (duW X (xa 12) da gd) (@HAppend.hAppend va_W va_W va_W _ ([((xa 13), .inl (X.2.1, 6, .inl fk))]) (@HAppend.hAppend va_W va_W va_W _ (mW m0 ma lc ld n t vt) (@HAppend.hAppend va_W va_W va_W _ ([((ma 0), .inl (X.2.1, 371, .inl fa))]) (@HAppend.hAppend va_W va_W va_W _ ([((ma 1), .inl (X.2.1, 742, .inl fK))]) (@HAppend.hAppend va_W va_W va_W _ ([((ma 2), .inl (X.2.2.1, 2, .inl fz))]) (@HAppend.hAppend va_W va_W va_W _ ([((ma 3), .inl (X.2.1, 3, .inl fR))]) (@HAppend.hAppend va_W va_W va_W _ ([((ma 6), .inl (X.2.1, 55, .inl fh))]) (@HAppend.hAppend va_W va_W va_W _ ([((ma 7), .inl (X.2.1, 6, .inl fg))]) (@HAppend.hAppend va_W va_W va_W _ ([((ma 8), .inl (X.2.1, 10, .inl ft))]) (@HAppend.hAppend va_W va_W va_W _ ([((ma 9), .inl (X.2.1, 20, .inl fb))]) (@HAppend.hAppend va_W va_W va_W _ ([((ma 10), .inl (X.2.1, 150, .inl fD))]) (@HAppend.hAppend va_W va_W va_W _ ([((ma 16), .inl (X.2.1, 123, .inl fw))]) ([((ma 17), .inl (X.2.1, 3, .inl fv))])))))))))))))))))))) G rfl rfl [0, 1, 2, 3, 4, 5, 6, 7, 8, 9, 10, 11, 12, 13, 14, 15, 16, 33, 34, 35, 36, 37, 38, 39, 40, 41, 42, 43, 44, 45, 46, 47, 48, 49, 50, 51, 52, 53, 54, 55, 56, 57, 58, 59, 60, 61, 62, 63, 64, 65, 66, 69] [17, 18, 19, 20, 21, 22, 23, 24, 25, 26, 27, 28, 29, 30, 31, 32, 67, 68, 70, 71, 72, 73, 74, 75, 76, 77, 78, 79, 80, 81, 82, 83, 84, 85, 86, 87, 88, 89, 90, 91, 92, 93] rfl rfl rfl rfl (n_V (As := [.int (xs (zi + 1))]) (rest := []) (C := RX10) (T := TX10) (N := 14) (ci := 8) S G (s_image2 l X h0 nw sp xa la lb an wv wb wg i0 i1 ai vi bi gi aj vj bj gj fz fr (xs (zi + 1)) hI_wb hI_bi hI_bj H.size) gL_law_X10_image rfl rfl rfl hdV_X10_image ⟨Nat.le_of_ble_eq_true rfl, Nat.le_of_ble_eq_true rfl⟩ [0, 1, 2, 3, 4, 5, 6, 7, 8, 9, 10, 11, 12, 13, 14, 15, 16, 33, 34, 35, 36, 37, 38, 39, 40, 41, 42, 43, 44, 45, 46, 47, 48, 49, 50, 51, 52, 53, 54, 55, 56, 57, 58, 59, 60, 61, 62, 63, 64, 65, 66, 69] rfl rfl 0 rfl rfl rfl hl.1 (Nat.le_of_ble_eq_true rfl) dL_law_1178 ⟨Nat.le_of_ble_eq_true rfl, Nat.le_of_ble_eq_true rfl⟩) (fun r_1 u_1 H locs hp_1 G => ?_)
  obtain ⟨v_1a, b_1b, g_1c, v_1d, b_1e, g_1f, f_1g, f_1h⟩ := u_1
  try dsimp only at hp_1
  obtain ⟨hI_b_1b, hI_b_1e, hq_1⟩ := hp_1
  have hO_b_1b := hI_b_1b
  obtain ⟨hb0_b_1b, hb1_b_1b, hb2_b_1b, hb3_b_1b, hb4_b_1b⟩ := hO_b_1b
  have hO_b_1e := hI_b_1e
  obtain ⟨hb0_b_1e, hb1_b_1e, hb2_b_1e, hb3_b_1e, hb4_b_1e⟩ := hO_b_1e
  refine lv_pop zx zb dL_law_1181 rfl ?_
  refine lv_aload_n zx zb dL_law_1182 rfl (lv_at hl 1 rfl) ?_
  refine lv_aload_n zx zb dL_law_1183 rfl (lv_at hl 3 rfl) ?_
  refine lv_iload_n zx zb dL_law_1184 rfl (lv_at hl 0 rfl) ?_
  refine lv_iconst (v := 1) zx zb dL_law_1185 (by decide) ?_
  refine r_iadd (v := (nI (zi + 1))) S (nI_add zi 1) dL_law_1186 ?_
  refine va_sld zx zb hX hbl hbA G.2.2.2.1 (vp_in_nI (by omega) (by omega)) dL_law_1187 ?_
  refine k_it (v := xs (zi + 1)) (congrArg xs (nI_clamp (by omega))) ?_
  refine b_wi (cells' := 94) (slots' := 3522) (wr := @HAppend.hAppend va_W va_W va_W _ (rcW X sp ap vp bp gp) (@HAppend.hAppend va_W va_W va_W _ (rdV X (xa 4) hb n bd vd fd) (@HAppend.hAppend va_W va_W va_W _ (rnW (xa 8) vg) (@HAppend.hAppend va_W va_W va_W _ (rnW (xa 9) vr) (@HAppend.hAppend va_W va_W va_W _ ([((xa 10), .inr (7, [.ref hc, .int tm])), (hc, .inl (X.2.1, 16, .inl tf))]) (@HAppend.hAppend va_W va_W va_W _ (odW (xa 11) vo) (@HAppend.hAppend va_W va_W va_W _ (duW X (xa 12) da gd) (@HAppend.hAppend va_W va_W va_W _ ([((xa 13), .inl (X.2.1, 6, .inl fk))]) (@HAppend.hAppend va_W va_W va_W _ ([((ma 6), .inl (X.2.1, 55, .inl fh))]) (@HAppend.hAppend va_W va_W va_W _ ([((ma 7), .inl (X.2.1, 6, .inl fg))]) (@HAppend.hAppend va_W va_W va_W _ ([((ma 8), .inl (X.2.1, 10, .inl ft))]) (@HAppend.hAppend va_W va_W va_W _ ([((ma 9), .inl (X.2.1, 20, .inl fb))]) (@HAppend.hAppend va_W va_W va_W _ ([((ma 10), .inl (X.2.1, 150, .inl fD))]) (@HAppend.hAppend va_W va_W va_W _ ([((ma 16), .inl (X.2.1, 123, .inl fw))]) (@HAppend.hAppend va_W va_W va_W _ ([((ma 17), .inl (X.2.1, 3, .inl fv))]) (@HAppend.hAppend va_W va_W va_W _ (xW h0 nw sp xa la lb) (@HAppend.hAppend va_W va_W va_W _ (rcW X nw an wv wb wg) (@HAppend.hAppend va_W va_W va_W _ ([((xa 2), .inl (X.2.2.2.1, 2, .inr (.inr (.inr (.inr (imQ i0 i1))))))]) (@HAppend.hAppend va_W va_W va_W _ (rcW X i0 ai v_1a b_1b g_1c) (@HAppend.hAppend va_W va_W va_W _ (rcW X i1 aj v_1d b_1e g_1f) (@HAppend.hAppend va_W va_W va_W _ ([((xa 3), .inl (X.2.2.1, 2, .inl f_1g))]) ([((xa 5), .inl (X.2.1, 3, .inl f_1h))])))))))))))))))))))))) G rfl rfl [30, 31, 32, 33, 34] [0, 1, 2, 3, 4, 5, 6, 7, 8, 9, 10, 11, 12, 13, 14, 15, 16, 17, 18, 19, 20, 21, 22, 23, 24, 25, 26, 27, 28, 29, 35, 36, 37, 38, 39, 40, 41, 42, 43, 44, 45, 46, 47, 48, 49, 50, 51, 52, 53, 54, 55, 56, 57, 58, 59, 60, 61, 62, 63, 64, 65, 66, 67, 68, 69, 70, 71, 72, 73, 74, 75, 76, 77, 78, 79, 80, 81, 82, 83, 84, 85, 86, 87, 88, 89, 90, 91, 92, 93] rfl rfl rfl rfl (n_V (As := [.int (xs (zi + 1))]) (rest := []) (C := RX11) (T := TX11) (N := 18) (ci := 9) S G (m_image l X m0 ma lc ld n t vt fa ba fK fz fR (xs (zi + 1)) hI_n hI_t hI_fa hI_fK H.size) gL_law_X11_image rfl rfl rfl hdV_X11_image ⟨Nat.le_of_ble_eq_true rfl, Nat.le_of_ble_eq_true rfl⟩ [30, 31, 32, 33, 34] rfl rfl 30 rfl rfl rfl hl.1 (Nat.le_of_ble_eq_true rfl) dL_law_1188 ⟨Nat.le_of_ble_eq_true rfl, Nat.le_of_ble_eq_true rfl⟩) (fun r_2 u_2 H locs hp_2 G => ?_)
  obtain ⟨f_2a, f_2b, f_2c⟩ := u_2
  try dsimp only at hp_2
  obtain ⟨hI_f_2a, hq_2⟩ := hp_2
  refine lv_pop zx zb dL_law_1191 rfl ?_
  refine lv_goto (tgt := 1277) zx zb dL_law_1192 (by decide) ?_
  obtain rfl : f_1g = f_2b := (k_img hq_1 hq_2).2
  have G : wd X (fun q : Nat => s.heap.size ≤ q) (fun q : Nat => s.heap.size ≤ q) s (@HAppend.hAppend va_W va_W va_W _ (xW h0 nw sp xa la lb) (@HAppend.hAppend va_W va_W va_W _ (rcW X nw an wv wb wg) (@HAppend.hAppend va_W va_W va_W _ (rcW X sp ap vp bp gp) (@HAppend.hAppend va_W va_W va_W _ ([((xa 2), .inl (X.2.2.2.1, 2, .inr (.inr (.inr (.inr (imQ i0 i1))))))]) (@HAppend.hAppend va_W va_W va_W _ (rcW X i0 ai v_1a b_1b g_1c) (@HAppend.hAppend va_W va_W va_W _ (rcW X i1 aj v_1d b_1e g_1f) (@HAppend.hAppend va_W va_W va_W _ ([((xa 3), .inl (X.2.2.1, 2, .inl f_1g))]) (@HAppend.hAppend va_W va_W va_W _ (rdV X (xa 4) hb n bd vd fd) (@HAppend.hAppend va_W va_W va_W _ ([((xa 5), .inl (X.2.1, 3, .inl f_1h))]) (@HAppend.hAppend va_W va_W va_W _ (rnW (xa 8) vg) (@HAppend.hAppend va_W va_W va_W _ (rnW (xa 9) vr) (@HAppend.hAppend va_W va_W va_W _ ([((xa 10), .inr (7, [.ref hc, .int tm])), (hc, .inl (X.2.1, 16, .inl tf))]) (@HAppend.hAppend va_W va_W va_W _ (odW (xa 11) vo) (@HAppend.hAppend va_W va_W va_W _ (duW X (xa 12) da gd) (@HAppend.hAppend va_W va_W va_W _ ([((xa 13), .inl (X.2.1, 6, .inl fk))]) (@HAppend.hAppend va_W va_W va_W _ (mW m0 ma lc ld n t vt) (@HAppend.hAppend va_W va_W va_W _ ([((ma 0), .inl (X.2.1, 371, .inl fa))]) (@HAppend.hAppend va_W va_W va_W _ ([((ma 1), .inl (X.2.1, 742, .inl f_2a))]) (@HAppend.hAppend va_W va_W va_W _ ([((ma 2), .inl (X.2.2.1, 2, .inl f_1g))]) (@HAppend.hAppend va_W va_W va_W _ ([((ma 3), .inl (X.2.1, 3, .inl f_2c))]) (@HAppend.hAppend va_W va_W va_W _ ([((ma 6), .inl (X.2.1, 55, .inl fh))]) (@HAppend.hAppend va_W va_W va_W _ ([((ma 7), .inl (X.2.1, 6, .inl fg))]) (@HAppend.hAppend va_W va_W va_W _ ([((ma 8), .inl (X.2.1, 10, .inl ft))]) (@HAppend.hAppend va_W va_W va_W _ ([((ma 9), .inl (X.2.1, 20, .inl fb))]) (@HAppend.hAppend va_W va_W va_W _ ([((ma 10), .inl (X.2.1, 150, .inl fD))]) (@HAppend.hAppend va_W va_W va_W _ ([((ma 16), .inl (X.2.1, 123, .inl fw))]) ([((ma 17), .inl (X.2.1, 3, .inl fv))]))))))))))))))))))))))))))) H locs := wd_sub G [37, 38, 39, 40, 41, 42, 43, 44, 45, 46, 47, 48, 49, 50, 51, 52, 53, 0, 1, 2, 3, 4, 5, 6, 7, 8, 9, 10, 11, 12, 13, 14, 15, 54, 55, 56, 57, 58, 59, 60, 61, 62, 63, 64, 65, 66, 67, 68, 69, 70, 71, 72, 73, 74, 75, 76, 77, 78, 79, 80, 81, 82, 83, 84, 85, 86, 87, 16, 17, 88, 18, 19, 20, 21, 22, 23, 24, 25, 26, 27, 28, 29, 89, 90, 91, 92, 93, 30, 31, 32, 33, 34, 35, 36] rfl rfl
  exact kk _ _ _ ⟨nw, sp, xa, la, lb, an, wv, wb, wg, ap, vp, bp, gp, i0, i1, ai, v_1a, b_1b, g_1c, aj, v_1d, b_1e, g_1f, f_1g, hb, n, bd, vd, fd, f_1h, vg, vr, hc, tm, tf, vo, da, gd, fk, ma, lc, ld, t, vt, fa, ba, f_2a, f_2c, fh, bh, fg, ft, fb, fD, fw, bw, fv, ⟨hI_wb, hI_bp, hI_b_1b, hI_b_1e, hI_n, hI_bd, hI_t, hI_fa, hI_f_2a, hI_fh, hI_fw⟩, G⟩ hl
theorem hdV_X10_from : yX10_from.cls = RX10 ∧ yX10_from.cls ≠ "java/lang/invoke/MethodHandle" ∧ yX10_from.cls ≠ "java/lang/invoke/VarHandle" ∧ (parseMethodDescriptor yX10_from.desc).map (fun d => d.parameters.length) = some 1 := by decide +kernel
theorem hdV_X11_from : yX11_from.cls = RX11 ∧ yX11_from.cls ≠ "java/lang/invoke/MethodHandle" ∧ yX11_from.cls ≠ "java/lang/invoke/VarHandle" ∧ (parseMethodDescriptor yX11_from.desc).map (fun d => d.parameters.length) = some 1 := by decide +kernel
set_option maxRecDepth 100000 in
set_option maxHeartbeats 8000000 in
theorem lc_33 (S : CallFix p m c cL_law 4 s #[Value.ref b] wsL_law RL) (hX : va_X b L xs s s.heap) (hbl : b < s.heap.size) (hL : L ≤ 3072) (hzi : zi + 6 ≤ L) (hZ : sE K (fun q : Nat => s.heap.size ≤ q) s s.heap) (hW : LW X h0 m0 s H locs) (hl : lv_has ls 4 [(3, .int (nI zi)), (2, .ref m0), (1, .ref h0), (0, .ref b)]) (kk : ∀ (H : Heap) (locs : List Loc) (ls : Array Slot), LW X h0 m0 s H locs → lv_has ls 4 [(3, .int (nI zi)), (2, .ref m0), (1, .ref h0), (0, .ref b)] → W p l e room_1 s m #[Value.ref b] below meth c H locs 94 3522 Q (F0 m 1277 ls [])) : W p l e room_1 s m #[Value.ref b] below meth c H locs 94 3522 Q (F0 m 1195 ls []) := by
  have zx := S.1
  have zb := S.2.1
  have hbA : ¬ (fun q : Nat => s.heap.size ≤ q) b := Nat.not_le.mpr hbl
  refine LW_e hW (fun nw sp xa la lb an wv wb wg ap vp bp gp i0 i1 ai vi bi gi aj vj bj gj fz hb n bd vd fd fr vg vr hc tm tf vo da gd fk ma lc ld t vt fa ba fK fR fh bh fg ft fb fD fw bw fv hIV G => ?_)
  obtain ⟨hI_wb, hI_bp, hI_bi, hI_bj, hI_n, hI_bd, hI_t, hI_fa, hI_fK, hI_fh, hI_fw⟩ := hIV
  have hO_wb := hI_wb
  obtain ⟨hb0_wb, hb1_wb, hb2_wb, hb3_wb, hb4_wb⟩ := hO_wb
  have hO_bp := hI_bp
  obtain ⟨hb0_bp, hb1_bp, hb2_bp, hb3_bp, hb4_bp⟩ := hO_bp
  have hO_bi := hI_bi
  obtain ⟨hb0_bi, hb1_bi, hb2_bi, hb3_bi, hb4_bi⟩ := hO_bi
  have hO_bj := hI_bj
  obtain ⟨hb0_bj, hb1_bj, hb2_bj, hb3_bj, hb4_bj⟩ := hO_bj
  have hO_bd := hI_bd
  obtain ⟨hd0_bd, hd1_bd⟩ := hO_bd
  have hO_t := hI_t
  obtain ⟨ht0_t, ht1_t⟩ := hO_t
  have hO_fa := hI_fa.2
  obtain ⟨hm0_fa, hm1_fa, hm2_fa, hm3_fa, hm4_fa⟩ := hO_fa
  have hO_fh := hI_fh.2
  obtain ⟨hm0_fh, hm1_fh, hm2_fh, hm3_fh, hm4_fh⟩ := hO_fh
  have hO_fw := hI_fw.2
  obtain ⟨hm0_fw, hm1_fw, hm2_fw, hm3_fw, hm4_fw⟩ := hO_fw
  refine lv_aload_n zx zb dL_law_1195 rfl (lv_at hl 2 rfl) ?_
  refine lv_aload_n zx zb dL_law_1196 rfl (lv_at hl 3 rfl) ?_
  refine lv_iload_n zx zb dL_law_1197 rfl (lv_at hl 0 rfl) ?_
  refine lv_iconst (v := 1) zx zb dL_law_1198 (by decide) ?_
  refine r_iadd (v := (nI (zi + 1))) S (nI_add zi 1) dL_law_1199 ?_
  refine va_sld zx zb hX hbl hbA G.2.2.2.1 (vp_in_nI (by omega) (by omega)) dL_law_1200 ?_
  refine k_it (v := xs (zi + 1)) (congrArg xs (nI_clamp (by omega))) ?_
  refine b_wi (cells' := 94) (slots' := 3522) (wr := @HAppend.hAppend va_W va_W va_W _ (rcW X sp ap vp bp gp) (@HAppend.hAppend va_W va_W va_W _ (rdV X (xa 4) hb n bd vd fd) (@HAppend.hAppend va_W va_W va_W _ (rnW (xa 8) vg) (@HAppend.hAppend va_W va_W va_W _ (rnW (xa 9) vr) (@HAppend.hAppend va_W va_W va_W _ ([((xa 10), .inr (7, [.ref hc, .int tm])), (hc, .inl (X.2.1, 16, .inl tf))]) (@HAppend.hAppend va_W va_W va_W _ (odW (xa 11) vo) (@HAppend.hAppend va_W va_W va_W _ (duW X (xa 12) da gd) (@HAppend.hAppend va_W va_W va_W _ ([((xa 13), .inl (X.2.1, 6, .inl fk))]) (@HAppend.hAppend va_W va_W va_W _ (mW m0 ma lc ld n t vt) (@HAppend.hAppend va_W va_W va_W _ ([((ma 0), .inl (X.2.1, 371, .inl fa))]) (@HAppend.hAppend va_W va_W va_W _ ([((ma 1), .inl (X.2.1, 742, .inl fK))]) (@HAppend.hAppend va_W va_W va_W _ ([((ma 2), .inl (X.2.2.1, 2, .inl fz))]) (@HAppend.hAppend va_W va_W va_W _ ([((ma 3), .inl (X.2.1, 3, .inl fR))]) (@HAppend.hAppend va_W va_W va_W _ ([((ma 6), .inl (X.2.1, 55, .inl fh))]) (@HAppend.hAppend va_W va_W va_W _ ([((ma 7), .inl (X.2.1, 6, .inl fg))]) (@HAppend.hAppend va_W va_W va_W _ ([((ma 8), .inl (X.2.1, 10, .inl ft))]) (@HAppend.hAppend va_W va_W va_W _ ([((ma 9), .inl (X.2.1, 20, .inl fb))]) (@HAppend.hAppend va_W va_W va_W _ ([((ma 10), .inl (X.2.1, 150, .inl fD))]) (@HAppend.hAppend va_W va_W va_W _ ([((ma 16), .inl (X.2.1, 123, .inl fw))]) ([((ma 17), .inl (X.2.1, 3, .inl fv))])))))))))))))))))))) G rfl rfl [0, 1, 2, 3, 4, 5, 6, 7, 8, 9, 10, 11, 12, 13, 14, 15, 16, 33, 34, 35, 36, 37, 38, 39, 40, 41, 42, 43, 44, 45, 46, 47, 48, 49, 50, 51, 52, 53, 54, 55, 56, 57, 58, 59, 60, 61, 62, 63, 64, 65, 66, 69] [17, 18, 19, 20, 21, 22, 23, 24, 25, 26, 27, 28, 29, 30, 31, 32, 67, 68, 70, 71, 72, 73, 74, 75, 76, 77, 78, 79, 80, 81, 82, 83, 84, 85, 86, 87, 88, 89, 90, 91, 92, 93] rfl rfl rfl rfl (n_V (As := [.int (xs (zi + 1))]) (rest := []) (C := RX10) (T := TX10) (N := 14) (ci := 8) S G (s_from2 l X h0 nw sp xa la lb an wv wb wg i0 i1 ai vi bi gi aj vj bj gj fz fr (xs (zi + 1)) hI_wb hI_bi hI_bj H.size) gL_law_X10_from rfl rfl rfl hdV_X10_from ⟨Nat.le_of_ble_eq_true rfl, Nat.le_of_ble_eq_true rfl⟩ [0, 1, 2, 3, 4, 5, 6, 7, 8, 9, 10, 11, 12, 13, 14, 15, 16, 33, 34, 35, 36, 37, 38, 39, 40, 41, 42, 43, 44, 45, 46, 47, 48, 49, 50, 51, 52, 53, 54, 55, 56, 57, 58, 59, 60, 61, 62, 63, 64, 65, 66, 69] rfl rfl 0 rfl rfl rfl hl.1 (Nat.le_of_ble_eq_true rfl) dL_law_1201 ⟨Nat.le_of_ble_eq_true rfl, Nat.le_of_ble_eq_true rfl⟩) (fun r_1 u_1 H locs hp_1 G => ?_)
  obtain ⟨v_1a, b_1b, g_1c, f_1d⟩ := u_1
  obtain ⟨hI_b_1b, hq_1⟩ := hp_1
  have hO_b_1b := hI_b_1b
  obtain ⟨hb0_b_1b, hb1_b_1b, hb2_b_1b, hb3_b_1b, hb4_b_1b⟩ := hO_b_1b
  refine lv_aload_n zx zb dL_law_1204 rfl (lv_at hl 1 rfl) ?_
  refine lv_aload_n zx zb dL_law_1205 rfl (lv_at hl 3 rfl) ?_
  refine lv_iload_n zx zb dL_law_1206 rfl (lv_at hl 0 rfl) ?_
  refine lv_iconst (v := 1) zx zb dL_law_1207 (by decide) ?_
  refine r_iadd (v := (nI (zi + 1))) S (nI_add zi 1) dL_law_1208 ?_
  refine va_sld zx zb hX hbl hbA G.2.2.2.1 (vp_in_nI (by omega) (by omega)) dL_law_1209 ?_
  refine k_it (v := xs (zi + 1)) (congrArg xs (nI_clamp (by omega))) ?_
  refine b_wi (cells' := 94) (slots' := 3522) (wr := @HAppend.hAppend va_W va_W va_W _ (rcW X sp ap vp bp gp) (@HAppend.hAppend va_W va_W va_W _ (rdV X (xa 4) hb n bd vd fd) (@HAppend.hAppend va_W va_W va_W _ (rnW (xa 8) vg) (@HAppend.hAppend va_W va_W va_W _ (rnW (xa 9) vr) (@HAppend.hAppend va_W va_W va_W _ ([((xa 10), .inr (7, [.ref hc, .int tm])), (hc, .inl (X.2.1, 16, .inl tf))]) (@HAppend.hAppend va_W va_W va_W _ (odW (xa 11) vo) (@HAppend.hAppend va_W va_W va_W _ (duW X (xa 12) da gd) (@HAppend.hAppend va_W va_W va_W _ ([((xa 13), .inl (X.2.1, 6, .inl fk))]) (@HAppend.hAppend va_W va_W va_W _ ([((ma 6), .inl (X.2.1, 55, .inl fh))]) (@HAppend.hAppend va_W va_W va_W _ ([((ma 7), .inl (X.2.1, 6, .inl fg))]) (@HAppend.hAppend va_W va_W va_W _ ([((ma 8), .inl (X.2.1, 10, .inl ft))]) (@HAppend.hAppend va_W va_W va_W _ ([((ma 9), .inl (X.2.1, 20, .inl fb))]) (@HAppend.hAppend va_W va_W va_W _ ([((ma 10), .inl (X.2.1, 150, .inl fD))]) (@HAppend.hAppend va_W va_W va_W _ ([((ma 16), .inl (X.2.1, 123, .inl fw))]) (@HAppend.hAppend va_W va_W va_W _ ([((ma 17), .inl (X.2.1, 3, .inl fv))]) (@HAppend.hAppend va_W va_W va_W _ (xW h0 nw sp xa la lb) (@HAppend.hAppend va_W va_W va_W _ (rcW X nw an v_1a b_1b g_1c) (@HAppend.hAppend va_W va_W va_W _ ([((xa 2), .inl (X.2.2.2.1, 2, .inr (.inr (.inr (.inr (imQ i0 i1))))))]) (@HAppend.hAppend va_W va_W va_W _ (rcW X i0 ai vi bi gi) (@HAppend.hAppend va_W va_W va_W _ (rcW X i1 aj vj bj gj) (@HAppend.hAppend va_W va_W va_W _ ([((xa 3), .inl (X.2.2.1, 2, .inl fz))]) ([((xa 5), .inl (X.2.1, 3, .inl f_1d))])))))))))))))))))))))) G rfl rfl [30, 31, 32, 33, 34] [0, 1, 2, 3, 4, 5, 6, 7, 8, 9, 10, 11, 12, 13, 14, 15, 16, 17, 18, 19, 20, 21, 22, 23, 24, 25, 26, 27, 28, 29, 35, 36, 37, 38, 39, 40, 41, 42, 43, 44, 45, 46, 47, 48, 49, 50, 51, 52, 53, 54, 55, 56, 57, 58, 59, 60, 61, 62, 63, 64, 65, 66, 67, 68, 69, 70, 71, 72, 73, 74, 75, 76, 77, 78, 79, 80, 81, 82, 83, 84, 85, 86, 87, 88, 89, 90, 91, 92, 93] rfl rfl rfl rfl (n_V (As := [.int (xs (zi + 1))]) (rest := [.int r_1]) (C := RX11) (T := TX11) (N := 18) (ci := 9) S G (m_from l X m0 ma lc ld n t vt fa ba fK fz fR (xs (zi + 1)) hI_n hI_t hI_fa hI_fK H.size) gL_law_X11_from rfl rfl rfl hdV_X11_from ⟨Nat.le_of_ble_eq_true rfl, Nat.le_of_ble_eq_true rfl⟩ [30, 31, 32, 33, 34] rfl rfl 30 rfl rfl rfl hl.1 (Nat.le_of_ble_eq_true rfl) dL_law_1210 ⟨Nat.le_of_ble_eq_true rfl, Nat.le_of_ble_eq_true rfl⟩) (fun r_2 u_2 H locs hp_2 G => ?_)
  obtain ⟨f_2a, b_2b, f_2c⟩ := u_2
  obtain ⟨hI_f_2a, hq_2⟩ := hp_2
  have hO_f_2a := hI_f_2a.2
  obtain ⟨hm0_f_2a, hm1_f_2a, hm2_f_2a, hm3_f_2a, hm4_f_2a⟩ := hO_f_2a
  refine lv_icmp_eq (tgt := 1277) zx zb dL_law_1213 (by decide) (fun c_3 => ?_) (fun c_3 => absurd (k_from hq_1 hq_2) c_3)
  have G : wd X (fun q : Nat => s.heap.size ≤ q) (fun q : Nat => s.heap.size ≤ q) s (@HAppend.hAppend va_W va_W va_W _ (xW h0 nw sp xa la lb) (@HAppend.hAppend va_W va_W va_W _ (rcW X nw an v_1a b_1b g_1c) (@HAppend.hAppend va_W va_W va_W _ (rcW X sp ap vp bp gp) (@HAppend.hAppend va_W va_W va_W _ ([((xa 2), .inl (X.2.2.2.1, 2, .inr (.inr (.inr (.inr (imQ i0 i1))))))]) (@HAppend.hAppend va_W va_W va_W _ (rcW X i0 ai vi bi gi) (@HAppend.hAppend va_W va_W va_W _ (rcW X i1 aj vj bj gj) (@HAppend.hAppend va_W va_W va_W _ ([((xa 3), .inl (X.2.2.1, 2, .inl fz))]) (@HAppend.hAppend va_W va_W va_W _ (rdV X (xa 4) hb n bd vd fd) (@HAppend.hAppend va_W va_W va_W _ ([((xa 5), .inl (X.2.1, 3, .inl f_1d))]) (@HAppend.hAppend va_W va_W va_W _ (rnW (xa 8) vg) (@HAppend.hAppend va_W va_W va_W _ (rnW (xa 9) vr) (@HAppend.hAppend va_W va_W va_W _ ([((xa 10), .inr (7, [.ref hc, .int tm])), (hc, .inl (X.2.1, 16, .inl tf))]) (@HAppend.hAppend va_W va_W va_W _ (odW (xa 11) vo) (@HAppend.hAppend va_W va_W va_W _ (duW X (xa 12) da gd) (@HAppend.hAppend va_W va_W va_W _ ([((xa 13), .inl (X.2.1, 6, .inl fk))]) (@HAppend.hAppend va_W va_W va_W _ (mW m0 ma lc ld n t vt) (@HAppend.hAppend va_W va_W va_W _ ([((ma 0), .inl (X.2.1, 371, .inl f_2a))]) (@HAppend.hAppend va_W va_W va_W _ ([((ma 1), .inl (X.2.1, 742, .inl fK))]) (@HAppend.hAppend va_W va_W va_W _ ([((ma 2), .inl (X.2.2.1, 2, .inl fz))]) (@HAppend.hAppend va_W va_W va_W _ ([((ma 3), .inl (X.2.1, 3, .inl f_2c))]) (@HAppend.hAppend va_W va_W va_W _ ([((ma 6), .inl (X.2.1, 55, .inl fh))]) (@HAppend.hAppend va_W va_W va_W _ ([((ma 7), .inl (X.2.1, 6, .inl fg))]) (@HAppend.hAppend va_W va_W va_W _ ([((ma 8), .inl (X.2.1, 10, .inl ft))]) (@HAppend.hAppend va_W va_W va_W _ ([((ma 9), .inl (X.2.1, 20, .inl fb))]) (@HAppend.hAppend va_W va_W va_W _ ([((ma 10), .inl (X.2.1, 150, .inl fD))]) (@HAppend.hAppend va_W va_W va_W _ ([((ma 16), .inl (X.2.1, 123, .inl fw))]) ([((ma 17), .inl (X.2.1, 3, .inl fv))]))))))))))))))))))))))))))) H locs := wd_sub G [37, 38, 39, 40, 41, 42, 43, 44, 45, 46, 47, 48, 49, 50, 51, 52, 53, 0, 1, 2, 3, 4, 5, 6, 7, 8, 9, 10, 11, 12, 13, 14, 15, 54, 55, 56, 57, 58, 59, 60, 61, 62, 63, 64, 65, 66, 67, 68, 69, 70, 71, 72, 73, 74, 75, 76, 77, 78, 79, 80, 81, 82, 83, 84, 85, 86, 87, 16, 17, 88, 18, 19, 20, 21, 22, 23, 24, 25, 26, 27, 28, 29, 89, 90, 91, 92, 93, 30, 31, 32, 33, 34, 35, 36] rfl rfl
  exact kk _ _ _ ⟨nw, sp, xa, la, lb, an, v_1a, b_1b, g_1c, ap, vp, bp, gp, i0, i1, ai, vi, bi, gi, aj, vj, bj, gj, fz, hb, n, bd, vd, fd, f_1d, vg, vr, hc, tm, tf, vo, da, gd, fk, ma, lc, ld, t, vt, f_2a, b_2b, fK, f_2c, fh, bh, fg, ft, fb, fD, fw, bw, fv, ⟨hI_b_1b, hI_bp, hI_bi, hI_bj, hI_n, hI_bd, hI_t, hI_f_2a, hI_fK, hI_fh, hI_fw⟩, G⟩ hl
theorem hdV_X10_status : yX10_status.cls = RX10 ∧ yX10_status.cls ≠ "java/lang/invoke/MethodHandle" ∧ yX10_status.cls ≠ "java/lang/invoke/VarHandle" ∧ (parseMethodDescriptor yX10_status.desc).map (fun d => d.parameters.length) = some 1 := by decide +kernel
theorem hdV_X11_status : yX11_status.cls = RX11 ∧ yX11_status.cls ≠ "java/lang/invoke/MethodHandle" ∧ yX11_status.cls ≠ "java/lang/invoke/VarHandle" ∧ (parseMethodDescriptor yX11_status.desc).map (fun d => d.parameters.length) = some 1 := by decide +kernel
set_option maxRecDepth 100000 in
set_option maxHeartbeats 8000000 in
theorem lc_34 (S : CallFix p m c cL_law 4 s #[Value.ref b] wsL_law RL) (hX : va_X b L xs s s.heap) (hbl : b < s.heap.size) (hL : L ≤ 3072) (hzi : zi + 6 ≤ L) (hZ : sE K (fun q : Nat => s.heap.size ≤ q) s s.heap) (hW : LW X h0 m0 s H locs) (hl : lv_has ls 4 [(3, .int (nI zi)), (2, .ref m0), (1, .ref h0), (0, .ref b)]) (kk : ∀ (H : Heap) (locs : List Loc) (ls : Array Slot), LW X h0 m0 s H locs → lv_has ls 4 [(3, .int (nI zi)), (2, .ref m0), (1, .ref h0), (0, .ref b)] → W p l e room_1 s m #[Value.ref b] below meth c H locs 94 3522 Q (F0 m 1277 ls [])) : W p l e room_1 s m #[Value.ref b] below meth c H locs 94 3522 Q (F0 m 1218 ls []) := by
  have zx := S.1
  have zb := S.2.1
  have hbA : ¬ (fun q : Nat => s.heap.size ≤ q) b := Nat.not_le.mpr hbl
  refine LW_e hW (fun nw sp xa la lb an wv wb wg ap vp bp gp i0 i1 ai vi bi gi aj vj bj gj fz hb n bd vd fd fr vg vr hc tm tf vo da gd fk ma lc ld t vt fa ba fK fR fh bh fg ft fb fD fw bw fv hIV G => ?_)
  obtain ⟨hI_wb, hI_bp, hI_bi, hI_bj, hI_n, hI_bd, hI_t, hI_fa, hI_fK, hI_fh, hI_fw⟩ := hIV
  have hO_wb := hI_wb
  obtain ⟨hb0_wb, hb1_wb, hb2_wb, hb3_wb, hb4_wb⟩ := hO_wb
  have hO_bp := hI_bp
  obtain ⟨hb0_bp, hb1_bp, hb2_bp, hb3_bp, hb4_bp⟩ := hO_bp
  have hO_bi := hI_bi
  obtain ⟨hb0_bi, hb1_bi, hb2_bi, hb3_bi, hb4_bi⟩ := hO_bi
  have hO_bj := hI_bj
  obtain ⟨hb0_bj, hb1_bj, hb2_bj, hb3_bj, hb4_bj⟩ := hO_bj
  have hO_bd := hI_bd
  obtain ⟨hd0_bd, hd1_bd⟩ := hO_bd
  have hO_t := hI_t
  obtain ⟨ht0_t, ht1_t⟩ := hO_t
  have hO_fa := hI_fa.2
  obtain ⟨hm0_fa, hm1_fa, hm2_fa, hm3_fa, hm4_fa⟩ := hO_fa
  have hO_fh := hI_fh.2
  obtain ⟨hm0_fh, hm1_fh, hm2_fh, hm3_fh, hm4_fh⟩ := hO_fh
  have hO_fw := hI_fw.2
  obtain ⟨hm0_fw, hm1_fw, hm2_fw, hm3_fw, hm4_fw⟩ := hO_fw
  refine lv_aload_n zx zb dL_law_1218 rfl (lv_at hl 2 rfl) ?_
  refine lv_aload_n zx zb dL_law_1219 rfl (lv_at hl 3 rfl) ?_
  refine lv_iload_n zx zb dL_law_1220 rfl (lv_at hl 0 rfl) ?_
  refine lv_iconst (v := 1) zx zb dL_law_1221 (by decide) ?_
  refine r_iadd (v := (nI (zi + 1))) S (nI_add zi 1) dL_law_1222 ?_
  refine va_sld zx zb hX hbl hbA G.2.2.2.1 (vp_in_nI (by omega) (by omega)) dL_law_1223 ?_
  refine k_it (v := xs (zi + 1)) (congrArg xs (nI_clamp (by omega))) ?_
  refine b_wi (cells' := 94) (slots' := 3522) (wr := @HAppend.hAppend va_W va_W va_W _ (rcW X nw an wv wb wg) (@HAppend.hAppend va_W va_W va_W _ (rcW X sp ap vp bp gp) (@HAppend.hAppend va_W va_W va_W _ ([((xa 2), .inl (X.2.2.2.1, 2, .inr (.inr (.inr (.inr (imQ i0 i1))))))]) (@HAppend.hAppend va_W va_W va_W _ (rcW X i0 ai vi bi gi) (@HAppend.hAppend va_W va_W va_W _ (rcW X i1 aj vj bj gj) (@HAppend.hAppend va_W va_W va_W _ ([((xa 3), .inl (X.2.2.1, 2, .inl fz))]) (@HAppend.hAppend va_W va_W va_W _ (rdV X (xa 4) hb n bd vd fd) (@HAppend.hAppend va_W va_W va_W _ (rnW (xa 8) vg) (@HAppend.hAppend va_W va_W va_W _ (rnW (xa 9) vr) (@HAppend.hAppend va_W va_W va_W _ ([((xa 10), .inr (7, [.ref hc, .int tm])), (hc, .inl (X.2.1, 16, .inl tf))]) (@HAppend.hAppend va_W va_W va_W _ (odW (xa 11) vo) (@HAppend.hAppend va_W va_W va_W _ (duW X (xa 12) da gd) (@HAppend.hAppend va_W va_W va_W _ ([((xa 13), .inl (X.2.1, 6, .inl fk))]) (@HAppend.hAppend va_W va_W va_W _ (mW m0 ma lc ld n t vt) (@HAppend.hAppend va_W va_W va_W _ ([((ma 0), .inl (X.2.1, 371, .inl fa))]) (@HAppend.hAppend va_W va_W va_W _ ([((ma 1), .inl (X.2.1, 742, .inl fK))]) (@HAppend.hAppend va_W va_W va_W _ ([((ma 2), .inl (X.2.2.1, 2, .inl fz))]) (@HAppend.hAppend va_W va_W va_W _ ([((ma 3), .inl (X.2.1, 3, .inl fR))]) (@HAppend.hAppend va_W va_W va_W _ ([((ma 6), .inl (X.2.1, 55, .inl fh))]) (@HAppend.hAppend va_W va_W va_W _ ([((ma 7), .inl (X.2.1, 6, .inl fg))]) (@HAppend.hAppend va_W va_W va_W _ ([((ma 8), .inl (X.2.1, 10, .inl ft))]) (@HAppend.hAppend va_W va_W va_W _ ([((ma 9), .inl (X.2.1, 20, .inl fb))]) (@HAppend.hAppend va_W va_W va_W _ ([((ma 10), .inl (X.2.1, 150, .inl fD))]) (@HAppend.hAppend va_W va_W va_W _ ([((ma 16), .inl (X.2.1, 123, .inl fw))]) ([((ma 17), .inl (X.2.1, 3, .inl fv))]))))))))))))))))))))))))) G rfl rfl [0, 69] [1, 2, 3, 4, 5, 6, 7, 8, 9, 10, 11, 12, 13, 14, 15, 16, 17, 18, 19, 20, 21, 22, 23, 24, 25, 26, 27, 28, 29, 30, 31, 32, 33, 34, 35, 36, 37, 38, 39, 40, 41, 42, 43, 44, 45, 46, 47, 48, 49, 50, 51, 52, 53, 54, 55, 56, 57, 58, 59, 60, 61, 62, 63, 64, 65, 66, 67, 68, 70, 71, 72, 73, 74, 75, 76, 77, 78, 79, 80, 81, 82, 83, 84, 85, 86, 87, 88, 89, 90, 91, 92, 93] rfl rfl rfl rfl (n_V (As := [.int (xs (zi + 1))]) (rest := []) (C := RX10) (T := TX10) (N := 14) (ci := 8) S G (s_status l X h0 nw sp xa la lb fr (xs (zi + 1)) H.size) gL_law_X10_status rfl rfl rfl hdV_X10_status ⟨Nat.le_of_ble_eq_true rfl, Nat.le_of_ble_eq_true rfl⟩ [0, 69] rfl rfl 0 rfl rfl rfl hl.1 (Nat.le_of_ble_eq_true rfl) dL_law_1224 ⟨Nat.le_of_ble_eq_true rfl, Nat.le_of_ble_eq_true rfl⟩) (fun r_1 u_1 H locs hp_1 G => ?_)
  obtain ⟨f_1, rfl⟩ : ∃ z, z = u_1 := ⟨_, rfl⟩
  have hq_1 := hp_1
  refine lv_pop zx zb dL_law_1227 rfl ?_
  refine lv_aload_n zx zb dL_law_1228 rfl (lv_at hl 1 rfl) ?_
  refine lv_aload_n zx zb dL_law_1229 rfl (lv_at hl 3 rfl) ?_
  refine lv_iload_n zx zb dL_law_1230 rfl (lv_at hl 0 rfl) ?_
  refine lv_iconst (v := 1) zx zb dL_law_1231 (by decide) ?_
  refine r_iadd (v := (nI (zi + 1))) S (nI_add zi 1) dL_law_1232 ?_
  refine va_sld zx zb hX hbl hbA G.2.2.2.1 (vp_in_nI (by omega) (by omega)) dL_law_1233 ?_
  refine k_it (v := xs (zi + 1)) (congrArg xs (nI_clamp (by omega))) ?_
  refine b_wi (cells' := 94) (slots' := 3522) (wr := @HAppend.hAppend va_W va_W va_W _ (rcW X nw an wv wb wg) (@HAppend.hAppend va_W va_W va_W _ (rcW X sp ap vp bp gp) (@HAppend.hAppend va_W va_W va_W _ ([((xa 2), .inl (X.2.2.2.1, 2, .inr (.inr (.inr (.inr (imQ i0 i1))))))]) (@HAppend.hAppend va_W va_W va_W _ (rcW X i0 ai vi bi gi) (@HAppend.hAppend va_W va_W va_W _ (rcW X i1 aj vj bj gj) (@HAppend.hAppend va_W va_W va_W _ ([((xa 3), .inl (X.2.2.1, 2, .inl fz))]) (@HAppend.hAppend va_W va_W va_W _ (rdV X (xa 4) hb n bd vd fd) (@HAppend.hAppend va_W va_W va_W _ (rnW (xa 8) vg) (@HAppend.hAppend va_W va_W va_W _ (rnW (xa 9) vr) (@HAppend.hAppend va_W va_W va_W _ ([((xa 10), .inr (7, [.ref hc, .int tm])), (hc, .inl (X.2.1, 16, .inl tf))]) (@HAppend.hAppend va_W va_W va_W _ (odW (xa 11) vo) (@HAppend.hAppend va_W va_W va_W _ (duW X (xa 12) da gd) (@HAppend.hAppend va_W va_W va_W _ ([((xa 13), .inl (X.2.1, 6, .inl fk))]) (@HAppend.hAppend va_W va_W va_W _ ([((ma 0), .inl (X.2.1, 371, .inl fa))]) (@HAppend.hAppend va_W va_W va_W _ ([((ma 1), .inl (X.2.1, 742, .inl fK))]) (@HAppend.hAppend va_W va_W va_W _ ([((ma 2), .inl (X.2.2.1, 2, .inl fz))]) (@HAppend.hAppend va_W va_W va_W _ ([((ma 6), .inl (X.2.1, 55, .inl fh))]) (@HAppend.hAppend va_W va_W va_W _ ([((ma 7), .inl (X.2.1, 6, .inl fg))]) (@HAppend.hAppend va_W va_W va_W _ ([((ma 8), .inl (X.2.1, 10, .inl ft))]) (@HAppend.hAppend va_W va_W va_W _ ([((ma 9), .inl (X.2.1, 20, .inl fb))]) (@HAppend.hAppend va_W va_W va_W _ ([((ma 10), .inl (X.2.1, 150, .inl fD))]) (@HAppend.hAppend va_W va_W va_W _ ([((ma 16), .inl (X.2.1, 123, .inl fw))]) (@HAppend.hAppend va_W va_W va_W _ ([((ma 17), .inl (X.2.1, 3, .inl fv))]) (@HAppend.hAppend va_W va_W va_W _ (xW h0 nw sp xa la lb) ([((xa 5), .inl (X.2.1, 3, .inl f_1))]))))))))))))))))))))))))) G rfl rfl [80, 84] [0, 1, 2, 3, 4, 5, 6, 7, 8, 9, 10, 11, 12, 13, 14, 15, 16, 17, 18, 19, 20, 21, 22, 23, 24, 25, 26, 27, 28, 29, 30, 31, 32, 33, 34, 35, 36, 37, 38, 39, 40, 41, 42, 43, 44, 45, 46, 47, 48, 49, 50, 51, 52, 53, 54, 55, 56, 57, 58, 59, 60, 61, 62, 63, 64, 65, 66, 67, 68, 69, 70, 71, 72, 73, 74, 75, 76, 77, 78, 79, 81, 82, 83, 85, 86, 87, 88, 89, 90, 91, 92, 93] rfl rfl rfl rfl (n_V (As := [.int (xs (zi + 1))]) (rest := []) (C := RX11) (T := TX11) (N := 18) (ci := 9) S G (m_status l X m0 ma lc ld n t vt fR (xs (zi + 1)) hI_n hI_t H.size) gL_law_X11_status rfl rfl rfl hdV_X11_status ⟨Nat.le_of_ble_eq_true rfl, Nat.le_of_ble_eq_true rfl⟩ [80, 84] rfl rfl 80 rfl rfl rfl hl.1 (Nat.le_of_ble_eq_true rfl) dL_law_1234 ⟨Nat.le_of_ble_eq_true rfl, Nat.le_of_ble_eq_true rfl⟩) (fun r_2 u_2 H locs hp_2 G => ?_)
  obtain ⟨f_2, rfl⟩ : ∃ z, z = u_2 := ⟨_, rfl⟩
  have hq_2 := hp_2
  refine lv_pop zx zb dL_law_1237 rfl ?_
  refine lv_goto (tgt := 1277) zx zb dL_law_1238 (by decide) ?_
  have G : wd X (fun q : Nat => s.heap.size ≤ q) (fun q : Nat => s.heap.size ≤ q) s (@HAppend.hAppend va_W va_W va_W _ (xW h0 nw sp xa la lb) (@HAppend.hAppend va_W va_W va_W _ (rcW X nw an wv wb wg) (@HAppend.hAppend va_W va_W va_W _ (rcW X sp ap vp bp gp) (@HAppend.hAppend va_W va_W va_W _ ([((xa 2), .inl (X.2.2.2.1, 2, .inr (.inr (.inr (.inr (imQ i0 i1))))))]) (@HAppend.hAppend va_W va_W va_W _ (rcW X i0 ai vi bi gi) (@HAppend.hAppend va_W va_W va_W _ (rcW X i1 aj vj bj gj) (@HAppend.hAppend va_W va_W va_W _ ([((xa 3), .inl (X.2.2.1, 2, .inl fz))]) (@HAppend.hAppend va_W va_W va_W _ (rdV X (xa 4) hb n bd vd fd) (@HAppend.hAppend va_W va_W va_W _ ([((xa 5), .inl (X.2.1, 3, .inl f_1))]) (@HAppend.hAppend va_W va_W va_W _ (rnW (xa 8) vg) (@HAppend.hAppend va_W va_W va_W _ (rnW (xa 9) vr) (@HAppend.hAppend va_W va_W va_W _ ([((xa 10), .inr (7, [.ref hc, .int tm])), (hc, .inl (X.2.1, 16, .inl tf))]) (@HAppend.hAppend va_W va_W va_W _ (odW (xa 11) vo) (@HAppend.hAppend va_W va_W va_W _ (duW X (xa 12) da gd) (@HAppend.hAppend va_W va_W va_W _ ([((xa 13), .inl (X.2.1, 6, .inl fk))]) (@HAppend.hAppend va_W va_W va_W _ (mW m0 ma lc ld n t vt) (@HAppend.hAppend va_W va_W va_W _ ([((ma 0), .inl (X.2.1, 371, .inl fa))]) (@HAppend.hAppend va_W va_W va_W _ ([((ma 1), .inl (X.2.1, 742, .inl fK))]) (@HAppend.hAppend va_W va_W va_W _ ([((ma 2), .inl (X.2.2.1, 2, .inl fz))]) (@HAppend.hAppend va_W va_W va_W _ ([((ma 3), .inl (X.2.1, 3, .inl f_2))]) (@HAppend.hAppend va_W va_W va_W _ ([((ma 6), .inl (X.2.1, 55, .inl fh))]) (@HAppend.hAppend va_W va_W va_W _ ([((ma 7), .inl (X.2.1, 6, .inl fg))]) (@HAppend.hAppend va_W va_W va_W _ ([((ma 8), .inl (X.2.1, 10, .inl ft))]) (@HAppend.hAppend va_W va_W va_W _ ([((ma 9), .inl (X.2.1, 20, .inl fb))]) (@HAppend.hAppend va_W va_W va_W _ ([((ma 10), .inl (X.2.1, 150, .inl fD))]) (@HAppend.hAppend va_W va_W va_W _ ([((ma 16), .inl (X.2.1, 123, .inl fw))]) ([((ma 17), .inl (X.2.1, 3, .inl fv))]))))))))))))))))))))))))))) H locs := wd_sub G [90, 0, 1, 2, 3, 4, 5, 6, 7, 8, 9, 10, 11, 12, 13, 14, 15, 16, 17, 18, 19, 20, 21, 22, 23, 24, 25, 26, 27, 28, 29, 30, 31, 32, 33, 34, 35, 36, 37, 38, 39, 40, 41, 42, 43, 44, 45, 46, 47, 48, 49, 50, 51, 52, 53, 54, 55, 56, 57, 58, 59, 60, 61, 62, 63, 64, 65, 66, 67, 91, 68, 69, 70, 71, 72, 73, 74, 75, 76, 77, 78, 79, 92, 80, 81, 82, 93, 83, 84, 85, 86, 87, 88, 89] rfl rfl
  exact kk _ _ _ ⟨nw, sp, xa, la, lb, an, wv, wb, wg, ap, vp, bp, gp, i0, i1, ai, vi, bi, gi, aj, vj, bj, gj, fz, hb, n, bd, vd, fd, f_1, vg, vr, hc, tm, tf, vo, da, gd, fk, ma, lc, ld, t, vt, fa, ba, fK, f_2, fh, bh, fg, ft, fb, fD, fw, bw, fv, ⟨hI_wb, hI_bp, hI_bi, hI_bj, hI_n, hI_bd, hI_t, hI_fa, hI_fK, hI_fh, hI_fw⟩, G⟩ hl
theorem hdV_X11_count : yX11_count.cls = RX11 ∧ yX11_count.cls ≠ "java/lang/invoke/MethodHandle" ∧ yX11_count.cls ≠ "java/lang/invoke/VarHandle" ∧ (parseMethodDescriptor yX11_count.desc).map (fun d => d.parameters.length) = some 1 := by decide +kernel
set_option maxRecDepth 100000 in
set_option maxHeartbeats 8000000 in
theorem lc_35 (S : CallFix p m c cL_law 4 s #[Value.ref b] wsL_law RL) (hX : va_X b L xs s s.heap) (hbl : b < s.heap.size) (hL : L ≤ 3072) (hzi : zi + 6 ≤ L) (hZ : sE K (fun q : Nat => s.heap.size ≤ q) s s.heap) (hW : LW X h0 m0 s H locs) (hl : lv_has ls 4 [(3, .int (nI zi)), (2, .ref m0), (1, .ref h0), (0, .ref b)]) (kk : ∀ (H : Heap) (locs : List Loc) (ls : Array Slot), LW X h0 m0 s H locs → lv_has ls 4 [(3, .int (nI zi)), (2, .ref m0), (1, .ref h0), (0, .ref b)] → W p l e room_1 s m #[Value.ref b] below meth c H locs 94 3522 Q (F0 m 1277 ls [])) : W p l e room_1 s m #[Value.ref b] below meth c H locs 94 3522 Q (F0 m 1241 ls []) := by
  have zx := S.1
  have zb := S.2.1
  have hbA : ¬ (fun q : Nat => s.heap.size ≤ q) b := Nat.not_le.mpr hbl
  refine LW_e hW (fun nw sp xa la lb an wv wb wg ap vp bp gp i0 i1 ai vi bi gi aj vj bj gj fz hb n bd vd fd fr vg vr hc tm tf vo da gd fk ma lc ld t vt fa ba fK fR fh bh fg ft fb fD fw bw fv hIV G => ?_)
  obtain ⟨hI_wb, hI_bp, hI_bi, hI_bj, hI_n, hI_bd, hI_t, hI_fa, hI_fK, hI_fh, hI_fw⟩ := hIV
  have hO_wb := hI_wb
  obtain ⟨hb0_wb, hb1_wb, hb2_wb, hb3_wb, hb4_wb⟩ := hO_wb
  have hO_bp := hI_bp
  obtain ⟨hb0_bp, hb1_bp, hb2_bp, hb3_bp, hb4_bp⟩ := hO_bp
  have hO_bi := hI_bi
  obtain ⟨hb0_bi, hb1_bi, hb2_bi, hb3_bi, hb4_bi⟩ := hO_bi
  have hO_bj := hI_bj
  obtain ⟨hb0_bj, hb1_bj, hb2_bj, hb3_bj, hb4_bj⟩ := hO_bj
  have hO_bd := hI_bd
  obtain ⟨hd0_bd, hd1_bd⟩ := hO_bd
  have hO_t := hI_t
  obtain ⟨ht0_t, ht1_t⟩ := hO_t
  have hO_fa := hI_fa.2
  obtain ⟨hm0_fa, hm1_fa, hm2_fa, hm3_fa, hm4_fa⟩ := hO_fa
  have hO_fh := hI_fh.2
  obtain ⟨hm0_fh, hm1_fh, hm2_fh, hm3_fh, hm4_fh⟩ := hO_fh
  have hO_fw := hI_fw.2
  obtain ⟨hm0_fw, hm1_fw, hm2_fw, hm3_fw, hm4_fw⟩ := hO_fw
  refine lv_aload_n zx zb dL_law_1241 rfl (lv_at hl 2 rfl) ?_
  refine lv_aload_n zx zb dL_law_1242 rfl (lv_at hl 3 rfl) ?_
  refine lv_iload_n zx zb dL_law_1243 rfl (lv_at hl 0 rfl) ?_
  refine lv_iconst (v := 1) zx zb dL_law_1244 (by decide) ?_
  refine r_iadd (v := (nI (zi + 1))) S (nI_add zi 1) dL_law_1245 ?_
  refine va_sld zx zb hX hbl hbA G.2.2.2.1 (vp_in_nI (by omega) (by omega)) dL_law_1246 ?_
  refine k_it (v := xs (zi + 1)) (congrArg xs (nI_clamp (by omega))) ?_
  refine b_wi (cells' := 94) (slots' := 3522) (wr := @HAppend.hAppend va_W va_W va_W _ (rcW X sp ap vp bp gp) (@HAppend.hAppend va_W va_W va_W _ ([((xa 2), .inl (X.2.2.2.1, 2, .inr (.inr (.inr (.inr (imQ i0 i1))))))]) (@HAppend.hAppend va_W va_W va_W _ (rcW X i0 ai vi bi gi) (@HAppend.hAppend va_W va_W va_W _ (rcW X i1 aj vj bj gj) (@HAppend.hAppend va_W va_W va_W _ ([((xa 3), .inl (X.2.2.1, 2, .inl fz))]) (@HAppend.hAppend va_W va_W va_W _ (rnW (xa 8) vg) (@HAppend.hAppend va_W va_W va_W _ (rnW (xa 9) vr) (@HAppend.hAppend va_W va_W va_W _ ([((xa 10), .inr (7, [.ref hc, .int tm])), (hc, .inl (X.2.1, 16, .inl tf))]) (@HAppend.hAppend va_W va_W va_W _ (odW (xa 11) vo) (@HAppend.hAppend va_W va_W va_W _ (duW X (xa 12) da gd) (@HAppend.hAppend va_W va_W va_W _ ([((xa 13), .inl (X.2.1, 6, .inl fk))]) (@HAppend.hAppend va_W va_W va_W _ (mW m0 ma lc ld n t vt) (@HAppend.hAppend va_W va_W va_W _ ([((ma 0), .inl (X.2.1, 371, .inl fa))]) (@HAppend.hAppend va_W va_W va_W _ ([((ma 1), .inl (X.2.1, 742, .inl fK))]) (@HAppend.hAppend va_W va_W va_W _ ([((ma 2), .inl (X.2.2.1, 2, .inl fz))]) (@HAppend.hAppend va_W va_W va_W _ ([((ma 3), .inl (X.2.1, 3, .inl fR))]) (@HAppend.hAppend va_W va_W va_W _ ([((ma 6), .inl (X.2.1, 55, .inl fh))]) (@HAppend.hAppend va_W va_W va_W _ ([((ma 7), .inl (X.2.1, 6, .inl fg))]) (@HAppend.hAppend va_W va_W va_W _ ([((ma 8), .inl (X.2.1, 10, .inl ft))]) (@HAppend.hAppend va_W va_W va_W _ ([((ma 9), .inl (X.2.1, 20, .inl fb))]) (@HAppend.hAppend va_W va_W va_W _ ([((ma 10), .inl (X.2.1, 150, .inl fD))]) (@HAppend.hAppend va_W va_W va_W _ ([((ma 16), .inl (X.2.1, 123, .inl fw))]) ([((ma 17), .inl (X.2.1, 3, .inl fv))]))))))))))))))))))))))) G rfl rfl [0, 1, 2, 3, 4, 5, 6, 7, 8, 9, 10, 11, 12, 13, 14, 15, 16, 67, 68, 69] [17, 18, 19, 20, 21, 22, 23, 24, 25, 26, 27, 28, 29, 30, 31, 32, 33, 34, 35, 36, 37, 38, 39, 40, 41, 42, 43, 44, 45, 46, 47, 48, 49, 50, 51, 52, 53, 54, 55, 56, 57, 58, 59, 60, 61, 62, 63, 64, 65, 66, 70, 71, 72, 73, 74, 75, 76, 77, 78, 79, 80, 81, 82, 83, 84, 85, 86, 87, 88, 89, 90, 91, 92, 93] rfl rfl rfl rfl (n_V (As := [.int (xs (zi + 1))]) (rest := []) (C := RX10) (T := TX10) (N := 14) (ci := 8) S G (s_count2 l X h0 nw sp xa la lb an wv wb wg hb n bd vd fd fr (xs (zi + 1)) hI_wb hI_n hI_bd H.size) gL_law_X10_count rfl rfl rfl hdV_X10_count ⟨Nat.le_of_ble_eq_true rfl, Nat.le_of_ble_eq_true rfl⟩ [0, 1, 2, 3, 4, 5, 6, 7, 8, 9, 10, 11, 12, 13, 14, 15, 16, 67, 68, 69] rfl rfl 0 rfl rfl rfl hl.1 (Nat.le_of_ble_eq_true rfl) dL_law_1247 ⟨Nat.le_of_ble_eq_true rfl, Nat.le_of_ble_eq_true rfl⟩) (fun r_1 u_1 H locs hp_1 G => ?_)
  obtain ⟨f_1, rfl⟩ : ∃ z, z = u_1 := ⟨_, rfl⟩
  have hq_1 := hp_1
  refine lv_pop zx zb dL_law_1250 rfl ?_
  refine lv_aload_n zx zb dL_law_1251 rfl (lv_at hl 1 rfl) ?_
  refine lv_aload_n zx zb dL_law_1252 rfl (lv_at hl 3 rfl) ?_
  refine lv_iload_n zx zb dL_law_1253 rfl (lv_at hl 0 rfl) ?_
  refine lv_iconst (v := 1) zx zb dL_law_1254 (by decide) ?_
  refine r_iadd (v := (nI (zi + 1))) S (nI_add zi 1) dL_law_1255 ?_
  refine va_sld zx zb hX hbl hbA G.2.2.2.1 (vp_in_nI (by omega) (by omega)) dL_law_1256 ?_
  refine k_it (v := xs (zi + 1)) (congrArg xs (nI_clamp (by omega))) ?_
  refine b_wi (cells' := 94) (slots' := 3522) (wr := @HAppend.hAppend va_W va_W va_W _ (rcW X sp ap vp bp gp) (@HAppend.hAppend va_W va_W va_W _ ([((xa 2), .inl (X.2.2.2.1, 2, .inr (.inr (.inr (.inr (imQ i0 i1))))))]) (@HAppend.hAppend va_W va_W va_W _ (rcW X i0 ai vi bi gi) (@HAppend.hAppend va_W va_W va_W _ (rcW X i1 aj vj bj gj) (@HAppend.hAppend va_W va_W va_W _ ([((xa 3), .inl (X.2.2.1, 2, .inl fz))]) (@HAppend.hAppend va_W va_W va_W _ (rnW (xa 8) vg) (@HAppend.hAppend va_W va_W va_W _ (rnW (xa 9) vr) (@HAppend.hAppend va_W va_W va_W _ ([((xa 10), .inr (7, [.ref hc, .int tm])), (hc, .inl (X.2.1, 16, .inl tf))]) (@HAppend.hAppend va_W va_W va_W _ (odW (xa 11) vo) (@HAppend.hAppend va_W va_W va_W _ (duW X (xa 12) da gd) (@HAppend.hAppend va_W va_W va_W _ ([((xa 13), .inl (X.2.1, 6, .inl fk))]) (@HAppend.hAppend va_W va_W va_W _ ([((ma 1), .inl (X.2.1, 742, .inl fK))]) (@HAppend.hAppend va_W va_W va_W _ ([((ma 2), .inl (X.2.2.1, 2, .inl fz))]) (@HAppend.hAppend va_W va_W va_W _ ([((ma 6), .inl (X.2.1, 55, .inl fh))]) (@HAppend.hAppend va_W va_W va_W _ ([((ma 7), .inl (X.2.1, 6, .inl fg))]) (@HAppend.hAppend va_W va_W va_W _ ([((ma 8), .inl (X.2.1, 10, .inl ft))]) (@HAppend.hAppend va_W va_W va_W _ ([((ma 9), .inl (X.2.1, 20, .inl fb))]) (@HAppend.hAppend va_W va_W va_W _ ([((ma 10), .inl (X.2.1, 150, .inl fD))]) (@HAppend.hAppend va_W va_W va_W _ ([((ma 16), .inl (X.2.1, 123, .inl fw))]) (@HAppend.hAppend va_W va_W va_W _ ([((ma 17), .inl (X.2.1, 3, .inl fv))]) (@HAppend.hAppend va_W va_W va_W _ (xW h0 nw sp xa la lb) (@HAppend.hAppend va_W va_W va_W _ (rcW X nw an wv wb wg) (@HAppend.hAppend va_W va_W va_W _ (rdV X (xa 4) hb n bd vd fd) ([((xa 5), .inl (X.2.1, 3, .inl f_1))])))))))))))))))))))))))) G rfl rfl [62, 63, 66] [0, 1, 2, 3, 4, 5, 6, 7, 8, 9, 10, 11, 12, 13, 14, 15, 16, 17, 18, 19, 20, 21, 22, 23, 24, 25, 26, 27, 28, 29, 30, 31, 32, 33, 34, 35, 36, 37, 38, 39, 40, 41, 42, 43, 44, 45, 46, 47, 48, 49, 50, 51, 52, 53, 54, 55, 56, 57, 58, 59, 60, 61, 64, 65, 67, 68, 69, 70, 71, 72, 73, 74, 75, 76, 77, 78, 79, 80, 81, 82, 83, 84, 85, 86, 87, 88, 89, 90, 91, 92, 93] rfl rfl rfl rfl (n_V (As := [.int (xs (zi + 1))]) (rest := []) (C := RX11) (T := TX11) (N := 18) (ci := 9) S G (m_count l X m0 ma lc ld n t vt fa ba fR (xs (zi + 1)) hI_n hI_t hI_fa H.size) gL_law_X11_count rfl rfl rfl hdV_X11_count ⟨Nat.le_of_ble_eq_true rfl, Nat.le_of_ble_eq_true rfl⟩ [62, 63, 66] rfl rfl 62 rfl rfl rfl hl.1 (Nat.le_of_ble_eq_true rfl) dL_law_1257 ⟨Nat.le_of_ble_eq_true rfl, Nat.le_of_ble_eq_true rfl⟩) (fun r_2 u_2 H locs hp_2 G => ?_)
  obtain ⟨f_2, rfl⟩ : ∃ z, z = u_2 := ⟨_, rfl⟩
  have hq_2 := hp_2
  refine lv_pop zx zb dL_law_1260 rfl ?_
  refine lv_goto (tgt := 1277) zx zb dL_law_1261 (by decide) ?_
  have G : wd X (fun q : Nat => s.heap.size ≤ q) (fun q : Nat => s.heap.size ≤ q) s (@HAppend.hAppend va_W va_W va_W _ (xW h0 nw sp xa la lb) (@HAppend.hAppend va_W va_W va_W _ (rcW X nw an wv wb wg) (@HAppend.hAppend va_W va_W va_W _ (rcW X sp ap vp bp gp) (@HAppend.hAppend va_W va_W va_W _ ([((xa 2), .inl (X.2.2.2.1, 2, .inr (.inr (.inr (.inr (imQ i0 i1))))))]) (@HAppend.hAppend va_W va_W va_W _ (rcW X i0 ai vi bi gi) (@HAppend.hAppend va_W va_W va_W _ (rcW X i1 aj vj bj gj) (@HAppend.hAppend va_W va_W va_W _ ([((xa 3), .inl (X.2.2.1, 2, .inl fz))]) (@HAppend.hAppend va_W va_W va_W _ (rdV X (xa 4) hb n bd vd fd) (@HAppend.hAppend va_W va_W va_W _ ([((xa 5), .inl (X.2.1, 3, .inl f_1))]) (@HAppend.hAppend va_W va_W va_W _ (rnW (xa 8) vg) (@HAppend.hAppend va_W va_W va_W _ (rnW (xa 9) vr) (@HAppend.hAppend va_W va_W va_W _ ([((xa 10), .inr (7, [.ref hc, .int tm])), (hc, .inl (X.2.1, 16, .inl tf))]) (@HAppend.hAppend va_W va_W va_W _ (odW (xa 11) vo) (@HAppend.hAppend va_W va_W va_W _ (duW X (xa 12) da gd) (@HAppend.hAppend va_W va_W va_W _ ([((xa 13), .inl (X.2.1, 6, .inl fk))]) (@HAppend.hAppend va_W va_W va_W _ (mW m0 ma lc ld n t vt) (@HAppend.hAppend va_W va_W va_W _ ([((ma 0), .inl (X.2.1, 371, .inl fa))]) (@HAppend.hAppend va_W va_W va_W _ ([((ma 1), .inl (X.2.1, 742, .inl fK))]) (@HAppend.hAppend va_W va_W va_W _ ([((ma 2), .inl (X.2.2.1, 2, .inl fz))]) (@HAppend.hAppend va_W va_W va_W _ ([((ma 3), .inl (X.2.1, 3, .inl f_2))]) (@HAppend.hAppend va_W va_W va_W _ ([((ma 6), .inl (X.2.1, 55, .inl fh))]) (@HAppend.hAppend va_W va_W va_W _ ([((ma 7), .inl (X.2.1, 6, .inl fg))]) (@HAppend.hAppend va_W va_W va_W _ ([((ma 8), .inl (X.2.1, 10, .inl ft))]) (@HAppend.hAppend va_W va_W va_W _ ([((ma 9), .inl (X.2.1, 20, .inl fb))]) (@HAppend.hAppend va_W va_W va_W _ ([((ma 10), .inl (X.2.1, 150, .inl fD))]) (@HAppend.hAppend va_W va_W va_W _ ([((ma 16), .inl (X.2.1, 123, .inl fw))]) ([((ma 17), .inl (X.2.1, 3, .inl fv))]))))))))))))))))))))))))))) H locs := wd_sub G [71, 72, 73, 74, 75, 76, 77, 78, 79, 80, 81, 82, 83, 84, 85, 86, 87, 0, 1, 2, 3, 4, 5, 6, 7, 8, 9, 10, 11, 12, 13, 14, 15, 16, 17, 18, 19, 20, 21, 22, 23, 24, 25, 26, 27, 28, 29, 30, 31, 32, 33, 34, 35, 36, 37, 38, 39, 40, 41, 42, 43, 44, 45, 46, 47, 48, 49, 88, 89, 90, 50, 51, 52, 53, 54, 55, 56, 57, 58, 59, 60, 61, 91, 92, 62, 63, 93, 64, 65, 66, 67, 68, 69, 70] rfl rfl
  exact kk _ _ _ ⟨nw, sp, xa, la, lb, an, wv, wb, wg, ap, vp, bp, gp, i0, i1, ai, vi, bi, gi, aj, vj, bj, gj, fz, hb, n, bd, vd, fd, f_1, vg, vr, hc, tm, tf, vo, da, gd, fk, ma, lc, ld, t, vt, fa, ba, fK, f_2, fh, bh, fg, ft, fb, fD, fw, bw, fv, ⟨hI_wb, hI_bp, hI_bi, hI_bj, hI_n, hI_bd, hI_t, hI_fa, hI_fK, hI_fh, hI_fw⟩, G⟩ hl
theorem hdV_X10_digest : yX10_digest.cls = RX10 ∧ yX10_digest.cls ≠ "java/lang/invoke/MethodHandle" ∧ yX10_digest.cls ≠ "java/lang/invoke/VarHandle" ∧ (parseMethodDescriptor yX10_digest.desc).map (fun d => d.parameters.length) = some 0 := by decide +kernel
theorem hdV_X11_digest : yX11_digest.cls = RX11 ∧ yX11_digest.cls ≠ "java/lang/invoke/MethodHandle" ∧ yX11_digest.cls ≠ "java/lang/invoke/VarHandle" ∧ (parseMethodDescriptor yX11_digest.desc).map (fun d => d.parameters.length) = some 0 := by decide +kernel
set_option maxRecDepth 100000 in
set_option maxHeartbeats 8000000 in
theorem lc_36 (S : CallFix p m c cL_law 4 s #[Value.ref b] wsL_law RL) (hX : va_X b L xs s s.heap) (hbl : b < s.heap.size) (hL : L ≤ 3072) (hzi : zi + 6 ≤ L) (hZ : sE K (fun q : Nat => s.heap.size ≤ q) s s.heap) (hW : LW X h0 m0 s H locs) (hl : lv_has ls 4 [(3, .int (nI zi)), (2, .ref m0), (1, .ref h0), (0, .ref b)]) (kk : ∀ (H : Heap) (locs : List Loc) (ls : Array Slot), LW X h0 m0 s H locs → lv_has ls 4 [(3, .int (nI zi)), (2, .ref m0), (1, .ref h0), (0, .ref b)] → W p l e room_1 s m #[Value.ref b] below meth c H locs 94 3522 Q (F0 m 1277 ls [])) : W p l e room_1 s m #[Value.ref b] below meth c H locs 94 3522 Q (F0 m 1264 ls []) := by
  have zx := S.1
  have zb := S.2.1
  have hbA : ¬ (fun q : Nat => s.heap.size ≤ q) b := Nat.not_le.mpr hbl
  refine LW_e hW (fun nw sp xa la lb an wv wb wg ap vp bp gp i0 i1 ai vi bi gi aj vj bj gj fz hb n bd vd fd fr vg vr hc tm tf vo da gd fk ma lc ld t vt fa ba fK fR fh bh fg ft fb fD fw bw fv hIV G => ?_)
  obtain ⟨hI_wb, hI_bp, hI_bi, hI_bj, hI_n, hI_bd, hI_t, hI_fa, hI_fK, hI_fh, hI_fw⟩ := hIV
  have hO_wb := hI_wb
  obtain ⟨hb0_wb, hb1_wb, hb2_wb, hb3_wb, hb4_wb⟩ := hO_wb
  have hO_bp := hI_bp
  obtain ⟨hb0_bp, hb1_bp, hb2_bp, hb3_bp, hb4_bp⟩ := hO_bp
  have hO_bi := hI_bi
  obtain ⟨hb0_bi, hb1_bi, hb2_bi, hb3_bi, hb4_bi⟩ := hO_bi
  have hO_bj := hI_bj
  obtain ⟨hb0_bj, hb1_bj, hb2_bj, hb3_bj, hb4_bj⟩ := hO_bj
  have hO_bd := hI_bd
  obtain ⟨hd0_bd, hd1_bd⟩ := hO_bd
  have hO_t := hI_t
  obtain ⟨ht0_t, ht1_t⟩ := hO_t
  have hO_fa := hI_fa.2
  obtain ⟨hm0_fa, hm1_fa, hm2_fa, hm3_fa, hm4_fa⟩ := hO_fa
  have hO_fh := hI_fh.2
  obtain ⟨hm0_fh, hm1_fh, hm2_fh, hm3_fh, hm4_fh⟩ := hO_fh
  have hO_fw := hI_fw.2
  obtain ⟨hm0_fw, hm1_fw, hm2_fw, hm3_fw, hm4_fw⟩ := hO_fw
  refine lv_aload_n zx zb dL_law_1264 rfl (lv_at hl 2 rfl) ?_
  refine b_wl (cells' := 94) (slots' := 3522) (wr := @HAppend.hAppend va_W va_W va_W _ (rcW X sp ap vp bp gp) (@HAppend.hAppend va_W va_W va_W _ ([((xa 2), .inl (X.2.2.2.1, 2, .inr (.inr (.inr (.inr (imQ i0 i1))))))]) (@HAppend.hAppend va_W va_W va_W _ (rcW X i0 ai vi bi gi) (@HAppend.hAppend va_W va_W va_W _ (rcW X i1 aj vj bj gj) (@HAppend.hAppend va_W va_W va_W _ ([((xa 3), .inl (X.2.2.1, 2, .inl fz))]) (@HAppend.hAppend va_W va_W va_W _ (rnW (xa 8) vg) (@HAppend.hAppend va_W va_W va_W _ (rnW (xa 9) vr) (@HAppend.hAppend va_W va_W va_W _ ([((xa 10), .inr (7, [.ref hc, .int tm])), (hc, .inl (X.2.1, 16, .inl tf))]) (@HAppend.hAppend va_W va_W va_W _ (odW (xa 11) vo) (@HAppend.hAppend va_W va_W va_W _ (duW X (xa 12) da gd) (@HAppend.hAppend va_W va_W va_W _ ([((xa 13), .inl (X.2.1, 6, .inl fk))]) (@HAppend.hAppend va_W va_W va_W _ (mW m0 ma lc ld n t vt) (@HAppend.hAppend va_W va_W va_W _ ([((ma 0), .inl (X.2.1, 371, .inl fa))]) (@HAppend.hAppend va_W va_W va_W _ ([((ma 1), .inl (X.2.1, 742, .inl fK))]) (@HAppend.hAppend va_W va_W va_W _ ([((ma 2), .inl (X.2.2.1, 2, .inl fz))]) (@HAppend.hAppend va_W va_W va_W _ ([((ma 3), .inl (X.2.1, 3, .inl fR))]) (@HAppend.hAppend va_W va_W va_W _ ([((ma 6), .inl (X.2.1, 55, .inl fh))]) (@HAppend.hAppend va_W va_W va_W _ ([((ma 7), .inl (X.2.1, 6, .inl fg))]) (@HAppend.hAppend va_W va_W va_W _ ([((ma 8), .inl (X.2.1, 10, .inl ft))]) (@HAppend.hAppend va_W va_W va_W _ ([((ma 9), .inl (X.2.1, 20, .inl fb))]) (@HAppend.hAppend va_W va_W va_W _ ([((ma 10), .inl (X.2.1, 150, .inl fD))]) (@HAppend.hAppend va_W va_W va_W _ ([((ma 16), .inl (X.2.1, 123, .inl fw))]) ([((ma 17), .inl (X.2.1, 3, .inl fv))]))))))))))))))))))))))) G rfl rfl [0, 1, 2, 3, 4, 5, 6, 7, 8, 9, 10, 11, 12, 13, 14, 15, 16, 67, 68, 69] [17, 18, 19, 20, 21, 22, 23, 24, 25, 26, 27, 28, 29, 30, 31, 32, 33, 34, 35, 36, 37, 38, 39, 40, 41, 42, 43, 44, 45, 46, 47, 48, 49, 50, 51, 52, 53, 54, 55, 56, 57, 58, 59, 60, 61, 62, 63, 64, 65, 66, 70, 71, 72, 73, 74, 75, 76, 77, 78, 79, 80, 81, 82, 83, 84, 85, 86, 87, 88, 89, 90, 91, 92, 93] rfl rfl rfl rfl (n_V (As := []) (rest := []) (C := RX10) (T := TX10) (N := 14) (ci := 8) S G (s_digest2 l X h0 nw sp xa la lb an wv wb wg hb n bd vd fd fr hI_wb hI_n hI_bd H.size) gL_law_X10_digest rfl rfl rfl hdV_X10_digest ⟨Nat.le_of_ble_eq_true rfl, Nat.le_of_ble_eq_true rfl⟩ [0, 1, 2, 3, 4, 5, 6, 7, 8, 9, 10, 11, 12, 13, 14, 15, 16, 67, 68, 69] rfl rfl 0 rfl rfl rfl hl.1 (Nat.le_of_ble_eq_true rfl) dL_law_1265 ⟨Nat.le_of_ble_eq_true rfl, Nat.le_of_ble_eq_true rfl⟩) (fun r_1 u_1 H locs hp_1 G => ?_)
  obtain ⟨f_1, rfl⟩ : ∃ z, z = u_1 := ⟨_, rfl⟩
  have hq_1 := hp_1
  refine lv_pop2_2 zx zb dL_law_1268 rfl ?_
  refine lv_aload_n zx zb dL_law_1269 rfl (lv_at hl 1 rfl) ?_
  refine o_rl (cells' := 94) (slots' := 3522) G rfl rfl (n_V (As := []) (rest := []) (C := RX11) (T := TX11) (N := 18) (ci := 9) S G (m_digest l X m0 ma lc ld n t vt fa ba hI_n hI_t hI_fa H.size) gL_law_X11_digest rfl rfl rfl hdV_X11_digest ⟨Nat.le_of_ble_eq_true rfl, Nat.le_of_ble_eq_true rfl⟩ [62, 63] rfl rfl 62 rfl rfl rfl hl.1 (Nat.le_of_ble_eq_true rfl) dL_law_1270 ⟨Nat.le_of_ble_eq_true rfl, Nat.le_of_ble_eq_true rfl⟩) (fun r_2 u_2 H locs hp_2 G => ?_)
  refine lv_pop2_2 zx zb dL_law_1273 rfl ?_
  refine lv_goto (tgt := 1277) zx zb dL_law_1274 (by decide) ?_
  have G : wd X (fun q : Nat => s.heap.size ≤ q) (fun q : Nat => s.heap.size ≤ q) s (@HAppend.hAppend va_W va_W va_W _ (xW h0 nw sp xa la lb) (@HAppend.hAppend va_W va_W va_W _ (rcW X nw an wv wb wg) (@HAppend.hAppend va_W va_W va_W _ (rcW X sp ap vp bp gp) (@HAppend.hAppend va_W va_W va_W _ ([((xa 2), .inl (X.2.2.2.1, 2, .inr (.inr (.inr (.inr (imQ i0 i1))))))]) (@HAppend.hAppend va_W va_W va_W _ (rcW X i0 ai vi bi gi) (@HAppend.hAppend va_W va_W va_W _ (rcW X i1 aj vj bj gj) (@HAppend.hAppend va_W va_W va_W _ ([((xa 3), .inl (X.2.2.1, 2, .inl fz))]) (@HAppend.hAppend va_W va_W va_W _ (rdV X (xa 4) hb n bd vd fd) (@HAppend.hAppend va_W va_W va_W _ ([((xa 5), .inl (X.2.1, 3, .inl f_1))]) (@HAppend.hAppend va_W va_W va_W _ (rnW (xa 8) vg) (@HAppend.hAppend va_W va_W va_W _ (rnW (xa 9) vr) (@HAppend.hAppend va_W va_W va_W _ ([((xa 10), .inr (7, [.ref hc, .int tm])), (hc, .inl (X.2.1, 16, .inl tf))]) (@HAppend.hAppend va_W va_W va_W _ (odW (xa 11) vo) (@HAppend.hAppend va_W va_W va_W _ (duW X (xa 12) da gd) (@HAppend.hAppend va_W va_W va_W _ ([((xa 13), .inl (X.2.1, 6, .inl fk))]) (@HAppend.hAppend va_W va_W va_W _ (mW m0 ma lc ld n t vt) (@HAppend.hAppend va_W va_W va_W _ ([((ma 0), .inl (X.2.1, 371, .inl fa))]) (@HAppend.hAppend va_W va_W va_W _ ([((ma 1), .inl (X.2.1, 742, .inl fK))]) (@HAppend.hAppend va_W va_W va_W _ ([((ma 2), .inl (X.2.2.1, 2, .inl fz))]) (@HAppend.hAppend va_W va_W va_W _ ([((ma 3), .inl (X.2.1, 3, .inl fR))]) (@HAppend.hAppend va_W va_W va_W _ ([((ma 6), .inl (X.2.1, 55, .inl fh))]) (@HAppend.hAppend va_W va_W va_W _ ([((ma 7), .inl (X.2.1, 6, .inl fg))]) (@HAppend.hAppend va_W va_W va_W _ ([((ma 8), .inl (X.2.1, 10, .inl ft))]) (@HAppend.hAppend va_W va_W va_W _ ([((ma 9), .inl (X.2.1, 20, .inl fb))]) (@HAppend.hAppend va_W va_W va_W _ ([((ma 10), .inl (X.2.1, 150, .inl fD))]) (@HAppend.hAppend va_W va_W va_W _ ([((ma 16), .inl (X.2.1, 123, .inl fw))]) ([((ma 17), .inl (X.2.1, 3, .inl fv))]))))))))))))))))))))))))))) H locs := wd_sub G [74, 75, 76, 77, 78, 79, 80, 81, 82, 83, 84, 85, 86, 87, 88, 89, 90, 0, 1, 2, 3, 4, 5, 6, 7, 8, 9, 10, 11, 12, 13, 14, 15, 16, 17, 18, 19, 20, 21, 22, 23, 24, 25, 26, 27, 28, 29, 30, 31, 32, 33, 34, 35, 36, 37, 38, 39, 40, 41, 42, 43, 44, 45, 46, 47, 48, 49, 91, 92, 93, 50, 51, 52, 53, 54, 55, 56, 57, 58, 59, 60, 61, 62, 63, 64, 65, 66, 67, 68, 69, 70, 71, 72, 73] rfl rfl
  exact kk _ _ _ ⟨nw, sp, xa, la, lb, an, wv, wb, wg, ap, vp, bp, gp, i0, i1, ai, vi, bi, gi, aj, vj, bj, gj, fz, hb, n, bd, vd, fd, f_1, vg, vr, hc, tm, tf, vo, da, gd, fk, ma, lc, ld, t, vt, fa, ba, fK, fR, fh, bh, fg, ft, fb, fD, fw, bw, fv, ⟨hI_wb, hI_bp, hI_bi, hI_bj, hI_n, hI_bd, hI_t, hI_fa, hI_fK, hI_fh, hI_fw⟩, G⟩ hl
end LC
