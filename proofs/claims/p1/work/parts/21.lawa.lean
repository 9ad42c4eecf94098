theorem hdV_X10_race : yX10_race.cls = RX10 ∧ yX10_race.cls ≠ "java/lang/invoke/MethodHandle" ∧ yX10_race.cls ≠ "java/lang/invoke/VarHandle" ∧ (parseMethodDescriptor yX10_race.desc).map (fun d => d.parameters.length) = some 1 := by decide +kernel
theorem hdV_X11_race : yX11_race.cls = RX11 ∧ yX11_race.cls ≠ "java/lang/invoke/MethodHandle" ∧ yX11_race.cls ≠ "java/lang/invoke/VarHandle" ∧ (parseMethodDescriptor yX11_race.desc).map (fun d => d.parameters.length) = some 1 := by decide +kernel
set_option maxRecDepth 100000 in
set_option maxHeartbeats 4000000 in
/-- race -/
theorem law_c0 {p : Program} {l : Launch} {e : Env} {s : State} {m : MethodId} {below : List Frame} {meth : Method} {c : Code} {b : Nat} {xs : Nat → Int32} {X : EX} {q0 m0 : Nat} {u : Nat → Nat} {w : (Nat → Nat) × (Nat → Int32)} (S : CallFix p m c cL_law 4 s #[Value.ref b] wsL_law RL) (hX : va_X b 6 xs s s.heap) (hbl : b < s.heap.size) (zr : meth.sig.returnType = ret) (zlk : meth.locks = false) (hz : ∀ j : Nat, j ≠ 36 → w.2 j = 0) (h36 : w.2 36 = 20) {H : Heap} {locs : List Loc} (G : wd X (fun q : Nat => s.heap.size ≤ q) (fun q : Nat => s.heap.size ≤ q) s (lwW X q0 m0 u w) H locs) {ls : Array Slot} (hl : lv_has ls 4 [(3, .int 0), (2, .ref m0), (1, .ref q0), (0, .ref b)]) : W p l e room_1 s m #[Value.ref b] below meth c H locs 94 3522 (lw_Z below #[Value.ref b] s) (F0 m 196 ls []) := by
  have zx := S.1
  have zb := S.2.1
  have hbA : ¬ (fun q : Nat => s.heap.size ≤ q) b := Nat.not_le.mpr hbl
  have G : wd X (fun q : Nat => s.heap.size ≤ q) (fun q : Nat => s.heap.size ≤ q) s [(q0, .inr (8, [.ref (u 0), .ref (u 16), .ref (u 32), .ref (u 65), .ref (u 66), .ref (u 68), .long (Int32.toInt64 0), .long (Int32.toInt64 1), .ref (u 69), .ref (u 70), .ref (u 71), .ref (u 72), .ref (u 73), .ref (u 74)])), ((u 0), .inr (3, [.int 20, .int 0, .int 0, .ref (u 1), .ref (u 8), .ref (u 10), .ref (u 12), .ref (u 14)])), ((u 8), .inr (2, [.ref (u 9), .int 0])), ((u 10), .inr (5, [.int 5, .int 0, .int 1, .ref (u 11), .int 0])), ((u 12), .inr (5, [.int 6, .int 1, .int 1, .ref (u 13), .int 0])), ((u 14), .inr (5, [.int 6, .int 0, .int 0, .ref (u 15), .int 0])), ((u 68), .inl (X.2.1, 3, .inl (fun _ => 0))), (m0, .inr (9, [.ref (w.1 0), .ref (w.1 1), .ref (w.1 2), .ref (w.1 3), .long 0, .long (Int32.toInt64 1), .ref (w.1 4), .ref (w.1 5), .ref (w.1 6), .ref (w.1 7), .ref (w.1 8), .int 0, .int 0, .int 0, .int 0, .int 0, .ref (w.1 9), .ref (w.1 10)])), ((w.1 0), .inl (X.2.1, 371, .inl w.2)), ((w.1 3), .inl (X.2.1, 3, .inl (fun _ => 0)))] H locs := wd_sub G [0, 1, 9, 11, 13, 15, 61, 62, 63, 66] rfl (by decide)
  refine lv_aload_n zx zb dL_law_196 rfl (lv_at hl 2 rfl) ?_
  refine lv_aload_n zx zb dL_law_197 rfl (lv_at hl 3 rfl) ?_
  refine lv_iload_n zx zb dL_law_198 rfl (lv_at hl 0 rfl) ?_
  refine lv_iconst (v := 1) zx zb dL_law_199 (by decide) ?_
  refine r_iadd (v := 1) S (by decide) dL_law_200 ?_
  refine va_sld zx zb hX hbl hbA G.2.2.2.1 (k_vp (by decide)) dL_law_201 ?_
  refine k_it (v := xs 1) rfl ?_
  refine o_wi (cells' := 94) (slots' := 3522) (wr := [(m0, .inr (9, [.ref (w.1 0), .ref (w.1 1), .ref (w.1 2), .ref (w.1 3), .long 0, .long (Int32.toInt64 1), .ref (w.1 4), .ref (w.1 5), .ref (w.1 6), .ref (w.1 7), .ref (w.1 8), .int 0, .int 0, .int 0, .int 0, .int 0, .ref (w.1 9), .ref (w.1 10)])), ((w.1 0), .inl (X.2.1, 371, .inl w.2)), ((w.1 3), .inl (X.2.1, 3, .inl (fun _ => 0)))]) G rfl rfl [0, 1, 2, 3, 4, 5, 6] [7, 8, 9] rfl rfl (by decide) (by decide) (n_V (As := [.int (xs 1)]) (rest := []) (C := RX10) (T := TX10) (N := 14) (ci := 8) S G (c_race l X q0 ([.ref (u 0), .ref (u 16), .ref (u 32), .ref (u 65), .ref (u 66), .ref (u 68), .long (Int32.toInt64 0), .long (Int32.toInt64 1), .ref (u 69), .ref (u 70), .ref (u 71), .ref (u 72), .ref (u 73), .ref (u 74)]) (u 0) (.int 20) (.int 0) (.ref (u 1)) (u 8) (u 10) (u 12) (u 14) (.ref (u 9)) (.int 0) (.int 5) (.int 0) (.int 1) (.ref (u 11)) (.int 0) (.int 6) (.int 1) (.int 1) (.ref (u 13)) (.int 0) (.int 6) (.int 0) (.int 0) (.ref (u 15)) (.int 0) (u 68) (fun _ => 0) (xs 1) rfl rfl H.size) gL_law_X10_race rfl rfl rfl hdV_X10_race ⟨Nat.le_of_ble_eq_true rfl, Nat.le_of_ble_eq_true rfl⟩ [0, 1, 2, 3, 4, 5, 6] rfl (by decide) 0 rfl rfl rfl hl.1 (Nat.le_of_ble_eq_true rfl) dL_law_202 ⟨Nat.le_of_ble_eq_true rfl, Nat.le_of_ble_eq_true rfl⟩) (fun r_1 u_1 H locs hp_1 G => ?_)
  have G : wd X (fun q : Nat => s.heap.size ≤ q) (fun q : Nat => s.heap.size ≤ q) s [(m0, .inr (9, [.ref (w.1 0), .ref (w.1 1), .ref (w.1 2), .ref (w.1 3), .long 0, .long (Int32.toInt64 1), .ref (w.1 4), .ref (w.1 5), .ref (w.1 6), .ref (w.1 7), .ref (w.1 8), .int 0, .int 0, .int 0, .int 0, .int 0, .ref (w.1 9), .ref (w.1 10)])), ((w.1 0), .inl (X.2.1, 371, .inl w.2)), ((w.1 3), .inl (X.2.1, 3, .inl (fun _ => 0)))] H locs := G
  refine lv_aload_n zx zb dL_law_205 rfl (lv_at hl 1 rfl) ?_
  refine lv_aload_n zx zb dL_law_206 rfl (lv_at hl 3 rfl) ?_
  refine lv_iload_n zx zb dL_law_207 rfl (lv_at hl 0 rfl) ?_
  refine lv_iconst (v := 1) zx zb dL_law_208 (by decide) ?_
  refine r_iadd (v := 1) S (by decide) dL_law_209 ?_
  refine va_sld zx zb hX hbl hbA G.2.2.2.1 (k_vp (by decide)) dL_law_210 ?_
  refine k_it (v := xs 1) rfl ?_
  refine o_wi (cells' := 94) (slots' := 3522) (wr := []) G rfl rfl [0, 1, 2] [] rfl rfl (by decide) (by decide) (n_V (As := [.int (xs 1)]) (rest := [.int r_1]) (C := RX11) (T := TX11) (N := 18) (ci := 9) S G (m_race l X m0 ([.ref (w.1 0), .ref (w.1 1), .ref (w.1 2), .ref (w.1 3), .long 0, .long (Int32.toInt64 1), .ref (w.1 4), .ref (w.1 5), .ref (w.1 6), .ref (w.1 7), .ref (w.1 8), .int 0, .int 0, .int 0, .int 0, .int 0, .ref (w.1 9), .ref (w.1 10)]) (w.1 0) w.2 (w.1 3) (fun _ => 0) (xs 1) rfl rfl (hz 0 (by decide)) H.size) gL_law_X11_race rfl rfl rfl hdV_X11_race ⟨Nat.le_of_ble_eq_true rfl, Nat.le_of_ble_eq_true rfl⟩ [0, 1, 2] rfl (by decide) 0 rfl rfl rfl hl.1 (Nat.le_of_ble_eq_true rfl) dL_law_211 ⟨Nat.le_of_ble_eq_true rfl, Nat.le_of_ble_eq_true rfl⟩) (fun r_2 u_2 H locs hp_2 G => ?_)
  have G : wd X (fun q : Nat => s.heap.size ≤ q) (fun q : Nat => s.heap.size ≤ q) s [] H locs := G
  refine lv_icmp_eq (tgt := 1279) zx zb dL_law_214 (by decide) (fun c_3 => ?_) (fun c_3 => absurd (hp_1.trans hp_2.symm) c_3)
  exact law_end (Nat.le_of_ble_eq_true rfl) (Nat.le_of_ble_eq_true rfl) S hX hbl zr zlk G hl
theorem hdV_X10_one : yX10_one.cls = RX10 ∧ yX10_one.cls ≠ "java/lang/invoke/MethodHandle" ∧ yX10_one.cls ≠ "java/lang/invoke/VarHandle" ∧ (parseMethodDescriptor yX10_one.desc).map (fun d => d.parameters.length) = some 3 := by decide +kernel
theorem hdV_X11_one : yX11_one.cls = RX11 ∧ yX11_one.cls ≠ "java/lang/invoke/MethodHandle" ∧ yX11_one.cls ≠ "java/lang/invoke/VarHandle" ∧ (parseMethodDescriptor yX11_one.desc).map (fun d => d.parameters.length) = some 3 := by decide +kernel
set_option maxRecDepth 100000 in
set_option maxHeartbeats 4000000 in
/-- one -/
theorem law_c1 {p : Program} {l : Launch} {e : Env} {s : State} {m : MethodId} {below : List Frame} {meth : Method} {c : Code} {b : Nat} {xs : Nat → Int32} {X : EX} {q0 m0 : Nat} {u : Nat → Nat} {w : (Nat → Nat) × (Nat → Int32)} (S : CallFix p m c cL_law 4 s #[Value.ref b] wsL_law RL) (hX : va_X b 6 xs s s.heap) (hbl : b < s.heap.size) (zr : meth.sig.returnType = ret) (zlk : meth.locks = false) (hz : ∀ j : Nat, j ≠ 36 → w.2 j = 0) (h36 : w.2 36 = 20) {H : Heap} {locs : List Loc} (G : wd X (fun q : Nat => s.heap.size ≤ q) (fun q : Nat => s.heap.size ≤ q) s (lwW X q0 m0 u w) H locs) {ls : Array Slot} (hl : lv_has ls 4 [(3, .int 0), (2, .ref m0), (1, .ref q0), (0, .ref b)]) : W p l e room_1 s m #[Value.ref b] below meth c H locs 94 3522 (lw_Z below #[Value.ref b] s) (F0 m 219 ls []) := by
  have zx := S.1
  have zb := S.2.1
  have hbA : ¬ (fun q : Nat => s.heap.size ≤ q) b := Nat.not_le.mpr hbl
  have G : wd X (fun q : Nat => s.heap.size ≤ q) (fun q : Nat => s.heap.size ≤ q) s [(q0, .inr (8, [.ref (u 0), .ref (u 16), .ref (u 32), .ref (u 65), .ref (u 66), .ref (u 68), .long (Int32.toInt64 0), .long (Int32.toInt64 1), .ref (u 69), .ref (u 70), .ref (u 71), .ref (u 72), .ref (u 73), .ref (u 74)])), ((u 0), .inr (3, [.int 20, .int 0, .int 0, .ref (u 1), .ref (u 8), .ref (u 10), .ref (u 12), .ref (u 14)])), ((u 1), .inl (X.2.2.2.2, 6, .inr (.inr (.inr (.inr (va_up (va_up (va_up (va_up (va_up (va_up (fun _ => none) 0 (some (u 2))) 1 (some (u 3))) 2 (some (u 4))) 3 (some (u 5))) 4 (some (u 6))) 5 (some (u 7)))))))), ((u 2), .inr (6, [.int 0, .int 0, .int 0, .int 0, .int 0, .int 0, .int 0, .int 0])), ((u 8), .inr (2, [.ref (u 9), .int 0])), ((u 68), .inl (X.2.1, 3, .inl (fun _ => 0))), (m0, .inr (9, [.ref (w.1 0), .ref (w.1 1), .ref (w.1 2), .ref (w.1 3), .long 0, .long (Int32.toInt64 1), .ref (w.1 4), .ref (w.1 5), .ref (w.1 6), .ref (w.1 7), .ref (w.1 8), .int 0, .int 0, .int 0, .int 0, .int 0, .ref (w.1 9), .ref (w.1 10)])), ((w.1 0), .inl (X.2.1, 371, .inl w.2)), ((w.1 3), .inl (X.2.1, 3, .inl (fun _ => 0)))] H locs := wd_sub G [0, 1, 2, 3, 9, 61, 62, 63, 66] rfl (by decide)
  refine lv_aload_n zx zb dL_law_219 rfl (lv_at hl 2 rfl) ?_
  refine lv_aload_n zx zb dL_law_220 rfl (lv_at hl 3 rfl) ?_
  refine lv_iload_n zx zb dL_law_221 rfl (lv_at hl 0 rfl) ?_
  refine lv_iconst (v := 1) zx zb dL_law_222 (by decide) ?_
  refine r_iadd (v := 1) S (by decide) dL_law_223 ?_
  refine va_sld zx zb hX hbl hbA G.2.2.2.1 (k_vp (by decide)) dL_law_224 ?_
  refine k_it (v := xs 1) rfl ?_
  refine lv_aload_n zx zb dL_law_225 rfl (lv_at hl 3 rfl) ?_
  refine lv_iload_n zx zb dL_law_226 rfl (lv_at hl 0 rfl) ?_
  refine lv_iconst (v := 2) zx zb dL_law_227 (by decide) ?_
  refine r_iadd (v := 2) S (by decide) dL_law_228 ?_
  refine va_sld zx zb hX hbl hbA G.2.2.2.1 (k_vp (by decide)) dL_law_229 ?_
  refine k_it (v := xs 2) rfl ?_
  refine lv_aload_n zx zb dL_law_230 rfl (lv_at hl 3 rfl) ?_
  refine lv_iload_n zx zb dL_law_231 rfl (lv_at hl 0 rfl) ?_
  refine lv_iconst (v := 3) zx zb dL_law_232 (by decide) ?_
  refine r_iadd (v := 3) S (by decide) dL_law_233 ?_
  refine va_sld zx zb hX hbl hbA G.2.2.2.1 (k_vp (by decide)) dL_law_234 ?_
  refine k_it (v := xs 3) rfl ?_
  refine o_wi (cells' := 94) (slots' := 3522) (wr := [(m0, .inr (9, [.ref (w.1 0), .ref (w.1 1), .ref (w.1 2), .ref (w.1 3), .long 0, .long (Int32.toInt64 1), .ref (w.1 4), .ref (w.1 5), .ref (w.1 6), .ref (w.1 7), .ref (w.1 8), .int 0, .int 0, .int 0, .int 0, .int 0, .ref (w.1 9), .ref (w.1 10)])), ((w.1 0), .inl (X.2.1, 371, .inl w.2)), ((w.1 3), .inl (X.2.1, 3, .inl (fun _ => 0)))]) G rfl rfl [0, 1, 2, 3, 4, 5] [6, 7, 8] rfl rfl (by decide) (by decide) (n_V (As := [.int (xs 1), .int (xs 2), .int (xs 3)]) (rest := []) (C := RX10) (T := TX10) (N := 14) (ci := 8) S G (c_one l X q0 ([.ref (u 0), .ref (u 16), .ref (u 32), .ref (u 65), .ref (u 66), .ref (u 68), .long (Int32.toInt64 0), .long (Int32.toInt64 1), .ref (u 69), .ref (u 70), .ref (u 71), .ref (u 72), .ref (u 73), .ref (u 74)]) (u 0) (.int 20) (.int 0) (u 1) (u 8) (.ref (u 10)) (.ref (u 12)) (.ref (u 14)) (va_up (va_up (va_up (va_up (va_up (va_up (fun _ => none) 0 (some (u 2))) 1 (some (u 3))) 2 (some (u 4))) 3 (some (u 5))) 4 (some (u 6))) 5 (some (u 7))) (u 2) (.int 0) (.int 0) (.int 0) (.int 0) (.int 0) (.int 0) (.int 0) (.int 0) (.ref (u 9)) (.int 0) (u 68) (fun _ => 0) (xs 1) (xs 2) (xs 3) rfl rfl rfl H.size) gL_law_X10_one rfl rfl rfl hdV_X10_one ⟨Nat.le_of_ble_eq_true rfl, Nat.le_of_ble_eq_true rfl⟩ [0, 1, 2, 3, 4, 5] rfl (by decide) 0 rfl rfl rfl hl.1 (Nat.le_of_ble_eq_true rfl) dL_law_235 ⟨Nat.le_of_ble_eq_true rfl, Nat.le_of_ble_eq_true rfl⟩) (fun r_1 u_1 H locs hp_1 G => ?_)
  have G : wd X (fun q : Nat => s.heap.size ≤ q) (fun q : Nat => s.heap.size ≤ q) s [(m0, .inr (9, [.ref (w.1 0), .ref (w.1 1), .ref (w.1 2), .ref (w.1 3), .long 0, .long (Int32.toInt64 1), .ref (w.1 4), .ref (w.1 5), .ref (w.1 6), .ref (w.1 7), .ref (w.1 8), .int 0, .int 0, .int 0, .int 0, .int 0, .ref (w.1 9), .ref (w.1 10)])), ((w.1 0), .inl (X.2.1, 371, .inl w.2)), ((w.1 3), .inl (X.2.1, 3, .inl (fun _ => 0)))] H locs := G
  refine lv_aload_n zx zb dL_law_238 rfl (lv_at hl 1 rfl) ?_
  refine lv_aload_n zx zb dL_law_239 rfl (lv_at hl 3 rfl) ?_
  refine lv_iload_n zx zb dL_law_240 rfl (lv_at hl 0 rfl) ?_
  refine lv_iconst (v := 1) zx zb dL_law_241 (by decide) ?_
  refine r_iadd (v := 1) S (by decide) dL_law_242 ?_
  refine va_sld zx zb hX hbl hbA G.2.2.2.1 (k_vp (by decide)) dL_law_243 ?_
  refine k_it (v := xs 1) rfl ?_
  refine lv_aload_n zx zb dL_law_244 rfl (lv_at hl 3 rfl) ?_
  refine lv_iload_n zx zb dL_law_245 rfl (lv_at hl 0 rfl) ?_
  refine lv_iconst (v := 2) zx zb dL_law_246 (by decide) ?_
  refine r_iadd (v := 2) S (by decide) dL_law_247 ?_
  refine va_sld zx zb hX hbl hbA G.2.2.2.1 (k_vp (by decide)) dL_law_248 ?_
  refine k_it (v := xs 2) rfl ?_
  refine lv_aload_n zx zb dL_law_249 rfl (lv_at hl 3 rfl) ?_
  refine lv_iload_n zx zb dL_law_250 rfl (lv_at hl 0 rfl) ?_
  refine lv_iconst (v := 3) zx zb dL_law_251 (by decide) ?_
  refine r_iadd (v := 3) S (by decide) dL_law_252 ?_
  refine va_sld zx zb hX hbl hbA G.2.2.2.1 (k_vp (by decide)) dL_law_253 ?_
  refine k_it (v := xs 3) rfl ?_
  refine o_wi (cells' := 94) (slots' := 3522) (wr := []) G rfl rfl [0, 1, 2] [] rfl rfl (by decide) (by decide) (n_V (As := [.int (xs 1), .int (xs 2), .int (xs 3)]) (rest := [.int r_1]) (C := RX11) (T := TX11) (N := 18) (ci := 9) S G (m_one l X m0 ([.ref (w.1 0), .ref (w.1 1), .ref (w.1 2), .ref (w.1 3), .long 0, .long (Int32.toInt64 1), .ref (w.1 4), .ref (w.1 5), .ref (w.1 6), .ref (w.1 7), .ref (w.1 8), .int 0, .int 0, .int 0, .int 0, .int 0, .ref (w.1 9), .ref (w.1 10)]) (w.1 0) w.2 (w.1 3) (fun _ => 0) (xs 1) (xs 2) (xs 3) rfl rfl (hz 0 (by decide)) H.size) gL_law_X11_one rfl rfl rfl hdV_X11_one ⟨Nat.le_of_ble_eq_true rfl, Nat.le_of_ble_eq_true rfl⟩ [0, 1, 2] rfl (by decide) 0 rfl rfl rfl hl.1 (Nat.le_of_ble_eq_true rfl) dL_law_254 ⟨Nat.le_of_ble_eq_true rfl, Nat.le_of_ble_eq_true rfl⟩) (fun r_2 u_2 H locs hp_2 G => ?_)
  have G : wd X (fun q : Nat => s.heap.size ≤ q) (fun q : Nat => s.heap.size ≤ q) s [] H locs := G
  refine lv_icmp_eq (tgt := 1279) zx zb dL_law_257 (by decide) (fun c_3 => ?_) (fun c_3 => absurd (hp_1.trans hp_2.symm) c_3)
  exact law_end (Nat.le_of_ble_eq_true rfl) (Nat.le_of_ble_eq_true rfl) S hX hbl zr zlk G hl
theorem hdV_X10_type : yX10_type.cls = RX10 ∧ yX10_type.cls ≠ "java/lang/invoke/MethodHandle" ∧ yX10_type.cls ≠ "java/lang/invoke/VarHandle" ∧ (parseMethodDescriptor yX10_type.desc).map (fun d => d.parameters.length) = some 1 := by decide +kernel
theorem hdV_X11_type : yX11_type.cls = RX11 ∧ yX11_type.cls ≠ "java/lang/invoke/MethodHandle" ∧ yX11_type.cls ≠ "java/lang/invoke/VarHandle" ∧ (parseMethodDescriptor yX11_type.desc).map (fun d => d.parameters.length) = some 1 := by decide +kernel
set_option maxRecDepth 100000 in
set_option maxHeartbeats 4000000 in
/-- type -/
theorem law_c2 {p : Program} {l : Launch} {e : Env} {s : State} {m : MethodId} {below : List Frame} {meth : Method} {c : Code} {b : Nat} {xs : Nat → Int32} {X : EX} {q0 m0 : Nat} {u : Nat → Nat} {w : (Nat → Nat) × (Nat → Int32)} (S : CallFix p m c cL_law 4 s #[Value.ref b] wsL_law RL) (hX : va_X b 6 xs s s.heap) (hbl : b < s.heap.size) (zr : meth.sig.returnType = ret) (zlk : meth.locks = false) (hz : ∀ j : Nat, j ≠ 36 → w.2 j = 0) (h36 : w.2 36 = 20) {H : Heap} {locs : List Loc} (G : wd X (fun q : Nat => s.heap.size ≤ q) (fun q : Nat => s.heap.size ≤ q) s (lwW X q0 m0 u w) H locs) {ls : Array Slot} (hl : lv_has ls 4 [(3, .int 0), (2, .ref m0), (1, .ref q0), (0, .ref b)]) : W p l e room_1 s m #[Value.ref b] below meth c H locs 94 3522 (lw_Z below #[Value.ref b] s) (F0 m 262 ls []) := by
  have zx := S.1
  have zb := S.2.1
  have hbA : ¬ (fun q : Nat => s.heap.size ≤ q) b := Nat.not_le.mpr hbl
  have G : wd X (fun q : Nat => s.heap.size ≤ q) (fun q : Nat => s.heap.size ≤ q) s [(q0, .inr (8, [.ref (u 0), .ref (u 16), .ref (u 32), .ref (u 65), .ref (u 66), .ref (u 68), .long (Int32.toInt64 0), .long (Int32.toInt64 1), .ref (u 69), .ref (u 70), .ref (u 71), .ref (u 72), .ref (u 73), .ref (u 74)])), ((u 66), .inr (4, [.ref (u 67), .int 0, .int 0, .int 0, .int 0, .int 0, .int (-1)])), ((u 67), .inl (X.2.1, 150, .inl (fun _ => 0))), ((u 68), .inl (X.2.1, 3, .inl (fun _ => 0))), (m0, .inr (9, [.ref (w.1 0), .ref (w.1 1), .ref (w.1 2), .ref (w.1 3), .long 0, .long (Int32.toInt64 1), .ref (w.1 4), .ref (w.1 5), .ref (w.1 6), .ref (w.1 7), .ref (w.1 8), .int 0, .int 0, .int 0, .int 0, .int 0, .ref (w.1 9), .ref (w.1 10)])), ((w.1 3), .inl (X.2.1, 3, .inl (fun _ => 0))), ((w.1 8), .inl (X.2.1, 150, .inl (fun _ => 0)))] H locs := wd_sub G [0, 59, 60, 61, 62, 66, 68] rfl (by decide)
  refine lv_aload_n zx zb dL_law_262 rfl (lv_at hl 2 rfl) ?_
  refine lv_aload_n zx zb dL_law_263 rfl (lv_at hl 3 rfl) ?_
  refine lv_iload_n zx zb dL_law_264 rfl (lv_at hl 0 rfl) ?_
  refine lv_iconst (v := 1) zx zb dL_law_265 (by decide) ?_
  refine r_iadd (v := 1) S (by decide) dL_law_266 ?_
  refine va_sld zx zb hX hbl hbA G.2.2.2.1 (k_vp (by decide)) dL_law_267 ?_
  refine k_it (v := xs 1) rfl ?_
  refine o_wi (cells' := 94) (slots' := 3522) (wr := [(m0, .inr (9, [.ref (w.1 0), .ref (w.1 1), .ref (w.1 2), .ref (w.1 3), .long 0, .long (Int32.toInt64 1), .ref (w.1 4), .ref (w.1 5), .ref (w.1 6), .ref (w.1 7), .ref (w.1 8), .int 0, .int 0, .int 0, .int 0, .int 0, .ref (w.1 9), .ref (w.1 10)])), ((w.1 3), .inl (X.2.1, 3, .inl (fun _ => 0))), ((w.1 8), .inl (X.2.1, 150, .inl (fun _ => 0)))]) G rfl rfl [0, 1, 2, 3] [4, 5, 6] rfl rfl (by decide) (by decide) (n_V (As := [.int (xs 1)]) (rest := []) (C := RX10) (T := TX10) (N := 14) (ci := 8) S G (c_type l X q0 ([.ref (u 0), .ref (u 16), .ref (u 32), .ref (u 65), .ref (u 66), .ref (u 68), .long (Int32.toInt64 0), .long (Int32.toInt64 1), .ref (u 69), .ref (u 70), .ref (u 71), .ref (u 72), .ref (u 73), .ref (u 74)]) (u 66) (u 67) (.int 0) (.int 0) (.int 0) (.int 0) (.int (-1)) (fun _ => 0) (u 68) (fun _ => 0) (xs 1) rfl rfl H.size) gL_law_X10_type rfl rfl rfl hdV_X10_type ⟨Nat.le_of_ble_eq_true rfl, Nat.le_of_ble_eq_true rfl⟩ [0, 1, 2, 3] rfl (by decide) 0 rfl rfl rfl hl.1 (Nat.le_of_ble_eq_true rfl) dL_law_268 ⟨Nat.le_of_ble_eq_true rfl, Nat.le_of_ble_eq_true rfl⟩) (fun r_1 u_1 H locs hp_1 G => ?_)
  have G : wd X (fun q : Nat => s.heap.size ≤ q) (fun q : Nat => s.heap.size ≤ q) s [(m0, .inr (9, [.ref (w.1 0), .ref (w.1 1), .ref (w.1 2), .ref (w.1 3), .long 0, .long (Int32.toInt64 1), .ref (w.1 4), .ref (w.1 5), .ref (w.1 6), .ref (w.1 7), .ref (w.1 8), .int 0, .int 0, .int 0, .int 0, .int 0, .ref (w.1 9), .ref (w.1 10)])), ((w.1 3), .inl (X.2.1, 3, .inl (fun _ => 0))), ((w.1 8), .inl (X.2.1, 150, .inl (fun _ => 0)))] H locs := G
  refine lv_aload_n zx zb dL_law_271 rfl (lv_at hl 1 rfl) ?_
  refine lv_aload_n zx zb dL_law_272 rfl (lv_at hl 3 rfl) ?_
  refine lv_iload_n zx zb dL_law_273 rfl (lv_at hl 0 rfl) ?_
  refine lv_iconst (v := 1) zx zb dL_law_274 (by decide) ?_
  refine r_iadd (v := 1) S (by decide) dL_law_275 ?_
  refine va_sld zx zb hX hbl hbA G.2.2.2.1 (k_vp (by decide)) dL_law_276 ?_
  refine k_it (v := xs 1) rfl ?_
  refine o_wi (cells' := 94) (slots' := 3522) (wr := []) G rfl rfl [0, 1, 2] [] rfl rfl (by decide) (by decide) (n_V (As := [.int (xs 1)]) (rest := [.int r_1]) (C := RX11) (T := TX11) (N := 18) (ci := 9) S G (m_type l X m0 (.ref (w.1 0)) (.ref (w.1 1)) (.ref (w.1 2)) (.long 0) (.long (Int32.toInt64 1)) (.ref (w.1 4)) (.ref (w.1 5)) (.ref (w.1 6)) (.ref (w.1 7)) (.int 0) (.int 0) (.int 0) (.int 0) (.ref (w.1 9)) (.ref (w.1 10)) (w.1 3) (fun _ => 0) (w.1 8) (fun _ => 0) (xs 1) H.size) gL_law_X11_type rfl rfl rfl hdV_X11_type ⟨Nat.le_of_ble_eq_true rfl, Nat.le_of_ble_eq_true rfl⟩ [0, 1, 2] rfl (by decide) 0 rfl rfl rfl hl.1 (Nat.le_of_ble_eq_true rfl) dL_law_277 ⟨Nat.le_of_ble_eq_true rfl, Nat.le_of_ble_eq_true rfl⟩) (fun r_2 u_2 H locs hp_2 G => ?_)
  have G : wd X (fun q : Nat => s.heap.size ≤ q) (fun q : Nat => s.heap.size ≤ q) s [] H locs := G
  refine lv_icmp_eq (tgt := 1279) zx zb dL_law_280 (by decide) (fun c_3 => ?_) (fun c_3 => absurd (hp_1.trans hp_2.symm) c_3)
  exact law_end (Nat.le_of_ble_eq_true rfl) (Nat.le_of_ble_eq_true rfl) S hX hbl zr zlk G hl
theorem hdV_X10_clear : yX10_clear.cls = RX10 ∧ yX10_clear.cls ≠ "java/lang/invoke/MethodHandle" ∧ yX10_clear.cls ≠ "java/lang/invoke/VarHandle" ∧ (parseMethodDescriptor yX10_clear.desc).map (fun d => d.parameters.length) = some 0 := by decide +kernel
theorem hdV_X11_clear : yX11_clear.cls = RX11 ∧ yX11_clear.cls ≠ "java/lang/invoke/MethodHandle" ∧ yX11_clear.cls ≠ "java/lang/invoke/VarHandle" ∧ (parseMethodDescriptor yX11_clear.desc).map (fun d => d.parameters.length) = some 0 := by decide +kernel
set_option maxRecDepth 100000 in
set_option maxHeartbeats 4000000 in
/-- clear -/
theorem law_c3 {p : Program} {l : Launch} {e : Env} {s : State} {m : MethodId} {below : List Frame} {meth : Method} {c : Code} {b : Nat} {xs : Nat → Int32} {X : EX} {q0 m0 : Nat} {u : Nat → Nat} {w : (Nat → Nat) × (Nat → Int32)} (S : CallFix p m c cL_law 4 s #[Value.ref b] wsL_law RL) (hX : va_X b 6 xs s s.heap) (hbl : b < s.heap.size) (zr : meth.sig.returnType = ret) (zlk : meth.locks = false) (hz : ∀ j : Nat, j ≠ 36 → w.2 j = 0) (h36 : w.2 36 = 20) {H : Heap} {locs : List Loc} (G : wd X (fun q : Nat => s.heap.size ≤ q) (fun q : Nat => s.heap.size ≤ q) s (lwW X q0 m0 u w) H locs) {ls : Array Slot} (hl : lv_has ls 4 [(3, .int 0), (2, .ref m0), (1, .ref q0), (0, .ref b)]) : W p l e room_1 s m #[Value.ref b] below meth c H locs 94 3522 (lw_Z below #[Value.ref b] s) (F0 m 285 ls []) := by
  have zx := S.1
  have zb := S.2.1
  have hbA : ¬ (fun q : Nat => s.heap.size ≤ q) b := Nat.not_le.mpr hbl
  have G : wd X (fun q : Nat => s.heap.size ≤ q) (fun q : Nat => s.heap.size ≤ q) s [(q0, .inr (8, [.ref (u 0), .ref (u 16), .ref (u 32), .ref (u 65), .ref (u 66), .ref (u 68), .long (Int32.toInt64 0), .long (Int32.toInt64 1), .ref (u 69), .ref (u 70), .ref (u 71), .ref (u 72), .ref (u 73), .ref (u 74)])), ((u 66), .inr (4, [.ref (u 67), .int 0, .int 0, .int 0, .int 0, .int 0, .int (-1)])), (m0, .inr (9, [.ref (w.1 0), .ref (w.1 1), .ref (w.1 2), .ref (w.1 3), .long 0, .long (Int32.toInt64 1), .ref (w.1 4), .ref (w.1 5), .ref (w.1 6), .ref (w.1 7), .ref (w.1 8), .int 0, .int 0, .int 0, .int 0, .int 0, .ref (w.1 9), .ref (w.1 10)]))] H locs := wd_sub G [0, 59, 62] rfl (by decide)
  refine lv_aload_n zx zb dL_law_285 rfl (lv_at hl 2 rfl) ?_
  refine o_wi (cells' := 94) (slots' := 3522) (wr := [(m0, .inr (9, [.ref (w.1 0), .ref (w.1 1), .ref (w.1 2), .ref (w.1 3), .long 0, .long (Int32.toInt64 1), .ref (w.1 4), .ref (w.1 5), .ref (w.1 6), .ref (w.1 7), .ref (w.1 8), .int 0, .int 0, .int 0, .int 0, .int 0, .ref (w.1 9), .ref (w.1 10)]))]) G rfl rfl [0, 1] [2] rfl rfl (by decide) (by decide) (n_V (As := []) (rest := []) (C := RX10) (T := TX10) (N := 14) (ci := 8) S G (c_clear l X q0 ([.ref (u 0), .ref (u 16), .ref (u 32), .ref (u 65), .ref (u 66), .ref (u 68), .long (Int32.toInt64 0), .long (Int32.toInt64 1), .ref (u 69), .ref (u 70), .ref (u 71), .ref (u 72), .ref (u 73), .ref (u 74)]) (u 66) (u 67) (.int 0) (.int 0) (.int 0) (.int 0) (.int (-1)) rfl H.size) gL_law_X10_clear rfl rfl rfl hdV_X10_clear ⟨Nat.le_of_ble_eq_true rfl, Nat.le_of_ble_eq_true rfl⟩ [0, 1] rfl (by decide) 0 rfl rfl rfl hl.1 (Nat.le_of_ble_eq_true rfl) dL_law_286 ⟨Nat.le_of_ble_eq_true rfl, Nat.le_of_ble_eq_true rfl⟩) (fun r_1 u_1 H locs hp_1 G => ?_)
  have G : wd X (fun q : Nat => s.heap.size ≤ q) (fun q : Nat => s.heap.size ≤ q) s [(m0, .inr (9, [.ref (w.1 0), .ref (w.1 1), .ref (w.1 2), .ref (w.1 3), .long 0, .long (Int32.toInt64 1), .ref (w.1 4), .ref (w.1 5), .ref (w.1 6), .ref (w.1 7), .ref (w.1 8), .int 0, .int 0, .int 0, .int 0, .int 0, .ref (w.1 9), .ref (w.1 10)]))] H locs := G
  refine lv_aload_n zx zb dL_law_289 rfl (lv_at hl 1 rfl) ?_
  refine o_wi (cells' := 94) (slots' := 3522) (wr := []) G rfl rfl [0] [] rfl rfl (by decide) (by decide) (n_V (As := []) (rest := [.int r_1]) (C := RX11) (T := TX11) (N := 18) (ci := 9) S G (m_clear l X m0 (.ref (w.1 0)) (.ref (w.1 1)) (.ref (w.1 2)) (.ref (w.1 3)) (.long 0) (.long (Int32.toInt64 1)) (.ref (w.1 4)) (.ref (w.1 5)) (.ref (w.1 6)) (.ref (w.1 7)) (.ref (w.1 8)) (.int 0) (.int 0) (.int 0) (.int 0) (.ref (w.1 9)) (.ref (w.1 10)) H.size) gL_law_X11_clear rfl rfl rfl hdV_X11_clear ⟨Nat.le_of_ble_eq_true rfl, Nat.le_of_ble_eq_true rfl⟩ [0] rfl (by decide) 0 rfl rfl rfl hl.1 (Nat.le_of_ble_eq_true rfl) dL_law_290 ⟨Nat.le_of_ble_eq_true rfl, Nat.le_of_ble_eq_true rfl⟩) (fun r_2 u_2 H locs hp_2 G => ?_)
  have G : wd X (fun q : Nat => s.heap.size ≤ q) (fun q : Nat => s.heap.size ≤ q) s [] H locs := G
  refine lv_icmp_eq (tgt := 1279) zx zb dL_law_293 (by decide) (fun c_3 => ?_) (fun c_3 => absurd (hp_1.trans hp_2.symm) c_3)
  exact law_end (Nat.le_of_ble_eq_true rfl) (Nat.le_of_ble_eq_true rfl) S hX hbl zr zlk G hl
theorem hdV_X10_read : yX10_read.cls = RX10 ∧ yX10_read.cls ≠ "java/lang/invoke/MethodHandle" ∧ yX10_read.cls ≠ "java/lang/invoke/VarHandle" ∧ (parseMethodDescriptor yX10_read.desc).map (fun d => d.parameters.length) = some 0 := by decide +kernel
theorem hdV_X11_read : yX11_read.cls = RX11 ∧ yX11_read.cls ≠ "java/lang/invoke/MethodHandle" ∧ yX11_read.cls ≠ "java/lang/invoke/VarHandle" ∧ (parseMethodDescriptor yX11_read.desc).map (fun d => d.parameters.length) = some 0 := by decide +kernel
set_option maxRecDepth 100000 in
set_option maxHeartbeats 4000000 in
/-- read -/
theorem law_c4 {p : Program} {l : Launch} {e : Env} {s : State} {m : MethodId} {below : List Frame} {meth : Method} {c : Code} {b : Nat} {xs : Nat → Int32} {X : EX} {q0 m0 : Nat} {u : Nat → Nat} {w : (Nat → Nat) × (Nat → Int32)} (S : CallFix p m c cL_law 4 s #[Value.ref b] wsL_law RL) (hX : va_X b 6 xs s s.heap) (hbl : b < s.heap.size) (zr : meth.sig.returnType = ret) (zlk : meth.locks = false) (hz : ∀ j : Nat, j ≠ 36 → w.2 j = 0) (h36 : w.2 36 = 20) {H : Heap} {locs : List Loc} (G : wd X (fun q : Nat => s.heap.size ≤ q) (fun q : Nat => s.heap.size ≤ q) s (lwW X q0 m0 u w) H locs) {ls : Array Slot} (hl : lv_has ls 4 [(3, .int 0), (2, .ref m0), (1, .ref q0), (0, .ref b)]) : W p l e room_1 s m #[Value.ref b] below meth c H locs 94 3522 (lw_Z below #[Value.ref b] s) (F0 m 298 ls []) := by
  have zx := S.1
  have zb := S.2.1
  have hbA : ¬ (fun q : Nat => s.heap.size ≤ q) b := Nat.not_le.mpr hbl
  have G : wd X (fun q : Nat => s.heap.size ≤ q) (fun q : Nat => s.heap.size ≤ q) s [(q0, .inr (8, [.ref (u 0), .ref (u 16), .ref (u 32), .ref (u 65), .ref (u 66), .ref (u 68), .long (Int32.toInt64 0), .long (Int32.toInt64 1), .ref (u 69), .ref (u 70), .ref (u 71), .ref (u 72), .ref (u 73), .ref (u 74)])), ((u 66), .inr (4, [.ref (u 67), .int 0, .int 0, .int 0, .int 0, .int 0, .int (-1)])), (m0, .inr (9, [.ref (w.1 0), .ref (w.1 1), .ref (w.1 2), .ref (w.1 3), .long 0, .long (Int32.toInt64 1), .ref (w.1 4), .ref (w.1 5), .ref (w.1 6), .ref (w.1 7), .ref (w.1 8), .int 0, .int 0, .int 0, .int 0, .int 0, .ref (w.1 9), .ref (w.1 10)]))] H locs := wd_sub G [0, 59, 62] rfl (by decide)
  refine lv_aload_n zx zb dL_law_298 rfl (lv_at hl 2 rfl) ?_
  refine o_wi (cells' := 94) (slots' := 3522) (wr := [(m0, .inr (9, [.ref (w.1 0), .ref (w.1 1), .ref (w.1 2), .ref (w.1 3), .long 0, .long (Int32.toInt64 1), .ref (w.1 4), .ref (w.1 5), .ref (w.1 6), .ref (w.1 7), .ref (w.1 8), .int 0, .int 0, .int 0, .int 0, .int 0, .ref (w.1 9), .ref (w.1 10)]))]) G rfl rfl [0, 1] [2] rfl rfl (by decide) (by decide) (n_V (As := []) (rest := []) (C := RX10) (T := TX10) (N := 14) (ci := 8) S G (c_read l X q0 ([.ref (u 0), .ref (u 16), .ref (u 32), .ref (u 65), .ref (u 66), .ref (u 68), .long (Int32.toInt64 0), .long (Int32.toInt64 1), .ref (u 69), .ref (u 70), .ref (u 71), .ref (u 72), .ref (u 73), .ref (u 74)]) (u 66) (u 16) (.ref (u 67)) (.int 0) (.int 0) (.int 0) (.int 0) (.int (-1)) rfl rfl H.size) gL_law_X10_read rfl rfl rfl hdV_X10_read ⟨Nat.le_of_ble_eq_true rfl, Nat.le_of_ble_eq_true rfl⟩ [0, 1] rfl (by decide) 0 rfl rfl rfl hl.1 (Nat.le_of_ble_eq_true rfl) dL_law_299 ⟨Nat.le_of_ble_eq_true rfl, Nat.le_of_ble_eq_true rfl⟩) (fun r_1 u_1 H locs hp_1 G => ?_)
  have G : wd X (fun q : Nat => s.heap.size ≤ q) (fun q : Nat => s.heap.size ≤ q) s [(m0, .inr (9, [.ref (w.1 0), .ref (w.1 1), .ref (w.1 2), .ref (w.1 3), .long 0, .long (Int32.toInt64 1), .ref (w.1 4), .ref (w.1 5), .ref (w.1 6), .ref (w.1 7), .ref (w.1 8), .int 0, .int 0, .int 0, .int 0, .int 0, .ref (w.1 9), .ref (w.1 10)]))] H locs := G
  refine lv_aload_n zx zb dL_law_302 rfl (lv_at hl 1 rfl) ?_
  refine o_wi (cells' := 94) (slots' := 3522) (wr := []) G rfl rfl [0] [] rfl rfl (by decide) (by decide) (n_V (As := []) (rest := [.int r_1]) (C := RX11) (T := TX11) (N := 18) (ci := 9) S G (m_read l X m0 (.ref (w.1 0)) (.ref (w.1 1)) (.ref (w.1 2)) (.ref (w.1 3)) (.long 0) (.long (Int32.toInt64 1)) (.ref (w.1 4)) (.ref (w.1 5)) (.ref (w.1 6)) (.ref (w.1 7)) (.ref (w.1 8)) (.int 0) (.int 0) (.int 0) (.int 0) (.ref (w.1 9)) (.ref (w.1 10)) H.size) gL_law_X11_read rfl rfl rfl hdV_X11_read ⟨Nat.le_of_ble_eq_true rfl, Nat.le_of_ble_eq_true rfl⟩ [0] rfl (by decide) 0 rfl rfl rfl hl.1 (Nat.le_of_ble_eq_true rfl) dL_law_303 ⟨Nat.le_of_ble_eq_true rfl, Nat.le_of_ble_eq_true rfl⟩) (fun r_2 u_2 H locs hp_2 G => ?_)
  have G : wd X (fun q : Nat => s.heap.size ≤ q) (fun q : Nat => s.heap.size ≤ q) s [] H locs := G
  refine lv_icmp_eq (tgt := 1279) zx zb dL_law_306 (by decide) (fun c_3 => ?_) (fun c_3 => absurd (hp_1.trans hp_2.symm) c_3)
  exact law_end (Nat.le_of_ble_eq_true rfl) (Nat.le_of_ble_eq_true rfl) S hX hbl zr zlk G hl
theorem hdV_X10_ticks : yX10_ticks.cls = RX10 ∧ yX10_ticks.cls ≠ "java/lang/invoke/MethodHandle" ∧ yX10_ticks.cls ≠ "java/lang/invoke/VarHandle" ∧ (parseMethodDescriptor yX10_ticks.desc).map (fun d => d.parameters.length) = some 1 := by decide +kernel
theorem hdV_X11_ticks : yX11_ticks.cls = RX11 ∧ yX11_ticks.cls ≠ "java/lang/invoke/MethodHandle" ∧ yX11_ticks.cls ≠ "java/lang/invoke/VarHandle" ∧ (parseMethodDescriptor yX11_ticks.desc).map (fun d => d.parameters.length) = some 1 := by decide +kernel
set_option maxRecDepth 100000 in
set_option maxHeartbeats 4000000 in
/-- ticks -/
theorem law_c5 {p : Program} {l : Launch} {e : Env} {s : State} {m : MethodId} {below : List Frame} {meth : Method} {c : Code} {b : Nat} {xs : Nat → Int32} {X : EX} {q0 m0 : Nat} {u : Nat → Nat} {w : (Nat → Nat) × (Nat → Int32)} (S : CallFix p m c cL_law 4 s #[Value.ref b] wsL_law RL) (hX : va_X b 6 xs s s.heap) (hbl : b < s.heap.size) (zr : meth.sig.returnType = ret) (zlk : meth.locks = false) (hz : ∀ j : Nat, j ≠ 36 → w.2 j = 0) (h36 : w.2 36 = 20) {H : Heap} {locs : List Loc} (G : wd X (fun q : Nat => s.heap.size ≤ q) (fun q : Nat => s.heap.size ≤ q) s (lwW X q0 m0 u w) H locs) {ls : Array Slot} (hl : lv_has ls 4 [(3, .int 0), (2, .ref m0), (1, .ref q0), (0, .ref b)]) : W p l e room_1 s m #[Value.ref b] below meth c H locs 94 3522 (lw_Z below #[Value.ref b] s) (F0 m 311 ls []) := by
  have zx := S.1
  have zb := S.2.1
  have hbA : ¬ (fun q : Nat => s.heap.size ≤ q) b := Nat.not_le.mpr hbl
  have G : wd X (fun q : Nat => s.heap.size ≤ q) (fun q : Nat => s.heap.size ≤ q) s [(q0, .inr (8, [.ref (u 0), .ref (u 16), .ref (u 32), .ref (u 65), .ref (u 66), .ref (u 68), .long (Int32.toInt64 0), .long (Int32.toInt64 1), .ref (u 69), .ref (u 70), .ref (u 71), .ref (u 72), .ref (u 73), .ref (u 74)])), ((u 0), .inr (3, [.int 20, .int 0, .int 0, .ref (u 1), .ref (u 8), .ref (u 10), .ref (u 12), .ref (u 14)])), ((u 1), .inl (X.2.2.2.2, 6, .inr (.inr (.inr (.inr (va_up (va_up (va_up (va_up (va_up (va_up (fun _ => none) 0 (some (u 2))) 1 (some (u 3))) 2 (some (u 4))) 3 (some (u 5))) 4 (some (u 6))) 5 (some (u 7)))))))), ((u 2), .inr (6, [.int 0, .int 0, .int 0, .int 0, .int 0, .int 0, .int 0, .int 0])), ((u 3), .inr (6, [.int 0, .int 0, .int 0, .int 0, .int 0, .int 0, .int 0, .int 0])), ((u 4), .inr (6, [.int 0, .int 0, .int 0, .int 0, .int 0, .int 0, .int 0, .int 0])), ((u 5), .inr (6, [.int 0, .int 0, .int 0, .int 0, .int 0, .int 0, .int 0, .int 0])), ((u 6), .inr (6, [.int 0, .int 0, .int 0, .int 0, .int 0, .int 0, .int 0, .int 0])), ((u 7), .inr (6, [.int 0, .int 0, .int 0, .int 0, .int 0, .int 0, .int 0, .int 0])), ((u 8), .inr (2, [.ref (u 9), .int 0])), ((u 9), .inl (X.2.1, 248, .inl (fun _ => 0))), ((u 68), .inl (X.2.1, 3, .inl (fun _ => 0))), (m0, .inr (9, [.ref (w.1 0), .ref (w.1 1), .ref (w.1 2), .ref (w.1 3), .long 0, .long (Int32.toInt64 1), .ref (w.1 4), .ref (w.1 5), .ref (w.1 6), .ref (w.1 7), .ref (w.1 8), .int 0, .int 0, .int 0, .int 0, .int 0, .ref (w.1 9), .ref (w.1 10)])), ((w.1 0), .inl (X.2.1, 371, .inl w.2)), ((w.1 3), .inl (X.2.1, 3, .inl (fun _ => 0)))] H locs := wd_sub G [0, 1, 2, 3, 4, 5, 6, 7, 8, 9, 10, 61, 62, 63, 66] rfl (by decide)
  refine lv_aload_n zx zb dL_law_311 rfl (lv_at hl 2 rfl) ?_
  refine lv_aload_n zx zb dL_law_312 rfl (lv_at hl 3 rfl) ?_
  refine lv_iload_n zx zb dL_law_313 rfl (lv_at hl 0 rfl) ?_
  refine lv_iconst (v := 1) zx zb dL_law_314 (by decide) ?_
  refine r_iadd (v := 1) S (by decide) dL_law_315 ?_
  refine va_sld zx zb hX hbl hbA G.2.2.2.1 (k_vp (by decide)) dL_law_316 ?_
  refine k_it (v := xs 1) rfl ?_
  refine o_wi (cells' := 94) (slots' := 3522) (wr := [(m0, .inr (9, [.ref (w.1 0), .ref (w.1 1), .ref (w.1 2), .ref (w.1 3), .long 0, .long (Int32.toInt64 1), .ref (w.1 4), .ref (w.1 5), .ref (w.1 6), .ref (w.1 7), .ref (w.1 8), .int 0, .int 0, .int 0, .int 0, .int 0, .ref (w.1 9), .ref (w.1 10)])), ((w.1 0), .inl (X.2.1, 371, .inl w.2)), ((w.1 3), .inl (X.2.1, 3, .inl (fun _ => 0)))]) G rfl rfl [0, 1, 9, 10, 2, 3, 4, 5, 6, 7, 8, 11] [12, 13, 14] rfl rfl (by decide) (by decide) (n_V (As := [.int (xs 1)]) (rest := []) (C := RX10) (T := TX10) (N := 14) (ci := 8) S G (c_ticks l X q0 ([.ref (u 0), .ref (u 16), .ref (u 32), .ref (u 65), .ref (u 66), .ref (u 68), .long (Int32.toInt64 0), .long (Int32.toInt64 1), .ref (u 69), .ref (u 70), .ref (u 71), .ref (u 72), .ref (u 73), .ref (u 74)]) (u 0) (.int 20) (u 1) (u 8) (.ref (u 10)) (.ref (u 12)) (.ref (u 14)) (u 9) (fun _ => 0) (va_up (va_up (va_up (va_up (va_up (va_up (fun _ => none) 0 (some (u 2))) 1 (some (u 3))) 2 (some (u 4))) 3 (some (u 5))) 4 (some (u 6))) 5 (some (u 7))) (u 2) (u 3) (u 4) (u 5) (u 6) (u 7) (u 68) (fun _ => 0) (xs 1) rfl rfl rfl rfl rfl rfl rfl rfl H.size) gL_law_X10_ticks rfl rfl rfl hdV_X10_ticks ⟨Nat.le_of_ble_eq_true rfl, Nat.le_of_ble_eq_true rfl⟩ [0, 1, 9, 10, 2, 3, 4, 5, 6, 7, 8, 11] rfl (by decide) 0 rfl rfl rfl hl.1 (Nat.le_of_ble_eq_true rfl) dL_law_317 ⟨Nat.le_of_ble_eq_true rfl, Nat.le_of_ble_eq_true rfl⟩) (fun r_1 u_1 H locs hp_1 G => ?_)
  have G : wd X (fun q : Nat => s.heap.size ≤ q) (fun q : Nat => s.heap.size ≤ q) s [(m0, .inr (9, [.ref (w.1 0), .ref (w.1 1), .ref (w.1 2), .ref (w.1 3), .long 0, .long (Int32.toInt64 1), .ref (w.1 4), .ref (w.1 5), .ref (w.1 6), .ref (w.1 7), .ref (w.1 8), .int 0, .int 0, .int 0, .int 0, .int 0, .ref (w.1 9), .ref (w.1 10)])), ((w.1 0), .inl (X.2.1, 371, .inl w.2)), ((w.1 3), .inl (X.2.1, 3, .inl (fun _ => 0)))] H locs := G
  refine lv_aload_n zx zb dL_law_320 rfl (lv_at hl 1 rfl) ?_
  refine lv_aload_n zx zb dL_law_321 rfl (lv_at hl 3 rfl) ?_
  refine lv_iload_n zx zb dL_law_322 rfl (lv_at hl 0 rfl) ?_
  refine lv_iconst (v := 1) zx zb dL_law_323 (by decide) ?_
  refine r_iadd (v := 1) S (by decide) dL_law_324 ?_
  refine va_sld zx zb hX hbl hbA G.2.2.2.1 (k_vp (by decide)) dL_law_325 ?_
  refine k_it (v := xs 1) rfl ?_
  refine o_wi (cells' := 94) (slots' := 3522) (wr := []) G rfl rfl [0, 1, 2] [] rfl rfl (by decide) (by decide) (n_V (As := [.int (xs 1)]) (rest := [.int r_1]) (C := RX11) (T := TX11) (N := 18) (ci := 9) S G (m_ticks l X m0 ([.ref (w.1 0), .ref (w.1 1), .ref (w.1 2), .ref (w.1 3), .long 0, .long (Int32.toInt64 1), .ref (w.1 4), .ref (w.1 5), .ref (w.1 6), .ref (w.1 7), .ref (w.1 8), .int 0, .int 0, .int 0, .int 0, .int 0, .ref (w.1 9), .ref (w.1 10)]) (w.1 0) w.2 (w.1 3) (fun _ => 0) (xs 1) rfl rfl hz h36 H.size) gL_law_X11_ticks rfl rfl rfl hdV_X11_ticks ⟨Nat.le_of_ble_eq_true rfl, Nat.le_of_ble_eq_true rfl⟩ [0, 1, 2] rfl (by decide) 0 rfl rfl rfl hl.1 (Nat.le_of_ble_eq_true rfl) dL_law_326 ⟨Nat.le_of_ble_eq_true rfl, Nat.le_of_ble_eq_true rfl⟩) (fun r_2 u_2 H locs hp_2 G => ?_)
  have G : wd X (fun q : Nat => s.heap.size ≤ q) (fun q : Nat => s.heap.size ≤ q) s [] H locs := G
  refine lv_icmp_eq (tgt := 1279) zx zb dL_law_329 (by decide) (fun c_3 => ?_) (fun c_3 => absurd (hp_1.trans hp_2.symm) c_3)
  exact law_end (Nat.le_of_ble_eq_true rfl) (Nat.le_of_ble_eq_true rfl) S hX hbl zr zlk G hl
theorem hdV_X10_speed : yX10_speed.cls = RX10 ∧ yX10_speed.cls ≠ "java/lang/invoke/MethodHandle" ∧ yX10_speed.cls ≠ "java/lang/invoke/VarHandle" ∧ (parseMethodDescriptor yX10_speed.desc).map (fun d => d.parameters.length) = some 2 := by decide +kernel
theorem hdV_X11_speed : yX11_speed.cls = RX11 ∧ yX11_speed.cls ≠ "java/lang/invoke/MethodHandle" ∧ yX11_speed.cls ≠ "java/lang/invoke/VarHandle" ∧ (parseMethodDescriptor yX11_speed.desc).map (fun d => d.parameters.length) = some 2 := by decide +kernel
set_option maxRecDepth 100000 in
set_option maxHeartbeats 4000000 in
/-- speed -/
theorem law_c6 {p : Program} {l : Launch} {e : Env} {s : State} {m : MethodId} {below : List Frame} {meth : Method} {c : Code} {b : Nat} {xs : Nat → Int32} {X : EX} {q0 m0 : Nat} {u : Nat → Nat} {w : (Nat → Nat) × (Nat → Int32)} (S : CallFix p m c cL_law 4 s #[Value.ref b] wsL_law RL) (hX : va_X b 6 xs s s.heap) (hbl : b < s.heap.size) (zr : meth.sig.returnType = ret) (zlk : meth.locks = false) (hz : ∀ j : Nat, j ≠ 36 → w.2 j = 0) (h36 : w.2 36 = 20) {H : Heap} {locs : List Loc} (G : wd X (fun q : Nat => s.heap.size ≤ q) (fun q : Nat => s.heap.size ≤ q) s (lwW X q0 m0 u w) H locs) {ls : Array Slot} (hl : lv_has ls 4 [(3, .int 0), (2, .ref m0), (1, .ref q0), (0, .ref b)]) : W p l e room_1 s m #[Value.ref b] below meth c H locs 94 3522 (lw_Z below #[Value.ref b] s) (F0 m 334 ls []) := by
  have zx := S.1
  have zb := S.2.1
  have hbA : ¬ (fun q : Nat => s.heap.size ≤ q) b := Nat.not_le.mpr hbl
  have G : wd X (fun q : Nat => s.heap.size ≤ q) (fun q : Nat => s.heap.size ≤ q) s [(q0, .inr (8, [.ref (u 0), .ref (u 16), .ref (u 32), .ref (u 65), .ref (u 66), .ref (u 68), .long (Int32.toInt64 0), .long (Int32.toInt64 1), .ref (u 69), .ref (u 70), .ref (u 71), .ref (u 72), .ref (u 73), .ref (u 74)])), ((u 0), .inr (3, [.int 20, .int 0, .int 0, .ref (u 1), .ref (u 8), .ref (u 10), .ref (u 12), .ref (u 14)])), ((u 68), .inl (X.2.1, 3, .inl (fun _ => 0))), (m0, .inr (9, [.ref (w.1 0), .ref (w.1 1), .ref (w.1 2), .ref (w.1 3), .long 0, .long (Int32.toInt64 1), .ref (w.1 4), .ref (w.1 5), .ref (w.1 6), .ref (w.1 7), .ref (w.1 8), .int 0, .int 0, .int 0, .int 0, .int 0, .ref (w.1 9), .ref (w.1 10)])), ((w.1 0), .inl (X.2.1, 371, .inl w.2)), ((w.1 3), .inl (X.2.1, 3, .inl (fun _ => 0)))] H locs := wd_sub G [0, 1, 61, 62, 63, 66] rfl (by decide)
  refine lv_aload_n zx zb dL_law_334 rfl (lv_at hl 2 rfl) ?_
  refine lv_aload_n zx zb dL_law_335 rfl (lv_at hl 3 rfl) ?_
  refine lv_iload_n zx zb dL_law_336 rfl (lv_at hl 0 rfl) ?_
  refine lv_iconst (v := 1) zx zb dL_law_337 (by decide) ?_
  refine r_iadd (v := 1) S (by decide) dL_law_338 ?_
  refine va_sld zx zb hX hbl hbA G.2.2.2.1 (k_vp (by decide)) dL_law_339 ?_
  refine k_it (v := xs 1) rfl ?_
  refine lv_aload_n zx zb dL_law_340 rfl (lv_at hl 3 rfl) ?_
  refine lv_iload_n zx zb dL_law_341 rfl (lv_at hl 0 rfl) ?_
  refine lv_iconst (v := 2) zx zb dL_law_342 (by decide) ?_
  refine r_iadd (v := 2) S (by decide) dL_law_343 ?_
  refine va_sld zx zb hX hbl hbA G.2.2.2.1 (k_vp (by decide)) dL_law_344 ?_
  refine k_it (v := xs 2) rfl ?_
  refine o_wi (cells' := 94) (slots' := 3522) (wr := [(m0, .inr (9, [.ref (w.1 0), .ref (w.1 1), .ref (w.1 2), .ref (w.1 3), .long 0, .long (Int32.toInt64 1), .ref (w.1 4), .ref (w.1 5), .ref (w.1 6), .ref (w.1 7), .ref (w.1 8), .int 0, .int 0, .int 0, .int 0, .int 0, .ref (w.1 9), .ref (w.1 10)])), ((w.1 0), .inl (X.2.1, 371, .inl w.2)), ((w.1 3), .inl (X.2.1, 3, .inl (fun _ => 0)))]) G rfl rfl [0, 1, 2] [3, 4, 5] rfl rfl (by decide) (by decide) (n_V (As := [.int (xs 1), .int (xs 2)]) (rest := []) (C := RX10) (T := TX10) (N := 14) (ci := 8) S G (c_speed l X q0 ([.ref (u 0), .ref (u 16), .ref (u 32), .ref (u 65), .ref (u 66), .ref (u 68), .long (Int32.toInt64 0), .long (Int32.toInt64 1), .ref (u 69), .ref (u 70), .ref (u 71), .ref (u 72), .ref (u 73), .ref (u 74)]) (u 0) ([.int 20, .int 0, .int 0, .ref (u 1), .ref (u 8), .ref (u 10), .ref (u 12), .ref (u 14)]) (u 68) (fun _ => 0) (xs 1) (xs 2) rfl rfl rfl H.size) gL_law_X10_speed rfl rfl rfl hdV_X10_speed ⟨Nat.le_of_ble_eq_true rfl, Nat.le_of_ble_eq_true rfl⟩ [0, 1, 2] rfl (by decide) 0 rfl rfl rfl hl.1 (Nat.le_of_ble_eq_true rfl) dL_law_345 ⟨Nat.le_of_ble_eq_true rfl, Nat.le_of_ble_eq_true rfl⟩) (fun r_1 u_1 H locs hp_1 G => ?_)
  have G : wd X (fun q : Nat => s.heap.size ≤ q) (fun q : Nat => s.heap.size ≤ q) s [(m0, .inr (9, [.ref (w.1 0), .ref (w.1 1), .ref (w.1 2), .ref (w.1 3), .long 0, .long (Int32.toInt64 1), .ref (w.1 4), .ref (w.1 5), .ref (w.1 6), .ref (w.1 7), .ref (w.1 8), .int 0, .int 0, .int 0, .int 0, .int 0, .ref (w.1 9), .ref (w.1 10)])), ((w.1 0), .inl (X.2.1, 371, .inl w.2)), ((w.1 3), .inl (X.2.1, 3, .inl (fun _ => 0)))] H locs := G
  refine lv_aload_n zx zb dL_law_348 rfl (lv_at hl 1 rfl) ?_
  refine lv_aload_n zx zb dL_law_349 rfl (lv_at hl 3 rfl) ?_
  refine lv_iload_n zx zb dL_law_350 rfl (lv_at hl 0 rfl) ?_
  refine lv_iconst (v := 1) zx zb dL_law_351 (by decide) ?_
  refine r_iadd (v := 1) S (by decide) dL_law_352 ?_
  refine va_sld zx zb hX hbl hbA G.2.2.2.1 (k_vp (by decide)) dL_law_353 ?_
  refine k_it (v := xs 1) rfl ?_
  refine lv_aload_n zx zb dL_law_354 rfl (lv_at hl 3 rfl) ?_
  refine lv_iload_n zx zb dL_law_355 rfl (lv_at hl 0 rfl) ?_
  refine lv_iconst (v := 2) zx zb dL_law_356 (by decide) ?_
  refine r_iadd (v := 2) S (by decide) dL_law_357 ?_
  refine va_sld zx zb hX hbl hbA G.2.2.2.1 (k_vp (by decide)) dL_law_358 ?_
  refine k_it (v := xs 2) rfl ?_
  refine o_wi (cells' := 94) (slots' := 3522) (wr := []) G rfl rfl [0, 1, 2] [] rfl rfl (by decide) (by decide) (n_V (As := [.int (xs 1), .int (xs 2)]) (rest := [.int r_1]) (C := RX11) (T := TX11) (N := 18) (ci := 9) S G (m_speed l X m0 ([.ref (w.1 0), .ref (w.1 1), .ref (w.1 2), .ref (w.1 3), .long 0, .long (Int32.toInt64 1), .ref (w.1 4), .ref (w.1 5), .ref (w.1 6), .ref (w.1 7), .ref (w.1 8), .int 0, .int 0, .int 0, .int 0, .int 0, .ref (w.1 9), .ref (w.1 10)]) (w.1 0) w.2 (w.1 3) (fun _ => 0) (xs 1) (xs 2) rfl rfl (hz 0 (by decide)) H.size) gL_law_X11_speed rfl rfl rfl hdV_X11_speed ⟨Nat.le_of_ble_eq_true rfl, Nat.le_of_ble_eq_true rfl⟩ [0, 1, 2] rfl (by decide) 0 rfl rfl rfl hl.1 (Nat.le_of_ble_eq_true rfl) dL_law_359 ⟨Nat.le_of_ble_eq_true rfl, Nat.le_of_ble_eq_true rfl⟩) (fun r_2 u_2 H locs hp_2 G => ?_)
  have G : wd X (fun q : Nat => s.heap.size ≤ q) (fun q : Nat => s.heap.size ≤ q) s [] H locs := G
  refine lv_icmp_eq (tgt := 1279) zx zb dL_law_362 (by decide) (fun c_3 => ?_) (fun c_3 => absurd (hp_1.trans hp_2.symm) c_3)
  exact law_end (Nat.le_of_ble_eq_true rfl) (Nat.le_of_ble_eq_true rfl) S hX hbl zr zlk G hl
theorem hdV_X10_start : yX10_start.cls = RX10 ∧ yX10_start.cls ≠ "java/lang/invoke/MethodHandle" ∧ yX10_start.cls ≠ "java/lang/invoke/VarHandle" ∧ (parseMethodDescriptor yX10_start.desc).map (fun d => d.parameters.length) = some 2 := by decide +kernel
theorem hdV_X11_start : yX11_start.cls = RX11 ∧ yX11_start.cls ≠ "java/lang/invoke/MethodHandle" ∧ yX11_start.cls ≠ "java/lang/invoke/VarHandle" ∧ (parseMethodDescriptor yX11_start.desc).map (fun d => d.parameters.length) = some 2 := by decide +kernel
set_option maxRecDepth 100000 in
set_option maxHeartbeats 4000000 in
/-- start -/
theorem law_c7 {p : Program} {l : Launch} {e : Env} {s : State} {m : MethodId} {below : List Frame} {meth : Method} {c : Code} {b : Nat} {xs : Nat → Int32} {X : EX} {q0 m0 : Nat} {u : Nat → Nat} {w : (Nat → Nat) × (Nat → Int32)} (S : CallFix p m c cL_law 4 s #[Value.ref b] wsL_law RL) (hX : va_X b 6 xs s s.heap) (hbl : b < s.heap.size) (zr : meth.sig.returnType = ret) (zlk : meth.locks = false) (hz : ∀ j : Nat, j ≠ 36 → w.2 j = 0) (h36 : w.2 36 = 20) {H : Heap} {locs : List Loc} (G : wd X (fun q : Nat => s.heap.size ≤ q) (fun q : Nat => s.heap.size ≤ q) s (lwW X q0 m0 u w) H locs) {ls : Array Slot} (hl : lv_has ls 4 [(3, .int 0), (2, .ref m0), (1, .ref q0), (0, .ref b)]) : W p l e room_1 s m #[Value.ref b] below meth c H locs 94 3522 (lw_Z below #[Value.ref b] s) (F0 m 367 ls []) := by
  have zx := S.1
  have zb := S.2.1
  have hbA : ¬ (fun q : Nat => s.heap.size ≤ q) b := Nat.not_le.mpr hbl
  have G : wd X (fun q : Nat => s.heap.size ≤ q) (fun q : Nat => s.heap.size ≤ q) s [(q0, .inr (8, [.ref (u 0), .ref (u 16), .ref (u 32), .ref (u 65), .ref (u 66), .ref (u 68), .long (Int32.toInt64 0), .long (Int32.toInt64 1), .ref (u 69), .ref (u 70), .ref (u 71), .ref (u 72), .ref (u 73), .ref (u 74)])), ((u 0), .inr (3, [.int 20, .int 0, .int 0, .ref (u 1), .ref (u 8), .ref (u 10), .ref (u 12), .ref (u 14)])), ((u 68), .inl (X.2.1, 3, .inl (fun _ => 0))), (m0, .inr (9, [.ref (w.1 0), .ref (w.1 1), .ref (w.1 2), .ref (w.1 3), .long 0, .long (Int32.toInt64 1), .ref (w.1 4), .ref (w.1 5), .ref (w.1 6), .ref (w.1 7), .ref (w.1 8), .int 0, .int 0, .int 0, .int 0, .int 0, .ref (w.1 9), .ref (w.1 10)])), ((w.1 0), .inl (X.2.1, 371, .inl w.2)), ((w.1 3), .inl (X.2.1, 3, .inl (fun _ => 0)))] H locs := wd_sub G [0, 1, 61, 62, 63, 66] rfl (by decide)
  refine lv_aload_n zx zb dL_law_367 rfl (lv_at hl 2 rfl) ?_
  refine lv_aload_n zx zb dL_law_368 rfl (lv_at hl 3 rfl) ?_
  refine lv_iload_n zx zb dL_law_369 rfl (lv_at hl 0 rfl) ?_
  refine lv_iconst (v := 1) zx zb dL_law_370 (by decide) ?_
  refine r_iadd (v := 1) S (by decide) dL_law_371 ?_
  refine va_sld zx zb hX hbl hbA G.2.2.2.1 (k_vp (by decide)) dL_law_372 ?_
  refine k_it (v := xs 1) rfl ?_
  refine lv_aload_n zx zb dL_law_373 rfl (lv_at hl 3 rfl) ?_
  refine lv_iload_n zx zb dL_law_374 rfl (lv_at hl 0 rfl) ?_
  refine lv_iconst (v := 2) zx zb dL_law_375 (by decide) ?_
  refine r_iadd (v := 2) S (by decide) dL_law_376 ?_
  refine va_sld zx zb hX hbl hbA G.2.2.2.1 (k_vp (by decide)) dL_law_377 ?_
  refine k_it (v := xs 2) rfl ?_
  refine o_wi (cells' := 94) (slots' := 3522) (wr := [(m0, .inr (9, [.ref (w.1 0), .ref (w.1 1), .ref (w.1 2), .ref (w.1 3), .long 0, .long (Int32.toInt64 1), .ref (w.1 4), .ref (w.1 5), .ref (w.1 6), .ref (w.1 7), .ref (w.1 8), .int 0, .int 0, .int 0, .int 0, .int 0, .ref (w.1 9), .ref (w.1 10)])), ((w.1 0), .inl (X.2.1, 371, .inl w.2)), ((w.1 3), .inl (X.2.1, 3, .inl (fun _ => 0)))]) G rfl rfl [0, 1, 2] [3, 4, 5] rfl rfl (by decide) (by decide) (n_V (As := [.int (xs 1), .int (xs 2)]) (rest := []) (C := RX10) (T := TX10) (N := 14) (ci := 8) S G (c_start l X q0 ([.ref (u 0), .ref (u 16), .ref (u 32), .ref (u 65), .ref (u 66), .ref (u 68), .long (Int32.toInt64 0), .long (Int32.toInt64 1), .ref (u 69), .ref (u 70), .ref (u 71), .ref (u 72), .ref (u 73), .ref (u 74)]) (u 0) ([.int 20, .int 0, .int 0, .ref (u 1), .ref (u 8), .ref (u 10), .ref (u 12), .ref (u 14)]) (u 68) (fun _ => 0) (xs 1) (xs 2) rfl rfl rfl H.size) gL_law_X10_start rfl rfl rfl hdV_X10_start ⟨Nat.le_of_ble_eq_true rfl, Nat.le_of_ble_eq_true rfl⟩ [0, 1, 2] rfl (by decide) 0 rfl rfl rfl hl.1 (Nat.le_of_ble_eq_true rfl) dL_law_378 ⟨Nat.le_of_ble_eq_true rfl, Nat.le_of_ble_eq_true rfl⟩) (fun r_1 u_1 H locs hp_1 G => ?_)
  have G : wd X (fun q : Nat => s.heap.size ≤ q) (fun q : Nat => s.heap.size ≤ q) s [(m0, .inr (9, [.ref (w.1 0), .ref (w.1 1), .ref (w.1 2), .ref (w.1 3), .long 0, .long (Int32.toInt64 1), .ref (w.1 4), .ref (w.1 5), .ref (w.1 6), .ref (w.1 7), .ref (w.1 8), .int 0, .int 0, .int 0, .int 0, .int 0, .ref (w.1 9), .ref (w.1 10)])), ((w.1 0), .inl (X.2.1, 371, .inl w.2)), ((w.1 3), .inl (X.2.1, 3, .inl (fun _ => 0)))] H locs := G
  refine lv_aload_n zx zb dL_law_381 rfl (lv_at hl 1 rfl) ?_
  refine lv_aload_n zx zb dL_law_382 rfl (lv_at hl 3 rfl) ?_
  refine lv_iload_n zx zb dL_law_383 rfl (lv_at hl 0 rfl) ?_
  refine lv_iconst (v := 1) zx zb dL_law_384 (by decide) ?_
  refine r_iadd (v := 1) S (by decide) dL_law_385 ?_
  refine va_sld zx zb hX hbl hbA G.2.2.2.1 (k_vp (by decide)) dL_law_386 ?_
  refine k_it (v := xs 1) rfl ?_
  refine lv_aload_n zx zb dL_law_387 rfl (lv_at hl 3 rfl) ?_
  refine lv_iload_n zx zb dL_law_388 rfl (lv_at hl 0 rfl) ?_
  refine lv_iconst (v := 2) zx zb dL_law_389 (by decide) ?_
  refine r_iadd (v := 2) S (by decide) dL_law_390 ?_
  refine va_sld zx zb hX hbl hbA G.2.2.2.1 (k_vp (by decide)) dL_law_391 ?_
  refine k_it (v := xs 2) rfl ?_
  refine o_wi (cells' := 94) (slots' := 3522) (wr := []) G rfl rfl [0, 1, 2] [] rfl rfl (by decide) (by decide) (n_V (As := [.int (xs 1), .int (xs 2)]) (rest := [.int r_1]) (C := RX11) (T := TX11) (N := 18) (ci := 9) S G (m_start l X m0 ([.ref (w.1 0), .ref (w.1 1), .ref (w.1 2), .ref (w.1 3), .long 0, .long (Int32.toInt64 1), .ref (w.1 4), .ref (w.1 5), .ref (w.1 6), .ref (w.1 7), .ref (w.1 8), .int 0, .int 0, .int 0, .int 0, .int 0, .ref (w.1 9), .ref (w.1 10)]) (w.1 0) w.2 (w.1 3) (fun _ => 0) (xs 1) (xs 2) rfl rfl (hz 0 (by decide)) H.size) gL_law_X11_start rfl rfl rfl hdV_X11_start ⟨Nat.le_of_ble_eq_true rfl, Nat.le_of_ble_eq_true rfl⟩ [0, 1, 2] rfl (by decide) 0 rfl rfl rfl hl.1 (Nat.le_of_ble_eq_true rfl) dL_law_392 ⟨Nat.le_of_ble_eq_true rfl, Nat.le_of_ble_eq_true rfl⟩) (fun r_2 u_2 H locs hp_2 G => ?_)
  have G : wd X (fun q : Nat => s.heap.size ≤ q) (fun q : Nat => s.heap.size ≤ q) s [] H locs := G
  refine lv_icmp_eq (tgt := 1279) zx zb dL_law_395 (by decide) (fun c_3 => ?_) (fun c_3 => absurd (hp_1.trans hp_2.symm) c_3)
  exact law_end (Nat.le_of_ble_eq_true rfl) (Nat.le_of_ble_eq_true rfl) S hX hbl zr zlk G hl
theorem hdV_X10_undo : yX10_undo.cls = RX10 ∧ yX10_undo.cls ≠ "java/lang/invoke/MethodHandle" ∧ yX10_undo.cls ≠ "java/lang/invoke/VarHandle" ∧ (parseMethodDescriptor yX10_undo.desc).map (fun d => d.parameters.length) = some 0 := by decide +kernel
theorem hdV_X11_undo : yX11_undo.cls = RX11 ∧ yX11_undo.cls ≠ "java/lang/invoke/MethodHandle" ∧ yX11_undo.cls ≠ "java/lang/invoke/VarHandle" ∧ (parseMethodDescriptor yX11_undo.desc).map (fun d => d.parameters.length) = some 0 := by decide +kernel
set_option maxRecDepth 100000 in
set_option maxHeartbeats 4000000 in
/-- undo -/
theorem law_c8 {p : Program} {l : Launch} {e : Env} {s : State} {m : MethodId} {below : List Frame} {meth : Method} {c : Code} {b : Nat} {xs : Nat → Int32} {X : EX} {q0 m0 : Nat} {u : Nat → Nat} {w : (Nat → Nat) × (Nat → Int32)} (S : CallFix p m c cL_law 4 s #[Value.ref b] wsL_law RL) (hX : va_X b 6 xs s s.heap) (hbl : b < s.heap.size) (zr : meth.sig.returnType = ret) (zlk : meth.locks = false) (hz : ∀ j : Nat, j ≠ 36 → w.2 j = 0) (h36 : w.2 36 = 20) {H : Heap} {locs : List Loc} (G : wd X (fun q : Nat => s.heap.size ≤ q) (fun q : Nat => s.heap.size ≤ q) s (lwW X q0 m0 u w) H locs) {ls : Array Slot} (hl : lv_has ls 4 [(3, .int 0), (2, .ref m0), (1, .ref q0), (0, .ref b)]) : W p l e room_1 s m #[Value.ref b] below meth c H locs 94 3522 (lw_Z below #[Value.ref b] s) (F0 m 400 ls []) := by
  have zx := S.1
  have zb := S.2.1
  have hbA : ¬ (fun q : Nat => s.heap.size ≤ q) b := Nat.not_le.mpr hbl
  have G : wd X (fun q : Nat => s.heap.size ≤ q) (fun q : Nat => s.heap.size ≤ q) s [(q0, .inr (8, [.ref (u 0), .ref (u 16), .ref (u 32), .ref (u 65), .ref (u 66), .ref (u 68), .long (Int32.toInt64 0), .long (Int32.toInt64 1), .ref (u 69), .ref (u 70), .ref (u 71), .ref (u 72), .ref (u 73), .ref (u 74)])), ((u 0), .inr (3, [.int 20, .int 0, .int 0, .ref (u 1), .ref (u 8), .ref (u 10), .ref (u 12), .ref (u 14)])), ((u 8), .inr (2, [.ref (u 9), .int 0])), ((u 68), .inl (X.2.1, 3, .inl (fun _ => 0))), (m0, .inr (9, [.ref (w.1 0), .ref (w.1 1), .ref (w.1 2), .ref (w.1 3), .long 0, .long (Int32.toInt64 1), .ref (w.1 4), .ref (w.1 5), .ref (w.1 6), .ref (w.1 7), .ref (w.1 8), .int 0, .int 0, .int 0, .int 0, .int 0, .ref (w.1 9), .ref (w.1 10)])), ((w.1 0), .inl (X.2.1, 371, .inl w.2)), ((w.1 3), .inl (X.2.1, 3, .inl (fun _ => 0)))] H locs := wd_sub G [0, 1, 9, 61, 62, 63, 66] rfl (by decide)
  refine lv_aload_n zx zb dL_law_400 rfl (lv_at hl 2 rfl) ?_
  refine o_wi (cells' := 94) (slots' := 3522) (wr := [(m0, .inr (9, [.ref (w.1 0), .ref (w.1 1), .ref (w.1 2), .ref (w.1 3), .long 0, .long (Int32.toInt64 1), .ref (w.1 4), .ref (w.1 5), .ref (w.1 6), .ref (w.1 7), .ref (w.1 8), .int 0, .int 0, .int 0, .int 0, .int 0, .ref (w.1 9), .ref (w.1 10)])), ((w.1 0), .inl (X.2.1, 371, .inl w.2)), ((w.1 3), .inl (X.2.1, 3, .inl (fun _ => 0)))]) G rfl rfl [0, 1, 2, 3] [4, 5, 6] rfl rfl (by decide) (by decide) (n_V (As := []) (rest := []) (C := RX10) (T := TX10) (N := 14) (ci := 8) S G (c_undo l X q0 ([.ref (u 0), .ref (u 16), .ref (u 32), .ref (u 65), .ref (u 66), .ref (u 68), .long (Int32.toInt64 0), .long (Int32.toInt64 1), .ref (u 69), .ref (u 70), .ref (u 71), .ref (u 72), .ref (u 73), .ref (u 74)]) (u 0) ([.int 20, .int 0, .int 0, .ref (u 1), .ref (u 8), .ref (u 10), .ref (u 12), .ref (u 14)]) (u 8) ([.ref (u 9), .int 0]) (u 1) (u 68) (fun _ => 0) rfl rfl rfl rfl rfl H.size) gL_law_X10_undo rfl rfl rfl hdV_X10_undo ⟨Nat.le_of_ble_eq_true rfl, Nat.le_of_ble_eq_true rfl⟩ [0, 1, 2, 3] rfl (by decide) 0 rfl rfl rfl hl.1 (Nat.le_of_ble_eq_true rfl) dL_law_401 ⟨Nat.le_of_ble_eq_true rfl, Nat.le_of_ble_eq_true rfl⟩) (fun r_1 u_1 H locs hp_1 G => ?_)
  have G : wd X (fun q : Nat => s.heap.size ≤ q) (fun q : Nat => s.heap.size ≤ q) s [(m0, .inr (9, [.ref (w.1 0), .ref (w.1 1), .ref (w.1 2), .ref (w.1 3), .long 0, .long (Int32.toInt64 1), .ref (w.1 4), .ref (w.1 5), .ref (w.1 6), .ref (w.1 7), .ref (w.1 8), .int 0, .int 0, .int 0, .int 0, .int 0, .ref (w.1 9), .ref (w.1 10)])), ((w.1 0), .inl (X.2.1, 371, .inl w.2)), ((w.1 3), .inl (X.2.1, 3, .inl (fun _ => 0)))] H locs := G
  refine lv_aload_n zx zb dL_law_404 rfl (lv_at hl 1 rfl) ?_
  refine o_wi (cells' := 94) (slots' := 3522) (wr := []) G rfl rfl [0, 1, 2] [] rfl rfl (by decide) (by decide) (n_V (As := []) (rest := [.int r_1]) (C := RX11) (T := TX11) (N := 18) (ci := 9) S G (m_undo l X m0 ([.ref (w.1 0), .ref (w.1 1), .ref (w.1 2), .ref (w.1 3), .long 0, .long (Int32.toInt64 1), .ref (w.1 4), .ref (w.1 5), .ref (w.1 6), .ref (w.1 7), .ref (w.1 8), .int 0, .int 0, .int 0, .int 0, .int 0, .ref (w.1 9), .ref (w.1 10)]) (w.1 0) w.2 (w.1 3) (fun _ => 0) rfl rfl (hz 4 (by decide)) H.size) gL_law_X11_undo rfl rfl rfl hdV_X11_undo ⟨Nat.le_of_ble_eq_true rfl, Nat.le_of_ble_eq_true rfl⟩ [0, 1, 2] rfl (by decide) 0 rfl rfl rfl hl.1 (Nat.le_of_ble_eq_true rfl) dL_law_405 ⟨Nat.le_of_ble_eq_true rfl, Nat.le_of_ble_eq_true rfl⟩) (fun r_2 u_2 H locs hp_2 G => ?_)
  have G : wd X (fun q : Nat => s.heap.size ≤ q) (fun q : Nat => s.heap.size ≤ q) s [] H locs := G
  refine lv_icmp_eq (tgt := 1279) zx zb dL_law_408 (by decide) (fun c_3 => ?_) (fun c_3 => absurd (hp_1.trans hp_2.symm) c_3)
  exact law_end (Nat.le_of_ble_eq_true rfl) (Nat.le_of_ble_eq_true rfl) S hX hbl zr zlk G hl
theorem hdV_X10_of : yX10_of.cls = RX10 ∧ yX10_of.cls ≠ "java/lang/invoke/MethodHandle" ∧ yX10_of.cls ≠ "java/lang/invoke/VarHandle" ∧ (parseMethodDescriptor yX10_of.desc).map (fun d => d.parameters.length) = some 2 := by decide +kernel
theorem hdV_X11_of : yX11_of.cls = RX11 ∧ yX11_of.cls ≠ "java/lang/invoke/MethodHandle" ∧ yX11_of.cls ≠ "java/lang/invoke/VarHandle" ∧ (parseMethodDescriptor yX11_of.desc).map (fun d => d.parameters.length) = some 2 := by decide +kernel
set_option maxRecDepth 100000 in
set_option maxHeartbeats 4000000 in
/-- of -/
theorem law_c9 {p : Program} {l : Launch} {e : Env} {s : State} {m : MethodId} {below : List Frame} {meth : Method} {c : Code} {b : Nat} {xs : Nat → Int32} {X : EX} {q0 m0 : Nat} {u : Nat → Nat} {w : (Nat → Nat) × (Nat → Int32)} (S : CallFix p m c cL_law 4 s #[Value.ref b] wsL_law RL) (hX : va_X b 6 xs s s.heap) (hbl : b < s.heap.size) (zr : meth.sig.returnType = ret) (zlk : meth.locks = false) (hz : ∀ j : Nat, j ≠ 36 → w.2 j = 0) (h36 : w.2 36 = 20) {H : Heap} {locs : List Loc} (G : wd X (fun q : Nat => s.heap.size ≤ q) (fun q : Nat => s.heap.size ≤ q) s (lwW X q0 m0 u w) H locs) {ls : Array Slot} (hl : lv_has ls 4 [(3, .int 0), (2, .ref m0), (1, .ref q0), (0, .ref b)]) : W p l e room_1 s m #[Value.ref b] below meth c H locs 94 3522 (lw_Z below #[Value.ref b] s) (F0 m 413 ls []) := by
  have zx := S.1
  have zb := S.2.1
  have hbA : ¬ (fun q : Nat => s.heap.size ≤ q) b := Nat.not_le.mpr hbl
  have G : wd X (fun q : Nat => s.heap.size ≤ q) (fun q : Nat => s.heap.size ≤ q) s [(q0, .inr (8, [.ref (u 0), .ref (u 16), .ref (u 32), .ref (u 65), .ref (u 66), .ref (u 68), .long (Int32.toInt64 0), .long (Int32.toInt64 1), .ref (u 69), .ref (u 70), .ref (u 71), .ref (u 72), .ref (u 73), .ref (u 74)])), ((u 0), .inr (3, [.int 20, .int 0, .int 0, .ref (u 1), .ref (u 8), .ref (u 10), .ref (u 12), .ref (u 14)])), ((u 68), .inl (X.2.1, 3, .inl (fun _ => 0))), (m0, .inr (9, [.ref (w.1 0), .ref (w.1 1), .ref (w.1 2), .ref (w.1 3), .long 0, .long (Int32.toInt64 1), .ref (w.1 4), .ref (w.1 5), .ref (w.1 6), .ref (w.1 7), .ref (w.1 8), .int 0, .int 0, .int 0, .int 0, .int 0, .ref (w.1 9), .ref (w.1 10)])), ((w.1 0), .inl (X.2.1, 371, .inl w.2)), ((w.1 3), .inl (X.2.1, 3, .inl (fun _ => 0)))] H locs := wd_sub G [0, 1, 61, 62, 63, 66] rfl (by decide)
  refine lv_aload_n zx zb dL_law_413 rfl (lv_at hl 2 rfl) ?_
  refine lv_aload_n zx zb dL_law_414 rfl (lv_at hl 3 rfl) ?_
  refine lv_iload_n zx zb dL_law_415 rfl (lv_at hl 0 rfl) ?_
  refine lv_iconst (v := 1) zx zb dL_law_416 (by decide) ?_
  refine r_iadd (v := 1) S (by decide) dL_law_417 ?_
  refine va_sld zx zb hX hbl hbA G.2.2.2.1 (k_vp (by decide)) dL_law_418 ?_
  refine k_it (v := xs 1) rfl ?_
  refine lv_aload_n zx zb dL_law_419 rfl (lv_at hl 3 rfl) ?_
  refine lv_iload_n zx zb dL_law_420 rfl (lv_at hl 0 rfl) ?_
  refine lv_iconst (v := 2) zx zb dL_law_421 (by decide) ?_
  refine r_iadd (v := 2) S (by decide) dL_law_422 ?_
  refine va_sld zx zb hX hbl hbA G.2.2.2.1 (k_vp (by decide)) dL_law_423 ?_
  refine k_it (v := xs 2) rfl ?_
  refine o_wi (cells' := 94) (slots' := 3522) (wr := [(m0, .inr (9, [.ref (w.1 0), .ref (w.1 1), .ref (w.1 2), .ref (w.1 3), .long 0, .long (Int32.toInt64 1), .ref (w.1 4), .ref (w.1 5), .ref (w.1 6), .ref (w.1 7), .ref (w.1 8), .int 0, .int 0, .int 0, .int 0, .int 0, .ref (w.1 9), .ref (w.1 10)])), ((w.1 0), .inl (X.2.1, 371, .inl w.2)), ((w.1 3), .inl (X.2.1, 3, .inl (fun _ => 0)))]) G rfl rfl [0, 1, 2] [3, 4, 5] rfl rfl (by decide) (by decide) (n_V (As := [.int (xs 1), .int (xs 2)]) (rest := []) (C := RX10) (T := TX10) (N := 14) (ci := 8) S G (c_of l X q0 ([.ref (u 0), .ref (u 16), .ref (u 32), .ref (u 65), .ref (u 66), .ref (u 68), .long (Int32.toInt64 0), .long (Int32.toInt64 1), .ref (u 69), .ref (u 70), .ref (u 71), .ref (u 72), .ref (u 73), .ref (u 74)]) (u 0) ([.int 20, .int 0, .int 0, .ref (u 1), .ref (u 8), .ref (u 10), .ref (u 12), .ref (u 14)]) (u 68) (fun _ => 0) (xs 1) (xs 2) rfl rfl rfl H.size) gL_law_X10_of rfl rfl rfl hdV_X10_of ⟨Nat.le_of_ble_eq_true rfl, Nat.le_of_ble_eq_true rfl⟩ [0, 1, 2] rfl (by decide) 0 rfl rfl rfl hl.1 (Nat.le_of_ble_eq_true rfl) dL_law_424 ⟨Nat.le_of_ble_eq_true rfl, Nat.le_of_ble_eq_true rfl⟩) (fun r_1 u_1 H locs hp_1 G => ?_)
  have G : wd X (fun q : Nat => s.heap.size ≤ q) (fun q : Nat => s.heap.size ≤ q) s [(m0, .inr (9, [.ref (w.1 0), .ref (w.1 1), .ref (w.1 2), .ref (w.1 3), .long 0, .long (Int32.toInt64 1), .ref (w.1 4), .ref (w.1 5), .ref (w.1 6), .ref (w.1 7), .ref (w.1 8), .int 0, .int 0, .int 0, .int 0, .int 0, .ref (w.1 9), .ref (w.1 10)])), ((w.1 0), .inl (X.2.1, 371, .inl w.2)), ((w.1 3), .inl (X.2.1, 3, .inl (fun _ => 0)))] H locs := G
  refine lv_aload_n zx zb dL_law_427 rfl (lv_at hl 1 rfl) ?_
  refine lv_aload_n zx zb dL_law_428 rfl (lv_at hl 3 rfl) ?_
  refine lv_iload_n zx zb dL_law_429 rfl (lv_at hl 0 rfl) ?_
  refine lv_iconst (v := 1) zx zb dL_law_430 (by decide) ?_
  refine r_iadd (v := 1) S (by decide) dL_law_431 ?_
  refine va_sld zx zb hX hbl hbA G.2.2.2.1 (k_vp (by decide)) dL_law_432 ?_
  refine k_it (v := xs 1) rfl ?_
  refine lv_aload_n zx zb dL_law_433 rfl (lv_at hl 3 rfl) ?_
  refine lv_iload_n zx zb dL_law_434 rfl (lv_at hl 0 rfl) ?_
  refine lv_iconst (v := 2) zx zb dL_law_435 (by decide) ?_
  refine r_iadd (v := 2) S (by decide) dL_law_436 ?_
  refine va_sld zx zb hX hbl hbA G.2.2.2.1 (k_vp (by decide)) dL_law_437 ?_
  refine k_it (v := xs 2) rfl ?_
  refine o_wi (cells' := 94) (slots' := 3522) (wr := []) G rfl rfl [0, 1, 2] [] rfl rfl (by decide) (by decide) (n_V (As := [.int (xs 1), .int (xs 2)]) (rest := [.int r_1]) (C := RX11) (T := TX11) (N := 18) (ci := 9) S G (m_of l X m0 ([.ref (w.1 0), .ref (w.1 1), .ref (w.1 2), .ref (w.1 3), .long 0, .long (Int32.toInt64 1), .ref (w.1 4), .ref (w.1 5), .ref (w.1 6), .ref (w.1 7), .ref (w.1 8), .int 0, .int 0, .int 0, .int 0, .int 0, .ref (w.1 9), .ref (w.1 10)]) (w.1 0) w.2 (w.1 3) (fun _ => 0) (xs 1) (xs 2) rfl rfl (hz 0 (by decide)) H.size) gL_law_X11_of rfl rfl rfl hdV_X11_of ⟨Nat.le_of_ble_eq_true rfl, Nat.le_of_ble_eq_true rfl⟩ [0, 1, 2] rfl (by decide) 0 rfl rfl rfl hl.1 (Nat.le_of_ble_eq_true rfl) dL_law_438 ⟨Nat.le_of_ble_eq_true rfl, Nat.le_of_ble_eq_true rfl⟩) (fun r_2 u_2 H locs hp_2 G => ?_)
  have G : wd X (fun q : Nat => s.heap.size ≤ q) (fun q : Nat => s.heap.size ≤ q) s [] H locs := G
  refine lv_icmp_eq (tgt := 1279) zx zb dL_law_441 (by decide) (fun c_3 => ?_) (fun c_3 => absurd (hp_1.trans hp_2.symm) c_3)
  exact law_end (Nat.le_of_ble_eq_true rfl) (Nat.le_of_ble_eq_true rfl) S hX hbl zr zlk G hl
theorem hdV_X10_where : yX10_where.cls = RX10 ∧ yX10_where.cls ≠ "java/lang/invoke/MethodHandle" ∧ yX10_where.cls ≠ "java/lang/invoke/VarHandle" ∧ (parseMethodDescriptor yX10_where.desc).map (fun d => d.parameters.length) = some 2 := by decide +kernel
theorem hdV_X11_where : yX11_where.cls = RX11 ∧ yX11_where.cls ≠ "java/lang/invoke/MethodHandle" ∧ yX11_where.cls ≠ "java/lang/invoke/VarHandle" ∧ (parseMethodDescriptor yX11_where.desc).map (fun d => d.parameters.length) = some 2 := by decide +kernel
set_option maxRecDepth 100000 in
set_option maxHeartbeats 4000000 in
/-- where -/
theorem law_c10 {p : Program} {l : Launch} {e : Env} {s : State} {m : MethodId} {below : List Frame} {meth : Method} {c : Code} {b : Nat} {xs : Nat → Int32} {X : EX} {q0 m0 : Nat} {u : Nat → Nat} {w : (Nat → Nat) × (Nat → Int32)} (S : CallFix p m c cL_law 4 s #[Value.ref b] wsL_law RL) (hX : va_X b 6 xs s s.heap) (hbl : b < s.heap.size) (zr : meth.sig.returnType = ret) (zlk : meth.locks = false) (hz : ∀ j : Nat, j ≠ 36 → w.2 j = 0) (h36 : w.2 36 = 20) {H : Heap} {locs : List Loc} (G : wd X (fun q : Nat => s.heap.size ≤ q) (fun q : Nat => s.heap.size ≤ q) s (lwW X q0 m0 u w) H locs) {ls : Array Slot} (hl : lv_has ls 4 [(3, .int 0), (2, .ref m0), (1, .ref q0), (0, .ref b)]) : W p l e room_1 s m #[Value.ref b] below meth c H locs 94 3522 (lw_Z below #[Value.ref b] s) (F0 m 446 ls []) := by
  have zx := S.1
  have zb := S.2.1
  have hbA : ¬ (fun q : Nat => s.heap.size ≤ q) b := Nat.not_le.mpr hbl
  have G : wd X (fun q : Nat => s.heap.size ≤ q) (fun q : Nat => s.heap.size ≤ q) s [(q0, .inr (8, [.ref (u 0), .ref (u 16), .ref (u 32), .ref (u 65), .ref (u 66), .ref (u 68), .long (Int32.toInt64 0), .long (Int32.toInt64 1), .ref (u 69), .ref (u 70), .ref (u 71), .ref (u 72), .ref (u 73), .ref (u 74)])), ((u 0), .inr (3, [.int 20, .int 0, .int 0, .ref (u 1), .ref (u 8), .ref (u 10), .ref (u 12), .ref (u 14)])), ((u 68), .inl (X.2.1, 3, .inl (fun _ => 0))), (m0, .inr (9, [.ref (w.1 0), .ref (w.1 1), .ref (w.1 2), .ref (w.1 3), .long 0, .long (Int32.toInt64 1), .ref (w.1 4), .ref (w.1 5), .ref (w.1 6), .ref (w.1 7), .ref (w.1 8), .int 0, .int 0, .int 0, .int 0, .int 0, .ref (w.1 9), .ref (w.1 10)])), ((w.1 0), .inl (X.2.1, 371, .inl w.2)), ((w.1 3), .inl (X.2.1, 3, .inl (fun _ => 0)))] H locs := wd_sub G [0, 1, 61, 62, 63, 66] rfl (by decide)
  refine lv_aload_n zx zb dL_law_446 rfl (lv_at hl 2 rfl) ?_
  refine lv_aload_n zx zb dL_law_447 rfl (lv_at hl 3 rfl) ?_
  refine lv_iload_n zx zb dL_law_448 rfl (lv_at hl 0 rfl) ?_
  refine lv_iconst (v := 1) zx zb dL_law_449 (by decide) ?_
  refine r_iadd (v := 1) S (by decide) dL_law_450 ?_
  refine va_sld zx zb hX hbl hbA G.2.2.2.1 (k_vp (by decide)) dL_law_451 ?_
  refine k_it (v := xs 1) rfl ?_
  refine lv_aload_n zx zb dL_law_452 rfl (lv_at hl 3 rfl) ?_
  refine lv_iload_n zx zb dL_law_453 rfl (lv_at hl 0 rfl) ?_
  refine lv_iconst (v := 2) zx zb dL_law_454 (by decide) ?_
  refine r_iadd (v := 2) S (by decide) dL_law_455 ?_
  refine va_sld zx zb hX hbl hbA G.2.2.2.1 (k_vp (by decide)) dL_law_456 ?_
  refine k_it (v := xs 2) rfl ?_
  refine o_wi (cells' := 94) (slots' := 3522) (wr := [(m0, .inr (9, [.ref (w.1 0), .ref (w.1 1), .ref (w.1 2), .ref (w.1 3), .long 0, .long (Int32.toInt64 1), .ref (w.1 4), .ref (w.1 5), .ref (w.1 6), .ref (w.1 7), .ref (w.1 8), .int 0, .int 0, .int 0, .int 0, .int 0, .ref (w.1 9), .ref (w.1 10)])), ((w.1 0), .inl (X.2.1, 371, .inl w.2)), ((w.1 3), .inl (X.2.1, 3, .inl (fun _ => 0)))]) G rfl rfl [0, 1, 2] [3, 4, 5] rfl rfl (by decide) (by decide) (n_V (As := [.int (xs 1), .int (xs 2)]) (rest := []) (C := RX10) (T := TX10) (N := 14) (ci := 8) S G (c_where l X q0 ([.ref (u 0), .ref (u 16), .ref (u 32), .ref (u 65), .ref (u 66), .ref (u 68), .long (Int32.toInt64 0), .long (Int32.toInt64 1), .ref (u 69), .ref (u 70), .ref (u 71), .ref (u 72), .ref (u 73), .ref (u 74)]) (u 0) ([.int 20, .int 0, .int 0, .ref (u 1), .ref (u 8), .ref (u 10), .ref (u 12), .ref (u 14)]) (u 68) (fun _ => 0) (xs 1) (xs 2) rfl rfl rfl H.size) gL_law_X10_where rfl rfl rfl hdV_X10_where ⟨Nat.le_of_ble_eq_true rfl, Nat.le_of_ble_eq_true rfl⟩ [0, 1, 2] rfl (by decide) 0 rfl rfl rfl hl.1 (Nat.le_of_ble_eq_true rfl) dL_law_457 ⟨Nat.le_of_ble_eq_true rfl, Nat.le_of_ble_eq_true rfl⟩) (fun r_1 u_1 H locs hp_1 G => ?_)
  have G : wd X (fun q : Nat => s.heap.size ≤ q) (fun q : Nat => s.heap.size ≤ q) s [(m0, .inr (9, [.ref (w.1 0), .ref (w.1 1), .ref (w.1 2), .ref (w.1 3), .long 0, .long (Int32.toInt64 1), .ref (w.1 4), .ref (w.1 5), .ref (w.1 6), .ref (w.1 7), .ref (w.1 8), .int 0, .int 0, .int 0, .int 0, .int 0, .ref (w.1 9), .ref (w.1 10)])), ((w.1 0), .inl (X.2.1, 371, .inl w.2)), ((w.1 3), .inl (X.2.1, 3, .inl (fun _ => 0)))] H locs := G
  refine lv_aload_n zx zb dL_law_460 rfl (lv_at hl 1 rfl) ?_
  refine lv_aload_n zx zb dL_law_461 rfl (lv_at hl 3 rfl) ?_
  refine lv_iload_n zx zb dL_law_462 rfl (lv_at hl 0 rfl) ?_
  refine lv_iconst (v := 1) zx zb dL_law_463 (by decide) ?_
  refine r_iadd (v := 1) S (by decide) dL_law_464 ?_
  refine va_sld zx zb hX hbl hbA G.2.2.2.1 (k_vp (by decide)) dL_law_465 ?_
  refine k_it (v := xs 1) rfl ?_
  refine lv_aload_n zx zb dL_law_466 rfl (lv_at hl 3 rfl) ?_
  refine lv_iload_n zx zb dL_law_467 rfl (lv_at hl 0 rfl) ?_
  refine lv_iconst (v := 2) zx zb dL_law_468 (by decide) ?_
  refine r_iadd (v := 2) S (by decide) dL_law_469 ?_
  refine va_sld zx zb hX hbl hbA G.2.2.2.1 (k_vp (by decide)) dL_law_470 ?_
  refine k_it (v := xs 2) rfl ?_
  refine o_wi (cells' := 94) (slots' := 3522) (wr := []) G rfl rfl [0, 1, 2] [] rfl rfl (by decide) (by decide) (n_V (As := [.int (xs 1), .int (xs 2)]) (rest := [.int r_1]) (C := RX11) (T := TX11) (N := 18) (ci := 9) S G (m_where l X m0 ([.ref (w.1 0), .ref (w.1 1), .ref (w.1 2), .ref (w.1 3), .long 0, .long (Int32.toInt64 1), .ref (w.1 4), .ref (w.1 5), .ref (w.1 6), .ref (w.1 7), .ref (w.1 8), .int 0, .int 0, .int 0, .int 0, .int 0, .ref (w.1 9), .ref (w.1 10)]) (w.1 0) w.2 (w.1 3) (fun _ => 0) (xs 1) (xs 2) rfl rfl (hz 0 (by decide)) H.size) gL_law_X11_where rfl rfl rfl hdV_X11_where ⟨Nat.le_of_ble_eq_true rfl, Nat.le_of_ble_eq_true rfl⟩ [0, 1, 2] rfl (by decide) 0 rfl rfl rfl hl.1 (Nat.le_of_ble_eq_true rfl) dL_law_471 ⟨Nat.le_of_ble_eq_true rfl, Nat.le_of_ble_eq_true rfl⟩) (fun r_2 u_2 H locs hp_2 G => ?_)
  have G : wd X (fun q : Nat => s.heap.size ≤ q) (fun q : Nat => s.heap.size ≤ q) s [] H locs := G
  refine lv_icmp_eq (tgt := 1279) zx zb dL_law_474 (by decide) (fun c_3 => ?_) (fun c_3 => absurd (hp_1.trans hp_2.symm) c_3)
  exact law_end (Nat.le_of_ble_eq_true rfl) (Nat.le_of_ble_eq_true rfl) S hX hbl zr zlk G hl
theorem hdV_X10_home : yX10_home.cls = RX10 ∧ yX10_home.cls ≠ "java/lang/invoke/MethodHandle" ∧ yX10_home.cls ≠ "java/lang/invoke/VarHandle" ∧ (parseMethodDescriptor yX10_home.desc).map (fun d => d.parameters.length) = some 1 := by decide +kernel
theorem hdV_X11_home : yX11_home.cls = RX11 ∧ yX11_home.cls ≠ "java/lang/invoke/MethodHandle" ∧ yX11_home.cls ≠ "java/lang/invoke/VarHandle" ∧ (parseMethodDescriptor yX11_home.desc).map (fun d => d.parameters.length) = some 1 := by decide +kernel
set_option maxRecDepth 100000 in
set_option maxHeartbeats 4000000 in
/-- home -/
theorem law_c11 {p : Program} {l : Launch} {e : Env} {s : State} {m : MethodId} {below : List Frame} {meth : Method} {c : Code} {b : Nat} {xs : Nat → Int32} {X : EX} {q0 m0 : Nat} {u : Nat → Nat} {w : (Nat → Nat) × (Nat → Int32)} (S : CallFix p m c cL_law 4 s #[Value.ref b] wsL_law RL) (hX : va_X b 6 xs s s.heap) (hbl : b < s.heap.size) (zr : meth.sig.returnType = ret) (zlk : meth.locks = false) (hz : ∀ j : Nat, j ≠ 36 → w.2 j = 0) (h36 : w.2 36 = 20) {H : Heap} {locs : List Loc} (G : wd X (fun q : Nat => s.heap.size ≤ q) (fun q : Nat => s.heap.size ≤ q) s (lwW X q0 m0 u w) H locs) {ls : Array Slot} (hl : lv_has ls 4 [(3, .int 0), (2, .ref m0), (1, .ref q0), (0, .ref b)]) : W p l e room_1 s m #[Value.ref b] below meth c H locs 94 3522 (lw_Z below #[Value.ref b] s) (F0 m 479 ls []) := by
  have zx := S.1
  have zb := S.2.1
  have hbA : ¬ (fun q : Nat => s.heap.size ≤ q) b := Nat.not_le.mpr hbl
  have G : wd X (fun q : Nat => s.heap.size ≤ q) (fun q : Nat => s.heap.size ≤ q) s [(q0, .inr (8, [.ref (u 0), .ref (u 16), .ref (u 32), .ref (u 65), .ref (u 66), .ref (u 68), .long (Int32.toInt64 0), .long (Int32.toInt64 1), .ref (u 69), .ref (u 70), .ref (u 71), .ref (u 72), .ref (u 73), .ref (u 74)])), ((u 0), .inr (3, [.int 20, .int 0, .int 0, .ref (u 1), .ref (u 8), .ref (u 10), .ref (u 12), .ref (u 14)])), ((u 68), .inl (X.2.1, 3, .inl (fun _ => 0))), (m0, .inr (9, [.ref (w.1 0), .ref (w.1 1), .ref (w.1 2), .ref (w.1 3), .long 0, .long (Int32.toInt64 1), .ref (w.1 4), .ref (w.1 5), .ref (w.1 6), .ref (w.1 7), .ref (w.1 8), .int 0, .int 0, .int 0, .int 0, .int 0, .ref (w.1 9), .ref (w.1 10)])), ((w.1 0), .inl (X.2.1, 371, .inl w.2)), ((w.1 3), .inl (X.2.1, 3, .inl (fun _ => 0)))] H locs := wd_sub G [0, 1, 61, 62, 63, 66] rfl (by decide)
  refine lv_aload_n zx zb dL_law_479 rfl (lv_at hl 2 rfl) ?_
  refine lv_aload_n zx zb dL_law_480 rfl (lv_at hl 3 rfl) ?_
  refine lv_iload_n zx zb dL_law_481 rfl (lv_at hl 0 rfl) ?_
  refine lv_iconst (v := 1) zx zb dL_law_482 (by decide) ?_
  refine r_iadd (v := 1) S (by decide) dL_law_483 ?_
  refine va_sld zx zb hX hbl hbA G.2.2.2.1 (k_vp (by decide)) dL_law_484 ?_
  refine k_it (v := xs 1) rfl ?_
  refine o_wi (cells' := 94) (slots' := 3522) (wr := [(m0, .inr (9, [.ref (w.1 0), .ref (w.1 1), .ref (w.1 2), .ref (w.1 3), .long 0, .long (Int32.toInt64 1), .ref (w.1 4), .ref (w.1 5), .ref (w.1 6), .ref (w.1 7), .ref (w.1 8), .int 0, .int 0, .int 0, .int 0, .int 0, .ref (w.1 9), .ref (w.1 10)])), ((w.1 0), .inl (X.2.1, 371, .inl w.2)), ((w.1 3), .inl (X.2.1, 3, .inl (fun _ => 0)))]) G rfl rfl [0, 1, 2] [3, 4, 5] rfl rfl (by decide) (by decide) (n_V (As := [.int (xs 1)]) (rest := []) (C := RX10) (T := TX10) (N := 14) (ci := 8) S G (c_home l X q0 ([.ref (u 0), .ref (u 16), .ref (u 32), .ref (u 65), .ref (u 66), .ref (u 68), .long (Int32.toInt64 0), .long (Int32.toInt64 1), .ref (u 69), .ref (u 70), .ref (u 71), .ref (u 72), .ref (u 73), .ref (u 74)]) (u 0) ([.int 20, .int 0, .int 0, .ref (u 1), .ref (u 8), .ref (u 10), .ref (u 12), .ref (u 14)]) (u 68) (fun _ => 0) (xs 1) rfl rfl rfl H.size) gL_law_X10_home rfl rfl rfl hdV_X10_home ⟨Nat.le_of_ble_eq_true rfl, Nat.le_of_ble_eq_true rfl⟩ [0, 1, 2] rfl (by decide) 0 rfl rfl rfl hl.1 (Nat.le_of_ble_eq_true rfl) dL_law_485 ⟨Nat.le_of_ble_eq_true rfl, Nat.le_of_ble_eq_true rfl⟩) (fun r_1 u_1 H locs hp_1 G => ?_)
  have G : wd X (fun q : Nat => s.heap.size ≤ q) (fun q : Nat => s.heap.size ≤ q) s [(m0, .inr (9, [.ref (w.1 0), .ref (w.1 1), .ref (w.1 2), .ref (w.1 3), .long 0, .long (Int32.toInt64 1), .ref (w.1 4), .ref (w.1 5), .ref (w.1 6), .ref (w.1 7), .ref (w.1 8), .int 0, .int 0, .int 0, .int 0, .int 0, .ref (w.1 9), .ref (w.1 10)])), ((w.1 0), .inl (X.2.1, 371, .inl w.2)), ((w.1 3), .inl (X.2.1, 3, .inl (fun _ => 0)))] H locs := G
  refine lv_aload_n zx zb dL_law_488 rfl (lv_at hl 1 rfl) ?_
  refine lv_aload_n zx zb dL_law_489 rfl (lv_at hl 3 rfl) ?_
  refine lv_iload_n zx zb dL_law_490 rfl (lv_at hl 0 rfl) ?_
  refine lv_iconst (v := 1) zx zb dL_law_491 (by decide) ?_
  refine r_iadd (v := 1) S (by decide) dL_law_492 ?_
  refine va_sld zx zb hX hbl hbA G.2.2.2.1 (k_vp (by decide)) dL_law_493 ?_
  refine k_it (v := xs 1) rfl ?_
  refine o_wi (cells' := 94) (slots' := 3522) (wr := []) G rfl rfl [0, 1, 2] [] rfl rfl (by decide) (by decide) (n_V (As := [.int (xs 1)]) (rest := [.int r_1]) (C := RX11) (T := TX11) (N := 18) (ci := 9) S G (m_home l X m0 ([.ref (w.1 0), .ref (w.1 1), .ref (w.1 2), .ref (w.1 3), .long 0, .long (Int32.toInt64 1), .ref (w.1 4), .ref (w.1 5), .ref (w.1 6), .ref (w.1 7), .ref (w.1 8), .int 0, .int 0, .int 0, .int 0, .int 0, .ref (w.1 9), .ref (w.1 10)]) (w.1 0) w.2 (w.1 3) (fun _ => 0) (xs 1) rfl rfl (hz 0 (by decide)) H.size) gL_law_X11_home rfl rfl rfl hdV_X11_home ⟨Nat.le_of_ble_eq_true rfl, Nat.le_of_ble_eq_true rfl⟩ [0, 1, 2] rfl (by decide) 0 rfl rfl rfl hl.1 (Nat.le_of_ble_eq_true rfl) dL_law_494 ⟨Nat.le_of_ble_eq_true rfl, Nat.le_of_ble_eq_true rfl⟩) (fun r_2 u_2 H locs hp_2 G => ?_)
  have G : wd X (fun q : Nat => s.heap.size ≤ q) (fun q : Nat => s.heap.size ≤ q) s [] H locs := G
  refine lv_icmp_eq (tgt := 1279) zx zb dL_law_497 (by decide) (fun c_3 => ?_) (fun c_3 => absurd (hp_1.trans hp_2.symm) c_3)
  exact law_end (Nat.le_of_ble_eq_true rfl) (Nat.le_of_ble_eq_true rfl) S hX hbl zr zlk G hl
theorem hdV_X10_first : yX10_first.cls = RX10 ∧ yX10_first.cls ≠ "java/lang/invoke/MethodHandle" ∧ yX10_first.cls ≠ "java/lang/invoke/VarHandle" ∧ (parseMethodDescriptor yX10_first.desc).map (fun d => d.parameters.length) = some 0 := by decide +kernel
theorem hdV_X11_first : yX11_first.cls = RX11 ∧ yX11_first.cls ≠ "java/lang/invoke/MethodHandle" ∧ yX11_first.cls ≠ "java/lang/invoke/VarHandle" ∧ (parseMethodDescriptor yX11_first.desc).map (fun d => d.parameters.length) = some 0 := by decide +kernel
set_option maxRecDepth 100000 in
set_option maxHeartbeats 4000000 in
/-- first -/
theorem law_c12 {p : Program} {l : Launch} {e : Env} {s : State} {m : MethodId} {below : List Frame} {meth : Method} {c : Code} {b : Nat} {xs : Nat → Int32} {X : EX} {q0 m0 : Nat} {u : Nat → Nat} {w : (Nat → Nat) × (Nat → Int32)} (S : CallFix p m c cL_law 4 s #[Value.ref b] wsL_law RL) (hX : va_X b 6 xs s s.heap) (hbl : b < s.heap.size) (zr : meth.sig.returnType = ret) (zlk : meth.locks = false) (hz : ∀ j : Nat, j ≠ 36 → w.2 j = 0) (h36 : w.2 36 = 20) {H : Heap} {locs : List Loc} (G : wd X (fun q : Nat => s.heap.size ≤ q) (fun q : Nat => s.heap.size ≤ q) s (lwW X q0 m0 u w) H locs) {ls : Array Slot} (hl : lv_has ls 4 [(3, .int 0), (2, .ref m0), (1, .ref q0), (0, .ref b)]) : W p l e room_1 s m #[Value.ref b] below meth c H locs 94 3522 (lw_Z below #[Value.ref b] s) (F0 m 502 ls []) := by
  have zx := S.1
  have zb := S.2.1
  have hbA : ¬ (fun q : Nat => s.heap.size ≤ q) b := Nat.not_le.mpr hbl
  have G : wd X (fun q : Nat => s.heap.size ≤ q) (fun q : Nat => s.heap.size ≤ q) s [(q0, .inr (8, [.ref (u 0), .ref (u 16), .ref (u 32), .ref (u 65), .ref (u 66), .ref (u 68), .long (Int32.toInt64 0), .long (Int32.toInt64 1), .ref (u 69), .ref (u 70), .ref (u 71), .ref (u 72), .ref (u 73), .ref (u 74)])), ((u 0), .inr (3, [.int 20, .int 0, .int 0, .ref (u 1), .ref (u 8), .ref (u 10), .ref (u 12), .ref (u 14)])), (m0, .inr (9, [.ref (w.1 0), .ref (w.1 1), .ref (w.1 2), .ref (w.1 3), .long 0, .long (Int32.toInt64 1), .ref (w.1 4), .ref (w.1 5), .ref (w.1 6), .ref (w.1 7), .ref (w.1 8), .int 0, .int 0, .int 0, .int 0, .int 0, .ref (w.1 9), .ref (w.1 10)])), ((w.1 0), .inl (X.2.1, 371, .inl w.2))] H locs := wd_sub G [0, 1, 62, 63] rfl (by decide)
  refine lv_aload_n zx zb dL_law_502 rfl (lv_at hl 2 rfl) ?_
  refine o_ri (cells' := 94) (slots' := 3522) G rfl rfl (n_V (As := []) (rest := []) (C := RX10) (T := TX10) (N := 14) (ci := 8) S G (c_first l X q0 ([.ref (u 0), .ref (u 16), .ref (u 32), .ref (u 65), .ref (u 66), .ref (u 68), .long (Int32.toInt64 0), .long (Int32.toInt64 1), .ref (u 69), .ref (u 70), .ref (u 71), .ref (u 72), .ref (u 73), .ref (u 74)]) (u 0) ([.int 20, .int 0, .int 0, .ref (u 1), .ref (u 8), .ref (u 10), .ref (u 12), .ref (u 14)]) rfl rfl H.size) gL_law_X10_first rfl rfl rfl hdV_X10_first ⟨Nat.le_of_ble_eq_true rfl, Nat.le_of_ble_eq_true rfl⟩ [0, 1] rfl (by decide) 0 rfl rfl rfl hl.1 (Nat.le_of_ble_eq_true rfl) dL_law_503 ⟨Nat.le_of_ble_eq_true rfl, Nat.le_of_ble_eq_true rfl⟩) (fun r_1 u_1 H locs hp_1 G => ?_)
  have G : wd X (fun q : Nat => s.heap.size ≤ q) (fun q : Nat => s.heap.size ≤ q) s [(q0, .inr (8, [.ref (u 0), .ref (u 16), .ref (u 32), .ref (u 65), .ref (u 66), .ref (u 68), .long (Int32.toInt64 0), .long (Int32.toInt64 1), .ref (u 69), .ref (u 70), .ref (u 71), .ref (u 72), .ref (u 73), .ref (u 74)])), ((u 0), .inr (3, [.int 20, .int 0, .int 0, .ref (u 1), .ref (u 8), .ref (u 10), .ref (u 12), .ref (u 14)])), (m0, .inr (9, [.ref (w.1 0), .ref (w.1 1), .ref (w.1 2), .ref (w.1 3), .long 0, .long (Int32.toInt64 1), .ref (w.1 4), .ref (w.1 5), .ref (w.1 6), .ref (w.1 7), .ref (w.1 8), .int 0, .int 0, .int 0, .int 0, .int 0, .ref (w.1 9), .ref (w.1 10)])), ((w.1 0), .inl (X.2.1, 371, .inl w.2))] H locs := G
  refine lv_aload_n zx zb dL_law_506 rfl (lv_at hl 1 rfl) ?_
  refine o_ri (cells' := 94) (slots' := 3522) G rfl rfl (n_V (As := []) (rest := [.int r_1]) (C := RX11) (T := TX11) (N := 18) (ci := 9) S G (m_first l X m0 ([.ref (w.1 0), .ref (w.1 1), .ref (w.1 2), .ref (w.1 3), .long 0, .long (Int32.toInt64 1), .ref (w.1 4), .ref (w.1 5), .ref (w.1 6), .ref (w.1 7), .ref (w.1 8), .int 0, .int 0, .int 0, .int 0, .int 0, .ref (w.1 9), .ref (w.1 10)]) (w.1 0) w.2 rfl (hz 0 (by decide)) H.size) gL_law_X11_first rfl rfl rfl hdV_X11_first ⟨Nat.le_of_ble_eq_true rfl, Nat.le_of_ble_eq_true rfl⟩ [2, 3] rfl (by decide) 2 rfl rfl rfl hl.1 (Nat.le_of_ble_eq_true rfl) dL_law_507 ⟨Nat.le_of_ble_eq_true rfl, Nat.le_of_ble_eq_true rfl⟩) (fun r_2 u_2 H locs hp_2 G => ?_)
  have G : wd X (fun q : Nat => s.heap.size ≤ q) (fun q : Nat => s.heap.size ≤ q) s [(q0, .inr (8, [.ref (u 0), .ref (u 16), .ref (u 32), .ref (u 65), .ref (u 66), .ref (u 68), .long (Int32.toInt64 0), .long (Int32.toInt64 1), .ref (u 69), .ref (u 70), .ref (u 71), .ref (u 72), .ref (u 73), .ref (u 74)])), ((u 0), .inr (3, [.int 20, .int 0, .int 0, .ref (u 1), .ref (u 8), .ref (u 10), .ref (u 12), .ref (u 14)])), (m0, .inr (9, [.ref (w.1 0), .ref (w.1 1), .ref (w.1 2), .ref (w.1 3), .long 0, .long (Int32.toInt64 1), .ref (w.1 4), .ref (w.1 5), .ref (w.1 6), .ref (w.1 7), .ref (w.1 8), .int 0, .int 0, .int 0, .int 0, .int 0, .ref (w.1 9), .ref (w.1 10)])), ((w.1 0), .inl (X.2.1, 371, .inl w.2))] H locs := G
  refine lv_icmp_eq (tgt := 1279) zx zb dL_law_510 (by decide) (fun c_3 => ?_) (fun c_3 => absurd (hp_1.trans hp_2.symm) c_3)
  exact law_end (Nat.le_of_ble_eq_true rfl) (Nat.le_of_ble_eq_true rfl) S hX hbl zr zlk G hl
theorem hdV_X10_order : yX10_order.cls = RX10 ∧ yX10_order.cls ≠ "java/lang/invoke/MethodHandle" ∧ yX10_order.cls ≠ "java/lang/invoke/VarHandle" ∧ (parseMethodDescriptor yX10_order.desc).map (fun d => d.parameters.length) = some 1 := by decide +kernel
theorem hdV_X11_order : yX11_order.cls = RX11 ∧ yX11_order.cls ≠ "java/lang/invoke/MethodHandle" ∧ yX11_order.cls ≠ "java/lang/invoke/VarHandle" ∧ (parseMethodDescriptor yX11_order.desc).map (fun d => d.parameters.length) = some 1 := by decide +kernel
set_option maxRecDepth 100000 in
set_option maxHeartbeats 4000000 in
/-- order -/
theorem law_c13 {p : Program} {l : Launch} {e : Env} {s : State} {m : MethodId} {below : List Frame} {meth : Method} {c : Code} {b : Nat} {xs : Nat → Int32} {X : EX} {q0 m0 : Nat} {u : Nat → Nat} {w : (Nat → Nat) × (Nat → Int32)} (S : CallFix p m c cL_law 4 s #[Value.ref b] wsL_law RL) (hX : va_X b 6 xs s s.heap) (hbl : b < s.heap.size) (zr : meth.sig.returnType = ret) (zlk : meth.locks = false) (hz : ∀ j : Nat, j ≠ 36 → w.2 j = 0) (h36 : w.2 36 = 20) {H : Heap} {locs : List Loc} (G : wd X (fun q : Nat => s.heap.size ≤ q) (fun q : Nat => s.heap.size ≤ q) s (lwW X q0 m0 u w) H locs) {ls : Array Slot} (hl : lv_has ls 4 [(3, .int 0), (2, .ref m0), (1, .ref q0), (0, .ref b)]) : W p l e room_1 s m #[Value.ref b] below meth c H locs 94 3522 (lw_Z below #[Value.ref b] s) (F0 m 515 ls []) := by
  have zx := S.1
  have zb := S.2.1
  have hbA : ¬ (fun q : Nat => s.heap.size ≤ q) b := Nat.not_le.mpr hbl
  have G : wd X (fun q : Nat => s.heap.size ≤ q) (fun q : Nat => s.heap.size ≤ q) s [(q0, .inr (8, [.ref (u 0), .ref (u 16), .ref (u 32), .ref (u 65), .ref (u 66), .ref (u 68), .long (Int32.toInt64 0), .long (Int32.toInt64 1), .ref (u 69), .ref (u 70), .ref (u 71), .ref (u 72), .ref (u 73), .ref (u 74)])), ((u 0), .inr (3, [.int 20, .int 0, .int 0, .ref (u 1), .ref (u 8), .ref (u 10), .ref (u 12), .ref (u 14)])), ((u 68), .inl (X.2.1, 3, .inl (fun _ => 0))), (m0, .inr (9, [.ref (w.1 0), .ref (w.1 1), .ref (w.1 2), .ref (w.1 3), .long 0, .long (Int32.toInt64 1), .ref (w.1 4), .ref (w.1 5), .ref (w.1 6), .ref (w.1 7), .ref (w.1 8), .int 0, .int 0, .int 0, .int 0, .int 0, .ref (w.1 9), .ref (w.1 10)])), ((w.1 0), .inl (X.2.1, 371, .inl w.2)), ((w.1 3), .inl (X.2.1, 3, .inl (fun _ => 0)))] H locs := wd_sub G [0, 1, 61, 62, 63, 66] rfl (by decide)
  refine lv_aload_n zx zb dL_law_515 rfl (lv_at hl 2 rfl) ?_
  refine lv_aload_n zx zb dL_law_516 rfl (lv_at hl 3 rfl) ?_
  refine lv_iload_n zx zb dL_law_517 rfl (lv_at hl 0 rfl) ?_
  refine lv_iconst (v := 1) zx zb dL_law_518 (by decide) ?_
  refine r_iadd (v := 1) S (by decide) dL_law_519 ?_
  refine va_sld zx zb hX hbl hbA G.2.2.2.1 (k_vp (by decide)) dL_law_520 ?_
  refine k_it (v := xs 1) rfl ?_
  refine o_wi (cells' := 94) (slots' := 3522) (wr := [(m0, .inr (9, [.ref (w.1 0), .ref (w.1 1), .ref (w.1 2), .ref (w.1 3), .long 0, .long (Int32.toInt64 1), .ref (w.1 4), .ref (w.1 5), .ref (w.1 6), .ref (w.1 7), .ref (w.1 8), .int 0, .int 0, .int 0, .int 0, .int 0, .ref (w.1 9), .ref (w.1 10)])), ((w.1 0), .inl (X.2.1, 371, .inl w.2)), ((w.1 3), .inl (X.2.1, 3, .inl (fun _ => 0)))]) G rfl rfl [0, 1, 2] [3, 4, 5] rfl rfl (by decide) (by decide) (n_V (As := [.int (xs 1)]) (rest := []) (C := RX10) (T := TX10) (N := 14) (ci := 8) S G (c_order l X q0 ([.ref (u 0), .ref (u 16), .ref (u 32), .ref (u 65), .ref (u 66), .ref (u 68), .long (Int32.toInt64 0), .long (Int32.toInt64 1), .ref (u 69), .ref (u 70), .ref (u 71), .ref (u 72), .ref (u 73), .ref (u 74)]) (u 0) ([.int 20, .int 0, .int 0, .ref (u 1), .ref (u 8), .ref (u 10), .ref (u 12), .ref (u 14)]) (u 68) (fun _ => 0) (xs 1) rfl rfl rfl H.size) gL_law_X10_order rfl rfl rfl hdV_X10_order ⟨Nat.le_of_ble_eq_true rfl, Nat.le_of_ble_eq_true rfl⟩ [0, 1, 2] rfl (by decide) 0 rfl rfl rfl hl.1 (Nat.le_of_ble_eq_true rfl) dL_law_521 ⟨Nat.le_of_ble_eq_true rfl, Nat.le_of_ble_eq_true rfl⟩) (fun r_1 u_1 H locs hp_1 G => ?_)
  have G : wd X (fun q : Nat => s.heap.size ≤ q) (fun q : Nat => s.heap.size ≤ q) s [(m0, .inr (9, [.ref (w.1 0), .ref (w.1 1), .ref (w.1 2), .ref (w.1 3), .long 0, .long (Int32.toInt64 1), .ref (w.1 4), .ref (w.1 5), .ref (w.1 6), .ref (w.1 7), .ref (w.1 8), .int 0, .int 0, .int 0, .int 0, .int 0, .ref (w.1 9), .ref (w.1 10)])), ((w.1 0), .inl (X.2.1, 371, .inl w.2)), ((w.1 3), .inl (X.2.1, 3, .inl (fun _ => 0)))] H locs := G
  refine lv_aload_n zx zb dL_law_524 rfl (lv_at hl 1 rfl) ?_
  refine lv_aload_n zx zb dL_law_525 rfl (lv_at hl 3 rfl) ?_
  refine lv_iload_n zx zb dL_law_526 rfl (lv_at hl 0 rfl) ?_
  refine lv_iconst (v := 1) zx zb dL_law_527 (by decide) ?_
  refine r_iadd (v := 1) S (by decide) dL_law_528 ?_
  refine va_sld zx zb hX hbl hbA G.2.2.2.1 (k_vp (by decide)) dL_law_529 ?_
  refine k_it (v := xs 1) rfl ?_
  refine o_wi (cells' := 94) (slots' := 3522) (wr := []) G rfl rfl [0, 1, 2] [] rfl rfl (by decide) (by decide) (n_V (As := [.int (xs 1)]) (rest := [.int r_1]) (C := RX11) (T := TX11) (N := 18) (ci := 9) S G (m_order l X m0 ([.ref (w.1 0), .ref (w.1 1), .ref (w.1 2), .ref (w.1 3), .long 0, .long (Int32.toInt64 1), .ref (w.1 4), .ref (w.1 5), .ref (w.1 6), .ref (w.1 7), .ref (w.1 8), .int 0, .int 0, .int 0, .int 0, .int 0, .ref (w.1 9), .ref (w.1 10)]) (w.1 0) w.2 (w.1 3) (fun _ => 0) (xs 1) rfl rfl (hz 0 (by decide)) H.size) gL_law_X11_order rfl rfl rfl hdV_X11_order ⟨Nat.le_of_ble_eq_true rfl, Nat.le_of_ble_eq_true rfl⟩ [0, 1, 2] rfl (by decide) 0 rfl rfl rfl hl.1 (Nat.le_of_ble_eq_true rfl) dL_law_530 ⟨Nat.le_of_ble_eq_true rfl, Nat.le_of_ble_eq_true rfl⟩) (fun r_2 u_2 H locs hp_2 G => ?_)
  have G : wd X (fun q : Nat => s.heap.size ≤ q) (fun q : Nat => s.heap.size ≤ q) s [] H locs := G
  refine lv_icmp_eq (tgt := 1279) zx zb dL_law_533 (by decide) (fun c_3 => ?_) (fun c_3 => absurd (hp_1.trans hp_2.symm) c_3)
  exact law_end (Nat.le_of_ble_eq_true rfl) (Nat.le_of_ble_eq_true rfl) S hX hbl zr zlk G hl
theorem hdV_X10_best : yX10_best.cls = RX10 ∧ yX10_best.cls ≠ "java/lang/invoke/MethodHandle" ∧ yX10_best.cls ≠ "java/lang/invoke/VarHandle" ∧ (parseMethodDescriptor yX10_best.desc).map (fun d => d.parameters.length) = some 2 := by decide +kernel
theorem hdV_X11_best : yX11_best.cls = RX11 ∧ yX11_best.cls ≠ "java/lang/invoke/MethodHandle" ∧ yX11_best.cls ≠ "java/lang/invoke/VarHandle" ∧ (parseMethodDescriptor yX11_best.desc).map (fun d => d.parameters.length) = some 2 := by decide +kernel
set_option maxRecDepth 100000 in
set_option maxHeartbeats 4000000 in
/-- best -/
theorem law_c14 {p : Program} {l : Launch} {e : Env} {s : State} {m : MethodId} {below : List Frame} {meth : Method} {c : Code} {b : Nat} {xs : Nat → Int32} {X : EX} {q0 m0 : Nat} {u : Nat → Nat} {w : (Nat → Nat) × (Nat → Int32)} (S : CallFix p m c cL_law 4 s #[Value.ref b] wsL_law RL) (hX : va_X b 6 xs s s.heap) (hbl : b < s.heap.size) (zr : meth.sig.returnType = ret) (zlk : meth.locks = false) (hz : ∀ j : Nat, j ≠ 36 → w.2 j = 0) (h36 : w.2 36 = 20) {H : Heap} {locs : List Loc} (G : wd X (fun q : Nat => s.heap.size ≤ q) (fun q : Nat => s.heap.size ≤ q) s (lwW X q0 m0 u w) H locs) {ls : Array Slot} (hl : lv_has ls 4 [(3, .int 0), (2, .ref m0), (1, .ref q0), (0, .ref b)]) : W p l e room_1 s m #[Value.ref b] below meth c H locs 94 3522 (lw_Z below #[Value.ref b] s) (F0 m 538 ls []) := by
  have zx := S.1
  have zb := S.2.1
  have hbA : ¬ (fun q : Nat => s.heap.size ≤ q) b := Nat.not_le.mpr hbl
  have G : wd X (fun q : Nat => s.heap.size ≤ q) (fun q : Nat => s.heap.size ≤ q) s [(q0, .inr (8, [.ref (u 0), .ref (u 16), .ref (u 32), .ref (u 65), .ref (u 66), .ref (u 68), .long (Int32.toInt64 0), .long (Int32.toInt64 1), .ref (u 69), .ref (u 70), .ref (u 71), .ref (u 72), .ref (u 73), .ref (u 74)])), ((u 0), .inr (3, [.int 20, .int 0, .int 0, .ref (u 1), .ref (u 8), .ref (u 10), .ref (u 12), .ref (u 14)])), ((u 68), .inl (X.2.1, 3, .inl (fun _ => 0))), (m0, .inr (9, [.ref (w.1 0), .ref (w.1 1), .ref (w.1 2), .ref (w.1 3), .long 0, .long (Int32.toInt64 1), .ref (w.1 4), .ref (w.1 5), .ref (w.1 6), .ref (w.1 7), .ref (w.1 8), .int 0, .int 0, .int 0, .int 0, .int 0, .ref (w.1 9), .ref (w.1 10)])), ((w.1 0), .inl (X.2.1, 371, .inl w.2)), ((w.1 3), .inl (X.2.1, 3, .inl (fun _ => 0)))] H locs := wd_sub G [0, 1, 61, 62, 63, 66] rfl (by decide)
  refine lv_aload_n zx zb dL_law_538 rfl (lv_at hl 2 rfl) ?_
  refine lv_aload_n zx zb dL_law_539 rfl (lv_at hl 3 rfl) ?_
  refine lv_iload_n zx zb dL_law_540 rfl (lv_at hl 0 rfl) ?_
  refine lv_iconst (v := 1) zx zb dL_law_541 (by decide) ?_
  refine r_iadd (v := 1) S (by decide) dL_law_542 ?_
  refine va_sld zx zb hX hbl hbA G.2.2.2.1 (k_vp (by decide)) dL_law_543 ?_
  refine k_it (v := xs 1) rfl ?_
  refine lv_aload_n zx zb dL_law_544 rfl (lv_at hl 3 rfl) ?_
  refine lv_iload_n zx zb dL_law_545 rfl (lv_at hl 0 rfl) ?_
  refine lv_iconst (v := 2) zx zb dL_law_546 (by decide) ?_
  refine r_iadd (v := 2) S (by decide) dL_law_547 ?_
  refine va_sld zx zb hX hbl hbA G.2.2.2.1 (k_vp (by decide)) dL_law_548 ?_
  refine k_it (v := xs 2) rfl ?_
  refine o_wi (cells' := 94) (slots' := 3522) (wr := [(m0, .inr (9, [.ref (w.1 0), .ref (w.1 1), .ref (w.1 2), .ref (w.1 3), .long 0, .long (Int32.toInt64 1), .ref (w.1 4), .ref (w.1 5), .ref (w.1 6), .ref (w.1 7), .ref (w.1 8), .int 0, .int 0, .int 0, .int 0, .int 0, .ref (w.1 9), .ref (w.1 10)])), ((w.1 0), .inl (X.2.1, 371, .inl w.2)), ((w.1 3), .inl (X.2.1, 3, .inl (fun _ => 0)))]) G rfl rfl [0, 1, 2] [3, 4, 5] rfl rfl (by decide) (by decide) (n_V (As := [.int (xs 1), .int (xs 2)]) (rest := []) (C := RX10) (T := TX10) (N := 14) (ci := 8) S G (c_best l X q0 ([.ref (u 0), .ref (u 16), .ref (u 32), .ref (u 65), .ref (u 66), .ref (u 68), .long (Int32.toInt64 0), .long (Int32.toInt64 1), .ref (u 69), .ref (u 70), .ref (u 71), .ref (u 72), .ref (u 73), .ref (u 74)]) (u 0) ([.int 20, .int 0, .int 0, .ref (u 1), .ref (u 8), .ref (u 10), .ref (u 12), .ref (u 14)]) (u 68) (fun _ => 0) (xs 1) (xs 2) rfl rfl rfl H.size) gL_law_X10_best rfl rfl rfl hdV_X10_best ⟨Nat.le_of_ble_eq_true rfl, Nat.le_of_ble_eq_true rfl⟩ [0, 1, 2] rfl (by decide) 0 rfl rfl rfl hl.1 (Nat.le_of_ble_eq_true rfl) dL_law_549 ⟨Nat.le_of_ble_eq_true rfl, Nat.le_of_ble_eq_true rfl⟩) (fun r_1 u_1 H locs hp_1 G => ?_)
  have G : wd X (fun q : Nat => s.heap.size ≤ q) (fun q : Nat => s.heap.size ≤ q) s [(m0, .inr (9, [.ref (w.1 0), .ref (w.1 1), .ref (w.1 2), .ref (w.1 3), .long 0, .long (Int32.toInt64 1), .ref (w.1 4), .ref (w.1 5), .ref (w.1 6), .ref (w.1 7), .ref (w.1 8), .int 0, .int 0, .int 0, .int 0, .int 0, .ref (w.1 9), .ref (w.1 10)])), ((w.1 0), .inl (X.2.1, 371, .inl w.2)), ((w.1 3), .inl (X.2.1, 3, .inl (fun _ => 0)))] H locs := G
  refine lv_aload_n zx zb dL_law_552 rfl (lv_at hl 1 rfl) ?_
  refine lv_aload_n zx zb dL_law_553 rfl (lv_at hl 3 rfl) ?_
  refine lv_iload_n zx zb dL_law_554 rfl (lv_at hl 0 rfl) ?_
  refine lv_iconst (v := 1) zx zb dL_law_555 (by decide) ?_
  refine r_iadd (v := 1) S (by decide) dL_law_556 ?_
  refine va_sld zx zb hX hbl hbA G.2.2.2.1 (k_vp (by decide)) dL_law_557 ?_
  refine k_it (v := xs 1) rfl ?_
  refine lv_aload_n zx zb dL_law_558 rfl (lv_at hl 3 rfl) ?_
  refine lv_iload_n zx zb dL_law_559 rfl (lv_at hl 0 rfl) ?_
  refine lv_iconst (v := 2) zx zb dL_law_560 (by decide) ?_
  refine r_iadd (v := 2) S (by decide) dL_law_561 ?_
  refine va_sld zx zb hX hbl hbA G.2.2.2.1 (k_vp (by decide)) dL_law_562 ?_
  refine k_it (v := xs 2) rfl ?_
  refine o_wi (cells' := 94) (slots' := 3522) (wr := []) G rfl rfl [0, 1, 2] [] rfl rfl (by decide) (by decide) (n_V (As := [.int (xs 1), .int (xs 2)]) (rest := [.int r_1]) (C := RX11) (T := TX11) (N := 18) (ci := 9) S G (m_best l X m0 ([.ref (w.1 0), .ref (w.1 1), .ref (w.1 2), .ref (w.1 3), .long 0, .long (Int32.toInt64 1), .ref (w.1 4), .ref (w.1 5), .ref (w.1 6), .ref (w.1 7), .ref (w.1 8), .int 0, .int 0, .int 0, .int 0, .int 0, .ref (w.1 9), .ref (w.1 10)]) (w.1 0) w.2 (w.1 3) (fun _ => 0) (xs 1) (xs 2) rfl rfl (hz 0 (by decide)) H.size) gL_law_X11_best rfl rfl rfl hdV_X11_best ⟨Nat.le_of_ble_eq_true rfl, Nat.le_of_ble_eq_true rfl⟩ [0, 1, 2] rfl (by decide) 0 rfl rfl rfl hl.1 (Nat.le_of_ble_eq_true rfl) dL_law_563 ⟨Nat.le_of_ble_eq_true rfl, Nat.le_of_ble_eq_true rfl⟩) (fun r_2 u_2 H locs hp_2 G => ?_)
  have G : wd X (fun q : Nat => s.heap.size ≤ q) (fun q : Nat => s.heap.size ≤ q) s [] H locs := G
  refine lv_icmp_eq (tgt := 1279) zx zb dL_law_566 (by decide) (fun c_3 => ?_) (fun c_3 => absurd (hp_1.trans hp_2.symm) c_3)
  exact law_end (Nat.le_of_ble_eq_true rfl) (Nat.le_of_ble_eq_true rfl) S hX hbl zr zlk G hl
theorem hdV_X10_turn : yX10_turn.cls = RX10 ∧ yX10_turn.cls ≠ "java/lang/invoke/MethodHandle" ∧ yX10_turn.cls ≠ "java/lang/invoke/VarHandle" ∧ (parseMethodDescriptor yX10_turn.desc).map (fun d => d.parameters.length) = some 3 := by decide +kernel
theorem hdV_X11_turn : yX11_turn.cls = RX11 ∧ yX11_turn.cls ≠ "java/lang/invoke/MethodHandle" ∧ yX11_turn.cls ≠ "java/lang/invoke/VarHandle" ∧ (parseMethodDescriptor yX11_turn.desc).map (fun d => d.parameters.length) = some 3 := by decide +kernel
set_option maxRecDepth 100000 in
set_option maxHeartbeats 4000000 in
/-- turn -/
theorem law_c15 {p : Program} {l : Launch} {e : Env} {s : State} {m : MethodId} {below : List Frame} {meth : Method} {c : Code} {b : Nat} {xs : Nat → Int32} {X : EX} {q0 m0 : Nat} {u : Nat → Nat} {w : (Nat → Nat) × (Nat → Int32)} (S : CallFix p m c cL_law 4 s #[Value.ref b] wsL_law RL) (hX : va_X b 6 xs s s.heap) (hbl : b < s.heap.size) (zr : meth.sig.returnType = ret) (zlk : meth.locks = false) (hz : ∀ j : Nat, j ≠ 36 → w.2 j = 0) (h36 : w.2 36 = 20) {H : Heap} {locs : List Loc} (G : wd X (fun q : Nat => s.heap.size ≤ q) (fun q : Nat => s.heap.size ≤ q) s (lwW X q0 m0 u w) H locs) {ls : Array Slot} (hl : lv_has ls 4 [(3, .int 0), (2, .ref m0), (1, .ref q0), (0, .ref b)]) : W p l e room_1 s m #[Value.ref b] below meth c H locs 94 3522 (lw_Z below #[Value.ref b] s) (F0 m 571 ls []) := by
  have zx := S.1
  have zb := S.2.1
  have hbA : ¬ (fun q : Nat => s.heap.size ≤ q) b := Nat.not_le.mpr hbl
  have G : wd X (fun q : Nat => s.heap.size ≤ q) (fun q : Nat => s.heap.size ≤ q) s [(q0, .inr (8, [.ref (u 0), .ref (u 16), .ref (u 32), .ref (u 65), .ref (u 66), .ref (u 68), .long (Int32.toInt64 0), .long (Int32.toInt64 1), .ref (u 69), .ref (u 70), .ref (u 71), .ref (u 72), .ref (u 73), .ref (u 74)])), ((u 0), .inr (3, [.int 20, .int 0, .int 0, .ref (u 1), .ref (u 8), .ref (u 10), .ref (u 12), .ref (u 14)])), ((u 68), .inl (X.2.1, 3, .inl (fun _ => 0))), (m0, .inr (9, [.ref (w.1 0), .ref (w.1 1), .ref (w.1 2), .ref (w.1 3), .long 0, .long (Int32.toInt64 1), .ref (w.1 4), .ref (w.1 5), .ref (w.1 6), .ref (w.1 7), .ref (w.1 8), .int 0, .int 0, .int 0, .int 0, .int 0, .ref (w.1 9), .ref (w.1 10)])), ((w.1 0), .inl (X.2.1, 371, .inl w.2)), ((w.1 3), .inl (X.2.1, 3, .inl (fun _ => 0)))] H locs := wd_sub G [0, 1, 61, 62, 63, 66] rfl (by decide)
  refine lv_aload_n zx zb dL_law_571 rfl (lv_at hl 2 rfl) ?_
  refine lv_aload_n zx zb dL_law_572 rfl (lv_at hl 3 rfl) ?_
  refine lv_iload_n zx zb dL_law_573 rfl (lv_at hl 0 rfl) ?_
  refine lv_iconst (v := 1) zx zb dL_law_574 (by decide) ?_
  refine r_iadd (v := 1) S (by decide) dL_law_575 ?_
  refine va_sld zx zb hX hbl hbA G.2.2.2.1 (k_vp (by decide)) dL_law_576 ?_
  refine k_it (v := xs 1) rfl ?_
  refine lv_aload_n zx zb dL_law_577 rfl (lv_at hl 3 rfl) ?_
  refine lv_iload_n zx zb dL_law_578 rfl (lv_at hl 0 rfl) ?_
  refine lv_iconst (v := 2) zx zb dL_law_579 (by decide) ?_
  refine r_iadd (v := 2) S (by decide) dL_law_580 ?_
  refine va_sld zx zb hX hbl hbA G.2.2.2.1 (k_vp (by decide)) dL_law_581 ?_
  refine k_it (v := xs 2) rfl ?_
  refine lv_aload_n zx zb dL_law_582 rfl (lv_at hl 3 rfl) ?_
  refine lv_iload_n zx zb dL_law_583 rfl (lv_at hl 0 rfl) ?_
  refine lv_iconst (v := 3) zx zb dL_law_584 (by decide) ?_
  refine r_iadd (v := 3) S (by decide) dL_law_585 ?_
  refine va_sld zx zb hX hbl hbA G.2.2.2.1 (k_vp (by decide)) dL_law_586 ?_
  refine k_it (v := xs 3) rfl ?_
  refine o_wi (cells' := 94) (slots' := 3522) (wr := [(m0, .inr (9, [.ref (w.1 0), .ref (w.1 1), .ref (w.1 2), .ref (w.1 3), .long 0, .long (Int32.toInt64 1), .ref (w.1 4), .ref (w.1 5), .ref (w.1 6), .ref (w.1 7), .ref (w.1 8), .int 0, .int 0, .int 0, .int 0, .int 0, .ref (w.1 9), .ref (w.1 10)])), ((w.1 0), .inl (X.2.1, 371, .inl w.2)), ((w.1 3), .inl (X.2.1, 3, .inl (fun _ => 0)))]) G rfl rfl [0, 1, 2] [3, 4, 5] rfl rfl (by decide) (by decide) (n_V (As := [.int (xs 1), .int (xs 2), .int (xs 3)]) (rest := []) (C := RX10) (T := TX10) (N := 14) (ci := 8) S G (c_turn l X q0 ([.ref (u 0), .ref (u 16), .ref (u 32), .ref (u 65), .ref (u 66), .ref (u 68), .long (Int32.toInt64 0), .long (Int32.toInt64 1), .ref (u 69), .ref (u 70), .ref (u 71), .ref (u 72), .ref (u 73), .ref (u 74)]) (u 0) ([.int 20, .int 0, .int 0, .ref (u 1), .ref (u 8), .ref (u 10), .ref (u 12), .ref (u 14)]) (u 68) (fun _ => 0) (xs 1) (xs 2) (xs 3) rfl rfl rfl H.size) gL_law_X10_turn rfl rfl rfl hdV_X10_turn ⟨Nat.le_of_ble_eq_true rfl, Nat.le_of_ble_eq_true rfl⟩ [0, 1, 2] rfl (by decide) 0 rfl rfl rfl hl.1 (Nat.le_of_ble_eq_true rfl) dL_law_587 ⟨Nat.le_of_ble_eq_true rfl, Nat.le_of_ble_eq_true rfl⟩) (fun r_1 u_1 H locs hp_1 G => ?_)
  have G : wd X (fun q : Nat => s.heap.size ≤ q) (fun q : Nat => s.heap.size ≤ q) s [(m0, .inr (9, [.ref (w.1 0), .ref (w.1 1), .ref (w.1 2), .ref (w.1 3), .long 0, .long (Int32.toInt64 1), .ref (w.1 4), .ref (w.1 5), .ref (w.1 6), .ref (w.1 7), .ref (w.1 8), .int 0, .int 0, .int 0, .int 0, .int 0, .ref (w.1 9), .ref (w.1 10)])), ((w.1 0), .inl (X.2.1, 371, .inl w.2)), ((w.1 3), .inl (X.2.1, 3, .inl (fun _ => 0)))] H locs := G
  refine lv_aload_n zx zb dL_law_590 rfl (lv_at hl 1 rfl) ?_
  refine lv_aload_n zx zb dL_law_591 rfl (lv_at hl 3 rfl) ?_
  refine lv_iload_n zx zb dL_law_592 rfl (lv_at hl 0 rfl) ?_
  refine lv_iconst (v := 1) zx zb dL_law_593 (by decide) ?_
  refine r_iadd (v := 1) S (by decide) dL_law_594 ?_
  refine va_sld zx zb hX hbl hbA G.2.2.2.1 (k_vp (by decide)) dL_law_595 ?_
  refine k_it (v := xs 1) rfl ?_
  refine lv_aload_n zx zb dL_law_596 rfl (lv_at hl 3 rfl) ?_
  refine lv_iload_n zx zb dL_law_597 rfl (lv_at hl 0 rfl) ?_
  refine lv_iconst (v := 2) zx zb dL_law_598 (by decide) ?_
  refine r_iadd (v := 2) S (by decide) dL_law_599 ?_
  refine va_sld zx zb hX hbl hbA G.2.2.2.1 (k_vp (by decide)) dL_law_600 ?_
  refine k_it (v := xs 2) rfl ?_
  refine lv_aload_n zx zb dL_law_601 rfl (lv_at hl 3 rfl) ?_
  refine lv_iload_n zx zb dL_law_602 rfl (lv_at hl 0 rfl) ?_
  refine lv_iconst (v := 3) zx zb dL_law_603 (by decide) ?_
  refine r_iadd (v := 3) S (by decide) dL_law_604 ?_
  refine va_sld zx zb hX hbl hbA G.2.2.2.1 (k_vp (by decide)) dL_law_605 ?_
  refine k_it (v := xs 3) rfl ?_
  refine o_wi (cells' := 94) (slots' := 3522) (wr := []) G rfl rfl [0, 1, 2] [] rfl rfl (by decide) (by decide) (n_V (As := [.int (xs 1), .int (xs 2), .int (xs 3)]) (rest := [.int r_1]) (C := RX11) (T := TX11) (N := 18) (ci := 9) S G (m_turn l X m0 ([.ref (w.1 0), .ref (w.1 1), .ref (w.1 2), .ref (w.1 3), .long 0, .long (Int32.toInt64 1), .ref (w.1 4), .ref (w.1 5), .ref (w.1 6), .ref (w.1 7), .ref (w.1 8), .int 0, .int 0, .int 0, .int 0, .int 0, .ref (w.1 9), .ref (w.1 10)]) (w.1 0) w.2 (w.1 3) (fun _ => 0) (xs 1) (xs 2) (xs 3) rfl rfl (hz 0 (by decide)) H.size) gL_law_X11_turn rfl rfl rfl hdV_X11_turn ⟨Nat.le_of_ble_eq_true rfl, Nat.le_of_ble_eq_true rfl⟩ [0, 1, 2] rfl (by decide) 0 rfl rfl rfl hl.1 (Nat.le_of_ble_eq_true rfl) dL_law_606 ⟨Nat.le_of_ble_eq_true rfl, Nat.le_of_ble_eq_true rfl⟩) (fun r_2 u_2 H locs hp_2 G => ?_)
  have G : wd X (fun q : Nat => s.heap.size ≤ q) (fun q : Nat => s.heap.size ≤ q) s [] H locs := G
  refine lv_icmp_eq (tgt := 1279) zx zb dL_law_609 (by decide) (fun c_3 => ?_) (fun c_3 => absurd (hp_1.trans hp_2.symm) c_3)
  exact law_end (Nat.le_of_ble_eq_true rfl) (Nat.le_of_ble_eq_true rfl) S hX hbl zr zlk G hl
theorem hdV_X10_beats : yX10_beats.cls = RX10 ∧ yX10_beats.cls ≠ "java/lang/invoke/MethodHandle" ∧ yX10_beats.cls ≠ "java/lang/invoke/VarHandle" ∧ (parseMethodDescriptor yX10_beats.desc).map (fun d => d.parameters.length) = some 2 := by decide +kernel
theorem hdV_X11_beats : yX11_beats.cls = RX11 ∧ yX11_beats.cls ≠ "java/lang/invoke/MethodHandle" ∧ yX11_beats.cls ≠ "java/lang/invoke/VarHandle" ∧ (parseMethodDescriptor yX11_beats.desc).map (fun d => d.parameters.length) = some 2 := by decide +kernel
set_option maxRecDepth 100000 in
set_option maxHeartbeats 4000000 in
/-- beats -/
theorem law_c16 {p : Program} {l : Launch} {e : Env} {s : State} {m : MethodId} {below : List Frame} {meth : Method} {c : Code} {b : Nat} {xs : Nat → Int32} {X : EX} {q0 m0 : Nat} {u : Nat → Nat} {w : (Nat → Nat) × (Nat → Int32)} (S : CallFix p m c cL_law 4 s #[Value.ref b] wsL_law RL) (hX : va_X b 6 xs s s.heap) (hbl : b < s.heap.size) (zr : meth.sig.returnType = ret) (zlk : meth.locks = false) (hz : ∀ j : Nat, j ≠ 36 → w.2 j = 0) (h36 : w.2 36 = 20) {H : Heap} {locs : List Loc} (G : wd X (fun q : Nat => s.heap.size ≤ q) (fun q : Nat => s.heap.size ≤ q) s (lwW X q0 m0 u w) H locs) {ls : Array Slot} (hl : lv_has ls 4 [(3, .int 0), (2, .ref m0), (1, .ref q0), (0, .ref b)]) : W p l e room_1 s m #[Value.ref b] below meth c H locs 94 3522 (lw_Z below #[Value.ref b] s) (F0 m 614 ls []) := by
  have zx := S.1
  have zb := S.2.1
  have hbA : ¬ (fun q : Nat => s.heap.size ≤ q) b := Nat.not_le.mpr hbl
  have G : wd X (fun q : Nat => s.heap.size ≤ q) (fun q : Nat => s.heap.size ≤ q) s [(q0, .inr (8, [.ref (u 0), .ref (u 16), .ref (u 32), .ref (u 65), .ref (u 66), .ref (u 68), .long (Int32.toInt64 0), .long (Int32.toInt64 1), .ref (u 69), .ref (u 70), .ref (u 71), .ref (u 72), .ref (u 73), .ref (u 74)])), ((u 0), .inr (3, [.int 20, .int 0, .int 0, .ref (u 1), .ref (u 8), .ref (u 10), .ref (u 12), .ref (u 14)])), ((u 68), .inl (X.2.1, 3, .inl (fun _ => 0))), (m0, .inr (9, [.ref (w.1 0), .ref (w.1 1), .ref (w.1 2), .ref (w.1 3), .long 0, .long (Int32.toInt64 1), .ref (w.1 4), .ref (w.1 5), .ref (w.1 6), .ref (w.1 7), .ref (w.1 8), .int 0, .int 0, .int 0, .int 0, .int 0, .ref (w.1 9), .ref (w.1 10)])), ((w.1 0), .inl (X.2.1, 371, .inl w.2)), ((w.1 3), .inl (X.2.1, 3, .inl (fun _ => 0)))] H locs := wd_sub G [0, 1, 61, 62, 63, 66] rfl (by decide)
  refine lv_aload_n zx zb dL_law_614 rfl (lv_at hl 2 rfl) ?_
  refine lv_aload_n zx zb dL_law_615 rfl (lv_at hl 3 rfl) ?_
  refine lv_iload_n zx zb dL_law_616 rfl (lv_at hl 0 rfl) ?_
  refine lv_iconst (v := 1) zx zb dL_law_617 (by decide) ?_
  refine r_iadd (v := 1) S (by decide) dL_law_618 ?_
  refine va_sld zx zb hX hbl hbA G.2.2.2.1 (k_vp (by decide)) dL_law_619 ?_
  refine k_it (v := xs 1) rfl ?_
  refine lv_aload_n zx zb dL_law_620 rfl (lv_at hl 3 rfl) ?_
  refine lv_iload_n zx zb dL_law_621 rfl (lv_at hl 0 rfl) ?_
  refine lv_iconst (v := 2) zx zb dL_law_622 (by decide) ?_
  refine r_iadd (v := 2) S (by decide) dL_law_623 ?_
  refine va_sld zx zb hX hbl hbA G.2.2.2.1 (k_vp (by decide)) dL_law_624 ?_
  refine k_it (v := xs 2) rfl ?_
  refine o_wi (cells' := 94) (slots' := 3522) (wr := [(m0, .inr (9, [.ref (w.1 0), .ref (w.1 1), .ref (w.1 2), .ref (w.1 3), .long 0, .long (Int32.toInt64 1), .ref (w.1 4), .ref (w.1 5), .ref (w.1 6), .ref (w.1 7), .ref (w.1 8), .int 0, .int 0, .int 0, .int 0, .int 0, .ref (w.1 9), .ref (w.1 10)])), ((w.1 0), .inl (X.2.1, 371, .inl w.2)), ((w.1 3), .inl (X.2.1, 3, .inl (fun _ => 0)))]) G rfl rfl [0, 1, 2] [3, 4, 5] rfl rfl (by decide) (by decide) (n_V (As := [.int (xs 1), .int (xs 2)]) (rest := []) (C := RX10) (T := TX10) (N := 14) (ci := 8) S G (c_beats l X q0 ([.ref (u 0), .ref (u 16), .ref (u 32), .ref (u 65), .ref (u 66), .ref (u 68), .long (Int32.toInt64 0), .long (Int32.toInt64 1), .ref (u 69), .ref (u 70), .ref (u 71), .ref (u 72), .ref (u 73), .ref (u 74)]) (u 0) ([.int 20, .int 0, .int 0, .ref (u 1), .ref (u 8), .ref (u 10), .ref (u 12), .ref (u 14)]) (u 68) (fun _ => 0) (xs 1) (xs 2) rfl rfl rfl H.size) gL_law_X10_beats rfl rfl rfl hdV_X10_beats ⟨Nat.le_of_ble_eq_true rfl, Nat.le_of_ble_eq_true rfl⟩ [0, 1, 2] rfl (by decide) 0 rfl rfl rfl hl.1 (Nat.le_of_ble_eq_true rfl) dL_law_625 ⟨Nat.le_of_ble_eq_true rfl, Nat.le_of_ble_eq_true rfl⟩) (fun r_1 u_1 H locs hp_1 G => ?_)
  have G : wd X (fun q : Nat => s.heap.size ≤ q) (fun q : Nat => s.heap.size ≤ q) s [(m0, .inr (9, [.ref (w.1 0), .ref (w.1 1), .ref (w.1 2), .ref (w.1 3), .long 0, .long (Int32.toInt64 1), .ref (w.1 4), .ref (w.1 5), .ref (w.1 6), .ref (w.1 7), .ref (w.1 8), .int 0, .int 0, .int 0, .int 0, .int 0, .ref (w.1 9), .ref (w.1 10)])), ((w.1 0), .inl (X.2.1, 371, .inl w.2)), ((w.1 3), .inl (X.2.1, 3, .inl (fun _ => 0)))] H locs := G
  refine lv_aload_n zx zb dL_law_628 rfl (lv_at hl 1 rfl) ?_
  refine lv_aload_n zx zb dL_law_629 rfl (lv_at hl 3 rfl) ?_
  refine lv_iload_n zx zb dL_law_630 rfl (lv_at hl 0 rfl) ?_
  refine lv_iconst (v := 1) zx zb dL_law_631 (by decide) ?_
  refine r_iadd (v := 1) S (by decide) dL_law_632 ?_
  refine va_sld zx zb hX hbl hbA G.2.2.2.1 (k_vp (by decide)) dL_law_633 ?_
  refine k_it (v := xs 1) rfl ?_
  refine lv_aload_n zx zb dL_law_634 rfl (lv_at hl 3 rfl) ?_
  refine lv_iload_n zx zb dL_law_635 rfl (lv_at hl 0 rfl) ?_
  refine lv_iconst (v := 2) zx zb dL_law_636 (by decide) ?_
  refine r_iadd (v := 2) S (by decide) dL_law_637 ?_
  refine va_sld zx zb hX hbl hbA G.2.2.2.1 (k_vp (by decide)) dL_law_638 ?_
  refine k_it (v := xs 2) rfl ?_
  refine o_wi (cells' := 94) (slots' := 3522) (wr := []) G rfl rfl [0, 1, 2] [] rfl rfl (by decide) (by decide) (n_V (As := [.int (xs 1), .int (xs 2)]) (rest := [.int r_1]) (C := RX11) (T := TX11) (N := 18) (ci := 9) S G (m_beats l X m0 ([.ref (w.1 0), .ref (w.1 1), .ref (w.1 2), .ref (w.1 3), .long 0, .long (Int32.toInt64 1), .ref (w.1 4), .ref (w.1 5), .ref (w.1 6), .ref (w.1 7), .ref (w.1 8), .int 0, .int 0, .int 0, .int 0, .int 0, .ref (w.1 9), .ref (w.1 10)]) (w.1 0) w.2 (w.1 3) (fun _ => 0) (xs 1) (xs 2) rfl rfl (hz 0 (by decide)) H.size) gL_law_X11_beats rfl rfl rfl hdV_X11_beats ⟨Nat.le_of_ble_eq_true rfl, Nat.le_of_ble_eq_true rfl⟩ [0, 1, 2] rfl (by decide) 0 rfl rfl rfl hl.1 (Nat.le_of_ble_eq_true rfl) dL_law_639 ⟨Nat.le_of_ble_eq_true rfl, Nat.le_of_ble_eq_true rfl⟩) (fun r_2 u_2 H locs hp_2 G => ?_)
  have G : wd X (fun q : Nat => s.heap.size ≤ q) (fun q : Nat => s.heap.size ≤ q) s [] H locs := G
  refine lv_icmp_eq (tgt := 1279) zx zb dL_law_642 (by decide) (fun c_3 => ?_) (fun c_3 => absurd (hp_1.trans hp_2.symm) c_3)
  exact law_end (Nat.le_of_ble_eq_true rfl) (Nat.le_of_ble_eq_true rfl) S hX hbl zr zlk G hl
theorem hdV_X10_close : yX10_close.cls = RX10 ∧ yX10_close.cls ≠ "java/lang/invoke/MethodHandle" ∧ yX10_close.cls ≠ "java/lang/invoke/VarHandle" ∧ (parseMethodDescriptor yX10_close.desc).map (fun d => d.parameters.length) = some 3 := by decide +kernel
theorem hdV_X11_close : yX11_close.cls = RX11 ∧ yX11_close.cls ≠ "java/lang/invoke/MethodHandle" ∧ yX11_close.cls ≠ "java/lang/invoke/VarHandle" ∧ (parseMethodDescriptor yX11_close.desc).map (fun d => d.parameters.length) = some 3 := by decide +kernel
set_option maxRecDepth 100000 in
set_option maxHeartbeats 4000000 in
/-- close -/
theorem law_c17 {p : Program} {l : Launch} {e : Env} {s : State} {m : MethodId} {below : List Frame} {meth : Method} {c : Code} {b : Nat} {xs : Nat → Int32} {X : EX} {q0 m0 : Nat} {u : Nat → Nat} {w : (Nat → Nat) × (Nat → Int32)} (S : CallFix p m c cL_law 4 s #[Value.ref b] wsL_law RL) (hX : va_X b 6 xs s s.heap) (hbl : b < s.heap.size) (zr : meth.sig.returnType = ret) (zlk : meth.locks = false) (hz : ∀ j : Nat, j ≠ 36 → w.2 j = 0) (h36 : w.2 36 = 20) {H : Heap} {locs : List Loc} (G : wd X (fun q : Nat => s.heap.size ≤ q) (fun q : Nat => s.heap.size ≤ q) s (lwW X q0 m0 u w) H locs) {ls : Array Slot} (hl : lv_has ls 4 [(3, .int 0), (2, .ref m0), (1, .ref q0), (0, .ref b)]) : W p l e room_1 s m #[Value.ref b] below meth c H locs 94 3522 (lw_Z below #[Value.ref b] s) (F0 m 647 ls []) := by
  have zx := S.1
  have zb := S.2.1
  have hbA : ¬ (fun q : Nat => s.heap.size ≤ q) b := Nat.not_le.mpr hbl
  have G : wd X (fun q : Nat => s.heap.size ≤ q) (fun q : Nat => s.heap.size ≤ q) s [(q0, .inr (8, [.ref (u 0), .ref (u 16), .ref (u 32), .ref (u 65), .ref (u 66), .ref (u 68), .long (Int32.toInt64 0), .long (Int32.toInt64 1), .ref (u 69), .ref (u 70), .ref (u 71), .ref (u 72), .ref (u 73), .ref (u 74)])), ((u 0), .inr (3, [.int 20, .int 0, .int 0, .ref (u 1), .ref (u 8), .ref (u 10), .ref (u 12), .ref (u 14)])), ((u 68), .inl (X.2.1, 3, .inl (fun _ => 0))), (m0, .inr (9, [.ref (w.1 0), .ref (w.1 1), .ref (w.1 2), .ref (w.1 3), .long 0, .long (Int32.toInt64 1), .ref (w.1 4), .ref (w.1 5), .ref (w.1 6), .ref (w.1 7), .ref (w.1 8), .int 0, .int 0, .int 0, .int 0, .int 0, .ref (w.1 9), .ref (w.1 10)])), ((w.1 0), .inl (X.2.1, 371, .inl w.2)), ((w.1 3), .inl (X.2.1, 3, .inl (fun _ => 0)))] H locs := wd_sub G [0, 1, 61, 62, 63, 66] rfl (by decide)
  refine lv_aload_n zx zb dL_law_647 rfl (lv_at hl 2 rfl) ?_
  refine lv_aload_n zx zb dL_law_648 rfl (lv_at hl 3 rfl) ?_
  refine lv_iload_n zx zb dL_law_649 rfl (lv_at hl 0 rfl) ?_
  refine lv_iconst (v := 1) zx zb dL_law_650 (by decide) ?_
  refine r_iadd (v := 1) S (by decide) dL_law_651 ?_
  refine va_sld zx zb hX hbl hbA G.2.2.2.1 (k_vp (by decide)) dL_law_652 ?_
  refine k_it (v := xs 1) rfl ?_
  refine lv_aload_n zx zb dL_law_653 rfl (lv_at hl 3 rfl) ?_
  refine lv_iload_n zx zb dL_law_654 rfl (lv_at hl 0 rfl) ?_
  refine lv_iconst (v := 2) zx zb dL_law_655 (by decide) ?_
  refine r_iadd (v := 2) S (by decide) dL_law_656 ?_
  refine va_sld zx zb hX hbl hbA G.2.2.2.1 (k_vp (by decide)) dL_law_657 ?_
  refine k_it (v := xs 2) rfl ?_
  refine lv_aload_n zx zb dL_law_658 rfl (lv_at hl 3 rfl) ?_
  refine lv_iload_n zx zb dL_law_659 rfl (lv_at hl 0 rfl) ?_
  refine lv_iconst (v := 3) zx zb dL_law_660 (by decide) ?_
  refine r_iadd (v := 3) S (by decide) dL_law_661 ?_
  refine va_sld zx zb hX hbl hbA G.2.2.2.1 (k_vp (by decide)) dL_law_662 ?_
  refine k_it (v := xs 3) rfl ?_
  refine o_wi (cells' := 94) (slots' := 3522) (wr := [(m0, .inr (9, [.ref (w.1 0), .ref (w.1 1), .ref (w.1 2), .ref (w.1 3), .long 0, .long (Int32.toInt64 1), .ref (w.1 4), .ref (w.1 5), .ref (w.1 6), .ref (w.1 7), .ref (w.1 8), .int 0, .int 0, .int 0, .int 0, .int 0, .ref (w.1 9), .ref (w.1 10)])), ((w.1 0), .inl (X.2.1, 371, .inl w.2)), ((w.1 3), .inl (X.2.1, 3, .inl (fun _ => 0)))]) G rfl rfl [0, 1, 2] [3, 4, 5] rfl rfl (by decide) (by decide) (n_V (As := [.int (xs 1), .int (xs 2), .int (xs 3)]) (rest := []) (C := RX10) (T := TX10) (N := 14) (ci := 8) S G (c_close l X q0 ([.ref (u 0), .ref (u 16), .ref (u 32), .ref (u 65), .ref (u 66), .ref (u 68), .long (Int32.toInt64 0), .long (Int32.toInt64 1), .ref (u 69), .ref (u 70), .ref (u 71), .ref (u 72), .ref (u 73), .ref (u 74)]) (u 0) ([.int 20, .int 0, .int 0, .ref (u 1), .ref (u 8), .ref (u 10), .ref (u 12), .ref (u 14)]) (u 68) (fun _ => 0) (xs 1) (xs 2) (xs 3) rfl rfl rfl H.size) gL_law_X10_close rfl rfl rfl hdV_X10_close ⟨Nat.le_of_ble_eq_true rfl, Nat.le_of_ble_eq_true rfl⟩ [0, 1, 2] rfl (by decide) 0 rfl rfl rfl hl.1 (Nat.le_of_ble_eq_true rfl) dL_law_663 ⟨Nat.le_of_ble_eq_true rfl, Nat.le_of_ble_eq_true rfl⟩) (fun r_1 u_1 H locs hp_1 G => ?_)
  have G : wd X (fun q : Nat => s.heap.size ≤ q) (fun q : Nat => s.heap.size ≤ q) s [(m0, .inr (9, [.ref (w.1 0), .ref (w.1 1), .ref (w.1 2), .ref (w.1 3), .long 0, .long (Int32.toInt64 1), .ref (w.1 4), .ref (w.1 5), .ref (w.1 6), .ref (w.1 7), .ref (w.1 8), .int 0, .int 0, .int 0, .int 0, .int 0, .ref (w.1 9), .ref (w.1 10)])), ((w.1 0), .inl (X.2.1, 371, .inl w.2)), ((w.1 3), .inl (X.2.1, 3, .inl (fun _ => 0)))] H locs := G
  refine lv_aload_n zx zb dL_law_666 rfl (lv_at hl 1 rfl) ?_
  refine lv_aload_n zx zb dL_law_667 rfl (lv_at hl 3 rfl) ?_
  refine lv_iload_n zx zb dL_law_668 rfl (lv_at hl 0 rfl) ?_
  refine lv_iconst (v := 1) zx zb dL_law_669 (by decide) ?_
  refine r_iadd (v := 1) S (by decide) dL_law_670 ?_
  refine va_sld zx zb hX hbl hbA G.2.2.2.1 (k_vp (by decide)) dL_law_671 ?_
  refine k_it (v := xs 1) rfl ?_
  refine lv_aload_n zx zb dL_law_672 rfl (lv_at hl 3 rfl) ?_
  refine lv_iload_n zx zb dL_law_673 rfl (lv_at hl 0 rfl) ?_
  refine lv_iconst (v := 2) zx zb dL_law_674 (by decide) ?_
  refine r_iadd (v := 2) S (by decide) dL_law_675 ?_
  refine va_sld zx zb hX hbl hbA G.2.2.2.1 (k_vp (by decide)) dL_law_676 ?_
  refine k_it (v := xs 2) rfl ?_
  refine lv_aload_n zx zb dL_law_677 rfl (lv_at hl 3 rfl) ?_
  refine lv_iload_n zx zb dL_law_678 rfl (lv_at hl 0 rfl) ?_
  refine lv_iconst (v := 3) zx zb dL_law_679 (by decide) ?_
  refine r_iadd (v := 3) S (by decide) dL_law_680 ?_
  refine va_sld zx zb hX hbl hbA G.2.2.2.1 (k_vp (by decide)) dL_law_681 ?_
  refine k_it (v := xs 3) rfl ?_
  refine o_wi (cells' := 94) (slots' := 3522) (wr := []) G rfl rfl [0, 1, 2] [] rfl rfl (by decide) (by decide) (n_V (As := [.int (xs 1), .int (xs 2), .int (xs 3)]) (rest := [.int r_1]) (C := RX11) (T := TX11) (N := 18) (ci := 9) S G (m_close l X m0 ([.ref (w.1 0), .ref (w.1 1), .ref (w.1 2), .ref (w.1 3), .long 0, .long (Int32.toInt64 1), .ref (w.1 4), .ref (w.1 5), .ref (w.1 6), .ref (w.1 7), .ref (w.1 8), .int 0, .int 0, .int 0, .int 0, .int 0, .ref (w.1 9), .ref (w.1 10)]) (w.1 0) w.2 (w.1 3) (fun _ => 0) (xs 1) (xs 2) (xs 3) rfl rfl (hz 0 (by decide)) H.size) gL_law_X11_close rfl rfl rfl hdV_X11_close ⟨Nat.le_of_ble_eq_true rfl, Nat.le_of_ble_eq_true rfl⟩ [0, 1, 2] rfl (by decide) 0 rfl rfl rfl hl.1 (Nat.le_of_ble_eq_true rfl) dL_law_682 ⟨Nat.le_of_ble_eq_true rfl, Nat.le_of_ble_eq_true rfl⟩) (fun r_2 u_2 H locs hp_2 G => ?_)
  have G : wd X (fun q : Nat => s.heap.size ≤ q) (fun q : Nat => s.heap.size ≤ q) s [] H locs := G
  refine lv_icmp_eq (tgt := 1279) zx zb dL_law_685 (by decide) (fun c_3 => ?_) (fun c_3 => absurd (hp_1.trans hp_2.symm) c_3)
  exact law_end (Nat.le_of_ble_eq_true rfl) (Nat.le_of_ble_eq_true rfl) S hX hbl zr zlk G hl
theorem hdV_X10_seen : yX10_seen.cls = RX10 ∧ yX10_seen.cls ≠ "java/lang/invoke/MethodHandle" ∧ yX10_seen.cls ≠ "java/lang/invoke/VarHandle" ∧ (parseMethodDescriptor yX10_seen.desc).map (fun d => d.parameters.length) = some 4 := by decide +kernel
