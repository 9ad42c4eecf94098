theorem hdV_X11_seen : yX11_seen.cls = RX11 ∧ yX11_seen.cls ≠ "java/lang/invoke/MethodHandle" ∧ yX11_seen.cls ≠ "java/lang/invoke/VarHandle" ∧ (parseMethodDescriptor yX11_seen.desc).map (fun d => d.parameters.length) = some 4 := by decide +kernel
set_option maxRecDepth 100000 in
set_option maxHeartbeats 4000000 in
/-- seen -/
theorem law_c18 {p : Program} {l : Launch} {e : Env} {s : State} {m : MethodId} {below : List Frame} {meth : Method} {c : Code} {b : Nat} {xs : Nat → Int32} {X : EX} {q0 m0 : Nat} {u : Nat → Nat} {w : (Nat → Nat) × (Nat → Int32)} (S : CallFix p m c cL_law 4 s #[Value.ref b] wsL_law RL) (hX : va_X b 6 xs s s.heap) (hbl : b < s.heap.size) (zr : meth.sig.returnType = ret) (zlk : meth.locks = false) (hz : ∀ j : Nat, j ≠ 36 → w.2 j = 0) (h36 : w.2 36 = 20) {H : Heap} {locs : List Loc} (G : wd X (fun q : Nat => s.heap.size ≤ q) (fun q : Nat => s.heap.size ≤ q) s (lwW X q0 m0 u w) H locs) {ls : Array Slot} (hl : lv_has ls 4 [(3, .int 0), (2, .ref m0), (1, .ref q0), (0, .ref b)]) : W p l e room_1 s m #[Value.ref b] below meth c H locs 94 3522 (lw_Z below #[Value.ref b] s) (F0 m 690 ls []) := by
  have zx := S.1
  have zb := S.2.1
  have hbA : ¬ (fun q : Nat => s.heap.size ≤ q) b := Nat.not_le.mpr hbl
  have G : wd X (fun q : Nat => s.heap.size ≤ q) (fun q : Nat => s.heap.size ≤ q) s [(q0, .inr (8, [.ref (u 0), .ref (u 16), .ref (u 32), .ref (u 65), .ref (u 66), .ref (u 68), .long (Int32.toInt64 0), .long (Int32.toInt64 1), .ref (u 69), .ref (u 70), .ref (u 71), .ref (u 72), .ref (u 73), .ref (u 74)])), ((u 0), .inr (3, [.int 20, .int 0, .int 0, .ref (u 1), .ref (u 8), .ref (u 10), .ref (u 12), .ref (u 14)])), ((u 68), .inl (X.2.1, 3, .inl (fun _ => 0))), (m0, .inr (9, [.ref (w.1 0), .ref (w.1 1), .ref (w.1 2), .ref (w.1 3), .long 0, .long (Int32.toInt64 1), .ref (w.1 4), .ref (w.1 5), .ref (w.1 6), .ref (w.1 7), .ref (w.1 8), .int 0, .int 0, .int 0, .int 0, .int 0, .ref (w.1 9), .ref (w.1 10)])), ((w.1 0), .inl (X.2.1, 371, .inl w.2)), ((w.1 3), .inl (X.2.1, 3, .inl (fun _ => 0)))] H locs := wd_sub G [0, 1, 61, 62, 63, 66] rfl (by decide)
  refine lv_aload_n zx zb dL_law_690 rfl (lv_at hl 2 rfl) ?_
  refine lv_aload_n zx zb dL_law_691 rfl (lv_at hl 3 rfl) ?_
  refine lv_iload_n zx zb dL_law_692 rfl (lv_at hl 0 rfl) ?_
  refine lv_iconst (v := 1) zx zb dL_law_693 (by decide) ?_
  refine r_iadd (v := 1) S (by decide) dL_law_694 ?_
  refine va_sld zx zb hX hbl hbA G.2.2.2.1 (k_vp (by decide)) dL_law_695 ?_
  refine k_it (v := xs 1) rfl ?_
  refine lv_aload_n zx zb dL_law_696 rfl (lv_at hl 3 rfl) ?_
  refine lv_iload_n zx zb dL_law_697 rfl (lv_at hl 0 rfl) ?_
  refine lv_iconst (v := 2) zx zb dL_law_698 (by decide) ?_
  refine r_iadd (v := 2) S (by decide) dL_law_699 ?_
  refine va_sld zx zb hX hbl hbA G.2.2.2.1 (k_vp (by decide)) dL_law_700 ?_
  refine k_it (v := xs 2) rfl ?_
  refine lv_aload_n zx zb dL_law_701 rfl (lv_at hl 3 rfl) ?_
  refine lv_iload_n zx zb dL_law_702 rfl (lv_at hl 0 rfl) ?_
  refine lv_iconst (v := 3) zx zb dL_law_703 (by decide) ?_
  refine r_iadd (v := 3) S (by decide) dL_law_704 ?_
  refine va_sld zx zb hX hbl hbA G.2.2.2.1 (k_vp (by decide)) dL_law_705 ?_
  refine k_it (v := xs 3) rfl ?_
  refine lv_aload_n zx zb dL_law_706 rfl (lv_at hl 3 rfl) ?_
  refine lv_iload_n zx zb dL_law_707 rfl (lv_at hl 0 rfl) ?_
  refine lv_iconst (v := 4) zx zb dL_law_708 (by decide) ?_
  refine r_iadd (v := 4) S (by decide) dL_law_709 ?_
  refine va_sld zx zb hX hbl hbA G.2.2.2.1 (k_vp (by decide)) dL_law_710 ?_
  refine k_it (v := xs 4) rfl ?_
  refine o_wi (cells' := 94) (slots' := 3522) (wr := [(m0, .inr (9, [.ref (w.1 0), .ref (w.1 1), .ref (w.1 2), .ref (w.1 3), .long 0, .long (Int32.toInt64 1), .ref (w.1 4), .ref (w.1 5), .ref (w.1 6), .ref (w.1 7), .ref (w.1 8), .int 0, .int 0, .int 0, .int 0, .int 0, .ref (w.1 9), .ref (w.1 10)])), ((w.1 0), .inl (X.2.1, 371, .inl w.2)), ((w.1 3), .inl (X.2.1, 3, .inl (fun _ => 0)))]) G rfl rfl [0, 1, 2] [3, 4, 5] rfl rfl (by decide) (by decide) (n_V (As := [.int (xs 1), .int (xs 2), .int (xs 3), .int (xs 4)]) (rest := []) (C := RX10) (T := TX10) (N := 14) (ci := 8) S G (c_seen l X q0 ([.ref (u 0), .ref (u 16), .ref (u 32), .ref (u 65), .ref (u 66), .ref (u 68), .long (Int32.toInt64 0), .long (Int32.toInt64 1), .ref (u 69), .ref (u 70), .ref (u 71), .ref (u 72), .ref (u 73), .ref (u 74)]) (u 0) ([.int 20, .int 0, .int 0, .ref (u 1), .ref (u 8), .ref (u 10), .ref (u 12), .ref (u 14)]) (u 68) (fun _ => 0) (xs 1) (xs 2) (xs 3) (xs 4) rfl rfl rfl H.size) gL_law_X10_seen rfl rfl rfl hdV_X10_seen ⟨Nat.le_of_ble_eq_true rfl, Nat.le_of_ble_eq_true rfl⟩ [0, 1, 2] rfl (by decide) 0 rfl rfl rfl hl.1 (Nat.le_of_ble_eq_true rfl) dL_law_711 ⟨Nat.le_of_ble_eq_true rfl, Nat.le_of_ble_eq_true rfl⟩) (fun r_1 u_1 H locs hp_1 G => ?_)
  have G : wd X (fun q : Nat => s.heap.size ≤ q) (fun q : Nat => s.heap.size ≤ q) s [(m0, .inr (9, [.ref (w.1 0), .ref (w.1 1), .ref (w.1 2), .ref (w.1 3), .long 0, .long (Int32.toInt64 1), .ref (w.1 4), .ref (w.1 5), .ref (w.1 6), .ref (w.1 7), .ref (w.1 8), .int 0, .int 0, .int 0, .int 0, .int 0, .ref (w.1 9), .ref (w.1 10)])), ((w.1 0), .inl (X.2.1, 371, .inl w.2)), ((w.1 3), .inl (X.2.1, 3, .inl (fun _ => 0)))] H locs := G
  refine lv_aload_n zx zb dL_law_714 rfl (lv_at hl 1 rfl) ?_
  refine lv_aload_n zx zb dL_law_715 rfl (lv_at hl 3 rfl) ?_
  refine lv_iload_n zx zb dL_law_716 rfl (lv_at hl 0 rfl) ?_
  refine lv_iconst (v := 1) zx zb dL_law_717 (by decide) ?_
  refine r_iadd (v := 1) S (by decide) dL_law_718 ?_
  refine va_sld zx zb hX hbl hbA G.2.2.2.1 (k_vp (by decide)) dL_law_719 ?_
  refine k_it (v := xs 1) rfl ?_
  refine lv_aload_n zx zb dL_law_720 rfl (lv_at hl 3 rfl) ?_
  refine lv_iload_n zx zb dL_law_721 rfl (lv_at hl 0 rfl) ?_
  refine lv_iconst (v := 2) zx zb dL_law_722 (by decide) ?_
  refine r_iadd (v := 2) S (by decide) dL_law_723 ?_
  refine va_sld zx zb hX hbl hbA G.2.2.2.1 (k_vp (by decide)) dL_law_724 ?_
  refine k_it (v := xs 2) rfl ?_
  refine lv_aload_n zx zb dL_law_725 rfl (lv_at hl 3 rfl) ?_
  refine lv_iload_n zx zb dL_law_726 rfl (lv_at hl 0 rfl) ?_
  refine lv_iconst (v := 3) zx zb dL_law_727 (by decide) ?_
  refine r_iadd (v := 3) S (by decide) dL_law_728 ?_
  refine va_sld zx zb hX hbl hbA G.2.2.2.1 (k_vp (by decide)) dL_law_729 ?_
  refine k_it (v := xs 3) rfl ?_
  refine lv_aload_n zx zb dL_law_730 rfl (lv_at hl 3 rfl) ?_
  refine lv_iload_n zx zb dL_law_731 rfl (lv_at hl 0 rfl) ?_
  refine lv_iconst (v := 4) zx zb dL_law_732 (by decide) ?_
  refine r_iadd (v := 4) S (by decide) dL_law_733 ?_
  refine va_sld zx zb hX hbl hbA G.2.2.2.1 (k_vp (by decide)) dL_law_734 ?_
  refine k_it (v := xs 4) rfl ?_
  refine o_wi (cells' := 94) (slots' := 3522) (wr := []) G rfl rfl [0, 1, 2] [] rfl rfl (by decide) (by decide) (n_V (As := [.int (xs 1), .int (xs 2), .int (xs 3), .int (xs 4)]) (rest := [.int r_1]) (C := RX11) (T := TX11) (N := 18) (ci := 9) S G (m_seen l X m0 ([.ref (w.1 0), .ref (w.1 1), .ref (w.1 2), .ref (w.1 3), .long 0, .long (Int32.toInt64 1), .ref (w.1 4), .ref (w.1 5), .ref (w.1 6), .ref (w.1 7), .ref (w.1 8), .int 0, .int 0, .int 0, .int 0, .int 0, .ref (w.1 9), .ref (w.1 10)]) (w.1 0) w.2 (w.1 3) (fun _ => 0) (xs 1) (xs 2) (xs 3) (xs 4) rfl rfl (hz 0 (by decide)) H.size) gL_law_X11_seen rfl rfl rfl hdV_X11_seen ⟨Nat.le_of_ble_eq_true rfl, Nat.le_of_ble_eq_true rfl⟩ [0, 1, 2] rfl (by decide) 0 rfl rfl rfl hl.1 (Nat.le_of_ble_eq_true rfl) dL_law_735 ⟨Nat.le_of_ble_eq_true rfl, Nat.le_of_ble_eq_true rfl⟩) (fun r_2 u_2 H locs hp_2 G => ?_)
  have G : wd X (fun q : Nat => s.heap.size ≤ q) (fun q : Nat => s.heap.size ≤ q) s [] H locs := G
  refine lv_icmp_eq (tgt := 1279) zx zb dL_law_738 (by decide) (fun c_3 => ?_) (fun c_3 => absurd (hp_1.trans hp_2.symm) c_3)
  exact law_end (Nat.le_of_ble_eq_true rfl) (Nat.le_of_ble_eq_true rfl) S hX hbl zr zlk G hl
theorem hdV_X10_strong : yX10_strong.cls = RX10 ∧ yX10_strong.cls ≠ "java/lang/invoke/MethodHandle" ∧ yX10_strong.cls ≠ "java/lang/invoke/VarHandle" ∧ (parseMethodDescriptor yX10_strong.desc).map (fun d => d.parameters.length) = some 2 := by decide +kernel
theorem hdV_X11_strong : yX11_strong.cls = RX11 ∧ yX11_strong.cls ≠ "java/lang/invoke/MethodHandle" ∧ yX11_strong.cls ≠ "java/lang/invoke/VarHandle" ∧ (parseMethodDescriptor yX11_strong.desc).map (fun d => d.parameters.length) = some 2 := by decide +kernel
set_option maxRecDepth 100000 in
set_option maxHeartbeats 4000000 in
/-- strong -/
theorem law_c19 {p : Program} {l : Launch} {e : Env} {s : State} {m : MethodId} {below : List Frame} {meth : Method} {c : Code} {b : Nat} {xs : Nat → Int32} {X : EX} {q0 m0 : Nat} {u : Nat → Nat} {w : (Nat → Nat) × (Nat → Int32)} (S : CallFix p m c cL_law 4 s #[Value.ref b] wsL_law RL) (hX : va_X b 6 xs s s.heap) (hbl : b < s.heap.size) (zr : meth.sig.returnType = ret) (zlk : meth.locks = false) (hz : ∀ j : Nat, j ≠ 36 → w.2 j = 0) (h36 : w.2 36 = 20) {H : Heap} {locs : List Loc} (G : wd X (fun q : Nat => s.heap.size ≤ q) (fun q : Nat => s.heap.size ≤ q) s (lwW X q0 m0 u w) H locs) {ls : Array Slot} (hl : lv_has ls 4 [(3, .int 0), (2, .ref m0), (1, .ref q0), (0, .ref b)]) : W p l e room_1 s m #[Value.ref b] below meth c H locs 94 3522 (lw_Z below #[Value.ref b] s) (F0 m 743 ls []) := by
  have zx := S.1
  have zb := S.2.1
  have hbA : ¬ (fun q : Nat => s.heap.size ≤ q) b := Nat.not_le.mpr hbl
  have G : wd X (fun q : Nat => s.heap.size ≤ q) (fun q : Nat => s.heap.size ≤ q) s [(q0, .inr (8, [.ref (u 0), .ref (u 16), .ref (u 32), .ref (u 65), .ref (u 66), .ref (u 68), .long (Int32.toInt64 0), .long (Int32.toInt64 1), .ref (u 69), .ref (u 70), .ref (u 71), .ref (u 72), .ref (u 73), .ref (u 74)])), ((u 0), .inr (3, [.int 20, .int 0, .int 0, .ref (u 1), .ref (u 8), .ref (u 10), .ref (u 12), .ref (u 14)])), ((u 68), .inl (X.2.1, 3, .inl (fun _ => 0))), (m0, .inr (9, [.ref (w.1 0), .ref (w.1 1), .ref (w.1 2), .ref (w.1 3), .long 0, .long (Int32.toInt64 1), .ref (w.1 4), .ref (w.1 5), .ref (w.1 6), .ref (w.1 7), .ref (w.1 8), .int 0, .int 0, .int 0, .int 0, .int 0, .ref (w.1 9), .ref (w.1 10)])), ((w.1 0), .inl (X.2.1, 371, .inl w.2)), ((w.1 3), .inl (X.2.1, 3, .inl (fun _ => 0)))] H locs := wd_sub G [0, 1, 61, 62, 63, 66] rfl (by decide)
  refine lv_aload_n zx zb dL_law_743 rfl (lv_at hl 2 rfl) ?_
  refine lv_aload_n zx zb dL_law_744 rfl (lv_at hl 3 rfl) ?_
  refine lv_iload_n zx zb dL_law_745 rfl (lv_at hl 0 rfl) ?_
  refine lv_iconst (v := 1) zx zb dL_law_746 (by decide) ?_
  refine r_iadd (v := 1) S (by decide) dL_law_747 ?_
  refine va_sld zx zb hX hbl hbA G.2.2.2.1 (k_vp (by decide)) dL_law_748 ?_
  refine k_it (v := xs 1) rfl ?_
  refine lv_aload_n zx zb dL_law_749 rfl (lv_at hl 3 rfl) ?_
  refine lv_iload_n zx zb dL_law_750 rfl (lv_at hl 0 rfl) ?_
  refine lv_iconst (v := 2) zx zb dL_law_751 (by decide) ?_
  refine r_iadd (v := 2) S (by decide) dL_law_752 ?_
  refine va_sld zx zb hX hbl hbA G.2.2.2.1 (k_vp (by decide)) dL_law_753 ?_
  refine k_it (v := xs 2) rfl ?_
  refine o_wi (cells' := 94) (slots' := 3522) (wr := [(m0, .inr (9, [.ref (w.1 0), .ref (w.1 1), .ref (w.1 2), .ref (w.1 3), .long 0, .long (Int32.toInt64 1), .ref (w.1 4), .ref (w.1 5), .ref (w.1 6), .ref (w.1 7), .ref (w.1 8), .int 0, .int 0, .int 0, .int 0, .int 0, .ref (w.1 9), .ref (w.1 10)])), ((w.1 0), .inl (X.2.1, 371, .inl w.2)), ((w.1 3), .inl (X.2.1, 3, .inl (fun _ => 0)))]) G rfl rfl [0, 1, 2] [3, 4, 5] rfl rfl (by decide) (by decide) (n_V (As := [.int (xs 1), .int (xs 2)]) (rest := []) (C := RX10) (T := TX10) (N := 14) (ci := 8) S G (c_strong l X q0 ([.ref (u 0), .ref (u 16), .ref (u 32), .ref (u 65), .ref (u 66), .ref (u 68), .long (Int32.toInt64 0), .long (Int32.toInt64 1), .ref (u 69), .ref (u 70), .ref (u 71), .ref (u 72), .ref (u 73), .ref (u 74)]) (u 0) ([.int 20, .int 0, .int 0, .ref (u 1), .ref (u 8), .ref (u 10), .ref (u 12), .ref (u 14)]) (u 68) (fun _ => 0) (xs 1) (xs 2) rfl rfl rfl H.size) gL_law_X10_strong rfl rfl rfl hdV_X10_strong ⟨Nat.le_of_ble_eq_true rfl, Nat.le_of_ble_eq_true rfl⟩ [0, 1, 2] rfl (by decide) 0 rfl rfl rfl hl.1 (Nat.le_of_ble_eq_true rfl) dL_law_754 ⟨Nat.le_of_ble_eq_true rfl, Nat.le_of_ble_eq_true rfl⟩) (fun r_1 u_1 H locs hp_1 G => ?_)
  have G : wd X (fun q : Nat => s.heap.size ≤ q) (fun q : Nat => s.heap.size ≤ q) s [(m0, .inr (9, [.ref (w.1 0), .ref (w.1 1), .ref (w.1 2), .ref (w.1 3), .long 0, .long (Int32.toInt64 1), .ref (w.1 4), .ref (w.1 5), .ref (w.1 6), .ref (w.1 7), .ref (w.1 8), .int 0, .int 0, .int 0, .int 0, .int 0, .ref (w.1 9), .ref (w.1 10)])), ((w.1 0), .inl (X.2.1, 371, .inl w.2)), ((w.1 3), .inl (X.2.1, 3, .inl (fun _ => 0)))] H locs := G
  refine lv_aload_n zx zb dL_law_757 rfl (lv_at hl 1 rfl) ?_
  refine lv_aload_n zx zb dL_law_758 rfl (lv_at hl 3 rfl) ?_
  refine lv_iload_n zx zb dL_law_759 rfl (lv_at hl 0 rfl) ?_
  refine lv_iconst (v := 1) zx zb dL_law_760 (by decide) ?_
  refine r_iadd (v := 1) S (by decide) dL_law_761 ?_
  refine va_sld zx zb hX hbl hbA G.2.2.2.1 (k_vp (by decide)) dL_law_762 ?_
  refine k_it (v := xs 1) rfl ?_
  refine lv_aload_n zx zb dL_law_763 rfl (lv_at hl 3 rfl) ?_
  refine lv_iload_n zx zb dL_law_764 rfl (lv_at hl 0 rfl) ?_
  refine lv_iconst (v := 2) zx zb dL_law_765 (by decide) ?_
  refine r_iadd (v := 2) S (by decide) dL_law_766 ?_
  refine va_sld zx zb hX hbl hbA G.2.2.2.1 (k_vp (by decide)) dL_law_767 ?_
  refine k_it (v := xs 2) rfl ?_
  refine o_wi (cells' := 94) (slots' := 3522) (wr := []) G rfl rfl [0, 1, 2] [] rfl rfl (by decide) (by decide) (n_V (As := [.int (xs 1), .int (xs 2)]) (rest := [.int r_1]) (C := RX11) (T := TX11) (N := 18) (ci := 9) S G (m_strong l X m0 ([.ref (w.1 0), .ref (w.1 1), .ref (w.1 2), .ref (w.1 3), .long 0, .long (Int32.toInt64 1), .ref (w.1 4), .ref (w.1 5), .ref (w.1 6), .ref (w.1 7), .ref (w.1 8), .int 0, .int 0, .int 0, .int 0, .int 0, .ref (w.1 9), .ref (w.1 10)]) (w.1 0) w.2 (w.1 3) (fun _ => 0) (xs 1) (xs 2) rfl rfl (hz 0 (by decide)) H.size) gL_law_X11_strong rfl rfl rfl hdV_X11_strong ⟨Nat.le_of_ble_eq_true rfl, Nat.le_of_ble_eq_true rfl⟩ [0, 1, 2] rfl (by decide) 0 rfl rfl rfl hl.1 (Nat.le_of_ble_eq_true rfl) dL_law_768 ⟨Nat.le_of_ble_eq_true rfl, Nat.le_of_ble_eq_true rfl⟩) (fun r_2 u_2 H locs hp_2 G => ?_)
  have G : wd X (fun q : Nat => s.heap.size ≤ q) (fun q : Nat => s.heap.size ≤ q) s [] H locs := G
  refine lv_icmp_eq (tgt := 1279) zx zb dL_law_771 (by decide) (fun c_3 => ?_) (fun c_3 => absurd (hp_1.trans hp_2.symm) c_3)
  exact law_end (Nat.le_of_ble_eq_true rfl) (Nat.le_of_ble_eq_true rfl) S hX hbl zr zlk G hl
theorem hdV_X10_tell : yX10_tell.cls = RX10 ∧ yX10_tell.cls ≠ "java/lang/invoke/MethodHandle" ∧ yX10_tell.cls ≠ "java/lang/invoke/VarHandle" ∧ (parseMethodDescriptor yX10_tell.desc).map (fun d => d.parameters.length) = some 1 := by decide +kernel
theorem hdV_X11_tell : yX11_tell.cls = RX11 ∧ yX11_tell.cls ≠ "java/lang/invoke/MethodHandle" ∧ yX11_tell.cls ≠ "java/lang/invoke/VarHandle" ∧ (parseMethodDescriptor yX11_tell.desc).map (fun d => d.parameters.length) = some 1 := by decide +kernel
set_option maxRecDepth 100000 in
set_option maxHeartbeats 4000000 in
/-- tell -/
theorem law_c20 {p : Program} {l : Launch} {e : Env} {s : State} {m : MethodId} {below : List Frame} {meth : Method} {c : Code} {b : Nat} {xs : Nat → Int32} {X : EX} {q0 m0 : Nat} {u : Nat → Nat} {w : (Nat → Nat) × (Nat → Int32)} (S : CallFix p m c cL_law 4 s #[Value.ref b] wsL_law RL) (hX : va_X b 6 xs s s.heap) (hbl : b < s.heap.size) (zr : meth.sig.returnType = ret) (zlk : meth.locks = false) (hz : ∀ j : Nat, j ≠ 36 → w.2 j = 0) (h36 : w.2 36 = 20) {H : Heap} {locs : List Loc} (G : wd X (fun q : Nat => s.heap.size ≤ q) (fun q : Nat => s.heap.size ≤ q) s (lwW X q0 m0 u w) H locs) {ls : Array Slot} (hl : lv_has ls 4 [(3, .int 0), (2, .ref m0), (1, .ref q0), (0, .ref b)]) : W p l e room_1 s m #[Value.ref b] below meth c H locs 94 3522 (lw_Z below #[Value.ref b] s) (F0 m 776 ls []) := by
  have zx := S.1
  have zb := S.2.1
  have hbA : ¬ (fun q : Nat => s.heap.size ≤ q) b := Nat.not_le.mpr hbl
  have G : wd X (fun q : Nat => s.heap.size ≤ q) (fun q : Nat => s.heap.size ≤ q) s [(q0, .inr (8, [.ref (u 0), .ref (u 16), .ref (u 32), .ref (u 65), .ref (u 66), .ref (u 68), .long (Int32.toInt64 0), .long (Int32.toInt64 1), .ref (u 69), .ref (u 70), .ref (u 71), .ref (u 72), .ref (u 73), .ref (u 74)])), ((u 0), .inr (3, [.int 20, .int 0, .int 0, .ref (u 1), .ref (u 8), .ref (u 10), .ref (u 12), .ref (u 14)])), ((u 68), .inl (X.2.1, 3, .inl (fun _ => 0))), (m0, .inr (9, [.ref (w.1 0), .ref (w.1 1), .ref (w.1 2), .ref (w.1 3), .long 0, .long (Int32.toInt64 1), .ref (w.1 4), .ref (w.1 5), .ref (w.1 6), .ref (w.1 7), .ref (w.1 8), .int 0, .int 0, .int 0, .int 0, .int 0, .ref (w.1 9), .ref (w.1 10)])), ((w.1 0), .inl (X.2.1, 371, .inl w.2)), ((w.1 3), .inl (X.2.1, 3, .inl (fun _ => 0)))] H locs := wd_sub G [0, 1, 61, 62, 63, 66] rfl (by decide)
  refine lv_aload_n zx zb dL_law_776 rfl (lv_at hl 2 rfl) ?_
  refine lv_aload_n zx zb dL_law_777 rfl (lv_at hl 3 rfl) ?_
  refine lv_iload_n zx zb dL_law_778 rfl (lv_at hl 0 rfl) ?_
  refine lv_iconst (v := 1) zx zb dL_law_779 (by decide) ?_
  refine r_iadd (v := 1) S (by decide) dL_law_780 ?_
  refine va_sld zx zb hX hbl hbA G.2.2.2.1 (k_vp (by decide)) dL_law_781 ?_
  refine k_it (v := xs 1) rfl ?_
  refine o_wi (cells' := 94) (slots' := 3522) (wr := [(m0, .inr (9, [.ref (w.1 0), .ref (w.1 1), .ref (w.1 2), .ref (w.1 3), .long 0, .long (Int32.toInt64 1), .ref (w.1 4), .ref (w.1 5), .ref (w.1 6), .ref (w.1 7), .ref (w.1 8), .int 0, .int 0, .int 0, .int 0, .int 0, .ref (w.1 9), .ref (w.1 10)])), ((w.1 0), .inl (X.2.1, 371, .inl w.2)), ((w.1 3), .inl (X.2.1, 3, .inl (fun _ => 0)))]) G rfl rfl [0, 1, 2] [3, 4, 5] rfl rfl (by decide) (by decide) (n_V (As := [.int (xs 1)]) (rest := []) (C := RX10) (T := TX10) (N := 14) (ci := 8) S G (c_tell l X q0 ([.ref (u 0), .ref (u 16), .ref (u 32), .ref (u 65), .ref (u 66), .ref (u 68), .long (Int32.toInt64 0), .long (Int32.toInt64 1), .ref (u 69), .ref (u 70), .ref (u 71), .ref (u 72), .ref (u 73), .ref (u 74)]) (u 0) ([.int 20, .int 0, .int 0, .ref (u 1), .ref (u 8), .ref (u 10), .ref (u 12), .ref (u 14)]) (u 68) (fun _ => 0) (xs 1) rfl rfl rfl H.size) gL_law_X10_tell rfl rfl rfl hdV_X10_tell ⟨Nat.le_of_ble_eq_true rfl, Nat.le_of_ble_eq_true rfl⟩ [0, 1, 2] rfl (by decide) 0 rfl rfl rfl hl.1 (Nat.le_of_ble_eq_true rfl) dL_law_782 ⟨Nat.le_of_ble_eq_true rfl, Nat.le_of_ble_eq_true rfl⟩) (fun r_1 u_1 H locs hp_1 G => ?_)
  have G : wd X (fun q : Nat => s.heap.size ≤ q) (fun q : Nat => s.heap.size ≤ q) s [(m0, .inr (9, [.ref (w.1 0), .ref (w.1 1), .ref (w.1 2), .ref (w.1 3), .long 0, .long (Int32.toInt64 1), .ref (w.1 4), .ref (w.1 5), .ref (w.1 6), .ref (w.1 7), .ref (w.1 8), .int 0, .int 0, .int 0, .int 0, .int 0, .ref (w.1 9), .ref (w.1 10)])), ((w.1 0), .inl (X.2.1, 371, .inl w.2)), ((w.1 3), .inl (X.2.1, 3, .inl (fun _ => 0)))] H locs := G
  refine lv_aload_n zx zb dL_law_785 rfl (lv_at hl 1 rfl) ?_
  refine lv_aload_n zx zb dL_law_786 rfl (lv_at hl 3 rfl) ?_
  refine lv_iload_n zx zb dL_law_787 rfl (lv_at hl 0 rfl) ?_
  refine lv_iconst (v := 1) zx zb dL_law_788 (by decide) ?_
  refine r_iadd (v := 1) S (by decide) dL_law_789 ?_
  refine va_sld zx zb hX hbl hbA G.2.2.2.1 (k_vp (by decide)) dL_law_790 ?_
  refine k_it (v := xs 1) rfl ?_
  refine o_wi (cells' := 94) (slots' := 3522) (wr := []) G rfl rfl [0, 1, 2] [] rfl rfl (by decide) (by decide) (n_V (As := [.int (xs 1)]) (rest := [.int r_1]) (C := RX11) (T := TX11) (N := 18) (ci := 9) S G (m_tell l X m0 ([.ref (w.1 0), .ref (w.1 1), .ref (w.1 2), .ref (w.1 3), .long 0, .long (Int32.toInt64 1), .ref (w.1 4), .ref (w.1 5), .ref (w.1 6), .ref (w.1 7), .ref (w.1 8), .int 0, .int 0, .int 0, .int 0, .int 0, .ref (w.1 9), .ref (w.1 10)]) (w.1 0) w.2 (w.1 3) (fun _ => 0) (xs 1) rfl rfl (hz 0 (by decide)) H.size) gL_law_X11_tell rfl rfl rfl hdV_X11_tell ⟨Nat.le_of_ble_eq_true rfl, Nat.le_of_ble_eq_true rfl⟩ [0, 1, 2] rfl (by decide) 0 rfl rfl rfl hl.1 (Nat.le_of_ble_eq_true rfl) dL_law_791 ⟨Nat.le_of_ble_eq_true rfl, Nat.le_of_ble_eq_true rfl⟩) (fun r_2 u_2 H locs hp_2 G => ?_)
  have G : wd X (fun q : Nat => s.heap.size ≤ q) (fun q : Nat => s.heap.size ≤ q) s [] H locs := G
  refine lv_icmp_eq (tgt := 1279) zx zb dL_law_794 (by decide) (fun c_3 => ?_) (fun c_3 => absurd (hp_1.trans hp_2.symm) c_3)
  exact law_end (Nat.le_of_ble_eq_true rfl) (Nat.le_of_ble_eq_true rfl) S hX hbl zr zlk G hl
theorem hdV_X10_note : yX10_note.cls = RX10 ∧ yX10_note.cls ≠ "java/lang/invoke/MethodHandle" ∧ yX10_note.cls ≠ "java/lang/invoke/VarHandle" ∧ (parseMethodDescriptor yX10_note.desc).map (fun d => d.parameters.length) = some 5 := by decide +kernel
theorem hdV_X11_note : yX11_note.cls = RX11 ∧ yX11_note.cls ≠ "java/lang/invoke/MethodHandle" ∧ yX11_note.cls ≠ "java/lang/invoke/VarHandle" ∧ (parseMethodDescriptor yX11_note.desc).map (fun d => d.parameters.length) = some 5 := by decide +kernel
set_option maxRecDepth 100000 in
set_option maxHeartbeats 4000000 in
/-- note -/
theorem law_c21 {p : Program} {l : Launch} {e : Env} {s : State} {m : MethodId} {below : List Frame} {meth : Method} {c : Code} {b : Nat} {xs : Nat → Int32} {X : EX} {q0 m0 : Nat} {u : Nat → Nat} {w : (Nat → Nat) × (Nat → Int32)} (S : CallFix p m c cL_law 4 s #[Value.ref b] wsL_law RL) (hX : va_X b 6 xs s s.heap) (hbl : b < s.heap.size) (zr : meth.sig.returnType = ret) (zlk : meth.locks = false) (hz : ∀ j : Nat, j ≠ 36 → w.2 j = 0) (h36 : w.2 36 = 20) {H : Heap} {locs : List Loc} (G : wd X (fun q : Nat => s.heap.size ≤ q) (fun q : Nat => s.heap.size ≤ q) s (lwW X q0 m0 u w) H locs) {ls : Array Slot} (hl : lv_has ls 4 [(3, .int 0), (2, .ref m0), (1, .ref q0), (0, .ref b)]) : W p l e room_1 s m #[Value.ref b] below meth c H locs 94 3522 (lw_Z below #[Value.ref b] s) (F0 m 799 ls []) := by
  have zx := S.1
  have zb := S.2.1
  have hbA : ¬ (fun q : Nat => s.heap.size ≤ q) b := Nat.not_le.mpr hbl
  have G : wd X (fun q : Nat => s.heap.size ≤ q) (fun q : Nat => s.heap.size ≤ q) s [(q0, .inr (8, [.ref (u 0), .ref (u 16), .ref (u 32), .ref (u 65), .ref (u 66), .ref (u 68), .long (Int32.toInt64 0), .long (Int32.toInt64 1), .ref (u 69), .ref (u 70), .ref (u 71), .ref (u 72), .ref (u 73), .ref (u 74)])), ((u 0), .inr (3, [.int 20, .int 0, .int 0, .ref (u 1), .ref (u 8), .ref (u 10), .ref (u 12), .ref (u 14)])), ((u 68), .inl (X.2.1, 3, .inl (fun _ => 0))), (m0, .inr (9, [.ref (w.1 0), .ref (w.1 1), .ref (w.1 2), .ref (w.1 3), .long 0, .long (Int32.toInt64 1), .ref (w.1 4), .ref (w.1 5), .ref (w.1 6), .ref (w.1 7), .ref (w.1 8), .int 0, .int 0, .int 0, .int 0, .int 0, .ref (w.1 9), .ref (w.1 10)])), ((w.1 0), .inl (X.2.1, 371, .inl w.2)), ((w.1 3), .inl (X.2.1, 3, .inl (fun _ => 0)))] H locs := wd_sub G [0, 1, 61, 62, 63, 66] rfl (by decide)
  refine lv_aload_n zx zb dL_law_799 rfl (lv_at hl 2 rfl) ?_
  refine lv_aload_n zx zb dL_law_800 rfl (lv_at hl 3 rfl) ?_
  refine lv_iload_n zx zb dL_law_801 rfl (lv_at hl 0 rfl) ?_
  refine lv_iconst (v := 1) zx zb dL_law_802 (by decide) ?_
  refine r_iadd (v := 1) S (by decide) dL_law_803 ?_
  refine va_sld zx zb hX hbl hbA G.2.2.2.1 (k_vp (by decide)) dL_law_804 ?_
  refine k_it (v := xs 1) rfl ?_
  refine lv_aload_n zx zb dL_law_805 rfl (lv_at hl 3 rfl) ?_
  refine lv_iload_n zx zb dL_law_806 rfl (lv_at hl 0 rfl) ?_
  refine lv_iconst (v := 2) zx zb dL_law_807 (by decide) ?_
  refine r_iadd (v := 2) S (by decide) dL_law_808 ?_
  refine va_sld zx zb hX hbl hbA G.2.2.2.1 (k_vp (by decide)) dL_law_809 ?_
  refine k_it (v := xs 2) rfl ?_
  refine lv_aload_n zx zb dL_law_810 rfl (lv_at hl 3 rfl) ?_
  refine lv_iload_n zx zb dL_law_811 rfl (lv_at hl 0 rfl) ?_
  refine lv_iconst (v := 3) zx zb dL_law_812 (by decide) ?_
  refine r_iadd (v := 3) S (by decide) dL_law_813 ?_
  refine va_sld zx zb hX hbl hbA G.2.2.2.1 (k_vp (by decide)) dL_law_814 ?_
  refine k_it (v := xs 3) rfl ?_
  refine lv_aload_n zx zb dL_law_815 rfl (lv_at hl 3 rfl) ?_
  refine lv_iload_n zx zb dL_law_816 rfl (lv_at hl 0 rfl) ?_
  refine lv_iconst (v := 4) zx zb dL_law_817 (by decide) ?_
  refine r_iadd (v := 4) S (by decide) dL_law_818 ?_
  refine va_sld zx zb hX hbl hbA G.2.2.2.1 (k_vp (by decide)) dL_law_819 ?_
  refine k_it (v := xs 4) rfl ?_
  refine lv_aload_n zx zb dL_law_820 rfl (lv_at hl 3 rfl) ?_
  refine lv_iload_n zx zb dL_law_821 rfl (lv_at hl 0 rfl) ?_
  refine lv_iconst (v := 5) zx zb dL_law_822 (by decide) ?_
  refine r_iadd (v := 5) S (by decide) dL_law_823 ?_
  refine va_sld zx zb hX hbl hbA G.2.2.2.1 (k_vp (by decide)) dL_law_824 ?_
  refine k_it (v := xs 5) rfl ?_
  refine o_wi (cells' := 94) (slots' := 3522) (wr := [(m0, .inr (9, [.ref (w.1 0), .ref (w.1 1), .ref (w.1 2), .ref (w.1 3), .long 0, .long (Int32.toInt64 1), .ref (w.1 4), .ref (w.1 5), .ref (w.1 6), .ref (w.1 7), .ref (w.1 8), .int 0, .int 0, .int 0, .int 0, .int 0, .ref (w.1 9), .ref (w.1 10)])), ((w.1 0), .inl (X.2.1, 371, .inl w.2)), ((w.1 3), .inl (X.2.1, 3, .inl (fun _ => 0)))]) G rfl rfl [0, 1, 2] [3, 4, 5] rfl rfl (by decide) (by decide) (n_V (As := [.int (xs 1), .int (xs 2), .int (xs 3), .int (xs 4), .int (xs 5)]) (rest := []) (C := RX10) (T := TX10) (N := 14) (ci := 8) S G (c_note l X q0 ([.ref (u 0), .ref (u 16), .ref (u 32), .ref (u 65), .ref (u 66), .ref (u 68), .long (Int32.toInt64 0), .long (Int32.toInt64 1), .ref (u 69), .ref (u 70), .ref (u 71), .ref (u 72), .ref (u 73), .ref (u 74)]) (u 0) ([.int 20, .int 0, .int 0, .ref (u 1), .ref (u 8), .ref (u 10), .ref (u 12), .ref (u 14)]) (u 68) (fun _ => 0) (xs 1) (xs 2) (xs 3) (xs 4) (xs 5) rfl rfl rfl H.size) gL_law_X10_note rfl rfl rfl hdV_X10_note ⟨Nat.le_of_ble_eq_true rfl, Nat.le_of_ble_eq_true rfl⟩ [0, 1, 2] rfl (by decide) 0 rfl rfl rfl hl.1 (Nat.le_of_ble_eq_true rfl) dL_law_825 ⟨Nat.le_of_ble_eq_true rfl, Nat.le_of_ble_eq_true rfl⟩) (fun r_1 u_1 H locs hp_1 G => ?_)
  have G : wd X (fun q : Nat => s.heap.size ≤ q) (fun q : Nat => s.heap.size ≤ q) s [(m0, .inr (9, [.ref (w.1 0), .ref (w.1 1), .ref (w.1 2), .ref (w.1 3), .long 0, .long (Int32.toInt64 1), .ref (w.1 4), .ref (w.1 5), .ref (w.1 6), .ref (w.1 7), .ref (w.1 8), .int 0, .int 0, .int 0, .int 0, .int 0, .ref (w.1 9), .ref (w.1 10)])), ((w.1 0), .inl (X.2.1, 371, .inl w.2)), ((w.1 3), .inl (X.2.1, 3, .inl (fun _ => 0)))] H locs := G
  refine lv_aload_n zx zb dL_law_828 rfl (lv_at hl 1 rfl) ?_
  refine lv_aload_n zx zb dL_law_829 rfl (lv_at hl 3 rfl) ?_
  refine lv_iload_n zx zb dL_law_830 rfl (lv_at hl 0 rfl) ?_
  refine lv_iconst (v := 1) zx zb dL_law_831 (by decide) ?_
  refine r_iadd (v := 1) S (by decide) dL_law_832 ?_
  refine va_sld zx zb hX hbl hbA G.2.2.2.1 (k_vp (by decide)) dL_law_833 ?_
  refine k_it (v := xs 1) rfl ?_
  refine lv_aload_n zx zb dL_law_834 rfl (lv_at hl 3 rfl) ?_
  refine lv_iload_n zx zb dL_law_835 rfl (lv_at hl 0 rfl) ?_
  refine lv_iconst (v := 2) zx zb dL_law_836 (by decide) ?_
  refine r_iadd (v := 2) S (by decide) dL_law_837 ?_
  refine va_sld zx zb hX hbl hbA G.2.2.2.1 (k_vp (by decide)) dL_law_838 ?_
  refine k_it (v := xs 2) rfl ?_
  refine lv_aload_n zx zb dL_law_839 rfl (lv_at hl 3 rfl) ?_
  refine lv_iload_n zx zb dL_law_840 rfl (lv_at hl 0 rfl) ?_
  refine lv_iconst (v := 3) zx zb dL_law_841 (by decide) ?_
  refine r_iadd (v := 3) S (by decide) dL_law_842 ?_
  refine va_sld zx zb hX hbl hbA G.2.2.2.1 (k_vp (by decide)) dL_law_843 ?_
  refine k_it (v := xs 3) rfl ?_
  refine lv_aload_n zx zb dL_law_844 rfl (lv_at hl 3 rfl) ?_
  refine lv_iload_n zx zb dL_law_845 rfl (lv_at hl 0 rfl) ?_
  refine lv_iconst (v := 4) zx zb dL_law_846 (by decide) ?_
  refine r_iadd (v := 4) S (by decide) dL_law_847 ?_
  refine va_sld zx zb hX hbl hbA G.2.2.2.1 (k_vp (by decide)) dL_law_848 ?_
  refine k_it (v := xs 4) rfl ?_
  refine lv_aload_n zx zb dL_law_849 rfl (lv_at hl 3 rfl) ?_
  refine lv_iload_n zx zb dL_law_850 rfl (lv_at hl 0 rfl) ?_
  refine lv_iconst (v := 5) zx zb dL_law_851 (by decide) ?_
  refine r_iadd (v := 5) S (by decide) dL_law_852 ?_
  refine va_sld zx zb hX hbl hbA G.2.2.2.1 (k_vp (by decide)) dL_law_853 ?_
  refine k_it (v := xs 5) rfl ?_
  refine o_wi (cells' := 94) (slots' := 3522) (wr := []) G rfl rfl [0, 1, 2] [] rfl rfl (by decide) (by decide) (n_V (As := [.int (xs 1), .int (xs 2), .int (xs 3), .int (xs 4), .int (xs 5)]) (rest := [.int r_1]) (C := RX11) (T := TX11) (N := 18) (ci := 9) S G (m_note l X m0 ([.ref (w.1 0), .ref (w.1 1), .ref (w.1 2), .ref (w.1 3), .long 0, .long (Int32.toInt64 1), .ref (w.1 4), .ref (w.1 5), .ref (w.1 6), .ref (w.1 7), .ref (w.1 8), .int 0, .int 0, .int 0, .int 0, .int 0, .ref (w.1 9), .ref (w.1 10)]) (w.1 0) w.2 (w.1 3) (fun _ => 0) (xs 1) (xs 2) (xs 3) (xs 4) (xs 5) rfl rfl (hz 0 (by decide)) H.size) gL_law_X11_note rfl rfl rfl hdV_X11_note ⟨Nat.le_of_ble_eq_true rfl, Nat.le_of_ble_eq_true rfl⟩ [0, 1, 2] rfl (by decide) 0 rfl rfl rfl hl.1 (Nat.le_of_ble_eq_true rfl) dL_law_854 ⟨Nat.le_of_ble_eq_true rfl, Nat.le_of_ble_eq_true rfl⟩) (fun r_2 u_2 H locs hp_2 G => ?_)
  have G : wd X (fun q : Nat => s.heap.size ≤ q) (fun q : Nat => s.heap.size ≤ q) s [] H locs := G
  refine lv_icmp_eq (tgt := 1279) zx zb dL_law_857 (by decide) (fun c_3 => ?_) (fun c_3 => absurd (hp_1.trans hp_2.symm) c_3)
  exact law_end (Nat.le_of_ble_eq_true rfl) (Nat.le_of_ble_eq_true rfl) S hX hbl zr zlk G hl
theorem hdV_X10_mark : yX10_mark.cls = RX10 ∧ yX10_mark.cls ≠ "java/lang/invoke/MethodHandle" ∧ yX10_mark.cls ≠ "java/lang/invoke/VarHandle" ∧ (parseMethodDescriptor yX10_mark.desc).map (fun d => d.parameters.length) = some 3 := by decide +kernel
theorem hdV_X11_mark : yX11_mark.cls = RX11 ∧ yX11_mark.cls ≠ "java/lang/invoke/MethodHandle" ∧ yX11_mark.cls ≠ "java/lang/invoke/VarHandle" ∧ (parseMethodDescriptor yX11_mark.desc).map (fun d => d.parameters.length) = some 3 := by decide +kernel
set_option maxRecDepth 100000 in
set_option maxHeartbeats 4000000 in
/-- mark -/
theorem law_c22 {p : Program} {l : Launch} {e : Env} {s : State} {m : MethodId} {below : List Frame} {meth : Method} {c : Code} {b : Nat} {xs : Nat → Int32} {X : EX} {q0 m0 : Nat} {u : Nat → Nat} {w : (Nat → Nat) × (Nat → Int32)} (S : CallFix p m c cL_law 4 s #[Value.ref b] wsL_law RL) (hX : va_X b 6 xs s s.heap) (hbl : b < s.heap.size) (zr : meth.sig.returnType = ret) (zlk : meth.locks = false) (hz : ∀ j : Nat, j ≠ 36 → w.2 j = 0) (h36 : w.2 36 = 20) {H : Heap} {locs : List Loc} (G : wd X (fun q : Nat => s.heap.size ≤ q) (fun q : Nat => s.heap.size ≤ q) s (lwW X q0 m0 u w) H locs) {ls : Array Slot} (hl : lv_has ls 4 [(3, .int 0), (2, .ref m0), (1, .ref q0), (0, .ref b)]) : W p l e room_1 s m #[Value.ref b] below meth c H locs 94 3522 (lw_Z below #[Value.ref b] s) (F0 m 862 ls []) := by
  have zx := S.1
  have zb := S.2.1
  have hbA : ¬ (fun q : Nat => s.heap.size ≤ q) b := Nat.not_le.mpr hbl
  have G : wd X (fun q : Nat => s.heap.size ≤ q) (fun q : Nat => s.heap.size ≤ q) s [(q0, .inr (8, [.ref (u 0), .ref (u 16), .ref (u 32), .ref (u 65), .ref (u 66), .ref (u 68), .long (Int32.toInt64 0), .long (Int32.toInt64 1), .ref (u 69), .ref (u 70), .ref (u 71), .ref (u 72), .ref (u 73), .ref (u 74)])), ((u 0), .inr (3, [.int 20, .int 0, .int 0, .ref (u 1), .ref (u 8), .ref (u 10), .ref (u 12), .ref (u 14)])), ((u 68), .inl (X.2.1, 3, .inl (fun _ => 0))), (m0, .inr (9, [.ref (w.1 0), .ref (w.1 1), .ref (w.1 2), .ref (w.1 3), .long 0, .long (Int32.toInt64 1), .ref (w.1 4), .ref (w.1 5), .ref (w.1 6), .ref (w.1 7), .ref (w.1 8), .int 0, .int 0, .int 0, .int 0, .int 0, .ref (w.1 9), .ref (w.1 10)])), ((w.1 0), .inl (X.2.1, 371, .inl w.2)), ((w.1 3), .inl (X.2.1, 3, .inl (fun _ => 0)))] H locs := wd_sub G [0, 1, 61, 62, 63, 66] rfl (by decide)
  refine lv_aload_n zx zb dL_law_862 rfl (lv_at hl 2 rfl) ?_
  refine lv_aload_n zx zb dL_law_863 rfl (lv_at hl 3 rfl) ?_
  refine lv_iload_n zx zb dL_law_864 rfl (lv_at hl 0 rfl) ?_
  refine lv_iconst (v := 1) zx zb dL_law_865 (by decide) ?_
  refine r_iadd (v := 1) S (by decide) dL_law_866 ?_
  refine va_sld zx zb hX hbl hbA G.2.2.2.1 (k_vp (by decide)) dL_law_867 ?_
  refine k_it (v := xs 1) rfl ?_
  refine lv_aload_n zx zb dL_law_868 rfl (lv_at hl 3 rfl) ?_
  refine lv_iload_n zx zb dL_law_869 rfl (lv_at hl 0 rfl) ?_
  refine lv_iconst (v := 2) zx zb dL_law_870 (by decide) ?_
  refine r_iadd (v := 2) S (by decide) dL_law_871 ?_
  refine va_sld zx zb hX hbl hbA G.2.2.2.1 (k_vp (by decide)) dL_law_872 ?_
  refine k_it (v := xs 2) rfl ?_
  refine lv_aload_n zx zb dL_law_873 rfl (lv_at hl 3 rfl) ?_
  refine lv_iload_n zx zb dL_law_874 rfl (lv_at hl 0 rfl) ?_
  refine lv_iconst (v := 3) zx zb dL_law_875 (by decide) ?_
  refine r_iadd (v := 3) S (by decide) dL_law_876 ?_
  refine va_sld zx zb hX hbl hbA G.2.2.2.1 (k_vp (by decide)) dL_law_877 ?_
  refine k_it (v := xs 3) rfl ?_
  refine o_wi (cells' := 94) (slots' := 3522) (wr := [(m0, .inr (9, [.ref (w.1 0), .ref (w.1 1), .ref (w.1 2), .ref (w.1 3), .long 0, .long (Int32.toInt64 1), .ref (w.1 4), .ref (w.1 5), .ref (w.1 6), .ref (w.1 7), .ref (w.1 8), .int 0, .int 0, .int 0, .int 0, .int 0, .ref (w.1 9), .ref (w.1 10)])), ((w.1 0), .inl (X.2.1, 371, .inl w.2)), ((w.1 3), .inl (X.2.1, 3, .inl (fun _ => 0)))]) G rfl rfl [0, 1, 2] [3, 4, 5] rfl rfl (by decide) (by decide) (n_V (As := [.int (xs 1), .int (xs 2), .int (xs 3)]) (rest := []) (C := RX10) (T := TX10) (N := 14) (ci := 8) S G (c_mark l X q0 ([.ref (u 0), .ref (u 16), .ref (u 32), .ref (u 65), .ref (u 66), .ref (u 68), .long (Int32.toInt64 0), .long (Int32.toInt64 1), .ref (u 69), .ref (u 70), .ref (u 71), .ref (u 72), .ref (u 73), .ref (u 74)]) (u 0) ([.int 20, .int 0, .int 0, .ref (u 1), .ref (u 8), .ref (u 10), .ref (u 12), .ref (u 14)]) (u 68) (fun _ => 0) (xs 1) (xs 2) (xs 3) rfl rfl rfl H.size) gL_law_X10_mark rfl rfl rfl hdV_X10_mark ⟨Nat.le_of_ble_eq_true rfl, Nat.le_of_ble_eq_true rfl⟩ [0, 1, 2] rfl (by decide) 0 rfl rfl rfl hl.1 (Nat.le_of_ble_eq_true rfl) dL_law_878 ⟨Nat.le_of_ble_eq_true rfl, Nat.le_of_ble_eq_true rfl⟩) (fun r_1 u_1 H locs hp_1 G => ?_)
  have G : wd X (fun q : Nat => s.heap.size ≤ q) (fun q : Nat => s.heap.size ≤ q) s [(m0, .inr (9, [.ref (w.1 0), .ref (w.1 1), .ref (w.1 2), .ref (w.1 3), .long 0, .long (Int32.toInt64 1), .ref (w.1 4), .ref (w.1 5), .ref (w.1 6), .ref (w.1 7), .ref (w.1 8), .int 0, .int 0, .int 0, .int 0, .int 0, .ref (w.1 9), .ref (w.1 10)])), ((w.1 0), .inl (X.2.1, 371, .inl w.2)), ((w.1 3), .inl (X.2.1, 3, .inl (fun _ => 0)))] H locs := G
  refine lv_aload_n zx zb dL_law_881 rfl (lv_at hl 1 rfl) ?_
  refine lv_aload_n zx zb dL_law_882 rfl (lv_at hl 3 rfl) ?_
  refine lv_iload_n zx zb dL_law_883 rfl (lv_at hl 0 rfl) ?_
  refine lv_iconst (v := 1) zx zb dL_law_884 (by decide) ?_
  refine r_iadd (v := 1) S (by decide) dL_law_885 ?_
  refine va_sld zx zb hX hbl hbA G.2.2.2.1 (k_vp (by decide)) dL_law_886 ?_
  refine k_it (v := xs 1) rfl ?_
  refine lv_aload_n zx zb dL_law_887 rfl (lv_at hl 3 rfl) ?_
  refine lv_iload_n zx zb dL_law_888 rfl (lv_at hl 0 rfl) ?_
  refine lv_iconst (v := 2) zx zb dL_law_889 (by decide) ?_
  refine r_iadd (v := 2) S (by decide) dL_law_890 ?_
  refine va_sld zx zb hX hbl hbA G.2.2.2.1 (k_vp (by decide)) dL_law_891 ?_
  refine k_it (v := xs 2) rfl ?_
  refine lv_aload_n zx zb dL_law_892 rfl (lv_at hl 3 rfl) ?_
  refine lv_iload_n zx zb dL_law_893 rfl (lv_at hl 0 rfl) ?_
  refine lv_iconst (v := 3) zx zb dL_law_894 (by decide) ?_
  refine r_iadd (v := 3) S (by decide) dL_law_895 ?_
  refine va_sld zx zb hX hbl hbA G.2.2.2.1 (k_vp (by decide)) dL_law_896 ?_
  refine k_it (v := xs 3) rfl ?_
  refine o_wi (cells' := 94) (slots' := 3522) (wr := []) G rfl rfl [0, 1, 2] [] rfl rfl (by decide) (by decide) (n_V (As := [.int (xs 1), .int (xs 2), .int (xs 3)]) (rest := [.int r_1]) (C := RX11) (T := TX11) (N := 18) (ci := 9) S G (m_mark l X m0 ([.ref (w.1 0), .ref (w.1 1), .ref (w.1 2), .ref (w.1 3), .long 0, .long (Int32.toInt64 1), .ref (w.1 4), .ref (w.1 5), .ref (w.1 6), .ref (w.1 7), .ref (w.1 8), .int 0, .int 0, .int 0, .int 0, .int 0, .ref (w.1 9), .ref (w.1 10)]) (w.1 0) w.2 (w.1 3) (fun _ => 0) (xs 1) (xs 2) (xs 3) rfl rfl (hz 0 (by decide)) H.size) gL_law_X11_mark rfl rfl rfl hdV_X11_mark ⟨Nat.le_of_ble_eq_true rfl, Nat.le_of_ble_eq_true rfl⟩ [0, 1, 2] rfl (by decide) 0 rfl rfl rfl hl.1 (Nat.le_of_ble_eq_true rfl) dL_law_897 ⟨Nat.le_of_ble_eq_true rfl, Nat.le_of_ble_eq_true rfl⟩) (fun r_2 u_2 H locs hp_2 G => ?_)
  have G : wd X (fun q : Nat => s.heap.size ≤ q) (fun q : Nat => s.heap.size ≤ q) s [] H locs := G
  refine lv_icmp_eq (tgt := 1279) zx zb dL_law_900 (by decide) (fun c_3 => ?_) (fun c_3 => absurd (hp_1.trans hp_2.symm) c_3)
  exact law_end (Nat.le_of_ble_eq_true rfl) (Nat.le_of_ble_eq_true rfl) S hX hbl zr zlk G hl
theorem hdV_X10_forget : yX10_forget.cls = RX10 ∧ yX10_forget.cls ≠ "java/lang/invoke/MethodHandle" ∧ yX10_forget.cls ≠ "java/lang/invoke/VarHandle" ∧ (parseMethodDescriptor yX10_forget.desc).map (fun d => d.parameters.length) = some 1 := by decide +kernel
theorem hdV_X11_forget : yX11_forget.cls = RX11 ∧ yX11_forget.cls ≠ "java/lang/invoke/MethodHandle" ∧ yX11_forget.cls ≠ "java/lang/invoke/VarHandle" ∧ (parseMethodDescriptor yX11_forget.desc).map (fun d => d.parameters.length) = some 1 := by decide +kernel
set_option maxRecDepth 100000 in
set_option maxHeartbeats 4000000 in
/-- forget -/
theorem law_c23 {p : Program} {l : Launch} {e : Env} {s : State} {m : MethodId} {below : List Frame} {meth : Method} {c : Code} {b : Nat} {xs : Nat → Int32} {X : EX} {q0 m0 : Nat} {u : Nat → Nat} {w : (Nat → Nat) × (Nat → Int32)} (S : CallFix p m c cL_law 4 s #[Value.ref b] wsL_law RL) (hX : va_X b 6 xs s s.heap) (hbl : b < s.heap.size) (zr : meth.sig.returnType = ret) (zlk : meth.locks = false) (hz : ∀ j : Nat, j ≠ 36 → w.2 j = 0) (h36 : w.2 36 = 20) {H : Heap} {locs : List Loc} (G : wd X (fun q : Nat => s.heap.size ≤ q) (fun q : Nat => s.heap.size ≤ q) s (lwW X q0 m0 u w) H locs) {ls : Array Slot} (hl : lv_has ls 4 [(3, .int 0), (2, .ref m0), (1, .ref q0), (0, .ref b)]) : W p l e room_1 s m #[Value.ref b] below meth c H locs 94 3522 (lw_Z below #[Value.ref b] s) (F0 m 905 ls []) := by
  have zx := S.1
  have zb := S.2.1
  have hbA : ¬ (fun q : Nat => s.heap.size ≤ q) b := Nat.not_le.mpr hbl
  have G : wd X (fun q : Nat => s.heap.size ≤ q) (fun q : Nat => s.heap.size ≤ q) s [(q0, .inr (8, [.ref (u 0), .ref (u 16), .ref (u 32), .ref (u 65), .ref (u 66), .ref (u 68), .long (Int32.toInt64 0), .long (Int32.toInt64 1), .ref (u 69), .ref (u 70), .ref (u 71), .ref (u 72), .ref (u 73), .ref (u 74)])), ((u 0), .inr (3, [.int 20, .int 0, .int 0, .ref (u 1), .ref (u 8), .ref (u 10), .ref (u 12), .ref (u 14)])), ((u 10), .inr (5, [.int 5, .int 0, .int 1, .ref (u 11), .int 0])), ((u 12), .inr (5, [.int 6, .int 1, .int 1, .ref (u 13), .int 0])), ((u 14), .inr (5, [.int 6, .int 0, .int 0, .ref (u 15), .int 0])), ((u 68), .inl (X.2.1, 3, .inl (fun _ => 0))), (m0, .inr (9, [.ref (w.1 0), .ref (w.1 1), .ref (w.1 2), .ref (w.1 3), .long 0, .long (Int32.toInt64 1), .ref (w.1 4), .ref (w.1 5), .ref (w.1 6), .ref (w.1 7), .ref (w.1 8), .int 0, .int 0, .int 0, .int 0, .int 0, .ref (w.1 9), .ref (w.1 10)])), ((w.1 0), .inl (X.2.1, 371, .inl w.2)), ((w.1 3), .inl (X.2.1, 3, .inl (fun _ => 0)))] H locs := wd_sub G [0, 1, 11, 13, 15, 61, 62, 63, 66] rfl (by decide)
  refine lv_aload_n zx zb dL_law_905 rfl (lv_at hl 2 rfl) ?_
  refine lv_aload_n zx zb dL_law_906 rfl (lv_at hl 3 rfl) ?_
  refine lv_iload_n zx zb dL_law_907 rfl (lv_at hl 0 rfl) ?_
  refine lv_iconst (v := 1) zx zb dL_law_908 (by decide) ?_
  refine r_iadd (v := 1) S (by decide) dL_law_909 ?_
  refine va_sld zx zb hX hbl hbA G.2.2.2.1 (k_vp (by decide)) dL_law_910 ?_
  refine k_it (v := xs 1) rfl ?_
  refine o_wi (cells' := 94) (slots' := 3522) (wr := [(m0, .inr (9, [.ref (w.1 0), .ref (w.1 1), .ref (w.1 2), .ref (w.1 3), .long 0, .long (Int32.toInt64 1), .ref (w.1 4), .ref (w.1 5), .ref (w.1 6), .ref (w.1 7), .ref (w.1 8), .int 0, .int 0, .int 0, .int 0, .int 0, .ref (w.1 9), .ref (w.1 10)])), ((w.1 0), .inl (X.2.1, 371, .inl w.2)), ((w.1 3), .inl (X.2.1, 3, .inl (fun _ => 0)))]) G rfl rfl [0, 1, 2, 3, 4, 5] [6, 7, 8] rfl rfl (by decide) (by decide) (n_V (As := [.int (xs 1)]) (rest := []) (C := RX10) (T := TX10) (N := 14) (ci := 8) S G (c_forget l X q0 ([.ref (u 0), .ref (u 16), .ref (u 32), .ref (u 65), .ref (u 66), .ref (u 68), .long (Int32.toInt64 0), .long (Int32.toInt64 1), .ref (u 69), .ref (u 70), .ref (u 71), .ref (u 72), .ref (u 73), .ref (u 74)]) (u 0) ([.int 20, .int 0, .int 0, .ref (u 1), .ref (u 8), .ref (u 10), .ref (u 12), .ref (u 14)]) (u 10) (u 12) (u 14) (.int 5) (.int 0) (.int 1) (.ref (u 11)) (.int 6) (.int 1) (.int 1) (.ref (u 13)) (.int 6) (.int 0) (.int 0) (.ref (u 15)) (u 68) (fun _ => 0) (xs 1) rfl rfl rfl rfl rfl H.size) gL_law_X10_forget rfl rfl rfl hdV_X10_forget ⟨Nat.le_of_ble_eq_true rfl, Nat.le_of_ble_eq_true rfl⟩ [0, 1, 2, 3, 4, 5] rfl (by decide) 0 rfl rfl rfl hl.1 (Nat.le_of_ble_eq_true rfl) dL_law_911 ⟨Nat.le_of_ble_eq_true rfl, Nat.le_of_ble_eq_true rfl⟩) (fun r_1 u_1 H locs hp_1 G => ?_)
  have G : wd X (fun q : Nat => s.heap.size ≤ q) (fun q : Nat => s.heap.size ≤ q) s [(m0, .inr (9, [.ref (w.1 0), .ref (w.1 1), .ref (w.1 2), .ref (w.1 3), .long 0, .long (Int32.toInt64 1), .ref (w.1 4), .ref (w.1 5), .ref (w.1 6), .ref (w.1 7), .ref (w.1 8), .int 0, .int 0, .int 0, .int 0, .int 0, .ref (w.1 9), .ref (w.1 10)])), ((w.1 0), .inl (X.2.1, 371, .inl w.2)), ((w.1 3), .inl (X.2.1, 3, .inl (fun _ => 0)))] H locs := G
  refine lv_aload_n zx zb dL_law_914 rfl (lv_at hl 1 rfl) ?_
  refine lv_aload_n zx zb dL_law_915 rfl (lv_at hl 3 rfl) ?_
  refine lv_iload_n zx zb dL_law_916 rfl (lv_at hl 0 rfl) ?_
  refine lv_iconst (v := 1) zx zb dL_law_917 (by decide) ?_
  refine r_iadd (v := 1) S (by decide) dL_law_918 ?_
  refine va_sld zx zb hX hbl hbA G.2.2.2.1 (k_vp (by decide)) dL_law_919 ?_
  refine k_it (v := xs 1) rfl ?_
  refine o_wi (cells' := 94) (slots' := 3522) (wr := []) G rfl rfl [0, 1, 2] [] rfl rfl (by decide) (by decide) (n_V (As := [.int (xs 1)]) (rest := [.int r_1]) (C := RX11) (T := TX11) (N := 18) (ci := 9) S G (m_forget l X m0 ([.ref (w.1 0), .ref (w.1 1), .ref (w.1 2), .ref (w.1 3), .long 0, .long (Int32.toInt64 1), .ref (w.1 4), .ref (w.1 5), .ref (w.1 6), .ref (w.1 7), .ref (w.1 8), .int 0, .int 0, .int 0, .int 0, .int 0, .ref (w.1 9), .ref (w.1 10)]) (w.1 0) w.2 (w.1 3) (fun _ => 0) (xs 1) rfl rfl hz h36 H.size) gL_law_X11_forget rfl rfl rfl hdV_X11_forget ⟨Nat.le_of_ble_eq_true rfl, Nat.le_of_ble_eq_true rfl⟩ [0, 1, 2] rfl (by decide) 0 rfl rfl rfl hl.1 (Nat.le_of_ble_eq_true rfl) dL_law_920 ⟨Nat.le_of_ble_eq_true rfl, Nat.le_of_ble_eq_true rfl⟩) (fun r_2 u_2 H locs hp_2 G => ?_)
  have G : wd X (fun q : Nat => s.heap.size ≤ q) (fun q : Nat => s.heap.size ≤ q) s [] H locs := G
  refine lv_icmp_eq (tgt := 1279) zx zb dL_law_923 (by decide) (fun c_3 => ?_) (fun c_3 => absurd (hp_1.trans hp_2.symm) c_3)
  exact law_end (Nat.le_of_ble_eq_true rfl) (Nat.le_of_ble_eq_true rfl) S hX hbl zr zlk G hl
theorem hdV_X10_is : yX10_is.cls = RX10 ∧ yX10_is.cls ≠ "java/lang/invoke/MethodHandle" ∧ yX10_is.cls ≠ "java/lang/invoke/VarHandle" ∧ (parseMethodDescriptor yX10_is.desc).map (fun d => d.parameters.length) = some 1 := by decide +kernel
theorem hdV_X11_is : yX11_is.cls = RX11 ∧ yX11_is.cls ≠ "java/lang/invoke/MethodHandle" ∧ yX11_is.cls ≠ "java/lang/invoke/VarHandle" ∧ (parseMethodDescriptor yX11_is.desc).map (fun d => d.parameters.length) = some 1 := by decide +kernel
set_option maxRecDepth 100000 in
set_option maxHeartbeats 4000000 in
/-- is -/
theorem law_c24 {p : Program} {l : Launch} {e : Env} {s : State} {m : MethodId} {below : List Frame} {meth : Method} {c : Code} {b : Nat} {xs : Nat → Int32} {X : EX} {q0 m0 : Nat} {u : Nat → Nat} {w : (Nat → Nat) × (Nat → Int32)} (S : CallFix p m c cL_law 4 s #[Value.ref b] wsL_law RL) (hX : va_X b 6 xs s s.heap) (hbl : b < s.heap.size) (zr : meth.sig.returnType = ret) (zlk : meth.locks = false) (hz : ∀ j : Nat, j ≠ 36 → w.2 j = 0) (h36 : w.2 36 = 20) {H : Heap} {locs : List Loc} (G : wd X (fun q : Nat => s.heap.size ≤ q) (fun q : Nat => s.heap.size ≤ q) s (lwW X q0 m0 u w) H locs) {ls : Array Slot} (hl : lv_has ls 4 [(3, .int 0), (2, .ref m0), (1, .ref q0), (0, .ref b)]) : W p l e room_1 s m #[Value.ref b] below meth c H locs 94 3522 (lw_Z below #[Value.ref b] s) (F0 m 928 ls []) := by
  have zx := S.1
  have zb := S.2.1
  have hbA : ¬ (fun q : Nat => s.heap.size ≤ q) b := Nat.not_le.mpr hbl
  have G : wd X (fun q : Nat => s.heap.size ≤ q) (fun q : Nat => s.heap.size ≤ q) s [(q0, .inr (8, [.ref (u 0), .ref (u 16), .ref (u 32), .ref (u 65), .ref (u 66), .ref (u 68), .long (Int32.toInt64 0), .long (Int32.toInt64 1), .ref (u 69), .ref (u 70), .ref (u 71), .ref (u 72), .ref (u 73), .ref (u 74)])), ((u 0), .inr (3, [.int 20, .int 0, .int 0, .ref (u 1), .ref (u 8), .ref (u 10), .ref (u 12), .ref (u 14)])), ((u 68), .inl (X.2.1, 3, .inl (fun _ => 0))), (m0, .inr (9, [.ref (w.1 0), .ref (w.1 1), .ref (w.1 2), .ref (w.1 3), .long 0, .long (Int32.toInt64 1), .ref (w.1 4), .ref (w.1 5), .ref (w.1 6), .ref (w.1 7), .ref (w.1 8), .int 0, .int 0, .int 0, .int 0, .int 0, .ref (w.1 9), .ref (w.1 10)])), ((w.1 0), .inl (X.2.1, 371, .inl w.2)), ((w.1 3), .inl (X.2.1, 3, .inl (fun _ => 0)))] H locs := wd_sub G [0, 1, 61, 62, 63, 66] rfl (by decide)
  refine lv_aload_n zx zb dL_law_928 rfl (lv_at hl 2 rfl) ?_
  refine lv_aload_n zx zb dL_law_929 rfl (lv_at hl 3 rfl) ?_
  refine lv_iload_n zx zb dL_law_930 rfl (lv_at hl 0 rfl) ?_
  refine lv_iconst (v := 1) zx zb dL_law_931 (by decide) ?_
  refine r_iadd (v := 1) S (by decide) dL_law_932 ?_
  refine va_sld zx zb hX hbl hbA G.2.2.2.1 (k_vp (by decide)) dL_law_933 ?_
  refine k_it (v := xs 1) rfl ?_
  refine o_wi (cells' := 94) (slots' := 3522) (wr := [(m0, .inr (9, [.ref (w.1 0), .ref (w.1 1), .ref (w.1 2), .ref (w.1 3), .long 0, .long (Int32.toInt64 1), .ref (w.1 4), .ref (w.1 5), .ref (w.1 6), .ref (w.1 7), .ref (w.1 8), .int 0, .int 0, .int 0, .int 0, .int 0, .ref (w.1 9), .ref (w.1 10)])), ((w.1 0), .inl (X.2.1, 371, .inl w.2)), ((w.1 3), .inl (X.2.1, 3, .inl (fun _ => 0)))]) G rfl rfl [0, 1, 2] [3, 4, 5] rfl rfl (by decide) (by decide) (n_V (As := [.int (xs 1)]) (rest := []) (C := RX10) (T := TX10) (N := 14) (ci := 8) S G (c_is l X q0 ([.ref (u 0), .ref (u 16), .ref (u 32), .ref (u 65), .ref (u 66), .ref (u 68), .long (Int32.toInt64 0), .long (Int32.toInt64 1), .ref (u 69), .ref (u 70), .ref (u 71), .ref (u 72), .ref (u 73), .ref (u 74)]) (u 0) ([.int 20, .int 0, .int 0, .ref (u 1), .ref (u 8), .ref (u 10), .ref (u 12), .ref (u 14)]) (u 68) (fun _ => 0) (xs 1) rfl rfl rfl H.size) gL_law_X10_is rfl rfl rfl hdV_X10_is ⟨Nat.le_of_ble_eq_true rfl, Nat.le_of_ble_eq_true rfl⟩ [0, 1, 2] rfl (by decide) 0 rfl rfl rfl hl.1 (Nat.le_of_ble_eq_true rfl) dL_law_934 ⟨Nat.le_of_ble_eq_true rfl, Nat.le_of_ble_eq_true rfl⟩) (fun r_1 u_1 H locs hp_1 G => ?_)
  have G : wd X (fun q : Nat => s.heap.size ≤ q) (fun q : Nat => s.heap.size ≤ q) s [(m0, .inr (9, [.ref (w.1 0), .ref (w.1 1), .ref (w.1 2), .ref (w.1 3), .long 0, .long (Int32.toInt64 1), .ref (w.1 4), .ref (w.1 5), .ref (w.1 6), .ref (w.1 7), .ref (w.1 8), .int 0, .int 0, .int 0, .int 0, .int 0, .ref (w.1 9), .ref (w.1 10)])), ((w.1 0), .inl (X.2.1, 371, .inl w.2)), ((w.1 3), .inl (X.2.1, 3, .inl (fun _ => 0)))] H locs := G
  refine lv_aload_n zx zb dL_law_937 rfl (lv_at hl 1 rfl) ?_
  refine lv_aload_n zx zb dL_law_938 rfl (lv_at hl 3 rfl) ?_
  refine lv_iload_n zx zb dL_law_939 rfl (lv_at hl 0 rfl) ?_
  refine lv_iconst (v := 1) zx zb dL_law_940 (by decide) ?_
  refine r_iadd (v := 1) S (by decide) dL_law_941 ?_
  refine va_sld zx zb hX hbl hbA G.2.2.2.1 (k_vp (by decide)) dL_law_942 ?_
  refine k_it (v := xs 1) rfl ?_
  refine o_wi (cells' := 94) (slots' := 3522) (wr := []) G rfl rfl [0, 1, 2] [] rfl rfl (by decide) (by decide) (n_V (As := [.int (xs 1)]) (rest := [.int r_1]) (C := RX11) (T := TX11) (N := 18) (ci := 9) S G (m_is l X m0 ([.ref (w.1 0), .ref (w.1 1), .ref (w.1 2), .ref (w.1 3), .long 0, .long (Int32.toInt64 1), .ref (w.1 4), .ref (w.1 5), .ref (w.1 6), .ref (w.1 7), .ref (w.1 8), .int 0, .int 0, .int 0, .int 0, .int 0, .ref (w.1 9), .ref (w.1 10)]) (w.1 0) w.2 (w.1 3) (fun _ => 0) (xs 1) rfl rfl (hz 0 (by decide)) H.size) gL_law_X11_is rfl rfl rfl hdV_X11_is ⟨Nat.le_of_ble_eq_true rfl, Nat.le_of_ble_eq_true rfl⟩ [0, 1, 2] rfl (by decide) 0 rfl rfl rfl hl.1 (Nat.le_of_ble_eq_true rfl) dL_law_943 ⟨Nat.le_of_ble_eq_true rfl, Nat.le_of_ble_eq_true rfl⟩) (fun r_2 u_2 H locs hp_2 G => ?_)
  have G : wd X (fun q : Nat => s.heap.size ≤ q) (fun q : Nat => s.heap.size ≤ q) s [] H locs := G
  refine lv_icmp_eq (tgt := 1279) zx zb dL_law_946 (by decide) (fun c_3 => ?_) (fun c_3 => absurd (hp_1.trans hp_2.symm) c_3)
  exact law_end (Nat.le_of_ble_eq_true rfl) (Nat.le_of_ble_eq_true rfl) S hX hbl zr zlk G hl
theorem hdV_X10_look : yX10_look.cls = RX10 ∧ yX10_look.cls ≠ "java/lang/invoke/MethodHandle" ∧ yX10_look.cls ≠ "java/lang/invoke/VarHandle" ∧ (parseMethodDescriptor yX10_look.desc).map (fun d => d.parameters.length) = some 1 := by decide +kernel
theorem hdV_X11_look : yX11_look.cls = RX11 ∧ yX11_look.cls ≠ "java/lang/invoke/MethodHandle" ∧ yX11_look.cls ≠ "java/lang/invoke/VarHandle" ∧ (parseMethodDescriptor yX11_look.desc).map (fun d => d.parameters.length) = some 1 := by decide +kernel
set_option maxRecDepth 100000 in
set_option maxHeartbeats 4000000 in
/-- look -/
theorem law_c25 {p : Program} {l : Launch} {e : Env} {s : State} {m : MethodId} {below : List Frame} {meth : Method} {c : Code} {b : Nat} {xs : Nat → Int32} {X : EX} {q0 m0 : Nat} {u : Nat → Nat} {w : (Nat → Nat) × (Nat → Int32)} (S : CallFix p m c cL_law 4 s #[Value.ref b] wsL_law RL) (hX : va_X b 6 xs s s.heap) (hbl : b < s.heap.size) (zr : meth.sig.returnType = ret) (zlk : meth.locks = false) (hz : ∀ j : Nat, j ≠ 36 → w.2 j = 0) (h36 : w.2 36 = 20) {H : Heap} {locs : List Loc} (G : wd X (fun q : Nat => s.heap.size ≤ q) (fun q : Nat => s.heap.size ≤ q) s (lwW X q0 m0 u w) H locs) {ls : Array Slot} (hl : lv_has ls 4 [(3, .int 0), (2, .ref m0), (1, .ref q0), (0, .ref b)]) : W p l e room_1 s m #[Value.ref b] below meth c H locs 94 3522 (lw_Z below #[Value.ref b] s) (F0 m 951 ls []) := by
  have zx := S.1
  have zb := S.2.1
  have hbA : ¬ (fun q : Nat => s.heap.size ≤ q) b := Nat.not_le.mpr hbl
  have G : wd X (fun q : Nat => s.heap.size ≤ q) (fun q : Nat => s.heap.size ≤ q) s [(q0, .inr (8, [.ref (u 0), .ref (u 16), .ref (u 32), .ref (u 65), .ref (u 66), .ref (u 68), .long (Int32.toInt64 0), .long (Int32.toInt64 1), .ref (u 69), .ref (u 70), .ref (u 71), .ref (u 72), .ref (u 73), .ref (u 74)])), ((u 0), .inr (3, [.int 20, .int 0, .int 0, .ref (u 1), .ref (u 8), .ref (u 10), .ref (u 12), .ref (u 14)])), ((u 68), .inl (X.2.1, 3, .inl (fun _ => 0))), (m0, .inr (9, [.ref (w.1 0), .ref (w.1 1), .ref (w.1 2), .ref (w.1 3), .long 0, .long (Int32.toInt64 1), .ref (w.1 4), .ref (w.1 5), .ref (w.1 6), .ref (w.1 7), .ref (w.1 8), .int 0, .int 0, .int 0, .int 0, .int 0, .ref (w.1 9), .ref (w.1 10)])), ((w.1 0), .inl (X.2.1, 371, .inl w.2)), ((w.1 3), .inl (X.2.1, 3, .inl (fun _ => 0)))] H locs := wd_sub G [0, 1, 61, 62, 63, 66] rfl (by decide)
  refine lv_aload_n zx zb dL_law_951 rfl (lv_at hl 2 rfl) ?_
  refine lv_aload_n zx zb dL_law_952 rfl (lv_at hl 3 rfl) ?_
  refine lv_iload_n zx zb dL_law_953 rfl (lv_at hl 0 rfl) ?_
  refine lv_iconst (v := 1) zx zb dL_law_954 (by decide) ?_
  refine r_iadd (v := 1) S (by decide) dL_law_955 ?_
  refine va_sld zx zb hX hbl hbA G.2.2.2.1 (k_vp (by decide)) dL_law_956 ?_
  refine k_it (v := xs 1) rfl ?_
  refine o_wi (cells' := 94) (slots' := 3522) (wr := [(m0, .inr (9, [.ref (w.1 0), .ref (w.1 1), .ref (w.1 2), .ref (w.1 3), .long 0, .long (Int32.toInt64 1), .ref (w.1 4), .ref (w.1 5), .ref (w.1 6), .ref (w.1 7), .ref (w.1 8), .int 0, .int 0, .int 0, .int 0, .int 0, .ref (w.1 9), .ref (w.1 10)])), ((w.1 0), .inl (X.2.1, 371, .inl w.2)), ((w.1 3), .inl (X.2.1, 3, .inl (fun _ => 0)))]) G rfl rfl [0, 1, 2] [3, 4, 5] rfl rfl (by decide) (by decide) (n_V (As := [.int (xs 1)]) (rest := []) (C := RX10) (T := TX10) (N := 14) (ci := 8) S G (c_look l X q0 ([.ref (u 0), .ref (u 16), .ref (u 32), .ref (u 65), .ref (u 66), .ref (u 68), .long (Int32.toInt64 0), .long (Int32.toInt64 1), .ref (u 69), .ref (u 70), .ref (u 71), .ref (u 72), .ref (u 73), .ref (u 74)]) (u 0) ([.int 20, .int 0, .int 0, .ref (u 1), .ref (u 8), .ref (u 10), .ref (u 12), .ref (u 14)]) (u 68) (fun _ => 0) (xs 1) rfl rfl rfl H.size) gL_law_X10_look rfl rfl rfl hdV_X10_look ⟨Nat.le_of_ble_eq_true rfl, Nat.le_of_ble_eq_true rfl⟩ [0, 1, 2] rfl (by decide) 0 rfl rfl rfl hl.1 (Nat.le_of_ble_eq_true rfl) dL_law_957 ⟨Nat.le_of_ble_eq_true rfl, Nat.le_of_ble_eq_true rfl⟩) (fun r_1 u_1 H locs hp_1 G => ?_)
  have G : wd X (fun q : Nat => s.heap.size ≤ q) (fun q : Nat => s.heap.size ≤ q) s [(m0, .inr (9, [.ref (w.1 0), .ref (w.1 1), .ref (w.1 2), .ref (w.1 3), .long 0, .long (Int32.toInt64 1), .ref (w.1 4), .ref (w.1 5), .ref (w.1 6), .ref (w.1 7), .ref (w.1 8), .int 0, .int 0, .int 0, .int 0, .int 0, .ref (w.1 9), .ref (w.1 10)])), ((w.1 0), .inl (X.2.1, 371, .inl w.2)), ((w.1 3), .inl (X.2.1, 3, .inl (fun _ => 0)))] H locs := G
  refine lv_aload_n zx zb dL_law_960 rfl (lv_at hl 1 rfl) ?_
  refine lv_aload_n zx zb dL_law_961 rfl (lv_at hl 3 rfl) ?_
  refine lv_iload_n zx zb dL_law_962 rfl (lv_at hl 0 rfl) ?_
  refine lv_iconst (v := 1) zx zb dL_law_963 (by decide) ?_
  refine r_iadd (v := 1) S (by decide) dL_law_964 ?_
  refine va_sld zx zb hX hbl hbA G.2.2.2.1 (k_vp (by decide)) dL_law_965 ?_
  refine k_it (v := xs 1) rfl ?_
  refine o_wi (cells' := 94) (slots' := 3522) (wr := []) G rfl rfl [0, 1, 2] [] rfl rfl (by decide) (by decide) (n_V (As := [.int (xs 1)]) (rest := [.int r_1]) (C := RX11) (T := TX11) (N := 18) (ci := 9) S G (m_look l X m0 ([.ref (w.1 0), .ref (w.1 1), .ref (w.1 2), .ref (w.1 3), .long 0, .long (Int32.toInt64 1), .ref (w.1 4), .ref (w.1 5), .ref (w.1 6), .ref (w.1 7), .ref (w.1 8), .int 0, .int 0, .int 0, .int 0, .int 0, .ref (w.1 9), .ref (w.1 10)]) (w.1 0) w.2 (w.1 3) (fun _ => 0) (xs 1) rfl rfl (hz 0 (by decide)) H.size) gL_law_X11_look rfl rfl rfl hdV_X11_look ⟨Nat.le_of_ble_eq_true rfl, Nat.le_of_ble_eq_true rfl⟩ [0, 1, 2] rfl (by decide) 0 rfl rfl rfl hl.1 (Nat.le_of_ble_eq_true rfl) dL_law_966 ⟨Nat.le_of_ble_eq_true rfl, Nat.le_of_ble_eq_true rfl⟩) (fun r_2 u_2 H locs hp_2 G => ?_)
  have G : wd X (fun q : Nat => s.heap.size ≤ q) (fun q : Nat => s.heap.size ≤ q) s [] H locs := G
  refine lv_icmp_eq (tgt := 1279) zx zb dL_law_969 (by decide) (fun c_3 => ?_) (fun c_3 => absurd (hp_1.trans hp_2.symm) c_3)
  exact law_end (Nat.le_of_ble_eq_true rfl) (Nat.le_of_ble_eq_true rfl) S hX hbl zr zlk G hl
theorem hdV_X10_kinds : yX10_kinds.cls = RX10 ∧ yX10_kinds.cls ≠ "java/lang/invoke/MethodHandle" ∧ yX10_kinds.cls ≠ "java/lang/invoke/VarHandle" ∧ (parseMethodDescriptor yX10_kinds.desc).map (fun d => d.parameters.length) = some 1 := by decide +kernel
theorem hdV_X11_kinds : yX11_kinds.cls = RX11 ∧ yX11_kinds.cls ≠ "java/lang/invoke/MethodHandle" ∧ yX11_kinds.cls ≠ "java/lang/invoke/VarHandle" ∧ (parseMethodDescriptor yX11_kinds.desc).map (fun d => d.parameters.length) = some 1 := by decide +kernel
set_option maxRecDepth 100000 in
set_option maxHeartbeats 4000000 in
/-- kinds -/
theorem law_c26 {p : Program} {l : Launch} {e : Env} {s : State} {m : MethodId} {below : List Frame} {meth : Method} {c : Code} {b : Nat} {xs : Nat → Int32} {X : EX} {q0 m0 : Nat} {u : Nat → Nat} {w : (Nat → Nat) × (Nat → Int32)} (S : CallFix p m c cL_law 4 s #[Value.ref b] wsL_law RL) (hX : va_X b 6 xs s s.heap) (hbl : b < s.heap.size) (zr : meth.sig.returnType = ret) (zlk : meth.locks = false) (hz : ∀ j : Nat, j ≠ 36 → w.2 j = 0) (h36 : w.2 36 = 20) {H : Heap} {locs : List Loc} (G : wd X (fun q : Nat => s.heap.size ≤ q) (fun q : Nat => s.heap.size ≤ q) s (lwW X q0 m0 u w) H locs) {ls : Array Slot} (hl : lv_has ls 4 [(3, .int 0), (2, .ref m0), (1, .ref q0), (0, .ref b)]) : W p l e room_1 s m #[Value.ref b] below meth c H locs 94 3522 (lw_Z below #[Value.ref b] s) (F0 m 974 ls []) := by
  have zx := S.1
  have zb := S.2.1
  have hbA : ¬ (fun q : Nat => s.heap.size ≤ q) b := Nat.not_le.mpr hbl
  have G : wd X (fun q : Nat => s.heap.size ≤ q) (fun q : Nat => s.heap.size ≤ q) s [(q0, .inr (8, [.ref (u 0), .ref (u 16), .ref (u 32), .ref (u 65), .ref (u 66), .ref (u 68), .long (Int32.toInt64 0), .long (Int32.toInt64 1), .ref (u 69), .ref (u 70), .ref (u 71), .ref (u 72), .ref (u 73), .ref (u 74)])), ((u 0), .inr (3, [.int 20, .int 0, .int 0, .ref (u 1), .ref (u 8), .ref (u 10), .ref (u 12), .ref (u 14)])), ((u 68), .inl (X.2.1, 3, .inl (fun _ => 0))), (m0, .inr (9, [.ref (w.1 0), .ref (w.1 1), .ref (w.1 2), .ref (w.1 3), .long 0, .long (Int32.toInt64 1), .ref (w.1 4), .ref (w.1 5), .ref (w.1 6), .ref (w.1 7), .ref (w.1 8), .int 0, .int 0, .int 0, .int 0, .int 0, .ref (w.1 9), .ref (w.1 10)])), ((w.1 0), .inl (X.2.1, 371, .inl w.2)), ((w.1 3), .inl (X.2.1, 3, .inl (fun _ => 0)))] H locs := wd_sub G [0, 1, 61, 62, 63, 66] rfl (by decide)
  refine lv_aload_n zx zb dL_law_974 rfl (lv_at hl 2 rfl) ?_
  refine lv_aload_n zx zb dL_law_975 rfl (lv_at hl 3 rfl) ?_
  refine lv_iload_n zx zb dL_law_976 rfl (lv_at hl 0 rfl) ?_
  refine lv_iconst (v := 1) zx zb dL_law_977 (by decide) ?_
  refine r_iadd (v := 1) S (by decide) dL_law_978 ?_
  refine va_sld zx zb hX hbl hbA G.2.2.2.1 (k_vp (by decide)) dL_law_979 ?_
  refine k_it (v := xs 1) rfl ?_
  refine o_wi (cells' := 94) (slots' := 3522) (wr := [(m0, .inr (9, [.ref (w.1 0), .ref (w.1 1), .ref (w.1 2), .ref (w.1 3), .long 0, .long (Int32.toInt64 1), .ref (w.1 4), .ref (w.1 5), .ref (w.1 6), .ref (w.1 7), .ref (w.1 8), .int 0, .int 0, .int 0, .int 0, .int 0, .ref (w.1 9), .ref (w.1 10)])), ((w.1 0), .inl (X.2.1, 371, .inl w.2)), ((w.1 3), .inl (X.2.1, 3, .inl (fun _ => 0)))]) G rfl rfl [0, 1, 2] [3, 4, 5] rfl rfl (by decide) (by decide) (n_V (As := [.int (xs 1)]) (rest := []) (C := RX10) (T := TX10) (N := 14) (ci := 8) S G (c_kinds l X q0 ([.ref (u 0), .ref (u 16), .ref (u 32), .ref (u 65), .ref (u 66), .ref (u 68), .long (Int32.toInt64 0), .long (Int32.toInt64 1), .ref (u 69), .ref (u 70), .ref (u 71), .ref (u 72), .ref (u 73), .ref (u 74)]) (u 0) ([.int 20, .int 0, .int 0, .ref (u 1), .ref (u 8), .ref (u 10), .ref (u 12), .ref (u 14)]) (u 68) (fun _ => 0) (xs 1) rfl rfl rfl H.size) gL_law_X10_kinds rfl rfl rfl hdV_X10_kinds ⟨Nat.le_of_ble_eq_true rfl, Nat.le_of_ble_eq_true rfl⟩ [0, 1, 2] rfl (by decide) 0 rfl rfl rfl hl.1 (Nat.le_of_ble_eq_true rfl) dL_law_980 ⟨Nat.le_of_ble_eq_true rfl, Nat.le_of_ble_eq_true rfl⟩) (fun r_1 u_1 H locs hp_1 G => ?_)
  have G : wd X (fun q : Nat => s.heap.size ≤ q) (fun q : Nat => s.heap.size ≤ q) s [(m0, .inr (9, [.ref (w.1 0), .ref (w.1 1), .ref (w.1 2), .ref (w.1 3), .long 0, .long (Int32.toInt64 1), .ref (w.1 4), .ref (w.1 5), .ref (w.1 6), .ref (w.1 7), .ref (w.1 8), .int 0, .int 0, .int 0, .int 0, .int 0, .ref (w.1 9), .ref (w.1 10)])), ((w.1 0), .inl (X.2.1, 371, .inl w.2)), ((w.1 3), .inl (X.2.1, 3, .inl (fun _ => 0)))] H locs := G
  refine lv_aload_n zx zb dL_law_983 rfl (lv_at hl 1 rfl) ?_
  refine lv_aload_n zx zb dL_law_984 rfl (lv_at hl 3 rfl) ?_
  refine lv_iload_n zx zb dL_law_985 rfl (lv_at hl 0 rfl) ?_
  refine lv_iconst (v := 1) zx zb dL_law_986 (by decide) ?_
  refine r_iadd (v := 1) S (by decide) dL_law_987 ?_
  refine va_sld zx zb hX hbl hbA G.2.2.2.1 (k_vp (by decide)) dL_law_988 ?_
  refine k_it (v := xs 1) rfl ?_
  refine o_wi (cells' := 94) (slots' := 3522) (wr := []) G rfl rfl [0, 1, 2] [] rfl rfl (by decide) (by decide) (n_V (As := [.int (xs 1)]) (rest := [.int r_1]) (C := RX11) (T := TX11) (N := 18) (ci := 9) S G (m_kinds l X m0 ([.ref (w.1 0), .ref (w.1 1), .ref (w.1 2), .ref (w.1 3), .long 0, .long (Int32.toInt64 1), .ref (w.1 4), .ref (w.1 5), .ref (w.1 6), .ref (w.1 7), .ref (w.1 8), .int 0, .int 0, .int 0, .int 0, .int 0, .ref (w.1 9), .ref (w.1 10)]) (w.1 0) w.2 (w.1 3) (fun _ => 0) (xs 1) rfl rfl (hz 0 (by decide)) H.size) gL_law_X11_kinds rfl rfl rfl hdV_X11_kinds ⟨Nat.le_of_ble_eq_true rfl, Nat.le_of_ble_eq_true rfl⟩ [0, 1, 2] rfl (by decide) 0 rfl rfl rfl hl.1 (Nat.le_of_ble_eq_true rfl) dL_law_989 ⟨Nat.le_of_ble_eq_true rfl, Nat.le_of_ble_eq_true rfl⟩) (fun r_2 u_2 H locs hp_2 G => ?_)
  have G : wd X (fun q : Nat => s.heap.size ≤ q) (fun q : Nat => s.heap.size ≤ q) s [] H locs := G
  refine lv_icmp_eq (tgt := 1279) zx zb dL_law_992 (by decide) (fun c_3 => ?_) (fun c_3 => absurd (hp_1.trans hp_2.symm) c_3)
  exact law_end (Nat.le_of_ble_eq_true rfl) (Nat.le_of_ble_eq_true rfl) S hX hbl zr zlk G hl
theorem hdV_X10_ask : yX10_ask.cls = RX10 ∧ yX10_ask.cls ≠ "java/lang/invoke/MethodHandle" ∧ yX10_ask.cls ≠ "java/lang/invoke/VarHandle" ∧ (parseMethodDescriptor yX10_ask.desc).map (fun d => d.parameters.length) = some 1 := by decide +kernel
theorem hdV_X11_ask : yX11_ask.cls = RX11 ∧ yX11_ask.cls ≠ "java/lang/invoke/MethodHandle" ∧ yX11_ask.cls ≠ "java/lang/invoke/VarHandle" ∧ (parseMethodDescriptor yX11_ask.desc).map (fun d => d.parameters.length) = some 1 := by decide +kernel
set_option maxRecDepth 100000 in
set_option maxHeartbeats 4000000 in
/-- ask -/
theorem law_c27 {p : Program} {l : Launch} {e : Env} {s : State} {m : MethodId} {below : List Frame} {meth : Method} {c : Code} {b : Nat} {xs : Nat → Int32} {X : EX} {q0 m0 : Nat} {u : Nat → Nat} {w : (Nat → Nat) × (Nat → Int32)} (S : CallFix p m c cL_law 4 s #[Value.ref b] wsL_law RL) (hX : va_X b 6 xs s s.heap) (hbl : b < s.heap.size) (zr : meth.sig.returnType = ret) (zlk : meth.locks = false) (hz : ∀ j : Nat, j ≠ 36 → w.2 j = 0) (h36 : w.2 36 = 20) {H : Heap} {locs : List Loc} (G : wd X (fun q : Nat => s.heap.size ≤ q) (fun q : Nat => s.heap.size ≤ q) s (lwW X q0 m0 u w) H locs) {ls : Array Slot} (hl : lv_has ls 4 [(3, .int 0), (2, .ref m0), (1, .ref q0), (0, .ref b)]) : W p l e room_1 s m #[Value.ref b] below meth c H locs 94 3522 (lw_Z below #[Value.ref b] s) (F0 m 997 ls []) := by
  have zx := S.1
  have zb := S.2.1
  have hbA : ¬ (fun q : Nat => s.heap.size ≤ q) b := Nat.not_le.mpr hbl
  have G : wd X (fun q : Nat => s.heap.size ≤ q) (fun q : Nat => s.heap.size ≤ q) s [(q0, .inr (8, [.ref (u 0), .ref (u 16), .ref (u 32), .ref (u 65), .ref (u 66), .ref (u 68), .long (Int32.toInt64 0), .long (Int32.toInt64 1), .ref (u 69), .ref (u 70), .ref (u 71), .ref (u 72), .ref (u 73), .ref (u 74)])), ((u 0), .inr (3, [.int 20, .int 0, .int 0, .ref (u 1), .ref (u 8), .ref (u 10), .ref (u 12), .ref (u 14)])), ((u 68), .inl (X.2.1, 3, .inl (fun _ => 0))), (m0, .inr (9, [.ref (w.1 0), .ref (w.1 1), .ref (w.1 2), .ref (w.1 3), .long 0, .long (Int32.toInt64 1), .ref (w.1 4), .ref (w.1 5), .ref (w.1 6), .ref (w.1 7), .ref (w.1 8), .int 0, .int 0, .int 0, .int 0, .int 0, .ref (w.1 9), .ref (w.1 10)])), ((w.1 0), .inl (X.2.1, 371, .inl w.2)), ((w.1 3), .inl (X.2.1, 3, .inl (fun _ => 0)))] H locs := wd_sub G [0, 1, 61, 62, 63, 66] rfl (by decide)
  refine lv_aload_n zx zb dL_law_997 rfl (lv_at hl 2 rfl) ?_
  refine lv_aload_n zx zb dL_law_998 rfl (lv_at hl 3 rfl) ?_
  refine lv_iload_n zx zb dL_law_999 rfl (lv_at hl 0 rfl) ?_
  refine lv_iconst (v := 1) zx zb dL_law_1000 (by decide) ?_
  refine r_iadd (v := 1) S (by decide) dL_law_1001 ?_
  refine va_sld zx zb hX hbl hbA G.2.2.2.1 (k_vp (by decide)) dL_law_1002 ?_
  refine k_it (v := xs 1) rfl ?_
  refine o_wi (cells' := 94) (slots' := 3522) (wr := [(m0, .inr (9, [.ref (w.1 0), .ref (w.1 1), .ref (w.1 2), .ref (w.1 3), .long 0, .long (Int32.toInt64 1), .ref (w.1 4), .ref (w.1 5), .ref (w.1 6), .ref (w.1 7), .ref (w.1 8), .int 0, .int 0, .int 0, .int 0, .int 0, .ref (w.1 9), .ref (w.1 10)])), ((w.1 0), .inl (X.2.1, 371, .inl w.2)), ((w.1 3), .inl (X.2.1, 3, .inl (fun _ => 0)))]) G rfl rfl [0, 1, 2] [3, 4, 5] rfl rfl (by decide) (by decide) (n_V (As := [.int (xs 1)]) (rest := []) (C := RX10) (T := TX10) (N := 14) (ci := 8) S G (c_ask l X q0 ([.ref (u 0), .ref (u 16), .ref (u 32), .ref (u 65), .ref (u 66), .ref (u 68), .long (Int32.toInt64 0), .long (Int32.toInt64 1), .ref (u 69), .ref (u 70), .ref (u 71), .ref (u 72), .ref (u 73), .ref (u 74)]) (u 0) ([.int 20, .int 0, .int 0, .ref (u 1), .ref (u 8), .ref (u 10), .ref (u 12), .ref (u 14)]) (u 68) (fun _ => 0) (xs 1) rfl rfl rfl H.size) gL_law_X10_ask rfl rfl rfl hdV_X10_ask ⟨Nat.le_of_ble_eq_true rfl, Nat.le_of_ble_eq_true rfl⟩ [0, 1, 2] rfl (by decide) 0 rfl rfl rfl hl.1 (Nat.le_of_ble_eq_true rfl) dL_law_1003 ⟨Nat.le_of_ble_eq_true rfl, Nat.le_of_ble_eq_true rfl⟩) (fun r_1 u_1 H locs hp_1 G => ?_)
  have G : wd X (fun q : Nat => s.heap.size ≤ q) (fun q : Nat => s.heap.size ≤ q) s [(m0, .inr (9, [.ref (w.1 0), .ref (w.1 1), .ref (w.1 2), .ref (w.1 3), .long 0, .long (Int32.toInt64 1), .ref (w.1 4), .ref (w.1 5), .ref (w.1 6), .ref (w.1 7), .ref (w.1 8), .int 0, .int 0, .int 0, .int 0, .int 0, .ref (w.1 9), .ref (w.1 10)])), ((w.1 0), .inl (X.2.1, 371, .inl w.2)), ((w.1 3), .inl (X.2.1, 3, .inl (fun _ => 0)))] H locs := G
  refine lv_aload_n zx zb dL_law_1006 rfl (lv_at hl 1 rfl) ?_
  refine lv_aload_n zx zb dL_law_1007 rfl (lv_at hl 3 rfl) ?_
  refine lv_iload_n zx zb dL_law_1008 rfl (lv_at hl 0 rfl) ?_
  refine lv_iconst (v := 1) zx zb dL_law_1009 (by decide) ?_
  refine r_iadd (v := 1) S (by decide) dL_law_1010 ?_
  refine va_sld zx zb hX hbl hbA G.2.2.2.1 (k_vp (by decide)) dL_law_1011 ?_
  refine k_it (v := xs 1) rfl ?_
  refine o_wi (cells' := 94) (slots' := 3522) (wr := []) G rfl rfl [0, 1, 2] [] rfl rfl (by decide) (by decide) (n_V (As := [.int (xs 1)]) (rest := [.int r_1]) (C := RX11) (T := TX11) (N := 18) (ci := 9) S G (m_ask l X m0 ([.ref (w.1 0), .ref (w.1 1), .ref (w.1 2), .ref (w.1 3), .long 0, .long (Int32.toInt64 1), .ref (w.1 4), .ref (w.1 5), .ref (w.1 6), .ref (w.1 7), .ref (w.1 8), .int 0, .int 0, .int 0, .int 0, .int 0, .ref (w.1 9), .ref (w.1 10)]) (w.1 0) w.2 (w.1 3) (fun _ => 0) (xs 1) rfl rfl (hz 0 (by decide)) H.size) gL_law_X11_ask rfl rfl rfl hdV_X11_ask ⟨Nat.le_of_ble_eq_true rfl, Nat.le_of_ble_eq_true rfl⟩ [0, 1, 2] rfl (by decide) 0 rfl rfl rfl hl.1 (Nat.le_of_ble_eq_true rfl) dL_law_1012 ⟨Nat.le_of_ble_eq_true rfl, Nat.le_of_ble_eq_true rfl⟩) (fun r_2 u_2 H locs hp_2 G => ?_)
  have G : wd X (fun q : Nat => s.heap.size ≤ q) (fun q : Nat => s.heap.size ≤ q) s [] H locs := G
  refine lv_icmp_eq (tgt := 1279) zx zb dL_law_1015 (by decide) (fun c_3 => ?_) (fun c_3 => absurd (hp_1.trans hp_2.symm) c_3)
  exact law_end (Nat.le_of_ble_eq_true rfl) (Nat.le_of_ble_eq_true rfl) S hX hbl zr zlk G hl
theorem hdV_X10_pair : yX10_pair.cls = RX10 ∧ yX10_pair.cls ≠ "java/lang/invoke/MethodHandle" ∧ yX10_pair.cls ≠ "java/lang/invoke/VarHandle" ∧ (parseMethodDescriptor yX10_pair.desc).map (fun d => d.parameters.length) = some 3 := by decide +kernel
theorem hdV_X11_pair : yX11_pair.cls = RX11 ∧ yX11_pair.cls ≠ "java/lang/invoke/MethodHandle" ∧ yX11_pair.cls ≠ "java/lang/invoke/VarHandle" ∧ (parseMethodDescriptor yX11_pair.desc).map (fun d => d.parameters.length) = some 3 := by decide +kernel
set_option maxRecDepth 100000 in
set_option maxHeartbeats 4000000 in
/-- pair -/
theorem law_c28 {p : Program} {l : Launch} {e : Env} {s : State} {m : MethodId} {below : List Frame} {meth : Method} {c : Code} {b : Nat} {xs : Nat → Int32} {X : EX} {q0 m0 : Nat} {u : Nat → Nat} {w : (Nat → Nat) × (Nat → Int32)} (S : CallFix p m c cL_law 4 s #[Value.ref b] wsL_law RL) (hX : va_X b 6 xs s s.heap) (hbl : b < s.heap.size) (zr : meth.sig.returnType = ret) (zlk : meth.locks = false) (hz : ∀ j : Nat, j ≠ 36 → w.2 j = 0) (h36 : w.2 36 = 20) {H : Heap} {locs : List Loc} (G : wd X (fun q : Nat => s.heap.size ≤ q) (fun q : Nat => s.heap.size ≤ q) s (lwW X q0 m0 u w) H locs) {ls : Array Slot} (hl : lv_has ls 4 [(3, .int 0), (2, .ref m0), (1, .ref q0), (0, .ref b)]) : W p l e room_1 s m #[Value.ref b] below meth c H locs 94 3522 (lw_Z below #[Value.ref b] s) (F0 m 1020 ls []) := by
  have zx := S.1
  have zb := S.2.1
  have hbA : ¬ (fun q : Nat => s.heap.size ≤ q) b := Nat.not_le.mpr hbl
  have G : wd X (fun q : Nat => s.heap.size ≤ q) (fun q : Nat => s.heap.size ≤ q) s [(q0, .inr (8, [.ref (u 0), .ref (u 16), .ref (u 32), .ref (u 65), .ref (u 66), .ref (u 68), .long (Int32.toInt64 0), .long (Int32.toInt64 1), .ref (u 69), .ref (u 70), .ref (u 71), .ref (u 72), .ref (u 73), .ref (u 74)])), ((u 0), .inr (3, [.int 20, .int 0, .int 0, .ref (u 1), .ref (u 8), .ref (u 10), .ref (u 12), .ref (u 14)])), ((u 68), .inl (X.2.1, 3, .inl (fun _ => 0))), (m0, .inr (9, [.ref (w.1 0), .ref (w.1 1), .ref (w.1 2), .ref (w.1 3), .long 0, .long (Int32.toInt64 1), .ref (w.1 4), .ref (w.1 5), .ref (w.1 6), .ref (w.1 7), .ref (w.1 8), .int 0, .int 0, .int 0, .int 0, .int 0, .ref (w.1 9), .ref (w.1 10)])), ((w.1 0), .inl (X.2.1, 371, .inl w.2)), ((w.1 3), .inl (X.2.1, 3, .inl (fun _ => 0)))] H locs := wd_sub G [0, 1, 61, 62, 63, 66] rfl (by decide)
  refine lv_aload_n zx zb dL_law_1020 rfl (lv_at hl 2 rfl) ?_
  refine lv_aload_n zx zb dL_law_1021 rfl (lv_at hl 3 rfl) ?_
  refine lv_iload_n zx zb dL_law_1022 rfl (lv_at hl 0 rfl) ?_
  refine lv_iconst (v := 1) zx zb dL_law_1023 (by decide) ?_
  refine r_iadd (v := 1) S (by decide) dL_law_1024 ?_
  refine va_sld zx zb hX hbl hbA G.2.2.2.1 (k_vp (by decide)) dL_law_1025 ?_
  refine k_it (v := xs 1) rfl ?_
  refine lv_aload_n zx zb dL_law_1026 rfl (lv_at hl 3 rfl) ?_
  refine lv_iload_n zx zb dL_law_1027 rfl (lv_at hl 0 rfl) ?_
  refine lv_iconst (v := 2) zx zb dL_law_1028 (by decide) ?_
  refine r_iadd (v := 2) S (by decide) dL_law_1029 ?_
  refine va_sld zx zb hX hbl hbA G.2.2.2.1 (k_vp (by decide)) dL_law_1030 ?_
  refine k_it (v := xs 2) rfl ?_
  refine lv_aload_n zx zb dL_law_1031 rfl (lv_at hl 3 rfl) ?_
  refine lv_iload_n zx zb dL_law_1032 rfl (lv_at hl 0 rfl) ?_
  refine lv_iconst (v := 3) zx zb dL_law_1033 (by decide) ?_
  refine r_iadd (v := 3) S (by decide) dL_law_1034 ?_
  refine va_sld zx zb hX hbl hbA G.2.2.2.1 (k_vp (by decide)) dL_law_1035 ?_
  refine k_it (v := xs 3) rfl ?_
  refine o_wi (cells' := 94) (slots' := 3522) (wr := [(m0, .inr (9, [.ref (w.1 0), .ref (w.1 1), .ref (w.1 2), .ref (w.1 3), .long 0, .long (Int32.toInt64 1), .ref (w.1 4), .ref (w.1 5), .ref (w.1 6), .ref (w.1 7), .ref (w.1 8), .int 0, .int 0, .int 0, .int 0, .int 0, .ref (w.1 9), .ref (w.1 10)])), ((w.1 0), .inl (X.2.1, 371, .inl w.2)), ((w.1 3), .inl (X.2.1, 3, .inl (fun _ => 0)))]) G rfl rfl [0, 1, 2] [3, 4, 5] rfl rfl (by decide) (by decide) (n_V (As := [.int (xs 1), .int (xs 2), .int (xs 3)]) (rest := []) (C := RX10) (T := TX10) (N := 14) (ci := 8) S G (c_pair l X q0 ([.ref (u 0), .ref (u 16), .ref (u 32), .ref (u 65), .ref (u 66), .ref (u 68), .long (Int32.toInt64 0), .long (Int32.toInt64 1), .ref (u 69), .ref (u 70), .ref (u 71), .ref (u 72), .ref (u 73), .ref (u 74)]) (u 0) ([.int 20, .int 0, .int 0, .ref (u 1), .ref (u 8), .ref (u 10), .ref (u 12), .ref (u 14)]) (u 68) (fun _ => 0) (xs 1) (xs 2) (xs 3) rfl rfl rfl H.size) gL_law_X10_pair rfl rfl rfl hdV_X10_pair ⟨Nat.le_of_ble_eq_true rfl, Nat.le_of_ble_eq_true rfl⟩ [0, 1, 2] rfl (by decide) 0 rfl rfl rfl hl.1 (Nat.le_of_ble_eq_true rfl) dL_law_1036 ⟨Nat.le_of_ble_eq_true rfl, Nat.le_of_ble_eq_true rfl⟩) (fun r_1 u_1 H locs hp_1 G => ?_)
  have G : wd X (fun q : Nat => s.heap.size ≤ q) (fun q : Nat => s.heap.size ≤ q) s [(m0, .inr (9, [.ref (w.1 0), .ref (w.1 1), .ref (w.1 2), .ref (w.1 3), .long 0, .long (Int32.toInt64 1), .ref (w.1 4), .ref (w.1 5), .ref (w.1 6), .ref (w.1 7), .ref (w.1 8), .int 0, .int 0, .int 0, .int 0, .int 0, .ref (w.1 9), .ref (w.1 10)])), ((w.1 0), .inl (X.2.1, 371, .inl w.2)), ((w.1 3), .inl (X.2.1, 3, .inl (fun _ => 0)))] H locs := G
  refine lv_aload_n zx zb dL_law_1039 rfl (lv_at hl 1 rfl) ?_
  refine lv_aload_n zx zb dL_law_1040 rfl (lv_at hl 3 rfl) ?_
  refine lv_iload_n zx zb dL_law_1041 rfl (lv_at hl 0 rfl) ?_
  refine lv_iconst (v := 1) zx zb dL_law_1042 (by decide) ?_
  refine r_iadd (v := 1) S (by decide) dL_law_1043 ?_
  refine va_sld zx zb hX hbl hbA G.2.2.2.1 (k_vp (by decide)) dL_law_1044 ?_
  refine k_it (v := xs 1) rfl ?_
  refine lv_aload_n zx zb dL_law_1045 rfl (lv_at hl 3 rfl) ?_
  refine lv_iload_n zx zb dL_law_1046 rfl (lv_at hl 0 rfl) ?_
  refine lv_iconst (v := 2) zx zb dL_law_1047 (by decide) ?_
  refine r_iadd (v := 2) S (by decide) dL_law_1048 ?_
  refine va_sld zx zb hX hbl hbA G.2.2.2.1 (k_vp (by decide)) dL_law_1049 ?_
  refine k_it (v := xs 2) rfl ?_
  refine lv_aload_n zx zb dL_law_1050 rfl (lv_at hl 3 rfl) ?_
  refine lv_iload_n zx zb dL_law_1051 rfl (lv_at hl 0 rfl) ?_
  refine lv_iconst (v := 3) zx zb dL_law_1052 (by decide) ?_
  refine r_iadd (v := 3) S (by decide) dL_law_1053 ?_
  refine va_sld zx zb hX hbl hbA G.2.2.2.1 (k_vp (by decide)) dL_law_1054 ?_
  refine k_it (v := xs 3) rfl ?_
  refine o_wi (cells' := 94) (slots' := 3522) (wr := []) G rfl rfl [0, 1, 2] [] rfl rfl (by decide) (by decide) (n_V (As := [.int (xs 1), .int (xs 2), .int (xs 3)]) (rest := [.int r_1]) (C := RX11) (T := TX11) (N := 18) (ci := 9) S G (m_pair l X m0 ([.ref (w.1 0), .ref (w.1 1), .ref (w.1 2), .ref (w.1 3), .long 0, .long (Int32.toInt64 1), .ref (w.1 4), .ref (w.1 5), .ref (w.1 6), .ref (w.1 7), .ref (w.1 8), .int 0, .int 0, .int 0, .int 0, .int 0, .ref (w.1 9), .ref (w.1 10)]) (w.1 0) w.2 (w.1 3) (fun _ => 0) (xs 1) (xs 2) (xs 3) rfl rfl (hz 0 (by decide)) H.size) gL_law_X11_pair rfl rfl rfl hdV_X11_pair ⟨Nat.le_of_ble_eq_true rfl, Nat.le_of_ble_eq_true rfl⟩ [0, 1, 2] rfl (by decide) 0 rfl rfl rfl hl.1 (Nat.le_of_ble_eq_true rfl) dL_law_1055 ⟨Nat.le_of_ble_eq_true rfl, Nat.le_of_ble_eq_true rfl⟩) (fun r_2 u_2 H locs hp_2 G => ?_)
  have G : wd X (fun q : Nat => s.heap.size ≤ q) (fun q : Nat => s.heap.size ≤ q) s [] H locs := G
  refine lv_icmp_eq (tgt := 1279) zx zb dL_law_1058 (by decide) (fun c_3 => ?_) (fun c_3 => absurd (hp_1.trans hp_2.symm) c_3)
  exact law_end (Nat.le_of_ble_eq_true rfl) (Nat.le_of_ble_eq_true rfl) S hX hbl zr zlk G hl
theorem hdV_X10_stumble : yX10_stumble.cls = RX10 ∧ yX10_stumble.cls ≠ "java/lang/invoke/MethodHandle" ∧ yX10_stumble.cls ≠ "java/lang/invoke/VarHandle" ∧ (parseMethodDescriptor yX10_stumble.desc).map (fun d => d.parameters.length) = some 4 := by decide +kernel
theorem hdV_X11_stumble : yX11_stumble.cls = RX11 ∧ yX11_stumble.cls ≠ "java/lang/invoke/MethodHandle" ∧ yX11_stumble.cls ≠ "java/lang/invoke/VarHandle" ∧ (parseMethodDescriptor yX11_stumble.desc).map (fun d => d.parameters.length) = some 4 := by decide +kernel
set_option maxRecDepth 100000 in
set_option maxHeartbeats 4000000 in
/-- stumble -/
theorem law_c29 {p : Program} {l : Launch} {e : Env} {s : State} {m : MethodId} {below : List Frame} {meth : Method} {c : Code} {b : Nat} {xs : Nat → Int32} {X : EX} {q0 m0 : Nat} {u : Nat → Nat} {w : (Nat → Nat) × (Nat → Int32)} (S : CallFix p m c cL_law 4 s #[Value.ref b] wsL_law RL) (hX : va_X b 6 xs s s.heap) (hbl : b < s.heap.size) (zr : meth.sig.returnType = ret) (zlk : meth.locks = false) (hz : ∀ j : Nat, j ≠ 36 → w.2 j = 0) (h36 : w.2 36 = 20) {H : Heap} {locs : List Loc} (G : wd X (fun q : Nat => s.heap.size ≤ q) (fun q : Nat => s.heap.size ≤ q) s (lwW X q0 m0 u w) H locs) {ls : Array Slot} (hl : lv_has ls 4 [(3, .int 0), (2, .ref m0), (1, .ref q0), (0, .ref b)]) : W p l e room_1 s m #[Value.ref b] below meth c H locs 94 3522 (lw_Z below #[Value.ref b] s) (F0 m 1063 ls []) := by
  have zx := S.1
  have zb := S.2.1
  have hbA : ¬ (fun q : Nat => s.heap.size ≤ q) b := Nat.not_le.mpr hbl
  have G : wd X (fun q : Nat => s.heap.size ≤ q) (fun q : Nat => s.heap.size ≤ q) s [(q0, .inr (8, [.ref (u 0), .ref (u 16), .ref (u 32), .ref (u 65), .ref (u 66), .ref (u 68), .long (Int32.toInt64 0), .long (Int32.toInt64 1), .ref (u 69), .ref (u 70), .ref (u 71), .ref (u 72), .ref (u 73), .ref (u 74)])), ((u 0), .inr (3, [.int 20, .int 0, .int 0, .ref (u 1), .ref (u 8), .ref (u 10), .ref (u 12), .ref (u 14)])), ((u 68), .inl (X.2.1, 3, .inl (fun _ => 0))), (m0, .inr (9, [.ref (w.1 0), .ref (w.1 1), .ref (w.1 2), .ref (w.1 3), .long 0, .long (Int32.toInt64 1), .ref (w.1 4), .ref (w.1 5), .ref (w.1 6), .ref (w.1 7), .ref (w.1 8), .int 0, .int 0, .int 0, .int 0, .int 0, .ref (w.1 9), .ref (w.1 10)])), ((w.1 0), .inl (X.2.1, 371, .inl w.2)), ((w.1 3), .inl (X.2.1, 3, .inl (fun _ => 0)))] H locs := wd_sub G [0, 1, 61, 62, 63, 66] rfl (by decide)
  refine lv_aload_n zx zb dL_law_1063 rfl (lv_at hl 2 rfl) ?_
  refine lv_aload_n zx zb dL_law_1064 rfl (lv_at hl 3 rfl) ?_
  refine lv_iload_n zx zb dL_law_1065 rfl (lv_at hl 0 rfl) ?_
  refine lv_iconst (v := 1) zx zb dL_law_1066 (by decide) ?_
  refine r_iadd (v := 1) S (by decide) dL_law_1067 ?_
  refine va_sld zx zb hX hbl hbA G.2.2.2.1 (k_vp (by decide)) dL_law_1068 ?_
  refine k_it (v := xs 1) rfl ?_
  refine lv_aload_n zx zb dL_law_1069 rfl (lv_at hl 3 rfl) ?_
  refine lv_iload_n zx zb dL_law_1070 rfl (lv_at hl 0 rfl) ?_
  refine lv_iconst (v := 2) zx zb dL_law_1071 (by decide) ?_
  refine r_iadd (v := 2) S (by decide) dL_law_1072 ?_
  refine va_sld zx zb hX hbl hbA G.2.2.2.1 (k_vp (by decide)) dL_law_1073 ?_
  refine k_it (v := xs 2) rfl ?_
  refine lv_aload_n zx zb dL_law_1074 rfl (lv_at hl 3 rfl) ?_
  refine lv_iload_n zx zb dL_law_1075 rfl (lv_at hl 0 rfl) ?_
  refine lv_iconst (v := 3) zx zb dL_law_1076 (by decide) ?_
  refine r_iadd (v := 3) S (by decide) dL_law_1077 ?_
  refine va_sld zx zb hX hbl hbA G.2.2.2.1 (k_vp (by decide)) dL_law_1078 ?_
  refine k_it (v := xs 3) rfl ?_
  refine lv_aload_n zx zb dL_law_1079 rfl (lv_at hl 3 rfl) ?_
  refine lv_iload_n zx zb dL_law_1080 rfl (lv_at hl 0 rfl) ?_
  refine lv_iconst (v := 4) zx zb dL_law_1081 (by decide) ?_
  refine r_iadd (v := 4) S (by decide) dL_law_1082 ?_
  refine va_sld zx zb hX hbl hbA G.2.2.2.1 (k_vp (by decide)) dL_law_1083 ?_
  refine k_it (v := xs 4) rfl ?_
  refine o_wi (cells' := 94) (slots' := 3522) (wr := [(m0, .inr (9, [.ref (w.1 0), .ref (w.1 1), .ref (w.1 2), .ref (w.1 3), .long 0, .long (Int32.toInt64 1), .ref (w.1 4), .ref (w.1 5), .ref (w.1 6), .ref (w.1 7), .ref (w.1 8), .int 0, .int 0, .int 0, .int 0, .int 0, .ref (w.1 9), .ref (w.1 10)])), ((w.1 0), .inl (X.2.1, 371, .inl w.2)), ((w.1 3), .inl (X.2.1, 3, .inl (fun _ => 0)))]) G rfl rfl [0, 1, 2] [3, 4, 5] rfl rfl (by decide) (by decide) (n_V (As := [.int (xs 1), .int (xs 2), .int (xs 3), .int (xs 4)]) (rest := []) (C := RX10) (T := TX10) (N := 14) (ci := 8) S G (c_stumble l X q0 ([.ref (u 0), .ref (u 16), .ref (u 32), .ref (u 65), .ref (u 66), .ref (u 68), .long (Int32.toInt64 0), .long (Int32.toInt64 1), .ref (u 69), .ref (u 70), .ref (u 71), .ref (u 72), .ref (u 73), .ref (u 74)]) (u 0) ([.int 20, .int 0, .int 0, .ref (u 1), .ref (u 8), .ref (u 10), .ref (u 12), .ref (u 14)]) (u 68) (fun _ => 0) (xs 1) (xs 2) (xs 3) (xs 4) rfl rfl rfl H.size) gL_law_X10_stumble rfl rfl rfl hdV_X10_stumble ⟨Nat.le_of_ble_eq_true rfl, Nat.le_of_ble_eq_true rfl⟩ [0, 1, 2] rfl (by decide) 0 rfl rfl rfl hl.1 (Nat.le_of_ble_eq_true rfl) dL_law_1084 ⟨Nat.le_of_ble_eq_true rfl, Nat.le_of_ble_eq_true rfl⟩) (fun r_1 u_1 H locs hp_1 G => ?_)
  have G : wd X (fun q : Nat => s.heap.size ≤ q) (fun q : Nat => s.heap.size ≤ q) s [(m0, .inr (9, [.ref (w.1 0), .ref (w.1 1), .ref (w.1 2), .ref (w.1 3), .long 0, .long (Int32.toInt64 1), .ref (w.1 4), .ref (w.1 5), .ref (w.1 6), .ref (w.1 7), .ref (w.1 8), .int 0, .int 0, .int 0, .int 0, .int 0, .ref (w.1 9), .ref (w.1 10)])), ((w.1 0), .inl (X.2.1, 371, .inl w.2)), ((w.1 3), .inl (X.2.1, 3, .inl (fun _ => 0)))] H locs := G
  refine lv_aload_n zx zb dL_law_1087 rfl (lv_at hl 1 rfl) ?_
  refine lv_aload_n zx zb dL_law_1088 rfl (lv_at hl 3 rfl) ?_
  refine lv_iload_n zx zb dL_law_1089 rfl (lv_at hl 0 rfl) ?_
  refine lv_iconst (v := 1) zx zb dL_law_1090 (by decide) ?_
  refine r_iadd (v := 1) S (by decide) dL_law_1091 ?_
  refine va_sld zx zb hX hbl hbA G.2.2.2.1 (k_vp (by decide)) dL_law_1092 ?_
  refine k_it (v := xs 1) rfl ?_
  refine lv_aload_n zx zb dL_law_1093 rfl (lv_at hl 3 rfl) ?_
  refine lv_iload_n zx zb dL_law_1094 rfl (lv_at hl 0 rfl) ?_
  refine lv_iconst (v := 2) zx zb dL_law_1095 (by decide) ?_
  refine r_iadd (v := 2) S (by decide) dL_law_1096 ?_
  refine va_sld zx zb hX hbl hbA G.2.2.2.1 (k_vp (by decide)) dL_law_1097 ?_
  refine k_it (v := xs 2) rfl ?_
  refine lv_aload_n zx zb dL_law_1098 rfl (lv_at hl 3 rfl) ?_
  refine lv_iload_n zx zb dL_law_1099 rfl (lv_at hl 0 rfl) ?_
  refine lv_iconst (v := 3) zx zb dL_law_1100 (by decide) ?_
  refine r_iadd (v := 3) S (by decide) dL_law_1101 ?_
  refine va_sld zx zb hX hbl hbA G.2.2.2.1 (k_vp (by decide)) dL_law_1102 ?_
  refine k_it (v := xs 3) rfl ?_
  refine lv_aload_n zx zb dL_law_1103 rfl (lv_at hl 3 rfl) ?_
  refine lv_iload_n zx zb dL_law_1104 rfl (lv_at hl 0 rfl) ?_
  refine lv_iconst (v := 4) zx zb dL_law_1105 (by decide) ?_
  refine r_iadd (v := 4) S (by decide) dL_law_1106 ?_
  refine va_sld zx zb hX hbl hbA G.2.2.2.1 (k_vp (by decide)) dL_law_1107 ?_
  refine k_it (v := xs 4) rfl ?_
  refine o_wi (cells' := 94) (slots' := 3522) (wr := []) G rfl rfl [0, 1, 2] [] rfl rfl (by decide) (by decide) (n_V (As := [.int (xs 1), .int (xs 2), .int (xs 3), .int (xs 4)]) (rest := [.int r_1]) (C := RX11) (T := TX11) (N := 18) (ci := 9) S G (m_stumble l X m0 ([.ref (w.1 0), .ref (w.1 1), .ref (w.1 2), .ref (w.1 3), .long 0, .long (Int32.toInt64 1), .ref (w.1 4), .ref (w.1 5), .ref (w.1 6), .ref (w.1 7), .ref (w.1 8), .int 0, .int 0, .int 0, .int 0, .int 0, .ref (w.1 9), .ref (w.1 10)]) (w.1 0) w.2 (w.1 3) (fun _ => 0) (xs 1) (xs 2) (xs 3) (xs 4) rfl rfl (hz 0 (by decide)) H.size) gL_law_X11_stumble rfl rfl rfl hdV_X11_stumble ⟨Nat.le_of_ble_eq_true rfl, Nat.le_of_ble_eq_true rfl⟩ [0, 1, 2] rfl (by decide) 0 rfl rfl rfl hl.1 (Nat.le_of_ble_eq_true rfl) dL_law_1108 ⟨Nat.le_of_ble_eq_true rfl, Nat.le_of_ble_eq_true rfl⟩) (fun r_2 u_2 H locs hp_2 G => ?_)
  have G : wd X (fun q : Nat => s.heap.size ≤ q) (fun q : Nat => s.heap.size ≤ q) s [] H locs := G
  refine lv_icmp_eq (tgt := 1279) zx zb dL_law_1111 (by decide) (fun c_3 => ?_) (fun c_3 => absurd (hp_1.trans hp_2.symm) c_3)
  exact law_end (Nat.le_of_ble_eq_true rfl) (Nat.le_of_ble_eq_true rfl) S hX hbl zr zlk G hl
theorem hdV_X10_races : yX10_races.cls = RX10 ∧ yX10_races.cls ≠ "java/lang/invoke/MethodHandle" ∧ yX10_races.cls ≠ "java/lang/invoke/VarHandle" ∧ (parseMethodDescriptor yX10_races.desc).map (fun d => d.parameters.length) = some 2 := by decide +kernel
theorem hdV_X11_races : yX11_races.cls = RX11 ∧ yX11_races.cls ≠ "java/lang/invoke/MethodHandle" ∧ yX11_races.cls ≠ "java/lang/invoke/VarHandle" ∧ (parseMethodDescriptor yX11_races.desc).map (fun d => d.parameters.length) = some 2 := by decide +kernel
set_option maxRecDepth 100000 in
set_option maxHeartbeats 4000000 in
/-- races -/
theorem law_c30 {p : Program} {l : Launch} {e : Env} {s : State} {m : MethodId} {below : List Frame} {meth : Method} {c : Code} {b : Nat} {xs : Nat → Int32} {X : EX} {q0 m0 : Nat} {u : Nat → Nat} {w : (Nat → Nat) × (Nat → Int32)} (S : CallFix p m c cL_law 4 s #[Value.ref b] wsL_law RL) (hX : va_X b 6 xs s s.heap) (hbl : b < s.heap.size) (zr : meth.sig.returnType = ret) (zlk : meth.locks = false) (hz : ∀ j : Nat, j ≠ 36 → w.2 j = 0) (h36 : w.2 36 = 20) {H : Heap} {locs : List Loc} (G : wd X (fun q : Nat => s.heap.size ≤ q) (fun q : Nat => s.heap.size ≤ q) s (lwW X q0 m0 u w) H locs) {ls : Array Slot} (hl : lv_has ls 4 [(3, .int 0), (2, .ref m0), (1, .ref q0), (0, .ref b)]) : W p l e room_1 s m #[Value.ref b] below meth c H locs 94 3522 (lw_Z below #[Value.ref b] s) (F0 m 1116 ls []) := by
  have zx := S.1
  have zb := S.2.1
  have hbA : ¬ (fun q : Nat => s.heap.size ≤ q) b := Nat.not_le.mpr hbl
  have G : wd X (fun q : Nat => s.heap.size ≤ q) (fun q : Nat => s.heap.size ≤ q) s [(q0, .inr (8, [.ref (u 0), .ref (u 16), .ref (u 32), .ref (u 65), .ref (u 66), .ref (u 68), .long (Int32.toInt64 0), .long (Int32.toInt64 1), .ref (u 69), .ref (u 70), .ref (u 71), .ref (u 72), .ref (u 73), .ref (u 74)])), ((u 0), .inr (3, [.int 20, .int 0, .int 0, .ref (u 1), .ref (u 8), .ref (u 10), .ref (u 12), .ref (u 14)])), ((u 1), .inl (X.2.2.2.2, 6, .inr (.inr (.inr (.inr (va_up (va_up (va_up (va_up (va_up (va_up (fun _ => none) 0 (some (u 2))) 1 (some (u 3))) 2 (some (u 4))) 3 (some (u 5))) 4 (some (u 6))) 5 (some (u 7)))))))), ((u 2), .inr (6, [.int 0, .int 0, .int 0, .int 0, .int 0, .int 0, .int 0, .int 0])), ((u 3), .inr (6, [.int 0, .int 0, .int 0, .int 0, .int 0, .int 0, .int 0, .int 0])), ((u 4), .inr (6, [.int 0, .int 0, .int 0, .int 0, .int 0, .int 0, .int 0, .int 0])), ((u 5), .inr (6, [.int 0, .int 0, .int 0, .int 0, .int 0, .int 0, .int 0, .int 0])), ((u 6), .inr (6, [.int 0, .int 0, .int 0, .int 0, .int 0, .int 0, .int 0, .int 0])), ((u 7), .inr (6, [.int 0, .int 0, .int 0, .int 0, .int 0, .int 0, .int 0, .int 0])), ((u 16), .inr (3, [.int 20, .int 0, .int 0, .ref (u 17), .ref (u 24), .ref (u 26), .ref (u 28), .ref (u 30)])), ((u 17), .inl (X.2.2.2.2, 6, .inr (.inr (.inr (.inr (va_up (va_up (va_up (va_up (va_up (va_up (fun _ => none) 0 (some (u 18))) 1 (some (u 19))) 2 (some (u 20))) 3 (some (u 21))) 4 (some (u 22))) 5 (some (u 23)))))))), ((u 18), .inr (6, [.int 0, .int 0, .int 0, .int 0, .int 0, .int 0, .int 0, .int 0])), ((u 19), .inr (6, [.int 0, .int 0, .int 0, .int 0, .int 0, .int 0, .int 0, .int 0])), ((u 20), .inr (6, [.int 0, .int 0, .int 0, .int 0, .int 0, .int 0, .int 0, .int 0])), ((u 21), .inr (6, [.int 0, .int 0, .int 0, .int 0, .int 0, .int 0, .int 0, .int 0])), ((u 22), .inr (6, [.int 0, .int 0, .int 0, .int 0, .int 0, .int 0, .int 0, .int 0])), ((u 23), .inr (6, [.int 0, .int 0, .int 0, .int 0, .int 0, .int 0, .int 0, .int 0])), ((u 68), .inl (X.2.1, 3, .inl (fun _ => 0))), (m0, .inr (9, [.ref (w.1 0), .ref (w.1 1), .ref (w.1 2), .ref (w.1 3), .long 0, .long (Int32.toInt64 1), .ref (w.1 4), .ref (w.1 5), .ref (w.1 6), .ref (w.1 7), .ref (w.1 8), .int 0, .int 0, .int 0, .int 0, .int 0, .ref (w.1 9), .ref (w.1 10)])), ((w.1 0), .inl (X.2.1, 371, .inl w.2)), ((w.1 3), .inl (X.2.1, 3, .inl (fun _ => 0))), ((w.1 4), .inl (X.2.1, 55, .inl (fun _ => 0)))] H locs := wd_sub G [0, 1, 2, 3, 4, 5, 6, 7, 8, 17, 18, 19, 20, 21, 22, 23, 24, 61, 62, 63, 66, 67] rfl (by decide)
  refine lv_aload_n zx zb dL_law_1116 rfl (lv_at hl 2 rfl) ?_
  refine lv_aload_n zx zb dL_law_1117 rfl (lv_at hl 3 rfl) ?_
  refine lv_iload_n zx zb dL_law_1118 rfl (lv_at hl 0 rfl) ?_
  refine lv_iconst (v := 1) zx zb dL_law_1119 (by decide) ?_
  refine r_iadd (v := 1) S (by decide) dL_law_1120 ?_
  refine va_sld zx zb hX hbl hbA G.2.2.2.1 (k_vp (by decide)) dL_law_1121 ?_
  refine k_it (v := xs 1) rfl ?_
  refine lv_aload_n zx zb dL_law_1122 rfl (lv_at hl 3 rfl) ?_
  refine lv_iload_n zx zb dL_law_1123 rfl (lv_at hl 0 rfl) ?_
  refine lv_iconst (v := 2) zx zb dL_law_1124 (by decide) ?_
  refine r_iadd (v := 2) S (by decide) dL_law_1125 ?_
  refine va_sld zx zb hX hbl hbA G.2.2.2.1 (k_vp (by decide)) dL_law_1126 ?_
  refine k_it (v := xs 2) rfl ?_
  refine o_wi (cells' := 94) (slots' := 3522) (wr := [(m0, .inr (9, [.ref (w.1 0), .ref (w.1 1), .ref (w.1 2), .ref (w.1 3), .long 0, .long (Int32.toInt64 1), .ref (w.1 4), .ref (w.1 5), .ref (w.1 6), .ref (w.1 7), .ref (w.1 8), .int 0, .int 0, .int 0, .int 0, .int 0, .ref (w.1 9), .ref (w.1 10)])), ((w.1 0), .inl (X.2.1, 371, .inl w.2)), ((w.1 3), .inl (X.2.1, 3, .inl (fun _ => 0))), ((w.1 4), .inl (X.2.1, 55, .inl (fun _ => 0)))]) G rfl rfl [0, 1, 2, 3, 4, 5, 6, 7, 8, 9, 10, 11, 12, 13, 14, 15, 16, 17] [18, 19, 20, 21] rfl rfl (by decide) (by decide) (n_V (As := [.int (xs 1), .int (xs 2)]) (rest := []) (C := RX10) (T := TX10) (N := 14) (ci := 8) S G (c_races l X q0 ([.ref (u 0), .ref (u 16), .ref (u 32), .ref (u 65), .ref (u 66), .ref (u 68), .long (Int32.toInt64 0), .long (Int32.toInt64 1), .ref (u 69), .ref (u 70), .ref (u 71), .ref (u 72), .ref (u 73), .ref (u 74)]) (u 0) (u 1) (.ref (u 8)) (.ref (u 10)) (.ref (u 12)) (.ref (u 14)) (va_up (va_up (va_up (va_up (va_up (va_up (fun _ => none) 0 (some (u 2))) 1 (some (u 3))) 2 (some (u 4))) 3 (some (u 5))) 4 (some (u 6))) 5 (some (u 7))) (u 2) (u 3) (u 4) (u 5) (u 6) (u 7) (u 16) (u 17) (.ref (u 24)) (.ref (u 26)) (.ref (u 28)) (.ref (u 30)) (va_up (va_up (va_up (va_up (va_up (va_up (fun _ => none) 0 (some (u 18))) 1 (some (u 19))) 2 (some (u 20))) 3 (some (u 21))) 4 (some (u 22))) 5 (some (u 23))) (u 18) (u 19) (u 20) (u 21) (u 22) (u 23) (u 68) (fun _ => 0) (xs 1) (xs 2) rfl rfl rfl rfl rfl rfl rfl rfl rfl rfl rfl rfl rfl rfl rfl H.size) gL_law_X10_races rfl rfl rfl hdV_X10_races ⟨Nat.le_of_ble_eq_true rfl, Nat.le_of_ble_eq_true rfl⟩ [0, 1, 2, 3, 4, 5, 6, 7, 8, 9, 10, 11, 12, 13, 14, 15, 16, 17] rfl (by decide) 0 rfl rfl rfl hl.1 (Nat.le_of_ble_eq_true rfl) dL_law_1127 ⟨Nat.le_of_ble_eq_true rfl, Nat.le_of_ble_eq_true rfl⟩) (fun r_1 u_1 H locs hp_1 G => ?_)
  have G : wd X (fun q : Nat => s.heap.size ≤ q) (fun q : Nat => s.heap.size ≤ q) s [(m0, .inr (9, [.ref (w.1 0), .ref (w.1 1), .ref (w.1 2), .ref (w.1 3), .long 0, .long (Int32.toInt64 1), .ref (w.1 4), .ref (w.1 5), .ref (w.1 6), .ref (w.1 7), .ref (w.1 8), .int 0, .int 0, .int 0, .int 0, .int 0, .ref (w.1 9), .ref (w.1 10)])), ((w.1 0), .inl (X.2.1, 371, .inl w.2)), ((w.1 3), .inl (X.2.1, 3, .inl (fun _ => 0))), ((w.1 4), .inl (X.2.1, 55, .inl (fun _ => 0)))] H locs := G
  refine lv_aload_n zx zb dL_law_1130 rfl (lv_at hl 1 rfl) ?_
  refine lv_aload_n zx zb dL_law_1131 rfl (lv_at hl 3 rfl) ?_
  refine lv_iload_n zx zb dL_law_1132 rfl (lv_at hl 0 rfl) ?_
  refine lv_iconst (v := 1) zx zb dL_law_1133 (by decide) ?_
  refine r_iadd (v := 1) S (by decide) dL_law_1134 ?_
  refine va_sld zx zb hX hbl hbA G.2.2.2.1 (k_vp (by decide)) dL_law_1135 ?_
  refine k_it (v := xs 1) rfl ?_
  refine lv_aload_n zx zb dL_law_1136 rfl (lv_at hl 3 rfl) ?_
  refine lv_iload_n zx zb dL_law_1137 rfl (lv_at hl 0 rfl) ?_
  refine lv_iconst (v := 2) zx zb dL_law_1138 (by decide) ?_
  refine r_iadd (v := 2) S (by decide) dL_law_1139 ?_
  refine va_sld zx zb hX hbl hbA G.2.2.2.1 (k_vp (by decide)) dL_law_1140 ?_
  refine k_it (v := xs 2) rfl ?_
  refine o_wi (cells' := 94) (slots' := 3522) (wr := []) G rfl rfl [0, 1, 3, 2] [] rfl rfl (by decide) (by decide) (n_V (As := [.int (xs 1), .int (xs 2)]) (rest := [.int r_1]) (C := RX11) (T := TX11) (N := 18) (ci := 9) S G (m_races l X m0 ([.ref (w.1 0), .ref (w.1 1), .ref (w.1 2), .ref (w.1 3), .long 0, .long (Int32.toInt64 1), .ref (w.1 4), .ref (w.1 5), .ref (w.1 6), .ref (w.1 7), .ref (w.1 8), .int 0, .int 0, .int 0, .int 0, .int 0, .ref (w.1 9), .ref (w.1 10)]) (w.1 0) w.2 (w.1 4) (fun _ => 0) (w.1 3) (fun _ => 0) (xs 1) (xs 2) rfl rfl rfl (hz 0 (by decide)) H.size) gL_law_X11_races rfl rfl rfl hdV_X11_races ⟨Nat.le_of_ble_eq_true rfl, Nat.le_of_ble_eq_true rfl⟩ [0, 1, 3, 2] rfl (by decide) 0 rfl rfl rfl hl.1 (Nat.le_of_ble_eq_true rfl) dL_law_1141 ⟨Nat.le_of_ble_eq_true rfl, Nat.le_of_ble_eq_true rfl⟩) (fun r_2 u_2 H locs hp_2 G => ?_)
  have G : wd X (fun q : Nat => s.heap.size ≤ q) (fun q : Nat => s.heap.size ≤ q) s [] H locs := G
  refine lv_icmp_eq (tgt := 1279) zx zb dL_law_1144 (by decide) (fun c_3 => ?_) (fun c_3 => absurd (hp_1.trans hp_2.symm) c_3)
  exact law_end (Nat.le_of_ble_eq_true rfl) (Nat.le_of_ble_eq_true rfl) S hX hbl zr zlk G hl
theorem hdV_X10_part : yX10_part.cls = RX10 ∧ yX10_part.cls ≠ "java/lang/invoke/MethodHandle" ∧ yX10_part.cls ≠ "java/lang/invoke/VarHandle" ∧ (parseMethodDescriptor yX10_part.desc).map (fun d => d.parameters.length) = some 1 := by decide +kernel
theorem hdV_X11_part : yX11_part.cls = RX11 ∧ yX11_part.cls ≠ "java/lang/invoke/MethodHandle" ∧ yX11_part.cls ≠ "java/lang/invoke/VarHandle" ∧ (parseMethodDescriptor yX11_part.desc).map (fun d => d.parameters.length) = some 1 := by decide +kernel
set_option maxRecDepth 100000 in
set_option maxHeartbeats 4000000 in
/-- part -/
theorem law_c31 {p : Program} {l : Launch} {e : Env} {s : State} {m : MethodId} {below : List Frame} {meth : Method} {c : Code} {b : Nat} {xs : Nat → Int32} {X : EX} {q0 m0 : Nat} {u : Nat → Nat} {w : (Nat → Nat) × (Nat → Int32)} (S : CallFix p m c cL_law 4 s #[Value.ref b] wsL_law RL) (hX : va_X b 6 xs s s.heap) (hbl : b < s.heap.size) (zr : meth.sig.returnType = ret) (zlk : meth.locks = false) (hz : ∀ j : Nat, j ≠ 36 → w.2 j = 0) (h36 : w.2 36 = 20) {H : Heap} {locs : List Loc} (G : wd X (fun q : Nat => s.heap.size ≤ q) (fun q : Nat => s.heap.size ≤ q) s (lwW X q0 m0 u w) H locs) {ls : Array Slot} (hl : lv_has ls 4 [(3, .int 0), (2, .ref m0), (1, .ref q0), (0, .ref b)]) : W p l e room_1 s m #[Value.ref b] below meth c H locs 94 3522 (lw_Z below #[Value.ref b] s) (F0 m 1149 ls []) := by
  have zx := S.1
  have zb := S.2.1
  have hbA : ¬ (fun q : Nat => s.heap.size ≤ q) b := Nat.not_le.mpr hbl
  have G : wd X (fun q : Nat => s.heap.size ≤ q) (fun q : Nat => s.heap.size ≤ q) s [(q0, .inr (8, [.ref (u 0), .ref (u 16), .ref (u 32), .ref (u 65), .ref (u 66), .ref (u 68), .long (Int32.toInt64 0), .long (Int32.toInt64 1), .ref (u 69), .ref (u 70), .ref (u 71), .ref (u 72), .ref (u 73), .ref (u 74)])), ((u 68), .inl (X.2.1, 3, .inl (fun _ => 0))), (m0, .inr (9, [.ref (w.1 0), .ref (w.1 1), .ref (w.1 2), .ref (w.1 3), .long 0, .long (Int32.toInt64 1), .ref (w.1 4), .ref (w.1 5), .ref (w.1 6), .ref (w.1 7), .ref (w.1 8), .int 0, .int 0, .int 0, .int 0, .int 0, .ref (w.1 9), .ref (w.1 10)])), ((w.1 3), .inl (X.2.1, 3, .inl (fun _ => 0)))] H locs := wd_sub G [0, 61, 62, 66] rfl (by decide)
  refine lv_aload_n zx zb dL_law_1149 rfl (lv_at hl 2 rfl) ?_
  refine lv_aload_n zx zb dL_law_1150 rfl (lv_at hl 3 rfl) ?_
  refine lv_iload_n zx zb dL_law_1151 rfl (lv_at hl 0 rfl) ?_
  refine lv_iconst (v := 1) zx zb dL_law_1152 (by decide) ?_
  refine r_iadd (v := 1) S (by decide) dL_law_1153 ?_
  refine va_sld zx zb hX hbl hbA G.2.2.2.1 (k_vp (by decide)) dL_law_1154 ?_
  refine k_it (v := xs 1) rfl ?_
  refine o_wl (cells' := 94) (slots' := 3522) (wr := [(m0, .inr (9, [.ref (w.1 0), .ref (w.1 1), .ref (w.1 2), .ref (w.1 3), .long 0, .long (Int32.toInt64 1), .ref (w.1 4), .ref (w.1 5), .ref (w.1 6), .ref (w.1 7), .ref (w.1 8), .int 0, .int 0, .int 0, .int 0, .int 0, .ref (w.1 9), .ref (w.1 10)])), ((w.1 3), .inl (X.2.1, 3, .inl (fun _ => 0)))]) G rfl rfl [0, 1] [2, 3] rfl rfl (by decide) (by decide) (n_V (As := [.int (xs 1)]) (rest := []) (C := RX10) (T := TX10) (N := 14) (ci := 8) S G (c_part l X q0 ([.ref (u 0), .ref (u 16), .ref (u 32), .ref (u 65), .ref (u 66), .ref (u 68), .long (Int32.toInt64 0), .long (Int32.toInt64 1), .ref (u 69), .ref (u 70), .ref (u 71), .ref (u 72), .ref (u 73), .ref (u 74)]) (u 68) (fun _ => 0) (xs 1) rfl rfl rfl H.size) gL_law_X10_part rfl rfl rfl hdV_X10_part ⟨Nat.le_of_ble_eq_true rfl, Nat.le_of_ble_eq_true rfl⟩ [0, 1] rfl (by decide) 0 rfl rfl rfl hl.1 (Nat.le_of_ble_eq_true rfl) dL_law_1155 ⟨Nat.le_of_ble_eq_true rfl, Nat.le_of_ble_eq_true rfl⟩) (fun r_1 u_1 H locs hp_1 G => ?_)
  have G : wd X (fun q : Nat => s.heap.size ≤ q) (fun q : Nat => s.heap.size ≤ q) s [(m0, .inr (9, [.ref (w.1 0), .ref (w.1 1), .ref (w.1 2), .ref (w.1 3), .long 0, .long (Int32.toInt64 1), .ref (w.1 4), .ref (w.1 5), .ref (w.1 6), .ref (w.1 7), .ref (w.1 8), .int 0, .int 0, .int 0, .int 0, .int 0, .ref (w.1 9), .ref (w.1 10)])), ((w.1 3), .inl (X.2.1, 3, .inl (fun _ => 0)))] H locs := G
  refine lv_aload_n zx zb dL_law_1158 rfl (lv_at hl 1 rfl) ?_
  refine lv_aload_n zx zb dL_law_1159 rfl (lv_at hl 3 rfl) ?_
  refine lv_iload_n zx zb dL_law_1160 rfl (lv_at hl 0 rfl) ?_
  refine lv_iconst (v := 1) zx zb dL_law_1161 (by decide) ?_
  refine r_iadd (v := 1) S (by decide) dL_law_1162 ?_
  refine va_sld zx zb hX hbl hbA G.2.2.2.1 (k_vp (by decide)) dL_law_1163 ?_
  refine k_it (v := xs 1) rfl ?_
  refine o_wl (cells' := 94) (slots' := 3522) (wr := []) G rfl rfl [0, 1] [] rfl rfl (by decide) (by decide) (n_V (As := [.int (xs 1)]) (rest := [.long r_1]) (C := RX11) (T := TX11) (N := 18) (ci := 9) S G (m_part l X m0 ([.ref (w.1 0), .ref (w.1 1), .ref (w.1 2), .ref (w.1 3), .long 0, .long (Int32.toInt64 1), .ref (w.1 4), .ref (w.1 5), .ref (w.1 6), .ref (w.1 7), .ref (w.1 8), .int 0, .int 0, .int 0, .int 0, .int 0, .ref (w.1 9), .ref (w.1 10)]) (w.1 3) (fun _ => 0) (xs 1) rfl rfl rfl H.size) gL_law_X11_part rfl rfl rfl hdV_X11_part ⟨Nat.le_of_ble_eq_true rfl, Nat.le_of_ble_eq_true rfl⟩ [0, 1] rfl (by decide) 0 rfl rfl rfl hl.1 (Nat.le_of_ble_eq_true rfl) dL_law_1164 ⟨Nat.le_of_ble_eq_true rfl, Nat.le_of_ble_eq_true rfl⟩) (fun r_2 u_2 H locs hp_2 G => ?_)
  have G : wd X (fun q : Nat => s.heap.size ≤ q) (fun q : Nat => s.heap.size ≤ q) s [] H locs := G
  refine W.lcmp zx zb dL_law_1167 ?_
  refine lv_if_eq (tgt := 1279) zx zb dL_law_1168 (by decide) (fun c_3 => ?_) (fun c_3 => absurd (k_lcz (hp_1.trans hp_2.symm)) c_3)
  exact law_end (Nat.le_of_ble_eq_true rfl) (Nat.le_of_ble_eq_true rfl) S hX hbl zr zlk G hl
theorem hdV_X10_image : yX10_image.cls = RX10 ∧ yX10_image.cls ≠ "java/lang/invoke/MethodHandle" ∧ yX10_image.cls ≠ "java/lang/invoke/VarHandle" ∧ (parseMethodDescriptor yX10_image.desc).map (fun d => d.parameters.length) = some 1 := by decide +kernel
theorem hdV_X11_image : yX11_image.cls = RX11 ∧ yX11_image.cls ≠ "java/lang/invoke/MethodHandle" ∧ yX11_image.cls ≠ "java/lang/invoke/VarHandle" ∧ (parseMethodDescriptor yX11_image.desc).map (fun d => d.parameters.length) = some 1 := by decide +kernel
set_option maxRecDepth 100000 in
set_option maxHeartbeats 4000000 in
/-- image -/
theorem law_c32 {p : Program} {l : Launch} {e : Env} {s : State} {m : MethodId} {below : List Frame} {meth : Method} {c : Code} {b : Nat} {xs : Nat → Int32} {X : EX} {q0 m0 : Nat} {u : Nat → Nat} {w : (Nat → Nat) × (Nat → Int32)} (S : CallFix p m c cL_law 4 s #[Value.ref b] wsL_law RL) (hX : va_X b 6 xs s s.heap) (hbl : b < s.heap.size) (zr : meth.sig.returnType = ret) (zlk : meth.locks = false) (hz : ∀ j : Nat, j ≠ 36 → w.2 j = 0) (h36 : w.2 36 = 20) {H : Heap} {locs : List Loc} (G : wd X (fun q : Nat => s.heap.size ≤ q) (fun q : Nat => s.heap.size ≤ q) s (lwW X q0 m0 u w) H locs) {ls : Array Slot} (hl : lv_has ls 4 [(3, .int 0), (2, .ref m0), (1, .ref q0), (0, .ref b)]) : W p l e room_1 s m #[Value.ref b] below meth c H locs 94 3522 (lw_Z below #[Value.ref b] s) (F0 m 1173 ls []) := by
  have zx := S.1
  have zb := S.2.1
  have hbA : ¬ (fun q : Nat => s.heap.size ≤ q) b := Nat.not_le.mpr hbl
  have G : wd X (fun q : Nat => s.heap.size ≤ q) (fun q : Nat => s.heap.size ≤ q) s [(q0, .inr (8, [.ref (u 0), .ref (u 16), .ref (u 32), .ref (u 65), .ref (u 66), .ref (u 68), .long (Int32.toInt64 0), .long (Int32.toInt64 1), .ref (u 69), .ref (u 70), .ref (u 71), .ref (u 72), .ref (u 73), .ref (u 74)])), ((u 0), .inr (3, [.int 20, .int 0, .int 0, .ref (u 1), .ref (u 8), .ref (u 10), .ref (u 12), .ref (u 14)])), ((u 1), .inl (X.2.2.2.2, 6, .inr (.inr (.inr (.inr (va_up (va_up (va_up (va_up (va_up (va_up (fun _ => none) 0 (some (u 2))) 1 (some (u 3))) 2 (some (u 4))) 3 (some (u 5))) 4 (some (u 6))) 5 (some (u 7)))))))), ((u 2), .inr (6, [.int 0, .int 0, .int 0, .int 0, .int 0, .int 0, .int 0, .int 0])), ((u 3), .inr (6, [.int 0, .int 0, .int 0, .int 0, .int 0, .int 0, .int 0, .int 0])), ((u 4), .inr (6, [.int 0, .int 0, .int 0, .int 0, .int 0, .int 0, .int 0, .int 0])), ((u 5), .inr (6, [.int 0, .int 0, .int 0, .int 0, .int 0, .int 0, .int 0, .int 0])), ((u 6), .inr (6, [.int 0, .int 0, .int 0, .int 0, .int 0, .int 0, .int 0, .int 0])), ((u 7), .inr (6, [.int 0, .int 0, .int 0, .int 0, .int 0, .int 0, .int 0, .int 0])), ((u 8), .inr (2, [.ref (u 9), .int 0])), ((u 9), .inl (X.2.1, 248, .inl (fun _ => 0))), ((u 10), .inr (5, [.int 5, .int 0, .int 1, .ref (u 11), .int 0])), ((u 11), .inl (X.2.1, 25, .inl (fun _ => 0))), ((u 12), .inr (5, [.int 6, .int 1, .int 1, .ref (u 13), .int 0])), ((u 13), .inl (X.2.1, 30, .inl (fun _ => 0))), ((u 14), .inr (5, [.int 6, .int 0, .int 0, .ref (u 15), .int 0])), ((u 15), .inl (X.2.1, 30, .inl (fun _ => 0))), ((u 32), .inl (X.2.2.2.1, 2, .inr (.inr (.inr (.inr (va_up (va_up (fun _ => none) 0 (some (u 33))) 1 (some (u 49)))))))), ((u 33), .inr (3, [.int 20, .int 0, .int 0, .ref (u 34), .ref (u 41), .ref (u 43), .ref (u 45), .ref (u 47)])), ((u 34), .inl (X.2.2.2.2, 6, .inr (.inr (.inr (.inr (va_up (va_up (va_up (va_up (va_up (va_up (fun _ => none) 0 (some (u 35))) 1 (some (u 36))) 2 (some (u 37))) 3 (some (u 38))) 4 (some (u 39))) 5 (some (u 40)))))))), ((u 35), .inr (6, [.int 0, .int 0, .int 0, .int 0, .int 0, .int 0, .int 0, .int 0])), ((u 36), .inr (6, [.int 0, .int 0, .int 0, .int 0, .int 0, .int 0, .int 0, .int 0])), ((u 37), .inr (6, [.int 0, .int 0, .int 0, .int 0, .int 0, .int 0, .int 0, .int 0])), ((u 38), .inr (6, [.int 0, .int 0, .int 0, .int 0, .int 0, .int 0, .int 0, .int 0])), ((u 39), .inr (6, [.int 0, .int 0, .int 0, .int 0, .int 0, .int 0, .int 0, .int 0])), ((u 40), .inr (6, [.int 0, .int 0, .int 0, .int 0, .int 0, .int 0, .int 0, .int 0])), ((u 41), .inr (2, [.ref (u 42), .int 0])), ((u 42), .inl (X.2.1, 248, .inl (fun _ => 0))), ((u 43), .inr (5, [.int 5, .int 0, .int 1, .ref (u 44), .int 0])), ((u 44), .inl (X.2.1, 25, .inl (fun _ => 0))), ((u 45), .inr (5, [.int 6, .int 1, .int 1, .ref (u 46), .int 0])), ((u 46), .inl (X.2.1, 30, .inl (fun _ => 0))), ((u 47), .inr (5, [.int 6, .int 0, .int 0, .ref (u 48), .int 0])), ((u 48), .inl (X.2.1, 30, .inl (fun _ => 0))), ((u 49), .inr (3, [.int 20, .int 0, .int 0, .ref (u 50), .ref (u 57), .ref (u 59), .ref (u 61), .ref (u 63)])), ((u 50), .inl (X.2.2.2.2, 6, .inr (.inr (.inr (.inr (va_up (va_up (va_up (va_up (va_up (va_up (fun _ => none) 0 (some (u 51))) 1 (some (u 52))) 2 (some (u 53))) 3 (some (u 54))) 4 (some (u 55))) 5 (some (u 56)))))))), ((u 51), .inr (6, [.int 0, .int 0, .int 0, .int 0, .int 0, .int 0, .int 0, .int 0])), ((u 52), .inr (6, [.int 0, .int 0, .int 0, .int 0, .int 0, .int 0, .int 0, .int 0])), ((u 53), .inr (6, [.int 0, .int 0, .int 0, .int 0, .int 0, .int 0, .int 0, .int 0])), ((u 54), .inr (6, [.int 0, .int 0, .int 0, .int 0, .int 0, .int 0, .int 0, .int 0])), ((u 55), .inr (6, [.int 0, .int 0, .int 0, .int 0, .int 0, .int 0, .int 0, .int 0])), ((u 56), .inr (6, [.int 0, .int 0, .int 0, .int 0, .int 0, .int 0, .int 0, .int 0])), ((u 57), .inr (2, [.ref (u 58), .int 0])), ((u 58), .inl (X.2.1, 248, .inl (fun _ => 0))), ((u 59), .inr (5, [.int 5, .int 0, .int 1, .ref (u 60), .int 0])), ((u 60), .inl (X.2.1, 25, .inl (fun _ => 0))), ((u 61), .inr (5, [.int 6, .int 1, .int 1, .ref (u 62), .int 0])), ((u 62), .inl (X.2.1, 30, .inl (fun _ => 0))), ((u 63), .inr (5, [.int 6, .int 0, .int 0, .ref (u 64), .int 0])), ((u 64), .inl (X.2.1, 30, .inl (fun _ => 0))), ((u 65), .inl (X.2.2.1, 2, .inl (fun _ => 0))), ((u 68), .inl (X.2.1, 3, .inl (fun _ => 0))), (m0, .inr (9, [.ref (w.1 0), .ref (w.1 1), .ref (w.1 2), .ref (w.1 3), .long 0, .long (Int32.toInt64 1), .ref (w.1 4), .ref (w.1 5), .ref (w.1 6), .ref (w.1 7), .ref (w.1 8), .int 0, .int 0, .int 0, .int 0, .int 0, .ref (w.1 9), .ref (w.1 10)])), ((w.1 0), .inl (X.2.1, 371, .inl w.2)), ((w.1 1), .inl (X.2.1, 742, .inl (fun _ => 0))), ((w.1 2), .inl (X.2.2.1, 2, .inl (fun _ => 0))), ((w.1 3), .inl (X.2.1, 3, .inl (fun _ => 0)))] H locs := wd_sub G [0, 1, 2, 3, 4, 5, 6, 7, 8, 9, 10, 11, 12, 13, 14, 15, 16, 25, 26, 27, 28, 29, 30, 31, 32, 33, 34, 35, 36, 37, 38, 39, 40, 41, 42, 43, 44, 45, 46, 47, 48, 49, 50, 51, 52, 53, 54, 55, 56, 57, 58, 61, 62, 63, 64, 65, 66] rfl (by decide)
  refine lv_aload_n zx zb dL_law_1173 rfl (lv_at hl 2 rfl) ?_
  refine lv_aload_n zx zb dL_law_1174 rfl (lv_at hl 3 rfl) ?_
  refine lv_iload_n zx zb dL_law_1175 rfl (lv_at hl 0 rfl) ?_
  refine lv_iconst (v := 1) zx zb dL_law_1176 (by decide) ?_
  refine r_iadd (v := 1) S (by decide) dL_law_1177 ?_
  refine va_sld zx zb hX hbl hbA G.2.2.2.1 (k_vp (by decide)) dL_law_1178 ?_
  refine k_it (v := xs 1) rfl ?_
  refine o_wi (cells' := 94) (slots' := 3522) (wr := [(m0, .inr (9, [.ref (w.1 0), .ref (w.1 1), .ref (w.1 2), .ref (w.1 3), .long 0, .long (Int32.toInt64 1), .ref (w.1 4), .ref (w.1 5), .ref (w.1 6), .ref (w.1 7), .ref (w.1 8), .int 0, .int 0, .int 0, .int 0, .int 0, .ref (w.1 9), .ref (w.1 10)])), ((w.1 0), .inl (X.2.1, 371, .inl w.2)), ((w.1 1), .inl (X.2.1, 742, .inl (fun _ => 0))), ((w.1 2), .inl (X.2.2.1, 2, .inl (fun _ => 0))), ((w.1 3), .inl (X.2.1, 3, .inl (fun _ => 0)))]) G rfl rfl [0, 17, 1, 2, 3, 4, 5, 6, 7, 8, 9, 10, 11, 12, 13, 14, 15, 16, 18, 19, 20, 21, 22, 23, 24, 25, 26, 27, 28, 29, 30, 31, 32, 33, 34, 35, 36, 37, 38, 39, 40, 41, 42, 43, 44, 45, 46, 47, 48, 49, 50, 51] [52, 53, 54, 55, 56] rfl rfl (by decide) (by decide) (n_V (As := [.int (xs 1)]) (rest := []) (C := RX10) (T := TX10) (N := 14) (ci := 8) S G (c_image l X q0 ([.ref (u 0), .ref (u 16), .ref (u 32), .ref (u 65), .ref (u 66), .ref (u 68), .long (Int32.toInt64 0), .long (Int32.toInt64 1), .ref (u 69), .ref (u 70), .ref (u 71), .ref (u 72), .ref (u 73), .ref (u 74)]) (u 32) (va_up (va_up (fun _ => none) 0 (some (u 33))) 1 (some (u 49))) (u 33) (u 49) (u 65) (fun _ => 0) (u 0) (u 1) (va_up (va_up (va_up (va_up (va_up (va_up (fun _ => none) 0 (some (u 2))) 1 (some (u 3))) 2 (some (u 4))) 3 (some (u 5))) 4 (some (u 6))) 5 (some (u 7))) (u 2) (u 3) (u 4) (u 5) (u 6) (u 7) (u 8) (u 9) (u 10) (u 11) (u 12) (u 13) (u 14) (u 15) (fun _ => 0) (fun _ => 0) (fun _ => 0) (fun _ => 0) (u 34) (va_up (va_up (va_up (va_up (va_up (va_up (fun _ => none) 0 (some (u 35))) 1 (some (u 36))) 2 (some (u 37))) 3 (some (u 38))) 4 (some (u 39))) 5 (some (u 40))) (u 35) (u 36) (u 37) (u 38) (u 39) (u 40) (u 41) (u 42) (u 43) (u 44) (u 45) (u 46) (u 47) (u 48) (fun _ => 0) (fun _ => 0) (fun _ => 0) (fun _ => 0) (u 50) (va_up (va_up (va_up (va_up (va_up (va_up (fun _ => none) 0 (some (u 51))) 1 (some (u 52))) 2 (some (u 53))) 3 (some (u 54))) 4 (some (u 55))) 5 (some (u 56))) (u 51) (u 52) (u 53) (u 54) (u 55) (u 56) (u 57) (u 58) (u 59) (u 60) (u 61) (u 62) (u 63) (u 64) (fun _ => 0) (fun _ => 0) (fun _ => 0) (fun _ => 0) (u 68) (fun _ => 0) (xs 1) rfl rfl rfl rfl rfl rfl rfl rfl rfl rfl rfl rfl rfl rfl rfl rfl rfl rfl rfl rfl rfl rfl rfl rfl H.size) gL_law_X10_image rfl rfl rfl hdV_X10_image ⟨Nat.le_of_ble_eq_true rfl, Nat.le_of_ble_eq_true rfl⟩ [0, 17, 1, 2, 3, 4, 5, 6, 7, 8, 9, 10, 11, 12, 13, 14, 15, 16, 18, 19, 20, 21, 22, 23, 24, 25, 26, 27, 28, 29, 30, 31, 32, 33, 34, 35, 36, 37, 38, 39, 40, 41, 42, 43, 44, 45, 46, 47, 48, 49, 50, 51] rfl (by decide) 0 rfl rfl rfl hl.1 (Nat.le_of_ble_eq_true rfl) dL_law_1179 ⟨Nat.le_of_ble_eq_true rfl, Nat.le_of_ble_eq_true rfl⟩) (fun r_1 u_1 H locs hp_1 G => ?_)
  have G : wd X (fun q : Nat => s.heap.size ≤ q) (fun q : Nat => s.heap.size ≤ q) s [(m0, .inr (9, [.ref (w.1 0), .ref (w.1 1), .ref (w.1 2), .ref (w.1 3), .long 0, .long (Int32.toInt64 1), .ref (w.1 4), .ref (w.1 5), .ref (w.1 6), .ref (w.1 7), .ref (w.1 8), .int 0, .int 0, .int 0, .int 0, .int 0, .ref (w.1 9), .ref (w.1 10)])), ((w.1 0), .inl (X.2.1, 371, .inl w.2)), ((w.1 1), .inl (X.2.1, 742, .inl (fun _ => 0))), ((w.1 2), .inl (X.2.2.1, 2, .inl (fun _ => 0))), ((w.1 3), .inl (X.2.1, 3, .inl (fun _ => 0)))] H locs := G
  refine lv_aload_n zx zb dL_law_1182 rfl (lv_at hl 1 rfl) ?_
  refine lv_aload_n zx zb dL_law_1183 rfl (lv_at hl 3 rfl) ?_
  refine lv_iload_n zx zb dL_law_1184 rfl (lv_at hl 0 rfl) ?_
  refine lv_iconst (v := 1) zx zb dL_law_1185 (by decide) ?_
  refine r_iadd (v := 1) S (by decide) dL_law_1186 ?_
  refine va_sld zx zb hX hbl hbA G.2.2.2.1 (k_vp (by decide)) dL_law_1187 ?_
  refine k_it (v := xs 1) rfl ?_
  refine o_wi (cells' := 94) (slots' := 3522) (wr := []) G rfl rfl [0, 1, 2, 3, 4] [] rfl rfl (by decide) (by decide) (n_V (As := [.int (xs 1)]) (rest := [.int r_1]) (C := RX11) (T := TX11) (N := 18) (ci := 9) S G (m_image l X m0 ([.ref (w.1 0), .ref (w.1 1), .ref (w.1 2), .ref (w.1 3), .long 0, .long (Int32.toInt64 1), .ref (w.1 4), .ref (w.1 5), .ref (w.1 6), .ref (w.1 7), .ref (w.1 8), .int 0, .int 0, .int 0, .int 0, .int 0, .ref (w.1 9), .ref (w.1 10)]) (w.1 0) w.2 (w.1 1) (fun _ => 0) (w.1 2) (fun _ => 0) (w.1 3) (fun _ => 0) (xs 1) rfl rfl rfl rfl H.size) gL_law_X11_image rfl rfl rfl hdV_X11_image ⟨Nat.le_of_ble_eq_true rfl, Nat.le_of_ble_eq_true rfl⟩ [0, 1, 2, 3, 4] rfl (by decide) 0 rfl rfl rfl hl.1 (Nat.le_of_ble_eq_true rfl) dL_law_1188 ⟨Nat.le_of_ble_eq_true rfl, Nat.le_of_ble_eq_true rfl⟩) (fun r_2 u_2 H locs hp_2 G => ?_)
  have G : wd X (fun q : Nat => s.heap.size ≤ q) (fun q : Nat => s.heap.size ≤ q) s [] H locs := G
  refine lv_icmp_eq (tgt := 1279) zx zb dL_law_1191 (by decide) (fun c_3 => ?_) (fun c_3 => absurd (hp_1.trans hp_2.symm) c_3)
  exact law_end (Nat.le_of_ble_eq_true rfl) (Nat.le_of_ble_eq_true rfl) S hX hbl zr zlk G hl
theorem hdV_X10_from : yX10_from.cls = RX10 ∧ yX10_from.cls ≠ "java/lang/invoke/MethodHandle" ∧ yX10_from.cls ≠ "java/lang/invoke/VarHandle" ∧ (parseMethodDescriptor yX10_from.desc).map (fun d => d.parameters.length) = some 1 := by decide +kernel
theorem hdV_X11_from : yX11_from.cls = RX11 ∧ yX11_from.cls ≠ "java/lang/invoke/MethodHandle" ∧ yX11_from.cls ≠ "java/lang/invoke/VarHandle" ∧ (parseMethodDescriptor yX11_from.desc).map (fun d => d.parameters.length) = some 1 := by decide +kernel
set_option maxRecDepth 100000 in
set_option maxHeartbeats 4000000 in
/-- from -/
theorem law_c33 {p : Program} {l : Launch} {e : Env} {s : State} {m : MethodId} {below : List Frame} {meth : Method} {c : Code} {b : Nat} {xs : Nat → Int32} {X : EX} {q0 m0 : Nat} {u : Nat → Nat} {w : (Nat → Nat) × (Nat → Int32)} (S : CallFix p m c cL_law 4 s #[Value.ref b] wsL_law RL) (hX : va_X b 6 xs s s.heap) (hbl : b < s.heap.size) (zr : meth.sig.returnType = ret) (zlk : meth.locks = false) (hz : ∀ j : Nat, j ≠ 36 → w.2 j = 0) (h36 : w.2 36 = 20) {H : Heap} {locs : List Loc} (G : wd X (fun q : Nat => s.heap.size ≤ q) (fun q : Nat => s.heap.size ≤ q) s (lwW X q0 m0 u w) H locs) {ls : Array Slot} (hl : lv_has ls 4 [(3, .int 0), (2, .ref m0), (1, .ref q0), (0, .ref b)]) : W p l e room_1 s m #[Value.ref b] below meth c H locs 94 3522 (lw_Z below #[Value.ref b] s) (F0 m 1196 ls []) := by
  have zx := S.1
  have zb := S.2.1
  have hbA : ¬ (fun q : Nat => s.heap.size ≤ q) b := Nat.not_le.mpr hbl
  have G : wd X (fun q : Nat => s.heap.size ≤ q) (fun q : Nat => s.heap.size ≤ q) s [(q0, .inr (8, [.ref (u 0), .ref (u 16), .ref (u 32), .ref (u 65), .ref (u 66), .ref (u 68), .long (Int32.toInt64 0), .long (Int32.toInt64 1), .ref (u 69), .ref (u 70), .ref (u 71), .ref (u 72), .ref (u 73), .ref (u 74)])), ((u 65), .inl (X.2.2.1, 2, .inl (fun _ => 0))), ((u 68), .inl (X.2.1, 3, .inl (fun _ => 0))), (m0, .inr (9, [.ref (w.1 0), .ref (w.1 1), .ref (w.1 2), .ref (w.1 3), .long 0, .long (Int32.toInt64 1), .ref (w.1 4), .ref (w.1 5), .ref (w.1 6), .ref (w.1 7), .ref (w.1 8), .int 0, .int 0, .int 0, .int 0, .int 0, .ref (w.1 9), .ref (w.1 10)])), ((w.1 2), .inl (X.2.2.1, 2, .inl (fun _ => 0))), ((w.1 3), .inl (X.2.1, 3, .inl (fun _ => 0)))] H locs := wd_sub G [0, 58, 61, 62, 65, 66] rfl (by decide)
  refine lv_aload_n zx zb dL_law_1196 rfl (lv_at hl 2 rfl) ?_
  refine lv_aload_n zx zb dL_law_1197 rfl (lv_at hl 3 rfl) ?_
  refine lv_iload_n zx zb dL_law_1198 rfl (lv_at hl 0 rfl) ?_
  refine lv_iconst (v := 1) zx zb dL_law_1199 (by decide) ?_
  refine r_iadd (v := 1) S (by decide) dL_law_1200 ?_
  refine va_sld zx zb hX hbl hbA G.2.2.2.1 (k_vp (by decide)) dL_law_1201 ?_
  refine k_it (v := xs 1) rfl ?_
  refine o_wi (cells' := 94) (slots' := 3522) (wr := [(m0, .inr (9, [.ref (w.1 0), .ref (w.1 1), .ref (w.1 2), .ref (w.1 3), .long 0, .long (Int32.toInt64 1), .ref (w.1 4), .ref (w.1 5), .ref (w.1 6), .ref (w.1 7), .ref (w.1 8), .int 0, .int 0, .int 0, .int 0, .int 0, .ref (w.1 9), .ref (w.1 10)])), ((w.1 2), .inl (X.2.2.1, 2, .inl (fun _ => 0))), ((w.1 3), .inl (X.2.1, 3, .inl (fun _ => 0)))]) G rfl rfl [0, 1, 2] [3, 4, 5] rfl rfl (by decide) (by decide) (n_V (As := [.int (xs 1)]) (rest := []) (C := RX10) (T := TX10) (N := 14) (ci := 8) S G (c_from l X q0 ([.ref (u 0), .ref (u 16), .ref (u 32), .ref (u 65), .ref (u 66), .ref (u 68), .long (Int32.toInt64 0), .long (Int32.toInt64 1), .ref (u 69), .ref (u 70), .ref (u 71), .ref (u 72), .ref (u 73), .ref (u 74)]) (u 65) (u 68) (fun _ => 0) (xs 1) rfl rfl H.size) gL_law_X10_from rfl rfl rfl hdV_X10_from ⟨Nat.le_of_ble_eq_true rfl, Nat.le_of_ble_eq_true rfl⟩ [0, 1, 2] rfl (by decide) 0 rfl rfl rfl hl.1 (Nat.le_of_ble_eq_true rfl) dL_law_1202 ⟨Nat.le_of_ble_eq_true rfl, Nat.le_of_ble_eq_true rfl⟩) (fun r_1 u_1 H locs hp_1 G => ?_)
  have G : wd X (fun q : Nat => s.heap.size ≤ q) (fun q : Nat => s.heap.size ≤ q) s [(m0, .inr (9, [.ref (w.1 0), .ref (w.1 1), .ref (w.1 2), .ref (w.1 3), .long 0, .long (Int32.toInt64 1), .ref (w.1 4), .ref (w.1 5), .ref (w.1 6), .ref (w.1 7), .ref (w.1 8), .int 0, .int 0, .int 0, .int 0, .int 0, .ref (w.1 9), .ref (w.1 10)])), ((w.1 2), .inl (X.2.2.1, 2, .inl (fun _ => 0))), ((w.1 3), .inl (X.2.1, 3, .inl (fun _ => 0)))] H locs := G
  refine lv_aload_n zx zb dL_law_1205 rfl (lv_at hl 1 rfl) ?_
  refine lv_aload_n zx zb dL_law_1206 rfl (lv_at hl 3 rfl) ?_
  refine lv_iload_n zx zb dL_law_1207 rfl (lv_at hl 0 rfl) ?_
  refine lv_iconst (v := 1) zx zb dL_law_1208 (by decide) ?_
  refine r_iadd (v := 1) S (by decide) dL_law_1209 ?_
  refine va_sld zx zb hX hbl hbA G.2.2.2.1 (k_vp (by decide)) dL_law_1210 ?_
  refine k_it (v := xs 1) rfl ?_
  refine o_wi (cells' := 94) (slots' := 3522) (wr := []) G rfl rfl [0, 1, 2] [] rfl rfl (by decide) (by decide) (n_V (As := [.int (xs 1)]) (rest := [.int r_1]) (C := RX11) (T := TX11) (N := 18) (ci := 9) S G (m_from l X m0 ([.ref (w.1 0), .ref (w.1 1), .ref (w.1 2), .ref (w.1 3), .long 0, .long (Int32.toInt64 1), .ref (w.1 4), .ref (w.1 5), .ref (w.1 6), .ref (w.1 7), .ref (w.1 8), .int 0, .int 0, .int 0, .int 0, .int 0, .ref (w.1 9), .ref (w.1 10)]) (w.1 2) (w.1 3) (fun _ => 0) (xs 1) rfl rfl H.size) gL_law_X11_from rfl rfl rfl hdV_X11_from ⟨Nat.le_of_ble_eq_true rfl, Nat.le_of_ble_eq_true rfl⟩ [0, 1, 2] rfl (by decide) 0 rfl rfl rfl hl.1 (Nat.le_of_ble_eq_true rfl) dL_law_1211 ⟨Nat.le_of_ble_eq_true rfl, Nat.le_of_ble_eq_true rfl⟩) (fun r_2 u_2 H locs hp_2 G => ?_)
  have G : wd X (fun q : Nat => s.heap.size ≤ q) (fun q : Nat => s.heap.size ≤ q) s [] H locs := G
  refine lv_icmp_eq (tgt := 1279) zx zb dL_law_1214 (by decide) (fun c_3 => ?_) (fun c_3 => absurd (hp_1.trans hp_2.symm) c_3)
  exact law_end (Nat.le_of_ble_eq_true rfl) (Nat.le_of_ble_eq_true rfl) S hX hbl zr zlk G hl
theorem hdV_X10_status : yX10_status.cls = RX10 ∧ yX10_status.cls ≠ "java/lang/invoke/MethodHandle" ∧ yX10_status.cls ≠ "java/lang/invoke/VarHandle" ∧ (parseMethodDescriptor yX10_status.desc).map (fun d => d.parameters.length) = some 1 := by decide +kernel
theorem hdV_X11_status : yX11_status.cls = RX11 ∧ yX11_status.cls ≠ "java/lang/invoke/MethodHandle" ∧ yX11_status.cls ≠ "java/lang/invoke/VarHandle" ∧ (parseMethodDescriptor yX11_status.desc).map (fun d => d.parameters.length) = some 1 := by decide +kernel
set_option maxRecDepth 100000 in
set_option maxHeartbeats 4000000 in
/-- status -/
theorem law_c34 {p : Program} {l : Launch} {e : Env} {s : State} {m : MethodId} {below : List Frame} {meth : Method} {c : Code} {b : Nat} {xs : Nat → Int32} {X : EX} {q0 m0 : Nat} {u : Nat → Nat} {w : (Nat → Nat) × (Nat → Int32)} (S : CallFix p m c cL_law 4 s #[Value.ref b] wsL_law RL) (hX : va_X b 6 xs s s.heap) (hbl : b < s.heap.size) (zr : meth.sig.returnType = ret) (zlk : meth.locks = false) (hz : ∀ j : Nat, j ≠ 36 → w.2 j = 0) (h36 : w.2 36 = 20) {H : Heap} {locs : List Loc} (G : wd X (fun q : Nat => s.heap.size ≤ q) (fun q : Nat => s.heap.size ≤ q) s (lwW X q0 m0 u w) H locs) {ls : Array Slot} (hl : lv_has ls 4 [(3, .int 0), (2, .ref m0), (1, .ref q0), (0, .ref b)]) : W p l e room_1 s m #[Value.ref b] below meth c H locs 94 3522 (lw_Z below #[Value.ref b] s) (F0 m 1219 ls []) := by
  have zx := S.1
  have zb := S.2.1
  have hbA : ¬ (fun q : Nat => s.heap.size ≤ q) b := Nat.not_le.mpr hbl
  have G : wd X (fun q : Nat => s.heap.size ≤ q) (fun q : Nat => s.heap.size ≤ q) s [(q0, .inr (8, [.ref (u 0), .ref (u 16), .ref (u 32), .ref (u 65), .ref (u 66), .ref (u 68), .long (Int32.toInt64 0), .long (Int32.toInt64 1), .ref (u 69), .ref (u 70), .ref (u 71), .ref (u 72), .ref (u 73), .ref (u 74)])), ((u 68), .inl (X.2.1, 3, .inl (fun _ => 0))), (m0, .inr (9, [.ref (w.1 0), .ref (w.1 1), .ref (w.1 2), .ref (w.1 3), .long 0, .long (Int32.toInt64 1), .ref (w.1 4), .ref (w.1 5), .ref (w.1 6), .ref (w.1 7), .ref (w.1 8), .int 0, .int 0, .int 0, .int 0, .int 0, .ref (w.1 9), .ref (w.1 10)])), ((w.1 3), .inl (X.2.1, 3, .inl (fun _ => 0)))] H locs := wd_sub G [0, 61, 62, 66] rfl (by decide)
  refine lv_aload_n zx zb dL_law_1219 rfl (lv_at hl 2 rfl) ?_
  refine lv_aload_n zx zb dL_law_1220 rfl (lv_at hl 3 rfl) ?_
  refine lv_iload_n zx zb dL_law_1221 rfl (lv_at hl 0 rfl) ?_
  refine lv_iconst (v := 1) zx zb dL_law_1222 (by decide) ?_
  refine r_iadd (v := 1) S (by decide) dL_law_1223 ?_
  refine va_sld zx zb hX hbl hbA G.2.2.2.1 (k_vp (by decide)) dL_law_1224 ?_
  refine k_it (v := xs 1) rfl ?_
  refine o_wi (cells' := 94) (slots' := 3522) (wr := [(m0, .inr (9, [.ref (w.1 0), .ref (w.1 1), .ref (w.1 2), .ref (w.1 3), .long 0, .long (Int32.toInt64 1), .ref (w.1 4), .ref (w.1 5), .ref (w.1 6), .ref (w.1 7), .ref (w.1 8), .int 0, .int 0, .int 0, .int 0, .int 0, .ref (w.1 9), .ref (w.1 10)])), ((w.1 3), .inl (X.2.1, 3, .inl (fun _ => 0)))]) G rfl rfl [0, 1] [2, 3] rfl rfl (by decide) (by decide) (n_V (As := [.int (xs 1)]) (rest := []) (C := RX10) (T := TX10) (N := 14) (ci := 8) S G (c_status l X q0 ([.ref (u 0), .ref (u 16), .ref (u 32), .ref (u 65), .ref (u 66), .ref (u 68), .long (Int32.toInt64 0), .long (Int32.toInt64 1), .ref (u 69), .ref (u 70), .ref (u 71), .ref (u 72), .ref (u 73), .ref (u 74)]) (u 68) (xs 1) rfl H.size) gL_law_X10_status rfl rfl rfl hdV_X10_status ⟨Nat.le_of_ble_eq_true rfl, Nat.le_of_ble_eq_true rfl⟩ [0, 1] rfl (by decide) 0 rfl rfl rfl hl.1 (Nat.le_of_ble_eq_true rfl) dL_law_1225 ⟨Nat.le_of_ble_eq_true rfl, Nat.le_of_ble_eq_true rfl⟩) (fun r_1 u_1 H locs hp_1 G => ?_)
  have G : wd X (fun q : Nat => s.heap.size ≤ q) (fun q : Nat => s.heap.size ≤ q) s [(m0, .inr (9, [.ref (w.1 0), .ref (w.1 1), .ref (w.1 2), .ref (w.1 3), .long 0, .long (Int32.toInt64 1), .ref (w.1 4), .ref (w.1 5), .ref (w.1 6), .ref (w.1 7), .ref (w.1 8), .int 0, .int 0, .int 0, .int 0, .int 0, .ref (w.1 9), .ref (w.1 10)])), ((w.1 3), .inl (X.2.1, 3, .inl (fun _ => 0)))] H locs := G
  refine lv_aload_n zx zb dL_law_1228 rfl (lv_at hl 1 rfl) ?_
  refine lv_aload_n zx zb dL_law_1229 rfl (lv_at hl 3 rfl) ?_
  refine lv_iload_n zx zb dL_law_1230 rfl (lv_at hl 0 rfl) ?_
  refine lv_iconst (v := 1) zx zb dL_law_1231 (by decide) ?_
  refine r_iadd (v := 1) S (by decide) dL_law_1232 ?_
  refine va_sld zx zb hX hbl hbA G.2.2.2.1 (k_vp (by decide)) dL_law_1233 ?_
  refine k_it (v := xs 1) rfl ?_
  refine o_wi (cells' := 94) (slots' := 3522) (wr := []) G rfl rfl [0, 1] [] rfl rfl (by decide) (by decide) (n_V (As := [.int (xs 1)]) (rest := [.int r_1]) (C := RX11) (T := TX11) (N := 18) (ci := 9) S G (m_status l X m0 ([.ref (w.1 0), .ref (w.1 1), .ref (w.1 2), .ref (w.1 3), .long 0, .long (Int32.toInt64 1), .ref (w.1 4), .ref (w.1 5), .ref (w.1 6), .ref (w.1 7), .ref (w.1 8), .int 0, .int 0, .int 0, .int 0, .int 0, .ref (w.1 9), .ref (w.1 10)]) (w.1 3) (xs 1) rfl H.size) gL_law_X11_status rfl rfl rfl hdV_X11_status ⟨Nat.le_of_ble_eq_true rfl, Nat.le_of_ble_eq_true rfl⟩ [0, 1] rfl (by decide) 0 rfl rfl rfl hl.1 (Nat.le_of_ble_eq_true rfl) dL_law_1234 ⟨Nat.le_of_ble_eq_true rfl, Nat.le_of_ble_eq_true rfl⟩) (fun r_2 u_2 H locs hp_2 G => ?_)
  have G : wd X (fun q : Nat => s.heap.size ≤ q) (fun q : Nat => s.heap.size ≤ q) s [] H locs := G
  refine lv_icmp_eq (tgt := 1279) zx zb dL_law_1237 (by decide) (fun c_3 => ?_) (fun c_3 => absurd (hp_1.trans hp_2.symm) c_3)
  exact law_end (Nat.le_of_ble_eq_true rfl) (Nat.le_of_ble_eq_true rfl) S hX hbl zr zlk G hl
theorem hdV_X11_count : yX11_count.cls = RX11 ∧ yX11_count.cls ≠ "java/lang/invoke/MethodHandle" ∧ yX11_count.cls ≠ "java/lang/invoke/VarHandle" ∧ (parseMethodDescriptor yX11_count.desc).map (fun d => d.parameters.length) = some 1 := by decide +kernel
set_option maxRecDepth 100000 in
set_option maxHeartbeats 4000000 in
/-- count -/
theorem law_c35 {p : Program} {l : Launch} {e : Env} {s : State} {m : MethodId} {below : List Frame} {meth : Method} {c : Code} {b : Nat} {xs : Nat → Int32} {X : EX} {q0 m0 : Nat} {u : Nat → Nat} {w : (Nat → Nat) × (Nat → Int32)} (S : CallFix p m c cL_law 4 s #[Value.ref b] wsL_law RL) (hX : va_X b 6 xs s s.heap) (hbl : b < s.heap.size) (zr : meth.sig.returnType = ret) (zlk : meth.locks = false) (hz : ∀ j : Nat, j ≠ 36 → w.2 j = 0) (h36 : w.2 36 = 20) {H : Heap} {locs : List Loc} (G : wd X (fun q : Nat => s.heap.size ≤ q) (fun q : Nat => s.heap.size ≤ q) s (lwW X q0 m0 u w) H locs) {ls : Array Slot} (hl : lv_has ls 4 [(3, .int 0), (2, .ref m0), (1, .ref q0), (0, .ref b)]) : W p l e room_1 s m #[Value.ref b] below meth c H locs 94 3522 (lw_Z below #[Value.ref b] s) (F0 m 1242 ls []) := by
  have zx := S.1
  have zb := S.2.1
  have hbA : ¬ (fun q : Nat => s.heap.size ≤ q) b := Nat.not_le.mpr hbl
  have G : wd X (fun q : Nat => s.heap.size ≤ q) (fun q : Nat => s.heap.size ≤ q) s [(q0, .inr (8, [.ref (u 0), .ref (u 16), .ref (u 32), .ref (u 65), .ref (u 66), .ref (u 68), .long (Int32.toInt64 0), .long (Int32.toInt64 1), .ref (u 69), .ref (u 70), .ref (u 71), .ref (u 72), .ref (u 73), .ref (u 74)])), ((u 0), .inr (3, [.int 20, .int 0, .int 0, .ref (u 1), .ref (u 8), .ref (u 10), .ref (u 12), .ref (u 14)])), ((u 8), .inr (2, [.ref (u 9), .int 0])), ((u 10), .inr (5, [.int 5, .int 0, .int 1, .ref (u 11), .int 0])), ((u 12), .inr (5, [.int 6, .int 1, .int 1, .ref (u 13), .int 0])), ((u 14), .inr (5, [.int 6, .int 0, .int 0, .ref (u 15), .int 0])), ((u 66), .inr (4, [.ref (u 67), .int 0, .int 0, .int 0, .int 0, .int 0, .int (-1)])), ((u 68), .inl (X.2.1, 3, .inl (fun _ => 0))), (m0, .inr (9, [.ref (w.1 0), .ref (w.1 1), .ref (w.1 2), .ref (w.1 3), .long 0, .long (Int32.toInt64 1), .ref (w.1 4), .ref (w.1 5), .ref (w.1 6), .ref (w.1 7), .ref (w.1 8), .int 0, .int 0, .int 0, .int 0, .int 0, .ref (w.1 9), .ref (w.1 10)])), ((w.1 0), .inl (X.2.1, 371, .inl w.2)), ((w.1 3), .inl (X.2.1, 3, .inl (fun _ => 0)))] H locs := wd_sub G [0, 1, 9, 11, 13, 15, 59, 61, 62, 63, 66] rfl (by decide)
  refine lv_aload_n zx zb dL_law_1242 rfl (lv_at hl 2 rfl) ?_
  refine lv_aload_n zx zb dL_law_1243 rfl (lv_at hl 3 rfl) ?_
  refine lv_iload_n zx zb dL_law_1244 rfl (lv_at hl 0 rfl) ?_
  refine lv_iconst (v := 1) zx zb dL_law_1245 (by decide) ?_
  refine r_iadd (v := 1) S (by decide) dL_law_1246 ?_
  refine va_sld zx zb hX hbl hbA G.2.2.2.1 (k_vp (by decide)) dL_law_1247 ?_
  refine k_it (v := xs 1) rfl ?_
  refine o_wi (cells' := 94) (slots' := 3522) (wr := [(m0, .inr (9, [.ref (w.1 0), .ref (w.1 1), .ref (w.1 2), .ref (w.1 3), .long 0, .long (Int32.toInt64 1), .ref (w.1 4), .ref (w.1 5), .ref (w.1 6), .ref (w.1 7), .ref (w.1 8), .int 0, .int 0, .int 0, .int 0, .int 0, .ref (w.1 9), .ref (w.1 10)])), ((w.1 0), .inl (X.2.1, 371, .inl w.2)), ((w.1 3), .inl (X.2.1, 3, .inl (fun _ => 0)))]) G rfl rfl [0, 1, 2, 3, 4, 5, 6, 7] [8, 9, 10] rfl rfl (by decide) (by decide) (n_V (As := [.int (xs 1)]) (rest := []) (C := RX10) (T := TX10) (N := 14) (ci := 8) S G (c_count l X q0 ([.ref (u 0), .ref (u 16), .ref (u 32), .ref (u 65), .ref (u 66), .ref (u 68), .long (Int32.toInt64 0), .long (Int32.toInt64 1), .ref (u 69), .ref (u 70), .ref (u 71), .ref (u 72), .ref (u 73), .ref (u 74)]) (u 0) (.ref (u 1)) (u 8) (u 10) (u 12) (u 14) (.ref (u 9)) (.int 5) (.int 0) (.int 1) (.ref (u 11)) (.int 6) (.int 1) (.int 1) (.ref (u 13)) (.int 6) (.int 0) (.int 0) (.ref (u 15)) (u 66) ([.ref (u 67), .int 0, .int 0, .int 0, .int 0, .int 0, .int (-1)]) (u 68) (fun _ => 0) (xs 1) rfl rfl rfl rfl H.size) gL_law_X10_count rfl rfl rfl hdV_X10_count ⟨Nat.le_of_ble_eq_true rfl, Nat.le_of_ble_eq_true rfl⟩ [0, 1, 2, 3, 4, 5, 6, 7] rfl (by decide) 0 rfl rfl rfl hl.1 (Nat.le_of_ble_eq_true rfl) dL_law_1248 ⟨Nat.le_of_ble_eq_true rfl, Nat.le_of_ble_eq_true rfl⟩) (fun r_1 u_1 H locs hp_1 G => ?_)
  have G : wd X (fun q : Nat => s.heap.size ≤ q) (fun q : Nat => s.heap.size ≤ q) s [(m0, .inr (9, [.ref (w.1 0), .ref (w.1 1), .ref (w.1 2), .ref (w.1 3), .long 0, .long (Int32.toInt64 1), .ref (w.1 4), .ref (w.1 5), .ref (w.1 6), .ref (w.1 7), .ref (w.1 8), .int 0, .int 0, .int 0, .int 0, .int 0, .ref (w.1 9), .ref (w.1 10)])), ((w.1 0), .inl (X.2.1, 371, .inl w.2)), ((w.1 3), .inl (X.2.1, 3, .inl (fun _ => 0)))] H locs := G
  refine lv_aload_n zx zb dL_law_1251 rfl (lv_at hl 1 rfl) ?_
  refine lv_aload_n zx zb dL_law_1252 rfl (lv_at hl 3 rfl) ?_
  refine lv_iload_n zx zb dL_law_1253 rfl (lv_at hl 0 rfl) ?_
  refine lv_iconst (v := 1) zx zb dL_law_1254 (by decide) ?_
  refine r_iadd (v := 1) S (by decide) dL_law_1255 ?_
  refine va_sld zx zb hX hbl hbA G.2.2.2.1 (k_vp (by decide)) dL_law_1256 ?_
  refine k_it (v := xs 1) rfl ?_
  refine o_wi (cells' := 94) (slots' := 3522) (wr := []) G rfl rfl [0, 1, 2] [] rfl rfl (by decide) (by decide) (n_V (As := [.int (xs 1)]) (rest := [.int r_1]) (C := RX11) (T := TX11) (N := 18) (ci := 9) S G (m_count l X m0 ([.ref (w.1 0), .ref (w.1 1), .ref (w.1 2), .ref (w.1 3), .long 0, .long (Int32.toInt64 1), .ref (w.1 4), .ref (w.1 5), .ref (w.1 6), .ref (w.1 7), .ref (w.1 8), .int 0, .int 0, .int 0, .int 0, .int 0, .ref (w.1 9), .ref (w.1 10)]) (w.1 0) w.2 (w.1 3) (fun _ => 0) (xs 1) rfl rfl rfl hz h36 H.size) gL_law_X11_count rfl rfl rfl hdV_X11_count ⟨Nat.le_of_ble_eq_true rfl, Nat.le_of_ble_eq_true rfl⟩ [0, 1, 2] rfl (by decide) 0 rfl rfl rfl hl.1 (Nat.le_of_ble_eq_true rfl) dL_law_1257 ⟨Nat.le_of_ble_eq_true rfl, Nat.le_of_ble_eq_true rfl⟩) (fun r_2 u_2 H locs hp_2 G => ?_)
  have G : wd X (fun q : Nat => s.heap.size ≤ q) (fun q : Nat => s.heap.size ≤ q) s [] H locs := G
  refine lv_icmp_eq (tgt := 1279) zx zb dL_law_1260 (by decide) (fun c_3 => ?_) (fun c_3 => absurd (hp_1.trans hp_2.symm) c_3)
  exact law_end (Nat.le_of_ble_eq_true rfl) (Nat.le_of_ble_eq_true rfl) S hX hbl zr zlk G hl
theorem hdV_X10_digest : yX10_digest.cls = RX10 ∧ yX10_digest.cls ≠ "java/lang/invoke/MethodHandle" ∧ yX10_digest.cls ≠ "java/lang/invoke/VarHandle" ∧ (parseMethodDescriptor yX10_digest.desc).map (fun d => d.parameters.length) = some 0 := by decide +kernel
theorem hdV_X11_digest : yX11_digest.cls = RX11 ∧ yX11_digest.cls ≠ "java/lang/invoke/MethodHandle" ∧ yX11_digest.cls ≠ "java/lang/invoke/VarHandle" ∧ (parseMethodDescriptor yX11_digest.desc).map (fun d => d.parameters.length) = some 0 := by decide +kernel
set_option maxRecDepth 100000 in
set_option maxHeartbeats 4000000 in
/-- digest -/
theorem law_c36 {p : Program} {l : Launch} {e : Env} {s : State} {m : MethodId} {below : List Frame} {meth : Method} {c : Code} {b : Nat} {xs : Nat → Int32} {X : EX} {q0 m0 : Nat} {u : Nat → Nat} {w : (Nat → Nat) × (Nat → Int32)} (S : CallFix p m c cL_law 4 s #[Value.ref b] wsL_law RL) (hX : va_X b 6 xs s s.heap) (hbl : b < s.heap.size) (zr : meth.sig.returnType = ret) (zlk : meth.locks = false) (hz : ∀ j : Nat, j ≠ 36 → w.2 j = 0) (h36 : w.2 36 = 20) {H : Heap} {locs : List Loc} (G : wd X (fun q : Nat => s.heap.size ≤ q) (fun q : Nat => s.heap.size ≤ q) s (lwW X q0 m0 u w) H locs) {ls : Array Slot} (hl : lv_has ls 4 [(3, .int 0), (2, .ref m0), (1, .ref q0), (0, .ref b)]) : W p l e room_1 s m #[Value.ref b] below meth c H locs 94 3522 (lw_Z below #[Value.ref b] s) (F0 m 1265 ls []) := by
  have zx := S.1
  have zb := S.2.1
  have hbA : ¬ (fun q : Nat => s.heap.size ≤ q) b := Nat.not_le.mpr hbl
  have G : wd X (fun q : Nat => s.heap.size ≤ q) (fun q : Nat => s.heap.size ≤ q) s [(q0, .inr (8, [.ref (u 0), .ref (u 16), .ref (u 32), .ref (u 65), .ref (u 66), .ref (u 68), .long (Int32.toInt64 0), .long (Int32.toInt64 1), .ref (u 69), .ref (u 70), .ref (u 71), .ref (u 72), .ref (u 73), .ref (u 74)])), ((u 0), .inr (3, [.int 20, .int 0, .int 0, .ref (u 1), .ref (u 8), .ref (u 10), .ref (u 12), .ref (u 14)])), ((u 8), .inr (2, [.ref (u 9), .int 0])), ((u 10), .inr (5, [.int 5, .int 0, .int 1, .ref (u 11), .int 0])), ((u 12), .inr (5, [.int 6, .int 1, .int 1, .ref (u 13), .int 0])), ((u 14), .inr (5, [.int 6, .int 0, .int 0, .ref (u 15), .int 0])), ((u 66), .inr (4, [.ref (u 67), .int 0, .int 0, .int 0, .int 0, .int 0, .int (-1)])), (m0, .inr (9, [.ref (w.1 0), .ref (w.1 1), .ref (w.1 2), .ref (w.1 3), .long 0, .long (Int32.toInt64 1), .ref (w.1 4), .ref (w.1 5), .ref (w.1 6), .ref (w.1 7), .ref (w.1 8), .int 0, .int 0, .int 0, .int 0, .int 0, .ref (w.1 9), .ref (w.1 10)])), ((w.1 0), .inl (X.2.1, 371, .inl w.2))] H locs := wd_sub G [0, 1, 9, 11, 13, 15, 59, 62, 63] rfl (by decide)
  refine lv_aload_n zx zb dL_law_1265 rfl (lv_at hl 2 rfl) ?_
  refine o_rl (cells' := 94) (slots' := 3522) G rfl rfl (n_V (As := []) (rest := []) (C := RX10) (T := TX10) (N := 14) (ci := 8) S G (c_digest l X q0 ([.ref (u 0), .ref (u 16), .ref (u 32), .ref (u 65), .ref (u 66), .ref (u 68), .long (Int32.toInt64 0), .long (Int32.toInt64 1), .ref (u 69), .ref (u 70), .ref (u 71), .ref (u 72), .ref (u 73), .ref (u 74)]) (u 0) (.ref (u 1)) (u 8) (u 10) (u 12) (u 14) (.ref (u 9)) (.int 5) (.int 0) (.int 1) (.ref (u 11)) (.int 6) (.int 1) (.int 1) (.ref (u 13)) (.int 6) (.int 0) (.int 0) (.ref (u 15)) (u 66) ([.ref (u 67), .int 0, .int 0, .int 0, .int 0, .int 0, .int (-1)]) rfl rfl rfl rfl rfl H.size) gL_law_X10_digest rfl rfl rfl hdV_X10_digest ⟨Nat.le_of_ble_eq_true rfl, Nat.le_of_ble_eq_true rfl⟩ [0, 1, 2, 3, 4, 5, 6] rfl (by decide) 0 rfl rfl rfl hl.1 (Nat.le_of_ble_eq_true rfl) dL_law_1266 ⟨Nat.le_of_ble_eq_true rfl, Nat.le_of_ble_eq_true rfl⟩) (fun r_1 u_1 H locs hp_1 G => ?_)
  have G : wd X (fun q : Nat => s.heap.size ≤ q) (fun q : Nat => s.heap.size ≤ q) s [(q0, .inr (8, [.ref (u 0), .ref (u 16), .ref (u 32), .ref (u 65), .ref (u 66), .ref (u 68), .long (Int32.toInt64 0), .long (Int32.toInt64 1), .ref (u 69), .ref (u 70), .ref (u 71), .ref (u 72), .ref (u 73), .ref (u 74)])), ((u 0), .inr (3, [.int 20, .int 0, .int 0, .ref (u 1), .ref (u 8), .ref (u 10), .ref (u 12), .ref (u 14)])), ((u 8), .inr (2, [.ref (u 9), .int 0])), ((u 10), .inr (5, [.int 5, .int 0, .int 1, .ref (u 11), .int 0])), ((u 12), .inr (5, [.int 6, .int 1, .int 1, .ref (u 13), .int 0])), ((u 14), .inr (5, [.int 6, .int 0, .int 0, .ref (u 15), .int 0])), ((u 66), .inr (4, [.ref (u 67), .int 0, .int 0, .int 0, .int 0, .int 0, .int (-1)])), (m0, .inr (9, [.ref (w.1 0), .ref (w.1 1), .ref (w.1 2), .ref (w.1 3), .long 0, .long (Int32.toInt64 1), .ref (w.1 4), .ref (w.1 5), .ref (w.1 6), .ref (w.1 7), .ref (w.1 8), .int 0, .int 0, .int 0, .int 0, .int 0, .ref (w.1 9), .ref (w.1 10)])), ((w.1 0), .inl (X.2.1, 371, .inl w.2))] H locs := G
  refine lv_aload_n zx zb dL_law_1269 rfl (lv_at hl 1 rfl) ?_
  refine o_rl (cells' := 94) (slots' := 3522) G rfl rfl (n_V (As := []) (rest := [.long r_1]) (C := RX11) (T := TX11) (N := 18) (ci := 9) S G (m_digest l X m0 ([.ref (w.1 0), .ref (w.1 1), .ref (w.1 2), .ref (w.1 3), .long 0, .long (Int32.toInt64 1), .ref (w.1 4), .ref (w.1 5), .ref (w.1 6), .ref (w.1 7), .ref (w.1 8), .int 0, .int 0, .int 0, .int 0, .int 0, .ref (w.1 9), .ref (w.1 10)]) (w.1 0) w.2 rfl rfl rfl rfl hz h36 H.size) gL_law_X11_digest rfl rfl rfl hdV_X11_digest ⟨Nat.le_of_ble_eq_true rfl, Nat.le_of_ble_eq_true rfl⟩ [7, 8] rfl (by decide) 7 rfl rfl rfl hl.1 (Nat.le_of_ble_eq_true rfl) dL_law_1270 ⟨Nat.le_of_ble_eq_true rfl, Nat.le_of_ble_eq_true rfl⟩) (fun r_2 u_2 H locs hp_2 G => ?_)
  have G : wd X (fun q : Nat => s.heap.size ≤ q) (fun q : Nat => s.heap.size ≤ q) s [(q0, .inr (8, [.ref (u 0), .ref (u 16), .ref (u 32), .ref (u 65), .ref (u 66), .ref (u 68), .long (Int32.toInt64 0), .long (Int32.toInt64 1), .ref (u 69), .ref (u 70), .ref (u 71), .ref (u 72), .ref (u 73), .ref (u 74)])), ((u 0), .inr (3, [.int 20, .int 0, .int 0, .ref (u 1), .ref (u 8), .ref (u 10), .ref (u 12), .ref (u 14)])), ((u 8), .inr (2, [.ref (u 9), .int 0])), ((u 10), .inr (5, [.int 5, .int 0, .int 1, .ref (u 11), .int 0])), ((u 12), .inr (5, [.int 6, .int 1, .int 1, .ref (u 13), .int 0])), ((u 14), .inr (5, [.int 6, .int 0, .int 0, .ref (u 15), .int 0])), ((u 66), .inr (4, [.ref (u 67), .int 0, .int 0, .int 0, .int 0, .int 0, .int (-1)])), (m0, .inr (9, [.ref (w.1 0), .ref (w.1 1), .ref (w.1 2), .ref (w.1 3), .long 0, .long (Int32.toInt64 1), .ref (w.1 4), .ref (w.1 5), .ref (w.1 6), .ref (w.1 7), .ref (w.1 8), .int 0, .int 0, .int 0, .int 0, .int 0, .ref (w.1 9), .ref (w.1 10)])), ((w.1 0), .inl (X.2.1, 371, .inl w.2))] H locs := G
  refine W.lcmp zx zb dL_law_1273 ?_
  refine lv_if_eq (tgt := 1279) zx zb dL_law_1274 (by decide) (fun c_3 => ?_) (fun c_3 => absurd (k_lcz (hp_1.trans hp_2.symm)) c_3)
  exact law_end (Nat.le_of_ble_eq_true rfl) (Nat.le_of_ble_eq_true rfl) S hX hbl zr zlk G hl
