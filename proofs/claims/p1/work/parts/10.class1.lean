set_option maxHeartbeats 4000000 in
set_option maxRecDepth 100000 in
/-- within: whether least ≤ value ≤ most -/
theorem c_within (l : Launch) (X : EX) (v : Int32) (lo : Int32) (hi : Int32) (sz : Nat) : Met l yX10_within wsX10_within ({ frames := 0, cells := 0, slots := 0, locals := 0 } : Room) (pE X [.int v, .int lo, .int hi] [] sz) (qI (fun (r : Int32) (u : Unit) => (r = 1 ∧ (lo ≤ v ∧ v ≤ hi)) ∨ (r = 0 ∧ ¬ (lo ≤ v ∧ v ≤ hi))) X (fun (u : Unit) => []) [] sz) 0 0 (va_A [] sz) := by
  refine mk_met (B := (fun _ => True)) (A := (va_A [] sz)) (cc := cX10_within) (maxL := 3) (ret := (some .boolean)) (by decide) rfl (Nat.le_of_ble_eq_true rfl) k_ro k_a (fun p e s m below meth c S zr zlk znm zsz G ls hl => ?_)
  have S : CallFix p m c cX10_within 3 s _ wsX10_within RX10 := S
  have zx := S.1
  have zb := S.2.1
  have hl : lv_has ls 3 [(0, .int v), (1, .int lo), (2, .int hi)] := hl
  refine lv_iload_n zx zb dX10_within_0 rfl (lv_at hl 0 rfl) ?_
  refine lv_iload_n zx zb dX10_within_1 rfl (lv_at hl 1 rfl) ?_
  refine lv_icmp_lt (tgt := 14) zx zb dX10_within_2 (by decide) (fun c_1 => ?_) (fun c_1 => ?_)
  · refine lv_iconst (v := 0) zx zb dX10_within_14 (by decide) ?_
    exact e_int S zr zlk (by decide) G () [] rfl (by decide) (Or.inl rfl) (by first | exact Or.inl ⟨rfl, Int32.not_lt.mp c_1, Int32.not_lt.mp c_2⟩ | exact Or.inr ⟨rfl, fun h => absurd c_1 (Int32.not_lt.mpr h.1)⟩ | exact Or.inr ⟨rfl, fun h => absurd c_2 (Int32.not_lt.mpr h.2)⟩) dX10_within_15
  · refine lv_iload_n zx zb dX10_within_5 rfl (lv_at hl 0 rfl) ?_
    refine lv_iload_n zx zb dX10_within_6 rfl (lv_at hl 2 rfl) ?_
    refine lv_icmp_gt (tgt := 14) zx zb dX10_within_7 (by decide) (fun c_2 => ?_) (fun c_2 => ?_)
    · refine lv_iconst (v := 0) zx zb dX10_within_14 (by decide) ?_
      exact e_int S zr zlk (by decide) G () [] rfl (by decide) (Or.inl rfl) (by first | exact Or.inl ⟨rfl, Int32.not_lt.mp c_1, Int32.not_lt.mp c_2⟩ | exact Or.inr ⟨rfl, fun h => absurd c_1 (Int32.not_lt.mpr h.1)⟩ | exact Or.inr ⟨rfl, fun h => absurd c_2 (Int32.not_lt.mpr h.2)⟩) dX10_within_15
    · refine lv_iconst (v := 1) zx zb dX10_within_10 (by decide) ?_
      refine lv_goto (tgt := 15) zx zb dX10_within_11 (by decide) ?_
      exact e_int S zr zlk (by decide) G () [] rfl (by decide) (Or.inl rfl) (by first | exact Or.inl ⟨rfl, Int32.not_lt.mp c_1, Int32.not_lt.mp c_2⟩ | exact Or.inr ⟨rfl, fun h => absurd c_1 (Int32.not_lt.mpr h.1)⟩ | exact Or.inr ⟨rfl, fun h => absurd c_2 (Int32.not_lt.mpr h.2)⟩) dX10_within_15
theorem in_X10_there_X10 : ∀ w ∈ wsX100, w ∈ wsX10_there := by decide +kernel
theorem lk_X10_there_10 : Cond.fieldLink RX10 10 "EggSpoons" "now" "LEggSpoons$Race;" ∈ wsX10_there := by decide +kernel
theorem in_X10_there_X5 : ∀ w ∈ wsX50, w ∈ wsX10_there := by decide +kernel
theorem lk_X10_there_87 : Cond.fieldLink RX10 87 "EggSpoons$Race" "runners" "I" ∈ wsX10_there := by decide +kernel
set_option maxHeartbeats 4000000 in
set_option maxRecDepth 100000 in
/-- there, with no runner: no -/
theorem c_there (l : Launch) (X : EX) (h0 : Nat) (fs : List Value) (hn : Nat) (gs : List Value) (i : Int32) (hf0 : fs[0]? = some (.ref hn)) (hg2 : gs[2]? = some (.int 0)) (sz : Nat) : Met l yX10_there wsX10_there ({ frames := 0, cells := 0, slots := 0, locals := 0 } : Room) (pE X [.ref h0, .int i] [(h0, .inr (8, fs)), (hn, .inr (3, gs))] sz) (qI (fun (r : Int32) (u : Unit) => r = 0) X (fun (u : Unit) => []) [] sz) 0 0 (va_A [] sz) := by
  refine mk_met (B := (fun _ => True)) (A := (va_A [] sz)) (cc := cX10_there) (maxL := 2) (ret := (some .boolean)) (by decide) rfl (Nat.le_of_ble_eq_true rfl) k_ro k_a (fun p e s m below meth c S zr zlk znm zsz G ls hl => ?_)
  have S : CallFix p m c cX10_there 2 s _ wsX10_there RX10 := S
  have zx := S.1
  have zb := S.2.1
  have hl : lv_has ls 2 [(0, .ref h0), (1, .int i)] := hl
  refine lv_iload_n zx zb dX10_there_0 rfl (lv_at hl 1 rfl) ?_
  refine lv_if_lt (tgt := 19) zx zb dX10_there_1 (by decide) (fun c_1 => ?_) (fun c_1 => ?_)
  · refine lv_iconst (v := 0) zx zb dX10_there_19 (by decide) ?_
    exact e_int S zr zlk (by decide) G () [] rfl (by decide) (Or.inl rfl) (rfl) dX10_there_20
  · refine lv_iload_n zx zb dX10_there_4 rfl (lv_at hl 1 rfl) ?_
    refine lv_aload_n zx zb dX10_there_5 rfl (lv_at hl 0 rfl) ?_
    refine r_get (C := RX10) (T := TX10) (N := 14) (ci := 8) (v := .ref hn) S in_X10_there_X10 G 0 rfl rfl 0 (by decide) lk_X10_there_10 hf0 dX10_there_6 ?_
    refine r_get (C := RX5) (T := TX5) (N := 8) (ci := 3) (v := .int 0) S in_X10_there_X5 G 1 rfl rfl 2 (by decide) lk_X10_there_87 hg2 dX10_there_9 ?_
    refine lv_icmp_ge (tgt := 19) zx zb dX10_there_12 (by decide) (fun c_2 => ?_) (fun c_2 => absurd (Int32.not_lt.mp c_1) c_2)
    refine lv_iconst (v := 0) zx zb dX10_there_19 (by decide) ?_
    exact e_int S zr zlk (by decide) G () [] rfl (by decide) (Or.inl rfl) (rfl) dX10_there_20
theorem hdV_X10_there : yX10_there.cls = RX10 ∧ yX10_there.cls ≠ "java/lang/invoke/MethodHandle" ∧ yX10_there.cls ≠ "java/lang/invoke/VarHandle" ∧ (parseMethodDescriptor yX10_there.desc).map (fun d => d.parameters.length) = some 1 := by decide +kernel
set_option maxHeartbeats 4000000 in
set_option maxRecDepth 100000 in
/-- areTwo, with no runner: no -/
theorem c_areTwo (l : Launch) (X : EX) (h0 : Nat) (fs : List Value) (hn : Nat) (gs : List Value) (i : Int32) (j : Int32) (hf0 : fs[0]? = some (.ref hn)) (hg2 : gs[2]? = some (.int 0)) (sz : Nat) : Met l yX10_areTwo wsX10_areTwo ({ frames := 1, cells := 0, slots := 0, locals := 21 } : Room) (pE X [.ref h0, .int i, .int j] [(h0, .inr (8, fs)), (hn, .inr (3, gs))] sz) (qI (fun (r : Int32) (u : Unit) => r = 0) X (fun (u : Unit) => []) [] sz) 0 0 (va_A [] sz) := by
  refine mk_met (B := (fun _ => True)) (A := (va_A [] sz)) (cc := cX10_areTwo) (maxL := 3) (ret := (some .boolean)) (by decide) rfl (Nat.le_of_ble_eq_true rfl) k_ro k_a (fun p e s m below meth c S zr zlk znm zsz G ls hl => ?_)
  have S : CallFix p m c cX10_areTwo 3 s _ wsX10_areTwo RX10 := S
  have zx := S.1
  have zb := S.2.1
  have hl : lv_has ls 3 [(0, .ref h0), (1, .int i), (2, .int j)] := hl
  refine lv_aload_n zx zb dX10_areTwo_0 rfl (lv_at hl 0 rfl) ?_
  refine lv_iload_n zx zb dX10_areTwo_1 rfl (lv_at hl 1 rfl) ?_
  refine o_ri (cells' := 0) (slots' := 0) G rfl rfl (n_V (As := [.int i]) (rest := []) (C := RX10) (T := TX10) (N := 14) (ci := 8) S G (c_there l X h0 fs hn gs i hf0 hg2 s.heap.size) gX10_areTwo_X10_there rfl rfl rfl hdV_X10_there ⟨Nat.le_of_ble_eq_true rfl, Nat.le_of_ble_eq_true rfl⟩ [0, 1] rfl (by decide) 0 rfl rfl rfl hl.1 (Nat.le_of_ble_eq_true rfl) dX10_areTwo_2 ⟨Nat.le_of_ble_eq_true rfl, Nat.le_of_ble_eq_true rfl⟩) (fun r_1 u_1 H locs hp_1 G => ?_)
  have G : wd X (fun _ => True) (va_A [] sz) s [(h0, .inr (8, fs)), (hn, .inr (3, gs))] H locs := G
  subst hp_1
  refine lv_if_eq (tgt := 25) zx zb dX10_areTwo_5 (by decide) (fun c_2 => ?_) (fun c_2 => absurd (by decide) c_2)
  refine lv_iconst (v := 0) zx zb dX10_areTwo_25 (by decide) ?_
  exact e_int S zr zlk (by decide) G () [] rfl (by decide) (Or.inl rfl) (rfl) dX10_areTwo_26
theorem in_X10_refuse_X10 : ∀ w ∈ wsX100, w ∈ wsX10_refuse := by decide +kernel
theorem lk_X10_refuse_34 : Cond.fieldLink RX10 34 "EggSpoons" "refused" "[I" ∈ wsX10_refuse := by decide +kernel
set_option maxHeartbeats 4000000 in
set_option maxRecDepth 100000 in
/-- refuse: counts, answers the reason -/
theorem c_refuse (l : Launch) (X : EX) (h0 : Nat) (fs : List Value) (hr : Nat) (fr : Nat → Int32) (x : Int32) (hf5 : fs[5]? = some (.ref hr)) (sz : Nat) : Met l yX10_refuse wsX10_refuse ({ frames := 0, cells := 0, slots := 0, locals := 0 } : Room) (pE X [.ref h0, .int x] [(h0, .inr (8, fs)), (hr, .inl (X.2.1, 3, .inl fr))] sz) (qI (fun (r : Int32) (u : Unit) => r = x) X (fun (u : Unit) => []) [(h0, .inr (8, fs)), (hr, .inl (X.2.1, 3, .inl fr))] sz) 0 0 (va_A [(h0, .inr (8, fs)), (hr, .inl (X.2.1, 3, .inl fr))] sz) := by
  refine mk_met (B := (va_A [(h0, .inr (8, fs)), (hr, .inl (X.2.1, 3, .inl fr))] sz)) (A := (va_A [(h0, .inr (8, fs)), (hr, .inl (X.2.1, 3, .inl fr))] sz)) (cc := cX10_refuse) (maxL := 3) (ret := (some .int)) (by decide) rfl (Nat.le_of_ble_eq_true rfl) k_w k_a (fun p e s m below meth c S zr zlk znm zsz G ls hl => ?_)
  have S : CallFix p m c cX10_refuse 3 s _ wsX10_refuse RX10 := S
  have zx := S.1
  have zb := S.2.1
  have hl : lv_has ls 3 [(0, .ref h0), (1, .int x)] := hl
  refine lv_bipush (v := (-2)) zx zb dX10_refuse_0 (by decide) ?_
  refine lv_iload_n zx zb dX10_refuse_2 rfl (lv_at hl 1 rfl) ?_
  refine r_isub (v := ((-2) - x)) S rfl dX10_refuse_3 ?_
  refine lv_istore_n (lv' := [(2, .int ((-2) - x)), (0, .ref h0), (1, .int x)]) zx zb dX10_refuse_4 rfl hl (by decide) rfl (fun ls hl => ?_)
  refine lv_iload_n zx zb dX10_refuse_5 rfl (lv_at hl 0 rfl) ?_
  refine lv_if_lt (tgt := 28) zx zb dX10_refuse_6 (by decide) (fun c_1 => ?_) (fun c_1 => ?_)
  · refine lv_iload_n zx zb dX10_refuse_28 rfl (lv_at hl 2 rfl) ?_
    exact e_int S zr zlk (vp_nar_int _) G () [] rfl (by decide) (Or.inl rfl) (rfl) dX10_refuse_29
  · refine lv_iload_n zx zb dX10_refuse_9 rfl (lv_at hl 0 rfl) ?_
    refine lv_aload_n zx zb dX10_refuse_10 rfl (lv_at hl 1 rfl) ?_
    refine r_get (C := RX10) (T := TX10) (N := 14) (ci := 8) (v := .ref hr) S in_X10_refuse_X10 G 0 rfl rfl 5 (by decide) lk_X10_refuse_34 hf5 dX10_refuse_11 ?_
    refine r_alen (v := 3) S G 1 0 rfl rfl rfl dX10_refuse_14 ?_
    refine lv_icmp_ge (tgt := 28) zx zb dX10_refuse_15 (by decide) (fun c_2 => ?_) (fun c_2 => ?_)
    · refine lv_iload_n zx zb dX10_refuse_28 rfl (lv_at hl 2 rfl) ?_
      exact e_int S zr zlk (vp_nar_int _) G () [] rfl (by decide) (Or.inl rfl) (rfl) dX10_refuse_29
    · refine lv_aload_n zx zb dX10_refuse_18 rfl (lv_at hl 1 rfl) ?_
      refine r_get (C := RX10) (T := TX10) (N := 14) (ci := 8) (v := .ref hr) S in_X10_refuse_X10 G 0 rfl rfl 5 (by decide) lk_X10_refuse_34 hf5 dX10_refuse_19 ?_
      refine lv_iload_n zx zb dX10_refuse_22 rfl (lv_at hl 0 rfl) ?_
      refine lv_dup2_11 zx zb dX10_refuse_23 rfl rfl ?_
      refine r_iald (v := (fr ((-2) - x).toNatClampNeg)) S G 1 rfl (k_in (by decide) c_1 c_2) rfl dX10_refuse_24 ?_
      refine lv_iconst (v := 1) zx zb dX10_refuse_25 (by decide) ?_
      refine r_iadd (v := ((fr ((-2) - x).toNatClampNeg) + 1)) S rfl dX10_refuse_26 ?_
      refine r_iast S G 1 rfl (k_in (by decide) c_1 c_2) dX10_refuse_27 (fun H locs G => ?_)
      obtain ⟨g_3, G⟩ : ∃ g_3 : Nat → Int32, wd X (va_A [(h0, .inr (8, fs)), (hr, .inl (X.2.1, 3, .inl fr))] sz) (va_A [(h0, .inr (8, fs)), (hr, .inl (X.2.1, 3, .inl fr))] sz) s [(h0, .inr (8, fs)), (hr, .inl (X.2.1, 3, .inl g_3))] H locs := ⟨_, G⟩
      refine lv_iload_n zx zb dX10_refuse_28 rfl (lv_at hl 2 rfl) ?_
      exact e_int S zr zlk (vp_nar_int _) G () [] rfl (by decide) (Or.inl rfl) (rfl) dX10_refuse_29
theorem hdV_X10_refuse : yX10_refuse.cls = RX10 ∧ yX10_refuse.cls ≠ "java/lang/invoke/MethodHandle" ∧ yX10_refuse.cls ≠ "java/lang/invoke/VarHandle" ∧ (parseMethodDescriptor yX10_refuse.desc).map (fun d => d.parameters.length) = some 1 := by decide +kernel
set_option maxHeartbeats 4000000 in
set_option maxRecDepth 100000 in
/-- speed, with no runner -/
theorem c_speed (l : Launch) (X : EX) (h0 : Nat) (fs : List Value) (hn : Nat) (gs : List Value) (hr : Nat) (fr : Nat → Int32) (x1 : Int32) (x2 : Int32) (hf0 : fs[0]? = some (.ref hn)) (hf5 : fs[5]? = some (.ref hr)) (hg2 : gs[2]? = some (.int 0)) (sz : Nat) : Met l yX10_speed wsX10_speed ({ frames := 1, cells := 0, slots := 0, locals := 22 } : Room) (pE X [.ref h0, .int x1, .int x2] [(h0, .inr (8, fs)), (hn, .inr (3, gs)), (hr, .inl (X.2.1, 3, .inl fr))] sz) (qI (fun (r : Int32) (u : Unit) => r = (-2)) X (fun (u : Unit) => []) [(h0, .inr (8, fs)), (hn, .inr (3, gs)), (hr, .inl (X.2.1, 3, .inl fr))] sz) 0 0 (va_A [(h0, .inr (8, fs)), (hn, .inr (3, gs)), (hr, .inl (X.2.1, 3, .inl fr))] sz) := by
  refine mk_met (B := (va_A [(h0, .inr (8, fs)), (hn, .inr (3, gs)), (hr, .inl (X.2.1, 3, .inl fr))] sz)) (A := (va_A [(h0, .inr (8, fs)), (hn, .inr (3, gs)), (hr, .inl (X.2.1, 3, .inl fr))] sz)) (cc := cX10_speed) (maxL := 5) (ret := (some .int)) (by decide) rfl (Nat.le_of_ble_eq_true rfl) k_w k_a (fun p e s m below meth c S zr zlk znm zsz G ls hl => ?_)
  have S : CallFix p m c cX10_speed 5 s _ wsX10_speed RX10 := S
  have zx := S.1
  have zb := S.2.1
  have hl : lv_has ls 5 [(0, .ref h0), (1, .int x1), (2, .int x2)] := hl
  refine lv_aload_n zx zb dX10_speed_0 rfl (lv_at hl 0 rfl) ?_
  refine lv_iload_n zx zb dX10_speed_1 rfl (lv_at hl 1 rfl) ?_
  refine o_ri (cells' := 0) (slots' := 0) G rfl rfl (n_V (As := [.int x1]) (rest := []) (C := RX10) (T := TX10) (N := 14) (ci := 8) S G (c_there l X h0 fs hn gs x1 hf0 hg2 s.heap.size) gX10_speed_X10_there rfl rfl rfl hdV_X10_there ⟨Nat.le_of_ble_eq_true rfl, Nat.le_of_ble_eq_true rfl⟩ [0, 1] rfl (by decide) 0 rfl rfl rfl hl.1 (Nat.le_of_ble_eq_true rfl) dX10_speed_2 ⟨Nat.le_of_ble_eq_true rfl, Nat.le_of_ble_eq_true rfl⟩) (fun r_1 u_1 H locs hp_1 G => ?_)
  have G : wd X (va_A [(h0, .inr (8, fs)), (hn, .inr (3, gs)), (hr, .inl (X.2.1, 3, .inl fr))] sz) (va_A [(h0, .inr (8, fs)), (hn, .inr (3, gs)), (hr, .inl (X.2.1, 3, .inl fr))] sz) s [(h0, .inr (8, fs)), (hn, .inr (3, gs)), (hr, .inl (X.2.1, 3, .inl fr))] H locs := G
  subst hp_1
  refine lv_if_eq (tgt := 18) zx zb dX10_speed_5 (by decide) (fun c_2 => ?_) (fun c_2 => absurd (by decide) c_2)
  refine lv_aload_n zx zb dX10_speed_18 rfl (lv_at hl 0 rfl) ?_
  refine lv_bipush (v := (-2)) zx zb dX10_speed_19 (by decide) ?_
  refine o_wi (cells' := 0) (slots' := 0) (wr := [(hn, .inr (3, gs))]) G rfl rfl [0, 2] [1] rfl rfl (by decide) (by decide) (n_V (As := [.int (-2)]) (rest := []) (C := RX10) (T := TX10) (N := 14) (ci := 8) S G (c_refuse l X h0 fs hr fr (-2) hf5 H.size) gX10_speed_X10_refuse rfl rfl rfl hdV_X10_refuse ⟨Nat.le_of_ble_eq_true rfl, Nat.le_of_ble_eq_true rfl⟩ [0, 2] rfl (by decide) 0 rfl rfl rfl hl.1 (Nat.le_of_ble_eq_true rfl) dX10_speed_21 ⟨Nat.le_of_ble_eq_true rfl, Nat.le_of_ble_eq_true rfl⟩) (fun r_3 u_3 H locs hp_3 G => ?_)
  have G : wd X (va_A [(h0, .inr (8, fs)), (hn, .inr (3, gs)), (hr, .inl (X.2.1, 3, .inl fr))] sz) (va_A [(h0, .inr (8, fs)), (hn, .inr (3, gs)), (hr, .inl (X.2.1, 3, .inl fr))] sz) s [(hn, .inr (3, gs))] H locs := G
  subst hp_3
  exact e_int S zr zlk (vp_nar_int _) G () [] rfl (by decide) (Or.inl rfl) (rfl) dX10_speed_24
set_option maxHeartbeats 4000000 in
set_option maxRecDepth 100000 in
/-- start, with no runner -/
theorem c_start (l : Launch) (X : EX) (h0 : Nat) (fs : List Value) (hn : Nat) (gs : List Value) (hr : Nat) (fr : Nat → Int32) (x1 : Int32) (x2 : Int32) (hf0 : fs[0]? = some (.ref hn)) (hf5 : fs[5]? = some (.ref hr)) (hg2 : gs[2]? = some (.int 0)) (sz : Nat) : Met l yX10_start wsX10_start ({ frames := 1, cells := 0, slots := 0, locals := 22 } : Room) (pE X [.ref h0, .int x1, .int x2] [(h0, .inr (8, fs)), (hn, .inr (3, gs)), (hr, .inl (X.2.1, 3, .inl fr))] sz) (qI (fun (r : Int32) (u : Unit) => r = (-2)) X (fun (u : Unit) => []) [(h0, .inr (8, fs)), (hn, .inr (3, gs)), (hr, .inl (X.2.1, 3, .inl fr))] sz) 0 0 (va_A [(h0, .inr (8, fs)), (hn, .inr (3, gs)), (hr, .inl (X.2.1, 3, .inl fr))] sz) := by
  refine mk_met (B := (va_A [(h0, .inr (8, fs)), (hn, .inr (3, gs)), (hr, .inl (X.2.1, 3, .inl fr))] sz)) (A := (va_A [(h0, .inr (8, fs)), (hn, .inr (3, gs)), (hr, .inl (X.2.1, 3, .inl fr))] sz)) (cc := cX10_start) (maxL := 4) (ret := (some .int)) (by decide) rfl (Nat.le_of_ble_eq_true rfl) k_w k_a (fun p e s m below meth c S zr zlk znm zsz G ls hl => ?_)
  have S : CallFix p m c cX10_start 4 s _ wsX10_start RX10 := S
  have zx := S.1
  have zb := S.2.1
  have hl : lv_has ls 4 [(0, .ref h0), (1, .int x1), (2, .int x2)] := hl
  refine lv_aload_n zx zb dX10_start_0 rfl (lv_at hl 0 rfl) ?_
  refine lv_iload_n zx zb dX10_start_1 rfl (lv_at hl 1 rfl) ?_
  refine o_ri (cells' := 0) (slots' := 0) G rfl rfl (n_V (As := [.int x1]) (rest := []) (C := RX10) (T := TX10) (N := 14) (ci := 8) S G (c_there l X h0 fs hn gs x1 hf0 hg2 s.heap.size) gX10_start_X10_there rfl rfl rfl hdV_X10_there ⟨Nat.le_of_ble_eq_true rfl, Nat.le_of_ble_eq_true rfl⟩ [0, 1] rfl (by decide) 0 rfl rfl rfl hl.1 (Nat.le_of_ble_eq_true rfl) dX10_start_2 ⟨Nat.le_of_ble_eq_true rfl, Nat.le_of_ble_eq_true rfl⟩) (fun r_1 u_1 H locs hp_1 G => ?_)
  have G : wd X (va_A [(h0, .inr (8, fs)), (hn, .inr (3, gs)), (hr, .inl (X.2.1, 3, .inl fr))] sz) (va_A [(h0, .inr (8, fs)), (hn, .inr (3, gs)), (hr, .inl (X.2.1, 3, .inl fr))] sz) s [(h0, .inr (8, fs)), (hn, .inr (3, gs)), (hr, .inl (X.2.1, 3, .inl fr))] H locs := G
  subst hp_1
  refine lv_if_eq (tgt := 18) zx zb dX10_start_5 (by decide) (fun c_2 => ?_) (fun c_2 => absurd (by decide) c_2)
  refine lv_aload_n zx zb dX10_start_18 rfl (lv_at hl 0 rfl) ?_
  refine lv_bipush (v := (-2)) zx zb dX10_start_19 (by decide) ?_
  refine o_wi (cells' := 0) (slots' := 0) (wr := [(hn, .inr (3, gs))]) G rfl rfl [0, 2] [1] rfl rfl (by decide) (by decide) (n_V (As := [.int (-2)]) (rest := []) (C := RX10) (T := TX10) (N := 14) (ci := 8) S G (c_refuse l X h0 fs hr fr (-2) hf5 H.size) gX10_start_X10_refuse rfl rfl rfl hdV_X10_refuse ⟨Nat.le_of_ble_eq_true rfl, Nat.le_of_ble_eq_true rfl⟩ [0, 2] rfl (by decide) 0 rfl rfl rfl hl.1 (Nat.le_of_ble_eq_true rfl) dX10_start_21 ⟨Nat.le_of_ble_eq_true rfl, Nat.le_of_ble_eq_true rfl⟩) (fun r_3 u_3 H locs hp_3 G => ?_)
  have G : wd X (va_A [(h0, .inr (8, fs)), (hn, .inr (3, gs)), (hr, .inl (X.2.1, 3, .inl fr))] sz) (va_A [(h0, .inr (8, fs)), (hn, .inr (3, gs)), (hr, .inl (X.2.1, 3, .inl fr))] sz) s [(hn, .inr (3, gs))] H locs := G
  subst hp_3
  exact e_int S zr zlk (vp_nar_int _) G () [] rfl (by decide) (Or.inl rfl) (rfl) dX10_start_24
set_option maxHeartbeats 4000000 in
set_option maxRecDepth 100000 in
/-- of, with no runner -/
theorem c_of (l : Launch) (X : EX) (h0 : Nat) (fs : List Value) (hn : Nat) (gs : List Value) (hr : Nat) (fr : Nat → Int32) (x1 : Int32) (x2 : Int32) (hf0 : fs[0]? = some (.ref hn)) (hf5 : fs[5]? = some (.ref hr)) (hg2 : gs[2]? = some (.int 0)) (sz : Nat) : Met l yX10_of wsX10_of ({ frames := 1, cells := 0, slots := 0, locals := 22 } : Room) (pE X [.ref h0, .int x1, .int x2] [(h0, .inr (8, fs)), (hn, .inr (3, gs)), (hr, .inl (X.2.1, 3, .inl fr))] sz) (qI (fun (r : Int32) (u : Unit) => r = (-2)) X (fun (u : Unit) => []) [(h0, .inr (8, fs)), (hn, .inr (3, gs)), (hr, .inl (X.2.1, 3, .inl fr))] sz) 0 0 (va_A [(h0, .inr (8, fs)), (hn, .inr (3, gs)), (hr, .inl (X.2.1, 3, .inl fr))] sz) := by
  refine mk_met (B := (va_A [(h0, .inr (8, fs)), (hn, .inr (3, gs)), (hr, .inl (X.2.1, 3, .inl fr))] sz)) (A := (va_A [(h0, .inr (8, fs)), (hn, .inr (3, gs)), (hr, .inl (X.2.1, 3, .inl fr))] sz)) (cc := cX10_of) (maxL := 3) (ret := (some .int)) (by decide) rfl (Nat.le_of_ble_eq_true rfl) k_w k_a (fun p e s m below meth c S zr zlk znm zsz G ls hl => ?_)
  have S : CallFix p m c cX10_of 3 s _ wsX10_of RX10 := S
  have zx := S.1
  have zb := S.2.1
  have hl : lv_has ls 3 [(0, .ref h0), (1, .int x1), (2, .int x2)] := hl
  refine lv_aload_n zx zb dX10_of_0 rfl (lv_at hl 0 rfl) ?_
  refine lv_iload_n zx zb dX10_of_1 rfl (lv_at hl 1 rfl) ?_
  refine o_ri (cells' := 0) (slots' := 0) G rfl rfl (n_V (As := [.int x1]) (rest := []) (C := RX10) (T := TX10) (N := 14) (ci := 8) S G (c_there l X h0 fs hn gs x1 hf0 hg2 s.heap.size) gX10_of_X10_there rfl rfl rfl hdV_X10_there ⟨Nat.le_of_ble_eq_true rfl, Nat.le_of_ble_eq_true rfl⟩ [0, 1] rfl (by decide) 0 rfl rfl rfl hl.1 (Nat.le_of_ble_eq_true rfl) dX10_of_2 ⟨Nat.le_of_ble_eq_true rfl, Nat.le_of_ble_eq_true rfl⟩) (fun r_1 u_1 H locs hp_1 G => ?_)
  have G : wd X (va_A [(h0, .inr (8, fs)), (hn, .inr (3, gs)), (hr, .inl (X.2.1, 3, .inl fr))] sz) (va_A [(h0, .inr (8, fs)), (hn, .inr (3, gs)), (hr, .inl (X.2.1, 3, .inl fr))] sz) s [(h0, .inr (8, fs)), (hn, .inr (3, gs)), (hr, .inl (X.2.1, 3, .inl fr))] H locs := G
  subst hp_1
  refine lv_if_eq (tgt := 18) zx zb dX10_of_5 (by decide) (fun c_2 => ?_) (fun c_2 => absurd (by decide) c_2)
  refine lv_aload_n zx zb dX10_of_18 rfl (lv_at hl 0 rfl) ?_
  refine lv_bipush (v := (-2)) zx zb dX10_of_19 (by decide) ?_
  refine o_wi (cells' := 0) (slots' := 0) (wr := [(hn, .inr (3, gs))]) G rfl rfl [0, 2] [1] rfl rfl (by decide) (by decide) (n_V (As := [.int (-2)]) (rest := []) (C := RX10) (T := TX10) (N := 14) (ci := 8) S G (c_refuse l X h0 fs hr fr (-2) hf5 H.size) gX10_of_X10_refuse rfl rfl rfl hdV_X10_refuse ⟨Nat.le_of_ble_eq_true rfl, Nat.le_of_ble_eq_true rfl⟩ [0, 2] rfl (by decide) 0 rfl rfl rfl hl.1 (Nat.le_of_ble_eq_true rfl) dX10_of_21 ⟨Nat.le_of_ble_eq_true rfl, Nat.le_of_ble_eq_true rfl⟩) (fun r_3 u_3 H locs hp_3 G => ?_)
  have G : wd X (va_A [(h0, .inr (8, fs)), (hn, .inr (3, gs)), (hr, .inl (X.2.1, 3, .inl fr))] sz) (va_A [(h0, .inr (8, fs)), (hn, .inr (3, gs)), (hr, .inl (X.2.1, 3, .inl fr))] sz) s [(hn, .inr (3, gs))] H locs := G
  subst hp_3
  exact e_int S zr zlk (vp_nar_int _) G () [] rfl (by decide) (Or.inl rfl) (rfl) dX10_of_24
set_option maxHeartbeats 4000000 in
set_option maxRecDepth 100000 in
/-- where, with no runner -/
theorem c_where (l : Launch) (X : EX) (h0 : Nat) (fs : List Value) (hn : Nat) (gs : List Value) (hr : Nat) (fr : Nat → Int32) (x1 : Int32) (x2 : Int32) (hf0 : fs[0]? = some (.ref hn)) (hf5 : fs[5]? = some (.ref hr)) (hg2 : gs[2]? = some (.int 0)) (sz : Nat) : Met l yX10_where wsX10_where ({ frames := 1, cells := 0, slots := 0, locals := 22 } : Room) (pE X [.ref h0, .int x1, .int x2] [(h0, .inr (8, fs)), (hn, .inr (3, gs)), (hr, .inl (X.2.1, 3, .inl fr))] sz) (qI (fun (r : Int32) (u : Unit) => r = (-2)) X (fun (u : Unit) => []) [(h0, .inr (8, fs)), (hn, .inr (3, gs)), (hr, .inl (X.2.1, 3, .inl fr))] sz) 0 0 (va_A [(h0, .inr (8, fs)), (hn, .inr (3, gs)), (hr, .inl (X.2.1, 3, .inl fr))] sz) := by
  refine mk_met (B := (va_A [(h0, .inr (8, fs)), (hn, .inr (3, gs)), (hr, .inl (X.2.1, 3, .inl fr))] sz)) (A := (va_A [(h0, .inr (8, fs)), (hn, .inr (3, gs)), (hr, .inl (X.2.1, 3, .inl fr))] sz)) (cc := cX10_where) (maxL := 3) (ret := (some .int)) (by decide) rfl (Nat.le_of_ble_eq_true rfl) k_w k_a (fun p e s m below meth c S zr zlk znm zsz G ls hl => ?_)
  have S : CallFix p m c cX10_where 3 s _ wsX10_where RX10 := S
  have zx := S.1
  have zb := S.2.1
  have hl : lv_has ls 3 [(0, .ref h0), (1, .int x1), (2, .int x2)] := hl
  refine lv_aload_n zx zb dX10_where_0 rfl (lv_at hl 0 rfl) ?_
  refine lv_iload_n zx zb dX10_where_1 rfl (lv_at hl 1 rfl) ?_
  refine o_ri (cells' := 0) (slots' := 0) G rfl rfl (n_V (As := [.int x1]) (rest := []) (C := RX10) (T := TX10) (N := 14) (ci := 8) S G (c_there l X h0 fs hn gs x1 hf0 hg2 s.heap.size) gX10_where_X10_there rfl rfl rfl hdV_X10_there ⟨Nat.le_of_ble_eq_true rfl, Nat.le_of_ble_eq_true rfl⟩ [0, 1] rfl (by decide) 0 rfl rfl rfl hl.1 (Nat.le_of_ble_eq_true rfl) dX10_where_2 ⟨Nat.le_of_ble_eq_true rfl, Nat.le_of_ble_eq_true rfl⟩) (fun r_1 u_1 H locs hp_1 G => ?_)
  have G : wd X (va_A [(h0, .inr (8, fs)), (hn, .inr (3, gs)), (hr, .inl (X.2.1, 3, .inl fr))] sz) (va_A [(h0, .inr (8, fs)), (hn, .inr (3, gs)), (hr, .inl (X.2.1, 3, .inl fr))] sz) s [(h0, .inr (8, fs)), (hn, .inr (3, gs)), (hr, .inl (X.2.1, 3, .inl fr))] H locs := G
  subst hp_1
  refine lv_if_eq (tgt := 18) zx zb dX10_where_5 (by decide) (fun c_2 => ?_) (fun c_2 => absurd (by decide) c_2)
  refine lv_aload_n zx zb dX10_where_18 rfl (lv_at hl 0 rfl) ?_
  refine lv_bipush (v := (-2)) zx zb dX10_where_19 (by decide) ?_
  refine o_wi (cells' := 0) (slots' := 0) (wr := [(hn, .inr (3, gs))]) G rfl rfl [0, 2] [1] rfl rfl (by decide) (by decide) (n_V (As := [.int (-2)]) (rest := []) (C := RX10) (T := TX10) (N := 14) (ci := 8) S G (c_refuse l X h0 fs hr fr (-2) hf5 H.size) gX10_where_X10_refuse rfl rfl rfl hdV_X10_refuse ⟨Nat.le_of_ble_eq_true rfl, Nat.le_of_ble_eq_true rfl⟩ [0, 2] rfl (by decide) 0 rfl rfl rfl hl.1 (Nat.le_of_ble_eq_true rfl) dX10_where_21 ⟨Nat.le_of_ble_eq_true rfl, Nat.le_of_ble_eq_true rfl⟩) (fun r_3 u_3 H locs hp_3 G => ?_)
  have G : wd X (va_A [(h0, .inr (8, fs)), (hn, .inr (3, gs)), (hr, .inl (X.2.1, 3, .inl fr))] sz) (va_A [(h0, .inr (8, fs)), (hn, .inr (3, gs)), (hr, .inl (X.2.1, 3, .inl fr))] sz) s [(hn, .inr (3, gs))] H locs := G
  subst hp_3
  exact e_int S zr zlk (vp_nar_int _) G () [] rfl (by decide) (Or.inl rfl) (rfl) dX10_where_24
set_option maxHeartbeats 4000000 in
set_option maxRecDepth 100000 in
/-- home, with no runner -/
theorem c_home (l : Launch) (X : EX) (h0 : Nat) (fs : List Value) (hn : Nat) (gs : List Value) (hr : Nat) (fr : Nat → Int32) (x1 : Int32) (hf0 : fs[0]? = some (.ref hn)) (hf5 : fs[5]? = some (.ref hr)) (hg2 : gs[2]? = some (.int 0)) (sz : Nat) : Met l yX10_home wsX10_home ({ frames := 1, cells := 0, slots := 0, locals := 22 } : Room) (pE X [.ref h0, .int x1] [(h0, .inr (8, fs)), (hn, .inr (3, gs)), (hr, .inl (X.2.1, 3, .inl fr))] sz) (qI (fun (r : Int32) (u : Unit) => r = (-2)) X (fun (u : Unit) => []) [(h0, .inr (8, fs)), (hn, .inr (3, gs)), (hr, .inl (X.2.1, 3, .inl fr))] sz) 0 0 (va_A [(h0, .inr (8, fs)), (hn, .inr (3, gs)), (hr, .inl (X.2.1, 3, .inl fr))] sz) := by
  refine mk_met (B := (va_A [(h0, .inr (8, fs)), (hn, .inr (3, gs)), (hr, .inl (X.2.1, 3, .inl fr))] sz)) (A := (va_A [(h0, .inr (8, fs)), (hn, .inr (3, gs)), (hr, .inl (X.2.1, 3, .inl fr))] sz)) (cc := cX10_home) (maxL := 2) (ret := (some .int)) (by decide) rfl (Nat.le_of_ble_eq_true rfl) k_w k_a (fun p e s m below meth c S zr zlk znm zsz G ls hl => ?_)
  have S : CallFix p m c cX10_home 2 s _ wsX10_home RX10 := S
  have zx := S.1
  have zb := S.2.1
  have hl : lv_has ls 2 [(0, .ref h0), (1, .int x1)] := hl
  refine lv_aload_n zx zb dX10_home_0 rfl (lv_at hl 0 rfl) ?_
  refine lv_iload_n zx zb dX10_home_1 rfl (lv_at hl 1 rfl) ?_
  refine o_ri (cells' := 0) (slots' := 0) G rfl rfl (n_V (As := [.int x1]) (rest := []) (C := RX10) (T := TX10) (N := 14) (ci := 8) S G (c_there l X h0 fs hn gs x1 hf0 hg2 s.heap.size) gX10_home_X10_there rfl rfl rfl hdV_X10_there ⟨Nat.le_of_ble_eq_true rfl, Nat.le_of_ble_eq_true rfl⟩ [0, 1] rfl (by decide) 0 rfl rfl rfl hl.1 (Nat.le_of_ble_eq_true rfl) dX10_home_2 ⟨Nat.le_of_ble_eq_true rfl, Nat.le_of_ble_eq_true rfl⟩) (fun r_1 u_1 H locs hp_1 G => ?_)
  have G : wd X (va_A [(h0, .inr (8, fs)), (hn, .inr (3, gs)), (hr, .inl (X.2.1, 3, .inl fr))] sz) (va_A [(h0, .inr (8, fs)), (hn, .inr (3, gs)), (hr, .inl (X.2.1, 3, .inl fr))] sz) s [(h0, .inr (8, fs)), (hn, .inr (3, gs)), (hr, .inl (X.2.1, 3, .inl fr))] H locs := G
  subst hp_1
  refine lv_if_eq (tgt := 18) zx zb dX10_home_5 (by decide) (fun c_2 => ?_) (fun c_2 => absurd (by decide) c_2)
  refine lv_aload_n zx zb dX10_home_18 rfl (lv_at hl 0 rfl) ?_
  refine lv_bipush (v := (-2)) zx zb dX10_home_19 (by decide) ?_
  refine o_wi (cells' := 0) (slots' := 0) (wr := [(hn, .inr (3, gs))]) G rfl rfl [0, 2] [1] rfl rfl (by decide) (by decide) (n_V (As := [.int (-2)]) (rest := []) (C := RX10) (T := TX10) (N := 14) (ci := 8) S G (c_refuse l X h0 fs hr fr (-2) hf5 H.size) gX10_home_X10_refuse rfl rfl rfl hdV_X10_refuse ⟨Nat.le_of_ble_eq_true rfl, Nat.le_of_ble_eq_true rfl⟩ [0, 2] rfl (by decide) 0 rfl rfl rfl hl.1 (Nat.le_of_ble_eq_true rfl) dX10_home_21 ⟨Nat.le_of_ble_eq_true rfl, Nat.le_of_ble_eq_true rfl⟩) (fun r_3 u_3 H locs hp_3 G => ?_)
  have G : wd X (va_A [(h0, .inr (8, fs)), (hn, .inr (3, gs)), (hr, .inl (X.2.1, 3, .inl fr))] sz) (va_A [(h0, .inr (8, fs)), (hn, .inr (3, gs)), (hr, .inl (X.2.1, 3, .inl fr))] sz) s [(hn, .inr (3, gs))] H locs := G
  subst hp_3
  exact e_int S zr zlk (vp_nar_int _) G () [] rfl (by decide) (Or.inl rfl) (rfl) dX10_home_24
set_option maxHeartbeats 4000000 in
set_option maxRecDepth 100000 in
/-- best, with no runner -/
theorem c_best (l : Launch) (X : EX) (h0 : Nat) (fs : List Value) (hn : Nat) (gs : List Value) (hr : Nat) (fr : Nat → Int32) (x1 : Int32) (x2 : Int32) (hf0 : fs[0]? = some (.ref hn)) (hf5 : fs[5]? = some (.ref hr)) (hg2 : gs[2]? = some (.int 0)) (sz : Nat) : Met l yX10_best wsX10_best ({ frames := 1, cells := 0, slots := 0, locals := 22 } : Room) (pE X [.ref h0, .int x1, .int x2] [(h0, .inr (8, fs)), (hn, .inr (3, gs)), (hr, .inl (X.2.1, 3, .inl fr))] sz) (qI (fun (r : Int32) (u : Unit) => r = (-2)) X (fun (u : Unit) => []) [(h0, .inr (8, fs)), (hn, .inr (3, gs)), (hr, .inl (X.2.1, 3, .inl fr))] sz) 0 0 (va_A [(h0, .inr (8, fs)), (hn, .inr (3, gs)), (hr, .inl (X.2.1, 3, .inl fr))] sz) := by
  refine mk_met (B := (va_A [(h0, .inr (8, fs)), (hn, .inr (3, gs)), (hr, .inl (X.2.1, 3, .inl fr))] sz)) (A := (va_A [(h0, .inr (8, fs)), (hn, .inr (3, gs)), (hr, .inl (X.2.1, 3, .inl fr))] sz)) (cc := cX10_best) (maxL := 8) (ret := (some .int)) (by decide) rfl (Nat.le_of_ble_eq_true rfl) k_w k_a (fun p e s m below meth c S zr zlk znm zsz G ls hl => ?_)
  have S : CallFix p m c cX10_best 8 s _ wsX10_best RX10 := S
  have zx := S.1
  have zb := S.2.1
  have hl : lv_has ls 8 [(0, .ref h0), (1, .int x1), (2, .int x2)] := hl
  refine lv_aload_n zx zb dX10_best_0 rfl (lv_at hl 0 rfl) ?_
  refine lv_iload_n zx zb dX10_best_1 rfl (lv_at hl 1 rfl) ?_
  refine o_ri (cells' := 0) (slots' := 0) G rfl rfl (n_V (As := [.int x1]) (rest := []) (C := RX10) (T := TX10) (N := 14) (ci := 8) S G (c_there l X h0 fs hn gs x1 hf0 hg2 s.heap.size) gX10_best_X10_there rfl rfl rfl hdV_X10_there ⟨Nat.le_of_ble_eq_true rfl, Nat.le_of_ble_eq_true rfl⟩ [0, 1] rfl (by decide) 0 rfl rfl rfl hl.1 (Nat.le_of_ble_eq_true rfl) dX10_best_2 ⟨Nat.le_of_ble_eq_true rfl, Nat.le_of_ble_eq_true rfl⟩) (fun r_1 u_1 H locs hp_1 G => ?_)
  have G : wd X (va_A [(h0, .inr (8, fs)), (hn, .inr (3, gs)), (hr, .inl (X.2.1, 3, .inl fr))] sz) (va_A [(h0, .inr (8, fs)), (hn, .inr (3, gs)), (hr, .inl (X.2.1, 3, .inl fr))] sz) s [(h0, .inr (8, fs)), (hn, .inr (3, gs)), (hr, .inl (X.2.1, 3, .inl fr))] H locs := G
  subst hp_1
  refine lv_if_eq (tgt := 17) zx zb dX10_best_5 (by decide) (fun c_2 => ?_) (fun c_2 => absurd (by decide) c_2)
  refine lv_aload_n zx zb dX10_best_17 rfl (lv_at hl 0 rfl) ?_
  refine lv_bipush (v := (-2)) zx zb dX10_best_18 (by decide) ?_
  refine o_wi (cells' := 0) (slots' := 0) (wr := [(hn, .inr (3, gs))]) G rfl rfl [0, 2] [1] rfl rfl (by decide) (by decide) (n_V (As := [.int (-2)]) (rest := []) (C := RX10) (T := TX10) (N := 14) (ci := 8) S G (c_refuse l X h0 fs hr fr (-2) hf5 H.size) gX10_best_X10_refuse rfl rfl rfl hdV_X10_refuse ⟨Nat.le_of_ble_eq_true rfl, Nat.le_of_ble_eq_true rfl⟩ [0, 2] rfl (by decide) 0 rfl rfl rfl hl.1 (Nat.le_of_ble_eq_true rfl) dX10_best_20 ⟨Nat.le_of_ble_eq_true rfl, Nat.le_of_ble_eq_true rfl⟩) (fun r_3 u_3 H locs hp_3 G => ?_)
  have G : wd X (va_A [(h0, .inr (8, fs)), (hn, .inr (3, gs)), (hr, .inl (X.2.1, 3, .inl fr))] sz) (va_A [(h0, .inr (8, fs)), (hn, .inr (3, gs)), (hr, .inl (X.2.1, 3, .inl fr))] sz) s [(hn, .inr (3, gs))] H locs := G
  subst hp_3
  exact e_int S zr zlk (vp_nar_int _) G () [] rfl (by decide) (Or.inl rfl) (rfl) dX10_best_23
set_option maxHeartbeats 4000000 in
set_option maxRecDepth 100000 in
/-- turn, with no runner -/
theorem c_turn (l : Launch) (X : EX) (h0 : Nat) (fs : List Value) (hn : Nat) (gs : List Value) (hr : Nat) (fr : Nat → Int32) (x1 : Int32) (x2 : Int32) (x3 : Int32) (hf0 : fs[0]? = some (.ref hn)) (hf5 : fs[5]? = some (.ref hr)) (hg2 : gs[2]? = some (.int 0)) (sz : Nat) : Met l yX10_turn wsX10_turn ({ frames := 1, cells := 0, slots := 0, locals := 22 } : Room) (pE X [.ref h0, .int x1, .int x2, .int x3] [(h0, .inr (8, fs)), (hn, .inr (3, gs)), (hr, .inl (X.2.1, 3, .inl fr))] sz) (qI (fun (r : Int32) (u : Unit) => r = (-2)) X (fun (u : Unit) => []) [(h0, .inr (8, fs)), (hn, .inr (3, gs)), (hr, .inl (X.2.1, 3, .inl fr))] sz) 0 0 (va_A [(h0, .inr (8, fs)), (hn, .inr (3, gs)), (hr, .inl (X.2.1, 3, .inl fr))] sz) := by
  refine mk_met (B := (va_A [(h0, .inr (8, fs)), (hn, .inr (3, gs)), (hr, .inl (X.2.1, 3, .inl fr))] sz)) (A := (va_A [(h0, .inr (8, fs)), (hn, .inr (3, gs)), (hr, .inl (X.2.1, 3, .inl fr))] sz)) (cc := cX10_turn) (maxL := 9) (ret := (some .int)) (by decide) rfl (Nat.le_of_ble_eq_true rfl) k_w k_a (fun p e s m below meth c S zr zlk znm zsz G ls hl => ?_)
  have S : CallFix p m c cX10_turn 9 s _ wsX10_turn RX10 := S
  have zx := S.1
  have zb := S.2.1
  have hl : lv_has ls 9 [(0, .ref h0), (1, .int x1), (2, .int x2), (3, .int x3)] := hl
  refine lv_aload_n zx zb dX10_turn_0 rfl (lv_at hl 0 rfl) ?_
  refine lv_iload_n zx zb dX10_turn_1 rfl (lv_at hl 1 rfl) ?_
  refine o_ri (cells' := 0) (slots' := 0) G rfl rfl (n_V (As := [.int x1]) (rest := []) (C := RX10) (T := TX10) (N := 14) (ci := 8) S G (c_there l X h0 fs hn gs x1 hf0 hg2 s.heap.size) gX10_turn_X10_there rfl rfl rfl hdV_X10_there ⟨Nat.le_of_ble_eq_true rfl, Nat.le_of_ble_eq_true rfl⟩ [0, 1] rfl (by decide) 0 rfl rfl rfl hl.1 (Nat.le_of_ble_eq_true rfl) dX10_turn_2 ⟨Nat.le_of_ble_eq_true rfl, Nat.le_of_ble_eq_true rfl⟩) (fun r_1 u_1 H locs hp_1 G => ?_)
  have G : wd X (va_A [(h0, .inr (8, fs)), (hn, .inr (3, gs)), (hr, .inl (X.2.1, 3, .inl fr))] sz) (va_A [(h0, .inr (8, fs)), (hn, .inr (3, gs)), (hr, .inl (X.2.1, 3, .inl fr))] sz) s [(h0, .inr (8, fs)), (hn, .inr (3, gs)), (hr, .inl (X.2.1, 3, .inl fr))] H locs := G
  subst hp_1
  refine lv_if_eq (tgt := 27) zx zb dX10_turn_5 (by decide) (fun c_2 => ?_) (fun c_2 => absurd (by decide) c_2)
  refine lv_aload_n zx zb dX10_turn_27 rfl (lv_at hl 0 rfl) ?_
  refine lv_bipush (v := (-2)) zx zb dX10_turn_28 (by decide) ?_
  refine o_wi (cells' := 0) (slots' := 0) (wr := [(hn, .inr (3, gs))]) G rfl rfl [0, 2] [1] rfl rfl (by decide) (by decide) (n_V (As := [.int (-2)]) (rest := []) (C := RX10) (T := TX10) (N := 14) (ci := 8) S G (c_refuse l X h0 fs hr fr (-2) hf5 H.size) gX10_turn_X10_refuse rfl rfl rfl hdV_X10_refuse ⟨Nat.le_of_ble_eq_true rfl, Nat.le_of_ble_eq_true rfl⟩ [0, 2] rfl (by decide) 0 rfl rfl rfl hl.1 (Nat.le_of_ble_eq_true rfl) dX10_turn_30 ⟨Nat.le_of_ble_eq_true rfl, Nat.le_of_ble_eq_true rfl⟩) (fun r_3 u_3 H locs hp_3 G => ?_)
  have G : wd X (va_A [(h0, .inr (8, fs)), (hn, .inr (3, gs)), (hr, .inl (X.2.1, 3, .inl fr))] sz) (va_A [(h0, .inr (8, fs)), (hn, .inr (3, gs)), (hr, .inl (X.2.1, 3, .inl fr))] sz) s [(hn, .inr (3, gs))] H locs := G
  subst hp_3
  exact e_int S zr zlk (vp_nar_int _) G () [] rfl (by decide) (Or.inl rfl) (rfl) dX10_turn_33
theorem hdV_X10_areTwo : yX10_areTwo.cls = RX10 ∧ yX10_areTwo.cls ≠ "java/lang/invoke/MethodHandle" ∧ yX10_areTwo.cls ≠ "java/lang/invoke/VarHandle" ∧ (parseMethodDescriptor yX10_areTwo.desc).map (fun d => d.parameters.length) = some 2 := by decide +kernel
set_option maxHeartbeats 4000000 in
set_option maxRecDepth 100000 in
/-- beats, with no runner -/
theorem c_beats (l : Launch) (X : EX) (h0 : Nat) (fs : List Value) (hn : Nat) (gs : List Value) (hr : Nat) (fr : Nat → Int32) (x1 : Int32) (x2 : Int32) (hf0 : fs[0]? = some (.ref hn)) (hf5 : fs[5]? = some (.ref hr)) (hg2 : gs[2]? = some (.int 0)) (sz : Nat) : Met l yX10_beats wsX10_beats ({ frames := 2, cells := 0, slots := 0, locals := 43 } : Room) (pE X [.ref h0, .int x1, .int x2] [(h0, .inr (8, fs)), (hn, .inr (3, gs)), (hr, .inl (X.2.1, 3, .inl fr))] sz) (qI (fun (r : Int32) (u : Unit) => r = (-2)) X (fun (u : Unit) => []) [(h0, .inr (8, fs)), (hn, .inr (3, gs)), (hr, .inl (X.2.1, 3, .inl fr))] sz) 0 0 (va_A [(h0, .inr (8, fs)), (hn, .inr (3, gs)), (hr, .inl (X.2.1, 3, .inl fr))] sz) := by
  refine mk_met (B := (va_A [(h0, .inr (8, fs)), (hn, .inr (3, gs)), (hr, .inl (X.2.1, 3, .inl fr))] sz)) (A := (va_A [(h0, .inr (8, fs)), (hn, .inr (3, gs)), (hr, .inl (X.2.1, 3, .inl fr))] sz)) (cc := cX10_beats) (maxL := 7) (ret := (some .int)) (by decide) rfl (Nat.le_of_ble_eq_true rfl) k_w k_a (fun p e s m below meth c S zr zlk znm zsz G ls hl => ?_)
  have S : CallFix p m c cX10_beats 7 s _ wsX10_beats RX10 := S
  have zx := S.1
  have zb := S.2.1
  have hl : lv_has ls 7 [(0, .ref h0), (1, .int x1), (2, .int x2)] := hl
  refine lv_aload_n zx zb dX10_beats_0 rfl (lv_at hl 0 rfl) ?_
  refine lv_iload_n zx zb dX10_beats_1 rfl (lv_at hl 1 rfl) ?_
  refine lv_iload_n zx zb dX10_beats_2 rfl (lv_at hl 2 rfl) ?_
  refine o_ri (cells' := 0) (slots' := 0) G rfl rfl (n_V (As := [.int x1, .int x2]) (rest := []) (C := RX10) (T := TX10) (N := 14) (ci := 8) S G (c_areTwo l X h0 fs hn gs x1 x2 hf0 hg2 s.heap.size) gX10_beats_X10_areTwo rfl rfl rfl hdV_X10_areTwo ⟨Nat.le_of_ble_eq_true rfl, Nat.le_of_ble_eq_true rfl⟩ [0, 1] rfl (by decide) 0 rfl rfl rfl hl.1 (Nat.le_of_ble_eq_true rfl) dX10_beats_3 ⟨Nat.le_of_ble_eq_true rfl, Nat.le_of_ble_eq_true rfl⟩) (fun r_1 u_1 H locs hp_1 G => ?_)
  have G : wd X (va_A [(h0, .inr (8, fs)), (hn, .inr (3, gs)), (hr, .inl (X.2.1, 3, .inl fr))] sz) (va_A [(h0, .inr (8, fs)), (hn, .inr (3, gs)), (hr, .inl (X.2.1, 3, .inl fr))] sz) s [(h0, .inr (8, fs)), (hn, .inr (3, gs)), (hr, .inl (X.2.1, 3, .inl fr))] H locs := G
  subst hp_1
  refine lv_if_ne (tgt := 16) zx zb dX10_beats_6 (by decide) (fun c_2 => absurd (by decide) c_2) (fun c_2 => ?_)
  refine lv_aload_n zx zb dX10_beats_9 rfl (lv_at hl 0 rfl) ?_
  refine lv_bipush (v := (-2)) zx zb dX10_beats_10 (by decide) ?_
  refine o_wi (cells' := 0) (slots' := 0) (wr := [(hn, .inr (3, gs))]) G rfl rfl [0, 2] [1] rfl rfl (by decide) (by decide) (n_V (As := [.int (-2)]) (rest := []) (C := RX10) (T := TX10) (N := 14) (ci := 8) S G (c_refuse l X h0 fs hr fr (-2) hf5 H.size) gX10_beats_X10_refuse rfl rfl rfl hdV_X10_refuse ⟨Nat.le_of_ble_eq_true rfl, Nat.le_of_ble_eq_true rfl⟩ [0, 2] rfl (by decide) 0 rfl rfl rfl hl.1 (Nat.le_of_ble_eq_true rfl) dX10_beats_12 ⟨Nat.le_of_ble_eq_true rfl, Nat.le_of_ble_eq_true rfl⟩) (fun r_3 u_3 H locs hp_3 G => ?_)
  have G : wd X (va_A [(h0, .inr (8, fs)), (hn, .inr (3, gs)), (hr, .inl (X.2.1, 3, .inl fr))] sz) (va_A [(h0, .inr (8, fs)), (hn, .inr (3, gs)), (hr, .inl (X.2.1, 3, .inl fr))] sz) s [(hn, .inr (3, gs))] H locs := G
  subst hp_3
  exact e_int S zr zlk (vp_nar_int _) G () [] rfl (by decide) (Or.inl rfl) (rfl) dX10_beats_15
set_option maxHeartbeats 4000000 in
set_option maxRecDepth 100000 in
/-- close, with no runner -/
theorem c_close (l : Launch) (X : EX) (h0 : Nat) (fs : List Value) (hn : Nat) (gs : List Value) (hr : Nat) (fr : Nat → Int32) (x1 : Int32) (x2 : Int32) (x3 : Int32) (hf0 : fs[0]? = some (.ref hn)) (hf5 : fs[5]? = some (.ref hr)) (hg2 : gs[2]? = some (.int 0)) (sz : Nat) : Met l yX10_close wsX10_close ({ frames := 2, cells := 0, slots := 0, locals := 43 } : Room) (pE X [.ref h0, .int x1, .int x2, .int x3] [(h0, .inr (8, fs)), (hn, .inr (3, gs)), (hr, .inl (X.2.1, 3, .inl fr))] sz) (qI (fun (r : Int32) (u : Unit) => r = (-2)) X (fun (u : Unit) => []) [(h0, .inr (8, fs)), (hn, .inr (3, gs)), (hr, .inl (X.2.1, 3, .inl fr))] sz) 0 0 (va_A [(h0, .inr (8, fs)), (hn, .inr (3, gs)), (hr, .inl (X.2.1, 3, .inl fr))] sz) := by
  refine mk_met (B := (va_A [(h0, .inr (8, fs)), (hn, .inr (3, gs)), (hr, .inl (X.2.1, 3, .inl fr))] sz)) (A := (va_A [(h0, .inr (8, fs)), (hn, .inr (3, gs)), (hr, .inl (X.2.1, 3, .inl fr))] sz)) (cc := cX10_close) (maxL := 8) (ret := (some .int)) (by decide) rfl (Nat.le_of_ble_eq_true rfl) k_w k_a (fun p e s m below meth c S zr zlk znm zsz G ls hl => ?_)
  have S : CallFix p m c cX10_close 8 s _ wsX10_close RX10 := S
  have zx := S.1
  have zb := S.2.1
  have hl : lv_has ls 8 [(0, .ref h0), (1, .int x1), (2, .int x2), (3, .int x3)] := hl
  refine lv_aload_n zx zb dX10_close_0 rfl (lv_at hl 0 rfl) ?_
  refine lv_iload_n zx zb dX10_close_1 rfl (lv_at hl 1 rfl) ?_
  refine lv_iload_n zx zb dX10_close_2 rfl (lv_at hl 2 rfl) ?_
  refine o_ri (cells' := 0) (slots' := 0) G rfl rfl (n_V (As := [.int x1, .int x2]) (rest := []) (C := RX10) (T := TX10) (N := 14) (ci := 8) S G (c_areTwo l X h0 fs hn gs x1 x2 hf0 hg2 s.heap.size) gX10_close_X10_areTwo rfl rfl rfl hdV_X10_areTwo ⟨Nat.le_of_ble_eq_true rfl, Nat.le_of_ble_eq_true rfl⟩ [0, 1] rfl (by decide) 0 rfl rfl rfl hl.1 (Nat.le_of_ble_eq_true rfl) dX10_close_3 ⟨Nat.le_of_ble_eq_true rfl, Nat.le_of_ble_eq_true rfl⟩) (fun r_1 u_1 H locs hp_1 G => ?_)
  have G : wd X (va_A [(h0, .inr (8, fs)), (hn, .inr (3, gs)), (hr, .inl (X.2.1, 3, .inl fr))] sz) (va_A [(h0, .inr (8, fs)), (hn, .inr (3, gs)), (hr, .inl (X.2.1, 3, .inl fr))] sz) s [(h0, .inr (8, fs)), (hn, .inr (3, gs)), (hr, .inl (X.2.1, 3, .inl fr))] H locs := G
  subst hp_1
  refine lv_if_eq (tgt := 18) zx zb dX10_close_6 (by decide) (fun c_2 => ?_) (fun c_2 => absurd (by decide) c_2)
  refine lv_aload_n zx zb dX10_close_18 rfl (lv_at hl 0 rfl) ?_
  refine lv_bipush (v := (-2)) zx zb dX10_close_19 (by decide) ?_
  refine o_wi (cells' := 0) (slots' := 0) (wr := [(hn, .inr (3, gs))]) G rfl rfl [0, 2] [1] rfl rfl (by decide) (by decide) (n_V (As := [.int (-2)]) (rest := []) (C := RX10) (T := TX10) (N := 14) (ci := 8) S G (c_refuse l X h0 fs hr fr (-2) hf5 H.size) gX10_close_X10_refuse rfl rfl rfl hdV_X10_refuse ⟨Nat.le_of_ble_eq_true rfl, Nat.le_of_ble_eq_true rfl⟩ [0, 2] rfl (by decide) 0 rfl rfl rfl hl.1 (Nat.le_of_ble_eq_true rfl) dX10_close_21 ⟨Nat.le_of_ble_eq_true rfl, Nat.le_of_ble_eq_true rfl⟩) (fun r_3 u_3 H locs hp_3 G => ?_)
  have G : wd X (va_A [(h0, .inr (8, fs)), (hn, .inr (3, gs)), (hr, .inl (X.2.1, 3, .inl fr))] sz) (va_A [(h0, .inr (8, fs)), (hn, .inr (3, gs)), (hr, .inl (X.2.1, 3, .inl fr))] sz) s [(hn, .inr (3, gs))] H locs := G
  subst hp_3
  exact e_int S zr zlk (vp_nar_int _) G () [] rfl (by decide) (Or.inl rfl) (rfl) dX10_close_24
set_option maxHeartbeats 4000000 in
set_option maxRecDepth 100000 in
/-- seen, with no runner -/
theorem c_seen (l : Launch) (X : EX) (h0 : Nat) (fs : List Value) (hn : Nat) (gs : List Value) (hr : Nat) (fr : Nat → Int32) (x1 : Int32) (x2 : Int32) (x3 : Int32) (x4 : Int32) (hf0 : fs[0]? = some (.ref hn)) (hf5 : fs[5]? = some (.ref hr)) (hg2 : gs[2]? = some (.int 0)) (sz : Nat) : Met l yX10_seen wsX10_seen ({ frames := 1, cells := 0, slots := 0, locals := 22 } : Room) (pE X [.ref h0, .int x1, .int x2, .int x3, .int x4] [(h0, .inr (8, fs)), (hn, .inr (3, gs)), (hr, .inl (X.2.1, 3, .inl fr))] sz) (qI (fun (r : Int32) (u : Unit) => r = (-2)) X (fun (u : Unit) => []) [(h0, .inr (8, fs)), (hn, .inr (3, gs)), (hr, .inl (X.2.1, 3, .inl fr))] sz) 0 0 (va_A [(h0, .inr (8, fs)), (hn, .inr (3, gs)), (hr, .inl (X.2.1, 3, .inl fr))] sz) := by
  refine mk_met (B := (va_A [(h0, .inr (8, fs)), (hn, .inr (3, gs)), (hr, .inl (X.2.1, 3, .inl fr))] sz)) (A := (va_A [(h0, .inr (8, fs)), (hn, .inr (3, gs)), (hr, .inl (X.2.1, 3, .inl fr))] sz)) (cc := cX10_seen) (maxL := 5) (ret := (some .int)) (by decide) rfl (Nat.le_of_ble_eq_true rfl) k_w k_a (fun p e s m below meth c S zr zlk znm zsz G ls hl => ?_)
  have S : CallFix p m c cX10_seen 5 s _ wsX10_seen RX10 := S
  have zx := S.1
  have zb := S.2.1
  have hl : lv_has ls 5 [(0, .ref h0), (1, .int x1), (2, .int x2), (3, .int x3), (4, .int x4)] := hl
  refine lv_aload_n zx zb dX10_seen_0 rfl (lv_at hl 0 rfl) ?_
  refine lv_iload_n zx zb dX10_seen_1 rfl (lv_at hl 1 rfl) ?_
  refine o_ri (cells' := 0) (slots' := 0) G rfl rfl (n_V (As := [.int x1]) (rest := []) (C := RX10) (T := TX10) (N := 14) (ci := 8) S G (c_there l X h0 fs hn gs x1 hf0 hg2 s.heap.size) gX10_seen_X10_there rfl rfl rfl hdV_X10_there ⟨Nat.le_of_ble_eq_true rfl, Nat.le_of_ble_eq_true rfl⟩ [0, 1] rfl (by decide) 0 rfl rfl rfl hl.1 (Nat.le_of_ble_eq_true rfl) dX10_seen_2 ⟨Nat.le_of_ble_eq_true rfl, Nat.le_of_ble_eq_true rfl⟩) (fun r_1 u_1 H locs hp_1 G => ?_)
  have G : wd X (va_A [(h0, .inr (8, fs)), (hn, .inr (3, gs)), (hr, .inl (X.2.1, 3, .inl fr))] sz) (va_A [(h0, .inr (8, fs)), (hn, .inr (3, gs)), (hr, .inl (X.2.1, 3, .inl fr))] sz) s [(h0, .inr (8, fs)), (hn, .inr (3, gs)), (hr, .inl (X.2.1, 3, .inl fr))] H locs := G
  subst hp_1
  refine lv_if_eq (tgt := 39) zx zb dX10_seen_5 (by decide) (fun c_2 => ?_) (fun c_2 => absurd (by decide) c_2)
  refine lv_aload_n zx zb dX10_seen_39 rfl (lv_at hl 0 rfl) ?_
  refine lv_bipush (v := (-2)) zx zb dX10_seen_40 (by decide) ?_
  refine o_wi (cells' := 0) (slots' := 0) (wr := [(hn, .inr (3, gs))]) G rfl rfl [0, 2] [1] rfl rfl (by decide) (by decide) (n_V (As := [.int (-2)]) (rest := []) (C := RX10) (T := TX10) (N := 14) (ci := 8) S G (c_refuse l X h0 fs hr fr (-2) hf5 H.size) gX10_seen_X10_refuse rfl rfl rfl hdV_X10_refuse ⟨Nat.le_of_ble_eq_true rfl, Nat.le_of_ble_eq_true rfl⟩ [0, 2] rfl (by decide) 0 rfl rfl rfl hl.1 (Nat.le_of_ble_eq_true rfl) dX10_seen_42 ⟨Nat.le_of_ble_eq_true rfl, Nat.le_of_ble_eq_true rfl⟩) (fun r_3 u_3 H locs hp_3 G => ?_)
  have G : wd X (va_A [(h0, .inr (8, fs)), (hn, .inr (3, gs)), (hr, .inl (X.2.1, 3, .inl fr))] sz) (va_A [(h0, .inr (8, fs)), (hn, .inr (3, gs)), (hr, .inl (X.2.1, 3, .inl fr))] sz) s [(hn, .inr (3, gs))] H locs := G
  subst hp_3
  exact e_int S zr zlk (vp_nar_int _) G () [] rfl (by decide) (Or.inl rfl) (rfl) dX10_seen_45
set_option maxHeartbeats 4000000 in
set_option maxRecDepth 100000 in
/-- strong, with no runner -/
theorem c_strong (l : Launch) (X : EX) (h0 : Nat) (fs : List Value) (hn : Nat) (gs : List Value) (hr : Nat) (fr : Nat → Int32) (x1 : Int32) (x2 : Int32) (hf0 : fs[0]? = some (.ref hn)) (hf5 : fs[5]? = some (.ref hr)) (hg2 : gs[2]? = some (.int 0)) (sz : Nat) : Met l yX10_strong wsX10_strong ({ frames := 1, cells := 0, slots := 0, locals := 22 } : Room) (pE X [.ref h0, .int x1, .int x2] [(h0, .inr (8, fs)), (hn, .inr (3, gs)), (hr, .inl (X.2.1, 3, .inl fr))] sz) (qI (fun (r : Int32) (u : Unit) => r = (-2)) X (fun (u : Unit) => []) [(h0, .inr (8, fs)), (hn, .inr (3, gs)), (hr, .inl (X.2.1, 3, .inl fr))] sz) 0 0 (va_A [(h0, .inr (8, fs)), (hn, .inr (3, gs)), (hr, .inl (X.2.1, 3, .inl fr))] sz) := by
  refine mk_met (B := (va_A [(h0, .inr (8, fs)), (hn, .inr (3, gs)), (hr, .inl (X.2.1, 3, .inl fr))] sz)) (A := (va_A [(h0, .inr (8, fs)), (hn, .inr (3, gs)), (hr, .inl (X.2.1, 3, .inl fr))] sz)) (cc := cX10_strong) (maxL := 6) (ret := (some .int)) (by decide) rfl (Nat.le_of_ble_eq_true rfl) k_w k_a (fun p e s m below meth c S zr zlk znm zsz G ls hl => ?_)
  have S : CallFix p m c cX10_strong 6 s _ wsX10_strong RX10 := S
  have zx := S.1
  have zb := S.2.1
  have hl : lv_has ls 6 [(0, .ref h0), (1, .int x1), (2, .int x2)] := hl
  refine lv_aload_n zx zb dX10_strong_0 rfl (lv_at hl 0 rfl) ?_
  refine lv_iload_n zx zb dX10_strong_1 rfl (lv_at hl 1 rfl) ?_
  refine o_ri (cells' := 0) (slots' := 0) G rfl rfl (n_V (As := [.int x1]) (rest := []) (C := RX10) (T := TX10) (N := 14) (ci := 8) S G (c_there l X h0 fs hn gs x1 hf0 hg2 s.heap.size) gX10_strong_X10_there rfl rfl rfl hdV_X10_there ⟨Nat.le_of_ble_eq_true rfl, Nat.le_of_ble_eq_true rfl⟩ [0, 1] rfl (by decide) 0 rfl rfl rfl hl.1 (Nat.le_of_ble_eq_true rfl) dX10_strong_2 ⟨Nat.le_of_ble_eq_true rfl, Nat.le_of_ble_eq_true rfl⟩) (fun r_1 u_1 H locs hp_1 G => ?_)
  have G : wd X (va_A [(h0, .inr (8, fs)), (hn, .inr (3, gs)), (hr, .inl (X.2.1, 3, .inl fr))] sz) (va_A [(h0, .inr (8, fs)), (hn, .inr (3, gs)), (hr, .inl (X.2.1, 3, .inl fr))] sz) s [(h0, .inr (8, fs)), (hn, .inr (3, gs)), (hr, .inl (X.2.1, 3, .inl fr))] H locs := G
  subst hp_1
  refine lv_if_eq (tgt := 17) zx zb dX10_strong_5 (by decide) (fun c_2 => ?_) (fun c_2 => absurd (by decide) c_2)
  refine lv_aload_n zx zb dX10_strong_17 rfl (lv_at hl 0 rfl) ?_
  refine lv_bipush (v := (-2)) zx zb dX10_strong_18 (by decide) ?_
  refine o_wi (cells' := 0) (slots' := 0) (wr := [(hn, .inr (3, gs))]) G rfl rfl [0, 2] [1] rfl rfl (by decide) (by decide) (n_V (As := [.int (-2)]) (rest := []) (C := RX10) (T := TX10) (N := 14) (ci := 8) S G (c_refuse l X h0 fs hr fr (-2) hf5 H.size) gX10_strong_X10_refuse rfl rfl rfl hdV_X10_refuse ⟨Nat.le_of_ble_eq_true rfl, Nat.le_of_ble_eq_true rfl⟩ [0, 2] rfl (by decide) 0 rfl rfl rfl hl.1 (Nat.le_of_ble_eq_true rfl) dX10_strong_20 ⟨Nat.le_of_ble_eq_true rfl, Nat.le_of_ble_eq_true rfl⟩) (fun r_3 u_3 H locs hp_3 G => ?_)
  have G : wd X (va_A [(h0, .inr (8, fs)), (hn, .inr (3, gs)), (hr, .inl (X.2.1, 3, .inl fr))] sz) (va_A [(h0, .inr (8, fs)), (hn, .inr (3, gs)), (hr, .inl (X.2.1, 3, .inl fr))] sz) s [(hn, .inr (3, gs))] H locs := G
  subst hp_3
  exact e_int S zr zlk (vp_nar_int _) G () [] rfl (by decide) (Or.inl rfl) (rfl) dX10_strong_23
set_option maxHeartbeats 4000000 in
set_option maxRecDepth 100000 in
/-- tell, with no runner -/
theorem c_tell (l : Launch) (X : EX) (h0 : Nat) (fs : List Value) (hn : Nat) (gs : List Value) (hr : Nat) (fr : Nat → Int32) (x1 : Int32) (hf0 : fs[0]? = some (.ref hn)) (hf5 : fs[5]? = some (.ref hr)) (hg2 : gs[2]? = some (.int 0)) (sz : Nat) : Met l yX10_tell wsX10_tell ({ frames := 1, cells := 0, slots := 0, locals := 22 } : Room) (pE X [.ref h0, .int x1] [(h0, .inr (8, fs)), (hn, .inr (3, gs)), (hr, .inl (X.2.1, 3, .inl fr))] sz) (qI (fun (r : Int32) (u : Unit) => r = (-2)) X (fun (u : Unit) => []) [(h0, .inr (8, fs)), (hn, .inr (3, gs)), (hr, .inl (X.2.1, 3, .inl fr))] sz) 0 0 (va_A [(h0, .inr (8, fs)), (hn, .inr (3, gs)), (hr, .inl (X.2.1, 3, .inl fr))] sz) := by
  refine mk_met (B := (va_A [(h0, .inr (8, fs)), (hn, .inr (3, gs)), (hr, .inl (X.2.1, 3, .inl fr))] sz)) (A := (va_A [(h0, .inr (8, fs)), (hn, .inr (3, gs)), (hr, .inl (X.2.1, 3, .inl fr))] sz)) (cc := cX10_tell) (maxL := 2) (ret := (some .int)) (by decide) rfl (Nat.le_of_ble_eq_true rfl) k_w k_a (fun p e s m below meth c S zr zlk znm zsz G ls hl => ?_)
  have S : CallFix p m c cX10_tell 2 s _ wsX10_tell RX10 := S
  have zx := S.1
  have zb := S.2.1
  have hl : lv_has ls 2 [(0, .ref h0), (1, .int x1)] := hl
  refine lv_aload_n zx zb dX10_tell_0 rfl (lv_at hl 0 rfl) ?_
  refine lv_iload_n zx zb dX10_tell_1 rfl (lv_at hl 1 rfl) ?_
  refine o_ri (cells' := 0) (slots' := 0) G rfl rfl (n_V (As := [.int x1]) (rest := []) (C := RX10) (T := TX10) (N := 14) (ci := 8) S G (c_there l X h0 fs hn gs x1 hf0 hg2 s.heap.size) gX10_tell_X10_there rfl rfl rfl hdV_X10_there ⟨Nat.le_of_ble_eq_true rfl, Nat.le_of_ble_eq_true rfl⟩ [0, 1] rfl (by decide) 0 rfl rfl rfl hl.1 (Nat.le_of_ble_eq_true rfl) dX10_tell_2 ⟨Nat.le_of_ble_eq_true rfl, Nat.le_of_ble_eq_true rfl⟩) (fun r_1 u_1 H locs hp_1 G => ?_)
  have G : wd X (va_A [(h0, .inr (8, fs)), (hn, .inr (3, gs)), (hr, .inl (X.2.1, 3, .inl fr))] sz) (va_A [(h0, .inr (8, fs)), (hn, .inr (3, gs)), (hr, .inl (X.2.1, 3, .inl fr))] sz) s [(h0, .inr (8, fs)), (hn, .inr (3, gs)), (hr, .inl (X.2.1, 3, .inl fr))] H locs := G
  subst hp_1
  refine lv_if_ne (tgt := 15) zx zb dX10_tell_5 (by decide) (fun c_2 => absurd (by decide) c_2) (fun c_2 => ?_)
  refine lv_aload_n zx zb dX10_tell_8 rfl (lv_at hl 0 rfl) ?_
  refine lv_bipush (v := (-2)) zx zb dX10_tell_9 (by decide) ?_
  refine o_wi (cells' := 0) (slots' := 0) (wr := [(hn, .inr (3, gs))]) G rfl rfl [0, 2] [1] rfl rfl (by decide) (by decide) (n_V (As := [.int (-2)]) (rest := []) (C := RX10) (T := TX10) (N := 14) (ci := 8) S G (c_refuse l X h0 fs hr fr (-2) hf5 H.size) gX10_tell_X10_refuse rfl rfl rfl hdV_X10_refuse ⟨Nat.le_of_ble_eq_true rfl, Nat.le_of_ble_eq_true rfl⟩ [0, 2] rfl (by decide) 0 rfl rfl rfl hl.1 (Nat.le_of_ble_eq_true rfl) dX10_tell_11 ⟨Nat.le_of_ble_eq_true rfl, Nat.le_of_ble_eq_true rfl⟩) (fun r_3 u_3 H locs hp_3 G => ?_)
  have G : wd X (va_A [(h0, .inr (8, fs)), (hn, .inr (3, gs)), (hr, .inl (X.2.1, 3, .inl fr))] sz) (va_A [(h0, .inr (8, fs)), (hn, .inr (3, gs)), (hr, .inl (X.2.1, 3, .inl fr))] sz) s [(hn, .inr (3, gs))] H locs := G
  subst hp_3
  exact e_int S zr zlk (vp_nar_int _) G () [] rfl (by decide) (Or.inl rfl) (rfl) dX10_tell_14
set_option maxHeartbeats 4000000 in
set_option maxRecDepth 100000 in
/-- note, with no runner -/
theorem c_note (l : Launch) (X : EX) (h0 : Nat) (fs : List Value) (hn : Nat) (gs : List Value) (hr : Nat) (fr : Nat → Int32) (x1 : Int32) (x2 : Int32) (x3 : Int32) (x4 : Int32) (x5 : Int32) (hf0 : fs[0]? = some (.ref hn)) (hf5 : fs[5]? = some (.ref hr)) (hg2 : gs[2]? = some (.int 0)) (sz : Nat) : Met l yX10_note wsX10_note ({ frames := 1, cells := 0, slots := 0, locals := 22 } : Room) (pE X [.ref h0, .int x1, .int x2, .int x3, .int x4, .int x5] [(h0, .inr (8, fs)), (hn, .inr (3, gs)), (hr, .inl (X.2.1, 3, .inl fr))] sz) (qI (fun (r : Int32) (u : Unit) => r = (-2)) X (fun (u : Unit) => []) [(h0, .inr (8, fs)), (hn, .inr (3, gs)), (hr, .inl (X.2.1, 3, .inl fr))] sz) 0 0 (va_A [(h0, .inr (8, fs)), (hn, .inr (3, gs)), (hr, .inl (X.2.1, 3, .inl fr))] sz) := by
  refine mk_met (B := (va_A [(h0, .inr (8, fs)), (hn, .inr (3, gs)), (hr, .inl (X.2.1, 3, .inl fr))] sz)) (A := (va_A [(h0, .inr (8, fs)), (hn, .inr (3, gs)), (hr, .inl (X.2.1, 3, .inl fr))] sz)) (cc := cX10_note) (maxL := 6) (ret := (some .int)) (by decide) rfl (Nat.le_of_ble_eq_true rfl) k_w k_a (fun p e s m below meth c S zr zlk znm zsz G ls hl => ?_)
  have S : CallFix p m c cX10_note 6 s _ wsX10_note RX10 := S
  have zx := S.1
  have zb := S.2.1
  have hl : lv_has ls 6 [(0, .ref h0), (1, .int x1), (2, .int x2), (3, .int x3), (4, .int x4), (5, .int x5)] := hl
  refine lv_aload_n zx zb dX10_note_0 rfl (lv_at hl 0 rfl) ?_
  refine lv_iload_n zx zb dX10_note_1 rfl (lv_at hl 1 rfl) ?_
  refine o_ri (cells' := 0) (slots' := 0) G rfl rfl (n_V (As := [.int x1]) (rest := []) (C := RX10) (T := TX10) (N := 14) (ci := 8) S G (c_there l X h0 fs hn gs x1 hf0 hg2 s.heap.size) gX10_note_X10_there rfl rfl rfl hdV_X10_there ⟨Nat.le_of_ble_eq_true rfl, Nat.le_of_ble_eq_true rfl⟩ [0, 1] rfl (by decide) 0 rfl rfl rfl hl.1 (Nat.le_of_ble_eq_true rfl) dX10_note_2 ⟨Nat.le_of_ble_eq_true rfl, Nat.le_of_ble_eq_true rfl⟩) (fun r_1 u_1 H locs hp_1 G => ?_)
  have G : wd X (va_A [(h0, .inr (8, fs)), (hn, .inr (3, gs)), (hr, .inl (X.2.1, 3, .inl fr))] sz) (va_A [(h0, .inr (8, fs)), (hn, .inr (3, gs)), (hr, .inl (X.2.1, 3, .inl fr))] sz) s [(h0, .inr (8, fs)), (hn, .inr (3, gs)), (hr, .inl (X.2.1, 3, .inl fr))] H locs := G
  subst hp_1
  refine lv_if_eq (tgt := 50) zx zb dX10_note_5 (by decide) (fun c_2 => ?_) (fun c_2 => absurd (by decide) c_2)
  refine lv_aload_n zx zb dX10_note_50 rfl (lv_at hl 0 rfl) ?_
  refine lv_bipush (v := (-2)) zx zb dX10_note_51 (by decide) ?_
  refine o_wi (cells' := 0) (slots' := 0) (wr := [(hn, .inr (3, gs))]) G rfl rfl [0, 2] [1] rfl rfl (by decide) (by decide) (n_V (As := [.int (-2)]) (rest := []) (C := RX10) (T := TX10) (N := 14) (ci := 8) S G (c_refuse l X h0 fs hr fr (-2) hf5 H.size) gX10_note_X10_refuse rfl rfl rfl hdV_X10_refuse ⟨Nat.le_of_ble_eq_true rfl, Nat.le_of_ble_eq_true rfl⟩ [0, 2] rfl (by decide) 0 rfl rfl rfl hl.1 (Nat.le_of_ble_eq_true rfl) dX10_note_53 ⟨Nat.le_of_ble_eq_true rfl, Nat.le_of_ble_eq_true rfl⟩) (fun r_3 u_3 H locs hp_3 G => ?_)
  have G : wd X (va_A [(h0, .inr (8, fs)), (hn, .inr (3, gs)), (hr, .inl (X.2.1, 3, .inl fr))] sz) (va_A [(h0, .inr (8, fs)), (hn, .inr (3, gs)), (hr, .inl (X.2.1, 3, .inl fr))] sz) s [(hn, .inr (3, gs))] H locs := G
  subst hp_3
  exact e_int S zr zlk (vp_nar_int _) G () [] rfl (by decide) (Or.inl rfl) (rfl) dX10_note_56
set_option maxHeartbeats 4000000 in
set_option maxRecDepth 100000 in
/-- mark, with no runner -/
theorem c_mark (l : Launch) (X : EX) (h0 : Nat) (fs : List Value) (hn : Nat) (gs : List Value) (hr : Nat) (fr : Nat → Int32) (x1 : Int32) (x2 : Int32) (x3 : Int32) (hf0 : fs[0]? = some (.ref hn)) (hf5 : fs[5]? = some (.ref hr)) (hg2 : gs[2]? = some (.int 0)) (sz : Nat) : Met l yX10_mark wsX10_mark ({ frames := 1, cells := 0, slots := 0, locals := 22 } : Room) (pE X [.ref h0, .int x1, .int x2, .int x3] [(h0, .inr (8, fs)), (hn, .inr (3, gs)), (hr, .inl (X.2.1, 3, .inl fr))] sz) (qI (fun (r : Int32) (u : Unit) => r = (-2)) X (fun (u : Unit) => []) [(h0, .inr (8, fs)), (hn, .inr (3, gs)), (hr, .inl (X.2.1, 3, .inl fr))] sz) 0 0 (va_A [(h0, .inr (8, fs)), (hn, .inr (3, gs)), (hr, .inl (X.2.1, 3, .inl fr))] sz) := by
  refine mk_met (B := (va_A [(h0, .inr (8, fs)), (hn, .inr (3, gs)), (hr, .inl (X.2.1, 3, .inl fr))] sz)) (A := (va_A [(h0, .inr (8, fs)), (hn, .inr (3, gs)), (hr, .inl (X.2.1, 3, .inl fr))] sz)) (cc := cX10_mark) (maxL := 4) (ret := (some .int)) (by decide) rfl (Nat.le_of_ble_eq_true rfl) k_w k_a (fun p e s m below meth c S zr zlk znm zsz G ls hl => ?_)
  have S : CallFix p m c cX10_mark 4 s _ wsX10_mark RX10 := S
  have zx := S.1
  have zb := S.2.1
  have hl : lv_has ls 4 [(0, .ref h0), (1, .int x1), (2, .int x2), (3, .int x3)] := hl
  refine lv_aload_n zx zb dX10_mark_0 rfl (lv_at hl 0 rfl) ?_
  refine lv_iload_n zx zb dX10_mark_1 rfl (lv_at hl 1 rfl) ?_
  refine o_ri (cells' := 0) (slots' := 0) G rfl rfl (n_V (As := [.int x1]) (rest := []) (C := RX10) (T := TX10) (N := 14) (ci := 8) S G (c_there l X h0 fs hn gs x1 hf0 hg2 s.heap.size) gX10_mark_X10_there rfl rfl rfl hdV_X10_there ⟨Nat.le_of_ble_eq_true rfl, Nat.le_of_ble_eq_true rfl⟩ [0, 1] rfl (by decide) 0 rfl rfl rfl hl.1 (Nat.le_of_ble_eq_true rfl) dX10_mark_2 ⟨Nat.le_of_ble_eq_true rfl, Nat.le_of_ble_eq_true rfl⟩) (fun r_1 u_1 H locs hp_1 G => ?_)
  have G : wd X (va_A [(h0, .inr (8, fs)), (hn, .inr (3, gs)), (hr, .inl (X.2.1, 3, .inl fr))] sz) (va_A [(h0, .inr (8, fs)), (hn, .inr (3, gs)), (hr, .inl (X.2.1, 3, .inl fr))] sz) s [(h0, .inr (8, fs)), (hn, .inr (3, gs)), (hr, .inl (X.2.1, 3, .inl fr))] H locs := G
  subst hp_1
  refine lv_if_eq (tgt := 28) zx zb dX10_mark_5 (by decide) (fun c_2 => ?_) (fun c_2 => absurd (by decide) c_2)
  refine lv_aload_n zx zb dX10_mark_28 rfl (lv_at hl 0 rfl) ?_
  refine lv_bipush (v := (-2)) zx zb dX10_mark_29 (by decide) ?_
  refine o_wi (cells' := 0) (slots' := 0) (wr := [(hn, .inr (3, gs))]) G rfl rfl [0, 2] [1] rfl rfl (by decide) (by decide) (n_V (As := [.int (-2)]) (rest := []) (C := RX10) (T := TX10) (N := 14) (ci := 8) S G (c_refuse l X h0 fs hr fr (-2) hf5 H.size) gX10_mark_X10_refuse rfl rfl rfl hdV_X10_refuse ⟨Nat.le_of_ble_eq_true rfl, Nat.le_of_ble_eq_true rfl⟩ [0, 2] rfl (by decide) 0 rfl rfl rfl hl.1 (Nat.le_of_ble_eq_true rfl) dX10_mark_31 ⟨Nat.le_of_ble_eq_true rfl, Nat.le_of_ble_eq_true rfl⟩) (fun r_3 u_3 H locs hp_3 G => ?_)
  have G : wd X (va_A [(h0, .inr (8, fs)), (hn, .inr (3, gs)), (hr, .inl (X.2.1, 3, .inl fr))] sz) (va_A [(h0, .inr (8, fs)), (hn, .inr (3, gs)), (hr, .inl (X.2.1, 3, .inl fr))] sz) s [(hn, .inr (3, gs))] H locs := G
  subst hp_3
  exact e_int S zr zlk (vp_nar_int _) G () [] rfl (by decide) (Or.inl rfl) (rfl) dX10_mark_34
set_option maxHeartbeats 4000000 in
set_option maxRecDepth 100000 in
/-- is, with no runner -/
theorem c_is (l : Launch) (X : EX) (h0 : Nat) (fs : List Value) (hn : Nat) (gs : List Value) (hr : Nat) (fr : Nat → Int32) (x1 : Int32) (hf0 : fs[0]? = some (.ref hn)) (hf5 : fs[5]? = some (.ref hr)) (hg2 : gs[2]? = some (.int 0)) (sz : Nat) : Met l yX10_is wsX10_is ({ frames := 1, cells := 0, slots := 0, locals := 22 } : Room) (pE X [.ref h0, .int x1] [(h0, .inr (8, fs)), (hn, .inr (3, gs)), (hr, .inl (X.2.1, 3, .inl fr))] sz) (qI (fun (r : Int32) (u : Unit) => r = (-2)) X (fun (u : Unit) => []) [(h0, .inr (8, fs)), (hn, .inr (3, gs)), (hr, .inl (X.2.1, 3, .inl fr))] sz) 0 0 (va_A [(h0, .inr (8, fs)), (hn, .inr (3, gs)), (hr, .inl (X.2.1, 3, .inl fr))] sz) := by
  refine mk_met (B := (va_A [(h0, .inr (8, fs)), (hn, .inr (3, gs)), (hr, .inl (X.2.1, 3, .inl fr))] sz)) (A := (va_A [(h0, .inr (8, fs)), (hn, .inr (3, gs)), (hr, .inl (X.2.1, 3, .inl fr))] sz)) (cc := cX10_is) (maxL := 2) (ret := (some .int)) (by decide) rfl (Nat.le_of_ble_eq_true rfl) k_w k_a (fun p e s m below meth c S zr zlk znm zsz G ls hl => ?_)
  have S : CallFix p m c cX10_is 2 s _ wsX10_is RX10 := S
  have zx := S.1
  have zb := S.2.1
  have hl : lv_has ls 2 [(0, .ref h0), (1, .int x1)] := hl
  refine lv_aload_n zx zb dX10_is_0 rfl (lv_at hl 0 rfl) ?_
  refine lv_iload_n zx zb dX10_is_1 rfl (lv_at hl 1 rfl) ?_
  refine o_ri (cells' := 0) (slots' := 0) G rfl rfl (n_V (As := [.int x1]) (rest := []) (C := RX10) (T := TX10) (N := 14) (ci := 8) S G (c_there l X h0 fs hn gs x1 hf0 hg2 s.heap.size) gX10_is_X10_there rfl rfl rfl hdV_X10_there ⟨Nat.le_of_ble_eq_true rfl, Nat.le_of_ble_eq_true rfl⟩ [0, 1] rfl (by decide) 0 rfl rfl rfl hl.1 (Nat.le_of_ble_eq_true rfl) dX10_is_2 ⟨Nat.le_of_ble_eq_true rfl, Nat.le_of_ble_eq_true rfl⟩) (fun r_1 u_1 H locs hp_1 G => ?_)
  have G : wd X (va_A [(h0, .inr (8, fs)), (hn, .inr (3, gs)), (hr, .inl (X.2.1, 3, .inl fr))] sz) (va_A [(h0, .inr (8, fs)), (hn, .inr (3, gs)), (hr, .inl (X.2.1, 3, .inl fr))] sz) s [(h0, .inr (8, fs)), (hn, .inr (3, gs)), (hr, .inl (X.2.1, 3, .inl fr))] H locs := G
  subst hp_1
  refine lv_if_eq (tgt := 19) zx zb dX10_is_5 (by decide) (fun c_2 => ?_) (fun c_2 => absurd (by decide) c_2)
  refine lv_aload_n zx zb dX10_is_19 rfl (lv_at hl 0 rfl) ?_
  refine lv_bipush (v := (-2)) zx zb dX10_is_20 (by decide) ?_
  refine o_wi (cells' := 0) (slots' := 0) (wr := [(hn, .inr (3, gs))]) G rfl rfl [0, 2] [1] rfl rfl (by decide) (by decide) (n_V (As := [.int (-2)]) (rest := []) (C := RX10) (T := TX10) (N := 14) (ci := 8) S G (c_refuse l X h0 fs hr fr (-2) hf5 H.size) gX10_is_X10_refuse rfl rfl rfl hdV_X10_refuse ⟨Nat.le_of_ble_eq_true rfl, Nat.le_of_ble_eq_true rfl⟩ [0, 2] rfl (by decide) 0 rfl rfl rfl hl.1 (Nat.le_of_ble_eq_true rfl) dX10_is_22 ⟨Nat.le_of_ble_eq_true rfl, Nat.le_of_ble_eq_true rfl⟩) (fun r_3 u_3 H locs hp_3 G => ?_)
  have G : wd X (va_A [(h0, .inr (8, fs)), (hn, .inr (3, gs)), (hr, .inl (X.2.1, 3, .inl fr))] sz) (va_A [(h0, .inr (8, fs)), (hn, .inr (3, gs)), (hr, .inl (X.2.1, 3, .inl fr))] sz) s [(hn, .inr (3, gs))] H locs := G
  subst hp_3
  exact e_int S zr zlk (vp_nar_int _) G () [] rfl (by decide) (Or.inl rfl) (rfl) dX10_is_25
set_option maxHeartbeats 4000000 in
set_option maxRecDepth 100000 in
/-- look, with no runner -/
theorem c_look (l : Launch) (X : EX) (h0 : Nat) (fs : List Value) (hn : Nat) (gs : List Value) (hr : Nat) (fr : Nat → Int32) (x1 : Int32) (hf0 : fs[0]? = some (.ref hn)) (hf5 : fs[5]? = some (.ref hr)) (hg2 : gs[2]? = some (.int 0)) (sz : Nat) : Met l yX10_look wsX10_look ({ frames := 1, cells := 0, slots := 0, locals := 22 } : Room) (pE X [.ref h0, .int x1] [(h0, .inr (8, fs)), (hn, .inr (3, gs)), (hr, .inl (X.2.1, 3, .inl fr))] sz) (qI (fun (r : Int32) (u : Unit) => r = (-2)) X (fun (u : Unit) => []) [(h0, .inr (8, fs)), (hn, .inr (3, gs)), (hr, .inl (X.2.1, 3, .inl fr))] sz) 0 0 (va_A [(h0, .inr (8, fs)), (hn, .inr (3, gs)), (hr, .inl (X.2.1, 3, .inl fr))] sz) := by
  refine mk_met (B := (va_A [(h0, .inr (8, fs)), (hn, .inr (3, gs)), (hr, .inl (X.2.1, 3, .inl fr))] sz)) (A := (va_A [(h0, .inr (8, fs)), (hn, .inr (3, gs)), (hr, .inl (X.2.1, 3, .inl fr))] sz)) (cc := cX10_look) (maxL := 2) (ret := (some .int)) (by decide) rfl (Nat.le_of_ble_eq_true rfl) k_w k_a (fun p e s m below meth c S zr zlk znm zsz G ls hl => ?_)
  have S : CallFix p m c cX10_look 2 s _ wsX10_look RX10 := S
  have zx := S.1
  have zb := S.2.1
  have hl : lv_has ls 2 [(0, .ref h0), (1, .int x1)] := hl
  refine lv_aload_n zx zb dX10_look_0 rfl (lv_at hl 0 rfl) ?_
  refine lv_iload_n zx zb dX10_look_1 rfl (lv_at hl 1 rfl) ?_
  refine o_ri (cells' := 0) (slots' := 0) G rfl rfl (n_V (As := [.int x1]) (rest := []) (C := RX10) (T := TX10) (N := 14) (ci := 8) S G (c_there l X h0 fs hn gs x1 hf0 hg2 s.heap.size) gX10_look_X10_there rfl rfl rfl hdV_X10_there ⟨Nat.le_of_ble_eq_true rfl, Nat.le_of_ble_eq_true rfl⟩ [0, 1] rfl (by decide) 0 rfl rfl rfl hl.1 (Nat.le_of_ble_eq_true rfl) dX10_look_2 ⟨Nat.le_of_ble_eq_true rfl, Nat.le_of_ble_eq_true rfl⟩) (fun r_1 u_1 H locs hp_1 G => ?_)
  have G : wd X (va_A [(h0, .inr (8, fs)), (hn, .inr (3, gs)), (hr, .inl (X.2.1, 3, .inl fr))] sz) (va_A [(h0, .inr (8, fs)), (hn, .inr (3, gs)), (hr, .inl (X.2.1, 3, .inl fr))] sz) s [(h0, .inr (8, fs)), (hn, .inr (3, gs)), (hr, .inl (X.2.1, 3, .inl fr))] H locs := G
  subst hp_1
  refine lv_if_ne (tgt := 15) zx zb dX10_look_5 (by decide) (fun c_2 => absurd (by decide) c_2) (fun c_2 => ?_)
  refine lv_aload_n zx zb dX10_look_8 rfl (lv_at hl 0 rfl) ?_
  refine lv_bipush (v := (-2)) zx zb dX10_look_9 (by decide) ?_
  refine o_wi (cells' := 0) (slots' := 0) (wr := [(hn, .inr (3, gs))]) G rfl rfl [0, 2] [1] rfl rfl (by decide) (by decide) (n_V (As := [.int (-2)]) (rest := []) (C := RX10) (T := TX10) (N := 14) (ci := 8) S G (c_refuse l X h0 fs hr fr (-2) hf5 H.size) gX10_look_X10_refuse rfl rfl rfl hdV_X10_refuse ⟨Nat.le_of_ble_eq_true rfl, Nat.le_of_ble_eq_true rfl⟩ [0, 2] rfl (by decide) 0 rfl rfl rfl hl.1 (Nat.le_of_ble_eq_true rfl) dX10_look_11 ⟨Nat.le_of_ble_eq_true rfl, Nat.le_of_ble_eq_true rfl⟩) (fun r_3 u_3 H locs hp_3 G => ?_)
  have G : wd X (va_A [(h0, .inr (8, fs)), (hn, .inr (3, gs)), (hr, .inl (X.2.1, 3, .inl fr))] sz) (va_A [(h0, .inr (8, fs)), (hn, .inr (3, gs)), (hr, .inl (X.2.1, 3, .inl fr))] sz) s [(hn, .inr (3, gs))] H locs := G
  subst hp_3
  exact e_int S zr zlk (vp_nar_int _) G () [] rfl (by decide) (Or.inl rfl) (rfl) dX10_look_14
set_option maxHeartbeats 4000000 in
set_option maxRecDepth 100000 in
/-- kinds, with no runner -/
theorem c_kinds (l : Launch) (X : EX) (h0 : Nat) (fs : List Value) (hn : Nat) (gs : List Value) (hr : Nat) (fr : Nat → Int32) (x1 : Int32) (hf0 : fs[0]? = some (.ref hn)) (hf5 : fs[5]? = some (.ref hr)) (hg2 : gs[2]? = some (.int 0)) (sz : Nat) : Met l yX10_kinds wsX10_kinds ({ frames := 1, cells := 0, slots := 0, locals := 22 } : Room) (pE X [.ref h0, .int x1] [(h0, .inr (8, fs)), (hn, .inr (3, gs)), (hr, .inl (X.2.1, 3, .inl fr))] sz) (qI (fun (r : Int32) (u : Unit) => r = (-2)) X (fun (u : Unit) => []) [(h0, .inr (8, fs)), (hn, .inr (3, gs)), (hr, .inl (X.2.1, 3, .inl fr))] sz) 0 0 (va_A [(h0, .inr (8, fs)), (hn, .inr (3, gs)), (hr, .inl (X.2.1, 3, .inl fr))] sz) := by
  refine mk_met (B := (va_A [(h0, .inr (8, fs)), (hn, .inr (3, gs)), (hr, .inl (X.2.1, 3, .inl fr))] sz)) (A := (va_A [(h0, .inr (8, fs)), (hn, .inr (3, gs)), (hr, .inl (X.2.1, 3, .inl fr))] sz)) (cc := cX10_kinds) (maxL := 2) (ret := (some .int)) (by decide) rfl (Nat.le_of_ble_eq_true rfl) k_w k_a (fun p e s m below meth c S zr zlk znm zsz G ls hl => ?_)
  have S : CallFix p m c cX10_kinds 2 s _ wsX10_kinds RX10 := S
  have zx := S.1
  have zb := S.2.1
  have hl : lv_has ls 2 [(0, .ref h0), (1, .int x1)] := hl
  refine lv_aload_n zx zb dX10_kinds_0 rfl (lv_at hl 0 rfl) ?_
  refine lv_iload_n zx zb dX10_kinds_1 rfl (lv_at hl 1 rfl) ?_
  refine o_ri (cells' := 0) (slots' := 0) G rfl rfl (n_V (As := [.int x1]) (rest := []) (C := RX10) (T := TX10) (N := 14) (ci := 8) S G (c_there l X h0 fs hn gs x1 hf0 hg2 s.heap.size) gX10_kinds_X10_there rfl rfl rfl hdV_X10_there ⟨Nat.le_of_ble_eq_true rfl, Nat.le_of_ble_eq_true rfl⟩ [0, 1] rfl (by decide) 0 rfl rfl rfl hl.1 (Nat.le_of_ble_eq_true rfl) dX10_kinds_2 ⟨Nat.le_of_ble_eq_true rfl, Nat.le_of_ble_eq_true rfl⟩) (fun r_1 u_1 H locs hp_1 G => ?_)
  have G : wd X (va_A [(h0, .inr (8, fs)), (hn, .inr (3, gs)), (hr, .inl (X.2.1, 3, .inl fr))] sz) (va_A [(h0, .inr (8, fs)), (hn, .inr (3, gs)), (hr, .inl (X.2.1, 3, .inl fr))] sz) s [(h0, .inr (8, fs)), (hn, .inr (3, gs)), (hr, .inl (X.2.1, 3, .inl fr))] H locs := G
  subst hp_1
  refine lv_if_eq (tgt := 19) zx zb dX10_kinds_5 (by decide) (fun c_2 => ?_) (fun c_2 => absurd (by decide) c_2)
  refine lv_aload_n zx zb dX10_kinds_19 rfl (lv_at hl 0 rfl) ?_
  refine lv_bipush (v := (-2)) zx zb dX10_kinds_20 (by decide) ?_
  refine o_wi (cells' := 0) (slots' := 0) (wr := [(hn, .inr (3, gs))]) G rfl rfl [0, 2] [1] rfl rfl (by decide) (by decide) (n_V (As := [.int (-2)]) (rest := []) (C := RX10) (T := TX10) (N := 14) (ci := 8) S G (c_refuse l X h0 fs hr fr (-2) hf5 H.size) gX10_kinds_X10_refuse rfl rfl rfl hdV_X10_refuse ⟨Nat.le_of_ble_eq_true rfl, Nat.le_of_ble_eq_true rfl⟩ [0, 2] rfl (by decide) 0 rfl rfl rfl hl.1 (Nat.le_of_ble_eq_true rfl) dX10_kinds_22 ⟨Nat.le_of_ble_eq_true rfl, Nat.le_of_ble_eq_true rfl⟩) (fun r_3 u_3 H locs hp_3 G => ?_)
  have G : wd X (va_A [(h0, .inr (8, fs)), (hn, .inr (3, gs)), (hr, .inl (X.2.1, 3, .inl fr))] sz) (va_A [(h0, .inr (8, fs)), (hn, .inr (3, gs)), (hr, .inl (X.2.1, 3, .inl fr))] sz) s [(hn, .inr (3, gs))] H locs := G
  subst hp_3
  exact e_int S zr zlk (vp_nar_int _) G () [] rfl (by decide) (Or.inl rfl) (rfl) dX10_kinds_25
set_option maxHeartbeats 4000000 in
set_option maxRecDepth 100000 in
/-- ask, with no runner -/
theorem c_ask (l : Launch) (X : EX) (h0 : Nat) (fs : List Value) (hn : Nat) (gs : List Value) (hr : Nat) (fr : Nat → Int32) (x1 : Int32) (hf0 : fs[0]? = some (.ref hn)) (hf5 : fs[5]? = some (.ref hr)) (hg2 : gs[2]? = some (.int 0)) (sz : Nat) : Met l yX10_ask wsX10_ask ({ frames := 1, cells := 0, slots := 0, locals := 22 } : Room) (pE X [.ref h0, .int x1] [(h0, .inr (8, fs)), (hn, .inr (3, gs)), (hr, .inl (X.2.1, 3, .inl fr))] sz) (qI (fun (r : Int32) (u : Unit) => r = (-2)) X (fun (u : Unit) => []) [(h0, .inr (8, fs)), (hn, .inr (3, gs)), (hr, .inl (X.2.1, 3, .inl fr))] sz) 0 0 (va_A [(h0, .inr (8, fs)), (hn, .inr (3, gs)), (hr, .inl (X.2.1, 3, .inl fr))] sz) := by
  refine mk_met (B := (va_A [(h0, .inr (8, fs)), (hn, .inr (3, gs)), (hr, .inl (X.2.1, 3, .inl fr))] sz)) (A := (va_A [(h0, .inr (8, fs)), (hn, .inr (3, gs)), (hr, .inl (X.2.1, 3, .inl fr))] sz)) (cc := cX10_ask) (maxL := 2) (ret := (some .int)) (by decide) rfl (Nat.le_of_ble_eq_true rfl) k_w k_a (fun p e s m below meth c S zr zlk znm zsz G ls hl => ?_)
  have S : CallFix p m c cX10_ask 2 s _ wsX10_ask RX10 := S
  have zx := S.1
  have zb := S.2.1
  have hl : lv_has ls 2 [(0, .ref h0), (1, .int x1)] := hl
  refine lv_aload_n zx zb dX10_ask_0 rfl (lv_at hl 0 rfl) ?_
  refine lv_iload_n zx zb dX10_ask_1 rfl (lv_at hl 1 rfl) ?_
  refine o_ri (cells' := 0) (slots' := 0) G rfl rfl (n_V (As := [.int x1]) (rest := []) (C := RX10) (T := TX10) (N := 14) (ci := 8) S G (c_there l X h0 fs hn gs x1 hf0 hg2 s.heap.size) gX10_ask_X10_there rfl rfl rfl hdV_X10_there ⟨Nat.le_of_ble_eq_true rfl, Nat.le_of_ble_eq_true rfl⟩ [0, 1] rfl (by decide) 0 rfl rfl rfl hl.1 (Nat.le_of_ble_eq_true rfl) dX10_ask_2 ⟨Nat.le_of_ble_eq_true rfl, Nat.le_of_ble_eq_true rfl⟩) (fun r_1 u_1 H locs hp_1 G => ?_)
  have G : wd X (va_A [(h0, .inr (8, fs)), (hn, .inr (3, gs)), (hr, .inl (X.2.1, 3, .inl fr))] sz) (va_A [(h0, .inr (8, fs)), (hn, .inr (3, gs)), (hr, .inl (X.2.1, 3, .inl fr))] sz) s [(h0, .inr (8, fs)), (hn, .inr (3, gs)), (hr, .inl (X.2.1, 3, .inl fr))] H locs := G
  subst hp_1
  refine lv_if_ne (tgt := 15) zx zb dX10_ask_5 (by decide) (fun c_2 => absurd (by decide) c_2) (fun c_2 => ?_)
  refine lv_aload_n zx zb dX10_ask_8 rfl (lv_at hl 0 rfl) ?_
  refine lv_bipush (v := (-2)) zx zb dX10_ask_9 (by decide) ?_
  refine o_wi (cells' := 0) (slots' := 0) (wr := [(hn, .inr (3, gs))]) G rfl rfl [0, 2] [1] rfl rfl (by decide) (by decide) (n_V (As := [.int (-2)]) (rest := []) (C := RX10) (T := TX10) (N := 14) (ci := 8) S G (c_refuse l X h0 fs hr fr (-2) hf5 H.size) gX10_ask_X10_refuse rfl rfl rfl hdV_X10_refuse ⟨Nat.le_of_ble_eq_true rfl, Nat.le_of_ble_eq_true rfl⟩ [0, 2] rfl (by decide) 0 rfl rfl rfl hl.1 (Nat.le_of_ble_eq_true rfl) dX10_ask_11 ⟨Nat.le_of_ble_eq_true rfl, Nat.le_of_ble_eq_true rfl⟩) (fun r_3 u_3 H locs hp_3 G => ?_)
  have G : wd X (va_A [(h0, .inr (8, fs)), (hn, .inr (3, gs)), (hr, .inl (X.2.1, 3, .inl fr))] sz) (va_A [(h0, .inr (8, fs)), (hn, .inr (3, gs)), (hr, .inl (X.2.1, 3, .inl fr))] sz) s [(hn, .inr (3, gs))] H locs := G
  subst hp_3
  exact e_int S zr zlk (vp_nar_int _) G () [] rfl (by decide) (Or.inl rfl) (rfl) dX10_ask_14
set_option maxHeartbeats 4000000 in
set_option maxRecDepth 100000 in
/-- stumble, with no runner -/
theorem c_stumble (l : Launch) (X : EX) (h0 : Nat) (fs : List Value) (hn : Nat) (gs : List Value) (hr : Nat) (fr : Nat → Int32) (x1 : Int32) (x2 : Int32) (x3 : Int32) (x4 : Int32) (hf0 : fs[0]? = some (.ref hn)) (hf5 : fs[5]? = some (.ref hr)) (hg2 : gs[2]? = some (.int 0)) (sz : Nat) : Met l yX10_stumble wsX10_stumble ({ frames := 1, cells := 0, slots := 0, locals := 22 } : Room) (pE X [.ref h0, .int x1, .int x2, .int x3, .int x4] [(h0, .inr (8, fs)), (hn, .inr (3, gs)), (hr, .inl (X.2.1, 3, .inl fr))] sz) (qI (fun (r : Int32) (u : Unit) => r = (-2)) X (fun (u : Unit) => []) [(h0, .inr (8, fs)), (hn, .inr (3, gs)), (hr, .inl (X.2.1, 3, .inl fr))] sz) 0 0 (va_A [(h0, .inr (8, fs)), (hn, .inr (3, gs)), (hr, .inl (X.2.1, 3, .inl fr))] sz) := by
  refine mk_met (B := (va_A [(h0, .inr (8, fs)), (hn, .inr (3, gs)), (hr, .inl (X.2.1, 3, .inl fr))] sz)) (A := (va_A [(h0, .inr (8, fs)), (hn, .inr (3, gs)), (hr, .inl (X.2.1, 3, .inl fr))] sz)) (cc := cX10_stumble) (maxL := 12) (ret := (some .int)) (by decide) rfl (Nat.le_of_ble_eq_true rfl) k_w k_a (fun p e s m below meth c S zr zlk znm zsz G ls hl => ?_)
  have S : CallFix p m c cX10_stumble 12 s _ wsX10_stumble RX10 := S
  have zx := S.1
  have zb := S.2.1
  have hl : lv_has ls 12 [(0, .ref h0), (1, .int x1), (2, .int x2), (3, .int x3), (4, .int x4)] := hl
  refine lv_aload_n zx zb dX10_stumble_0 rfl (lv_at hl 0 rfl) ?_
  refine lv_iload_n zx zb dX10_stumble_1 rfl (lv_at hl 1 rfl) ?_
  refine o_ri (cells' := 0) (slots' := 0) G rfl rfl (n_V (As := [.int x1]) (rest := []) (C := RX10) (T := TX10) (N := 14) (ci := 8) S G (c_there l X h0 fs hn gs x1 hf0 hg2 s.heap.size) gX10_stumble_X10_there rfl rfl rfl hdV_X10_there ⟨Nat.le_of_ble_eq_true rfl, Nat.le_of_ble_eq_true rfl⟩ [0, 1] rfl (by decide) 0 rfl rfl rfl hl.1 (Nat.le_of_ble_eq_true rfl) dX10_stumble_2 ⟨Nat.le_of_ble_eq_true rfl, Nat.le_of_ble_eq_true rfl⟩) (fun r_1 u_1 H locs hp_1 G => ?_)
  have G : wd X (va_A [(h0, .inr (8, fs)), (hn, .inr (3, gs)), (hr, .inl (X.2.1, 3, .inl fr))] sz) (va_A [(h0, .inr (8, fs)), (hn, .inr (3, gs)), (hr, .inl (X.2.1, 3, .inl fr))] sz) s [(h0, .inr (8, fs)), (hn, .inr (3, gs)), (hr, .inl (X.2.1, 3, .inl fr))] H locs := G
  subst hp_1
  refine lv_if_eq (tgt := 39) zx zb dX10_stumble_5 (by decide) (fun c_2 => ?_) (fun c_2 => absurd (by decide) c_2)
  refine lv_aload_n zx zb dX10_stumble_39 rfl (lv_at hl 0 rfl) ?_
  refine lv_bipush (v := (-2)) zx zb dX10_stumble_40 (by decide) ?_
  refine o_wi (cells' := 0) (slots' := 0) (wr := [(hn, .inr (3, gs))]) G rfl rfl [0, 2] [1] rfl rfl (by decide) (by decide) (n_V (As := [.int (-2)]) (rest := []) (C := RX10) (T := TX10) (N := 14) (ci := 8) S G (c_refuse l X h0 fs hr fr (-2) hf5 H.size) gX10_stumble_X10_refuse rfl rfl rfl hdV_X10_refuse ⟨Nat.le_of_ble_eq_true rfl, Nat.le_of_ble_eq_true rfl⟩ [0, 2] rfl (by decide) 0 rfl rfl rfl hl.1 (Nat.le_of_ble_eq_true rfl) dX10_stumble_42 ⟨Nat.le_of_ble_eq_true rfl, Nat.le_of_ble_eq_true rfl⟩) (fun r_3 u_3 H locs hp_3 G => ?_)
  have G : wd X (va_A [(h0, .inr (8, fs)), (hn, .inr (3, gs)), (hr, .inl (X.2.1, 3, .inl fr))] sz) (va_A [(h0, .inr (8, fs)), (hn, .inr (3, gs)), (hr, .inl (X.2.1, 3, .inl fr))] sz) s [(hn, .inr (3, gs))] H locs := G
  subst hp_3
  exact e_int S zr zlk (vp_nar_int _) G () [] rfl (by decide) (Or.inl rfl) (rfl) dX10_stumble_45
set_option maxHeartbeats 4000000 in
set_option maxRecDepth 100000 in
/-- pair, with no runner -/
theorem c_pair (l : Launch) (X : EX) (h0 : Nat) (fs : List Value) (hn : Nat) (gs : List Value) (hr : Nat) (fr : Nat → Int32) (x1 : Int32) (x2 : Int32) (x3 : Int32) (hf0 : fs[0]? = some (.ref hn)) (hf5 : fs[5]? = some (.ref hr)) (hg2 : gs[2]? = some (.int 0)) (sz : Nat) : Met l yX10_pair wsX10_pair ({ frames := 2, cells := 0, slots := 0, locals := 43 } : Room) (pE X [.ref h0, .int x1, .int x2, .int x3] [(h0, .inr (8, fs)), (hn, .inr (3, gs)), (hr, .inl (X.2.1, 3, .inl fr))] sz) (qI (fun (r : Int32) (u : Unit) => r = (-10)) X (fun (u : Unit) => []) [(h0, .inr (8, fs)), (hn, .inr (3, gs)), (hr, .inl (X.2.1, 3, .inl fr))] sz) 0 0 (va_A [(h0, .inr (8, fs)), (hn, .inr (3, gs)), (hr, .inl (X.2.1, 3, .inl fr))] sz) := by
  refine mk_met (B := (va_A [(h0, .inr (8, fs)), (hn, .inr (3, gs)), (hr, .inl (X.2.1, 3, .inl fr))] sz)) (A := (va_A [(h0, .inr (8, fs)), (hn, .inr (3, gs)), (hr, .inl (X.2.1, 3, .inl fr))] sz)) (cc := cX10_pair) (maxL := 5) (ret := (some .int)) (by decide) rfl (Nat.le_of_ble_eq_true rfl) k_w k_a (fun p e s m below meth c S zr zlk znm zsz G ls hl => ?_)
  have S : CallFix p m c cX10_pair 5 s _ wsX10_pair RX10 := S
  have zx := S.1
  have zb := S.2.1
  have hl : lv_has ls 5 [(0, .ref h0), (1, .int x1), (2, .int x2), (3, .int x3)] := hl
  refine lv_aload_n zx zb dX10_pair_0 rfl (lv_at hl 0 rfl) ?_
  refine lv_iload_n zx zb dX10_pair_1 rfl (lv_at hl 1 rfl) ?_
  refine lv_iload_n zx zb dX10_pair_2 rfl (lv_at hl 2 rfl) ?_
  refine o_ri (cells' := 0) (slots' := 0) G rfl rfl (n_V (As := [.int x1, .int x2]) (rest := []) (C := RX10) (T := TX10) (N := 14) (ci := 8) S G (c_areTwo l X h0 fs hn gs x1 x2 hf0 hg2 s.heap.size) gX10_pair_X10_areTwo rfl rfl rfl hdV_X10_areTwo ⟨Nat.le_of_ble_eq_true rfl, Nat.le_of_ble_eq_true rfl⟩ [0, 1] rfl (by decide) 0 rfl rfl rfl hl.1 (Nat.le_of_ble_eq_true rfl) dX10_pair_3 ⟨Nat.le_of_ble_eq_true rfl, Nat.le_of_ble_eq_true rfl⟩) (fun r_1 u_1 H locs hp_1 G => ?_)
  have G : wd X (va_A [(h0, .inr (8, fs)), (hn, .inr (3, gs)), (hr, .inl (X.2.1, 3, .inl fr))] sz) (va_A [(h0, .inr (8, fs)), (hn, .inr (3, gs)), (hr, .inl (X.2.1, 3, .inl fr))] sz) s [(h0, .inr (8, fs)), (hn, .inr (3, gs)), (hr, .inl (X.2.1, 3, .inl fr))] H locs := G
  subst hp_1
  refine lv_if_eq (tgt := 14) zx zb dX10_pair_6 (by decide) (fun c_2 => ?_) (fun c_2 => absurd (by decide) c_2)
  refine lv_aload_n zx zb dX10_pair_14 rfl (lv_at hl 0 rfl) ?_
  refine lv_bipush (v := (-2)) zx zb dX10_pair_15 (by decide) ?_
  refine o_wi (cells' := 0) (slots' := 0) (wr := [(hn, .inr (3, gs))]) G rfl rfl [0, 2] [1] rfl rfl (by decide) (by decide) (n_V (As := [.int (-2)]) (rest := []) (C := RX10) (T := TX10) (N := 14) (ci := 8) S G (c_refuse l X h0 fs hr fr (-2) hf5 H.size) gX10_pair_X10_refuse rfl rfl rfl hdV_X10_refuse ⟨Nat.le_of_ble_eq_true rfl, Nat.le_of_ble_eq_true rfl⟩ [0, 2] rfl (by decide) 0 rfl rfl rfl hl.1 (Nat.le_of_ble_eq_true rfl) dX10_pair_17 ⟨Nat.le_of_ble_eq_true rfl, Nat.le_of_ble_eq_true rfl⟩) (fun r_3 u_3 H locs hp_3 G => ?_)
  have G : wd X (va_A [(h0, .inr (8, fs)), (hn, .inr (3, gs)), (hr, .inl (X.2.1, 3, .inl fr))] sz) (va_A [(h0, .inr (8, fs)), (hn, .inr (3, gs)), (hr, .inl (X.2.1, 3, .inl fr))] sz) s [(hn, .inr (3, gs))] H locs := G
  subst hp_3
  refine lv_pop zx zb dX10_pair_20 rfl ?_
  refine lv_bipush (v := (-10)) zx zb dX10_pair_21 (by decide) ?_
  exact e_int S zr zlk (vp_nar_int _) G () [] rfl (by decide) (Or.inl rfl) (rfl) dX10_pair_23
theorem in_X5_restart_X5 : ∀ w ∈ wsX50, w ∈ wsX5_restart := by decide +kernel
theorem lk_X5_restart_9 : Cond.fieldLink RX5 9 "EggSpoons$Race" "length" "I" ∈ wsX5_restart := by decide +kernel
theorem lk_X5_restart_15 : Cond.fieldLink RX5 15 "EggSpoons$Race" "tick" "I" ∈ wsX5_restart := by decide +kernel
theorem lk_X5_restart_18 : Cond.fieldLink RX5 18 "EggSpoons$Race" "runners" "I" ∈ wsX5_restart := by decide +kernel
theorem lk_X5_restart_30 : Cond.fieldLink RX5 30 "EggSpoons$Race" "past" "LEggSpoons$Past;" ∈ wsX5_restart := by decide +kernel
theorem in_X5_restart_X4 : ∀ w ∈ wsX40, w ∈ wsX5_restart := by decide +kernel
theorem lk_X5_restart_50 : Cond.fieldLink RX5 50 "EggSpoons$Past" "size" "I" ∈ wsX5_restart := by decide +kernel
theorem lk_X5_restart_39 : Cond.fieldLink RX5 39 "EggSpoons$Race" "seenRows" "LEggSpoons$Rows;" ∈ wsX5_restart := by decide +kernel
theorem in_X5_restart_X7 : ∀ w ∈ wsX70, w ∈ wsX5_restart := by decide +kernel
theorem lk_X5_restart_53 : Cond.fieldLink RX5 53 "EggSpoons$Rows" "size" "I" ∈ wsX5_restart := by decide +kernel
theorem lk_X5_restart_43 : Cond.fieldLink RX5 43 "EggSpoons$Race" "noteRows" "LEggSpoons$Rows;" ∈ wsX5_restart := by decide +kernel
theorem lk_X5_restart_46 : Cond.fieldLink RX5 46 "EggSpoons$Race" "markRows" "LEggSpoons$Rows;" ∈ wsX5_restart := by decide +kernel
set_option maxHeartbeats 4000000 in
set_option maxRecDepth 100000 in
/-- restart -/
theorem c_restart (l : Launch) (X : EX) (hn : Nat) (a0 : Value) (a1 : Value) (a2 : Value) (a3 : Value) (hp : Nat) (hs : Nat) (ht : Nat) (hm : Nat) (b0 : Value) (b1 : Value) (d0 : Value) (d1 : Value) (d2 : Value) (d3 : Value) (d4 : Value) (e0 : Value) (e1 : Value) (e2 : Value) (e3 : Value) (e4 : Value) (f0 : Value) (f1 : Value) (f2 : Value) (f3 : Value) (f4 : Value) (x : Int32) (sz : Nat) : Met l yX5_restart wsX5_restart ({ frames := 0, cells := 0, slots := 0, locals := 0 } : Room) (pE X [.ref hn, .int x] [(hn, .inr (3, [a0, a1, a2, a3, .ref hp, .ref hs, .ref ht, .ref hm])), (hp, .inr (2, [b0, b1])), (hs, .inr (5, [d0, d1, d2, d3, d4])), (ht, .inr (5, [e0, e1, e2, e3, e4])), (hm, .inr (5, [f0, f1, f2, f3, f4]))] sz) (qV (fun (u : Unit) => True) X (fun (u : Unit) => []) [(hn, .inr (3, [a0, a1, a2, a3, .ref hp, .ref hs, .ref ht, .ref hm])), (hp, .inr (2, [b0, b1])), (hs, .inr (5, [d0, d1, d2, d3, d4])), (ht, .inr (5, [e0, e1, e2, e3, e4])), (hm, .inr (5, [f0, f1, f2, f3, f4]))] sz) 0 0 (va_A [(hn, .inr (3, [a0, a1, a2, a3, .ref hp, .ref hs, .ref ht, .ref hm])), (hp, .inr (2, [b0, b1])), (hs, .inr (5, [d0, d1, d2, d3, d4])), (ht, .inr (5, [e0, e1, e2, e3, e4])), (hm, .inr (5, [f0, f1, f2, f3, f4]))] sz) := by
  refine mk_met (B := (va_A [(hn, .inr (3, [a0, a1, a2, a3, .ref hp, .ref hs, .ref ht, .ref hm])), (hp, .inr (2, [b0, b1])), (hs, .inr (5, [d0, d1, d2, d3, d4])), (ht, .inr (5, [e0, e1, e2, e3, e4])), (hm, .inr (5, [f0, f1, f2, f3, f4]))] sz)) (A := (va_A [(hn, .inr (3, [a0, a1, a2, a3, .ref hp, .ref hs, .ref ht, .ref hm])), (hp, .inr (2, [b0, b1])), (hs, .inr (5, [d0, d1, d2, d3, d4])), (ht, .inr (5, [e0, e1, e2, e3, e4])), (hm, .inr (5, [f0, f1, f2, f3, f4]))] sz)) (cc := cX5_restart) (maxL := 2) (ret := none) (by decide) rfl (Nat.le_of_ble_eq_true rfl) k_w k_a (fun p e s m below meth c S zr zlk znm zsz G ls hl => ?_)
  have S : CallFix p m c cX5_restart 2 s _ wsX5_restart RX5 := S
  have zx := S.1
  have zb := S.2.1
  have hl : lv_has ls 2 [(0, .ref hn), (1, .int x)] := hl
  refine lv_aload_n zx zb dX5_restart_0 rfl (lv_at hl 0 rfl) ?_
  refine lv_iload_n zx zb dX5_restart_1 rfl (lv_at hl 1 rfl) ?_
  refine r_put (C := RX5) (T := TX5) (N := 8) (ci := 3) (v := .int x) S in_X5_restart_X5 tyX5_ok nmX5 G 0 rfl rfl 0 (by decide) lk_X5_restart_9 rfl (vp_nar_int _) rfl (Nat.le_of_ble_eq_true rfl) dX5_restart_2 (fun H locs G => ?_)
  have G : wd X (va_A [(hn, .inr (3, [a0, a1, a2, a3, .ref hp, .ref hs, .ref ht, .ref hm])), (hp, .inr (2, [b0, b1])), (hs, .inr (5, [d0, d1, d2, d3, d4])), (ht, .inr (5, [e0, e1, e2, e3, e4])), (hm, .inr (5, [f0, f1, f2, f3, f4]))] sz) (va_A [(hn, .inr (3, [a0, a1, a2, a3, .ref hp, .ref hs, .ref ht, .ref hm])), (hp, .inr (2, [b0, b1])), (hs, .inr (5, [d0, d1, d2, d3, d4])), (ht, .inr (5, [e0, e1, e2, e3, e4])), (hm, .inr (5, [f0, f1, f2, f3, f4]))] sz) s [(hn, .inr (3, [.int x, a1, a2, a3, .ref hp, .ref hs, .ref ht, .ref hm])), (hp, .inr (2, [b0, b1])), (hs, .inr (5, [d0, d1, d2, d3, d4])), (ht, .inr (5, [e0, e1, e2, e3, e4])), (hm, .inr (5, [f0, f1, f2, f3, f4]))] H locs := G
  refine lv_aload_n zx zb dX5_restart_5 rfl (lv_at hl 0 rfl) ?_
  refine lv_iconst (v := 0) zx zb dX5_restart_6 (by decide) ?_
  refine r_put (C := RX5) (T := TX5) (N := 8) (ci := 3) (v := .int 0) S in_X5_restart_X5 tyX5_ok nmX5 G 0 rfl rfl 1 (by decide) lk_X5_restart_15 rfl (vp_nar_int _) rfl (Nat.le_of_ble_eq_true rfl) dX5_restart_7 (fun H locs G => ?_)
  have G : wd X (va_A [(hn, .inr (3, [a0, a1, a2, a3, .ref hp, .ref hs, .ref ht, .ref hm])), (hp, .inr (2, [b0, b1])), (hs, .inr (5, [d0, d1, d2, d3, d4])), (ht, .inr (5, [e0, e1, e2, e3, e4])), (hm, .inr (5, [f0, f1, f2, f3, f4]))] sz) (va_A [(hn, .inr (3, [a0, a1, a2, a3, .ref hp, .ref hs, .ref ht, .ref hm])), (hp, .inr (2, [b0, b1])), (hs, .inr (5, [d0, d1, d2, d3, d4])), (ht, .inr (5, [e0, e1, e2, e3, e4])), (hm, .inr (5, [f0, f1, f2, f3, f4]))] sz) s [(hn, .inr (3, [.int x, .int 0, a2, a3, .ref hp, .ref hs, .ref ht, .ref hm])), (hp, .inr (2, [b0, b1])), (hs, .inr (5, [d0, d1, d2, d3, d4])), (ht, .inr (5, [e0, e1, e2, e3, e4])), (hm, .inr (5, [f0, f1, f2, f3, f4]))] H locs := G
  refine lv_aload_n zx zb dX5_restart_10 rfl (lv_at hl 0 rfl) ?_
  refine lv_iconst (v := 0) zx zb dX5_restart_11 (by decide) ?_
  refine r_put (C := RX5) (T := TX5) (N := 8) (ci := 3) (v := .int 0) S in_X5_restart_X5 tyX5_ok nmX5 G 0 rfl rfl 2 (by decide) lk_X5_restart_18 rfl (vp_nar_int _) rfl (Nat.le_of_ble_eq_true rfl) dX5_restart_12 (fun H locs G => ?_)
  have G : wd X (va_A [(hn, .inr (3, [a0, a1, a2, a3, .ref hp, .ref hs, .ref ht, .ref hm])), (hp, .inr (2, [b0, b1])), (hs, .inr (5, [d0, d1, d2, d3, d4])), (ht, .inr (5, [e0, e1, e2, e3, e4])), (hm, .inr (5, [f0, f1, f2, f3, f4]))] sz) (va_A [(hn, .inr (3, [a0, a1, a2, a3, .ref hp, .ref hs, .ref ht, .ref hm])), (hp, .inr (2, [b0, b1])), (hs, .inr (5, [d0, d1, d2, d3, d4])), (ht, .inr (5, [e0, e1, e2, e3, e4])), (hm, .inr (5, [f0, f1, f2, f3, f4]))] sz) s [(hn, .inr (3, [.int x, .int 0, .int 0, a3, .ref hp, .ref hs, .ref ht, .ref hm])), (hp, .inr (2, [b0, b1])), (hs, .inr (5, [d0, d1, d2, d3, d4])), (ht, .inr (5, [e0, e1, e2, e3, e4])), (hm, .inr (5, [f0, f1, f2, f3, f4]))] H locs := G
  refine lv_aload_n zx zb dX5_restart_15 rfl (lv_at hl 0 rfl) ?_
  refine r_get (C := RX5) (T := TX5) (N := 8) (ci := 3) (v := .ref hp) S in_X5_restart_X5 G 0 rfl rfl 4 (by decide) lk_X5_restart_30 rfl dX5_restart_16 ?_
  refine lv_iconst (v := 0) zx zb dX5_restart_19 (by decide) ?_
  refine r_put (C := RX4) (T := TX4) (N := 2) (ci := 2) (v := .int 0) S in_X5_restart_X4 tyX4_ok nmX4 G 1 rfl rfl 1 (by decide) lk_X5_restart_50 rfl (vp_nar_int _) rfl (Nat.le_of_ble_eq_true rfl) dX5_restart_20 (fun H locs G => ?_)
  have G : wd X (va_A [(hn, .inr (3, [a0, a1, a2, a3, .ref hp, .ref hs, .ref ht, .ref hm])), (hp, .inr (2, [b0, b1])), (hs, .inr (5, [d0, d1, d2, d3, d4])), (ht, .inr (5, [e0, e1, e2, e3, e4])), (hm, .inr (5, [f0, f1, f2, f3, f4]))] sz) (va_A [(hn, .inr (3, [a0, a1, a2, a3, .ref hp, .ref hs, .ref ht, .ref hm])), (hp, .inr (2, [b0, b1])), (hs, .inr (5, [d0, d1, d2, d3, d4])), (ht, .inr (5, [e0, e1, e2, e3, e4])), (hm, .inr (5, [f0, f1, f2, f3, f4]))] sz) s [(hn, .inr (3, [.int x, .int 0, .int 0, a3, .ref hp, .ref hs, .ref ht, .ref hm])), (hp, .inr (2, [b0, .int 0])), (hs, .inr (5, [d0, d1, d2, d3, d4])), (ht, .inr (5, [e0, e1, e2, e3, e4])), (hm, .inr (5, [f0, f1, f2, f3, f4]))] H locs := G
  refine lv_aload_n zx zb dX5_restart_23 rfl (lv_at hl 0 rfl) ?_
  refine r_get (C := RX5) (T := TX5) (N := 8) (ci := 3) (v := .ref hs) S in_X5_restart_X5 G 0 rfl rfl 5 (by decide) lk_X5_restart_39 rfl dX5_restart_24 ?_
  refine lv_iconst (v := 0) zx zb dX5_restart_27 (by decide) ?_
  refine r_put (C := RX7) (T := TX7) (N := 5) (ci := 5) (v := .int 0) S in_X5_restart_X7 tyX7_ok nmX7 G 2 rfl rfl 4 (by decide) lk_X5_restart_53 rfl (vp_nar_int _) rfl (Nat.le_of_ble_eq_true rfl) dX5_restart_28 (fun H locs G => ?_)
  have G : wd X (va_A [(hn, .inr (3, [a0, a1, a2, a3, .ref hp, .ref hs, .ref ht, .ref hm])), (hp, .inr (2, [b0, b1])), (hs, .inr (5, [d0, d1, d2, d3, d4])), (ht, .inr (5, [e0, e1, e2, e3, e4])), (hm, .inr (5, [f0, f1, f2, f3, f4]))] sz) (va_A [(hn, .inr (3, [a0, a1, a2, a3, .ref hp, .ref hs, .ref ht, .ref hm])), (hp, .inr (2, [b0, b1])), (hs, .inr (5, [d0, d1, d2, d3, d4])), (ht, .inr (5, [e0, e1, e2, e3, e4])), (hm, .inr (5, [f0, f1, f2, f3, f4]))] sz) s [(hn, .inr (3, [.int x, .int 0, .int 0, a3, .ref hp, .ref hs, .ref ht, .ref hm])), (hp, .inr (2, [b0, .int 0])), (hs, .inr (5, [d0, d1, d2, d3, .int 0])), (ht, .inr (5, [e0, e1, e2, e3, e4])), (hm, .inr (5, [f0, f1, f2, f3, f4]))] H locs := G
  refine lv_aload_n zx zb dX5_restart_31 rfl (lv_at hl 0 rfl) ?_
  refine r_get (C := RX5) (T := TX5) (N := 8) (ci := 3) (v := .ref ht) S in_X5_restart_X5 G 0 rfl rfl 6 (by decide) lk_X5_restart_43 rfl dX5_restart_32 ?_
  refine lv_iconst (v := 0) zx zb dX5_restart_35 (by decide) ?_
  refine r_put (C := RX7) (T := TX7) (N := 5) (ci := 5) (v := .int 0) S in_X5_restart_X7 tyX7_ok nmX7 G 3 rfl rfl 4 (by decide) lk_X5_restart_53 rfl (vp_nar_int _) rfl (Nat.le_of_ble_eq_true rfl) dX5_restart_36 (fun H locs G => ?_)
  have G : wd X (va_A [(hn, .inr (3, [a0, a1, a2, a3, .ref hp, .ref hs, .ref ht, .ref hm])), (hp, .inr (2, [b0, b1])), (hs, .inr (5, [d0, d1, d2, d3, d4])), (ht, .inr (5, [e0, e1, e2, e3, e4])), (hm, .inr (5, [f0, f1, f2, f3, f4]))] sz) (va_A [(hn, .inr (3, [a0, a1, a2, a3, .ref hp, .ref hs, .ref ht, .ref hm])), (hp, .inr (2, [b0, b1])), (hs, .inr (5, [d0, d1, d2, d3, d4])), (ht, .inr (5, [e0, e1, e2, e3, e4])), (hm, .inr (5, [f0, f1, f2, f3, f4]))] sz) s [(hn, .inr (3, [.int x, .int 0, .int 0, a3, .ref hp, .ref hs, .ref ht, .ref hm])), (hp, .inr (2, [b0, .int 0])), (hs, .inr (5, [d0, d1, d2, d3, .int 0])), (ht, .inr (5, [e0, e1, e2, e3, .int 0])), (hm, .inr (5, [f0, f1, f2, f3, f4]))] H locs := G
  refine lv_aload_n zx zb dX5_restart_39 rfl (lv_at hl 0 rfl) ?_
  refine r_get (C := RX5) (T := TX5) (N := 8) (ci := 3) (v := .ref hm) S in_X5_restart_X5 G 0 rfl rfl 7 (by decide) lk_X5_restart_46 rfl dX5_restart_40 ?_
  refine lv_iconst (v := 0) zx zb dX5_restart_43 (by decide) ?_
  refine r_put (C := RX7) (T := TX7) (N := 5) (ci := 5) (v := .int 0) S in_X5_restart_X7 tyX7_ok nmX7 G 4 rfl rfl 4 (by decide) lk_X5_restart_53 rfl (vp_nar_int _) rfl (Nat.le_of_ble_eq_true rfl) dX5_restart_44 (fun H locs G => ?_)
  have G : wd X (va_A [(hn, .inr (3, [a0, a1, a2, a3, .ref hp, .ref hs, .ref ht, .ref hm])), (hp, .inr (2, [b0, b1])), (hs, .inr (5, [d0, d1, d2, d3, d4])), (ht, .inr (5, [e0, e1, e2, e3, e4])), (hm, .inr (5, [f0, f1, f2, f3, f4]))] sz) (va_A [(hn, .inr (3, [a0, a1, a2, a3, .ref hp, .ref hs, .ref ht, .ref hm])), (hp, .inr (2, [b0, b1])), (hs, .inr (5, [d0, d1, d2, d3, d4])), (ht, .inr (5, [e0, e1, e2, e3, e4])), (hm, .inr (5, [f0, f1, f2, f3, f4]))] sz) s [(hn, .inr (3, [.int x, .int 0, .int 0, a3, .ref hp, .ref hs, .ref ht, .ref hm])), (hp, .inr (2, [b0, .int 0])), (hs, .inr (5, [d0, d1, d2, d3, .int 0])), (ht, .inr (5, [e0, e1, e2, e3, .int 0])), (hm, .inr (5, [f0, f1, f2, f3, .int 0]))] H locs := G
  exact e_void S zr zlk G () [] rfl (by decide) (Or.inl rfl) (trivial) dX5_restart_47
theorem hdS_X10_within : yX10_within.cls ≠ "java/lang/invoke/MethodHandle" ∧ yX10_within.cls ≠ "java/lang/invoke/VarHandle" ∧ (parseMethodDescriptor yX10_within.desc).map (fun d => d.parameters.length) = some 3 := by decide +kernel
theorem in_X10_race_X10 : ∀ w ∈ wsX100, w ∈ wsX10_race := by decide +kernel
theorem lk_X10_race_10 : Cond.fieldLink RX10 10 "EggSpoons" "now" "LEggSpoons$Race;" ∈ wsX10_race := by decide +kernel
theorem in_X10_race_X5 : ∀ w ∈ wsX50, w ∈ wsX10_race := by decide +kernel
theorem lk_X10_race_87 : Cond.fieldLink RX10 87 "EggSpoons$Race" "runners" "I" ∈ wsX10_race := by decide +kernel
theorem hdV_X5_restart : yX5_restart.cls = RX5 ∧ yX5_restart.cls ≠ "java/lang/invoke/MethodHandle" ∧ yX5_restart.cls ≠ "java/lang/invoke/VarHandle" ∧ (parseMethodDescriptor yX5_restart.desc).map (fun d => d.parameters.length) = some 1 := by decide +kernel
set_option maxHeartbeats 4000000 in
set_option maxRecDepth 100000 in
/-- race -/
theorem c_race (l : Launch) (X : EX) (h0 : Nat) (fs : List Value) (hn : Nat) (a0 : Value) (a1 : Value) (a3 : Value) (hp : Nat) (hs : Nat) (ht : Nat) (hm : Nat) (b0 : Value) (b1 : Value) (d0 : Value) (d1 : Value) (d2 : Value) (d3 : Value) (d4 : Value) (e0 : Value) (e1 : Value) (e2 : Value) (e3 : Value) (e4 : Value) (f0 : Value) (f1 : Value) (f2 : Value) (f3 : Value) (f4 : Value) (hr : Nat) (fr : Nat → Int32) (x1 : Int32) (hf0 : fs[0]? = some (.ref hn)) (hf5 : fs[5]? = some (.ref hr)) (sz : Nat) : Met l yX10_race wsX10_race ({ frames := 1, cells := 0, slots := 0, locals := 22 } : Room) (pE X [.ref h0, .int x1] [(h0, .inr (8, fs)), (hn, .inr (3, [a0, a1, .int 0, a3, .ref hp, .ref hs, .ref ht, .ref hm])), (hp, .inr (2, [b0, b1])), (hs, .inr (5, [d0, d1, d2, d3, d4])), (ht, .inr (5, [e0, e1, e2, e3, e4])), (hm, .inr (5, [f0, f1, f2, f3, f4])), (hr, .inl (X.2.1, 3, .inl fr))] sz) (qI (fun (r : Int32) (u : Unit) => r = if (10 : Int32) ≤ x1 ∧ x1 ≤ 60 then 0 else -2) X (fun (u : Unit) => []) [(h0, .inr (8, fs)), (hn, .inr (3, [a0, a1, .int 0, a3, .ref hp, .ref hs, .ref ht, .ref hm])), (hp, .inr (2, [b0, b1])), (hs, .inr (5, [d0, d1, d2, d3, d4])), (ht, .inr (5, [e0, e1, e2, e3, e4])), (hm, .inr (5, [f0, f1, f2, f3, f4])), (hr, .inl (X.2.1, 3, .inl fr))] sz) 0 0 (va_A [(h0, .inr (8, fs)), (hn, .inr (3, [a0, a1, .int 0, a3, .ref hp, .ref hs, .ref ht, .ref hm])), (hp, .inr (2, [b0, b1])), (hs, .inr (5, [d0, d1, d2, d3, d4])), (ht, .inr (5, [e0, e1, e2, e3, e4])), (hm, .inr (5, [f0, f1, f2, f3, f4])), (hr, .inl (X.2.1, 3, .inl fr))] sz) := by
  refine mk_met (B := (va_A [(h0, .inr (8, fs)), (hn, .inr (3, [a0, a1, .int 0, a3, .ref hp, .ref hs, .ref ht, .ref hm])), (hp, .inr (2, [b0, b1])), (hs, .inr (5, [d0, d1, d2, d3, d4])), (ht, .inr (5, [e0, e1, e2, e3, e4])), (hm, .inr (5, [f0, f1, f2, f3, f4])), (hr, .inl (X.2.1, 3, .inl fr))] sz)) (A := (va_A [(h0, .inr (8, fs)), (hn, .inr (3, [a0, a1, .int 0, a3, .ref hp, .ref hs, .ref ht, .ref hm])), (hp, .inr (2, [b0, b1])), (hs, .inr (5, [d0, d1, d2, d3, d4])), (ht, .inr (5, [e0, e1, e2, e3, e4])), (hm, .inr (5, [f0, f1, f2, f3, f4])), (hr, .inl (X.2.1, 3, .inl fr))] sz)) (cc := cX10_race) (maxL := 3) (ret := (some .int)) (by decide) rfl (Nat.le_of_ble_eq_true rfl) k_w k_a (fun p e s m below meth c S zr zlk znm zsz G ls hl => ?_)
  have S : CallFix p m c cX10_race 3 s _ wsX10_race RX10 := S
  have zx := S.1
  have zb := S.2.1
  have hl : lv_has ls 3 [(0, .ref h0), (1, .int x1)] := hl
  refine lv_iload_n zx zb dX10_race_0 rfl (lv_at hl 1 rfl) ?_
  refine lv_bipush (v := 10) zx zb dX10_race_1 (by decide) ?_
  refine lv_bipush (v := 60) zx zb dX10_race_3 (by decide) ?_
  refine o_ri (cells' := 0) (slots' := 0) G rfl rfl (n_S (As := [.int x1, .int 10, .int 60]) (rest := []) S G (c_within l X x1 10 60 s.heap.size) gX10_race_X10_within rfl rfl rfl hdS_X10_within ⟨Nat.le_of_ble_eq_true rfl, Nat.le_of_ble_eq_true rfl⟩ [] rfl (by decide) rfl hl.1 (Nat.le_of_ble_eq_true rfl) dX10_race_5 ⟨Nat.le_of_ble_eq_true rfl, Nat.le_of_ble_eq_true rfl⟩) (fun r_1 u_1 H locs hp_1 G => ?_)
  have G : wd X (va_A [(h0, .inr (8, fs)), (hn, .inr (3, [a0, a1, .int 0, a3, .ref hp, .ref hs, .ref ht, .ref hm])), (hp, .inr (2, [b0, b1])), (hs, .inr (5, [d0, d1, d2, d3, d4])), (ht, .inr (5, [e0, e1, e2, e3, e4])), (hm, .inr (5, [f0, f1, f2, f3, f4])), (hr, .inl (X.2.1, 3, .inl fr))] sz) (va_A [(h0, .inr (8, fs)), (hn, .inr (3, [a0, a1, .int 0, a3, .ref hp, .ref hs, .ref ht, .ref hm])), (hp, .inr (2, [b0, b1])), (hs, .inr (5, [d0, d1, d2, d3, d4])), (ht, .inr (5, [e0, e1, e2, e3, e4])), (hm, .inr (5, [f0, f1, f2, f3, f4])), (hr, .inl (X.2.1, 3, .inl fr))] sz) s [(h0, .inr (8, fs)), (hn, .inr (3, [a0, a1, .int 0, a3, .ref hp, .ref hs, .ref ht, .ref hm])), (hp, .inr (2, [b0, b1])), (hs, .inr (5, [d0, d1, d2, d3, d4])), (ht, .inr (5, [e0, e1, e2, e3, e4])), (hm, .inr (5, [f0, f1, f2, f3, f4])), (hr, .inl (X.2.1, 3, .inl fr))] H locs := G
  rcases hp_1 with ⟨rfl, hw_1⟩ | ⟨rfl, hw_1⟩
  · refine lv_if_ne (tgt := 18) zx zb dX10_race_8 (by decide) (fun c_2 => ?_) (fun c_2 => absurd c_2 (by decide))
    refine lv_aload_n zx zb dX10_race_18 rfl (lv_at hl 0 rfl) ?_
    refine r_get (C := RX10) (T := TX10) (N := 14) (ci := 8) (v := .ref hn) S in_X10_race_X10 G 0 rfl rfl 0 (by decide) lk_X10_race_10 hf0 dX10_race_19 ?_
    refine r_get (C := RX5) (T := TX5) (N := 8) (ci := 3) (v := .int 0) S in_X10_race_X5 G 1 rfl rfl 2 (by decide) lk_X10_race_87 rfl dX10_race_22 ?_
    refine lv_istore_n (lv' := [(2, .int 0), (0, .ref h0), (1, .int x1)]) zx zb dX10_race_25 rfl hl (by decide) rfl (fun ls hl => ?_)
    refine lv_aload_n zx zb dX10_race_26 rfl (lv_at hl 1 rfl) ?_
    refine r_get (C := RX10) (T := TX10) (N := 14) (ci := 8) (v := .ref hn) S in_X10_race_X10 G 0 rfl rfl 0 (by decide) lk_X10_race_10 hf0 dX10_race_27 ?_
    refine lv_iload_n zx zb dX10_race_30 rfl (lv_at hl 2 rfl) ?_
    refine o_wv (cells' := 0) (slots' := 0) (wr := [(h0, .inr (8, fs)), (hr, .inl (X.2.1, 3, .inl fr))]) G rfl rfl [1, 2, 3, 4, 5] [0, 6] rfl rfl (by decide) (by decide) (n_V (As := [.int x1]) (rest := []) (C := RX5) (T := TX5) (N := 8) (ci := 3) S G (c_restart l X hn a0 a1 (.int 0) a3 hp hs ht hm b0 b1 d0 d1 d2 d3 d4 e0 e1 e2 e3 e4 f0 f1 f2 f3 f4 x1 H.size) gX10_race_X5_restart rfl rfl rfl hdV_X5_restart ⟨Nat.le_of_ble_eq_true rfl, Nat.le_of_ble_eq_true rfl⟩ [1, 2, 3, 4, 5] rfl (by decide) 1 rfl rfl rfl hl.1 (Nat.le_of_ble_eq_true rfl) dX10_race_31 ⟨Nat.le_of_ble_eq_true rfl, Nat.le_of_ble_eq_true rfl⟩) (fun u_3 H locs hp_3 G => ?_)
    have G : wd X (va_A [(h0, .inr (8, fs)), (hn, .inr (3, [a0, a1, .int 0, a3, .ref hp, .ref hs, .ref ht, .ref hm])), (hp, .inr (2, [b0, b1])), (hs, .inr (5, [d0, d1, d2, d3, d4])), (ht, .inr (5, [e0, e1, e2, e3, e4])), (hm, .inr (5, [f0, f1, f2, f3, f4])), (hr, .inl (X.2.1, 3, .inl fr))] sz) (va_A [(h0, .inr (8, fs)), (hn, .inr (3, [a0, a1, .int 0, a3, .ref hp, .ref hs, .ref ht, .ref hm])), (hp, .inr (2, [b0, b1])), (hs, .inr (5, [d0, d1, d2, d3, d4])), (ht, .inr (5, [e0, e1, e2, e3, e4])), (hm, .inr (5, [f0, f1, f2, f3, f4])), (hr, .inl (X.2.1, 3, .inl fr))] sz) s [(h0, .inr (8, fs)), (hr, .inl (X.2.1, 3, .inl fr))] H locs := G
    refine lv_iload_n zx zb dX10_race_34 rfl (lv_at hl 0 rfl) ?_
    exact e_int S zr zlk (vp_nar_int _) G () [] rfl (by decide) (Or.inl rfl) (by first | exact (if_pos hw_1).symm | exact (if_neg (fun h => hw_1 h)).symm) dX10_race_35
  · refine lv_if_ne (tgt := 18) zx zb dX10_race_8 (by decide) (fun c_4 => absurd (by decide) c_4) (fun c_4 => ?_)
    refine lv_aload_n zx zb dX10_race_11 rfl (lv_at hl 0 rfl) ?_
    refine lv_bipush (v := (-2)) zx zb dX10_race_12 (by decide) ?_
    refine o_wi (cells' := 0) (slots' := 0) (wr := [(hn, .inr (3, [a0, a1, .int 0, a3, .ref hp, .ref hs, .ref ht, .ref hm])), (hp, .inr (2, [b0, b1])), (hs, .inr (5, [d0, d1, d2, d3, d4])), (ht, .inr (5, [e0, e1, e2, e3, e4])), (hm, .inr (5, [f0, f1, f2, f3, f4]))]) G rfl rfl [0, 6] [1, 2, 3, 4, 5] rfl rfl (by decide) (by decide) (n_V (As := [.int (-2)]) (rest := []) (C := RX10) (T := TX10) (N := 14) (ci := 8) S G (c_refuse l X h0 fs hr fr (-2) hf5 H.size) gX10_race_X10_refuse rfl rfl rfl hdV_X10_refuse ⟨Nat.le_of_ble_eq_true rfl, Nat.le_of_ble_eq_true rfl⟩ [0, 6] rfl (by decide) 0 rfl rfl rfl hl.1 (Nat.le_of_ble_eq_true rfl) dX10_race_14 ⟨Nat.le_of_ble_eq_true rfl, Nat.le_of_ble_eq_true rfl⟩) (fun r_5 u_5 H locs hp_5 G => ?_)
    have G : wd X (va_A [(h0, .inr (8, fs)), (hn, .inr (3, [a0, a1, .int 0, a3, .ref hp, .ref hs, .ref ht, .ref hm])), (hp, .inr (2, [b0, b1])), (hs, .inr (5, [d0, d1, d2, d3, d4])), (ht, .inr (5, [e0, e1, e2, e3, e4])), (hm, .inr (5, [f0, f1, f2, f3, f4])), (hr, .inl (X.2.1, 3, .inl fr))] sz) (va_A [(h0, .inr (8, fs)), (hn, .inr (3, [a0, a1, .int 0, a3, .ref hp, .ref hs, .ref ht, .ref hm])), (hp, .inr (2, [b0, b1])), (hs, .inr (5, [d0, d1, d2, d3, d4])), (ht, .inr (5, [e0, e1, e2, e3, e4])), (hm, .inr (5, [f0, f1, f2, f3, f4])), (hr, .inl (X.2.1, 3, .inl fr))] sz) s [(hn, .inr (3, [a0, a1, .int 0, a3, .ref hp, .ref hs, .ref ht, .ref hm])), (hp, .inr (2, [b0, b1])), (hs, .inr (5, [d0, d1, d2, d3, d4])), (ht, .inr (5, [e0, e1, e2, e3, e4])), (hm, .inr (5, [f0, f1, f2, f3, f4]))] H locs := G
    subst hp_5
    exact e_int S zr zlk (vp_nar_int _) G () [] rfl (by decide) (Or.inl rfl) (by first | exact (if_pos hw_1).symm | exact (if_neg (fun h => hw_1 h)).symm) dX10_race_17
theorem in_X8_begin_X8 : ∀ w ∈ wsX80, w ∈ wsX8_begin := by decide +kernel
theorem lk_X8_begin_9 : Cond.fieldLink RX8 9 "EggSpoons$Runner" "kind" "I" ∈ wsX8_begin := by decide +kernel
theorem lk_X8_begin_15 : Cond.fieldLink RX8 15 "EggSpoons$Runner" "legs" "I" ∈ wsX8_begin := by decide +kernel
theorem lk_X8_begin_18 : Cond.fieldLink RX8 18 "EggSpoons$Runner" "egg" "I" ∈ wsX8_begin := by decide +kernel
theorem lk_X8_begin_21 : Cond.fieldLink RX8 21 "EggSpoons$Runner" "speed" "I" ∈ wsX8_begin := by decide +kernel
theorem lk_X8_begin_24 : Cond.fieldLink RX8 24 "EggSpoons$Runner" "place" "I" ∈ wsX8_begin := by decide +kernel
theorem lk_X8_begin_27 : Cond.fieldLink RX8 27 "EggSpoons$Runner" "drops" "I" ∈ wsX8_begin := by decide +kernel
theorem lk_X8_begin_30 : Cond.fieldLink RX8 30 "EggSpoons$Runner" "waits" "I" ∈ wsX8_begin := by decide +kernel
theorem lk_X8_begin_33 : Cond.fieldLink RX8 33 "EggSpoons$Runner" "homeAt" "I" ∈ wsX8_begin := by decide +kernel
set_option maxHeartbeats 4000000 in
set_option maxRecDepth 100000 in
/-- begin -/
theorem c_begin (l : Launch) (X : EX) (h0 : Nat) (a0 : Value) (a1 : Value) (a2 : Value) (a3 : Value) (a4 : Value) (a5 : Value) (a6 : Value) (a7 : Value) (x1 : Int32) (x2 : Int32) (x3 : Int32) (sz : Nat) : Met l yX8_begin wsX8_begin ({ frames := 0, cells := 0, slots := 0, locals := 0 } : Room) (pE X [.ref h0, .int x1, .int x2, .int x3] [(h0, .inr (6, [a0, a1, a2, a3, a4, a5, a6, a7]))] sz) (qV (fun (u : Unit) => True) X (fun (u : Unit) => []) [(h0, .inr (6, [a0, a1, a2, a3, a4, a5, a6, a7]))] sz) 0 0 (va_A [(h0, .inr (6, [a0, a1, a2, a3, a4, a5, a6, a7]))] sz) := by
  refine mk_met (B := (va_A [(h0, .inr (6, [a0, a1, a2, a3, a4, a5, a6, a7]))] sz)) (A := (va_A [(h0, .inr (6, [a0, a1, a2, a3, a4, a5, a6, a7]))] sz)) (cc := cX8_begin) (maxL := 4) (ret := none) (by decide) rfl (Nat.le_of_ble_eq_true rfl) k_w k_a (fun p e s m below meth c S zr zlk znm zsz G ls hl => ?_)
  have S : CallFix p m c cX8_begin 4 s _ wsX8_begin RX8 := S
  have zx := S.1
  have zb := S.2.1
  have hl : lv_has ls 4 [(0, .ref h0), (1, .int x1), (2, .int x2), (3, .int x3)] := hl
  refine lv_aload_n zx zb dX8_begin_0 rfl (lv_at hl 0 rfl) ?_
  refine lv_iload_n zx zb dX8_begin_1 rfl (lv_at hl 1 rfl) ?_
  refine r_put (C := RX8) (T := TX8) (N := 8) (ci := 6) (v := .int x1) S in_X8_begin_X8 tyX8_ok nmX8 G 0 rfl rfl 0 (by decide) lk_X8_begin_9 rfl (vp_nar_int _) rfl (Nat.le_of_ble_eq_true rfl) dX8_begin_2 (fun H locs G => ?_)
  have G : wd X (va_A [(h0, .inr (6, [a0, a1, a2, a3, a4, a5, a6, a7]))] sz) (va_A [(h0, .inr (6, [a0, a1, a2, a3, a4, a5, a6, a7]))] sz) s [(h0, .inr (6, [.int x1, a1, a2, a3, a4, a5, a6, a7]))] H locs := G
  refine lv_aload_n zx zb dX8_begin_5 rfl (lv_at hl 0 rfl) ?_
  refine lv_iload_n zx zb dX8_begin_6 rfl (lv_at hl 2 rfl) ?_
  refine r_put (C := RX8) (T := TX8) (N := 8) (ci := 6) (v := .int x2) S in_X8_begin_X8 tyX8_ok nmX8 G 0 rfl rfl 1 (by decide) lk_X8_begin_15 rfl (vp_nar_int _) rfl (Nat.le_of_ble_eq_true rfl) dX8_begin_7 (fun H locs G => ?_)
  have G : wd X (va_A [(h0, .inr (6, [a0, a1, a2, a3, a4, a5, a6, a7]))] sz) (va_A [(h0, .inr (6, [a0, a1, a2, a3, a4, a5, a6, a7]))] sz) s [(h0, .inr (6, [.int x1, .int x2, a2, a3, a4, a5, a6, a7]))] H locs := G
  refine lv_aload_n zx zb dX8_begin_10 rfl (lv_at hl 0 rfl) ?_
  refine lv_iload_n zx zb dX8_begin_11 rfl (lv_at hl 3 rfl) ?_
  refine r_put (C := RX8) (T := TX8) (N := 8) (ci := 6) (v := .int x3) S in_X8_begin_X8 tyX8_ok nmX8 G 0 rfl rfl 2 (by decide) lk_X8_begin_18 rfl (vp_nar_int _) rfl (Nat.le_of_ble_eq_true rfl) dX8_begin_12 (fun H locs G => ?_)
  have G : wd X (va_A [(h0, .inr (6, [a0, a1, a2, a3, a4, a5, a6, a7]))] sz) (va_A [(h0, .inr (6, [a0, a1, a2, a3, a4, a5, a6, a7]))] sz) s [(h0, .inr (6, [.int x1, .int x2, .int x3, a3, a4, a5, a6, a7]))] H locs := G
  refine lv_aload_n zx zb dX8_begin_15 rfl (lv_at hl 0 rfl) ?_
  refine lv_iconst (v := 4) zx zb dX8_begin_16 (by decide) ?_
  refine r_put (C := RX8) (T := TX8) (N := 8) (ci := 6) (v := .int 4) S in_X8_begin_X8 tyX8_ok nmX8 G 0 rfl rfl 3 (by decide) lk_X8_begin_21 rfl (vp_nar_int _) rfl (Nat.le_of_ble_eq_true rfl) dX8_begin_17 (fun H locs G => ?_)
  have G : wd X (va_A [(h0, .inr (6, [a0, a1, a2, a3, a4, a5, a6, a7]))] sz) (va_A [(h0, .inr (6, [a0, a1, a2, a3, a4, a5, a6, a7]))] sz) s [(h0, .inr (6, [.int x1, .int x2, .int x3, .int 4, a4, a5, a6, a7]))] H locs := G
  refine lv_aload_n zx zb dX8_begin_20 rfl (lv_at hl 0 rfl) ?_
  refine lv_iconst (v := 0) zx zb dX8_begin_21 (by decide) ?_
  refine r_put (C := RX8) (T := TX8) (N := 8) (ci := 6) (v := .int 0) S in_X8_begin_X8 tyX8_ok nmX8 G 0 rfl rfl 4 (by decide) lk_X8_begin_24 rfl (vp_nar_int _) rfl (Nat.le_of_ble_eq_true rfl) dX8_begin_22 (fun H locs G => ?_)
  have G : wd X (va_A [(h0, .inr (6, [a0, a1, a2, a3, a4, a5, a6, a7]))] sz) (va_A [(h0, .inr (6, [a0, a1, a2, a3, a4, a5, a6, a7]))] sz) s [(h0, .inr (6, [.int x1, .int x2, .int x3, .int 4, .int 0, a5, a6, a7]))] H locs := G
  refine lv_aload_n zx zb dX8_begin_25 rfl (lv_at hl 0 rfl) ?_
  refine lv_iconst (v := 0) zx zb dX8_begin_26 (by decide) ?_
  refine r_put (C := RX8) (T := TX8) (N := 8) (ci := 6) (v := .int 0) S in_X8_begin_X8 tyX8_ok nmX8 G 0 rfl rfl 5 (by decide) lk_X8_begin_27 rfl (vp_nar_int _) rfl (Nat.le_of_ble_eq_true rfl) dX8_begin_27 (fun H locs G => ?_)
  have G : wd X (va_A [(h0, .inr (6, [a0, a1, a2, a3, a4, a5, a6, a7]))] sz) (va_A [(h0, .inr (6, [a0, a1, a2, a3, a4, a5, a6, a7]))] sz) s [(h0, .inr (6, [.int x1, .int x2, .int x3, .int 4, .int 0, .int 0, a6, a7]))] H locs := G
  refine lv_aload_n zx zb dX8_begin_30 rfl (lv_at hl 0 rfl) ?_
  refine lv_iconst (v := 0) zx zb dX8_begin_31 (by decide) ?_
  refine r_put (C := RX8) (T := TX8) (N := 8) (ci := 6) (v := .int 0) S in_X8_begin_X8 tyX8_ok nmX8 G 0 rfl rfl 6 (by decide) lk_X8_begin_30 rfl (vp_nar_int _) rfl (Nat.le_of_ble_eq_true rfl) dX8_begin_32 (fun H locs G => ?_)
  have G : wd X (va_A [(h0, .inr (6, [a0, a1, a2, a3, a4, a5, a6, a7]))] sz) (va_A [(h0, .inr (6, [a0, a1, a2, a3, a4, a5, a6, a7]))] sz) s [(h0, .inr (6, [.int x1, .int x2, .int x3, .int 4, .int 0, .int 0, .int 0, a7]))] H locs := G
  refine lv_aload_n zx zb dX8_begin_35 rfl (lv_at hl 0 rfl) ?_
  refine lv_iconst (v := (-1)) zx zb dX8_begin_36 (by decide) ?_
  refine r_put (C := RX8) (T := TX8) (N := 8) (ci := 6) (v := .int (-1)) S in_X8_begin_X8 tyX8_ok nmX8 G 0 rfl rfl 7 (by decide) lk_X8_begin_33 rfl (vp_nar_int _) rfl (Nat.le_of_ble_eq_true rfl) dX8_begin_37 (fun H locs G => ?_)
  have G : wd X (va_A [(h0, .inr (6, [a0, a1, a2, a3, a4, a5, a6, a7]))] sz) (va_A [(h0, .inr (6, [a0, a1, a2, a3, a4, a5, a6, a7]))] sz) s [(h0, .inr (6, [.int x1, .int x2, .int x3, .int 4, .int 0, .int 0, .int 0, .int (-1)]))] H locs := G
  exact e_void S zr zlk G () [] rfl (by decide) (Or.inl rfl) (trivial) dX8_begin_40
theorem in_X5_welcome_X5 : ∀ w ∈ wsX50, w ∈ wsX5_welcome := by decide +kernel
theorem lk_X5_welcome_18 : Cond.fieldLink RX5 18 "EggSpoons$Race" "runners" "I" ∈ wsX5_welcome := by decide +kernel
theorem lk_X5_welcome_23 : Cond.fieldLink RX5 23 "EggSpoons$Race" "row" "[LEggSpoons$Runner;" ∈ wsX5_welcome := by decide +kernel
theorem hdV_X8_begin : yX8_begin.cls = RX8 ∧ yX8_begin.cls ≠ "java/lang/invoke/MethodHandle" ∧ yX8_begin.cls ≠ "java/lang/invoke/VarHandle" ∧ (parseMethodDescriptor yX8_begin.desc).map (fun d => d.parameters.length) = some 3 := by decide +kernel
theorem lk_X5_welcome_30 : Cond.fieldLink RX5 30 "EggSpoons$Race" "past" "LEggSpoons$Past;" ∈ wsX5_welcome := by decide +kernel
theorem in_X5_welcome_X4 : ∀ w ∈ wsX40, w ∈ wsX5_welcome := by decide +kernel
theorem lk_X5_welcome_50 : Cond.fieldLink RX5 50 "EggSpoons$Past" "size" "I" ∈ wsX5_welcome := by decide +kernel
set_option maxHeartbeats 4000000 in
set_option maxRecDepth 100000 in
/-- welcome: the first runner -/
theorem c_welcome (l : Launch) (X : EX) (hn : Nat) (a0 : Value) (a1 : Value) (hw : Nat) (hp : Nat) (a5 : Value) (a6 : Value) (a7 : Value) (q : Nat → Option Nat) (r0 : Nat) (d0 : Value) (d1 : Value) (d2 : Value) (d3 : Value) (d4 : Value) (d5 : Value) (d6 : Value) (d7 : Value) (b0 : Value) (b1 : Value) (x1 : Int32) (x2 : Int32) (x3 : Int32) (hq0 : q 0 = some r0) (sz : Nat) : Met l yX5_welcome wsX5_welcome ({ frames := 1, cells := 0, slots := 0, locals := 23 } : Room) (pE X [.ref hn, .int x1, .int x2, .int x3] [(hn, .inr (3, [a0, a1, .int 0, .ref hw, .ref hp, a5, a6, a7])), (hw, .inl (X.2.2.2.2, 6, .inr (.inr (.inr (.inr q))))), (r0, .inr (6, [d0, d1, d2, d3, d4, d5, d6, d7])), (hp, .inr (2, [b0, b1]))] sz) (qV (fun (u : Unit) => True) X (fun (u : Unit) => [(hn, .inr (3, [a0, a1, .int 1, .ref hw, .ref hp, a5, a6, a7]))]) [(hn, .inr (3, [a0, a1, .int 0, .ref hw, .ref hp, a5, a6, a7])), (hw, .inl (X.2.2.2.2, 6, .inr (.inr (.inr (.inr q))))), (r0, .inr (6, [d0, d1, d2, d3, d4, d5, d6, d7])), (hp, .inr (2, [b0, b1]))] sz) 0 0 (va_A [(hn, .inr (3, [a0, a1, .int 0, .ref hw, .ref hp, a5, a6, a7])), (hw, .inl (X.2.2.2.2, 6, .inr (.inr (.inr (.inr q))))), (r0, .inr (6, [d0, d1, d2, d3, d4, d5, d6, d7])), (hp, .inr (2, [b0, b1]))] sz) := by
  refine mk_met (B := (va_A [(hn, .inr (3, [a0, a1, .int 0, .ref hw, .ref hp, a5, a6, a7])), (hw, .inl (X.2.2.2.2, 6, .inr (.inr (.inr (.inr q))))), (r0, .inr (6, [d0, d1, d2, d3, d4, d5, d6, d7])), (hp, .inr (2, [b0, b1]))] sz)) (A := (va_A [(hn, .inr (3, [a0, a1, .int 0, .ref hw, .ref hp, a5, a6, a7])), (hw, .inl (X.2.2.2.2, 6, .inr (.inr (.inr (.inr q))))), (r0, .inr (6, [d0, d1, d2, d3, d4, d5, d6, d7])), (hp, .inr (2, [b0, b1]))] sz)) (cc := cX5_welcome) (maxL := 4) (ret := none) (by decide) rfl (Nat.le_of_ble_eq_true rfl) k_w k_a (fun p e s m below meth c S zr zlk znm zsz G ls hl => ?_)
  have S : CallFix p m c cX5_welcome 4 s _ wsX5_welcome RX5 := S
  have zx := S.1
  have zb := S.2.1
  have hl : lv_has ls 4 [(0, .ref hn), (1, .int x1), (2, .int x2), (3, .int x3)] := hl
  refine lv_aload_n zx zb dX5_welcome_0 rfl (lv_at hl 0 rfl) ?_
  refine r_get (C := RX5) (T := TX5) (N := 8) (ci := 3) (v := .int 0) S in_X5_welcome_X5 G 0 rfl rfl 2 (by decide) lk_X5_welcome_18 rfl dX5_welcome_1 ?_
  refine lv_bipush (v := 6) zx zb dX5_welcome_4 (by decide) ?_
  refine lv_icmp_ge (tgt := 42) zx zb dX5_welcome_6 (by decide) (fun c_1 => absurd c_1 (by decide)) (fun c_1 => ?_)
  refine lv_aload_n zx zb dX5_welcome_9 rfl (lv_at hl 0 rfl) ?_
  refine r_get (C := RX5) (T := TX5) (N := 8) (ci := 3) (v := .ref hw) S in_X5_welcome_X5 G 0 rfl rfl 3 (by decide) lk_X5_welcome_23 rfl dX5_welcome_10 ?_
  refine lv_aload_n zx zb dX5_welcome_13 rfl (lv_at hl 0 rfl) ?_
  refine r_get (C := RX5) (T := TX5) (N := 8) (ci := 3) (v := .int 0) S in_X5_welcome_X5 G 0 rfl rfl 2 (by decide) lk_X5_welcome_18 rfl dX5_welcome_14 ?_
  refine r_aald (C := RX8) (b := r0) S G 1 3 rfl rfl (k_vp (by decide)) hq0 dX5_welcome_17 ?_
  refine lv_iload_n zx zb dX5_welcome_18 rfl (lv_at hl 1 rfl) ?_
  refine lv_iload_n zx zb dX5_welcome_19 rfl (lv_at hl 2 rfl) ?_
  refine lv_iload_n zx zb dX5_welcome_20 rfl (lv_at hl 3 rfl) ?_
  refine o_wv (cells' := 0) (slots' := 0) (wr := [(hn, .inr (3, [a0, a1, .int 0, .ref hw, .ref hp, a5, a6, a7])), (hw, .inl (X.2.2.2.2, 6, .inr (.inr (.inr (.inr q))))), (hp, .inr (2, [b0, b1]))]) G rfl rfl [2] [0, 1, 3] rfl rfl (by decide) (by decide) (n_V (As := [.int x1, .int x2, .int x3]) (rest := []) (C := RX8) (T := TX8) (N := 8) (ci := 6) S G (c_begin l X r0 d0 d1 d2 d3 d4 d5 d6 d7 x1 x2 x3 s.heap.size) gX5_welcome_X8_begin rfl rfl rfl hdV_X8_begin ⟨Nat.le_of_ble_eq_true rfl, Nat.le_of_ble_eq_true rfl⟩ [2] rfl (by decide) 2 rfl rfl rfl hl.1 (Nat.le_of_ble_eq_true rfl) dX5_welcome_21 ⟨Nat.le_of_ble_eq_true rfl, Nat.le_of_ble_eq_true rfl⟩) (fun u_2 H locs hp_2 G => ?_)
  have G : wd X (va_A [(hn, .inr (3, [a0, a1, .int 0, .ref hw, .ref hp, a5, a6, a7])), (hw, .inl (X.2.2.2.2, 6, .inr (.inr (.inr (.inr q))))), (r0, .inr (6, [d0, d1, d2, d3, d4, d5, d6, d7])), (hp, .inr (2, [b0, b1]))] sz) (va_A [(hn, .inr (3, [a0, a1, .int 0, .ref hw, .ref hp, a5, a6, a7])), (hw, .inl (X.2.2.2.2, 6, .inr (.inr (.inr (.inr q))))), (r0, .inr (6, [d0, d1, d2, d3, d4, d5, d6, d7])), (hp, .inr (2, [b0, b1]))] sz) s [(hn, .inr (3, [a0, a1, .int 0, .ref hw, .ref hp, a5, a6, a7])), (hw, .inl (X.2.2.2.2, 6, .inr (.inr (.inr (.inr q))))), (hp, .inr (2, [b0, b1]))] H locs := G
  refine lv_aload_n zx zb dX5_welcome_24 rfl (lv_at hl 0 rfl) ?_
  refine lv_dup zx zb dX5_welcome_25 rfl ?_
  refine r_get (C := RX5) (T := TX5) (N := 8) (ci := 3) (v := .int 0) S in_X5_welcome_X5 G 0 rfl rfl 2 (by decide) lk_X5_welcome_18 rfl dX5_welcome_26 ?_
  refine lv_iconst (v := 1) zx zb dX5_welcome_29 (by decide) ?_
  refine r_iadd (v := 1) S (by decide) dX5_welcome_30 ?_
  refine r_put (C := RX5) (T := TX5) (N := 8) (ci := 3) (v := .int 1) S in_X5_welcome_X5 tyX5_ok nmX5 G 0 rfl rfl 2 (by decide) lk_X5_welcome_18 rfl (vp_nar_int _) rfl (Nat.le_of_ble_eq_true rfl) dX5_welcome_31 (fun H locs G => ?_)
  have G : wd X (va_A [(hn, .inr (3, [a0, a1, .int 0, .ref hw, .ref hp, a5, a6, a7])), (hw, .inl (X.2.2.2.2, 6, .inr (.inr (.inr (.inr q))))), (r0, .inr (6, [d0, d1, d2, d3, d4, d5, d6, d7])), (hp, .inr (2, [b0, b1]))] sz) (va_A [(hn, .inr (3, [a0, a1, .int 0, .ref hw, .ref hp, a5, a6, a7])), (hw, .inl (X.2.2.2.2, 6, .inr (.inr (.inr (.inr q))))), (r0, .inr (6, [d0, d1, d2, d3, d4, d5, d6, d7])), (hp, .inr (2, [b0, b1]))] sz) s [(hn, .inr (3, [a0, a1, .int 1, .ref hw, .ref hp, a5, a6, a7])), (hw, .inl (X.2.2.2.2, 6, .inr (.inr (.inr (.inr q))))), (hp, .inr (2, [b0, b1]))] H locs := G
  refine lv_aload_n zx zb dX5_welcome_34 rfl (lv_at hl 0 rfl) ?_
  refine r_get (C := RX5) (T := TX5) (N := 8) (ci := 3) (v := .ref hp) S in_X5_welcome_X5 G 0 rfl rfl 4 (by decide) lk_X5_welcome_30 rfl dX5_welcome_35 ?_
  refine lv_iconst (v := 0) zx zb dX5_welcome_38 (by decide) ?_
  refine r_put (C := RX4) (T := TX4) (N := 2) (ci := 2) (v := .int 0) S in_X5_welcome_X4 tyX4_ok nmX4 G 2 rfl rfl 1 (by decide) lk_X5_welcome_50 rfl (vp_nar_int _) rfl (Nat.le_of_ble_eq_true rfl) dX5_welcome_39 (fun H locs G => ?_)
  have G : wd X (va_A [(hn, .inr (3, [a0, a1, .int 0, .ref hw, .ref hp, a5, a6, a7])), (hw, .inl (X.2.2.2.2, 6, .inr (.inr (.inr (.inr q))))), (r0, .inr (6, [d0, d1, d2, d3, d4, d5, d6, d7])), (hp, .inr (2, [b0, b1]))] sz) (va_A [(hn, .inr (3, [a0, a1, .int 0, .ref hw, .ref hp, a5, a6, a7])), (hw, .inl (X.2.2.2.2, 6, .inr (.inr (.inr (.inr q))))), (r0, .inr (6, [d0, d1, d2, d3, d4, d5, d6, d7])), (hp, .inr (2, [b0, b1]))] sz) s [(hn, .inr (3, [a0, a1, .int 1, .ref hw, .ref hp, a5, a6, a7])), (hw, .inl (X.2.2.2.2, 6, .inr (.inr (.inr (.inr q))))), (hp, .inr (2, [b0, .int 0]))] H locs := G
  exact e_void S zr zlk G () [0] rfl (by decide) (Or.inr rfl) (trivial) dX5_welcome_42
theorem in_X10_one_X10 : ∀ w ∈ wsX100, w ∈ wsX10_one := by decide +kernel
theorem lk_X10_one_10 : Cond.fieldLink RX10 10 "EggSpoons" "now" "LEggSpoons$Race;" ∈ wsX10_one := by decide +kernel
theorem in_X10_one_X5 : ∀ w ∈ wsX50, w ∈ wsX10_one := by decide +kernel
theorem lk_X10_one_87 : Cond.fieldLink RX10 87 "EggSpoons$Race" "runners" "I" ∈ wsX10_one := by decide +kernel
theorem hdV_X5_welcome : yX5_welcome.cls = RX5 ∧ yX5_welcome.cls ≠ "java/lang/invoke/MethodHandle" ∧ yX5_welcome.cls ≠ "java/lang/invoke/VarHandle" ∧ (parseMethodDescriptor yX5_welcome.desc).map (fun d => d.parameters.length) = some 3 := by decide +kernel
set_option maxHeartbeats 4000000 in
set_option maxRecDepth 100000 in
/-- one -/
theorem c_one (l : Launch) (X : EX) (h0 : Nat) (fs : List Value) (hn : Nat) (a0 : Value) (a1 : Value) (hw : Nat) (hp : Nat) (a5 : Value) (a6 : Value) (a7 : Value) (q : Nat → Option Nat) (r0 : Nat) (d0 : Value) (d1 : Value) (d2 : Value) (d3 : Value) (d4 : Value) (d5 : Value) (d6 : Value) (d7 : Value) (b0 : Value) (b1 : Value) (hr : Nat) (fr : Nat → Int32) (x1 : Int32) (x2 : Int32) (x3 : Int32) (hf0 : fs[0]? = some (.ref hn)) (hf5 : fs[5]? = some (.ref hr)) (hq0 : q 0 = some r0) (sz : Nat) : Met l yX10_one wsX10_one ({ frames := 2, cells := 0, slots := 0, locals := 46 } : Room) (pE X [.ref h0, .int x1, .int x2, .int x3] [(h0, .inr (8, fs)), (hn, .inr (3, [a0, a1, .int 0, .ref hw, .ref hp, a5, a6, a7])), (hw, .inl (X.2.2.2.2, 6, .inr (.inr (.inr (.inr q))))), (r0, .inr (6, [d0, d1, d2, d3, d4, d5, d6, d7])), (hp, .inr (2, [b0, b1])), (hr, .inl (X.2.1, 3, .inl fr))] sz) (qI (fun (r : Int32) (u : Unit) => r = if ((0 : Int32) ≤ x1 ∧ x1 ≤ 5) ∧ ((1 : Int32) ≤ x2 ∧ x2 ≤ 9) ∧ ((0 : Int32) ≤ x3 ∧ x3 ≤ 5) then 0 else -2) X (fun (u : Unit) => []) [(h0, .inr (8, fs)), (hn, .inr (3, [a0, a1, .int 0, .ref hw, .ref hp, a5, a6, a7])), (hw, .inl (X.2.2.2.2, 6, .inr (.inr (.inr (.inr q))))), (r0, .inr (6, [d0, d1, d2, d3, d4, d5, d6, d7])), (hp, .inr (2, [b0, b1])), (hr, .inl (X.2.1, 3, .inl fr))] sz) 0 0 (va_A [(h0, .inr (8, fs)), (hn, .inr (3, [a0, a1, .int 0, .ref hw, .ref hp, a5, a6, a7])), (hw, .inl (X.2.2.2.2, 6, .inr (.inr (.inr (.inr q))))), (r0, .inr (6, [d0, d1, d2, d3, d4, d5, d6, d7])), (hp, .inr (2, [b0, b1])), (hr, .inl (X.2.1, 3, .inl fr))] sz) := by
  refine mk_met (B := (va_A [(h0, .inr (8, fs)), (hn, .inr (3, [a0, a1, .int 0, .ref hw, .ref hp, a5, a6, a7])), (hw, .inl (X.2.2.2.2, 6, .inr (.inr (.inr (.inr q))))), (r0, .inr (6, [d0, d1, d2, d3, d4, d5, d6, d7])), (hp, .inr (2, [b0, b1])), (hr, .inl (X.2.1, 3, .inl fr))] sz)) (A := (va_A [(h0, .inr (8, fs)), (hn, .inr (3, [a0, a1, .int 0, .ref hw, .ref hp, a5, a6, a7])), (hw, .inl (X.2.2.2.2, 6, .inr (.inr (.inr (.inr q))))), (r0, .inr (6, [d0, d1, d2, d3, d4, d5, d6, d7])), (hp, .inr (2, [b0, b1])), (hr, .inl (X.2.1, 3, .inl fr))] sz)) (cc := cX10_one) (maxL := 4) (ret := (some .int)) (by decide) rfl (Nat.le_of_ble_eq_true rfl) k_w k_a (fun p e s m below meth c S zr zlk znm zsz G ls hl => ?_)
  have S : CallFix p m c cX10_one 4 s _ wsX10_one RX10 := S
  have zx := S.1
  have zb := S.2.1
  have hl : lv_has ls 4 [(0, .ref h0), (1, .int x1), (2, .int x2), (3, .int x3)] := hl
  refine lv_iload_n zx zb dX10_one_0 rfl (lv_at hl 1 rfl) ?_
  refine lv_iconst (v := 0) zx zb dX10_one_1 (by decide) ?_
  refine lv_iconst (v := 5) zx zb dX10_one_2 (by decide) ?_
  refine o_ri (cells' := 0) (slots' := 0) G rfl rfl (n_S (As := [.int x1, .int 0, .int 5]) (rest := []) S G (c_within l X x1 0 5 s.heap.size) gX10_one_X10_within rfl rfl rfl hdS_X10_within ⟨Nat.le_of_ble_eq_true rfl, Nat.le_of_ble_eq_true rfl⟩ [] rfl (by decide) rfl hl.1 (Nat.le_of_ble_eq_true rfl) dX10_one_3 ⟨Nat.le_of_ble_eq_true rfl, Nat.le_of_ble_eq_true rfl⟩) (fun r_1 u_1 H locs hp_1 G => ?_)
  have G : wd X (va_A [(h0, .inr (8, fs)), (hn, .inr (3, [a0, a1, .int 0, .ref hw, .ref hp, a5, a6, a7])), (hw, .inl (X.2.2.2.2, 6, .inr (.inr (.inr (.inr q))))), (r0, .inr (6, [d0, d1, d2, d3, d4, d5, d6, d7])), (hp, .inr (2, [b0, b1])), (hr, .inl (X.2.1, 3, .inl fr))] sz) (va_A [(h0, .inr (8, fs)), (hn, .inr (3, [a0, a1, .int 0, .ref hw, .ref hp, a5, a6, a7])), (hw, .inl (X.2.2.2.2, 6, .inr (.inr (.inr (.inr q))))), (r0, .inr (6, [d0, d1, d2, d3, d4, d5, d6, d7])), (hp, .inr (2, [b0, b1])), (hr, .inl (X.2.1, 3, .inl fr))] sz) s [(h0, .inr (8, fs)), (hn, .inr (3, [a0, a1, .int 0, .ref hw, .ref hp, a5, a6, a7])), (hw, .inl (X.2.2.2.2, 6, .inr (.inr (.inr (.inr q))))), (r0, .inr (6, [d0, d1, d2, d3, d4, d5, d6, d7])), (hp, .inr (2, [b0, b1])), (hr, .inl (X.2.1, 3, .inl fr))] H locs := G
  rcases hp_1 with ⟨rfl, hw_1⟩ | ⟨rfl, hw_1⟩
  · refine lv_if_eq (tgt := 28) zx zb dX10_one_6 (by decide) (fun c_2 => absurd c_2 (by decide)) (fun c_2 => ?_)
    refine lv_iload_n zx zb dX10_one_9 rfl (lv_at hl 2 rfl) ?_
    refine lv_iconst (v := 1) zx zb dX10_one_10 (by decide) ?_
    refine lv_bipush (v := 9) zx zb dX10_one_11 (by decide) ?_
    refine o_ri (cells' := 0) (slots' := 0) G rfl rfl (n_S (As := [.int x2, .int 1, .int 9]) (rest := []) S G (c_within l X x2 1 9 H.size) gX10_one_X10_within rfl rfl rfl hdS_X10_within ⟨Nat.le_of_ble_eq_true rfl, Nat.le_of_ble_eq_true rfl⟩ [] rfl (by decide) rfl hl.1 (Nat.le_of_ble_eq_true rfl) dX10_one_13 ⟨Nat.le_of_ble_eq_true rfl, Nat.le_of_ble_eq_true rfl⟩) (fun r_3 u_3 H locs hp_3 G => ?_)
    have G : wd X (va_A [(h0, .inr (8, fs)), (hn, .inr (3, [a0, a1, .int 0, .ref hw, .ref hp, a5, a6, a7])), (hw, .inl (X.2.2.2.2, 6, .inr (.inr (.inr (.inr q))))), (r0, .inr (6, [d0, d1, d2, d3, d4, d5, d6, d7])), (hp, .inr (2, [b0, b1])), (hr, .inl (X.2.1, 3, .inl fr))] sz) (va_A [(h0, .inr (8, fs)), (hn, .inr (3, [a0, a1, .int 0, .ref hw, .ref hp, a5, a6, a7])), (hw, .inl (X.2.2.2.2, 6, .inr (.inr (.inr (.inr q))))), (r0, .inr (6, [d0, d1, d2, d3, d4, d5, d6, d7])), (hp, .inr (2, [b0, b1])), (hr, .inl (X.2.1, 3, .inl fr))] sz) s [(h0, .inr (8, fs)), (hn, .inr (3, [a0, a1, .int 0, .ref hw, .ref hp, a5, a6, a7])), (hw, .inl (X.2.2.2.2, 6, .inr (.inr (.inr (.inr q))))), (r0, .inr (6, [d0, d1, d2, d3, d4, d5, d6, d7])), (hp, .inr (2, [b0, b1])), (hr, .inl (X.2.1, 3, .inl fr))] H locs := G
    rcases hp_3 with ⟨rfl, hw_3⟩ | ⟨rfl, hw_3⟩
    · refine lv_if_eq (tgt := 28) zx zb dX10_one_16 (by decide) (fun c_4 => absurd c_4 (by decide)) (fun c_4 => ?_)
      refine lv_iload_n zx zb dX10_one_19 rfl (lv_at hl 3 rfl) ?_
      refine lv_iconst (v := 0) zx zb dX10_one_20 (by decide) ?_
      refine lv_iconst (v := 5) zx zb dX10_one_21 (by decide) ?_
      refine o_ri (cells' := 0) (slots' := 0) G rfl rfl (n_S (As := [.int x3, .int 0, .int 5]) (rest := []) S G (c_within l X x3 0 5 H.size) gX10_one_X10_within rfl rfl rfl hdS_X10_within ⟨Nat.le_of_ble_eq_true rfl, Nat.le_of_ble_eq_true rfl⟩ [] rfl (by decide) rfl hl.1 (Nat.le_of_ble_eq_true rfl) dX10_one_22 ⟨Nat.le_of_ble_eq_true rfl, Nat.le_of_ble_eq_true rfl⟩) (fun r_5 u_5 H locs hp_5 G => ?_)
      have G : wd X (va_A [(h0, .inr (8, fs)), (hn, .inr (3, [a0, a1, .int 0, .ref hw, .ref hp, a5, a6, a7])), (hw, .inl (X.2.2.2.2, 6, .inr (.inr (.inr (.inr q))))), (r0, .inr (6, [d0, d1, d2, d3, d4, d5, d6, d7])), (hp, .inr (2, [b0, b1])), (hr, .inl (X.2.1, 3, .inl fr))] sz) (va_A [(h0, .inr (8, fs)), (hn, .inr (3, [a0, a1, .int 0, .ref hw, .ref hp, a5, a6, a7])), (hw, .inl (X.2.2.2.2, 6, .inr (.inr (.inr (.inr q))))), (r0, .inr (6, [d0, d1, d2, d3, d4, d5, d6, d7])), (hp, .inr (2, [b0, b1])), (hr, .inl (X.2.1, 3, .inl fr))] sz) s [(h0, .inr (8, fs)), (hn, .inr (3, [a0, a1, .int 0, .ref hw, .ref hp, a5, a6, a7])), (hw, .inl (X.2.2.2.2, 6, .inr (.inr (.inr (.inr q))))), (r0, .inr (6, [d0, d1, d2, d3, d4, d5, d6, d7])), (hp, .inr (2, [b0, b1])), (hr, .inl (X.2.1, 3, .inl fr))] H locs := G
      rcases hp_5 with ⟨rfl, hw_5⟩ | ⟨rfl, hw_5⟩
      · refine lv_if_ne (tgt := 35) zx zb dX10_one_25 (by decide) (fun c_6 => ?_) (fun c_6 => absurd c_6 (by decide))
        refine lv_aload_n zx zb dX10_one_35 rfl (lv_at hl 0 rfl) ?_
        refine r_get (C := RX10) (T := TX10) (N := 14) (ci := 8) (v := .ref hn) S in_X10_one_X10 G 0 rfl rfl 0 (by decide) lk_X10_one_10 hf0 dX10_one_36 ?_
        refine r_get (C := RX5) (T := TX5) (N := 8) (ci := 3) (v := .int 0) S in_X10_one_X5 G 1 rfl rfl 2 (by decide) lk_X10_one_87 rfl dX10_one_39 ?_
        refine lv_bipush (v := 6) zx zb dX10_one_42 (by decide) ?_
        refine lv_icmp_lt (tgt := 54) zx zb dX10_one_44 (by decide) (fun c_7 => ?_) (fun c_7 => absurd (by decide) c_7)
        refine lv_aload_n zx zb dX10_one_54 rfl (lv_at hl 0 rfl) ?_
        refine r_get (C := RX10) (T := TX10) (N := 14) (ci := 8) (v := .ref hn) S in_X10_one_X10 G 0 rfl rfl 0 (by decide) lk_X10_one_10 hf0 dX10_one_55 ?_
        refine lv_iload_n zx zb dX10_one_58 rfl (lv_at hl 1 rfl) ?_
        refine lv_iload_n zx zb dX10_one_59 rfl (lv_at hl 2 rfl) ?_
        refine lv_iload_n zx zb dX10_one_60 rfl (lv_at hl 3 rfl) ?_
        refine o_wv (cells' := 0) (slots' := 0) (wr := [(h0, .inr (8, fs)), (hr, .inl (X.2.1, 3, .inl fr))]) G rfl rfl [1, 2, 3, 4] [0, 5] rfl rfl (by decide) (by decide) (n_V (As := [.int x1, .int x2, .int x3]) (rest := []) (C := RX5) (T := TX5) (N := 8) (ci := 3) S G (c_welcome l X hn a0 a1 hw hp a5 a6 a7 q r0 d0 d1 d2 d3 d4 d5 d6 d7 b0 b1 x1 x2 x3 hq0 H.size) gX10_one_X5_welcome rfl rfl rfl hdV_X5_welcome ⟨Nat.le_of_ble_eq_true rfl, Nat.le_of_ble_eq_true rfl⟩ [1, 2, 3, 4] rfl (by decide) 1 rfl rfl rfl hl.1 (Nat.le_of_ble_eq_true rfl) dX10_one_61 ⟨Nat.le_of_ble_eq_true rfl, Nat.le_of_ble_eq_true rfl⟩) (fun u_8 H locs hp_8 G => ?_)
        have G : wd X (va_A [(h0, .inr (8, fs)), (hn, .inr (3, [a0, a1, .int 0, .ref hw, .ref hp, a5, a6, a7])), (hw, .inl (X.2.2.2.2, 6, .inr (.inr (.inr (.inr q))))), (r0, .inr (6, [d0, d1, d2, d3, d4, d5, d6, d7])), (hp, .inr (2, [b0, b1])), (hr, .inl (X.2.1, 3, .inl fr))] sz) (va_A [(h0, .inr (8, fs)), (hn, .inr (3, [a0, a1, .int 0, .ref hw, .ref hp, a5, a6, a7])), (hw, .inl (X.2.2.2.2, 6, .inr (.inr (.inr (.inr q))))), (r0, .inr (6, [d0, d1, d2, d3, d4, d5, d6, d7])), (hp, .inr (2, [b0, b1])), (hr, .inl (X.2.1, 3, .inl fr))] sz) s [(h0, .inr (8, fs)), (hr, .inl (X.2.1, 3, .inl fr)), (hn, .inr (3, [a0, a1, .int 1, .ref hw, .ref hp, a5, a6, a7]))] H locs := G
        refine lv_aload_n zx zb dX10_one_64 rfl (lv_at hl 0 rfl) ?_
        refine r_get (C := RX10) (T := TX10) (N := 14) (ci := 8) (v := .ref hn) S in_X10_one_X10 G 0 rfl rfl 0 (by decide) lk_X10_one_10 hf0 dX10_one_65 ?_
        refine r_get (C := RX5) (T := TX5) (N := 8) (ci := 3) (v := .int 1) S in_X10_one_X5 G 2 rfl rfl 2 (by decide) lk_X10_one_87 rfl dX10_one_68 ?_
        refine lv_iconst (v := 1) zx zb dX10_one_71 (by decide) ?_
        refine r_isub (v := 0) S (by decide) dX10_one_72 ?_
        exact e_int S zr zlk (vp_nar_int _) G () [] rfl (by decide) (Or.inl rfl) (by first | exact (if_pos ⟨hw_1, hw_3, hw_5⟩).symm | exact (if_neg (fun h => hw_5 h.2.2)).symm) dX10_one_73
      · refine lv_if_ne (tgt := 35) zx zb dX10_one_25 (by decide) (fun c_9 => absurd (by decide) c_9) (fun c_9 => ?_)
        refine lv_aload_n zx zb dX10_one_28 rfl (lv_at hl 0 rfl) ?_
        refine lv_bipush (v := (-2)) zx zb dX10_one_29 (by decide) ?_
        refine o_wi (cells' := 0) (slots' := 0) (wr := [(hn, .inr (3, [a0, a1, .int 0, .ref hw, .ref hp, a5, a6, a7])), (hw, .inl (X.2.2.2.2, 6, .inr (.inr (.inr (.inr q))))), (r0, .inr (6, [d0, d1, d2, d3, d4, d5, d6, d7])), (hp, .inr (2, [b0, b1]))]) G rfl rfl [0, 5] [1, 2, 3, 4] rfl rfl (by decide) (by decide) (n_V (As := [.int (-2)]) (rest := []) (C := RX10) (T := TX10) (N := 14) (ci := 8) S G (c_refuse l X h0 fs hr fr (-2) hf5 H.size) gX10_one_X10_refuse rfl rfl rfl hdV_X10_refuse ⟨Nat.le_of_ble_eq_true rfl, Nat.le_of_ble_eq_true rfl⟩ [0, 5] rfl (by decide) 0 rfl rfl rfl hl.1 (Nat.le_of_ble_eq_true rfl) dX10_one_31 ⟨Nat.le_of_ble_eq_true rfl, Nat.le_of_ble_eq_true rfl⟩) (fun r_10 u_10 H locs hp_10 G => ?_)
        have G : wd X (va_A [(h0, .inr (8, fs)), (hn, .inr (3, [a0, a1, .int 0, .ref hw, .ref hp, a5, a6, a7])), (hw, .inl (X.2.2.2.2, 6, .inr (.inr (.inr (.inr q))))), (r0, .inr (6, [d0, d1, d2, d3, d4, d5, d6, d7])), (hp, .inr (2, [b0, b1])), (hr, .inl (X.2.1, 3, .inl fr))] sz) (va_A [(h0, .inr (8, fs)), (hn, .inr (3, [a0, a1, .int 0, .ref hw, .ref hp, a5, a6, a7])), (hw, .inl (X.2.2.2.2, 6, .inr (.inr (.inr (.inr q))))), (r0, .inr (6, [d0, d1, d2, d3, d4, d5, d6, d7])), (hp, .inr (2, [b0, b1])), (hr, .inl (X.2.1, 3, .inl fr))] sz) s [(hn, .inr (3, [a0, a1, .int 0, .ref hw, .ref hp, a5, a6, a7])), (hw, .inl (X.2.2.2.2, 6, .inr (.inr (.inr (.inr q))))), (r0, .inr (6, [d0, d1, d2, d3, d4, d5, d6, d7])), (hp, .inr (2, [b0, b1]))] H locs := G
        subst hp_10
        exact e_int S zr zlk (vp_nar_int _) G () [] rfl (by decide) (Or.inl rfl) (by first | exact (if_pos ⟨hw_1, hw_3, hw_5⟩).symm | exact (if_neg (fun h => hw_5 h.2.2)).symm) dX10_one_34
    · refine lv_if_eq (tgt := 28) zx zb dX10_one_16 (by decide) (fun c_11 => ?_) (fun c_11 => absurd (by decide) c_11)
      refine lv_aload_n zx zb dX10_one_28 rfl (lv_at hl 0 rfl) ?_
      refine lv_bipush (v := (-2)) zx zb dX10_one_29 (by decide) ?_
      refine o_wi (cells' := 0) (slots' := 0) (wr := [(hn, .inr (3, [a0, a1, .int 0, .ref hw, .ref hp, a5, a6, a7])), (hw, .inl (X.2.2.2.2, 6, .inr (.inr (.inr (.inr q))))), (r0, .inr (6, [d0, d1, d2, d3, d4, d5, d6, d7])), (hp, .inr (2, [b0, b1]))]) G rfl rfl [0, 5] [1, 2, 3, 4] rfl rfl (by decide) (by decide) (n_V (As := [.int (-2)]) (rest := []) (C := RX10) (T := TX10) (N := 14) (ci := 8) S G (c_refuse l X h0 fs hr fr (-2) hf5 H.size) gX10_one_X10_refuse rfl rfl rfl hdV_X10_refuse ⟨Nat.le_of_ble_eq_true rfl, Nat.le_of_ble_eq_true rfl⟩ [0, 5] rfl (by decide) 0 rfl rfl rfl hl.1 (Nat.le_of_ble_eq_true rfl) dX10_one_31 ⟨Nat.le_of_ble_eq_true rfl, Nat.le_of_ble_eq_true rfl⟩) (fun r_12 u_12 H locs hp_12 G => ?_)
      have G : wd X (va_A [(h0, .inr (8, fs)), (hn, .inr (3, [a0, a1, .int 0, .ref hw, .ref hp, a5, a6, a7])), (hw, .inl (X.2.2.2.2, 6, .inr (.inr (.inr (.inr q))))), (r0, .inr (6, [d0, d1, d2, d3, d4, d5, d6, d7])), (hp, .inr (2, [b0, b1])), (hr, .inl (X.2.1, 3, .inl fr))] sz) (va_A [(h0, .inr (8, fs)), (hn, .inr (3, [a0, a1, .int 0, .ref hw, .ref hp, a5, a6, a7])), (hw, .inl (X.2.2.2.2, 6, .inr (.inr (.inr (.inr q))))), (r0, .inr (6, [d0, d1, d2, d3, d4, d5, d6, d7])), (hp, .inr (2, [b0, b1])), (hr, .inl (X.2.1, 3, .inl fr))] sz) s [(hn, .inr (3, [a0, a1, .int 0, .ref hw, .ref hp, a5, a6, a7])), (hw, .inl (X.2.2.2.2, 6, .inr (.inr (.inr (.inr q))))), (r0, .inr (6, [d0, d1, d2, d3, d4, d5, d6, d7])), (hp, .inr (2, [b0, b1]))] H locs := G
      subst hp_12
      exact e_int S zr zlk (vp_nar_int _) G () [] rfl (by decide) (Or.inl rfl) (by first | exact (if_pos ⟨hw_1, hw_3⟩).symm | exact (if_neg (fun h => hw_3 h.2.1)).symm) dX10_one_34
  · refine lv_if_eq (tgt := 28) zx zb dX10_one_6 (by decide) (fun c_13 => ?_) (fun c_13 => absurd (by decide) c_13)
    refine lv_aload_n zx zb dX10_one_28 rfl (lv_at hl 0 rfl) ?_
    refine lv_bipush (v := (-2)) zx zb dX10_one_29 (by decide) ?_
    refine o_wi (cells' := 0) (slots' := 0) (wr := [(hn, .inr (3, [a0, a1, .int 0, .ref hw, .ref hp, a5, a6, a7])), (hw, .inl (X.2.2.2.2, 6, .inr (.inr (.inr (.inr q))))), (r0, .inr (6, [d0, d1, d2, d3, d4, d5, d6, d7])), (hp, .inr (2, [b0, b1]))]) G rfl rfl [0, 5] [1, 2, 3, 4] rfl rfl (by decide) (by decide) (n_V (As := [.int (-2)]) (rest := []) (C := RX10) (T := TX10) (N := 14) (ci := 8) S G (c_refuse l X h0 fs hr fr (-2) hf5 H.size) gX10_one_X10_refuse rfl rfl rfl hdV_X10_refuse ⟨Nat.le_of_ble_eq_true rfl, Nat.le_of_ble_eq_true rfl⟩ [0, 5] rfl (by decide) 0 rfl rfl rfl hl.1 (Nat.le_of_ble_eq_true rfl) dX10_one_31 ⟨Nat.le_of_ble_eq_true rfl, Nat.le_of_ble_eq_true rfl⟩) (fun r_14 u_14 H locs hp_14 G => ?_)
    have G : wd X (va_A [(h0, .inr (8, fs)), (hn, .inr (3, [a0, a1, .int 0, .ref hw, .ref hp, a5, a6, a7])), (hw, .inl (X.2.2.2.2, 6, .inr (.inr (.inr (.inr q))))), (r0, .inr (6, [d0, d1, d2, d3, d4, d5, d6, d7])), (hp, .inr (2, [b0, b1])), (hr, .inl (X.2.1, 3, .inl fr))] sz) (va_A [(h0, .inr (8, fs)), (hn, .inr (3, [a0, a1, .int 0, .ref hw, .ref hp, a5, a6, a7])), (hw, .inl (X.2.2.2.2, 6, .inr (.inr (.inr (.inr q))))), (r0, .inr (6, [d0, d1, d2, d3, d4, d5, d6, d7])), (hp, .inr (2, [b0, b1])), (hr, .inl (X.2.1, 3, .inl fr))] sz) s [(hn, .inr (3, [a0, a1, .int 0, .ref hw, .ref hp, a5, a6, a7])), (hw, .inl (X.2.2.2.2, 6, .inr (.inr (.inr (.inr q))))), (r0, .inr (6, [d0, d1, d2, d3, d4, d5, d6, d7])), (hp, .inr (2, [b0, b1]))] H locs := G
    subst hp_14
    exact e_int S zr zlk (vp_nar_int _) G () [] rfl (by decide) (Or.inl rfl) (by first | exact (if_pos hw_1).symm | exact (if_neg (fun h => hw_1 h.1)).symm) dX10_one_34
theorem in_X6_append_X6 : ∀ w ∈ wsX60, w ∈ wsX6_append := by decide +kernel
theorem lk_X6_append_15 : Cond.fieldLink RX6 15 "EggSpoons$Reader" "length" "I" ∈ wsX6_append := by decide +kernel
theorem lk_X6_append_11 : Cond.fieldLink RX6 11 "EggSpoons$Reader" "bytes" "[I" ∈ wsX6_append := by decide +kernel
set_option maxHeartbeats 4000000 in
set_option maxRecDepth 100000 in
/-- append: the first byte -/
theorem c_append (l : Launch) (X : EX) (hd : Nat) (hb : Nat) (k2 : Value) (k3 : Value) (k4 : Value) (k5 : Value) (k6 : Value) (fb : Nat → Int32) (x : Int32) (sz : Nat) : Met l yX6_append wsX6_append ({ frames := 0, cells := 0, slots := 0, locals := 0 } : Room) (pE X [.ref hd, .int x] [(hd, .inr (4, [.ref hb, .int 0, k2, k3, k4, k5, k6])), (hb, .inl (X.2.1, 150, .inl fb))] sz) (qI (fun (r : Int32) (u : Unit) => r = 1) X (fun (u : Unit) => [(hd, .inr (4, [.ref hb, .int 1, k2, k3, k4, k5, k6]))]) [(hd, .inr (4, [.ref hb, .int 0, k2, k3, k4, k5, k6])), (hb, .inl (X.2.1, 150, .inl fb))] sz) 0 0 (va_A [(hd, .inr (4, [.ref hb, .int 0, k2, k3, k4, k5, k6])), (hb, .inl (X.2.1, 150, .inl fb))] sz) := by
  refine mk_met (B := (va_A [(hd, .inr (4, [.ref hb, .int 0, k2, k3, k4, k5, k6])), (hb, .inl (X.2.1, 150, .inl fb))] sz)) (A := (va_A [(hd, .inr (4, [.ref hb, .int 0, k2, k3, k4, k5, k6])), (hb, .inl (X.2.1, 150, .inl fb))] sz)) (cc := cX6_append) (maxL := 2) (ret := (some .boolean)) (by decide) rfl (Nat.le_of_ble_eq_true rfl) k_w k_a (fun p e s m below meth c S zr zlk znm zsz G ls hl => ?_)
  have S : CallFix p m c cX6_append 2 s _ wsX6_append RX6 := S
  have zx := S.1
  have zb := S.2.1
  have hl : lv_has ls 2 [(0, .ref hd), (1, .int x)] := hl
  refine lv_aload_n zx zb dX6_append_0 rfl (lv_at hl 0 rfl) ?_
  refine r_get (C := RX6) (T := TX6) (N := 7) (ci := 4) (v := .int 0) S in_X6_append_X6 G 0 rfl rfl 1 (by decide) lk_X6_append_15 rfl dX6_append_1 ?_
  refine lv_sipush (v := 150) zx zb dX6_append_4 (by decide) ?_
  refine lv_icmp_lt (tgt := 12) zx zb dX6_append_7 (by decide) (fun c_1 => ?_) (fun c_1 => absurd (by decide) c_1)
  refine lv_aload_n zx zb dX6_append_12 rfl (lv_at hl 0 rfl) ?_
  refine r_get (C := RX6) (T := TX6) (N := 7) (ci := 4) (v := .ref hb) S in_X6_append_X6 G 0 rfl rfl 0 (by decide) lk_X6_append_11 rfl dX6_append_13 ?_
  refine lv_aload_n zx zb dX6_append_16 rfl (lv_at hl 0 rfl) ?_
  refine r_get (C := RX6) (T := TX6) (N := 7) (ci := 4) (v := .int 0) S in_X6_append_X6 G 0 rfl rfl 1 (by decide) lk_X6_append_15 rfl dX6_append_17 ?_
  refine lv_iload_n zx zb dX6_append_20 rfl (lv_at hl 1 rfl) ?_
  refine r_iast S G 1 rfl (k_vp (by decide)) dX6_append_21 (fun H locs G => ?_)
  have G : wd X (va_A [(hd, .inr (4, [.ref hb, .int 0, k2, k3, k4, k5, k6])), (hb, .inl (X.2.1, 150, .inl fb))] sz) (va_A [(hd, .inr (4, [.ref hb, .int 0, k2, k3, k4, k5, k6])), (hb, .inl (X.2.1, 150, .inl fb))] sz) s [(hd, .inr (4, [.ref hb, .int 0, k2, k3, k4, k5, k6])), (hb, .inl (X.2.1, 150, .inl (upd fb 0 x)))] H locs := G
  refine lv_aload_n zx zb dX6_append_22 rfl (lv_at hl 0 rfl) ?_
  refine lv_dup zx zb dX6_append_23 rfl ?_
  refine r_get (C := RX6) (T := TX6) (N := 7) (ci := 4) (v := .int 0) S in_X6_append_X6 G 0 rfl rfl 1 (by decide) lk_X6_append_15 rfl dX6_append_24 ?_
  refine lv_iconst (v := 1) zx zb dX6_append_27 (by decide) ?_
  refine r_iadd (v := 1) S (by decide) dX6_append_28 ?_
  refine r_put (C := RX6) (T := TX6) (N := 7) (ci := 4) (v := .int 1) S in_X6_append_X6 tyX6_ok nmX6 G 0 rfl rfl 1 (by decide) lk_X6_append_15 rfl (vp_nar_int _) rfl (Nat.le_of_ble_eq_true rfl) dX6_append_29 (fun H locs G => ?_)
  have G : wd X (va_A [(hd, .inr (4, [.ref hb, .int 0, k2, k3, k4, k5, k6])), (hb, .inl (X.2.1, 150, .inl fb))] sz) (va_A [(hd, .inr (4, [.ref hb, .int 0, k2, k3, k4, k5, k6])), (hb, .inl (X.2.1, 150, .inl fb))] sz) s [(hd, .inr (4, [.ref hb, .int 1, k2, k3, k4, k5, k6])), (hb, .inl (X.2.1, 150, .inl (upd fb 0 x)))] H locs := G
  refine lv_iconst (v := 1) zx zb dX6_append_32 (by decide) ?_
  exact e_int S zr zlk (by decide) G () [0] rfl (by decide) (Or.inr rfl) (rfl) dX6_append_33
theorem in_X10_type_X10 : ∀ w ∈ wsX100, w ∈ wsX10_type := by decide +kernel
theorem lk_X10_type_30 : Cond.fieldLink RX10 30 "EggSpoons" "reader" "LEggSpoons$Reader;" ∈ wsX10_type := by decide +kernel
theorem hdV_X6_append : yX6_append.cls = RX6 ∧ yX6_append.cls ≠ "java/lang/invoke/MethodHandle" ∧ yX6_append.cls ≠ "java/lang/invoke/VarHandle" ∧ (parseMethodDescriptor yX6_append.desc).map (fun d => d.parameters.length) = some 1 := by decide +kernel
theorem in_X10_type_X6 : ∀ w ∈ wsX60, w ∈ wsX10_type := by decide +kernel
set_option maxHeartbeats 4000000 in
set_option maxRecDepth 100000 in
/-- type -/
theorem c_type (l : Launch) (X : EX) (h0 : Nat) (fs : List Value) (hd : Nat) (hb : Nat) (k2 : Value) (k3 : Value) (k4 : Value) (k5 : Value) (k6 : Value) (fb : Nat → Int32) (hr : Nat) (fr : Nat → Int32) (x1 : Int32) (hf4 : fs[4]? = some (.ref hd)) (hf5 : fs[5]? = some (.ref hr)) (sz : Nat) : Met l yX10_type wsX10_type ({ frames := 1, cells := 0, slots := 0, locals := 22 } : Room) (pE X [.ref h0, .int x1] [(h0, .inr (8, fs)), (hd, .inr (4, [.ref hb, .int 0, k2, k3, k4, k5, k6])), (hb, .inl (X.2.1, 150, .inl fb)), (hr, .inl (X.2.1, 3, .inl fr))] sz) (qI (fun (r : Int32) (u : Unit) => r = if (0 : Int32) ≤ x1 ∧ x1 ≤ 127 then 1 else -2) X (fun (u : Unit) => []) [(h0, .inr (8, fs)), (hd, .inr (4, [.ref hb, .int 0, k2, k3, k4, k5, k6])), (hb, .inl (X.2.1, 150, .inl fb)), (hr, .inl (X.2.1, 3, .inl fr))] sz) 0 0 (va_A [(h0, .inr (8, fs)), (hd, .inr (4, [.ref hb, .int 0, k2, k3, k4, k5, k6])), (hb, .inl (X.2.1, 150, .inl fb)), (hr, .inl (X.2.1, 3, .inl fr))] sz) := by
  refine mk_met (B := (va_A [(h0, .inr (8, fs)), (hd, .inr (4, [.ref hb, .int 0, k2, k3, k4, k5, k6])), (hb, .inl (X.2.1, 150, .inl fb)), (hr, .inl (X.2.1, 3, .inl fr))] sz)) (A := (va_A [(h0, .inr (8, fs)), (hd, .inr (4, [.ref hb, .int 0, k2, k3, k4, k5, k6])), (hb, .inl (X.2.1, 150, .inl fb)), (hr, .inl (X.2.1, 3, .inl fr))] sz)) (cc := cX10_type) (maxL := 2) (ret := (some .int)) (by decide) rfl (Nat.le_of_ble_eq_true rfl) k_w k_a (fun p e s m below meth c S zr zlk znm zsz G ls hl => ?_)
  have S : CallFix p m c cX10_type 2 s _ wsX10_type RX10 := S
  have zx := S.1
  have zb := S.2.1
  have hl : lv_has ls 2 [(0, .ref h0), (1, .int x1)] := hl
  refine lv_iload_n zx zb dX10_type_0 rfl (lv_at hl 1 rfl) ?_
  refine lv_iconst (v := 0) zx zb dX10_type_1 (by decide) ?_
  refine lv_bipush (v := 127) zx zb dX10_type_2 (by decide) ?_
  refine o_ri (cells' := 0) (slots' := 0) G rfl rfl (n_S (As := [.int x1, .int 0, .int 127]) (rest := []) S G (c_within l X x1 0 127 s.heap.size) gX10_type_X10_within rfl rfl rfl hdS_X10_within ⟨Nat.le_of_ble_eq_true rfl, Nat.le_of_ble_eq_true rfl⟩ [] rfl (by decide) rfl hl.1 (Nat.le_of_ble_eq_true rfl) dX10_type_4 ⟨Nat.le_of_ble_eq_true rfl, Nat.le_of_ble_eq_true rfl⟩) (fun r_1 u_1 H locs hp_1 G => ?_)
  have G : wd X (va_A [(h0, .inr (8, fs)), (hd, .inr (4, [.ref hb, .int 0, k2, k3, k4, k5, k6])), (hb, .inl (X.2.1, 150, .inl fb)), (hr, .inl (X.2.1, 3, .inl fr))] sz) (va_A [(h0, .inr (8, fs)), (hd, .inr (4, [.ref hb, .int 0, k2, k3, k4, k5, k6])), (hb, .inl (X.2.1, 150, .inl fb)), (hr, .inl (X.2.1, 3, .inl fr))] sz) s [(h0, .inr (8, fs)), (hd, .inr (4, [.ref hb, .int 0, k2, k3, k4, k5, k6])), (hb, .inl (X.2.1, 150, .inl fb)), (hr, .inl (X.2.1, 3, .inl fr))] H locs := G
  rcases hp_1 with ⟨rfl, hw_1⟩ | ⟨rfl, hw_1⟩
  · refine lv_if_ne (tgt := 17) zx zb dX10_type_7 (by decide) (fun c_2 => ?_) (fun c_2 => absurd c_2 (by decide))
    refine lv_aload_n zx zb dX10_type_17 rfl (lv_at hl 0 rfl) ?_
    refine r_get (C := RX10) (T := TX10) (N := 14) (ci := 8) (v := .ref hd) S in_X10_type_X10 G 0 rfl rfl 4 (by decide) lk_X10_type_30 hf4 dX10_type_18 ?_
    refine lv_iload_n zx zb dX10_type_21 rfl (lv_at hl 1 rfl) ?_
    refine o_wi (cells' := 0) (slots' := 0) (wr := [(h0, .inr (8, fs)), (hr, .inl (X.2.1, 3, .inl fr))]) G rfl rfl [1, 2] [0, 3] rfl rfl (by decide) (by decide) (n_V (As := [.int x1]) (rest := []) (C := RX6) (T := TX6) (N := 7) (ci := 4) S G (c_append l X hd hb k2 k3 k4 k5 k6 fb x1 H.size) gX10_type_X6_append rfl rfl rfl hdV_X6_append ⟨Nat.le_of_ble_eq_true rfl, Nat.le_of_ble_eq_true rfl⟩ [1, 2] rfl (by decide) 1 rfl rfl rfl hl.1 (Nat.le_of_ble_eq_true rfl) dX10_type_22 ⟨Nat.le_of_ble_eq_true rfl, Nat.le_of_ble_eq_true rfl⟩) (fun r_3 u_3 H locs hp_3 G => ?_)
    have G : wd X (va_A [(h0, .inr (8, fs)), (hd, .inr (4, [.ref hb, .int 0, k2, k3, k4, k5, k6])), (hb, .inl (X.2.1, 150, .inl fb)), (hr, .inl (X.2.1, 3, .inl fr))] sz) (va_A [(h0, .inr (8, fs)), (hd, .inr (4, [.ref hb, .int 0, k2, k3, k4, k5, k6])), (hb, .inl (X.2.1, 150, .inl fb)), (hr, .inl (X.2.1, 3, .inl fr))] sz) s [(h0, .inr (8, fs)), (hr, .inl (X.2.1, 3, .inl fr)), (hd, .inr (4, [.ref hb, .int 1, k2, k3, k4, k5, k6]))] H locs := G
    subst hp_3
    refine lv_if_eq (tgt := 38) zx zb dX10_type_25 (by decide) (fun c_4 => absurd c_4 (by decide)) (fun c_4 => ?_)
    refine lv_aload_n zx zb dX10_type_28 rfl (lv_at hl 0 rfl) ?_
    refine r_get (C := RX10) (T := TX10) (N := 14) (ci := 8) (v := .ref hd) S in_X10_type_X10 G 0 rfl rfl 4 (by decide) lk_X10_type_30 hf4 dX10_type_29 ?_
    refine r_getN (C := RX6) (T := TX6) (N := 7) (ci := 4) (host := "EggSpoons") (v := .int 1) S in_X10_type_X6 G 2 rfl rfl 1 (by decide) G.1.2.2.2.1 rfl dX10_type_32 ?_
    refine lv_goto (tgt := 44) zx zb dX10_type_35 (by decide) ?_
    exact e_int S zr zlk (vp_nar_int _) G () [] rfl (by decide) (Or.inl rfl) (by first | exact (if_pos hw_1).symm | exact (if_neg (fun h => hw_1 h)).symm) dX10_type_44
  · refine lv_if_ne (tgt := 17) zx zb dX10_type_7 (by decide) (fun c_5 => absurd (by decide) c_5) (fun c_5 => ?_)
    refine lv_aload_n zx zb dX10_type_10 rfl (lv_at hl 0 rfl) ?_
    refine lv_bipush (v := (-2)) zx zb dX10_type_11 (by decide) ?_
    refine o_wi (cells' := 0) (slots' := 0) (wr := [(hd, .inr (4, [.ref hb, .int 0, k2, k3, k4, k5, k6])), (hb, .inl (X.2.1, 150, .inl fb))]) G rfl rfl [0, 3] [1, 2] rfl rfl (by decide) (by decide) (n_V (As := [.int (-2)]) (rest := []) (C := RX10) (T := TX10) (N := 14) (ci := 8) S G (c_refuse l X h0 fs hr fr (-2) hf5 H.size) gX10_type_X10_refuse rfl rfl rfl hdV_X10_refuse ⟨Nat.le_of_ble_eq_true rfl, Nat.le_of_ble_eq_true rfl⟩ [0, 3] rfl (by decide) 0 rfl rfl rfl hl.1 (Nat.le_of_ble_eq_true rfl) dX10_type_13 ⟨Nat.le_of_ble_eq_true rfl, Nat.le_of_ble_eq_true rfl⟩) (fun r_6 u_6 H locs hp_6 G => ?_)
    have G : wd X (va_A [(h0, .inr (8, fs)), (hd, .inr (4, [.ref hb, .int 0, k2, k3, k4, k5, k6])), (hb, .inl (X.2.1, 150, .inl fb)), (hr, .inl (X.2.1, 3, .inl fr))] sz) (va_A [(h0, .inr (8, fs)), (hd, .inr (4, [.ref hb, .int 0, k2, k3, k4, k5, k6])), (hb, .inl (X.2.1, 150, .inl fb)), (hr, .inl (X.2.1, 3, .inl fr))] sz) s [(hd, .inr (4, [.ref hb, .int 0, k2, k3, k4, k5, k6])), (hb, .inl (X.2.1, 150, .inl fb))] H locs := G
    subst hp_6
    exact e_int S zr zlk (vp_nar_int _) G () [] rfl (by decide) (Or.inl rfl) (by first | exact (if_pos hw_1).symm | exact (if_neg (fun h => hw_1 h)).symm) dX10_type_16
theorem in_X10_clear_X10 : ∀ w ∈ wsX100, w ∈ wsX10_clear := by decide +kernel
theorem lk_X10_clear_30 : Cond.fieldLink RX10 30 "EggSpoons" "reader" "LEggSpoons$Reader;" ∈ wsX10_clear := by decide +kernel
theorem in_X10_clear_X6 : ∀ w ∈ wsX60, w ∈ wsX10_clear := by decide +kernel
set_option maxHeartbeats 4000000 in
set_option maxRecDepth 100000 in
/-- clear -/
theorem c_clear (l : Launch) (X : EX) (h0 : Nat) (fs : List Value) (hd : Nat) (hb : Nat) (k2 : Value) (k3 : Value) (k4 : Value) (k5 : Value) (k6 : Value) (hf4 : fs[4]? = some (.ref hd)) (sz : Nat) : Met l yX10_clear wsX10_clear ({ frames := 0, cells := 0, slots := 0, locals := 0 } : Room) (pE X [.ref h0] [(h0, .inr (8, fs)), (hd, .inr (4, [.ref hb, .int 0, k2, k3, k4, k5, k6]))] sz) (qI (fun (r : Int32) (u : Unit) => r = 0) X (fun (u : Unit) => []) [(h0, .inr (8, fs)), (hd, .inr (4, [.ref hb, .int 0, k2, k3, k4, k5, k6]))] sz) 0 0 (va_A [(h0, .inr (8, fs)), (hd, .inr (4, [.ref hb, .int 0, k2, k3, k4, k5, k6]))] sz) := by
  refine mk_met (B := (va_A [(h0, .inr (8, fs)), (hd, .inr (4, [.ref hb, .int 0, k2, k3, k4, k5, k6]))] sz)) (A := (va_A [(h0, .inr (8, fs)), (hd, .inr (4, [.ref hb, .int 0, k2, k3, k4, k5, k6]))] sz)) (cc := cX10_clear) (maxL := 2) (ret := (some .int)) (by decide) rfl (Nat.le_of_ble_eq_true rfl) k_w k_a (fun p e s m below meth c S zr zlk znm zsz G ls hl => ?_)
  have S : CallFix p m c cX10_clear 2 s _ wsX10_clear RX10 := S
  have zx := S.1
  have zb := S.2.1
  have hl : lv_has ls 2 [(0, .ref h0)] := hl
  refine lv_aload_n zx zb dX10_clear_0 rfl (lv_at hl 0 rfl) ?_
  refine r_get (C := RX10) (T := TX10) (N := 14) (ci := 8) (v := .ref hd) S in_X10_clear_X10 G 0 rfl rfl 4 (by decide) lk_X10_clear_30 hf4 dX10_clear_1 ?_
  refine r_getN (C := RX6) (T := TX6) (N := 7) (ci := 4) (host := "EggSpoons") (v := .int 0) S in_X10_clear_X6 G 1 rfl rfl 1 (by decide) G.1.2.2.2.1 rfl dX10_clear_4 ?_
  refine lv_istore_n (lv' := [(1, .int 0), (0, .ref h0)]) zx zb dX10_clear_7 rfl hl (by decide) rfl (fun ls hl => ?_)
  refine lv_aload_n zx zb dX10_clear_8 rfl (lv_at hl 1 rfl) ?_
  refine r_get (C := RX10) (T := TX10) (N := 14) (ci := 8) (v := .ref hd) S in_X10_clear_X10 G 0 rfl rfl 4 (by decide) lk_X10_clear_30 hf4 dX10_clear_9 ?_
  refine lv_iconst (v := 0) zx zb dX10_clear_12 (by decide) ?_
  refine r_putN (host := "EggSpoons") (C := RX6) (T := TX6) (N := 7) (ci := 4) (v := .int 0) S in_X10_clear_X6 tyX6_ok nmX6 G 1 rfl rfl 1 (by decide) G.1.2.2.2.1 rfl (vp_nar_int _) rfl (Nat.le_of_ble_eq_true rfl) dX10_clear_13 (fun H locs G => ?_)
  have G : wd X (va_A [(h0, .inr (8, fs)), (hd, .inr (4, [.ref hb, .int 0, k2, k3, k4, k5, k6]))] sz) (va_A [(h0, .inr (8, fs)), (hd, .inr (4, [.ref hb, .int 0, k2, k3, k4, k5, k6]))] sz) s [(h0, .inr (8, fs)), (hd, .inr (4, [.ref hb, .int 0, k2, k3, k4, k5, k6]))] H locs := G
  refine lv_iload_n zx zb dX10_clear_16 rfl (lv_at hl 0 rfl) ?_
  exact e_int S zr zlk (vp_nar_int _) G () [] rfl (by decide) (Or.inl rfl) (rfl) dX10_clear_17
theorem in_X6_skipBlanks_X6 : ∀ w ∈ wsX60, w ∈ wsX6_skipBlanks := by decide +kernel
theorem lk_X6_skipBlanks_19 : Cond.fieldLink RX6 19 "EggSpoons$Reader" "at" "I" ∈ wsX6_skipBlanks := by decide +kernel
theorem lk_X6_skipBlanks_15 : Cond.fieldLink RX6 15 "EggSpoons$Reader" "length" "I" ∈ wsX6_skipBlanks := by decide +kernel
set_option maxHeartbeats 4000000 in
set_option maxRecDepth 100000 in
/-- skipBlanks at the end of an empty text -/
theorem c_skipBlanks (l : Launch) (X : EX) (hd : Nat) (ks : List Value) (hk1 : ks[1]? = some (.int 0)) (hk2 : ks[2]? = some (.int 0)) (sz : Nat) : Met l yX6_skipBlanks wsX6_skipBlanks ({ frames := 0, cells := 0, slots := 0, locals := 0 } : Room) (pE X [.ref hd] [(hd, .inr (4, ks))] sz) (qV (fun (u : Unit) => True) X (fun (u : Unit) => []) [] sz) 0 0 (va_A [] sz) := by
  refine mk_met (B := (fun _ => True)) (A := (va_A [] sz)) (cc := cX6_skipBlanks) (maxL := 1) (ret := none) (by decide) rfl (Nat.le_of_ble_eq_true rfl) k_ro k_a (fun p e s m below meth c S zr zlk znm zsz G ls hl => ?_)
  have S : CallFix p m c cX6_skipBlanks 1 s _ wsX6_skipBlanks RX6 := S
  have zx := S.1
  have zb := S.2.1
  have hl : lv_has ls 1 [(0, .ref hd)] := hl
  refine lv_aload_n zx zb dX6_skipBlanks_0 rfl (lv_at hl 0 rfl) ?_
  refine r_get (C := RX6) (T := TX6) (N := 7) (ci := 4) (v := .int 0) S in_X6_skipBlanks_X6 G 0 rfl rfl 2 (by decide) lk_X6_skipBlanks_19 hk2 dX6_skipBlanks_1 ?_
  refine lv_aload_n zx zb dX6_skipBlanks_4 rfl (lv_at hl 0 rfl) ?_
  refine r_get (C := RX6) (T := TX6) (N := 7) (ci := 4) (v := .int 0) S in_X6_skipBlanks_X6 G 0 rfl rfl 1 (by decide) lk_X6_skipBlanks_15 hk1 dX6_skipBlanks_5 ?_
  refine lv_icmp_ge (tgt := 38) zx zb dX6_skipBlanks_8 (by decide) (fun c_1 => ?_) (fun c_1 => absurd (by decide) c_1)
  exact e_void S zr zlk G () [] rfl (by decide) (Or.inl rfl) (trivial) dX6_skipBlanks_38
theorem hdV_X6_skipBlanks : yX6_skipBlanks.cls = RX6 ∧ yX6_skipBlanks.cls ≠ "java/lang/invoke/MethodHandle" ∧ yX6_skipBlanks.cls ≠ "java/lang/invoke/VarHandle" ∧ (parseMethodDescriptor yX6_skipBlanks.desc).map (fun d => d.parameters.length) = some 0 := by decide +kernel
theorem in_X6_nextToken_X6 : ∀ w ∈ wsX60, w ∈ wsX6_nextToken := by decide +kernel
theorem lk_X6_nextToken_19 : Cond.fieldLink RX6 19 "EggSpoons$Reader" "at" "I" ∈ wsX6_nextToken := by decide +kernel
theorem lk_X6_nextToken_22 : Cond.fieldLink RX6 22 "EggSpoons$Reader" "tokenAt" "I" ∈ wsX6_nextToken := by decide +kernel
theorem lk_X6_nextToken_15 : Cond.fieldLink RX6 15 "EggSpoons$Reader" "length" "I" ∈ wsX6_nextToken := by decide +kernel
theorem lk_X6_nextToken_25 : Cond.fieldLink RX6 25 "EggSpoons$Reader" "sort" "I" ∈ wsX6_nextToken := by decide +kernel
set_option maxHeartbeats 4000000 in
set_option maxRecDepth 100000 in
/-- nextToken of an empty text: its end -/
theorem c_nextToken (l : Launch) (X : EX) (hd : Nat) (k0 : Value) (k3 : Value) (k4 : Value) (k5 : Value) (k6 : Value) (sz : Nat) : Met l yX6_nextToken wsX6_nextToken ({ frames := 1, cells := 0, slots := 0, locals := 20 } : Room) (pE X [.ref hd] [(hd, .inr (4, [k0, .int 0, .int 0, k3, k4, k5, k6]))] sz) (qV (fun (u : Unit) => True) X (fun (u : Unit) => [(hd, .inr (4, [k0, .int 0, .int 0, .int 0, .int 0, k5, k6]))]) [(hd, .inr (4, [k0, .int 0, .int 0, k3, k4, k5, k6]))] sz) 0 0 (va_A [(hd, .inr (4, [k0, .int 0, .int 0, k3, k4, k5, k6]))] sz) := by
  refine mk_met (B := (va_A [(hd, .inr (4, [k0, .int 0, .int 0, k3, k4, k5, k6]))] sz)) (A := (va_A [(hd, .inr (4, [k0, .int 0, .int 0, k3, k4, k5, k6]))] sz)) (cc := cX6_nextToken) (maxL := 1) (ret := none) (by decide) rfl (Nat.le_of_ble_eq_true rfl) k_w k_a (fun p e s m below meth c S zr zlk znm zsz G ls hl => ?_)
  have S : CallFix p m c cX6_nextToken 1 s _ wsX6_nextToken RX6 := S
  have zx := S.1
  have zb := S.2.1
  have hl : lv_has ls 1 [(0, .ref hd)] := hl
  refine lv_aload_n zx zb dX6_nextToken_0 rfl (lv_at hl 0 rfl) ?_
  refine o_rv (cells' := 0) (slots' := 0) G rfl rfl (n_V (As := []) (rest := []) (C := RX6) (T := TX6) (N := 7) (ci := 4) S G (c_skipBlanks l X hd ([k0, .int 0, .int 0, k3, k4, k5, k6]) rfl rfl s.heap.size) gX6_nextToken_X6_skipBlanks rfl rfl rfl hdV_X6_skipBlanks ⟨Nat.le_of_ble_eq_true rfl, Nat.le_of_ble_eq_true rfl⟩ [0] rfl (by decide) 0 rfl rfl rfl hl.1 (Nat.le_of_ble_eq_true rfl) dX6_nextToken_1 ⟨Nat.le_of_ble_eq_true rfl, Nat.le_of_ble_eq_true rfl⟩) (fun u_1 H locs hp_1 G => ?_)
  have G : wd X (va_A [(hd, .inr (4, [k0, .int 0, .int 0, k3, k4, k5, k6]))] sz) (va_A [(hd, .inr (4, [k0, .int 0, .int 0, k3, k4, k5, k6]))] sz) s [(hd, .inr (4, [k0, .int 0, .int 0, k3, k4, k5, k6]))] H locs := G
  refine lv_aload_n zx zb dX6_nextToken_4 rfl (lv_at hl 0 rfl) ?_
  refine lv_aload_n zx zb dX6_nextToken_5 rfl (lv_at hl 0 rfl) ?_
  refine r_get (C := RX6) (T := TX6) (N := 7) (ci := 4) (v := .int 0) S in_X6_nextToken_X6 G 0 rfl rfl 2 (by decide) lk_X6_nextToken_19 rfl dX6_nextToken_6 ?_
  refine r_put (C := RX6) (T := TX6) (N := 7) (ci := 4) (v := .int 0) S in_X6_nextToken_X6 tyX6_ok nmX6 G 0 rfl rfl 3 (by decide) lk_X6_nextToken_22 rfl (vp_nar_int _) rfl (Nat.le_of_ble_eq_true rfl) dX6_nextToken_9 (fun H locs G => ?_)
  have G : wd X (va_A [(hd, .inr (4, [k0, .int 0, .int 0, k3, k4, k5, k6]))] sz) (va_A [(hd, .inr (4, [k0, .int 0, .int 0, k3, k4, k5, k6]))] sz) s [(hd, .inr (4, [k0, .int 0, .int 0, .int 0, k4, k5, k6]))] H locs := G
  refine lv_aload_n zx zb dX6_nextToken_12 rfl (lv_at hl 0 rfl) ?_
  refine r_get (C := RX6) (T := TX6) (N := 7) (ci := 4) (v := .int 0) S in_X6_nextToken_X6 G 0 rfl rfl 2 (by decide) lk_X6_nextToken_19 rfl dX6_nextToken_13 ?_
  refine lv_aload_n zx zb dX6_nextToken_16 rfl (lv_at hl 0 rfl) ?_
  refine r_get (C := RX6) (T := TX6) (N := 7) (ci := 4) (v := .int 0) S in_X6_nextToken_X6 G 0 rfl rfl 1 (by decide) lk_X6_nextToken_15 rfl dX6_nextToken_17 ?_
  refine lv_icmp_lt (tgt := 31) zx zb dX6_nextToken_20 (by decide) (fun c_2 => absurd c_2 (by decide)) (fun c_2 => ?_)
  refine lv_aload_n zx zb dX6_nextToken_23 rfl (lv_at hl 0 rfl) ?_
  refine lv_iconst (v := 0) zx zb dX6_nextToken_24 (by decide) ?_
  refine r_put (C := RX6) (T := TX6) (N := 7) (ci := 4) (v := .int 0) S in_X6_nextToken_X6 tyX6_ok nmX6 G 0 rfl rfl 4 (by decide) lk_X6_nextToken_25 rfl (vp_nar_int _) rfl (Nat.le_of_ble_eq_true rfl) dX6_nextToken_25 (fun H locs G => ?_)
  have G : wd X (va_A [(hd, .inr (4, [k0, .int 0, .int 0, k3, k4, k5, k6]))] sz) (va_A [(hd, .inr (4, [k0, .int 0, .int 0, k3, k4, k5, k6]))] sz) s [(hd, .inr (4, [k0, .int 0, .int 0, .int 0, .int 0, k5, k6]))] H locs := G
  refine lv_goto (tgt := 108) zx zb dX6_nextToken_28 (by decide) ?_
  exact e_void S zr zlk G () [0] rfl (by decide) (Or.inr rfl) (trivial) dX6_nextToken_108
theorem hdV_X6_nextToken : yX6_nextToken.cls = RX6 ∧ yX6_nextToken.cls ≠ "java/lang/invoke/MethodHandle" ∧ yX6_nextToken.cls ≠ "java/lang/invoke/VarHandle" ∧ (parseMethodDescriptor yX6_nextToken.desc).map (fun d => d.parameters.length) = some 0 := by decide +kernel
theorem in_X6_takeItem_X6 : ∀ w ∈ wsX60, w ∈ wsX6_takeItem := by decide +kernel
theorem lk_X6_takeItem_25 : Cond.fieldLink RX6 25 "EggSpoons$Reader" "sort" "I" ∈ wsX6_takeItem := by decide +kernel
theorem lk_X6_takeItem_22 : Cond.fieldLink RX6 22 "EggSpoons$Reader" "tokenAt" "I" ∈ wsX6_takeItem := by decide +kernel
theorem lk_X6_takeItem_31 : Cond.fieldLink RX6 31 "EggSpoons$Reader" "fault" "I" ∈ wsX6_takeItem := by decide +kernel
set_option maxHeartbeats 4000000 in
set_option maxRecDepth 100000 in
/-- takeItem of an empty text: a fault at 0 -/
theorem c_takeItem (l : Launch) (X : EX) (hd : Nat) (k0 : Value) (k3 : Value) (k4 : Value) (k5 : Value) (k6 : Value) (v : Nat) (sz : Nat) : Met l yX6_takeItem wsX6_takeItem ({ frames := 2, cells := 0, slots := 0, locals := 40 } : Room) (pE X [.ref hd, .ref v, .int 1] [(hd, .inr (4, [k0, .int 0, .int 0, k3, k4, k5, k6]))] sz) (qV (fun (u : Unit) => True) X (fun (u : Unit) => [(hd, .inr (4, [k0, .int 0, .int 0, .int 0, .int 0, k5, .int 0]))]) [(hd, .inr (4, [k0, .int 0, .int 0, k3, k4, k5, k6]))] sz) 0 0 (va_A [(hd, .inr (4, [k0, .int 0, .int 0, k3, k4, k5, k6]))] sz) := by
  refine mk_met (B := (va_A [(hd, .inr (4, [k0, .int 0, .int 0, k3, k4, k5, k6]))] sz)) (A := (va_A [(hd, .inr (4, [k0, .int 0, .int 0, k3, k4, k5, k6]))] sz)) (cc := cX6_takeItem) (maxL := 3) (ret := none) (by decide) rfl (Nat.le_of_ble_eq_true rfl) k_w k_a (fun p e s m below meth c S zr zlk znm zsz G ls hl => ?_)
  have S : CallFix p m c cX6_takeItem 3 s _ wsX6_takeItem RX6 := S
  have zx := S.1
  have zb := S.2.1
  have hl : lv_has ls 3 [(0, .ref hd), (1, .ref v), (2, .int 1)] := hl
  refine lv_aload_n zx zb dX6_takeItem_0 rfl (lv_at hl 0 rfl) ?_
  refine o_wv (cells' := 0) (slots' := 0) (wr := []) G rfl rfl [0] [] rfl rfl (by decide) (by decide) (n_V (As := []) (rest := []) (C := RX6) (T := TX6) (N := 7) (ci := 4) S G (c_nextToken l X hd k0 k3 k4 k5 k6 s.heap.size) gX6_takeItem_X6_nextToken rfl rfl rfl hdV_X6_nextToken ⟨Nat.le_of_ble_eq_true rfl, Nat.le_of_ble_eq_true rfl⟩ [0] rfl (by decide) 0 rfl rfl rfl hl.1 (Nat.le_of_ble_eq_true rfl) dX6_takeItem_1 ⟨Nat.le_of_ble_eq_true rfl, Nat.le_of_ble_eq_true rfl⟩) (fun u_1 H locs hp_1 G => ?_)
  have G : wd X (va_A [(hd, .inr (4, [k0, .int 0, .int 0, k3, k4, k5, k6]))] sz) (va_A [(hd, .inr (4, [k0, .int 0, .int 0, k3, k4, k5, k6]))] sz) s [(hd, .inr (4, [k0, .int 0, .int 0, .int 0, .int 0, k5, k6]))] H locs := G
  refine lv_aload_n zx zb dX6_takeItem_4 rfl (lv_at hl 0 rfl) ?_
  refine r_get (C := RX6) (T := TX6) (N := 7) (ci := 4) (v := .int 0) S in_X6_takeItem_X6 G 0 rfl rfl 4 (by decide) lk_X6_takeItem_25 rfl dX6_takeItem_5 ?_
  refine lv_iconst (v := 1) zx zb dX6_takeItem_8 (by decide) ?_
  refine lv_icmp_ne (tgt := 22) zx zb dX6_takeItem_9 (by decide) (fun c_2 => ?_) (fun c_2 => absurd c_2 (by decide))
  refine lv_aload_n zx zb dX6_takeItem_22 rfl (lv_at hl 0 rfl) ?_
  refine lv_aload_n zx zb dX6_takeItem_23 rfl (lv_at hl 0 rfl) ?_
  refine r_get (C := RX6) (T := TX6) (N := 7) (ci := 4) (v := .int 0) S in_X6_takeItem_X6 G 0 rfl rfl 3 (by decide) lk_X6_takeItem_22 rfl dX6_takeItem_24 ?_
  refine r_put (C := RX6) (T := TX6) (N := 7) (ci := 4) (v := .int 0) S in_X6_takeItem_X6 tyX6_ok nmX6 G 0 rfl rfl 6 (by decide) lk_X6_takeItem_31 rfl (vp_nar_int _) rfl (Nat.le_of_ble_eq_true rfl) dX6_takeItem_27 (fun H locs G => ?_)
  have G : wd X (va_A [(hd, .inr (4, [k0, .int 0, .int 0, k3, k4, k5, k6]))] sz) (va_A [(hd, .inr (4, [k0, .int 0, .int 0, k3, k4, k5, k6]))] sz) s [(hd, .inr (4, [k0, .int 0, .int 0, .int 0, .int 0, k5, .int 0]))] H locs := G
  refine lv_goto (tgt := 130) zx zb dX6_takeItem_30 (by decide) ?_
  exact e_void S zr zlk G () [0] rfl (by decide) (Or.inr rfl) (trivial) dX6_takeItem_130
theorem in_X6_takeRace_X6 : ∀ w ∈ wsX60, w ∈ wsX6_takeRace := by decide +kernel
theorem lk_X6_takeRace_19 : Cond.fieldLink RX6 19 "EggSpoons$Reader" "at" "I" ∈ wsX6_takeRace := by decide +kernel
theorem lk_X6_takeRace_31 : Cond.fieldLink RX6 31 "EggSpoons$Reader" "fault" "I" ∈ wsX6_takeRace := by decide +kernel
theorem hdV_X6_takeItem : yX6_takeItem.cls = RX6 ∧ yX6_takeItem.cls ≠ "java/lang/invoke/MethodHandle" ∧ yX6_takeItem.cls ≠ "java/lang/invoke/VarHandle" ∧ (parseMethodDescriptor yX6_takeItem.desc).map (fun d => d.parameters.length) = some 2 := by decide +kernel
set_option maxHeartbeats 4000000 in
set_option maxRecDepth 100000 in
/-- takeRace of an empty text -/
theorem c_takeRace (l : Launch) (X : EX) (hd : Nat) (k0 : Value) (k2 : Value) (k3 : Value) (k4 : Value) (k5 : Value) (k6 : Value) (v : Nat) (sz : Nat) : Met l yX6_takeRace wsX6_takeRace ({ frames := 3, cells := 0, slots := 0, locals := 62 } : Room) (pE X [.ref hd, .ref v] [(hd, .inr (4, [k0, .int 0, k2, k3, k4, k5, k6]))] sz) (qI (fun (r : Int32) (u : Unit) => r = -10) X (fun (u : Unit) => []) [(hd, .inr (4, [k0, .int 0, k2, k3, k4, k5, k6]))] sz) 0 0 (va_A [(hd, .inr (4, [k0, .int 0, k2, k3, k4, k5, k6]))] sz) := by
  refine mk_met (B := (va_A [(hd, .inr (4, [k0, .int 0, k2, k3, k4, k5, k6]))] sz)) (A := (va_A [(hd, .inr (4, [k0, .int 0, k2, k3, k4, k5, k6]))] sz)) (cc := cX6_takeRace) (maxL := 3) (ret := (some .int)) (by decide) rfl (Nat.le_of_ble_eq_true rfl) k_w k_a (fun p e s m below meth c S zr zlk znm zsz G ls hl => ?_)
  have S : CallFix p m c cX6_takeRace 3 s _ wsX6_takeRace RX6 := S
  have zx := S.1
  have zb := S.2.1
  have hl : lv_has ls 3 [(0, .ref hd), (1, .ref v)] := hl
  refine lv_aload_n zx zb dX6_takeRace_0 rfl (lv_at hl 0 rfl) ?_
  refine lv_iconst (v := 0) zx zb dX6_takeRace_1 (by decide) ?_
  refine r_put (C := RX6) (T := TX6) (N := 7) (ci := 4) (v := .int 0) S in_X6_takeRace_X6 tyX6_ok nmX6 G 0 rfl rfl 2 (by decide) lk_X6_takeRace_19 rfl (vp_nar_int _) rfl (Nat.le_of_ble_eq_true rfl) dX6_takeRace_2 (fun H locs G => ?_)
  have G : wd X (va_A [(hd, .inr (4, [k0, .int 0, k2, k3, k4, k5, k6]))] sz) (va_A [(hd, .inr (4, [k0, .int 0, k2, k3, k4, k5, k6]))] sz) s [(hd, .inr (4, [k0, .int 0, .int 0, k3, k4, k5, k6]))] H locs := G
  refine lv_aload_n zx zb dX6_takeRace_5 rfl (lv_at hl 0 rfl) ?_
  refine lv_iconst (v := (-1)) zx zb dX6_takeRace_6 (by decide) ?_
  refine r_put (C := RX6) (T := TX6) (N := 7) (ci := 4) (v := .int (-1)) S in_X6_takeRace_X6 tyX6_ok nmX6 G 0 rfl rfl 6 (by decide) lk_X6_takeRace_31 rfl (vp_nar_int _) rfl (Nat.le_of_ble_eq_true rfl) dX6_takeRace_7 (fun H locs G => ?_)
  have G : wd X (va_A [(hd, .inr (4, [k0, .int 0, k2, k3, k4, k5, k6]))] sz) (va_A [(hd, .inr (4, [k0, .int 0, k2, k3, k4, k5, k6]))] sz) s [(hd, .inr (4, [k0, .int 0, .int 0, k3, k4, k5, .int (-1)]))] H locs := G
  refine lv_iconst (v := 0) zx zb dX6_takeRace_10 (by decide) ?_
  refine lv_istore_n (lv' := [(2, .int 0), (0, .ref hd), (1, .ref v)]) zx zb dX6_takeRace_11 rfl hl (by decide) rfl (fun ls hl => ?_)
  refine lv_aload_n zx zb dX6_takeRace_12 rfl (lv_at hl 1 rfl) ?_
  refine lv_aload_n zx zb dX6_takeRace_13 rfl (lv_at hl 2 rfl) ?_
  refine lv_iload_n zx zb dX6_takeRace_14 rfl (lv_at hl 0 rfl) ?_
  refine lv_if_ne (tgt := 22) zx zb dX6_takeRace_15 (by decide) (fun c_1 => absurd (by decide) c_1) (fun c_1 => ?_)
  refine lv_iconst (v := 1) zx zb dX6_takeRace_18 (by decide) ?_
  refine lv_goto (tgt := 23) zx zb dX6_takeRace_19 (by decide) ?_
  refine o_wv (cells' := 0) (slots' := 0) (wr := []) G rfl rfl [0] [] rfl rfl (by decide) (by decide) (n_V (As := [.ref v, .int 1]) (rest := []) (C := RX6) (T := TX6) (N := 7) (ci := 4) S G (c_takeItem l X hd k0 k3 k4 k5 (.int (-1)) v H.size) gX6_takeRace_X6_takeItem rfl rfl rfl hdV_X6_takeItem ⟨Nat.le_of_ble_eq_true rfl, Nat.le_of_ble_eq_true rfl⟩ [0] rfl (by decide) 0 rfl rfl rfl hl.1 (Nat.le_of_ble_eq_true rfl) dX6_takeRace_23 ⟨Nat.le_of_ble_eq_true rfl, Nat.le_of_ble_eq_true rfl⟩) (fun u_2 H locs hp_2 G => ?_)
  have G : wd X (va_A [(hd, .inr (4, [k0, .int 0, k2, k3, k4, k5, k6]))] sz) (va_A [(hd, .inr (4, [k0, .int 0, k2, k3, k4, k5, k6]))] sz) s [(hd, .inr (4, [k0, .int 0, .int 0, .int 0, .int 0, k5, .int 0]))] H locs := G
  refine lv_iinc (v := 1) (lv' := [(2, .int 1), (0, .ref hd), (1, .ref v)]) zx zb dX6_takeRace_26 hl (k := 0) rfl (by decide) (by decide) rfl (fun ls hl => ?_)
  refine lv_aload_n zx zb dX6_takeRace_29 rfl (lv_at hl 1 rfl) ?_
  refine o_rv (cells' := 0) (slots' := 0) G rfl rfl (n_V (As := []) (rest := []) (C := RX6) (T := TX6) (N := 7) (ci := 4) S G (c_skipBlanks l X hd ([k0, .int 0, .int 0, .int 0, .int 0, k5, .int 0]) rfl rfl H.size) gX6_takeRace_X6_skipBlanks rfl rfl rfl hdV_X6_skipBlanks ⟨Nat.le_of_ble_eq_true rfl, Nat.le_of_ble_eq_true rfl⟩ [0] rfl (by decide) 0 rfl rfl rfl hl.1 (Nat.le_of_ble_eq_true rfl) dX6_takeRace_30 ⟨Nat.le_of_ble_eq_true rfl, Nat.le_of_ble_eq_true rfl⟩) (fun u_3 H locs hp_3 G => ?_)
  have G : wd X (va_A [(hd, .inr (4, [k0, .int 0, k2, k3, k4, k5, k6]))] sz) (va_A [(hd, .inr (4, [k0, .int 0, k2, k3, k4, k5, k6]))] sz) s [(hd, .inr (4, [k0, .int 0, .int 0, .int 0, .int 0, k5, .int 0]))] H locs := G
  refine lv_aload_n zx zb dX6_takeRace_33 rfl (lv_at hl 1 rfl) ?_
  refine r_get (C := RX6) (T := TX6) (N := 7) (ci := 4) (v := .int 0) S in_X6_takeRace_X6 G 0 rfl rfl 6 (by decide) lk_X6_takeRace_31 rfl dX6_takeRace_34 ?_
  refine lv_iconst (v := (-1)) zx zb dX6_takeRace_37 (by decide) ?_
  refine lv_icmp_ne (tgt := 59) zx zb dX6_takeRace_38 (by decide) (fun c_4 => ?_) (fun c_4 => absurd c_4 (by decide))
  refine lv_aload_n zx zb dX6_takeRace_59 rfl (lv_at hl 1 rfl) ?_
  refine r_get (C := RX6) (T := TX6) (N := 7) (ci := 4) (v := .int 0) S in_X6_takeRace_X6 G 0 rfl rfl 6 (by decide) lk_X6_takeRace_31 rfl dX6_takeRace_60 ?_
  refine lv_iconst (v := (-1)) zx zb dX6_takeRace_63 (by decide) ?_
  refine lv_icmp_ne (tgt := 71) zx zb dX6_takeRace_64 (by decide) (fun c_5 => ?_) (fun c_5 => absurd c_5 (by decide))
  refine lv_bipush (v := (-10)) zx zb dX6_takeRace_71 (by decide) ?_
  refine lv_aload_n zx zb dX6_takeRace_73 rfl (lv_at hl 1 rfl) ?_
  refine r_get (C := RX6) (T := TX6) (N := 7) (ci := 4) (v := .int 0) S in_X6_takeRace_X6 G 0 rfl rfl 6 (by decide) lk_X6_takeRace_31 rfl dX6_takeRace_74 ?_
  refine r_isub (v := (-10)) S (by decide) dX6_takeRace_77 ?_
  exact e_int S zr zlk (vp_nar_int _) G () [] rfl (by decide) (Or.inl rfl) (rfl) dX6_takeRace_78
theorem in_X10_read_X10 : ∀ w ∈ wsX100, w ∈ wsX10_read := by decide +kernel
theorem lk_X10_read_30 : Cond.fieldLink RX10 30 "EggSpoons" "reader" "LEggSpoons$Reader;" ∈ wsX10_read := by decide +kernel
theorem lk_X10_read_16 : Cond.fieldLink RX10 16 "EggSpoons" "spare" "LEggSpoons$Race;" ∈ wsX10_read := by decide +kernel
theorem hdV_X6_takeRace : yX6_takeRace.cls = RX6 ∧ yX6_takeRace.cls ≠ "java/lang/invoke/MethodHandle" ∧ yX6_takeRace.cls ≠ "java/lang/invoke/VarHandle" ∧ (parseMethodDescriptor yX6_takeRace.desc).map (fun d => d.parameters.length) = some 1 := by decide +kernel
set_option maxHeartbeats 4000000 in
set_option maxRecDepth 100000 in
/-- read of an empty text -/
theorem c_read (l : Launch) (X : EX) (h0 : Nat) (fs : List Value) (hd : Nat) (hv : Nat) (k0 : Value) (k2 : Value) (k3 : Value) (k4 : Value) (k5 : Value) (k6 : Value) (hf4 : fs[4]? = some (.ref hd)) (hf1 : fs[1]? = some (.ref hv)) (sz : Nat) : Met l yX10_read wsX10_read ({ frames := 4, cells := 0, slots := 0, locals := 84 } : Room) (pE X [.ref h0] [(h0, .inr (8, fs)), (hd, .inr (4, [k0, .int 0, k2, k3, k4, k5, k6]))] sz) (qI (fun (r : Int32) (u : Unit) => r = -10) X (fun (u : Unit) => []) [(h0, .inr (8, fs)), (hd, .inr (4, [k0, .int 0, k2, k3, k4, k5, k6]))] sz) 0 0 (va_A [(h0, .inr (8, fs)), (hd, .inr (4, [k0, .int 0, k2, k3, k4, k5, k6]))] sz) := by
  refine mk_met (B := (va_A [(h0, .inr (8, fs)), (hd, .inr (4, [k0, .int 0, k2, k3, k4, k5, k6]))] sz)) (A := (va_A [(h0, .inr (8, fs)), (hd, .inr (4, [k0, .int 0, k2, k3, k4, k5, k6]))] sz)) (cc := cX10_read) (maxL := 3) (ret := (some .int)) (by decide) rfl (Nat.le_of_ble_eq_true rfl) k_w k_a (fun p e s m below meth c S zr zlk znm zsz G ls hl => ?_)
  have S : CallFix p m c cX10_read 3 s _ wsX10_read RX10 := S
  have zx := S.1
  have zb := S.2.1
  have hl : lv_has ls 3 [(0, .ref h0)] := hl
  refine lv_aload_n zx zb dX10_read_0 rfl (lv_at hl 0 rfl) ?_
  refine r_get (C := RX10) (T := TX10) (N := 14) (ci := 8) (v := .ref hd) S in_X10_read_X10 G 0 rfl rfl 4 (by decide) lk_X10_read_30 hf4 dX10_read_1 ?_
  refine lv_aload_n zx zb dX10_read_4 rfl (lv_at hl 0 rfl) ?_
  refine r_get (C := RX10) (T := TX10) (N := 14) (ci := 8) (v := .ref hv) S in_X10_read_X10 G 0 rfl rfl 1 (by decide) lk_X10_read_16 hf1 dX10_read_5 ?_
  refine o_wi (cells' := 0) (slots' := 0) (wr := [(h0, .inr (8, fs))]) G rfl rfl [1] [0] rfl rfl (by decide) (by decide) (n_V (As := [.ref hv]) (rest := []) (C := RX6) (T := TX6) (N := 7) (ci := 4) S G (c_takeRace l X hd k0 k2 k3 k4 k5 k6 hv s.heap.size) gX10_read_X6_takeRace rfl rfl rfl hdV_X6_takeRace ⟨Nat.le_of_ble_eq_true rfl, Nat.le_of_ble_eq_true rfl⟩ [1] rfl (by decide) 1 rfl rfl rfl hl.1 (Nat.le_of_ble_eq_true rfl) dX10_read_8 ⟨Nat.le_of_ble_eq_true rfl, Nat.le_of_ble_eq_true rfl⟩) (fun r_1 u_1 H locs hp_1 G => ?_)
  have G : wd X (va_A [(h0, .inr (8, fs)), (hd, .inr (4, [k0, .int 0, k2, k3, k4, k5, k6]))] sz) (va_A [(h0, .inr (8, fs)), (hd, .inr (4, [k0, .int 0, k2, k3, k4, k5, k6]))] sz) s [(h0, .inr (8, fs))] H locs := G
  subst hp_1
  refine lv_istore_n (lv' := [(1, .int (-10)), (0, .ref h0)]) zx zb dX10_read_11 rfl hl (by decide) rfl (fun ls hl => ?_)
  refine lv_iload_n zx zb dX10_read_12 rfl (lv_at hl 0 rfl) ?_
  refine lv_if_lt (tgt := 34) zx zb dX10_read_13 (by decide) (fun c_2 => ?_) (fun c_2 => absurd (by decide) c_2)
  refine lv_iload_n zx zb dX10_read_34 rfl (lv_at hl 0 rfl) ?_
  exact e_int S zr zlk (vp_nar_int _) G () [] rfl (by decide) (Or.inl rfl) (rfl) dX10_read_35
theorem in_X4_pop_X4 : ∀ w ∈ wsX40, w ∈ wsX4_pop := by decide +kernel
theorem lk_X4_pop_15 : Cond.fieldLink RX4 15 "EggSpoons$Past" "size" "I" ∈ wsX4_pop := by decide +kernel
set_option maxHeartbeats 4000000 in
set_option maxRecDepth 100000 in
/-- pop of nothing -/
theorem c_pop (l : Launch) (X : EX) (hp : Nat) (bs : List Value) (v : Nat) (hb1 : bs[1]? = some (.int 0)) (sz : Nat) : Met l yX4_pop wsX4_pop ({ frames := 0, cells := 0, slots := 0, locals := 0 } : Room) (pE X [.ref hp, .ref v] [(hp, .inr (2, bs))] sz) (qI (fun (r : Int32) (u : Unit) => r = -1) X (fun (u : Unit) => []) [] sz) 0 0 (va_A [] sz) := by
  refine mk_met (B := (fun _ => True)) (A := (va_A [] sz)) (cc := cX4_pop) (maxL := 5) (ret := (some .int)) (by decide) rfl (Nat.le_of_ble_eq_true rfl) k_ro k_a (fun p e s m below meth c S zr zlk znm zsz G ls hl => ?_)
  have S : CallFix p m c cX4_pop 5 s _ wsX4_pop RX4 := S
  have zx := S.1
  have zb := S.2.1
  have hl : lv_has ls 5 [(0, .ref hp), (1, .ref v)] := hl
  refine lv_aload_n zx zb dX4_pop_0 rfl (lv_at hl 0 rfl) ?_
  refine r_get (C := RX4) (T := TX4) (N := 2) (ci := 2) (v := .int 0) S in_X4_pop_X4 G 0 rfl rfl 1 (by decide) lk_X4_pop_15 hb1 dX4_pop_1 ?_
  refine lv_if_gt (tgt := 9) zx zb dX4_pop_4 (by decide) (fun c_1 => absurd c_1 (by decide)) (fun c_1 => ?_)
  refine lv_iconst (v := (-1)) zx zb dX4_pop_7 (by decide) ?_
  exact e_int S zr zlk (vp_nar_int _) G () [] rfl (by decide) (Or.inl rfl) (rfl) dX4_pop_8
theorem in_X5_takeBack_X5 : ∀ w ∈ wsX50, w ∈ wsX5_takeBack := by decide +kernel
theorem lk_X5_takeBack_30 : Cond.fieldLink RX5 30 "EggSpoons$Race" "past" "LEggSpoons$Past;" ∈ wsX5_takeBack := by decide +kernel
theorem lk_X5_takeBack_23 : Cond.fieldLink RX5 23 "EggSpoons$Race" "row" "[LEggSpoons$Runner;" ∈ wsX5_takeBack := by decide +kernel
theorem hdV_X4_pop : yX4_pop.cls = RX4 ∧ yX4_pop.cls ≠ "java/lang/invoke/MethodHandle" ∧ yX4_pop.cls ≠ "java/lang/invoke/VarHandle" ∧ (parseMethodDescriptor yX4_pop.desc).map (fun d => d.parameters.length) = some 1 := by decide +kernel
set_option maxHeartbeats 4000000 in
set_option maxRecDepth 100000 in
/-- takeBack of nothing -/
theorem c_takeBack (l : Launch) (X : EX) (hn : Nat) (gs : List Value) (hp : Nat) (bs : List Value) (hw : Nat) (hg4 : gs[4]? = some (.ref hp)) (hg3 : gs[3]? = some (.ref hw)) (hb1 : bs[1]? = some (.int 0)) (sz : Nat) : Met l yX5_takeBack wsX5_takeBack ({ frames := 1, cells := 0, slots := 0, locals := 24 } : Room) (pE X [.ref hn] [(hn, .inr (3, gs)), (hp, .inr (2, bs))] sz) (qI (fun (r : Int32) (u : Unit) => r = 0) X (fun (u : Unit) => []) [] sz) 0 0 (va_A [] sz) := by
  refine mk_met (B := (fun _ => True)) (A := (va_A [] sz)) (cc := cX5_takeBack) (maxL := 2) (ret := (some .boolean)) (by decide) rfl (Nat.le_of_ble_eq_true rfl) k_ro k_a (fun p e s m below meth c S zr zlk znm zsz G ls hl => ?_)
  have S : CallFix p m c cX5_takeBack 2 s _ wsX5_takeBack RX5 := S
  have zx := S.1
  have zb := S.2.1
  have hl : lv_has ls 2 [(0, .ref hn)] := hl
  refine lv_aload_n zx zb dX5_takeBack_0 rfl (lv_at hl 0 rfl) ?_
  refine r_get (C := RX5) (T := TX5) (N := 8) (ci := 3) (v := .ref hp) S in_X5_takeBack_X5 G 0 rfl rfl 4 (by decide) lk_X5_takeBack_30 hg4 dX5_takeBack_1 ?_
  refine lv_aload_n zx zb dX5_takeBack_4 rfl (lv_at hl 0 rfl) ?_
  refine r_get (C := RX5) (T := TX5) (N := 8) (ci := 3) (v := .ref hw) S in_X5_takeBack_X5 G 0 rfl rfl 3 (by decide) lk_X5_takeBack_23 hg3 dX5_takeBack_5 ?_
  refine o_ri (cells' := 0) (slots' := 0) G rfl rfl (n_V (As := [.ref hw]) (rest := []) (C := RX4) (T := TX4) (N := 2) (ci := 2) S G (c_pop l X hp bs hw hb1 s.heap.size) gX5_takeBack_X4_pop rfl rfl rfl hdV_X4_pop ⟨Nat.le_of_ble_eq_true rfl, Nat.le_of_ble_eq_true rfl⟩ [1] rfl (by decide) 1 rfl rfl rfl hl.1 (Nat.le_of_ble_eq_true rfl) dX5_takeBack_8 ⟨Nat.le_of_ble_eq_true rfl, Nat.le_of_ble_eq_true rfl⟩) (fun r_1 u_1 H locs hp_1 G => ?_)
  have G : wd X (fun _ => True) (va_A [] sz) s [(hn, .inr (3, gs)), (hp, .inr (2, bs))] H locs := G
  subst hp_1
  refine lv_istore_n (lv' := [(1, .int (-1)), (0, .ref hn)]) zx zb dX5_takeBack_11 rfl hl (by decide) rfl (fun ls hl => ?_)
  refine lv_iload_n zx zb dX5_takeBack_12 rfl (lv_at hl 0 rfl) ?_
  refine lv_iconst (v := (-1)) zx zb dX5_takeBack_13 (by decide) ?_
  refine lv_icmp_ne (tgt := 19) zx zb dX5_takeBack_14 (by decide) (fun c_2 => absurd (by decide) c_2) (fun c_2 => ?_)
  refine lv_iconst (v := 0) zx zb dX5_takeBack_17 (by decide) ?_
  exact e_int S zr zlk (by decide) G () [] rfl (by decide) (Or.inl rfl) (rfl) dX5_takeBack_18
theorem in_X10_undo_X10 : ∀ w ∈ wsX100, w ∈ wsX10_undo := by decide +kernel
theorem lk_X10_undo_10 : Cond.fieldLink RX10 10 "EggSpoons" "now" "LEggSpoons$Race;" ∈ wsX10_undo := by decide +kernel
theorem hdV_X5_takeBack : yX5_takeBack.cls = RX5 ∧ yX5_takeBack.cls ≠ "java/lang/invoke/MethodHandle" ∧ yX5_takeBack.cls ≠ "java/lang/invoke/VarHandle" ∧ (parseMethodDescriptor yX5_takeBack.desc).map (fun d => d.parameters.length) = some 0 := by decide +kernel
set_option maxHeartbeats 4000000 in
set_option maxRecDepth 100000 in
/-- undo of nothing -/
theorem c_undo (l : Launch) (X : EX) (h0 : Nat) (fs : List Value) (hn : Nat) (gs : List Value) (hp : Nat) (bs : List Value) (hw : Nat) (hr : Nat) (fr : Nat → Int32) (hf0 : fs[0]? = some (.ref hn)) (hf5 : fs[5]? = some (.ref hr)) (hg4 : gs[4]? = some (.ref hp)) (hg3 : gs[3]? = some (.ref hw)) (hb1 : bs[1]? = some (.int 0)) (sz : Nat) : Met l yX10_undo wsX10_undo ({ frames := 2, cells := 0, slots := 0, locals := 45 } : Room) (pE X [.ref h0] [(h0, .inr (8, fs)), (hn, .inr (3, gs)), (hp, .inr (2, bs)), (hr, .inl (X.2.1, 3, .inl fr))] sz) (qI (fun (r : Int32) (u : Unit) => r = -3) X (fun (u : Unit) => []) [(h0, .inr (8, fs)), (hn, .inr (3, gs)), (hp, .inr (2, bs)), (hr, .inl (X.2.1, 3, .inl fr))] sz) 0 0 (va_A [(h0, .inr (8, fs)), (hn, .inr (3, gs)), (hp, .inr (2, bs)), (hr, .inl (X.2.1, 3, .inl fr))] sz) := by
  refine mk_met (B := (va_A [(h0, .inr (8, fs)), (hn, .inr (3, gs)), (hp, .inr (2, bs)), (hr, .inl (X.2.1, 3, .inl fr))] sz)) (A := (va_A [(h0, .inr (8, fs)), (hn, .inr (3, gs)), (hp, .inr (2, bs)), (hr, .inl (X.2.1, 3, .inl fr))] sz)) (cc := cX10_undo) (maxL := 1) (ret := (some .int)) (by decide) rfl (Nat.le_of_ble_eq_true rfl) k_w k_a (fun p e s m below meth c S zr zlk znm zsz G ls hl => ?_)
  have S : CallFix p m c cX10_undo 1 s _ wsX10_undo RX10 := S
  have zx := S.1
  have zb := S.2.1
  have hl : lv_has ls 1 [(0, .ref h0)] := hl
  refine lv_aload_n zx zb dX10_undo_0 rfl (lv_at hl 0 rfl) ?_
  refine r_get (C := RX10) (T := TX10) (N := 14) (ci := 8) (v := .ref hn) S in_X10_undo_X10 G 0 rfl rfl 0 (by decide) lk_X10_undo_10 hf0 dX10_undo_1 ?_
  refine o_ri (cells' := 0) (slots' := 0) G rfl rfl (n_V (As := []) (rest := []) (C := RX5) (T := TX5) (N := 8) (ci := 3) S G (c_takeBack l X hn gs hp bs hw hg4 hg3 hb1 s.heap.size) gX10_undo_X5_takeBack rfl rfl rfl hdV_X5_takeBack ⟨Nat.le_of_ble_eq_true rfl, Nat.le_of_ble_eq_true rfl⟩ [1, 2] rfl (by decide) 1 rfl rfl rfl hl.1 (Nat.le_of_ble_eq_true rfl) dX10_undo_4 ⟨Nat.le_of_ble_eq_true rfl, Nat.le_of_ble_eq_true rfl⟩) (fun r_1 u_1 H locs hp_1 G => ?_)
  have G : wd X (va_A [(h0, .inr (8, fs)), (hn, .inr (3, gs)), (hp, .inr (2, bs)), (hr, .inl (X.2.1, 3, .inl fr))] sz) (va_A [(h0, .inr (8, fs)), (hn, .inr (3, gs)), (hp, .inr (2, bs)), (hr, .inl (X.2.1, 3, .inl fr))] sz) s [(h0, .inr (8, fs)), (hn, .inr (3, gs)), (hp, .inr (2, bs)), (hr, .inl (X.2.1, 3, .inl fr))] H locs := G
  subst hp_1
  refine lv_if_eq (tgt := 20) zx zb dX10_undo_7 (by decide) (fun c_2 => ?_) (fun c_2 => absurd (by decide) c_2)
  refine lv_aload_n zx zb dX10_undo_20 rfl (lv_at hl 0 rfl) ?_
  refine lv_bipush (v := (-3)) zx zb dX10_undo_21 (by decide) ?_
  refine o_wi (cells' := 0) (slots' := 0) (wr := [(hn, .inr (3, gs)), (hp, .inr (2, bs))]) G rfl rfl [0, 3] [1, 2] rfl rfl (by decide) (by decide) (n_V (As := [.int (-3)]) (rest := []) (C := RX10) (T := TX10) (N := 14) (ci := 8) S G (c_refuse l X h0 fs hr fr (-3) hf5 H.size) gX10_undo_X10_refuse rfl rfl rfl hdV_X10_refuse ⟨Nat.le_of_ble_eq_true rfl, Nat.le_of_ble_eq_true rfl⟩ [0, 3] rfl (by decide) 0 rfl rfl rfl hl.1 (Nat.le_of_ble_eq_true rfl) dX10_undo_23 ⟨Nat.le_of_ble_eq_true rfl, Nat.le_of_ble_eq_true rfl⟩) (fun r_3 u_3 H locs hp_3 G => ?_)
  have G : wd X (va_A [(h0, .inr (8, fs)), (hn, .inr (3, gs)), (hp, .inr (2, bs)), (hr, .inl (X.2.1, 3, .inl fr))] sz) (va_A [(h0, .inr (8, fs)), (hn, .inr (3, gs)), (hp, .inr (2, bs)), (hr, .inl (X.2.1, 3, .inl fr))] sz) s [(hn, .inr (3, gs)), (hp, .inr (2, bs))] H locs := G
  subst hp_3
  exact e_int S zr zlk (vp_nar_int _) G () [] rfl (by decide) (Or.inl rfl) (rfl) dX10_undo_26
theorem in_X10_first_X10 : ∀ w ∈ wsX100, w ∈ wsX10_first := by decide +kernel
theorem lk_X10_first_10 : Cond.fieldLink RX10 10 "EggSpoons" "now" "LEggSpoons$Race;" ∈ wsX10_first := by decide +kernel
theorem in_X10_first_X5 : ∀ w ∈ wsX50, w ∈ wsX10_first := by decide +kernel
theorem lk_X10_first_87 : Cond.fieldLink RX10 87 "EggSpoons$Race" "runners" "I" ∈ wsX10_first := by decide +kernel
set_option maxHeartbeats 4000000 in
set_option maxRecDepth 100000 in
/-- first, with no runner -/
theorem c_first (l : Launch) (X : EX) (h0 : Nat) (fs : List Value) (hn : Nat) (gs : List Value) (hf0 : fs[0]? = some (.ref hn)) (hg2 : gs[2]? = some (.int 0)) (sz : Nat) : Met l yX10_first wsX10_first ({ frames := 0, cells := 0, slots := 0, locals := 0 } : Room) (pE X [.ref h0] [(h0, .inr (8, fs)), (hn, .inr (3, gs))] sz) (qI (fun (r : Int32) (u : Unit) => r = -1) X (fun (u : Unit) => []) [] sz) 0 0 (va_A [] sz) := by
  refine mk_met (B := (fun _ => True)) (A := (va_A [] sz)) (cc := cX10_first) (maxL := 5) (ret := (some .int)) (by decide) rfl (Nat.le_of_ble_eq_true rfl) k_ro k_a (fun p e s m below meth c S zr zlk znm zsz G ls hl => ?_)
  have S : CallFix p m c cX10_first 5 s _ wsX10_first RX10 := S
  have zx := S.1
  have zb := S.2.1
  have hl : lv_has ls 5 [(0, .ref h0)] := hl
  refine lv_iconst (v := (-1)) zx zb dX10_first_0 (by decide) ?_
  refine lv_istore_n (lv' := [(1, .int (-1)), (0, .ref h0)]) zx zb dX10_first_1 rfl hl (by decide) rfl (fun ls hl => ?_)
  refine lv_bipush (v := 60) zx zb dX10_first_2 (by decide) ?_
  refine lv_istore_n (lv' := [(2, .int 60), (1, .int (-1)), (0, .ref h0)]) zx zb dX10_first_4 rfl hl (by decide) rfl (fun ls hl => ?_)
  refine lv_iconst (v := 0) zx zb dX10_first_5 (by decide) ?_
  refine lv_istore_n (lv' := [(3, .int 0), (2, .int 60), (1, .int (-1)), (0, .ref h0)]) zx zb dX10_first_6 rfl hl (by decide) rfl (fun ls hl => ?_)
  refine lv_iload_n zx zb dX10_first_7 rfl (lv_at hl 0 rfl) ?_
  refine lv_aload_n zx zb dX10_first_8 rfl (lv_at hl 3 rfl) ?_
  refine r_get (C := RX10) (T := TX10) (N := 14) (ci := 8) (v := .ref hn) S in_X10_first_X10 G 0 rfl rfl 0 (by decide) lk_X10_first_10 hf0 dX10_first_9 ?_
  refine r_get (C := RX5) (T := TX5) (N := 8) (ci := 3) (v := .int 0) S in_X10_first_X5 G 1 rfl rfl 2 (by decide) lk_X10_first_87 hg2 dX10_first_12 ?_
  refine lv_icmp_ge (tgt := 64) zx zb dX10_first_15 (by decide) (fun c_1 => ?_) (fun c_1 => absurd (by decide) c_1)
  refine lv_iload_n zx zb dX10_first_64 rfl (lv_at hl 2 rfl) ?_
  exact e_int S zr zlk (vp_nar_int _) G () [] rfl (by decide) (Or.inl rfl) (rfl) dX10_first_65
theorem in_X10_order_X10 : ∀ w ∈ wsX100, w ∈ wsX10_order := by decide +kernel
theorem lk_X10_order_10 : Cond.fieldLink RX10 10 "EggSpoons" "now" "LEggSpoons$Race;" ∈ wsX10_order := by decide +kernel
theorem in_X10_order_X5 : ∀ w ∈ wsX50, w ∈ wsX10_order := by decide +kernel
theorem lk_X10_order_87 : Cond.fieldLink RX10 87 "EggSpoons$Race" "runners" "I" ∈ wsX10_order := by decide +kernel
set_option maxHeartbeats 4000000 in
set_option maxRecDepth 100000 in
/-- order, with no runner -/
theorem c_order (l : Launch) (X : EX) (h0 : Nat) (fs : List Value) (hn : Nat) (gs : List Value) (hr : Nat) (fr : Nat → Int32) (x1 : Int32) (hf0 : fs[0]? = some (.ref hn)) (hf5 : fs[5]? = some (.ref hr)) (hg2 : gs[2]? = some (.int 0)) (sz : Nat) : Met l yX10_order wsX10_order ({ frames := 1, cells := 0, slots := 0, locals := 22 } : Room) (pE X [.ref h0, .int x1] [(h0, .inr (8, fs)), (hn, .inr (3, gs)), (hr, .inl (X.2.1, 3, .inl fr))] sz) (qI (fun (r : Int32) (u : Unit) => r = if x1 < 0 then -2 else -3) X (fun (u : Unit) => []) [(h0, .inr (8, fs)), (hn, .inr (3, gs)), (hr, .inl (X.2.1, 3, .inl fr))] sz) 0 0 (va_A [(h0, .inr (8, fs)), (hn, .inr (3, gs)), (hr, .inl (X.2.1, 3, .inl fr))] sz) := by
  refine mk_met (B := (va_A [(h0, .inr (8, fs)), (hn, .inr (3, gs)), (hr, .inl (X.2.1, 3, .inl fr))] sz)) (A := (va_A [(h0, .inr (8, fs)), (hn, .inr (3, gs)), (hr, .inl (X.2.1, 3, .inl fr))] sz)) (cc := cX10_order) (maxL := 3) (ret := (some .int)) (by decide) rfl (Nat.le_of_ble_eq_true rfl) k_w k_a (fun p e s m below meth c S zr zlk znm zsz G ls hl => ?_)
  have S : CallFix p m c cX10_order 3 s _ wsX10_order RX10 := S
  have zx := S.1
  have zb := S.2.1
  have hl : lv_has ls 3 [(0, .ref h0), (1, .int x1)] := hl
  refine lv_iload_n zx zb dX10_order_0 rfl (lv_at hl 1 rfl) ?_
  refine lv_if_ge (tgt := 11) zx zb dX10_order_1 (by decide) (fun c_1 => ?_) (fun c_1 => ?_)
  · refine lv_iload_n zx zb dX10_order_11 rfl (lv_at hl 1 rfl) ?_
    refine lv_aload_n zx zb dX10_order_12 rfl (lv_at hl 0 rfl) ?_
    refine r_get (C := RX10) (T := TX10) (N := 14) (ci := 8) (v := .ref hn) S in_X10_order_X10 G 0 rfl rfl 0 (by decide) lk_X10_order_10 hf0 dX10_order_13 ?_
    refine r_get (C := RX5) (T := TX5) (N := 8) (ci := 3) (v := .int 0) S in_X10_order_X5 G 1 rfl rfl 2 (by decide) lk_X10_order_87 hg2 dX10_order_16 ?_
    refine lv_icmp_lt (tgt := 29) zx zb dX10_order_19 (by decide) (fun c_2 => absurd c_2 (Int32.not_lt.mpr c_1)) (fun c_2 => ?_)
    refine lv_aload_n zx zb dX10_order_22 rfl (lv_at hl 0 rfl) ?_
    refine lv_bipush (v := (-3)) zx zb dX10_order_23 (by decide) ?_
    refine o_wi (cells' := 0) (slots' := 0) (wr := [(hn, .inr (3, gs))]) G rfl rfl [0, 2] [1] rfl rfl (by decide) (by decide) (n_V (As := [.int (-3)]) (rest := []) (C := RX10) (T := TX10) (N := 14) (ci := 8) S G (c_refuse l X h0 fs hr fr (-3) hf5 s.heap.size) gX10_order_X10_refuse rfl rfl rfl hdV_X10_refuse ⟨Nat.le_of_ble_eq_true rfl, Nat.le_of_ble_eq_true rfl⟩ [0, 2] rfl (by decide) 0 rfl rfl rfl hl.1 (Nat.le_of_ble_eq_true rfl) dX10_order_25 ⟨Nat.le_of_ble_eq_true rfl, Nat.le_of_ble_eq_true rfl⟩) (fun r_3 u_3 H locs hp_3 G => ?_)
    have G : wd X (va_A [(h0, .inr (8, fs)), (hn, .inr (3, gs)), (hr, .inl (X.2.1, 3, .inl fr))] sz) (va_A [(h0, .inr (8, fs)), (hn, .inr (3, gs)), (hr, .inl (X.2.1, 3, .inl fr))] sz) s [(hn, .inr (3, gs))] H locs := G
    subst hp_3
    exact e_int S zr zlk (vp_nar_int _) G () [] rfl (by decide) (Or.inl rfl) (by first | exact (if_neg (Int32.not_lt.mpr c_1)).symm | exact (if_pos (Int32.not_le.mp c_1)).symm) dX10_order_28
  · refine lv_aload_n zx zb dX10_order_4 rfl (lv_at hl 0 rfl) ?_
    refine lv_bipush (v := (-2)) zx zb dX10_order_5 (by decide) ?_
    refine o_wi (cells' := 0) (slots' := 0) (wr := [(hn, .inr (3, gs))]) G rfl rfl [0, 2] [1] rfl rfl (by decide) (by decide) (n_V (As := [.int (-2)]) (rest := []) (C := RX10) (T := TX10) (N := 14) (ci := 8) S G (c_refuse l X h0 fs hr fr (-2) hf5 s.heap.size) gX10_order_X10_refuse rfl rfl rfl hdV_X10_refuse ⟨Nat.le_of_ble_eq_true rfl, Nat.le_of_ble_eq_true rfl⟩ [0, 2] rfl (by decide) 0 rfl rfl rfl hl.1 (Nat.le_of_ble_eq_true rfl) dX10_order_7 ⟨Nat.le_of_ble_eq_true rfl, Nat.le_of_ble_eq_true rfl⟩) (fun r_4 u_4 H locs hp_4 G => ?_)
    have G : wd X (va_A [(h0, .inr (8, fs)), (hn, .inr (3, gs)), (hr, .inl (X.2.1, 3, .inl fr))] sz) (va_A [(h0, .inr (8, fs)), (hn, .inr (3, gs)), (hr, .inl (X.2.1, 3, .inl fr))] sz) s [(hn, .inr (3, gs))] H locs := G
    subst hp_4
    exact e_int S zr zlk (vp_nar_int _) G () [] rfl (by decide) (Or.inl rfl) (by first | exact (if_neg (Int32.not_lt.mpr c_1)).symm | exact (if_pos (Int32.not_le.mp c_1)).symm) dX10_order_10
