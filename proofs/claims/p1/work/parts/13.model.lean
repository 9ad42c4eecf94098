set_option maxHeartbeats 4000000 in
set_option maxRecDepth 100000 in
/-- in -/
theorem m_in (l : Launch) (X : EX) (v : Int32) (lo : Int32) (hi : Int32) (sz : Nat) : Met l yX11_in wsX11_in ({ frames := 0, cells := 0, slots := 0, locals := 0 } : Room) (pE X [.long (Int32.toInt64 v), .long (Int32.toInt64 lo), .long (Int32.toInt64 hi)] [] sz) (qI (fun (r : Int32) (u : Unit) => (r = 1 ∧ (lo ≤ v ∧ v ≤ hi)) ∨ (r = 0 ∧ ¬ (lo ≤ v ∧ v ≤ hi))) X (fun (u : Unit) => []) [] sz) 0 0 (va_A [] sz) := by
  refine mk_met (B := (fun _ => True)) (A := (va_A [] sz)) (cc := cX11_in) (maxL := 6) (ret := (some .boolean)) (by decide) rfl (Nat.le_of_ble_eq_true rfl) k_ro k_a (fun p e s m below meth c S zr zlk znm zsz G ls hl => ?_)
  have S : CallFix p m c cX11_in 6 s _ wsX11_in RX11 := S
  have zx := S.1
  have zb := S.2.1
  have hl : lv_has ls 6 [(0, .long (Int32.toInt64 v)), (2, .long (Int32.toInt64 lo)), (4, .long (Int32.toInt64 hi))] := hl
  refine lv_lload_n zx zb dX11_in_0 rfl (lv_at hl 0 rfl) ?_
  refine lv_lload_n zx zb dX11_in_1 rfl (lv_at hl 1 rfl) ?_
  refine W.lcmp zx zb dX11_in_2 ?_
  refine lv_if_lt (tgt := 17) zx zb dX11_in_3 (by decide) (fun c_1 => ?_) (fun c_1 => ?_)
  · refine lv_iconst (v := 0) zx zb dX11_in_17 (by decide) ?_
    exact e_int S zr zlk (by decide) G () [] rfl (by decide) (Or.inl rfl) (by first | exact Or.inl ⟨rfl, Int32.not_lt.mp (fun q => c_1 (k_lc1.mpr q)), Int32.not_lt.mp (fun q => c_2 (k_lc2.mpr q))⟩ | exact Or.inr ⟨rfl, fun h => absurd (k_lc1.mp c_1) (Int32.not_lt.mpr h.1)⟩ | exact Or.inr ⟨rfl, fun h => absurd (k_lc2.mp c_2) (Int32.not_lt.mpr h.2)⟩) dX11_in_18
  · refine lv_lload_n zx zb dX11_in_6 rfl (lv_at hl 0 rfl) ?_
    refine lv_lload zx zb dX11_in_7 (lv_at hl 2 rfl) ?_
    refine W.lcmp zx zb dX11_in_9 ?_
    refine lv_if_gt (tgt := 17) zx zb dX11_in_10 (by decide) (fun c_2 => ?_) (fun c_2 => ?_)
    · refine lv_iconst (v := 0) zx zb dX11_in_17 (by decide) ?_
      exact e_int S zr zlk (by decide) G () [] rfl (by decide) (Or.inl rfl) (by first | exact Or.inl ⟨rfl, Int32.not_lt.mp (fun q => c_1 (k_lc1.mpr q)), Int32.not_lt.mp (fun q => c_2 (k_lc2.mpr q))⟩ | exact Or.inr ⟨rfl, fun h => absurd (k_lc1.mp c_1) (Int32.not_lt.mpr h.1)⟩ | exact Or.inr ⟨rfl, fun h => absurd (k_lc2.mp c_2) (Int32.not_lt.mpr h.2)⟩) dX11_in_18
    · refine lv_iconst (v := 1) zx zb dX11_in_13 (by decide) ?_
      refine lv_goto (tgt := 18) zx zb dX11_in_14 (by decide) ?_
      exact e_int S zr zlk (by decide) G () [] rfl (by decide) (Or.inl rfl) (by first | exact Or.inl ⟨rfl, Int32.not_lt.mp (fun q => c_1 (k_lc1.mpr q)), Int32.not_lt.mp (fun q => c_2 (k_lc2.mpr q))⟩ | exact Or.inr ⟨rfl, fun h => absurd (k_lc1.mp c_1) (Int32.not_lt.mpr h.1)⟩ | exact Or.inr ⟨rfl, fun h => absurd (k_lc2.mp c_2) (Int32.not_lt.mpr h.2)⟩) dX11_in_18
theorem in_X11_bad_X11 : ∀ w ∈ wsX110, w ∈ wsX11_bad := by decide +kernel
theorem lk_X11_bad_20 : Cond.fieldLink RX11 20 "EggSpoonsModel" "refused" "[I" ∈ wsX11_bad := by decide +kernel
set_option maxHeartbeats 4000000 in
set_option maxRecDepth 100000 in
/-- bad -/
theorem m_bad (l : Launch) (X : EX) (m0 : Nat) (ms : List Value) (hr : Nat) (fr : Nat → Int32) (x : Int32) (hm3 : ms[3]? = some (.ref hr)) (sz : Nat) : Met l yX11_bad wsX11_bad ({ frames := 0, cells := 0, slots := 0, locals := 0 } : Room) (pE X [.ref m0, .int x] [(m0, .inr (9, ms)), (hr, .inl (X.2.1, 3, .inl fr))] sz) (qI (fun (r : Int32) (u : Unit) => r = x) X (fun (u : Unit) => []) [(m0, .inr (9, ms)), (hr, .inl (X.2.1, 3, .inl fr))] sz) 0 0 (va_A [(m0, .inr (9, ms)), (hr, .inl (X.2.1, 3, .inl fr))] sz) := by
  refine mk_met (B := (va_A [(m0, .inr (9, ms)), (hr, .inl (X.2.1, 3, .inl fr))] sz)) (A := (va_A [(m0, .inr (9, ms)), (hr, .inl (X.2.1, 3, .inl fr))] sz)) (cc := cX11_bad) (maxL := 2) (ret := (some .int)) (by decide) rfl (Nat.le_of_ble_eq_true rfl) k_w k_a (fun p e s m below meth c S zr zlk znm zsz G ls hl => ?_)
  have S : CallFix p m c cX11_bad 2 s _ wsX11_bad RX11 := S
  have zx := S.1
  have zb := S.2.1
  have hl : lv_has ls 2 [(0, .ref m0), (1, .int x)] := hl
  refine lv_aload_n zx zb dX11_bad_0 rfl (lv_at hl 0 rfl) ?_
  refine r_get (C := RX11) (T := TX11) (N := 18) (ci := 9) (v := .ref hr) S in_X11_bad_X11 G 0 rfl rfl 3 (by decide) lk_X11_bad_20 hm3 dX11_bad_1 ?_
  refine lv_iconst (v := 0) zx zb dX11_bad_4 (by decide) ?_
  refine lv_dup2_11 zx zb dX11_bad_5 rfl rfl ?_
  refine r_iald (v := (fr 0)) S G 1 rfl (k_vp (by decide)) rfl dX11_bad_6 ?_
  refine lv_iconst (v := 1) zx zb dX11_bad_7 (by decide) ?_
  refine r_iadd (v := ((fr 0) + 1)) S rfl dX11_bad_8 ?_
  refine r_iast S G 1 rfl (k_vp (by decide)) dX11_bad_9 (fun H locs G => ?_)
  obtain ⟨g_1, G⟩ : ∃ g_1 : Nat → Int32, wd X (va_A [(m0, .inr (9, ms)), (hr, .inl (X.2.1, 3, .inl fr))] sz) (va_A [(m0, .inr (9, ms)), (hr, .inl (X.2.1, 3, .inl fr))] sz) s [(m0, .inr (9, ms)), (hr, .inl (X.2.1, 3, .inl g_1))] H locs := ⟨_, G⟩
  refine lv_iload_n zx zb dX11_bad_10 rfl (lv_at hl 1 rfl) ?_
  exact e_int S zr zlk (vp_nar_int _) G () [] rfl (by decide) (Or.inl rfl) (rfl) dX11_bad_11
theorem in_X11_no_X11 : ∀ w ∈ wsX110, w ∈ wsX11_no := by decide +kernel
theorem lk_X11_no_20 : Cond.fieldLink RX11 20 "EggSpoonsModel" "refused" "[I" ∈ wsX11_no := by decide +kernel
set_option maxHeartbeats 4000000 in
set_option maxRecDepth 100000 in
/-- no -/
theorem m_no (l : Launch) (X : EX) (m0 : Nat) (ms : List Value) (hr : Nat) (fr : Nat → Int32) (hm3 : ms[3]? = some (.ref hr)) (sz : Nat) : Met l yX11_no wsX11_no ({ frames := 0, cells := 0, slots := 0, locals := 0 } : Room) (pE X [.ref m0] [(m0, .inr (9, ms)), (hr, .inl (X.2.1, 3, .inl fr))] sz) (qI (fun (r : Int32) (u : Unit) => r = -3) X (fun (u : Unit) => []) [(m0, .inr (9, ms)), (hr, .inl (X.2.1, 3, .inl fr))] sz) 0 0 (va_A [(m0, .inr (9, ms)), (hr, .inl (X.2.1, 3, .inl fr))] sz) := by
  refine mk_met (B := (va_A [(m0, .inr (9, ms)), (hr, .inl (X.2.1, 3, .inl fr))] sz)) (A := (va_A [(m0, .inr (9, ms)), (hr, .inl (X.2.1, 3, .inl fr))] sz)) (cc := cX11_no) (maxL := 1) (ret := (some .int)) (by decide) rfl (Nat.le_of_ble_eq_true rfl) k_w k_a (fun p e s m below meth c S zr zlk znm zsz G ls hl => ?_)
  have S : CallFix p m c cX11_no 1 s _ wsX11_no RX11 := S
  have zx := S.1
  have zb := S.2.1
  have hl : lv_has ls 1 [(0, .ref m0)] := hl
  refine lv_aload_n zx zb dX11_no_0 rfl (lv_at hl 0 rfl) ?_
  refine r_get (C := RX11) (T := TX11) (N := 18) (ci := 9) (v := .ref hr) S in_X11_no_X11 G 0 rfl rfl 3 (by decide) lk_X11_no_20 hm3 dX11_no_1 ?_
  refine lv_iconst (v := 1) zx zb dX11_no_4 (by decide) ?_
  refine lv_dup2_11 zx zb dX11_no_5 rfl rfl ?_
  refine r_iald (v := (fr 1)) S G 1 rfl (k_vp (by decide)) rfl dX11_no_6 ?_
  refine lv_iconst (v := 1) zx zb dX11_no_7 (by decide) ?_
  refine r_iadd (v := ((fr 1) + 1)) S rfl dX11_no_8 ?_
  refine r_iast S G 1 rfl (k_vp (by decide)) dX11_no_9 (fun H locs G => ?_)
  obtain ⟨g_1, G⟩ : ∃ g_1 : Nat → Int32, wd X (va_A [(m0, .inr (9, ms)), (hr, .inl (X.2.1, 3, .inl fr))] sz) (va_A [(m0, .inr (9, ms)), (hr, .inl (X.2.1, 3, .inl fr))] sz) s [(m0, .inr (9, ms)), (hr, .inl (X.2.1, 3, .inl g_1))] H locs := ⟨_, G⟩
  refine lv_bipush (v := (-3)) zx zb dX11_no_10 (by decide) ?_
  exact e_int S zr zlk (vp_nar_int _) G () [] rfl (by decide) (Or.inl rfl) (rfl) dX11_no_12
theorem in_X11_many_X11 : ∀ w ∈ wsX110, w ∈ wsX11_many := by decide +kernel
theorem lk_X11_many_7 : Cond.fieldLink RX11 7 "EggSpoonsModel" "all" "[I" ∈ wsX11_many := by decide +kernel
set_option maxHeartbeats 4000000 in
set_option maxRecDepth 100000 in
/-- many -/
theorem m_many (l : Launch) (X : EX) (m0 : Nat) (ms : List Value) (ha : Nat) (f : Nat → Int32) (z : Int32) (hm0 : ms[0]? = some (.ref ha)) (hfz : f 0 = z) (sz : Nat) : Met l yX11_many wsX11_many ({ frames := 0, cells := 0, slots := 0, locals := 0 } : Room) (pE X [.ref m0] [(m0, .inr (9, ms)), (ha, .inl (X.2.1, 371, .inl f))] sz) (qI (fun (r : Int32) (u : Unit) => r = z) X (fun (u : Unit) => []) [] sz) 0 0 (va_A [] sz) := by
  refine mk_met (B := (fun _ => True)) (A := (va_A [] sz)) (cc := cX11_many) (maxL := 1) (ret := (some .int)) (by decide) rfl (Nat.le_of_ble_eq_true rfl) k_ro k_a (fun p e s m below meth c S zr zlk znm zsz G ls hl => ?_)
  have S : CallFix p m c cX11_many 1 s _ wsX11_many RX11 := S
  have zx := S.1
  have zb := S.2.1
  have hl : lv_has ls 1 [(0, .ref m0)] := hl
  refine lv_aload_n zx zb dX11_many_0 rfl (lv_at hl 0 rfl) ?_
  refine r_get (C := RX11) (T := TX11) (N := 18) (ci := 9) (v := .ref ha) S in_X11_many_X11 G 0 rfl rfl 0 (by decide) lk_X11_many_7 hm0 dX11_many_1 ?_
  refine lv_iconst (v := 0) zx zb dX11_many_4 (by decide) ?_
  refine r_iald (v := z) S G 1 rfl (k_vp (by decide)) hfz dX11_many_5 ?_
  exact e_int S zr zlk (vp_nar_int _) G () [] rfl (by decide) (Or.inl rfl) (rfl) dX11_many_6
theorem hdV_X11_many : yX11_many.cls = RX11 ∧ yX11_many.cls ≠ "java/lang/invoke/MethodHandle" ∧ yX11_many.cls ≠ "java/lang/invoke/VarHandle" ∧ (parseMethodDescriptor yX11_many.desc).map (fun d => d.parameters.length) = some 0 := by decide +kernel
theorem hdS_X11_in : yX11_in.cls ≠ "java/lang/invoke/MethodHandle" ∧ yX11_in.cls ≠ "java/lang/invoke/VarHandle" ∧ (parseMethodDescriptor yX11_in.desc).map (fun d => d.parameters.length) = some 3 := by decide +kernel
set_option maxHeartbeats 4000000 in
set_option maxRecDepth 100000 in
/-- isOne, with no runner -/
theorem m_isOne (l : Launch) (X : EX) (m0 : Nat) (ms : List Value) (ha : Nat) (f : Nat → Int32) (i : Int32) (hm0 : ms[0]? = some (.ref ha)) (hf0 : f 0 = 0) (sz : Nat) : Met l yX11_isOne wsX11_isOne ({ frames := 1, cells := 0, slots := 0, locals := 25 } : Room) (pE X [.ref m0, .int i] [(m0, .inr (9, ms)), (ha, .inl (X.2.1, 371, .inl f))] sz) (qI (fun (r : Int32) (u : Unit) => r = 0) X (fun (u : Unit) => []) [] sz) 0 0 (va_A [] sz) := by
  refine mk_met (B := (fun _ => True)) (A := (va_A [] sz)) (cc := cX11_isOne) (maxL := 2) (ret := (some .boolean)) (by decide) rfl (Nat.le_of_ble_eq_true rfl) k_ro k_a (fun p e s m below meth c S zr zlk znm zsz G ls hl => ?_)
  have S : CallFix p m c cX11_isOne 2 s _ wsX11_isOne RX11 := S
  have zx := S.1
  have zb := S.2.1
  have hl : lv_has ls 2 [(0, .ref m0), (1, .int i)] := hl
  refine lv_iload_n zx zb dX11_isOne_0 rfl (lv_at hl 1 rfl) ?_
  refine lv_i2l (v := (Int32.toInt64 i)) zx zb dX11_isOne_1 rfl ?_
  refine lv_lconst (v := (Int32.toInt64 0)) zx zb dX11_isOne_2 (by decide) ?_
  refine lv_aload_n zx zb dX11_isOne_3 rfl (lv_at hl 0 rfl) ?_
  refine o_ri (cells' := 0) (slots' := 0) G rfl rfl (n_V (As := []) (rest := [.long (Int32.toInt64 0), .long (Int32.toInt64 i)]) (C := RX11) (T := TX11) (N := 18) (ci := 9) S G (m_many l X m0 ms ha f 0 hm0 hf0 s.heap.size) gX11_isOne_X11_many rfl rfl rfl hdV_X11_many ⟨Nat.le_of_ble_eq_true rfl, Nat.le_of_ble_eq_true rfl⟩ [0, 1] rfl (by decide) 0 rfl rfl rfl hl.1 (Nat.le_of_ble_eq_true rfl) dX11_isOne_4 ⟨Nat.le_of_ble_eq_true rfl, Nat.le_of_ble_eq_true rfl⟩) (fun r_1 u_1 H locs hp_1 G => ?_)
  have G : wd X (fun _ => True) (va_A [] sz) s [(m0, .inr (9, ms)), (ha, .inl (X.2.1, 371, .inl f))] H locs := G
  subst hp_1
  refine lv_iconst (v := 1) zx zb dX11_isOne_7 (by decide) ?_
  refine r_isub (v := (-1)) S (by decide) dX11_isOne_8 ?_
  refine lv_i2l (v := (Int32.toInt64 (-1))) zx zb dX11_isOne_9 rfl ?_
  refine o_ri (cells' := 0) (slots' := 0) G rfl rfl (n_S (As := [.long (Int32.toInt64 i), .long (Int32.toInt64 0), .long (Int32.toInt64 (-1))]) (rest := []) S G (m_in l X i 0 (-1) H.size) gX11_isOne_X11_in rfl rfl rfl hdS_X11_in ⟨Nat.le_of_ble_eq_true rfl, Nat.le_of_ble_eq_true rfl⟩ [] rfl (by decide) rfl hl.1 (Nat.le_of_ble_eq_true rfl) dX11_isOne_10 ⟨Nat.le_of_ble_eq_true rfl, Nat.le_of_ble_eq_true rfl⟩) (fun r_2 u_2 H locs hp_2 G => ?_)
  have G : wd X (fun _ => True) (va_A [] sz) s [(m0, .inr (9, ms)), (ha, .inl (X.2.1, 371, .inl f))] H locs := G
  rcases hp_2 with ⟨rfl, hw_2⟩ | ⟨rfl, hw_2⟩
  · exact e_int S zr zlk (by decide) G () [] rfl (by decide) (Or.inl rfl) (by first | rfl | exact absurd (Int32.le_trans hw_2.1 hw_2.2) (by decide)) dX11_isOne_13
  · exact e_int S zr zlk (by decide) G () [] rfl (by decide) (Or.inl rfl) (by first | rfl | exact absurd (Int32.le_trans hw_2.1 hw_2.2) (by decide)) dX11_isOne_13
theorem mm_X11_isKind_c60 : Cond.constantLong RX11 60 (5) ∈ wsX11_isKind := by decide +kernel
set_option maxHeartbeats 4000000 in
set_option maxRecDepth 100000 in
/-- isKind -/
theorem m_isKind (l : Launch) (X : EX) (v : Int32) (sz : Nat) : Met l yX11_isKind wsX11_isKind ({ frames := 1, cells := 0, slots := 0, locals := 25 } : Room) (pE X [.int v] [] sz) (qI (fun (r : Int32) (u : Unit) => (r = 1 ∧ ((0 : Int32) ≤ v ∧ v ≤ 5)) ∨ (r = 0 ∧ ¬ ((0 : Int32) ≤ v ∧ v ≤ 5))) X (fun (u : Unit) => []) [] sz) 0 0 (va_A [] sz) := by
  refine mk_met (B := (fun _ => True)) (A := (va_A [] sz)) (cc := cX11_isKind) (maxL := 1) (ret := (some .boolean)) (by decide) rfl (Nat.le_of_ble_eq_true rfl) k_ro k_a (fun p e s m below meth c S zr zlk znm zsz G ls hl => ?_)
  have S : CallFix p m c cX11_isKind 1 s _ wsX11_isKind RX11 := S
  have zx := S.1
  have zb := S.2.1
  have hl : lv_has ls 1 [(0, .int v)] := hl
  refine lv_iload_n zx zb dX11_isKind_0 rfl (lv_at hl 0 rfl) ?_
  refine lv_i2l (v := (Int32.toInt64 v)) zx zb dX11_isKind_1 rfl ?_
  refine lv_lconst (v := (Int32.toInt64 0)) zx zb dX11_isKind_2 (by decide) ?_
  refine lv_ldc2 zx zb S.2.2.2.1 (S.2.2.2.2 _ mm_X11_isKind_c60) dX11_isKind_3 ?_
  refine k_ld (v := (Int32.toInt64 5)) (by decide) ?_
  refine o_ri (cells' := 0) (slots' := 0) G rfl rfl (n_S (As := [.long (Int32.toInt64 v), .long (Int32.toInt64 0), .long (Int32.toInt64 5)]) (rest := []) S G (m_in l X v 0 5 s.heap.size) gX11_isKind_X11_in rfl rfl rfl hdS_X11_in ⟨Nat.le_of_ble_eq_true rfl, Nat.le_of_ble_eq_true rfl⟩ [] rfl (by decide) rfl hl.1 (Nat.le_of_ble_eq_true rfl) dX11_isKind_6 ⟨Nat.le_of_ble_eq_true rfl, Nat.le_of_ble_eq_true rfl⟩) (fun r_1 u_1 H locs hp_1 G => ?_)
  have G : wd X (fun _ => True) (va_A [] sz) s [] H locs := G
  rcases hp_1 with ⟨rfl, hw_1⟩ | ⟨rfl, hw_1⟩
  · exact e_int S zr zlk (by decide) G () [] rfl (by decide) (Or.inl rfl) (by first | exact Or.inl ⟨rfl, hw_1⟩ | exact Or.inr ⟨rfl, hw_1⟩) dX11_isKind_9
  · exact e_int S zr zlk (by decide) G () [] rfl (by decide) (Or.inl rfl) (by first | exact Or.inl ⟨rfl, hw_1⟩ | exact Or.inr ⟨rfl, hw_1⟩) dX11_isKind_9
theorem mm_X11_isLegs_c62 : Cond.constantLong RX11 62 (9) ∈ wsX11_isLegs := by decide +kernel
set_option maxHeartbeats 4000000 in
set_option maxRecDepth 100000 in
/-- isLegs -/
theorem m_isLegs (l : Launch) (X : EX) (v : Int32) (sz : Nat) : Met l yX11_isLegs wsX11_isLegs ({ frames := 1, cells := 0, slots := 0, locals := 25 } : Room) (pE X [.int v] [] sz) (qI (fun (r : Int32) (u : Unit) => (r = 1 ∧ ((1 : Int32) ≤ v ∧ v ≤ 9)) ∨ (r = 0 ∧ ¬ ((1 : Int32) ≤ v ∧ v ≤ 9))) X (fun (u : Unit) => []) [] sz) 0 0 (va_A [] sz) := by
  refine mk_met (B := (fun _ => True)) (A := (va_A [] sz)) (cc := cX11_isLegs) (maxL := 1) (ret := (some .boolean)) (by decide) rfl (Nat.le_of_ble_eq_true rfl) k_ro k_a (fun p e s m below meth c S zr zlk znm zsz G ls hl => ?_)
  have S : CallFix p m c cX11_isLegs 1 s _ wsX11_isLegs RX11 := S
  have zx := S.1
  have zb := S.2.1
  have hl : lv_has ls 1 [(0, .int v)] := hl
  refine lv_iload_n zx zb dX11_isLegs_0 rfl (lv_at hl 0 rfl) ?_
  refine lv_i2l (v := (Int32.toInt64 v)) zx zb dX11_isLegs_1 rfl ?_
  refine lv_lconst (v := (Int32.toInt64 1)) zx zb dX11_isLegs_2 (by decide) ?_
  refine lv_ldc2 zx zb S.2.2.2.1 (S.2.2.2.2 _ mm_X11_isLegs_c62) dX11_isLegs_3 ?_
  refine k_ld (v := (Int32.toInt64 9)) (by decide) ?_
  refine o_ri (cells' := 0) (slots' := 0) G rfl rfl (n_S (As := [.long (Int32.toInt64 v), .long (Int32.toInt64 1), .long (Int32.toInt64 9)]) (rest := []) S G (m_in l X v 1 9 s.heap.size) gX11_isLegs_X11_in rfl rfl rfl hdS_X11_in ⟨Nat.le_of_ble_eq_true rfl, Nat.le_of_ble_eq_true rfl⟩ [] rfl (by decide) rfl hl.1 (Nat.le_of_ble_eq_true rfl) dX11_isLegs_6 ⟨Nat.le_of_ble_eq_true rfl, Nat.le_of_ble_eq_true rfl⟩) (fun r_1 u_1 H locs hp_1 G => ?_)
  have G : wd X (fun _ => True) (va_A [] sz) s [] H locs := G
  rcases hp_1 with ⟨rfl, hw_1⟩ | ⟨rfl, hw_1⟩
  · exact e_int S zr zlk (by decide) G () [] rfl (by decide) (Or.inl rfl) (by first | exact Or.inl ⟨rfl, hw_1⟩ | exact Or.inr ⟨rfl, hw_1⟩) dX11_isLegs_9
  · exact e_int S zr zlk (by decide) G () [] rfl (by decide) (Or.inl rfl) (by first | exact Or.inl ⟨rfl, hw_1⟩ | exact Or.inr ⟨rfl, hw_1⟩) dX11_isLegs_9
theorem hdV_X11_isOne : yX11_isOne.cls = RX11 ∧ yX11_isOne.cls ≠ "java/lang/invoke/MethodHandle" ∧ yX11_isOne.cls ≠ "java/lang/invoke/VarHandle" ∧ (parseMethodDescriptor yX11_isOne.desc).map (fun d => d.parameters.length) = some 1 := by decide +kernel
theorem hdV_X11_bad : yX11_bad.cls = RX11 ∧ yX11_bad.cls ≠ "java/lang/invoke/MethodHandle" ∧ yX11_bad.cls ≠ "java/lang/invoke/VarHandle" ∧ (parseMethodDescriptor yX11_bad.desc).map (fun d => d.parameters.length) = some 1 := by decide +kernel
set_option maxHeartbeats 4000000 in
set_option maxRecDepth 100000 in
/-- speed, with no runner -/
theorem m_speed (l : Launch) (X : EX) (m0 : Nat) (ms : List Value) (ha : Nat) (f : Nat → Int32) (hr : Nat) (fr : Nat → Int32) (x1 : Int32) (x2 : Int32) (hm0 : ms[0]? = some (.ref ha)) (hm3 : ms[3]? = some (.ref hr)) (hf0 : f 0 = 0) (sz : Nat) : Met l yX11_speed wsX11_speed ({ frames := 2, cells := 0, slots := 0, locals := 46 } : Room) (pE X [.ref m0, .int x1, .int x2] [(m0, .inr (9, ms)), (ha, .inl (X.2.1, 371, .inl f)), (hr, .inl (X.2.1, 3, .inl fr))] sz) (qI (fun (r : Int32) (u : Unit) => r = (-2)) X (fun (u : Unit) => []) [(m0, .inr (9, ms)), (ha, .inl (X.2.1, 371, .inl f)), (hr, .inl (X.2.1, 3, .inl fr))] sz) 0 0 (va_A [(m0, .inr (9, ms)), (ha, .inl (X.2.1, 371, .inl f)), (hr, .inl (X.2.1, 3, .inl fr))] sz) := by
  refine mk_met (B := (va_A [(m0, .inr (9, ms)), (ha, .inl (X.2.1, 371, .inl f)), (hr, .inl (X.2.1, 3, .inl fr))] sz)) (A := (va_A [(m0, .inr (9, ms)), (ha, .inl (X.2.1, 371, .inl f)), (hr, .inl (X.2.1, 3, .inl fr))] sz)) (cc := cX11_speed) (maxL := 4) (ret := (some .int)) (by decide) rfl (Nat.le_of_ble_eq_true rfl) k_w k_a (fun p e s m below meth c S zr zlk znm zsz G ls hl => ?_)
  have S : CallFix p m c cX11_speed 4 s _ wsX11_speed RX11 := S
  have zx := S.1
  have zb := S.2.1
  have hl : lv_has ls 4 [(0, .ref m0), (1, .int x1), (2, .int x2)] := hl
  refine lv_aload_n zx zb dX11_speed_0 rfl (lv_at hl 0 rfl) ?_
  refine lv_iload_n zx zb dX11_speed_1 rfl (lv_at hl 1 rfl) ?_
  refine o_ri (cells' := 0) (slots' := 0) G rfl rfl (n_V (As := [.int x1]) (rest := []) (C := RX11) (T := TX11) (N := 18) (ci := 9) S G (m_isOne l X m0 ms ha f x1 hm0 hf0 s.heap.size) gX11_speed_X11_isOne rfl rfl rfl hdV_X11_isOne ⟨Nat.le_of_ble_eq_true rfl, Nat.le_of_ble_eq_true rfl⟩ [0, 1] rfl (by decide) 0 rfl rfl rfl hl.1 (Nat.le_of_ble_eq_true rfl) dX11_speed_2 ⟨Nat.le_of_ble_eq_true rfl, Nat.le_of_ble_eq_true rfl⟩) (fun r_1 u_1 H locs hp_1 G => ?_)
  have G : wd X (va_A [(m0, .inr (9, ms)), (ha, .inl (X.2.1, 371, .inl f)), (hr, .inl (X.2.1, 3, .inl fr))] sz) (va_A [(m0, .inr (9, ms)), (ha, .inl (X.2.1, 371, .inl f)), (hr, .inl (X.2.1, 3, .inl fr))] sz) s [(m0, .inr (9, ms)), (ha, .inl (X.2.1, 371, .inl f)), (hr, .inl (X.2.1, 3, .inl fr))] H locs := G
  subst hp_1
  refine lv_if_eq (tgt := 15) zx zb dX11_speed_5 (by decide) (fun c_2 => ?_) (fun c_2 => absurd (by decide) c_2)
  refine lv_aload_n zx zb dX11_speed_15 rfl (lv_at hl 0 rfl) ?_
  refine lv_bipush (v := (-2)) zx zb dX11_speed_16 (by decide) ?_
  refine o_wi (cells' := 0) (slots' := 0) (wr := [(ha, .inl (X.2.1, 371, .inl f))]) G rfl rfl [0, 2] [1] rfl rfl (by decide) (by decide) (n_V (As := [.int (-2)]) (rest := []) (C := RX11) (T := TX11) (N := 18) (ci := 9) S G (m_bad l X m0 ms hr fr (-2) hm3 H.size) gX11_speed_X11_bad rfl rfl rfl hdV_X11_bad ⟨Nat.le_of_ble_eq_true rfl, Nat.le_of_ble_eq_true rfl⟩ [0, 2] rfl (by decide) 0 rfl rfl rfl hl.1 (Nat.le_of_ble_eq_true rfl) dX11_speed_18 ⟨Nat.le_of_ble_eq_true rfl, Nat.le_of_ble_eq_true rfl⟩) (fun r_3 u_3 H locs hp_3 G => ?_)
  have G : wd X (va_A [(m0, .inr (9, ms)), (ha, .inl (X.2.1, 371, .inl f)), (hr, .inl (X.2.1, 3, .inl fr))] sz) (va_A [(m0, .inr (9, ms)), (ha, .inl (X.2.1, 371, .inl f)), (hr, .inl (X.2.1, 3, .inl fr))] sz) s [(ha, .inl (X.2.1, 371, .inl f))] H locs := G
  subst hp_3
  exact e_int S zr zlk (vp_nar_int _) G () [] rfl (by decide) (Or.inl rfl) (rfl) dX11_speed_21
set_option maxHeartbeats 4000000 in
set_option maxRecDepth 100000 in
/-- start, with no runner -/
theorem m_start (l : Launch) (X : EX) (m0 : Nat) (ms : List Value) (ha : Nat) (f : Nat → Int32) (hr : Nat) (fr : Nat → Int32) (x1 : Int32) (x2 : Int32) (hm0 : ms[0]? = some (.ref ha)) (hm3 : ms[3]? = some (.ref hr)) (hf0 : f 0 = 0) (sz : Nat) : Met l yX11_start wsX11_start ({ frames := 2, cells := 0, slots := 0, locals := 46 } : Room) (pE X [.ref m0, .int x1, .int x2] [(m0, .inr (9, ms)), (ha, .inl (X.2.1, 371, .inl f)), (hr, .inl (X.2.1, 3, .inl fr))] sz) (qI (fun (r : Int32) (u : Unit) => r = (-2)) X (fun (u : Unit) => []) [(m0, .inr (9, ms)), (ha, .inl (X.2.1, 371, .inl f)), (hr, .inl (X.2.1, 3, .inl fr))] sz) 0 0 (va_A [(m0, .inr (9, ms)), (ha, .inl (X.2.1, 371, .inl f)), (hr, .inl (X.2.1, 3, .inl fr))] sz) := by
  refine mk_met (B := (va_A [(m0, .inr (9, ms)), (ha, .inl (X.2.1, 371, .inl f)), (hr, .inl (X.2.1, 3, .inl fr))] sz)) (A := (va_A [(m0, .inr (9, ms)), (ha, .inl (X.2.1, 371, .inl f)), (hr, .inl (X.2.1, 3, .inl fr))] sz)) (cc := cX11_start) (maxL := 3) (ret := (some .int)) (by decide) rfl (Nat.le_of_ble_eq_true rfl) k_w k_a (fun p e s m below meth c S zr zlk znm zsz G ls hl => ?_)
  have S : CallFix p m c cX11_start 3 s _ wsX11_start RX11 := S
  have zx := S.1
  have zb := S.2.1
  have hl : lv_has ls 3 [(0, .ref m0), (1, .int x1), (2, .int x2)] := hl
  refine lv_aload_n zx zb dX11_start_0 rfl (lv_at hl 0 rfl) ?_
  refine lv_iload_n zx zb dX11_start_1 rfl (lv_at hl 1 rfl) ?_
  refine o_ri (cells' := 0) (slots' := 0) G rfl rfl (n_V (As := [.int x1]) (rest := []) (C := RX11) (T := TX11) (N := 18) (ci := 9) S G (m_isOne l X m0 ms ha f x1 hm0 hf0 s.heap.size) gX11_start_X11_isOne rfl rfl rfl hdV_X11_isOne ⟨Nat.le_of_ble_eq_true rfl, Nat.le_of_ble_eq_true rfl⟩ [0, 1] rfl (by decide) 0 rfl rfl rfl hl.1 (Nat.le_of_ble_eq_true rfl) dX11_start_2 ⟨Nat.le_of_ble_eq_true rfl, Nat.le_of_ble_eq_true rfl⟩) (fun r_1 u_1 H locs hp_1 G => ?_)
  have G : wd X (va_A [(m0, .inr (9, ms)), (ha, .inl (X.2.1, 371, .inl f)), (hr, .inl (X.2.1, 3, .inl fr))] sz) (va_A [(m0, .inr (9, ms)), (ha, .inl (X.2.1, 371, .inl f)), (hr, .inl (X.2.1, 3, .inl fr))] sz) s [(m0, .inr (9, ms)), (ha, .inl (X.2.1, 371, .inl f)), (hr, .inl (X.2.1, 3, .inl fr))] H locs := G
  subst hp_1
  refine lv_if_eq (tgt := 20) zx zb dX11_start_5 (by decide) (fun c_2 => ?_) (fun c_2 => absurd (by decide) c_2)
  refine lv_aload_n zx zb dX11_start_20 rfl (lv_at hl 0 rfl) ?_
  refine lv_bipush (v := (-2)) zx zb dX11_start_21 (by decide) ?_
  refine o_wi (cells' := 0) (slots' := 0) (wr := [(ha, .inl (X.2.1, 371, .inl f))]) G rfl rfl [0, 2] [1] rfl rfl (by decide) (by decide) (n_V (As := [.int (-2)]) (rest := []) (C := RX11) (T := TX11) (N := 18) (ci := 9) S G (m_bad l X m0 ms hr fr (-2) hm3 H.size) gX11_start_X11_bad rfl rfl rfl hdV_X11_bad ⟨Nat.le_of_ble_eq_true rfl, Nat.le_of_ble_eq_true rfl⟩ [0, 2] rfl (by decide) 0 rfl rfl rfl hl.1 (Nat.le_of_ble_eq_true rfl) dX11_start_23 ⟨Nat.le_of_ble_eq_true rfl, Nat.le_of_ble_eq_true rfl⟩) (fun r_3 u_3 H locs hp_3 G => ?_)
  have G : wd X (va_A [(m0, .inr (9, ms)), (ha, .inl (X.2.1, 371, .inl f)), (hr, .inl (X.2.1, 3, .inl fr))] sz) (va_A [(m0, .inr (9, ms)), (ha, .inl (X.2.1, 371, .inl f)), (hr, .inl (X.2.1, 3, .inl fr))] sz) s [(ha, .inl (X.2.1, 371, .inl f))] H locs := G
  subst hp_3
  exact e_int S zr zlk (vp_nar_int _) G () [] rfl (by decide) (Or.inl rfl) (rfl) dX11_start_26
set_option maxHeartbeats 4000000 in
set_option maxRecDepth 100000 in
/-- of, with no runner -/
theorem m_of (l : Launch) (X : EX) (m0 : Nat) (ms : List Value) (ha : Nat) (f : Nat → Int32) (hr : Nat) (fr : Nat → Int32) (x1 : Int32) (x2 : Int32) (hm0 : ms[0]? = some (.ref ha)) (hm3 : ms[3]? = some (.ref hr)) (hf0 : f 0 = 0) (sz : Nat) : Met l yX11_of wsX11_of ({ frames := 2, cells := 0, slots := 0, locals := 46 } : Room) (pE X [.ref m0, .int x1, .int x2] [(m0, .inr (9, ms)), (ha, .inl (X.2.1, 371, .inl f)), (hr, .inl (X.2.1, 3, .inl fr))] sz) (qI (fun (r : Int32) (u : Unit) => r = (-2)) X (fun (u : Unit) => []) [(m0, .inr (9, ms)), (ha, .inl (X.2.1, 371, .inl f)), (hr, .inl (X.2.1, 3, .inl fr))] sz) 0 0 (va_A [(m0, .inr (9, ms)), (ha, .inl (X.2.1, 371, .inl f)), (hr, .inl (X.2.1, 3, .inl fr))] sz) := by
  refine mk_met (B := (va_A [(m0, .inr (9, ms)), (ha, .inl (X.2.1, 371, .inl f)), (hr, .inl (X.2.1, 3, .inl fr))] sz)) (A := (va_A [(m0, .inr (9, ms)), (ha, .inl (X.2.1, 371, .inl f)), (hr, .inl (X.2.1, 3, .inl fr))] sz)) (cc := cX11_of) (maxL := 3) (ret := (some .int)) (by decide) rfl (Nat.le_of_ble_eq_true rfl) k_w k_a (fun p e s m below meth c S zr zlk znm zsz G ls hl => ?_)
  have S : CallFix p m c cX11_of 3 s _ wsX11_of RX11 := S
  have zx := S.1
  have zb := S.2.1
  have hl : lv_has ls 3 [(0, .ref m0), (1, .int x1), (2, .int x2)] := hl
  refine lv_aload_n zx zb dX11_of_0 rfl (lv_at hl 0 rfl) ?_
  refine lv_iload_n zx zb dX11_of_1 rfl (lv_at hl 1 rfl) ?_
  refine o_ri (cells' := 0) (slots' := 0) G rfl rfl (n_V (As := [.int x1]) (rest := []) (C := RX11) (T := TX11) (N := 18) (ci := 9) S G (m_isOne l X m0 ms ha f x1 hm0 hf0 s.heap.size) gX11_of_X11_isOne rfl rfl rfl hdV_X11_isOne ⟨Nat.le_of_ble_eq_true rfl, Nat.le_of_ble_eq_true rfl⟩ [0, 1] rfl (by decide) 0 rfl rfl rfl hl.1 (Nat.le_of_ble_eq_true rfl) dX11_of_2 ⟨Nat.le_of_ble_eq_true rfl, Nat.le_of_ble_eq_true rfl⟩) (fun r_1 u_1 H locs hp_1 G => ?_)
  have G : wd X (va_A [(m0, .inr (9, ms)), (ha, .inl (X.2.1, 371, .inl f)), (hr, .inl (X.2.1, 3, .inl fr))] sz) (va_A [(m0, .inr (9, ms)), (ha, .inl (X.2.1, 371, .inl f)), (hr, .inl (X.2.1, 3, .inl fr))] sz) s [(m0, .inr (9, ms)), (ha, .inl (X.2.1, 371, .inl f)), (hr, .inl (X.2.1, 3, .inl fr))] H locs := G
  subst hp_1
  refine lv_if_eq (tgt := 29) zx zb dX11_of_5 (by decide) (fun c_2 => ?_) (fun c_2 => absurd (by decide) c_2)
  refine lv_aload_n zx zb dX11_of_29 rfl (lv_at hl 0 rfl) ?_
  refine lv_bipush (v := (-2)) zx zb dX11_of_30 (by decide) ?_
  refine o_wi (cells' := 0) (slots' := 0) (wr := [(ha, .inl (X.2.1, 371, .inl f))]) G rfl rfl [0, 2] [1] rfl rfl (by decide) (by decide) (n_V (As := [.int (-2)]) (rest := []) (C := RX11) (T := TX11) (N := 18) (ci := 9) S G (m_bad l X m0 ms hr fr (-2) hm3 H.size) gX11_of_X11_bad rfl rfl rfl hdV_X11_bad ⟨Nat.le_of_ble_eq_true rfl, Nat.le_of_ble_eq_true rfl⟩ [0, 2] rfl (by decide) 0 rfl rfl rfl hl.1 (Nat.le_of_ble_eq_true rfl) dX11_of_32 ⟨Nat.le_of_ble_eq_true rfl, Nat.le_of_ble_eq_true rfl⟩) (fun r_3 u_3 H locs hp_3 G => ?_)
  have G : wd X (va_A [(m0, .inr (9, ms)), (ha, .inl (X.2.1, 371, .inl f)), (hr, .inl (X.2.1, 3, .inl fr))] sz) (va_A [(m0, .inr (9, ms)), (ha, .inl (X.2.1, 371, .inl f)), (hr, .inl (X.2.1, 3, .inl fr))] sz) s [(ha, .inl (X.2.1, 371, .inl f))] H locs := G
  subst hp_3
  exact e_int S zr zlk (vp_nar_int _) G () [] rfl (by decide) (Or.inl rfl) (rfl) dX11_of_35
set_option maxHeartbeats 4000000 in
set_option maxRecDepth 100000 in
/-- where, with no runner -/
theorem m_where (l : Launch) (X : EX) (m0 : Nat) (ms : List Value) (ha : Nat) (f : Nat → Int32) (hr : Nat) (fr : Nat → Int32) (x1 : Int32) (x2 : Int32) (hm0 : ms[0]? = some (.ref ha)) (hm3 : ms[3]? = some (.ref hr)) (hf0 : f 0 = 0) (sz : Nat) : Met l yX11_where wsX11_where ({ frames := 2, cells := 0, slots := 0, locals := 46 } : Room) (pE X [.ref m0, .int x1, .int x2] [(m0, .inr (9, ms)), (ha, .inl (X.2.1, 371, .inl f)), (hr, .inl (X.2.1, 3, .inl fr))] sz) (qI (fun (r : Int32) (u : Unit) => r = (-2)) X (fun (u : Unit) => []) [(m0, .inr (9, ms)), (ha, .inl (X.2.1, 371, .inl f)), (hr, .inl (X.2.1, 3, .inl fr))] sz) 0 0 (va_A [(m0, .inr (9, ms)), (ha, .inl (X.2.1, 371, .inl f)), (hr, .inl (X.2.1, 3, .inl fr))] sz) := by
  refine mk_met (B := (va_A [(m0, .inr (9, ms)), (ha, .inl (X.2.1, 371, .inl f)), (hr, .inl (X.2.1, 3, .inl fr))] sz)) (A := (va_A [(m0, .inr (9, ms)), (ha, .inl (X.2.1, 371, .inl f)), (hr, .inl (X.2.1, 3, .inl fr))] sz)) (cc := cX11_where) (maxL := 3) (ret := (some .int)) (by decide) rfl (Nat.le_of_ble_eq_true rfl) k_w k_a (fun p e s m below meth c S zr zlk znm zsz G ls hl => ?_)
  have S : CallFix p m c cX11_where 3 s _ wsX11_where RX11 := S
  have zx := S.1
  have zb := S.2.1
  have hl : lv_has ls 3 [(0, .ref m0), (1, .int x1), (2, .int x2)] := hl
  refine lv_aload_n zx zb dX11_where_0 rfl (lv_at hl 0 rfl) ?_
  refine lv_iload_n zx zb dX11_where_1 rfl (lv_at hl 1 rfl) ?_
  refine o_ri (cells' := 0) (slots' := 0) G rfl rfl (n_V (As := [.int x1]) (rest := []) (C := RX11) (T := TX11) (N := 18) (ci := 9) S G (m_isOne l X m0 ms ha f x1 hm0 hf0 s.heap.size) gX11_where_X11_isOne rfl rfl rfl hdV_X11_isOne ⟨Nat.le_of_ble_eq_true rfl, Nat.le_of_ble_eq_true rfl⟩ [0, 1] rfl (by decide) 0 rfl rfl rfl hl.1 (Nat.le_of_ble_eq_true rfl) dX11_where_2 ⟨Nat.le_of_ble_eq_true rfl, Nat.le_of_ble_eq_true rfl⟩) (fun r_1 u_1 H locs hp_1 G => ?_)
  have G : wd X (va_A [(m0, .inr (9, ms)), (ha, .inl (X.2.1, 371, .inl f)), (hr, .inl (X.2.1, 3, .inl fr))] sz) (va_A [(m0, .inr (9, ms)), (ha, .inl (X.2.1, 371, .inl f)), (hr, .inl (X.2.1, 3, .inl fr))] sz) s [(m0, .inr (9, ms)), (ha, .inl (X.2.1, 371, .inl f)), (hr, .inl (X.2.1, 3, .inl fr))] H locs := G
  subst hp_1
  refine lv_if_eq (tgt := 20) zx zb dX11_where_5 (by decide) (fun c_2 => ?_) (fun c_2 => absurd (by decide) c_2)
  refine lv_aload_n zx zb dX11_where_20 rfl (lv_at hl 0 rfl) ?_
  refine lv_bipush (v := (-2)) zx zb dX11_where_21 (by decide) ?_
  refine o_wi (cells' := 0) (slots' := 0) (wr := [(ha, .inl (X.2.1, 371, .inl f))]) G rfl rfl [0, 2] [1] rfl rfl (by decide) (by decide) (n_V (As := [.int (-2)]) (rest := []) (C := RX11) (T := TX11) (N := 18) (ci := 9) S G (m_bad l X m0 ms hr fr (-2) hm3 H.size) gX11_where_X11_bad rfl rfl rfl hdV_X11_bad ⟨Nat.le_of_ble_eq_true rfl, Nat.le_of_ble_eq_true rfl⟩ [0, 2] rfl (by decide) 0 rfl rfl rfl hl.1 (Nat.le_of_ble_eq_true rfl) dX11_where_23 ⟨Nat.le_of_ble_eq_true rfl, Nat.le_of_ble_eq_true rfl⟩) (fun r_3 u_3 H locs hp_3 G => ?_)
  have G : wd X (va_A [(m0, .inr (9, ms)), (ha, .inl (X.2.1, 371, .inl f)), (hr, .inl (X.2.1, 3, .inl fr))] sz) (va_A [(m0, .inr (9, ms)), (ha, .inl (X.2.1, 371, .inl f)), (hr, .inl (X.2.1, 3, .inl fr))] sz) s [(ha, .inl (X.2.1, 371, .inl f))] H locs := G
  subst hp_3
  exact e_int S zr zlk (vp_nar_int _) G () [] rfl (by decide) (Or.inl rfl) (rfl) dX11_where_26
set_option maxHeartbeats 4000000 in
set_option maxRecDepth 100000 in
/-- home, with no runner -/
theorem m_home (l : Launch) (X : EX) (m0 : Nat) (ms : List Value) (ha : Nat) (f : Nat → Int32) (hr : Nat) (fr : Nat → Int32) (x1 : Int32) (hm0 : ms[0]? = some (.ref ha)) (hm3 : ms[3]? = some (.ref hr)) (hf0 : f 0 = 0) (sz : Nat) : Met l yX11_home wsX11_home ({ frames := 2, cells := 0, slots := 0, locals := 46 } : Room) (pE X [.ref m0, .int x1] [(m0, .inr (9, ms)), (ha, .inl (X.2.1, 371, .inl f)), (hr, .inl (X.2.1, 3, .inl fr))] sz) (qI (fun (r : Int32) (u : Unit) => r = (-2)) X (fun (u : Unit) => []) [(m0, .inr (9, ms)), (ha, .inl (X.2.1, 371, .inl f)), (hr, .inl (X.2.1, 3, .inl fr))] sz) 0 0 (va_A [(m0, .inr (9, ms)), (ha, .inl (X.2.1, 371, .inl f)), (hr, .inl (X.2.1, 3, .inl fr))] sz) := by
  refine mk_met (B := (va_A [(m0, .inr (9, ms)), (ha, .inl (X.2.1, 371, .inl f)), (hr, .inl (X.2.1, 3, .inl fr))] sz)) (A := (va_A [(m0, .inr (9, ms)), (ha, .inl (X.2.1, 371, .inl f)), (hr, .inl (X.2.1, 3, .inl fr))] sz)) (cc := cX11_home) (maxL := 2) (ret := (some .int)) (by decide) rfl (Nat.le_of_ble_eq_true rfl) k_w k_a (fun p e s m below meth c S zr zlk znm zsz G ls hl => ?_)
  have S : CallFix p m c cX11_home 2 s _ wsX11_home RX11 := S
  have zx := S.1
  have zb := S.2.1
  have hl : lv_has ls 2 [(0, .ref m0), (1, .int x1)] := hl
  refine lv_aload_n zx zb dX11_home_0 rfl (lv_at hl 0 rfl) ?_
  refine lv_iload_n zx zb dX11_home_1 rfl (lv_at hl 1 rfl) ?_
  refine o_ri (cells' := 0) (slots' := 0) G rfl rfl (n_V (As := [.int x1]) (rest := []) (C := RX11) (T := TX11) (N := 18) (ci := 9) S G (m_isOne l X m0 ms ha f x1 hm0 hf0 s.heap.size) gX11_home_X11_isOne rfl rfl rfl hdV_X11_isOne ⟨Nat.le_of_ble_eq_true rfl, Nat.le_of_ble_eq_true rfl⟩ [0, 1] rfl (by decide) 0 rfl rfl rfl hl.1 (Nat.le_of_ble_eq_true rfl) dX11_home_2 ⟨Nat.le_of_ble_eq_true rfl, Nat.le_of_ble_eq_true rfl⟩) (fun r_1 u_1 H locs hp_1 G => ?_)
  have G : wd X (va_A [(m0, .inr (9, ms)), (ha, .inl (X.2.1, 371, .inl f)), (hr, .inl (X.2.1, 3, .inl fr))] sz) (va_A [(m0, .inr (9, ms)), (ha, .inl (X.2.1, 371, .inl f)), (hr, .inl (X.2.1, 3, .inl fr))] sz) s [(m0, .inr (9, ms)), (ha, .inl (X.2.1, 371, .inl f)), (hr, .inl (X.2.1, 3, .inl fr))] H locs := G
  subst hp_1
  refine lv_if_eq (tgt := 16) zx zb dX11_home_5 (by decide) (fun c_2 => ?_) (fun c_2 => absurd (by decide) c_2)
  refine lv_aload_n zx zb dX11_home_16 rfl (lv_at hl 0 rfl) ?_
  refine lv_bipush (v := (-2)) zx zb dX11_home_17 (by decide) ?_
  refine o_wi (cells' := 0) (slots' := 0) (wr := [(ha, .inl (X.2.1, 371, .inl f))]) G rfl rfl [0, 2] [1] rfl rfl (by decide) (by decide) (n_V (As := [.int (-2)]) (rest := []) (C := RX11) (T := TX11) (N := 18) (ci := 9) S G (m_bad l X m0 ms hr fr (-2) hm3 H.size) gX11_home_X11_bad rfl rfl rfl hdV_X11_bad ⟨Nat.le_of_ble_eq_true rfl, Nat.le_of_ble_eq_true rfl⟩ [0, 2] rfl (by decide) 0 rfl rfl rfl hl.1 (Nat.le_of_ble_eq_true rfl) dX11_home_19 ⟨Nat.le_of_ble_eq_true rfl, Nat.le_of_ble_eq_true rfl⟩) (fun r_3 u_3 H locs hp_3 G => ?_)
  have G : wd X (va_A [(m0, .inr (9, ms)), (ha, .inl (X.2.1, 371, .inl f)), (hr, .inl (X.2.1, 3, .inl fr))] sz) (va_A [(m0, .inr (9, ms)), (ha, .inl (X.2.1, 371, .inl f)), (hr, .inl (X.2.1, 3, .inl fr))] sz) s [(ha, .inl (X.2.1, 371, .inl f))] H locs := G
  subst hp_3
  exact e_int S zr zlk (vp_nar_int _) G () [] rfl (by decide) (Or.inl rfl) (rfl) dX11_home_22
set_option maxHeartbeats 4000000 in
set_option maxRecDepth 100000 in
/-- best, with no runner -/
theorem m_best (l : Launch) (X : EX) (m0 : Nat) (ms : List Value) (ha : Nat) (f : Nat → Int32) (hr : Nat) (fr : Nat → Int32) (x1 : Int32) (x2 : Int32) (hm0 : ms[0]? = some (.ref ha)) (hm3 : ms[3]? = some (.ref hr)) (hf0 : f 0 = 0) (sz : Nat) : Met l yX11_best wsX11_best ({ frames := 2, cells := 0, slots := 0, locals := 46 } : Room) (pE X [.ref m0, .int x1, .int x2] [(m0, .inr (9, ms)), (ha, .inl (X.2.1, 371, .inl f)), (hr, .inl (X.2.1, 3, .inl fr))] sz) (qI (fun (r : Int32) (u : Unit) => r = (-2)) X (fun (u : Unit) => []) [(m0, .inr (9, ms)), (ha, .inl (X.2.1, 371, .inl f)), (hr, .inl (X.2.1, 3, .inl fr))] sz) 0 0 (va_A [(m0, .inr (9, ms)), (ha, .inl (X.2.1, 371, .inl f)), (hr, .inl (X.2.1, 3, .inl fr))] sz) := by
  refine mk_met (B := (va_A [(m0, .inr (9, ms)), (ha, .inl (X.2.1, 371, .inl f)), (hr, .inl (X.2.1, 3, .inl fr))] sz)) (A := (va_A [(m0, .inr (9, ms)), (ha, .inl (X.2.1, 371, .inl f)), (hr, .inl (X.2.1, 3, .inl fr))] sz)) (cc := cX11_best) (maxL := 7) (ret := (some .int)) (by decide) rfl (Nat.le_of_ble_eq_true rfl) k_w k_a (fun p e s m below meth c S zr zlk znm zsz G ls hl => ?_)
  have S : CallFix p m c cX11_best 7 s _ wsX11_best RX11 := S
  have zx := S.1
  have zb := S.2.1
  have hl : lv_has ls 7 [(0, .ref m0), (1, .int x1), (2, .int x2)] := hl
  refine lv_aload_n zx zb dX11_best_0 rfl (lv_at hl 0 rfl) ?_
  refine lv_iload_n zx zb dX11_best_1 rfl (lv_at hl 1 rfl) ?_
  refine o_ri (cells' := 0) (slots' := 0) G rfl rfl (n_V (As := [.int x1]) (rest := []) (C := RX11) (T := TX11) (N := 18) (ci := 9) S G (m_isOne l X m0 ms ha f x1 hm0 hf0 s.heap.size) gX11_best_X11_isOne rfl rfl rfl hdV_X11_isOne ⟨Nat.le_of_ble_eq_true rfl, Nat.le_of_ble_eq_true rfl⟩ [0, 1] rfl (by decide) 0 rfl rfl rfl hl.1 (Nat.le_of_ble_eq_true rfl) dX11_best_2 ⟨Nat.le_of_ble_eq_true rfl, Nat.le_of_ble_eq_true rfl⟩) (fun r_1 u_1 H locs hp_1 G => ?_)
  have G : wd X (va_A [(m0, .inr (9, ms)), (ha, .inl (X.2.1, 371, .inl f)), (hr, .inl (X.2.1, 3, .inl fr))] sz) (va_A [(m0, .inr (9, ms)), (ha, .inl (X.2.1, 371, .inl f)), (hr, .inl (X.2.1, 3, .inl fr))] sz) s [(m0, .inr (9, ms)), (ha, .inl (X.2.1, 371, .inl f)), (hr, .inl (X.2.1, 3, .inl fr))] H locs := G
  subst hp_1
  refine lv_if_eq (tgt := 18) zx zb dX11_best_5 (by decide) (fun c_2 => ?_) (fun c_2 => absurd (by decide) c_2)
  refine lv_aload_n zx zb dX11_best_18 rfl (lv_at hl 0 rfl) ?_
  refine lv_bipush (v := (-2)) zx zb dX11_best_19 (by decide) ?_
  refine o_wi (cells' := 0) (slots' := 0) (wr := [(ha, .inl (X.2.1, 371, .inl f))]) G rfl rfl [0, 2] [1] rfl rfl (by decide) (by decide) (n_V (As := [.int (-2)]) (rest := []) (C := RX11) (T := TX11) (N := 18) (ci := 9) S G (m_bad l X m0 ms hr fr (-2) hm3 H.size) gX11_best_X11_bad rfl rfl rfl hdV_X11_bad ⟨Nat.le_of_ble_eq_true rfl, Nat.le_of_ble_eq_true rfl⟩ [0, 2] rfl (by decide) 0 rfl rfl rfl hl.1 (Nat.le_of_ble_eq_true rfl) dX11_best_21 ⟨Nat.le_of_ble_eq_true rfl, Nat.le_of_ble_eq_true rfl⟩) (fun r_3 u_3 H locs hp_3 G => ?_)
  have G : wd X (va_A [(m0, .inr (9, ms)), (ha, .inl (X.2.1, 371, .inl f)), (hr, .inl (X.2.1, 3, .inl fr))] sz) (va_A [(m0, .inr (9, ms)), (ha, .inl (X.2.1, 371, .inl f)), (hr, .inl (X.2.1, 3, .inl fr))] sz) s [(ha, .inl (X.2.1, 371, .inl f))] H locs := G
  subst hp_3
  exact e_int S zr zlk (vp_nar_int _) G () [] rfl (by decide) (Or.inl rfl) (rfl) dX11_best_24
set_option maxHeartbeats 4000000 in
set_option maxRecDepth 100000 in
/-- turn, with no runner -/
theorem m_turn (l : Launch) (X : EX) (m0 : Nat) (ms : List Value) (ha : Nat) (f : Nat → Int32) (hr : Nat) (fr : Nat → Int32) (x1 : Int32) (x2 : Int32) (x3 : Int32) (hm0 : ms[0]? = some (.ref ha)) (hm3 : ms[3]? = some (.ref hr)) (hf0 : f 0 = 0) (sz : Nat) : Met l yX11_turn wsX11_turn ({ frames := 2, cells := 0, slots := 0, locals := 46 } : Room) (pE X [.ref m0, .int x1, .int x2, .int x3] [(m0, .inr (9, ms)), (ha, .inl (X.2.1, 371, .inl f)), (hr, .inl (X.2.1, 3, .inl fr))] sz) (qI (fun (r : Int32) (u : Unit) => r = (-2)) X (fun (u : Unit) => []) [(m0, .inr (9, ms)), (ha, .inl (X.2.1, 371, .inl f)), (hr, .inl (X.2.1, 3, .inl fr))] sz) 0 0 (va_A [(m0, .inr (9, ms)), (ha, .inl (X.2.1, 371, .inl f)), (hr, .inl (X.2.1, 3, .inl fr))] sz) := by
  refine mk_met (B := (va_A [(m0, .inr (9, ms)), (ha, .inl (X.2.1, 371, .inl f)), (hr, .inl (X.2.1, 3, .inl fr))] sz)) (A := (va_A [(m0, .inr (9, ms)), (ha, .inl (X.2.1, 371, .inl f)), (hr, .inl (X.2.1, 3, .inl fr))] sz)) (cc := cX11_turn) (maxL := 8) (ret := (some .int)) (by decide) rfl (Nat.le_of_ble_eq_true rfl) k_w k_a (fun p e s m below meth c S zr zlk znm zsz G ls hl => ?_)
  have S : CallFix p m c cX11_turn 8 s _ wsX11_turn RX11 := S
  have zx := S.1
  have zb := S.2.1
  have hl : lv_has ls 8 [(0, .ref m0), (1, .int x1), (2, .int x2), (3, .int x3)] := hl
  refine lv_aload_n zx zb dX11_turn_0 rfl (lv_at hl 0 rfl) ?_
  refine lv_iload_n zx zb dX11_turn_1 rfl (lv_at hl 1 rfl) ?_
  refine o_ri (cells' := 0) (slots' := 0) G rfl rfl (n_V (As := [.int x1]) (rest := []) (C := RX11) (T := TX11) (N := 18) (ci := 9) S G (m_isOne l X m0 ms ha f x1 hm0 hf0 s.heap.size) gX11_turn_X11_isOne rfl rfl rfl hdV_X11_isOne ⟨Nat.le_of_ble_eq_true rfl, Nat.le_of_ble_eq_true rfl⟩ [0, 1] rfl (by decide) 0 rfl rfl rfl hl.1 (Nat.le_of_ble_eq_true rfl) dX11_turn_2 ⟨Nat.le_of_ble_eq_true rfl, Nat.le_of_ble_eq_true rfl⟩) (fun r_1 u_1 H locs hp_1 G => ?_)
  have G : wd X (va_A [(m0, .inr (9, ms)), (ha, .inl (X.2.1, 371, .inl f)), (hr, .inl (X.2.1, 3, .inl fr))] sz) (va_A [(m0, .inr (9, ms)), (ha, .inl (X.2.1, 371, .inl f)), (hr, .inl (X.2.1, 3, .inl fr))] sz) s [(m0, .inr (9, ms)), (ha, .inl (X.2.1, 371, .inl f)), (hr, .inl (X.2.1, 3, .inl fr))] H locs := G
  subst hp_1
  refine lv_if_eq (tgt := 25) zx zb dX11_turn_5 (by decide) (fun c_2 => ?_) (fun c_2 => absurd (by decide) c_2)
  refine lv_aload_n zx zb dX11_turn_25 rfl (lv_at hl 0 rfl) ?_
  refine lv_bipush (v := (-2)) zx zb dX11_turn_26 (by decide) ?_
  refine o_wi (cells' := 0) (slots' := 0) (wr := [(ha, .inl (X.2.1, 371, .inl f))]) G rfl rfl [0, 2] [1] rfl rfl (by decide) (by decide) (n_V (As := [.int (-2)]) (rest := []) (C := RX11) (T := TX11) (N := 18) (ci := 9) S G (m_bad l X m0 ms hr fr (-2) hm3 H.size) gX11_turn_X11_bad rfl rfl rfl hdV_X11_bad ⟨Nat.le_of_ble_eq_true rfl, Nat.le_of_ble_eq_true rfl⟩ [0, 2] rfl (by decide) 0 rfl rfl rfl hl.1 (Nat.le_of_ble_eq_true rfl) dX11_turn_28 ⟨Nat.le_of_ble_eq_true rfl, Nat.le_of_ble_eq_true rfl⟩) (fun r_3 u_3 H locs hp_3 G => ?_)
  have G : wd X (va_A [(m0, .inr (9, ms)), (ha, .inl (X.2.1, 371, .inl f)), (hr, .inl (X.2.1, 3, .inl fr))] sz) (va_A [(m0, .inr (9, ms)), (ha, .inl (X.2.1, 371, .inl f)), (hr, .inl (X.2.1, 3, .inl fr))] sz) s [(ha, .inl (X.2.1, 371, .inl f))] H locs := G
  subst hp_3
  exact e_int S zr zlk (vp_nar_int _) G () [] rfl (by decide) (Or.inl rfl) (rfl) dX11_turn_31
set_option maxHeartbeats 4000000 in
set_option maxRecDepth 100000 in
/-- beats, with no runner -/
theorem m_beats (l : Launch) (X : EX) (m0 : Nat) (ms : List Value) (ha : Nat) (f : Nat → Int32) (hr : Nat) (fr : Nat → Int32) (x1 : Int32) (x2 : Int32) (hm0 : ms[0]? = some (.ref ha)) (hm3 : ms[3]? = some (.ref hr)) (hf0 : f 0 = 0) (sz : Nat) : Met l yX11_beats wsX11_beats ({ frames := 2, cells := 0, slots := 0, locals := 46 } : Room) (pE X [.ref m0, .int x1, .int x2] [(m0, .inr (9, ms)), (ha, .inl (X.2.1, 371, .inl f)), (hr, .inl (X.2.1, 3, .inl fr))] sz) (qI (fun (r : Int32) (u : Unit) => r = (-2)) X (fun (u : Unit) => []) [(m0, .inr (9, ms)), (ha, .inl (X.2.1, 371, .inl f)), (hr, .inl (X.2.1, 3, .inl fr))] sz) 0 0 (va_A [(m0, .inr (9, ms)), (ha, .inl (X.2.1, 371, .inl f)), (hr, .inl (X.2.1, 3, .inl fr))] sz) := by
  refine mk_met (B := (va_A [(m0, .inr (9, ms)), (ha, .inl (X.2.1, 371, .inl f)), (hr, .inl (X.2.1, 3, .inl fr))] sz)) (A := (va_A [(m0, .inr (9, ms)), (ha, .inl (X.2.1, 371, .inl f)), (hr, .inl (X.2.1, 3, .inl fr))] sz)) (cc := cX11_beats) (maxL := 6) (ret := (some .int)) (by decide) rfl (Nat.le_of_ble_eq_true rfl) k_w k_a (fun p e s m below meth c S zr zlk znm zsz G ls hl => ?_)
  have S : CallFix p m c cX11_beats 6 s _ wsX11_beats RX11 := S
  have zx := S.1
  have zb := S.2.1
  have hl : lv_has ls 6 [(0, .ref m0), (1, .int x1), (2, .int x2)] := hl
  refine lv_aload_n zx zb dX11_beats_0 rfl (lv_at hl 0 rfl) ?_
  refine lv_iload_n zx zb dX11_beats_1 rfl (lv_at hl 1 rfl) ?_
  refine o_ri (cells' := 0) (slots' := 0) G rfl rfl (n_V (As := [.int x1]) (rest := []) (C := RX11) (T := TX11) (N := 18) (ci := 9) S G (m_isOne l X m0 ms ha f x1 hm0 hf0 s.heap.size) gX11_beats_X11_isOne rfl rfl rfl hdV_X11_isOne ⟨Nat.le_of_ble_eq_true rfl, Nat.le_of_ble_eq_true rfl⟩ [0, 1] rfl (by decide) 0 rfl rfl rfl hl.1 (Nat.le_of_ble_eq_true rfl) dX11_beats_2 ⟨Nat.le_of_ble_eq_true rfl, Nat.le_of_ble_eq_true rfl⟩) (fun r_1 u_1 H locs hp_1 G => ?_)
  have G : wd X (va_A [(m0, .inr (9, ms)), (ha, .inl (X.2.1, 371, .inl f)), (hr, .inl (X.2.1, 3, .inl fr))] sz) (va_A [(m0, .inr (9, ms)), (ha, .inl (X.2.1, 371, .inl f)), (hr, .inl (X.2.1, 3, .inl fr))] sz) s [(m0, .inr (9, ms)), (ha, .inl (X.2.1, 371, .inl f)), (hr, .inl (X.2.1, 3, .inl fr))] H locs := G
  subst hp_1
  refine lv_if_eq (tgt := 21) zx zb dX11_beats_5 (by decide) (fun c_2 => ?_) (fun c_2 => absurd (by decide) c_2)
  refine lv_aload_n zx zb dX11_beats_21 rfl (lv_at hl 0 rfl) ?_
  refine lv_bipush (v := (-2)) zx zb dX11_beats_22 (by decide) ?_
  refine o_wi (cells' := 0) (slots' := 0) (wr := [(ha, .inl (X.2.1, 371, .inl f))]) G rfl rfl [0, 2] [1] rfl rfl (by decide) (by decide) (n_V (As := [.int (-2)]) (rest := []) (C := RX11) (T := TX11) (N := 18) (ci := 9) S G (m_bad l X m0 ms hr fr (-2) hm3 H.size) gX11_beats_X11_bad rfl rfl rfl hdV_X11_bad ⟨Nat.le_of_ble_eq_true rfl, Nat.le_of_ble_eq_true rfl⟩ [0, 2] rfl (by decide) 0 rfl rfl rfl hl.1 (Nat.le_of_ble_eq_true rfl) dX11_beats_24 ⟨Nat.le_of_ble_eq_true rfl, Nat.le_of_ble_eq_true rfl⟩) (fun r_3 u_3 H locs hp_3 G => ?_)
  have G : wd X (va_A [(m0, .inr (9, ms)), (ha, .inl (X.2.1, 371, .inl f)), (hr, .inl (X.2.1, 3, .inl fr))] sz) (va_A [(m0, .inr (9, ms)), (ha, .inl (X.2.1, 371, .inl f)), (hr, .inl (X.2.1, 3, .inl fr))] sz) s [(ha, .inl (X.2.1, 371, .inl f))] H locs := G
  subst hp_3
  exact e_int S zr zlk (vp_nar_int _) G () [] rfl (by decide) (Or.inl rfl) (rfl) dX11_beats_27
set_option maxHeartbeats 4000000 in
set_option maxRecDepth 100000 in
/-- close, with no runner -/
theorem m_close (l : Launch) (X : EX) (m0 : Nat) (ms : List Value) (ha : Nat) (f : Nat → Int32) (hr : Nat) (fr : Nat → Int32) (x1 : Int32) (x2 : Int32) (x3 : Int32) (hm0 : ms[0]? = some (.ref ha)) (hm3 : ms[3]? = some (.ref hr)) (hf0 : f 0 = 0) (sz : Nat) : Met l yX11_close wsX11_close ({ frames := 2, cells := 0, slots := 0, locals := 46 } : Room) (pE X [.ref m0, .int x1, .int x2, .int x3] [(m0, .inr (9, ms)), (ha, .inl (X.2.1, 371, .inl f)), (hr, .inl (X.2.1, 3, .inl fr))] sz) (qI (fun (r : Int32) (u : Unit) => r = (-2)) X (fun (u : Unit) => []) [(m0, .inr (9, ms)), (ha, .inl (X.2.1, 371, .inl f)), (hr, .inl (X.2.1, 3, .inl fr))] sz) 0 0 (va_A [(m0, .inr (9, ms)), (ha, .inl (X.2.1, 371, .inl f)), (hr, .inl (X.2.1, 3, .inl fr))] sz) := by
  refine mk_met (B := (va_A [(m0, .inr (9, ms)), (ha, .inl (X.2.1, 371, .inl f)), (hr, .inl (X.2.1, 3, .inl fr))] sz)) (A := (va_A [(m0, .inr (9, ms)), (ha, .inl (X.2.1, 371, .inl f)), (hr, .inl (X.2.1, 3, .inl fr))] sz)) (cc := cX11_close) (maxL := 8) (ret := (some .int)) (by decide) rfl (Nat.le_of_ble_eq_true rfl) k_w k_a (fun p e s m below meth c S zr zlk znm zsz G ls hl => ?_)
  have S : CallFix p m c cX11_close 8 s _ wsX11_close RX11 := S
  have zx := S.1
  have zb := S.2.1
  have hl : lv_has ls 8 [(0, .ref m0), (1, .int x1), (2, .int x2), (3, .int x3)] := hl
  refine lv_aload_n zx zb dX11_close_0 rfl (lv_at hl 0 rfl) ?_
  refine lv_iload_n zx zb dX11_close_1 rfl (lv_at hl 1 rfl) ?_
  refine o_ri (cells' := 0) (slots' := 0) G rfl rfl (n_V (As := [.int x1]) (rest := []) (C := RX11) (T := TX11) (N := 18) (ci := 9) S G (m_isOne l X m0 ms ha f x1 hm0 hf0 s.heap.size) gX11_close_X11_isOne rfl rfl rfl hdV_X11_isOne ⟨Nat.le_of_ble_eq_true rfl, Nat.le_of_ble_eq_true rfl⟩ [0, 1] rfl (by decide) 0 rfl rfl rfl hl.1 (Nat.le_of_ble_eq_true rfl) dX11_close_2 ⟨Nat.le_of_ble_eq_true rfl, Nat.le_of_ble_eq_true rfl⟩) (fun r_1 u_1 H locs hp_1 G => ?_)
  have G : wd X (va_A [(m0, .inr (9, ms)), (ha, .inl (X.2.1, 371, .inl f)), (hr, .inl (X.2.1, 3, .inl fr))] sz) (va_A [(m0, .inr (9, ms)), (ha, .inl (X.2.1, 371, .inl f)), (hr, .inl (X.2.1, 3, .inl fr))] sz) s [(m0, .inr (9, ms)), (ha, .inl (X.2.1, 371, .inl f)), (hr, .inl (X.2.1, 3, .inl fr))] H locs := G
  subst hp_1
  refine lv_if_eq (tgt := 31) zx zb dX11_close_5 (by decide) (fun c_2 => ?_) (fun c_2 => absurd (by decide) c_2)
  refine lv_aload_n zx zb dX11_close_31 rfl (lv_at hl 0 rfl) ?_
  refine lv_bipush (v := (-2)) zx zb dX11_close_32 (by decide) ?_
  refine o_wi (cells' := 0) (slots' := 0) (wr := [(ha, .inl (X.2.1, 371, .inl f))]) G rfl rfl [0, 2] [1] rfl rfl (by decide) (by decide) (n_V (As := [.int (-2)]) (rest := []) (C := RX11) (T := TX11) (N := 18) (ci := 9) S G (m_bad l X m0 ms hr fr (-2) hm3 H.size) gX11_close_X11_bad rfl rfl rfl hdV_X11_bad ⟨Nat.le_of_ble_eq_true rfl, Nat.le_of_ble_eq_true rfl⟩ [0, 2] rfl (by decide) 0 rfl rfl rfl hl.1 (Nat.le_of_ble_eq_true rfl) dX11_close_34 ⟨Nat.le_of_ble_eq_true rfl, Nat.le_of_ble_eq_true rfl⟩) (fun r_3 u_3 H locs hp_3 G => ?_)
  have G : wd X (va_A [(m0, .inr (9, ms)), (ha, .inl (X.2.1, 371, .inl f)), (hr, .inl (X.2.1, 3, .inl fr))] sz) (va_A [(m0, .inr (9, ms)), (ha, .inl (X.2.1, 371, .inl f)), (hr, .inl (X.2.1, 3, .inl fr))] sz) s [(ha, .inl (X.2.1, 371, .inl f))] H locs := G
  subst hp_3
  exact e_int S zr zlk (vp_nar_int _) G () [] rfl (by decide) (Or.inl rfl) (rfl) dX11_close_37
set_option maxHeartbeats 4000000 in
set_option maxRecDepth 100000 in
/-- seen, with no runner -/
theorem m_seen (l : Launch) (X : EX) (m0 : Nat) (ms : List Value) (ha : Nat) (f : Nat → Int32) (hr : Nat) (fr : Nat → Int32) (x1 : Int32) (x2 : Int32) (x3 : Int32) (x4 : Int32) (hm0 : ms[0]? = some (.ref ha)) (hm3 : ms[3]? = some (.ref hr)) (hf0 : f 0 = 0) (sz : Nat) : Met l yX11_seen wsX11_seen ({ frames := 2, cells := 0, slots := 0, locals := 46 } : Room) (pE X [.ref m0, .int x1, .int x2, .int x3, .int x4] [(m0, .inr (9, ms)), (ha, .inl (X.2.1, 371, .inl f)), (hr, .inl (X.2.1, 3, .inl fr))] sz) (qI (fun (r : Int32) (u : Unit) => r = (-2)) X (fun (u : Unit) => []) [(m0, .inr (9, ms)), (ha, .inl (X.2.1, 371, .inl f)), (hr, .inl (X.2.1, 3, .inl fr))] sz) 0 0 (va_A [(m0, .inr (9, ms)), (ha, .inl (X.2.1, 371, .inl f)), (hr, .inl (X.2.1, 3, .inl fr))] sz) := by
  refine mk_met (B := (va_A [(m0, .inr (9, ms)), (ha, .inl (X.2.1, 371, .inl f)), (hr, .inl (X.2.1, 3, .inl fr))] sz)) (A := (va_A [(m0, .inr (9, ms)), (ha, .inl (X.2.1, 371, .inl f)), (hr, .inl (X.2.1, 3, .inl fr))] sz)) (cc := cX11_seen) (maxL := 6) (ret := (some .int)) (by decide) rfl (Nat.le_of_ble_eq_true rfl) k_w k_a (fun p e s m below meth c S zr zlk znm zsz G ls hl => ?_)
  have S : CallFix p m c cX11_seen 6 s _ wsX11_seen RX11 := S
  have zx := S.1
  have zb := S.2.1
  have hl : lv_has ls 6 [(0, .ref m0), (1, .int x1), (2, .int x2), (3, .int x3), (4, .int x4)] := hl
  refine lv_aload_n zx zb dX11_seen_0 rfl (lv_at hl 0 rfl) ?_
  refine lv_iload_n zx zb dX11_seen_1 rfl (lv_at hl 1 rfl) ?_
  refine o_ri (cells' := 0) (slots' := 0) G rfl rfl (n_V (As := [.int x1]) (rest := []) (C := RX11) (T := TX11) (N := 18) (ci := 9) S G (m_isOne l X m0 ms ha f x1 hm0 hf0 s.heap.size) gX11_seen_X11_isOne rfl rfl rfl hdV_X11_isOne ⟨Nat.le_of_ble_eq_true rfl, Nat.le_of_ble_eq_true rfl⟩ [0, 1] rfl (by decide) 0 rfl rfl rfl hl.1 (Nat.le_of_ble_eq_true rfl) dX11_seen_2 ⟨Nat.le_of_ble_eq_true rfl, Nat.le_of_ble_eq_true rfl⟩) (fun r_1 u_1 H locs hp_1 G => ?_)
  have G : wd X (va_A [(m0, .inr (9, ms)), (ha, .inl (X.2.1, 371, .inl f)), (hr, .inl (X.2.1, 3, .inl fr))] sz) (va_A [(m0, .inr (9, ms)), (ha, .inl (X.2.1, 371, .inl f)), (hr, .inl (X.2.1, 3, .inl fr))] sz) s [(m0, .inr (9, ms)), (ha, .inl (X.2.1, 371, .inl f)), (hr, .inl (X.2.1, 3, .inl fr))] H locs := G
  subst hp_1
  refine lv_if_eq (tgt := 40) zx zb dX11_seen_5 (by decide) (fun c_2 => ?_) (fun c_2 => absurd (by decide) c_2)
  refine lv_aload_n zx zb dX11_seen_40 rfl (lv_at hl 0 rfl) ?_
  refine lv_bipush (v := (-2)) zx zb dX11_seen_41 (by decide) ?_
  refine o_wi (cells' := 0) (slots' := 0) (wr := [(ha, .inl (X.2.1, 371, .inl f))]) G rfl rfl [0, 2] [1] rfl rfl (by decide) (by decide) (n_V (As := [.int (-2)]) (rest := []) (C := RX11) (T := TX11) (N := 18) (ci := 9) S G (m_bad l X m0 ms hr fr (-2) hm3 H.size) gX11_seen_X11_bad rfl rfl rfl hdV_X11_bad ⟨Nat.le_of_ble_eq_true rfl, Nat.le_of_ble_eq_true rfl⟩ [0, 2] rfl (by decide) 0 rfl rfl rfl hl.1 (Nat.le_of_ble_eq_true rfl) dX11_seen_43 ⟨Nat.le_of_ble_eq_true rfl, Nat.le_of_ble_eq_true rfl⟩) (fun r_3 u_3 H locs hp_3 G => ?_)
  have G : wd X (va_A [(m0, .inr (9, ms)), (ha, .inl (X.2.1, 371, .inl f)), (hr, .inl (X.2.1, 3, .inl fr))] sz) (va_A [(m0, .inr (9, ms)), (ha, .inl (X.2.1, 371, .inl f)), (hr, .inl (X.2.1, 3, .inl fr))] sz) s [(ha, .inl (X.2.1, 371, .inl f))] H locs := G
  subst hp_3
  exact e_int S zr zlk (vp_nar_int _) G () [] rfl (by decide) (Or.inl rfl) (rfl) dX11_seen_46
set_option maxHeartbeats 4000000 in
set_option maxRecDepth 100000 in
/-- strong, with no runner -/
theorem m_strong (l : Launch) (X : EX) (m0 : Nat) (ms : List Value) (ha : Nat) (f : Nat → Int32) (hr : Nat) (fr : Nat → Int32) (x1 : Int32) (x2 : Int32) (hm0 : ms[0]? = some (.ref ha)) (hm3 : ms[3]? = some (.ref hr)) (hf0 : f 0 = 0) (sz : Nat) : Met l yX11_strong wsX11_strong ({ frames := 2, cells := 0, slots := 0, locals := 46 } : Room) (pE X [.ref m0, .int x1, .int x2] [(m0, .inr (9, ms)), (ha, .inl (X.2.1, 371, .inl f)), (hr, .inl (X.2.1, 3, .inl fr))] sz) (qI (fun (r : Int32) (u : Unit) => r = (-2)) X (fun (u : Unit) => []) [(m0, .inr (9, ms)), (ha, .inl (X.2.1, 371, .inl f)), (hr, .inl (X.2.1, 3, .inl fr))] sz) 0 0 (va_A [(m0, .inr (9, ms)), (ha, .inl (X.2.1, 371, .inl f)), (hr, .inl (X.2.1, 3, .inl fr))] sz) := by
  refine mk_met (B := (va_A [(m0, .inr (9, ms)), (ha, .inl (X.2.1, 371, .inl f)), (hr, .inl (X.2.1, 3, .inl fr))] sz)) (A := (va_A [(m0, .inr (9, ms)), (ha, .inl (X.2.1, 371, .inl f)), (hr, .inl (X.2.1, 3, .inl fr))] sz)) (cc := cX11_strong) (maxL := 8) (ret := (some .int)) (by decide) rfl (Nat.le_of_ble_eq_true rfl) k_w k_a (fun p e s m below meth c S zr zlk znm zsz G ls hl => ?_)
  have S : CallFix p m c cX11_strong 8 s _ wsX11_strong RX11 := S
  have zx := S.1
  have zb := S.2.1
  have hl : lv_has ls 8 [(0, .ref m0), (1, .int x1), (2, .int x2)] := hl
  refine lv_aload_n zx zb dX11_strong_0 rfl (lv_at hl 0 rfl) ?_
  refine lv_iload_n zx zb dX11_strong_1 rfl (lv_at hl 1 rfl) ?_
  refine o_ri (cells' := 0) (slots' := 0) G rfl rfl (n_V (As := [.int x1]) (rest := []) (C := RX11) (T := TX11) (N := 18) (ci := 9) S G (m_isOne l X m0 ms ha f x1 hm0 hf0 s.heap.size) gX11_strong_X11_isOne rfl rfl rfl hdV_X11_isOne ⟨Nat.le_of_ble_eq_true rfl, Nat.le_of_ble_eq_true rfl⟩ [0, 1] rfl (by decide) 0 rfl rfl rfl hl.1 (Nat.le_of_ble_eq_true rfl) dX11_strong_2 ⟨Nat.le_of_ble_eq_true rfl, Nat.le_of_ble_eq_true rfl⟩) (fun r_1 u_1 H locs hp_1 G => ?_)
  have G : wd X (va_A [(m0, .inr (9, ms)), (ha, .inl (X.2.1, 371, .inl f)), (hr, .inl (X.2.1, 3, .inl fr))] sz) (va_A [(m0, .inr (9, ms)), (ha, .inl (X.2.1, 371, .inl f)), (hr, .inl (X.2.1, 3, .inl fr))] sz) s [(m0, .inr (9, ms)), (ha, .inl (X.2.1, 371, .inl f)), (hr, .inl (X.2.1, 3, .inl fr))] H locs := G
  subst hp_1
  refine lv_if_eq (tgt := 20) zx zb dX11_strong_5 (by decide) (fun c_2 => ?_) (fun c_2 => absurd (by decide) c_2)
  refine lv_aload_n zx zb dX11_strong_20 rfl (lv_at hl 0 rfl) ?_
  refine lv_bipush (v := (-2)) zx zb dX11_strong_21 (by decide) ?_
  refine o_wi (cells' := 0) (slots' := 0) (wr := [(ha, .inl (X.2.1, 371, .inl f))]) G rfl rfl [0, 2] [1] rfl rfl (by decide) (by decide) (n_V (As := [.int (-2)]) (rest := []) (C := RX11) (T := TX11) (N := 18) (ci := 9) S G (m_bad l X m0 ms hr fr (-2) hm3 H.size) gX11_strong_X11_bad rfl rfl rfl hdV_X11_bad ⟨Nat.le_of_ble_eq_true rfl, Nat.le_of_ble_eq_true rfl⟩ [0, 2] rfl (by decide) 0 rfl rfl rfl hl.1 (Nat.le_of_ble_eq_true rfl) dX11_strong_23 ⟨Nat.le_of_ble_eq_true rfl, Nat.le_of_ble_eq_true rfl⟩) (fun r_3 u_3 H locs hp_3 G => ?_)
  have G : wd X (va_A [(m0, .inr (9, ms)), (ha, .inl (X.2.1, 371, .inl f)), (hr, .inl (X.2.1, 3, .inl fr))] sz) (va_A [(m0, .inr (9, ms)), (ha, .inl (X.2.1, 371, .inl f)), (hr, .inl (X.2.1, 3, .inl fr))] sz) s [(ha, .inl (X.2.1, 371, .inl f))] H locs := G
  subst hp_3
  exact e_int S zr zlk (vp_nar_int _) G () [] rfl (by decide) (Or.inl rfl) (rfl) dX11_strong_26
set_option maxHeartbeats 4000000 in
set_option maxRecDepth 100000 in
/-- tell, with no runner -/
theorem m_tell (l : Launch) (X : EX) (m0 : Nat) (ms : List Value) (ha : Nat) (f : Nat → Int32) (hr : Nat) (fr : Nat → Int32) (x1 : Int32) (hm0 : ms[0]? = some (.ref ha)) (hm3 : ms[3]? = some (.ref hr)) (hf0 : f 0 = 0) (sz : Nat) : Met l yX11_tell wsX11_tell ({ frames := 2, cells := 0, slots := 0, locals := 46 } : Room) (pE X [.ref m0, .int x1] [(m0, .inr (9, ms)), (ha, .inl (X.2.1, 371, .inl f)), (hr, .inl (X.2.1, 3, .inl fr))] sz) (qI (fun (r : Int32) (u : Unit) => r = (-2)) X (fun (u : Unit) => []) [(m0, .inr (9, ms)), (ha, .inl (X.2.1, 371, .inl f)), (hr, .inl (X.2.1, 3, .inl fr))] sz) 0 0 (va_A [(m0, .inr (9, ms)), (ha, .inl (X.2.1, 371, .inl f)), (hr, .inl (X.2.1, 3, .inl fr))] sz) := by
  refine mk_met (B := (va_A [(m0, .inr (9, ms)), (ha, .inl (X.2.1, 371, .inl f)), (hr, .inl (X.2.1, 3, .inl fr))] sz)) (A := (va_A [(m0, .inr (9, ms)), (ha, .inl (X.2.1, 371, .inl f)), (hr, .inl (X.2.1, 3, .inl fr))] sz)) (cc := cX11_tell) (maxL := 7) (ret := (some .int)) (by decide) rfl (Nat.le_of_ble_eq_true rfl) k_w k_a (fun p e s m below meth c S zr zlk znm zsz G ls hl => ?_)
  have S : CallFix p m c cX11_tell 7 s _ wsX11_tell RX11 := S
  have zx := S.1
  have zb := S.2.1
  have hl : lv_has ls 7 [(0, .ref m0), (1, .int x1)] := hl
  refine lv_aload_n zx zb dX11_tell_0 rfl (lv_at hl 0 rfl) ?_
  refine lv_iload_n zx zb dX11_tell_1 rfl (lv_at hl 1 rfl) ?_
  refine o_ri (cells' := 0) (slots' := 0) G rfl rfl (n_V (As := [.int x1]) (rest := []) (C := RX11) (T := TX11) (N := 18) (ci := 9) S G (m_isOne l X m0 ms ha f x1 hm0 hf0 s.heap.size) gX11_tell_X11_isOne rfl rfl rfl hdV_X11_isOne ⟨Nat.le_of_ble_eq_true rfl, Nat.le_of_ble_eq_true rfl⟩ [0, 1] rfl (by decide) 0 rfl rfl rfl hl.1 (Nat.le_of_ble_eq_true rfl) dX11_tell_2 ⟨Nat.le_of_ble_eq_true rfl, Nat.le_of_ble_eq_true rfl⟩) (fun r_1 u_1 H locs hp_1 G => ?_)
  have G : wd X (va_A [(m0, .inr (9, ms)), (ha, .inl (X.2.1, 371, .inl f)), (hr, .inl (X.2.1, 3, .inl fr))] sz) (va_A [(m0, .inr (9, ms)), (ha, .inl (X.2.1, 371, .inl f)), (hr, .inl (X.2.1, 3, .inl fr))] sz) s [(m0, .inr (9, ms)), (ha, .inl (X.2.1, 371, .inl f)), (hr, .inl (X.2.1, 3, .inl fr))] H locs := G
  subst hp_1
  refine lv_if_ne (tgt := 15) zx zb dX11_tell_5 (by decide) (fun c_2 => absurd (by decide) c_2) (fun c_2 => ?_)
  refine lv_aload_n zx zb dX11_tell_8 rfl (lv_at hl 0 rfl) ?_
  refine lv_bipush (v := (-2)) zx zb dX11_tell_9 (by decide) ?_
  refine o_wi (cells' := 0) (slots' := 0) (wr := [(ha, .inl (X.2.1, 371, .inl f))]) G rfl rfl [0, 2] [1] rfl rfl (by decide) (by decide) (n_V (As := [.int (-2)]) (rest := []) (C := RX11) (T := TX11) (N := 18) (ci := 9) S G (m_bad l X m0 ms hr fr (-2) hm3 H.size) gX11_tell_X11_bad rfl rfl rfl hdV_X11_bad ⟨Nat.le_of_ble_eq_true rfl, Nat.le_of_ble_eq_true rfl⟩ [0, 2] rfl (by decide) 0 rfl rfl rfl hl.1 (Nat.le_of_ble_eq_true rfl) dX11_tell_11 ⟨Nat.le_of_ble_eq_true rfl, Nat.le_of_ble_eq_true rfl⟩) (fun r_3 u_3 H locs hp_3 G => ?_)
  have G : wd X (va_A [(m0, .inr (9, ms)), (ha, .inl (X.2.1, 371, .inl f)), (hr, .inl (X.2.1, 3, .inl fr))] sz) (va_A [(m0, .inr (9, ms)), (ha, .inl (X.2.1, 371, .inl f)), (hr, .inl (X.2.1, 3, .inl fr))] sz) s [(ha, .inl (X.2.1, 371, .inl f))] H locs := G
  subst hp_3
  exact e_int S zr zlk (vp_nar_int _) G () [] rfl (by decide) (Or.inl rfl) (rfl) dX11_tell_14
set_option maxHeartbeats 4000000 in
set_option maxRecDepth 100000 in
/-- note, with no runner -/
theorem m_note (l : Launch) (X : EX) (m0 : Nat) (ms : List Value) (ha : Nat) (f : Nat → Int32) (hr : Nat) (fr : Nat → Int32) (x1 : Int32) (x2 : Int32) (x3 : Int32) (x4 : Int32) (x5 : Int32) (hm0 : ms[0]? = some (.ref ha)) (hm3 : ms[3]? = some (.ref hr)) (hf0 : f 0 = 0) (sz : Nat) : Met l yX11_note wsX11_note ({ frames := 2, cells := 0, slots := 0, locals := 46 } : Room) (pE X [.ref m0, .int x1, .int x2, .int x3, .int x4, .int x5] [(m0, .inr (9, ms)), (ha, .inl (X.2.1, 371, .inl f)), (hr, .inl (X.2.1, 3, .inl fr))] sz) (qI (fun (r : Int32) (u : Unit) => r = (-2)) X (fun (u : Unit) => []) [(m0, .inr (9, ms)), (ha, .inl (X.2.1, 371, .inl f)), (hr, .inl (X.2.1, 3, .inl fr))] sz) 0 0 (va_A [(m0, .inr (9, ms)), (ha, .inl (X.2.1, 371, .inl f)), (hr, .inl (X.2.1, 3, .inl fr))] sz) := by
  refine mk_met (B := (va_A [(m0, .inr (9, ms)), (ha, .inl (X.2.1, 371, .inl f)), (hr, .inl (X.2.1, 3, .inl fr))] sz)) (A := (va_A [(m0, .inr (9, ms)), (ha, .inl (X.2.1, 371, .inl f)), (hr, .inl (X.2.1, 3, .inl fr))] sz)) (cc := cX11_note) (maxL := 7) (ret := (some .int)) (by decide) rfl (Nat.le_of_ble_eq_true rfl) k_w k_a (fun p e s m below meth c S zr zlk znm zsz G ls hl => ?_)
  have S : CallFix p m c cX11_note 7 s _ wsX11_note RX11 := S
  have zx := S.1
  have zb := S.2.1
  have hl : lv_has ls 7 [(0, .ref m0), (1, .int x1), (2, .int x2), (3, .int x3), (4, .int x4), (5, .int x5)] := hl
  refine lv_aload_n zx zb dX11_note_0 rfl (lv_at hl 0 rfl) ?_
  refine lv_iload_n zx zb dX11_note_1 rfl (lv_at hl 1 rfl) ?_
  refine o_ri (cells' := 0) (slots' := 0) G rfl rfl (n_V (As := [.int x1]) (rest := []) (C := RX11) (T := TX11) (N := 18) (ci := 9) S G (m_isOne l X m0 ms ha f x1 hm0 hf0 s.heap.size) gX11_note_X11_isOne rfl rfl rfl hdV_X11_isOne ⟨Nat.le_of_ble_eq_true rfl, Nat.le_of_ble_eq_true rfl⟩ [0, 1] rfl (by decide) 0 rfl rfl rfl hl.1 (Nat.le_of_ble_eq_true rfl) dX11_note_2 ⟨Nat.le_of_ble_eq_true rfl, Nat.le_of_ble_eq_true rfl⟩) (fun r_1 u_1 H locs hp_1 G => ?_)
  have G : wd X (va_A [(m0, .inr (9, ms)), (ha, .inl (X.2.1, 371, .inl f)), (hr, .inl (X.2.1, 3, .inl fr))] sz) (va_A [(m0, .inr (9, ms)), (ha, .inl (X.2.1, 371, .inl f)), (hr, .inl (X.2.1, 3, .inl fr))] sz) s [(m0, .inr (9, ms)), (ha, .inl (X.2.1, 371, .inl f)), (hr, .inl (X.2.1, 3, .inl fr))] H locs := G
  subst hp_1
  refine lv_if_eq (tgt := 48) zx zb dX11_note_5 (by decide) (fun c_2 => ?_) (fun c_2 => absurd (by decide) c_2)
  refine lv_aload_n zx zb dX11_note_48 rfl (lv_at hl 0 rfl) ?_
  refine lv_bipush (v := (-2)) zx zb dX11_note_49 (by decide) ?_
  refine o_wi (cells' := 0) (slots' := 0) (wr := [(ha, .inl (X.2.1, 371, .inl f))]) G rfl rfl [0, 2] [1] rfl rfl (by decide) (by decide) (n_V (As := [.int (-2)]) (rest := []) (C := RX11) (T := TX11) (N := 18) (ci := 9) S G (m_bad l X m0 ms hr fr (-2) hm3 H.size) gX11_note_X11_bad rfl rfl rfl hdV_X11_bad ⟨Nat.le_of_ble_eq_true rfl, Nat.le_of_ble_eq_true rfl⟩ [0, 2] rfl (by decide) 0 rfl rfl rfl hl.1 (Nat.le_of_ble_eq_true rfl) dX11_note_51 ⟨Nat.le_of_ble_eq_true rfl, Nat.le_of_ble_eq_true rfl⟩) (fun r_3 u_3 H locs hp_3 G => ?_)
  have G : wd X (va_A [(m0, .inr (9, ms)), (ha, .inl (X.2.1, 371, .inl f)), (hr, .inl (X.2.1, 3, .inl fr))] sz) (va_A [(m0, .inr (9, ms)), (ha, .inl (X.2.1, 371, .inl f)), (hr, .inl (X.2.1, 3, .inl fr))] sz) s [(ha, .inl (X.2.1, 371, .inl f))] H locs := G
  subst hp_3
  exact e_int S zr zlk (vp_nar_int _) G () [] rfl (by decide) (Or.inl rfl) (rfl) dX11_note_54
set_option maxHeartbeats 4000000 in
set_option maxRecDepth 100000 in
/-- mark, with no runner -/
theorem m_mark (l : Launch) (X : EX) (m0 : Nat) (ms : List Value) (ha : Nat) (f : Nat → Int32) (hr : Nat) (fr : Nat → Int32) (x1 : Int32) (x2 : Int32) (x3 : Int32) (hm0 : ms[0]? = some (.ref ha)) (hm3 : ms[3]? = some (.ref hr)) (hf0 : f 0 = 0) (sz : Nat) : Met l yX11_mark wsX11_mark ({ frames := 2, cells := 0, slots := 0, locals := 46 } : Room) (pE X [.ref m0, .int x1, .int x2, .int x3] [(m0, .inr (9, ms)), (ha, .inl (X.2.1, 371, .inl f)), (hr, .inl (X.2.1, 3, .inl fr))] sz) (qI (fun (r : Int32) (u : Unit) => r = (-2)) X (fun (u : Unit) => []) [(m0, .inr (9, ms)), (ha, .inl (X.2.1, 371, .inl f)), (hr, .inl (X.2.1, 3, .inl fr))] sz) 0 0 (va_A [(m0, .inr (9, ms)), (ha, .inl (X.2.1, 371, .inl f)), (hr, .inl (X.2.1, 3, .inl fr))] sz) := by
  refine mk_met (B := (va_A [(m0, .inr (9, ms)), (ha, .inl (X.2.1, 371, .inl f)), (hr, .inl (X.2.1, 3, .inl fr))] sz)) (A := (va_A [(m0, .inr (9, ms)), (ha, .inl (X.2.1, 371, .inl f)), (hr, .inl (X.2.1, 3, .inl fr))] sz)) (cc := cX11_mark) (maxL := 5) (ret := (some .int)) (by decide) rfl (Nat.le_of_ble_eq_true rfl) k_w k_a (fun p e s m below meth c S zr zlk znm zsz G ls hl => ?_)
  have S : CallFix p m c cX11_mark 5 s _ wsX11_mark RX11 := S
  have zx := S.1
  have zb := S.2.1
  have hl : lv_has ls 5 [(0, .ref m0), (1, .int x1), (2, .int x2), (3, .int x3)] := hl
  refine lv_aload_n zx zb dX11_mark_0 rfl (lv_at hl 0 rfl) ?_
  refine lv_iload_n zx zb dX11_mark_1 rfl (lv_at hl 1 rfl) ?_
  refine o_ri (cells' := 0) (slots' := 0) G rfl rfl (n_V (As := [.int x1]) (rest := []) (C := RX11) (T := TX11) (N := 18) (ci := 9) S G (m_isOne l X m0 ms ha f x1 hm0 hf0 s.heap.size) gX11_mark_X11_isOne rfl rfl rfl hdV_X11_isOne ⟨Nat.le_of_ble_eq_true rfl, Nat.le_of_ble_eq_true rfl⟩ [0, 1] rfl (by decide) 0 rfl rfl rfl hl.1 (Nat.le_of_ble_eq_true rfl) dX11_mark_2 ⟨Nat.le_of_ble_eq_true rfl, Nat.le_of_ble_eq_true rfl⟩) (fun r_1 u_1 H locs hp_1 G => ?_)
  have G : wd X (va_A [(m0, .inr (9, ms)), (ha, .inl (X.2.1, 371, .inl f)), (hr, .inl (X.2.1, 3, .inl fr))] sz) (va_A [(m0, .inr (9, ms)), (ha, .inl (X.2.1, 371, .inl f)), (hr, .inl (X.2.1, 3, .inl fr))] sz) s [(m0, .inr (9, ms)), (ha, .inl (X.2.1, 371, .inl f)), (hr, .inl (X.2.1, 3, .inl fr))] H locs := G
  subst hp_1
  refine lv_if_eq (tgt := 32) zx zb dX11_mark_5 (by decide) (fun c_2 => ?_) (fun c_2 => absurd (by decide) c_2)
  refine lv_aload_n zx zb dX11_mark_32 rfl (lv_at hl 0 rfl) ?_
  refine lv_bipush (v := (-2)) zx zb dX11_mark_33 (by decide) ?_
  refine o_wi (cells' := 0) (slots' := 0) (wr := [(ha, .inl (X.2.1, 371, .inl f))]) G rfl rfl [0, 2] [1] rfl rfl (by decide) (by decide) (n_V (As := [.int (-2)]) (rest := []) (C := RX11) (T := TX11) (N := 18) (ci := 9) S G (m_bad l X m0 ms hr fr (-2) hm3 H.size) gX11_mark_X11_bad rfl rfl rfl hdV_X11_bad ⟨Nat.le_of_ble_eq_true rfl, Nat.le_of_ble_eq_true rfl⟩ [0, 2] rfl (by decide) 0 rfl rfl rfl hl.1 (Nat.le_of_ble_eq_true rfl) dX11_mark_35 ⟨Nat.le_of_ble_eq_true rfl, Nat.le_of_ble_eq_true rfl⟩) (fun r_3 u_3 H locs hp_3 G => ?_)
  have G : wd X (va_A [(m0, .inr (9, ms)), (ha, .inl (X.2.1, 371, .inl f)), (hr, .inl (X.2.1, 3, .inl fr))] sz) (va_A [(m0, .inr (9, ms)), (ha, .inl (X.2.1, 371, .inl f)), (hr, .inl (X.2.1, 3, .inl fr))] sz) s [(ha, .inl (X.2.1, 371, .inl f))] H locs := G
  subst hp_3
  exact e_int S zr zlk (vp_nar_int _) G () [] rfl (by decide) (Or.inl rfl) (rfl) dX11_mark_38
set_option maxHeartbeats 4000000 in
set_option maxRecDepth 100000 in
/-- is, with no runner -/
theorem m_is (l : Launch) (X : EX) (m0 : Nat) (ms : List Value) (ha : Nat) (f : Nat → Int32) (hr : Nat) (fr : Nat → Int32) (x1 : Int32) (hm0 : ms[0]? = some (.ref ha)) (hm3 : ms[3]? = some (.ref hr)) (hf0 : f 0 = 0) (sz : Nat) : Met l yX11_is wsX11_is ({ frames := 2, cells := 0, slots := 0, locals := 46 } : Room) (pE X [.ref m0, .int x1] [(m0, .inr (9, ms)), (ha, .inl (X.2.1, 371, .inl f)), (hr, .inl (X.2.1, 3, .inl fr))] sz) (qI (fun (r : Int32) (u : Unit) => r = (-2)) X (fun (u : Unit) => []) [(m0, .inr (9, ms)), (ha, .inl (X.2.1, 371, .inl f)), (hr, .inl (X.2.1, 3, .inl fr))] sz) 0 0 (va_A [(m0, .inr (9, ms)), (ha, .inl (X.2.1, 371, .inl f)), (hr, .inl (X.2.1, 3, .inl fr))] sz) := by
  refine mk_met (B := (va_A [(m0, .inr (9, ms)), (ha, .inl (X.2.1, 371, .inl f)), (hr, .inl (X.2.1, 3, .inl fr))] sz)) (A := (va_A [(m0, .inr (9, ms)), (ha, .inl (X.2.1, 371, .inl f)), (hr, .inl (X.2.1, 3, .inl fr))] sz)) (cc := cX11_is) (maxL := 2) (ret := (some .int)) (by decide) rfl (Nat.le_of_ble_eq_true rfl) k_w k_a (fun p e s m below meth c S zr zlk znm zsz G ls hl => ?_)
  have S : CallFix p m c cX11_is 2 s _ wsX11_is RX11 := S
  have zx := S.1
  have zb := S.2.1
  have hl : lv_has ls 2 [(0, .ref m0), (1, .int x1)] := hl
  refine lv_aload_n zx zb dX11_is_0 rfl (lv_at hl 0 rfl) ?_
  refine lv_iload_n zx zb dX11_is_1 rfl (lv_at hl 1 rfl) ?_
  refine o_ri (cells' := 0) (slots' := 0) G rfl rfl (n_V (As := [.int x1]) (rest := []) (C := RX11) (T := TX11) (N := 18) (ci := 9) S G (m_isOne l X m0 ms ha f x1 hm0 hf0 s.heap.size) gX11_is_X11_isOne rfl rfl rfl hdV_X11_isOne ⟨Nat.le_of_ble_eq_true rfl, Nat.le_of_ble_eq_true rfl⟩ [0, 1] rfl (by decide) 0 rfl rfl rfl hl.1 (Nat.le_of_ble_eq_true rfl) dX11_is_2 ⟨Nat.le_of_ble_eq_true rfl, Nat.le_of_ble_eq_true rfl⟩) (fun r_1 u_1 H locs hp_1 G => ?_)
  have G : wd X (va_A [(m0, .inr (9, ms)), (ha, .inl (X.2.1, 371, .inl f)), (hr, .inl (X.2.1, 3, .inl fr))] sz) (va_A [(m0, .inr (9, ms)), (ha, .inl (X.2.1, 371, .inl f)), (hr, .inl (X.2.1, 3, .inl fr))] sz) s [(m0, .inr (9, ms)), (ha, .inl (X.2.1, 371, .inl f)), (hr, .inl (X.2.1, 3, .inl fr))] H locs := G
  subst hp_1
  refine lv_if_eq (tgt := 16) zx zb dX11_is_5 (by decide) (fun c_2 => ?_) (fun c_2 => absurd (by decide) c_2)
  refine lv_aload_n zx zb dX11_is_16 rfl (lv_at hl 0 rfl) ?_
  refine lv_bipush (v := (-2)) zx zb dX11_is_17 (by decide) ?_
  refine o_wi (cells' := 0) (slots' := 0) (wr := [(ha, .inl (X.2.1, 371, .inl f))]) G rfl rfl [0, 2] [1] rfl rfl (by decide) (by decide) (n_V (As := [.int (-2)]) (rest := []) (C := RX11) (T := TX11) (N := 18) (ci := 9) S G (m_bad l X m0 ms hr fr (-2) hm3 H.size) gX11_is_X11_bad rfl rfl rfl hdV_X11_bad ⟨Nat.le_of_ble_eq_true rfl, Nat.le_of_ble_eq_true rfl⟩ [0, 2] rfl (by decide) 0 rfl rfl rfl hl.1 (Nat.le_of_ble_eq_true rfl) dX11_is_19 ⟨Nat.le_of_ble_eq_true rfl, Nat.le_of_ble_eq_true rfl⟩) (fun r_3 u_3 H locs hp_3 G => ?_)
  have G : wd X (va_A [(m0, .inr (9, ms)), (ha, .inl (X.2.1, 371, .inl f)), (hr, .inl (X.2.1, 3, .inl fr))] sz) (va_A [(m0, .inr (9, ms)), (ha, .inl (X.2.1, 371, .inl f)), (hr, .inl (X.2.1, 3, .inl fr))] sz) s [(ha, .inl (X.2.1, 371, .inl f))] H locs := G
  subst hp_3
  exact e_int S zr zlk (vp_nar_int _) G () [] rfl (by decide) (Or.inl rfl) (rfl) dX11_is_22
set_option maxHeartbeats 4000000 in
set_option maxRecDepth 100000 in
/-- look, with no runner -/
theorem m_look (l : Launch) (X : EX) (m0 : Nat) (ms : List Value) (ha : Nat) (f : Nat → Int32) (hr : Nat) (fr : Nat → Int32) (x1 : Int32) (hm0 : ms[0]? = some (.ref ha)) (hm3 : ms[3]? = some (.ref hr)) (hf0 : f 0 = 0) (sz : Nat) : Met l yX11_look wsX11_look ({ frames := 2, cells := 0, slots := 0, locals := 46 } : Room) (pE X [.ref m0, .int x1] [(m0, .inr (9, ms)), (ha, .inl (X.2.1, 371, .inl f)), (hr, .inl (X.2.1, 3, .inl fr))] sz) (qI (fun (r : Int32) (u : Unit) => r = (-2)) X (fun (u : Unit) => []) [(m0, .inr (9, ms)), (ha, .inl (X.2.1, 371, .inl f)), (hr, .inl (X.2.1, 3, .inl fr))] sz) 0 0 (va_A [(m0, .inr (9, ms)), (ha, .inl (X.2.1, 371, .inl f)), (hr, .inl (X.2.1, 3, .inl fr))] sz) := by
  refine mk_met (B := (va_A [(m0, .inr (9, ms)), (ha, .inl (X.2.1, 371, .inl f)), (hr, .inl (X.2.1, 3, .inl fr))] sz)) (A := (va_A [(m0, .inr (9, ms)), (ha, .inl (X.2.1, 371, .inl f)), (hr, .inl (X.2.1, 3, .inl fr))] sz)) (cc := cX11_look) (maxL := 7) (ret := (some .int)) (by decide) rfl (Nat.le_of_ble_eq_true rfl) k_w k_a (fun p e s m below meth c S zr zlk znm zsz G ls hl => ?_)
  have S : CallFix p m c cX11_look 7 s _ wsX11_look RX11 := S
  have zx := S.1
  have zb := S.2.1
  have hl : lv_has ls 7 [(0, .ref m0), (1, .int x1)] := hl
  refine lv_aload_n zx zb dX11_look_0 rfl (lv_at hl 0 rfl) ?_
  refine lv_iload_n zx zb dX11_look_1 rfl (lv_at hl 1 rfl) ?_
  refine o_ri (cells' := 0) (slots' := 0) G rfl rfl (n_V (As := [.int x1]) (rest := []) (C := RX11) (T := TX11) (N := 18) (ci := 9) S G (m_isOne l X m0 ms ha f x1 hm0 hf0 s.heap.size) gX11_look_X11_isOne rfl rfl rfl hdV_X11_isOne ⟨Nat.le_of_ble_eq_true rfl, Nat.le_of_ble_eq_true rfl⟩ [0, 1] rfl (by decide) 0 rfl rfl rfl hl.1 (Nat.le_of_ble_eq_true rfl) dX11_look_2 ⟨Nat.le_of_ble_eq_true rfl, Nat.le_of_ble_eq_true rfl⟩) (fun r_1 u_1 H locs hp_1 G => ?_)
  have G : wd X (va_A [(m0, .inr (9, ms)), (ha, .inl (X.2.1, 371, .inl f)), (hr, .inl (X.2.1, 3, .inl fr))] sz) (va_A [(m0, .inr (9, ms)), (ha, .inl (X.2.1, 371, .inl f)), (hr, .inl (X.2.1, 3, .inl fr))] sz) s [(m0, .inr (9, ms)), (ha, .inl (X.2.1, 371, .inl f)), (hr, .inl (X.2.1, 3, .inl fr))] H locs := G
  subst hp_1
  refine lv_if_ne (tgt := 15) zx zb dX11_look_5 (by decide) (fun c_2 => absurd (by decide) c_2) (fun c_2 => ?_)
  refine lv_aload_n zx zb dX11_look_8 rfl (lv_at hl 0 rfl) ?_
  refine lv_bipush (v := (-2)) zx zb dX11_look_9 (by decide) ?_
  refine o_wi (cells' := 0) (slots' := 0) (wr := [(ha, .inl (X.2.1, 371, .inl f))]) G rfl rfl [0, 2] [1] rfl rfl (by decide) (by decide) (n_V (As := [.int (-2)]) (rest := []) (C := RX11) (T := TX11) (N := 18) (ci := 9) S G (m_bad l X m0 ms hr fr (-2) hm3 H.size) gX11_look_X11_bad rfl rfl rfl hdV_X11_bad ⟨Nat.le_of_ble_eq_true rfl, Nat.le_of_ble_eq_true rfl⟩ [0, 2] rfl (by decide) 0 rfl rfl rfl hl.1 (Nat.le_of_ble_eq_true rfl) dX11_look_11 ⟨Nat.le_of_ble_eq_true rfl, Nat.le_of_ble_eq_true rfl⟩) (fun r_3 u_3 H locs hp_3 G => ?_)
  have G : wd X (va_A [(m0, .inr (9, ms)), (ha, .inl (X.2.1, 371, .inl f)), (hr, .inl (X.2.1, 3, .inl fr))] sz) (va_A [(m0, .inr (9, ms)), (ha, .inl (X.2.1, 371, .inl f)), (hr, .inl (X.2.1, 3, .inl fr))] sz) s [(ha, .inl (X.2.1, 371, .inl f))] H locs := G
  subst hp_3
  exact e_int S zr zlk (vp_nar_int _) G () [] rfl (by decide) (Or.inl rfl) (rfl) dX11_look_14
set_option maxHeartbeats 4000000 in
set_option maxRecDepth 100000 in
/-- kinds, with no runner -/
theorem m_kinds (l : Launch) (X : EX) (m0 : Nat) (ms : List Value) (ha : Nat) (f : Nat → Int32) (hr : Nat) (fr : Nat → Int32) (x1 : Int32) (hm0 : ms[0]? = some (.ref ha)) (hm3 : ms[3]? = some (.ref hr)) (hf0 : f 0 = 0) (sz : Nat) : Met l yX11_kinds wsX11_kinds ({ frames := 2, cells := 0, slots := 0, locals := 46 } : Room) (pE X [.ref m0, .int x1] [(m0, .inr (9, ms)), (ha, .inl (X.2.1, 371, .inl f)), (hr, .inl (X.2.1, 3, .inl fr))] sz) (qI (fun (r : Int32) (u : Unit) => r = (-2)) X (fun (u : Unit) => []) [(m0, .inr (9, ms)), (ha, .inl (X.2.1, 371, .inl f)), (hr, .inl (X.2.1, 3, .inl fr))] sz) 0 0 (va_A [(m0, .inr (9, ms)), (ha, .inl (X.2.1, 371, .inl f)), (hr, .inl (X.2.1, 3, .inl fr))] sz) := by
  refine mk_met (B := (va_A [(m0, .inr (9, ms)), (ha, .inl (X.2.1, 371, .inl f)), (hr, .inl (X.2.1, 3, .inl fr))] sz)) (A := (va_A [(m0, .inr (9, ms)), (ha, .inl (X.2.1, 371, .inl f)), (hr, .inl (X.2.1, 3, .inl fr))] sz)) (cc := cX11_kinds) (maxL := 2) (ret := (some .int)) (by decide) rfl (Nat.le_of_ble_eq_true rfl) k_w k_a (fun p e s m below meth c S zr zlk znm zsz G ls hl => ?_)
  have S : CallFix p m c cX11_kinds 2 s _ wsX11_kinds RX11 := S
  have zx := S.1
  have zb := S.2.1
  have hl : lv_has ls 2 [(0, .ref m0), (1, .int x1)] := hl
  refine lv_aload_n zx zb dX11_kinds_0 rfl (lv_at hl 0 rfl) ?_
  refine lv_iload_n zx zb dX11_kinds_1 rfl (lv_at hl 1 rfl) ?_
  refine o_ri (cells' := 0) (slots' := 0) G rfl rfl (n_V (As := [.int x1]) (rest := []) (C := RX11) (T := TX11) (N := 18) (ci := 9) S G (m_isOne l X m0 ms ha f x1 hm0 hf0 s.heap.size) gX11_kinds_X11_isOne rfl rfl rfl hdV_X11_isOne ⟨Nat.le_of_ble_eq_true rfl, Nat.le_of_ble_eq_true rfl⟩ [0, 1] rfl (by decide) 0 rfl rfl rfl hl.1 (Nat.le_of_ble_eq_true rfl) dX11_kinds_2 ⟨Nat.le_of_ble_eq_true rfl, Nat.le_of_ble_eq_true rfl⟩) (fun r_1 u_1 H locs hp_1 G => ?_)
  have G : wd X (va_A [(m0, .inr (9, ms)), (ha, .inl (X.2.1, 371, .inl f)), (hr, .inl (X.2.1, 3, .inl fr))] sz) (va_A [(m0, .inr (9, ms)), (ha, .inl (X.2.1, 371, .inl f)), (hr, .inl (X.2.1, 3, .inl fr))] sz) s [(m0, .inr (9, ms)), (ha, .inl (X.2.1, 371, .inl f)), (hr, .inl (X.2.1, 3, .inl fr))] H locs := G
  subst hp_1
  refine lv_if_eq (tgt := 16) zx zb dX11_kinds_5 (by decide) (fun c_2 => ?_) (fun c_2 => absurd (by decide) c_2)
  refine lv_aload_n zx zb dX11_kinds_16 rfl (lv_at hl 0 rfl) ?_
  refine lv_bipush (v := (-2)) zx zb dX11_kinds_17 (by decide) ?_
  refine o_wi (cells' := 0) (slots' := 0) (wr := [(ha, .inl (X.2.1, 371, .inl f))]) G rfl rfl [0, 2] [1] rfl rfl (by decide) (by decide) (n_V (As := [.int (-2)]) (rest := []) (C := RX11) (T := TX11) (N := 18) (ci := 9) S G (m_bad l X m0 ms hr fr (-2) hm3 H.size) gX11_kinds_X11_bad rfl rfl rfl hdV_X11_bad ⟨Nat.le_of_ble_eq_true rfl, Nat.le_of_ble_eq_true rfl⟩ [0, 2] rfl (by decide) 0 rfl rfl rfl hl.1 (Nat.le_of_ble_eq_true rfl) dX11_kinds_19 ⟨Nat.le_of_ble_eq_true rfl, Nat.le_of_ble_eq_true rfl⟩) (fun r_3 u_3 H locs hp_3 G => ?_)
  have G : wd X (va_A [(m0, .inr (9, ms)), (ha, .inl (X.2.1, 371, .inl f)), (hr, .inl (X.2.1, 3, .inl fr))] sz) (va_A [(m0, .inr (9, ms)), (ha, .inl (X.2.1, 371, .inl f)), (hr, .inl (X.2.1, 3, .inl fr))] sz) s [(ha, .inl (X.2.1, 371, .inl f))] H locs := G
  subst hp_3
  exact e_int S zr zlk (vp_nar_int _) G () [] rfl (by decide) (Or.inl rfl) (rfl) dX11_kinds_22
set_option maxHeartbeats 4000000 in
set_option maxRecDepth 100000 in
/-- ask, with no runner -/
theorem m_ask (l : Launch) (X : EX) (m0 : Nat) (ms : List Value) (ha : Nat) (f : Nat → Int32) (hr : Nat) (fr : Nat → Int32) (x1 : Int32) (hm0 : ms[0]? = some (.ref ha)) (hm3 : ms[3]? = some (.ref hr)) (hf0 : f 0 = 0) (sz : Nat) : Met l yX11_ask wsX11_ask ({ frames := 2, cells := 0, slots := 0, locals := 46 } : Room) (pE X [.ref m0, .int x1] [(m0, .inr (9, ms)), (ha, .inl (X.2.1, 371, .inl f)), (hr, .inl (X.2.1, 3, .inl fr))] sz) (qI (fun (r : Int32) (u : Unit) => r = (-2)) X (fun (u : Unit) => []) [(m0, .inr (9, ms)), (ha, .inl (X.2.1, 371, .inl f)), (hr, .inl (X.2.1, 3, .inl fr))] sz) 0 0 (va_A [(m0, .inr (9, ms)), (ha, .inl (X.2.1, 371, .inl f)), (hr, .inl (X.2.1, 3, .inl fr))] sz) := by
  refine mk_met (B := (va_A [(m0, .inr (9, ms)), (ha, .inl (X.2.1, 371, .inl f)), (hr, .inl (X.2.1, 3, .inl fr))] sz)) (A := (va_A [(m0, .inr (9, ms)), (ha, .inl (X.2.1, 371, .inl f)), (hr, .inl (X.2.1, 3, .inl fr))] sz)) (cc := cX11_ask) (maxL := 7) (ret := (some .int)) (by decide) rfl (Nat.le_of_ble_eq_true rfl) k_w k_a (fun p e s m below meth c S zr zlk znm zsz G ls hl => ?_)
  have S : CallFix p m c cX11_ask 7 s _ wsX11_ask RX11 := S
  have zx := S.1
  have zb := S.2.1
  have hl : lv_has ls 7 [(0, .ref m0), (1, .int x1)] := hl
  refine lv_aload_n zx zb dX11_ask_0 rfl (lv_at hl 0 rfl) ?_
  refine lv_iload_n zx zb dX11_ask_1 rfl (lv_at hl 1 rfl) ?_
  refine o_ri (cells' := 0) (slots' := 0) G rfl rfl (n_V (As := [.int x1]) (rest := []) (C := RX11) (T := TX11) (N := 18) (ci := 9) S G (m_isOne l X m0 ms ha f x1 hm0 hf0 s.heap.size) gX11_ask_X11_isOne rfl rfl rfl hdV_X11_isOne ⟨Nat.le_of_ble_eq_true rfl, Nat.le_of_ble_eq_true rfl⟩ [0, 1] rfl (by decide) 0 rfl rfl rfl hl.1 (Nat.le_of_ble_eq_true rfl) dX11_ask_2 ⟨Nat.le_of_ble_eq_true rfl, Nat.le_of_ble_eq_true rfl⟩) (fun r_1 u_1 H locs hp_1 G => ?_)
  have G : wd X (va_A [(m0, .inr (9, ms)), (ha, .inl (X.2.1, 371, .inl f)), (hr, .inl (X.2.1, 3, .inl fr))] sz) (va_A [(m0, .inr (9, ms)), (ha, .inl (X.2.1, 371, .inl f)), (hr, .inl (X.2.1, 3, .inl fr))] sz) s [(m0, .inr (9, ms)), (ha, .inl (X.2.1, 371, .inl f)), (hr, .inl (X.2.1, 3, .inl fr))] H locs := G
  subst hp_1
  refine lv_if_ne (tgt := 15) zx zb dX11_ask_5 (by decide) (fun c_2 => absurd (by decide) c_2) (fun c_2 => ?_)
  refine lv_aload_n zx zb dX11_ask_8 rfl (lv_at hl 0 rfl) ?_
  refine lv_bipush (v := (-2)) zx zb dX11_ask_9 (by decide) ?_
  refine o_wi (cells' := 0) (slots' := 0) (wr := [(ha, .inl (X.2.1, 371, .inl f))]) G rfl rfl [0, 2] [1] rfl rfl (by decide) (by decide) (n_V (As := [.int (-2)]) (rest := []) (C := RX11) (T := TX11) (N := 18) (ci := 9) S G (m_bad l X m0 ms hr fr (-2) hm3 H.size) gX11_ask_X11_bad rfl rfl rfl hdV_X11_bad ⟨Nat.le_of_ble_eq_true rfl, Nat.le_of_ble_eq_true rfl⟩ [0, 2] rfl (by decide) 0 rfl rfl rfl hl.1 (Nat.le_of_ble_eq_true rfl) dX11_ask_11 ⟨Nat.le_of_ble_eq_true rfl, Nat.le_of_ble_eq_true rfl⟩) (fun r_3 u_3 H locs hp_3 G => ?_)
  have G : wd X (va_A [(m0, .inr (9, ms)), (ha, .inl (X.2.1, 371, .inl f)), (hr, .inl (X.2.1, 3, .inl fr))] sz) (va_A [(m0, .inr (9, ms)), (ha, .inl (X.2.1, 371, .inl f)), (hr, .inl (X.2.1, 3, .inl fr))] sz) s [(ha, .inl (X.2.1, 371, .inl f))] H locs := G
  subst hp_3
  exact e_int S zr zlk (vp_nar_int _) G () [] rfl (by decide) (Or.inl rfl) (rfl) dX11_ask_14
set_option maxHeartbeats 4000000 in
set_option maxRecDepth 100000 in
/-- stumble, with no runner -/
theorem m_stumble (l : Launch) (X : EX) (m0 : Nat) (ms : List Value) (ha : Nat) (f : Nat → Int32) (hr : Nat) (fr : Nat → Int32) (x1 : Int32) (x2 : Int32) (x3 : Int32) (x4 : Int32) (hm0 : ms[0]? = some (.ref ha)) (hm3 : ms[3]? = some (.ref hr)) (hf0 : f 0 = 0) (sz : Nat) : Met l yX11_stumble wsX11_stumble ({ frames := 2, cells := 0, slots := 0, locals := 46 } : Room) (pE X [.ref m0, .int x1, .int x2, .int x3, .int x4] [(m0, .inr (9, ms)), (ha, .inl (X.2.1, 371, .inl f)), (hr, .inl (X.2.1, 3, .inl fr))] sz) (qI (fun (r : Int32) (u : Unit) => r = (-2)) X (fun (u : Unit) => []) [(m0, .inr (9, ms)), (ha, .inl (X.2.1, 371, .inl f)), (hr, .inl (X.2.1, 3, .inl fr))] sz) 0 0 (va_A [(m0, .inr (9, ms)), (ha, .inl (X.2.1, 371, .inl f)), (hr, .inl (X.2.1, 3, .inl fr))] sz) := by
  refine mk_met (B := (va_A [(m0, .inr (9, ms)), (ha, .inl (X.2.1, 371, .inl f)), (hr, .inl (X.2.1, 3, .inl fr))] sz)) (A := (va_A [(m0, .inr (9, ms)), (ha, .inl (X.2.1, 371, .inl f)), (hr, .inl (X.2.1, 3, .inl fr))] sz)) (cc := cX11_stumble) (maxL := 13) (ret := (some .int)) (by decide) rfl (Nat.le_of_ble_eq_true rfl) k_w k_a (fun p e s m below meth c S zr zlk znm zsz G ls hl => ?_)
  have S : CallFix p m c cX11_stumble 13 s _ wsX11_stumble RX11 := S
  have zx := S.1
  have zb := S.2.1
  have hl : lv_has ls 13 [(0, .ref m0), (1, .int x1), (2, .int x2), (3, .int x3), (4, .int x4)] := hl
  refine lv_aload_n zx zb dX11_stumble_0 rfl (lv_at hl 0 rfl) ?_
  refine lv_iload_n zx zb dX11_stumble_1 rfl (lv_at hl 1 rfl) ?_
  refine o_ri (cells' := 0) (slots' := 0) G rfl rfl (n_V (As := [.int x1]) (rest := []) (C := RX11) (T := TX11) (N := 18) (ci := 9) S G (m_isOne l X m0 ms ha f x1 hm0 hf0 s.heap.size) gX11_stumble_X11_isOne rfl rfl rfl hdV_X11_isOne ⟨Nat.le_of_ble_eq_true rfl, Nat.le_of_ble_eq_true rfl⟩ [0, 1] rfl (by decide) 0 rfl rfl rfl hl.1 (Nat.le_of_ble_eq_true rfl) dX11_stumble_2 ⟨Nat.le_of_ble_eq_true rfl, Nat.le_of_ble_eq_true rfl⟩) (fun r_1 u_1 H locs hp_1 G => ?_)
  have G : wd X (va_A [(m0, .inr (9, ms)), (ha, .inl (X.2.1, 371, .inl f)), (hr, .inl (X.2.1, 3, .inl fr))] sz) (va_A [(m0, .inr (9, ms)), (ha, .inl (X.2.1, 371, .inl f)), (hr, .inl (X.2.1, 3, .inl fr))] sz) s [(m0, .inr (9, ms)), (ha, .inl (X.2.1, 371, .inl f)), (hr, .inl (X.2.1, 3, .inl fr))] H locs := G
  subst hp_1
  refine lv_if_eq (tgt := 45) zx zb dX11_stumble_5 (by decide) (fun c_2 => ?_) (fun c_2 => absurd (by decide) c_2)
  refine lv_aload_n zx zb dX11_stumble_45 rfl (lv_at hl 0 rfl) ?_
  refine lv_bipush (v := (-2)) zx zb dX11_stumble_46 (by decide) ?_
  refine o_wi (cells' := 0) (slots' := 0) (wr := [(ha, .inl (X.2.1, 371, .inl f))]) G rfl rfl [0, 2] [1] rfl rfl (by decide) (by decide) (n_V (As := [.int (-2)]) (rest := []) (C := RX11) (T := TX11) (N := 18) (ci := 9) S G (m_bad l X m0 ms hr fr (-2) hm3 H.size) gX11_stumble_X11_bad rfl rfl rfl hdV_X11_bad ⟨Nat.le_of_ble_eq_true rfl, Nat.le_of_ble_eq_true rfl⟩ [0, 2] rfl (by decide) 0 rfl rfl rfl hl.1 (Nat.le_of_ble_eq_true rfl) dX11_stumble_48 ⟨Nat.le_of_ble_eq_true rfl, Nat.le_of_ble_eq_true rfl⟩) (fun r_3 u_3 H locs hp_3 G => ?_)
  have G : wd X (va_A [(m0, .inr (9, ms)), (ha, .inl (X.2.1, 371, .inl f)), (hr, .inl (X.2.1, 3, .inl fr))] sz) (va_A [(m0, .inr (9, ms)), (ha, .inl (X.2.1, 371, .inl f)), (hr, .inl (X.2.1, 3, .inl fr))] sz) s [(ha, .inl (X.2.1, 371, .inl f))] H locs := G
  subst hp_3
  exact e_int S zr zlk (vp_nar_int _) G () [] rfl (by decide) (Or.inl rfl) (rfl) dX11_stumble_51
set_option maxHeartbeats 4000000 in
set_option maxRecDepth 100000 in
/-- pair, with no runner -/
theorem m_pair (l : Launch) (X : EX) (m0 : Nat) (ms : List Value) (ha : Nat) (f : Nat → Int32) (hr : Nat) (fr : Nat → Int32) (x1 : Int32) (x2 : Int32) (x3 : Int32) (hm0 : ms[0]? = some (.ref ha)) (hm3 : ms[3]? = some (.ref hr)) (hf0 : f 0 = 0) (sz : Nat) : Met l yX11_pair wsX11_pair ({ frames := 2, cells := 0, slots := 0, locals := 46 } : Room) (pE X [.ref m0, .int x1, .int x2, .int x3] [(m0, .inr (9, ms)), (ha, .inl (X.2.1, 371, .inl f)), (hr, .inl (X.2.1, 3, .inl fr))] sz) (qI (fun (r : Int32) (u : Unit) => r = (-10)) X (fun (u : Unit) => []) [(m0, .inr (9, ms)), (ha, .inl (X.2.1, 371, .inl f)), (hr, .inl (X.2.1, 3, .inl fr))] sz) 0 0 (va_A [(m0, .inr (9, ms)), (ha, .inl (X.2.1, 371, .inl f)), (hr, .inl (X.2.1, 3, .inl fr))] sz) := by
  refine mk_met (B := (va_A [(m0, .inr (9, ms)), (ha, .inl (X.2.1, 371, .inl f)), (hr, .inl (X.2.1, 3, .inl fr))] sz)) (A := (va_A [(m0, .inr (9, ms)), (ha, .inl (X.2.1, 371, .inl f)), (hr, .inl (X.2.1, 3, .inl fr))] sz)) (cc := cX11_pair) (maxL := 6) (ret := (some .int)) (by decide) rfl (Nat.le_of_ble_eq_true rfl) k_w k_a (fun p e s m below meth c S zr zlk znm zsz G ls hl => ?_)
  have S : CallFix p m c cX11_pair 6 s _ wsX11_pair RX11 := S
  have zx := S.1
  have zb := S.2.1
  have hl : lv_has ls 6 [(0, .ref m0), (1, .int x1), (2, .int x2), (3, .int x3)] := hl
  refine lv_aload_n zx zb dX11_pair_0 rfl (lv_at hl 0 rfl) ?_
  refine lv_iload_n zx zb dX11_pair_1 rfl (lv_at hl 1 rfl) ?_
  refine o_ri (cells' := 0) (slots' := 0) G rfl rfl (n_V (As := [.int x1]) (rest := []) (C := RX11) (T := TX11) (N := 18) (ci := 9) S G (m_isOne l X m0 ms ha f x1 hm0 hf0 s.heap.size) gX11_pair_X11_isOne rfl rfl rfl hdV_X11_isOne ⟨Nat.le_of_ble_eq_true rfl, Nat.le_of_ble_eq_true rfl⟩ [0, 1] rfl (by decide) 0 rfl rfl rfl hl.1 (Nat.le_of_ble_eq_true rfl) dX11_pair_2 ⟨Nat.le_of_ble_eq_true rfl, Nat.le_of_ble_eq_true rfl⟩) (fun r_1 u_1 H locs hp_1 G => ?_)
  have G : wd X (va_A [(m0, .inr (9, ms)), (ha, .inl (X.2.1, 371, .inl f)), (hr, .inl (X.2.1, 3, .inl fr))] sz) (va_A [(m0, .inr (9, ms)), (ha, .inl (X.2.1, 371, .inl f)), (hr, .inl (X.2.1, 3, .inl fr))] sz) s [(m0, .inr (9, ms)), (ha, .inl (X.2.1, 371, .inl f)), (hr, .inl (X.2.1, 3, .inl fr))] H locs := G
  subst hp_1
  refine lv_if_eq (tgt := 26) zx zb dX11_pair_5 (by decide) (fun c_2 => ?_) (fun c_2 => absurd (by decide) c_2)
  refine lv_aload_n zx zb dX11_pair_26 rfl (lv_at hl 0 rfl) ?_
  refine lv_bipush (v := (-10)) zx zb dX11_pair_27 (by decide) ?_
  refine o_wi (cells' := 0) (slots' := 0) (wr := [(ha, .inl (X.2.1, 371, .inl f))]) G rfl rfl [0, 2] [1] rfl rfl (by decide) (by decide) (n_V (As := [.int (-10)]) (rest := []) (C := RX11) (T := TX11) (N := 18) (ci := 9) S G (m_bad l X m0 ms hr fr (-10) hm3 H.size) gX11_pair_X11_bad rfl rfl rfl hdV_X11_bad ⟨Nat.le_of_ble_eq_true rfl, Nat.le_of_ble_eq_true rfl⟩ [0, 2] rfl (by decide) 0 rfl rfl rfl hl.1 (Nat.le_of_ble_eq_true rfl) dX11_pair_29 ⟨Nat.le_of_ble_eq_true rfl, Nat.le_of_ble_eq_true rfl⟩) (fun r_3 u_3 H locs hp_3 G => ?_)
  have G : wd X (va_A [(m0, .inr (9, ms)), (ha, .inl (X.2.1, 371, .inl f)), (hr, .inl (X.2.1, 3, .inl fr))] sz) (va_A [(m0, .inr (9, ms)), (ha, .inl (X.2.1, 371, .inl f)), (hr, .inl (X.2.1, 3, .inl fr))] sz) s [(ha, .inl (X.2.1, 371, .inl f))] H locs := G
  subst hp_3
  exact e_int S zr zlk (vp_nar_int _) G () [] rfl (by decide) (Or.inl rfl) (rfl) dX11_pair_32
set_option maxHeartbeats 4000000 in
set_option maxRecDepth 100000 in
/-- begin -/
theorem m_begin (l : Launch) (X : EX) (ha : Nat) (f : Nat → Int32) (x : Int32) (sz : Nat) : Met l yX11_begin wsX11_begin ({ frames := 0, cells := 0, slots := 0, locals := 0 } : Room) (pE X [.ref ha, .int x] [(ha, .inl (X.2.1, 371, .inl f))] sz) (qV (fun (u : Nat → Int32) => (∀ j : Nat, j < 123 → j ≠ 36 → u j = 0) ∧ u 36 = x ∧ ∀ j : Nat, 123 ≤ j → u j = f j) X (fun (u : Nat → Int32) => [(ha, .inl (X.2.1, 371, .inl u))]) [(ha, .inl (X.2.1, 371, .inl f))] sz) 0 0 (va_A [(ha, .inl (X.2.1, 371, .inl f))] sz) := by
  refine mk_met (B := (va_A [(ha, .inl (X.2.1, 371, .inl f))] sz)) (A := (va_A [(ha, .inl (X.2.1, 371, .inl f))] sz)) (cc := cX11_begin) (maxL := 3) (ret := none) (by decide) rfl (Nat.le_of_ble_eq_true rfl) k_w k_a (fun p e s m below meth c S zr zlk znm zsz G ls hl => ?_)
  have S : CallFix p m c cX11_begin 3 s _ wsX11_begin RX11 := S
  have zx := S.1
  have zb := S.2.1
  have hl : lv_has ls 3 [(0, .ref ha), (1, .int x)] := hl
  refine lv_iconst (v := 0) zx zb dX11_begin_0 (by decide) ?_
  refine lv_istore_n (lv' := [(2, .int 0), (0, .ref ha), (1, .int x)]) zx zb dX11_begin_1 rfl hl (by decide) rfl (fun ls hl => ?_)
  refine k_loop (P := ∀ (n k : Nat), k ≤ 123 → 123 + 1 ≤ k + n → ∀ (g : Nat → Int32) (H : Heap) (locs : List Loc) (ls : Array Slot), (∀ j : Nat, j < k → g j = 0) → (∀ j : Nat, 123 ≤ j → g j = f j) → wd X (va_A [(ha, .inl (X.2.1, 371, .inl f))] sz) (va_A [(ha, .inl (X.2.1, 371, .inl f))] sz) s [(ha, .inl (X.2.1, 371, .inl g))] H locs → lv_has ls 3 [(2, .int (nI k)), (0, .ref ha), (1, .int x)] → W p l e _ s m _ below meth c H locs _ _ _ (F0 m 2 ls [])) (fun loop => loop (123 + 1) 0 (Nat.zero_le _) (by omega) _ _ _ _ (fun j h => absurd h (Nat.not_lt_zero j)) (fun j _ => rfl) G hl) ?_
  intro zn
  induction zn with
  | zero => exact fun k h1 h2 => absurd h2 (by omega)
  | succ zn ih =>
    intro k zk zn1 g H locs ls h1 h2 G hl
    refine lv_iload_n zx zb dX11_begin_2 rfl (lv_at hl 0 rfl) ?_
    refine lv_bipush (v := 123) zx zb dX11_begin_3 (by decide) ?_
    refine lv_icmp_ge (tgt := 18) zx zb dX11_begin_5 (by decide) (fun c_1 => ?_) (fun c_1 => ?_)
    · have hkE := k_ge (by decide) zk c_1
      refine lv_aload_n zx zb dX11_begin_18 rfl (lv_at hl 1 rfl) ?_
      refine lv_bipush (v := 36) zx zb dX11_begin_19 (by decide) ?_
      refine lv_iload_n zx zb dX11_begin_21 rfl (lv_at hl 2 rfl) ?_
      refine r_iast S G 0 rfl (k_vp (by decide)) dX11_begin_22 (fun H locs G => ?_)
      have G : wd X (va_A [(ha, .inl (X.2.1, 371, .inl f))] sz) (va_A [(ha, .inl (X.2.1, 371, .inl f))] sz) s [(ha, .inl (X.2.1, 371, .inl (upd g 36 x)))] H locs := G
      exact e_void S zr zlk G (upd g 36 x) [0] rfl (by decide) (Or.inr rfl) (by subst hkE; exact k_beg h1 h2) dX11_begin_23
    · have hkl := k_lt (by decide) zk c_1
      refine lv_aload_n zx zb dX11_begin_8 rfl (lv_at hl 1 rfl) ?_
      refine lv_iload_n zx zb dX11_begin_9 rfl (lv_at hl 0 rfl) ?_
      refine lv_iconst (v := 0) zx zb dX11_begin_10 (by decide) ?_
      refine r_iast S G 0 rfl (vp_in_nI (by omega) (by decide)) dX11_begin_11 (fun H locs G => ?_)
      rw [nI_clamp (by omega)] at G
      have G : wd X (va_A [(ha, .inl (X.2.1, 371, .inl f))] sz) (va_A [(ha, .inl (X.2.1, 371, .inl f))] sz) s [(ha, .inl (X.2.1, 371, .inl (upd g k 0)))] H locs := G
      refine lv_iinc (v := (nI (k + 1))) (lv' := [(2, .int (nI (k + 1))), (0, .ref ha), (1, .int x)]) zx zb dX11_begin_12 hl (k := 0) rfl (nI_1 k) (by decide) rfl (fun ls hl => ?_)
      refine lv_goto (tgt := 2) zx zb dX11_begin_15 (by decide) ?_
      exact ih (k + 1) (by omega) (by omega) _ _ _ _ (k_up0 h1) (k_upge hkl h2 _) G hl
theorem mm_X11_race_c64 : Cond.constantLong RX11 64 (10) ∈ wsX11_race := by decide +kernel
theorem mm_X11_race_c66 : Cond.constantLong RX11 66 (60) ∈ wsX11_race := by decide +kernel
theorem in_X11_race_X11 : ∀ w ∈ wsX110, w ∈ wsX11_race := by decide +kernel
theorem lk_X11_race_7 : Cond.fieldLink RX11 7 "EggSpoonsModel" "all" "[I" ∈ wsX11_race := by decide +kernel
theorem hdS_X11_begin : yX11_begin.cls ≠ "java/lang/invoke/MethodHandle" ∧ yX11_begin.cls ≠ "java/lang/invoke/VarHandle" ∧ (parseMethodDescriptor yX11_begin.desc).map (fun d => d.parameters.length) = some 2 := by decide +kernel
set_option maxHeartbeats 4000000 in
set_option maxRecDepth 100000 in
/-- race -/
theorem m_race (l : Launch) (X : EX) (m0 : Nat) (ms : List Value) (ha : Nat) (f : Nat → Int32) (hr : Nat) (fr : Nat → Int32) (x1 : Int32) (hm0 : ms[0]? = some (.ref ha)) (hm3 : ms[3]? = some (.ref hr)) (hf0 : f 0 = 0) (sz : Nat) : Met l yX11_race wsX11_race ({ frames := 1, cells := 0, slots := 0, locals := 25 } : Room) (pE X [.ref m0, .int x1] [(m0, .inr (9, ms)), (ha, .inl (X.2.1, 371, .inl f)), (hr, .inl (X.2.1, 3, .inl fr))] sz) (qI (fun (r : Int32) (u : Unit) => r = if (10 : Int32) ≤ x1 ∧ x1 ≤ 60 then 0 else -2) X (fun (u : Unit) => []) [(m0, .inr (9, ms)), (ha, .inl (X.2.1, 371, .inl f)), (hr, .inl (X.2.1, 3, .inl fr))] sz) 0 0 (va_A [(m0, .inr (9, ms)), (ha, .inl (X.2.1, 371, .inl f)), (hr, .inl (X.2.1, 3, .inl fr))] sz) := by
  refine mk_met (B := (va_A [(m0, .inr (9, ms)), (ha, .inl (X.2.1, 371, .inl f)), (hr, .inl (X.2.1, 3, .inl fr))] sz)) (A := (va_A [(m0, .inr (9, ms)), (ha, .inl (X.2.1, 371, .inl f)), (hr, .inl (X.2.1, 3, .inl fr))] sz)) (cc := cX11_race) (maxL := 3) (ret := (some .int)) (by decide) rfl (Nat.le_of_ble_eq_true rfl) k_w k_a (fun p e s m below meth c S zr zlk znm zsz G ls hl => ?_)
  have S : CallFix p m c cX11_race 3 s _ wsX11_race RX11 := S
  have zx := S.1
  have zb := S.2.1
  have hl : lv_has ls 3 [(0, .ref m0), (1, .int x1)] := hl
  refine lv_iload_n zx zb dX11_race_0 rfl (lv_at hl 1 rfl) ?_
  refine lv_i2l (v := (Int32.toInt64 x1)) zx zb dX11_race_1 rfl ?_
  refine lv_ldc2 zx zb S.2.2.2.1 (S.2.2.2.2 _ mm_X11_race_c64) dX11_race_2 ?_
  refine k_ld (v := (Int32.toInt64 10)) (by decide) ?_
  refine lv_ldc2 zx zb S.2.2.2.1 (S.2.2.2.2 _ mm_X11_race_c66) dX11_race_5 ?_
  refine k_ld (v := (Int32.toInt64 60)) (by decide) ?_
  refine o_ri (cells' := 0) (slots' := 0) G rfl rfl (n_S (As := [.long (Int32.toInt64 x1), .long (Int32.toInt64 10), .long (Int32.toInt64 60)]) (rest := []) S G (m_in l X x1 10 60 s.heap.size) gX11_race_X11_in rfl rfl rfl hdS_X11_in ⟨Nat.le_of_ble_eq_true rfl, Nat.le_of_ble_eq_true rfl⟩ [] rfl (by decide) rfl hl.1 (Nat.le_of_ble_eq_true rfl) dX11_race_8 ⟨Nat.le_of_ble_eq_true rfl, Nat.le_of_ble_eq_true rfl⟩) (fun r_1 u_1 H locs hp_1 G => ?_)
  have G : wd X (va_A [(m0, .inr (9, ms)), (ha, .inl (X.2.1, 371, .inl f)), (hr, .inl (X.2.1, 3, .inl fr))] sz) (va_A [(m0, .inr (9, ms)), (ha, .inl (X.2.1, 371, .inl f)), (hr, .inl (X.2.1, 3, .inl fr))] sz) s [(m0, .inr (9, ms)), (ha, .inl (X.2.1, 371, .inl f)), (hr, .inl (X.2.1, 3, .inl fr))] H locs := G
  rcases hp_1 with ⟨rfl, hw_1⟩ | ⟨rfl, hw_1⟩
  · refine lv_if_ne (tgt := 21) zx zb dX11_race_11 (by decide) (fun c_2 => ?_) (fun c_2 => absurd c_2 (by decide))
    refine lv_aload_n zx zb dX11_race_21 rfl (lv_at hl 0 rfl) ?_
    refine o_ri (cells' := 0) (slots' := 0) G rfl rfl (n_V (As := []) (rest := []) (C := RX11) (T := TX11) (N := 18) (ci := 9) S G (m_many l X m0 ms ha f 0 hm0 hf0 H.size) gX11_race_X11_many rfl rfl rfl hdV_X11_many ⟨Nat.le_of_ble_eq_true rfl, Nat.le_of_ble_eq_true rfl⟩ [0, 1] rfl (by decide) 0 rfl rfl rfl hl.1 (Nat.le_of_ble_eq_true rfl) dX11_race_22 ⟨Nat.le_of_ble_eq_true rfl, Nat.le_of_ble_eq_true rfl⟩) (fun r_3 u_3 H locs hp_3 G => ?_)
    have G : wd X (va_A [(m0, .inr (9, ms)), (ha, .inl (X.2.1, 371, .inl f)), (hr, .inl (X.2.1, 3, .inl fr))] sz) (va_A [(m0, .inr (9, ms)), (ha, .inl (X.2.1, 371, .inl f)), (hr, .inl (X.2.1, 3, .inl fr))] sz) s [(m0, .inr (9, ms)), (ha, .inl (X.2.1, 371, .inl f)), (hr, .inl (X.2.1, 3, .inl fr))] H locs := G
    subst hp_3
    refine lv_istore_n (lv' := [(2, .int 0), (0, .ref m0), (1, .int x1)]) zx zb dX11_race_25 rfl hl (by decide) rfl (fun ls hl => ?_)
    refine lv_aload_n zx zb dX11_race_26 rfl (lv_at hl 1 rfl) ?_
    refine r_get (C := RX11) (T := TX11) (N := 18) (ci := 9) (v := .ref ha) S in_X11_race_X11 G 0 rfl rfl 0 (by decide) lk_X11_race_7 hm0 dX11_race_27 ?_
    refine lv_iload_n zx zb dX11_race_30 rfl (lv_at hl 2 rfl) ?_
    refine o_wv (cells' := 0) (slots' := 0) (wr := [(m0, .inr (9, ms)), (hr, .inl (X.2.1, 3, .inl fr))]) G rfl rfl [1] [0, 2] rfl rfl (by decide) (by decide) (n_S (As := [.ref ha, .int x1]) (rest := []) S G (m_begin l X ha f x1 H.size) gX11_race_X11_begin rfl rfl rfl hdS_X11_begin ⟨Nat.le_of_ble_eq_true rfl, Nat.le_of_ble_eq_true rfl⟩ [1] rfl (by decide) rfl hl.1 (Nat.le_of_ble_eq_true rfl) dX11_race_31 ⟨Nat.le_of_ble_eq_true rfl, Nat.le_of_ble_eq_true rfl⟩) (fun u_4 H locs hp_4 G => ?_)
    have G : wd X (va_A [(m0, .inr (9, ms)), (ha, .inl (X.2.1, 371, .inl f)), (hr, .inl (X.2.1, 3, .inl fr))] sz) (va_A [(m0, .inr (9, ms)), (ha, .inl (X.2.1, 371, .inl f)), (hr, .inl (X.2.1, 3, .inl fr))] sz) s [(m0, .inr (9, ms)), (hr, .inl (X.2.1, 3, .inl fr)), (ha, .inl (X.2.1, 371, .inl u_4))] H locs := G
    refine lv_iload_n zx zb dX11_race_34 rfl (lv_at hl 0 rfl) ?_
    exact e_int S zr zlk (vp_nar_int _) G () [] rfl (by decide) (Or.inl rfl) (by first | exact (if_pos hw_1).symm | exact (if_neg (fun h => hw_1 h)).symm) dX11_race_35
  · refine lv_if_ne (tgt := 21) zx zb dX11_race_11 (by decide) (fun c_5 => absurd (by decide) c_5) (fun c_5 => ?_)
    refine lv_aload_n zx zb dX11_race_14 rfl (lv_at hl 0 rfl) ?_
    refine lv_bipush (v := (-2)) zx zb dX11_race_15 (by decide) ?_
    refine o_wi (cells' := 0) (slots' := 0) (wr := [(ha, .inl (X.2.1, 371, .inl f))]) G rfl rfl [0, 2] [1] rfl rfl (by decide) (by decide) (n_V (As := [.int (-2)]) (rest := []) (C := RX11) (T := TX11) (N := 18) (ci := 9) S G (m_bad l X m0 ms hr fr (-2) hm3 H.size) gX11_race_X11_bad rfl rfl rfl hdV_X11_bad ⟨Nat.le_of_ble_eq_true rfl, Nat.le_of_ble_eq_true rfl⟩ [0, 2] rfl (by decide) 0 rfl rfl rfl hl.1 (Nat.le_of_ble_eq_true rfl) dX11_race_17 ⟨Nat.le_of_ble_eq_true rfl, Nat.le_of_ble_eq_true rfl⟩) (fun r_6 u_6 H locs hp_6 G => ?_)
    have G : wd X (va_A [(m0, .inr (9, ms)), (ha, .inl (X.2.1, 371, .inl f)), (hr, .inl (X.2.1, 3, .inl fr))] sz) (va_A [(m0, .inr (9, ms)), (ha, .inl (X.2.1, 371, .inl f)), (hr, .inl (X.2.1, 3, .inl fr))] sz) s [(ha, .inl (X.2.1, 371, .inl f))] H locs := G
    subst hp_6
    exact e_int S zr zlk (vp_nar_int _) G () [] rfl (by decide) (Or.inl rfl) (by first | exact (if_pos hw_1).symm | exact (if_neg (fun h => hw_1 h)).symm) dX11_race_20
set_option maxHeartbeats 4000000 in
set_option maxRecDepth 100000 in
/-- layOne: the first -/
theorem m_layOne (l : Launch) (X : EX) (ha : Nat) (f : Nat → Int32) (x1 : Int32) (x2 : Int32) (x3 : Int32) (hf0 : f 0 = 0) (sz : Nat) : Met l yX11_layOne wsX11_layOne ({ frames := 0, cells := 0, slots := 0, locals := 0 } : Room) (pE X [.ref ha, .int x1, .int x2, .int x3] [(ha, .inl (X.2.1, 371, .inl f))] sz) (qV (fun (u : Nat → Int32) => u 0 = 1) X (fun (u : Nat → Int32) => [(ha, .inl (X.2.1, 371, .inl u))]) [(ha, .inl (X.2.1, 371, .inl f))] sz) 0 0 (va_A [(ha, .inl (X.2.1, 371, .inl f))] sz) := by
  refine mk_met (B := (va_A [(ha, .inl (X.2.1, 371, .inl f))] sz)) (A := (va_A [(ha, .inl (X.2.1, 371, .inl f))] sz)) (cc := cX11_layOne) (maxL := 5) (ret := none) (by decide) rfl (Nat.le_of_ble_eq_true rfl) k_w k_a (fun p e s m below meth c S zr zlk znm zsz G ls hl => ?_)
  have S : CallFix p m c cX11_layOne 5 s _ wsX11_layOne RX11 := S
  have zx := S.1
  have zb := S.2.1
  have hl : lv_has ls 5 [(0, .ref ha), (1, .int x1), (2, .int x2), (3, .int x3)] := hl
  refine lv_aload_n zx zb dX11_layOne_0 rfl (lv_at hl 0 rfl) ?_
  refine lv_iconst (v := 0) zx zb dX11_layOne_1 (by decide) ?_
  refine r_iald (v := 0) S G 0 rfl (k_vp (by decide)) hf0 dX11_layOne_2 ?_
  refine lv_istore (lv' := [(4, .int 0), (0, .ref ha), (1, .int x1), (2, .int x2), (3, .int x3)]) zx zb dX11_layOne_3 hl (by decide) rfl (fun ls hl => ?_)
  refine lv_aload_n zx zb dX11_layOne_5 rfl (lv_at hl 1 rfl) ?_
  refine lv_bipush (v := 37) zx zb dX11_layOne_6 (by decide) ?_
  refine lv_iload zx zb dX11_layOne_8 (lv_at hl 0 rfl) ?_
  refine r_iadd (v := 37) S (by decide) dX11_layOne_10 ?_
  refine lv_iload_n zx zb dX11_layOne_11 rfl (lv_at hl 2 rfl) ?_
  refine r_iast S G 0 rfl (k_vp (by decide)) dX11_layOne_12 (fun H locs G => ?_)
  have G : wd X (va_A [(ha, .inl (X.2.1, 371, .inl f))] sz) (va_A [(ha, .inl (X.2.1, 371, .inl f))] sz) s [(ha, .inl (X.2.1, 371, .inl (upd f 37 x1)))] H locs := G
  refine lv_aload_n zx zb dX11_layOne_13 rfl (lv_at hl 1 rfl) ?_
  refine lv_bipush (v := 43) zx zb dX11_layOne_14 (by decide) ?_
  refine lv_iload zx zb dX11_layOne_16 (lv_at hl 0 rfl) ?_
  refine r_iadd (v := 43) S (by decide) dX11_layOne_18 ?_
  refine lv_iload_n zx zb dX11_layOne_19 rfl (lv_at hl 3 rfl) ?_
  refine r_iast S G 0 rfl (k_vp (by decide)) dX11_layOne_20 (fun H locs G => ?_)
  have G : wd X (va_A [(ha, .inl (X.2.1, 371, .inl f))] sz) (va_A [(ha, .inl (X.2.1, 371, .inl f))] sz) s [(ha, .inl (X.2.1, 371, .inl (upd (upd f 37 x1) 43 x2)))] H locs := G
  refine lv_aload_n zx zb dX11_layOne_21 rfl (lv_at hl 1 rfl) ?_
  refine lv_bipush (v := 49) zx zb dX11_layOne_22 (by decide) ?_
  refine lv_iload zx zb dX11_layOne_24 (lv_at hl 0 rfl) ?_
  refine r_iadd (v := 49) S (by decide) dX11_layOne_26 ?_
  refine lv_iload_n zx zb dX11_layOne_27 rfl (lv_at hl 4 rfl) ?_
  refine r_iast S G 0 rfl (k_vp (by decide)) dX11_layOne_28 (fun H locs G => ?_)
  have G : wd X (va_A [(ha, .inl (X.2.1, 371, .inl f))] sz) (va_A [(ha, .inl (X.2.1, 371, .inl f))] sz) s [(ha, .inl (X.2.1, 371, .inl (upd (upd (upd f 37 x1) 43 x2) 49 x3)))] H locs := G
  refine lv_aload_n zx zb dX11_layOne_29 rfl (lv_at hl 1 rfl) ?_
  refine lv_bipush (v := 11) zx zb dX11_layOne_30 (by decide) ?_
  refine lv_iload zx zb dX11_layOne_32 (lv_at hl 0 rfl) ?_
  refine r_iadd (v := 11) S (by decide) dX11_layOne_34 ?_
  refine lv_iconst (v := 4) zx zb dX11_layOne_35 (by decide) ?_
  refine r_iast S G 0 rfl (k_vp (by decide)) dX11_layOne_36 (fun H locs G => ?_)
  have G : wd X (va_A [(ha, .inl (X.2.1, 371, .inl f))] sz) (va_A [(ha, .inl (X.2.1, 371, .inl f))] sz) s [(ha, .inl (X.2.1, 371, .inl (upd (upd (upd (upd f 37 x1) 43 x2) 49 x3) 11 4)))] H locs := G
  refine lv_aload_n zx zb dX11_layOne_37 rfl (lv_at hl 1 rfl) ?_
  refine lv_iconst (v := 0) zx zb dX11_layOne_38 (by decide) ?_
  refine lv_dup2_11 zx zb dX11_layOne_39 rfl rfl ?_
  refine r_iald (v := 0) S G 0 rfl (k_vp (by decide)) hf0 dX11_layOne_40 ?_
  refine lv_iconst (v := 1) zx zb dX11_layOne_41 (by decide) ?_
  refine r_iadd (v := 1) S (by decide) dX11_layOne_42 ?_
  refine r_iast S G 0 rfl (k_vp (by decide)) dX11_layOne_43 (fun H locs G => ?_)
  have G : wd X (va_A [(ha, .inl (X.2.1, 371, .inl f))] sz) (va_A [(ha, .inl (X.2.1, 371, .inl f))] sz) s [(ha, .inl (X.2.1, 371, .inl (upd (upd (upd (upd (upd f 37 x1) 43 x2) 49 x3) 11 4) 0 1)))] H locs := G
  exact e_void S zr zlk G (upd (upd (upd (upd (upd f 37 x1) 43 x2) 49 x3) 11 4) 0 1) [0] rfl (by decide) (Or.inr rfl) (rfl) dX11_layOne_44
theorem hdS_X11_isKind : yX11_isKind.cls ≠ "java/lang/invoke/MethodHandle" ∧ yX11_isKind.cls ≠ "java/lang/invoke/VarHandle" ∧ (parseMethodDescriptor yX11_isKind.desc).map (fun d => d.parameters.length) = some 1 := by decide +kernel
theorem hdS_X11_isLegs : yX11_isLegs.cls ≠ "java/lang/invoke/MethodHandle" ∧ yX11_isLegs.cls ≠ "java/lang/invoke/VarHandle" ∧ (parseMethodDescriptor yX11_isLegs.desc).map (fun d => d.parameters.length) = some 1 := by decide +kernel
theorem in_X11_one_X11 : ∀ w ∈ wsX110, w ∈ wsX11_one := by decide +kernel
theorem lk_X11_one_7 : Cond.fieldLink RX11 7 "EggSpoonsModel" "all" "[I" ∈ wsX11_one := by decide +kernel
theorem hdS_X11_layOne : yX11_layOne.cls ≠ "java/lang/invoke/MethodHandle" ∧ yX11_layOne.cls ≠ "java/lang/invoke/VarHandle" ∧ (parseMethodDescriptor yX11_layOne.desc).map (fun d => d.parameters.length) = some 4 := by decide +kernel
set_option maxHeartbeats 4000000 in
set_option maxRecDepth 100000 in
/-- one -/
theorem m_one (l : Launch) (X : EX) (m0 : Nat) (ms : List Value) (ha : Nat) (f : Nat → Int32) (hr : Nat) (fr : Nat → Int32) (x1 : Int32) (x2 : Int32) (x3 : Int32) (hm0 : ms[0]? = some (.ref ha)) (hm3 : ms[3]? = some (.ref hr)) (hf0 : f 0 = 0) (sz : Nat) : Met l yX11_one wsX11_one ({ frames := 2, cells := 0, slots := 0, locals := 45 } : Room) (pE X [.ref m0, .int x1, .int x2, .int x3] [(m0, .inr (9, ms)), (ha, .inl (X.2.1, 371, .inl f)), (hr, .inl (X.2.1, 3, .inl fr))] sz) (qI (fun (r : Int32) (u : Unit) => r = if ((0 : Int32) ≤ x1 ∧ x1 ≤ 5) ∧ ((1 : Int32) ≤ x2 ∧ x2 ≤ 9) ∧ ((0 : Int32) ≤ x3 ∧ x3 ≤ 5) then 0 else -2) X (fun (u : Unit) => []) [(m0, .inr (9, ms)), (ha, .inl (X.2.1, 371, .inl f)), (hr, .inl (X.2.1, 3, .inl fr))] sz) 0 0 (va_A [(m0, .inr (9, ms)), (ha, .inl (X.2.1, 371, .inl f)), (hr, .inl (X.2.1, 3, .inl fr))] sz) := by
  refine mk_met (B := (va_A [(m0, .inr (9, ms)), (ha, .inl (X.2.1, 371, .inl f)), (hr, .inl (X.2.1, 3, .inl fr))] sz)) (A := (va_A [(m0, .inr (9, ms)), (ha, .inl (X.2.1, 371, .inl f)), (hr, .inl (X.2.1, 3, .inl fr))] sz)) (cc := cX11_one) (maxL := 4) (ret := (some .int)) (by decide) rfl (Nat.le_of_ble_eq_true rfl) k_w k_a (fun p e s m below meth c S zr zlk znm zsz G ls hl => ?_)
  have S : CallFix p m c cX11_one 4 s _ wsX11_one RX11 := S
  have zx := S.1
  have zb := S.2.1
  have hl : lv_has ls 4 [(0, .ref m0), (1, .int x1), (2, .int x2), (3, .int x3)] := hl
  refine lv_iload_n zx zb dX11_one_0 rfl (lv_at hl 1 rfl) ?_
  refine o_ri (cells' := 0) (slots' := 0) G rfl rfl (n_S (As := [.int x1]) (rest := []) S G (m_isKind l X x1 s.heap.size) gX11_one_X11_isKind rfl rfl rfl hdS_X11_isKind ⟨Nat.le_of_ble_eq_true rfl, Nat.le_of_ble_eq_true rfl⟩ [] rfl (by decide) rfl hl.1 (Nat.le_of_ble_eq_true rfl) dX11_one_1 ⟨Nat.le_of_ble_eq_true rfl, Nat.le_of_ble_eq_true rfl⟩) (fun r_1 u_1 H locs hp_1 G => ?_)
  have G : wd X (va_A [(m0, .inr (9, ms)), (ha, .inl (X.2.1, 371, .inl f)), (hr, .inl (X.2.1, 3, .inl fr))] sz) (va_A [(m0, .inr (9, ms)), (ha, .inl (X.2.1, 371, .inl f)), (hr, .inl (X.2.1, 3, .inl fr))] sz) s [(m0, .inr (9, ms)), (ha, .inl (X.2.1, 371, .inl f)), (hr, .inl (X.2.1, 3, .inl fr))] H locs := G
  rcases hp_1 with ⟨rfl, hw_1⟩ | ⟨rfl, hw_1⟩
  · refine lv_if_eq (tgt := 21) zx zb dX11_one_4 (by decide) (fun c_2 => absurd c_2 (by decide)) (fun c_2 => ?_)
    refine lv_iload_n zx zb dX11_one_7 rfl (lv_at hl 2 rfl) ?_
    refine o_ri (cells' := 0) (slots' := 0) G rfl rfl (n_S (As := [.int x2]) (rest := []) S G (m_isLegs l X x2 H.size) gX11_one_X11_isLegs rfl rfl rfl hdS_X11_isLegs ⟨Nat.le_of_ble_eq_true rfl, Nat.le_of_ble_eq_true rfl⟩ [] rfl (by decide) rfl hl.1 (Nat.le_of_ble_eq_true rfl) dX11_one_8 ⟨Nat.le_of_ble_eq_true rfl, Nat.le_of_ble_eq_true rfl⟩) (fun r_3 u_3 H locs hp_3 G => ?_)
    have G : wd X (va_A [(m0, .inr (9, ms)), (ha, .inl (X.2.1, 371, .inl f)), (hr, .inl (X.2.1, 3, .inl fr))] sz) (va_A [(m0, .inr (9, ms)), (ha, .inl (X.2.1, 371, .inl f)), (hr, .inl (X.2.1, 3, .inl fr))] sz) s [(m0, .inr (9, ms)), (ha, .inl (X.2.1, 371, .inl f)), (hr, .inl (X.2.1, 3, .inl fr))] H locs := G
    rcases hp_3 with ⟨rfl, hw_3⟩ | ⟨rfl, hw_3⟩
    · refine lv_if_eq (tgt := 21) zx zb dX11_one_11 (by decide) (fun c_4 => absurd c_4 (by decide)) (fun c_4 => ?_)
      refine lv_iload_n zx zb dX11_one_14 rfl (lv_at hl 3 rfl) ?_
      refine o_ri (cells' := 0) (slots' := 0) G rfl rfl (n_S (As := [.int x3]) (rest := []) S G (m_isKind l X x3 H.size) gX11_one_X11_isKind rfl rfl rfl hdS_X11_isKind ⟨Nat.le_of_ble_eq_true rfl, Nat.le_of_ble_eq_true rfl⟩ [] rfl (by decide) rfl hl.1 (Nat.le_of_ble_eq_true rfl) dX11_one_15 ⟨Nat.le_of_ble_eq_true rfl, Nat.le_of_ble_eq_true rfl⟩) (fun r_5 u_5 H locs hp_5 G => ?_)
      have G : wd X (va_A [(m0, .inr (9, ms)), (ha, .inl (X.2.1, 371, .inl f)), (hr, .inl (X.2.1, 3, .inl fr))] sz) (va_A [(m0, .inr (9, ms)), (ha, .inl (X.2.1, 371, .inl f)), (hr, .inl (X.2.1, 3, .inl fr))] sz) s [(m0, .inr (9, ms)), (ha, .inl (X.2.1, 371, .inl f)), (hr, .inl (X.2.1, 3, .inl fr))] H locs := G
      rcases hp_5 with ⟨rfl, hw_5⟩ | ⟨rfl, hw_5⟩
      · refine lv_if_ne (tgt := 28) zx zb dX11_one_18 (by decide) (fun c_6 => ?_) (fun c_6 => absurd c_6 (by decide))
        refine lv_aload_n zx zb dX11_one_28 rfl (lv_at hl 0 rfl) ?_
        refine o_ri (cells' := 0) (slots' := 0) G rfl rfl (n_V (As := []) (rest := []) (C := RX11) (T := TX11) (N := 18) (ci := 9) S G (m_many l X m0 ms ha f 0 hm0 hf0 H.size) gX11_one_X11_many rfl rfl rfl hdV_X11_many ⟨Nat.le_of_ble_eq_true rfl, Nat.le_of_ble_eq_true rfl⟩ [0, 1] rfl (by decide) 0 rfl rfl rfl hl.1 (Nat.le_of_ble_eq_true rfl) dX11_one_29 ⟨Nat.le_of_ble_eq_true rfl, Nat.le_of_ble_eq_true rfl⟩) (fun r_7 u_7 H locs hp_7 G => ?_)
        have G : wd X (va_A [(m0, .inr (9, ms)), (ha, .inl (X.2.1, 371, .inl f)), (hr, .inl (X.2.1, 3, .inl fr))] sz) (va_A [(m0, .inr (9, ms)), (ha, .inl (X.2.1, 371, .inl f)), (hr, .inl (X.2.1, 3, .inl fr))] sz) s [(m0, .inr (9, ms)), (ha, .inl (X.2.1, 371, .inl f)), (hr, .inl (X.2.1, 3, .inl fr))] H locs := G
        subst hp_7
        refine lv_bipush (v := 6) zx zb dX11_one_32 (by decide) ?_
        refine lv_icmp_ne (tgt := 42) zx zb dX11_one_34 (by decide) (fun c_8 => ?_) (fun c_8 => absurd c_8 (by decide))
        refine lv_aload_n zx zb dX11_one_42 rfl (lv_at hl 0 rfl) ?_
        refine r_get (C := RX11) (T := TX11) (N := 18) (ci := 9) (v := .ref ha) S in_X11_one_X11 G 0 rfl rfl 0 (by decide) lk_X11_one_7 hm0 dX11_one_43 ?_
        refine lv_iload_n zx zb dX11_one_46 rfl (lv_at hl 1 rfl) ?_
        refine lv_iload_n zx zb dX11_one_47 rfl (lv_at hl 2 rfl) ?_
        refine lv_iload_n zx zb dX11_one_48 rfl (lv_at hl 3 rfl) ?_
        refine o_wv (cells' := 0) (slots' := 0) (wr := [(m0, .inr (9, ms)), (hr, .inl (X.2.1, 3, .inl fr))]) G rfl rfl [1] [0, 2] rfl rfl (by decide) (by decide) (n_S (As := [.ref ha, .int x1, .int x2, .int x3]) (rest := []) S G (m_layOne l X ha f x1 x2 x3 hf0 H.size) gX11_one_X11_layOne rfl rfl rfl hdS_X11_layOne ⟨Nat.le_of_ble_eq_true rfl, Nat.le_of_ble_eq_true rfl⟩ [1] rfl (by decide) rfl hl.1 (Nat.le_of_ble_eq_true rfl) dX11_one_49 ⟨Nat.le_of_ble_eq_true rfl, Nat.le_of_ble_eq_true rfl⟩) (fun u_9 H locs hp_9 G => ?_)
        have G : wd X (va_A [(m0, .inr (9, ms)), (ha, .inl (X.2.1, 371, .inl f)), (hr, .inl (X.2.1, 3, .inl fr))] sz) (va_A [(m0, .inr (9, ms)), (ha, .inl (X.2.1, 371, .inl f)), (hr, .inl (X.2.1, 3, .inl fr))] sz) s [(m0, .inr (9, ms)), (hr, .inl (X.2.1, 3, .inl fr)), (ha, .inl (X.2.1, 371, .inl u_9))] H locs := G
        refine lv_aload_n zx zb dX11_one_52 rfl (lv_at hl 0 rfl) ?_
        refine r_get (C := RX11) (T := TX11) (N := 18) (ci := 9) (v := .ref ha) S in_X11_one_X11 G 0 rfl rfl 0 (by decide) lk_X11_one_7 hm0 dX11_one_53 ?_
        refine lv_iconst (v := 4) zx zb dX11_one_56 (by decide) ?_
        refine lv_iconst (v := 0) zx zb dX11_one_57 (by decide) ?_
        refine r_iast S G 2 rfl (k_vp (by decide)) dX11_one_58 (fun H locs G => ?_)
        have G : wd X (va_A [(m0, .inr (9, ms)), (ha, .inl (X.2.1, 371, .inl f)), (hr, .inl (X.2.1, 3, .inl fr))] sz) (va_A [(m0, .inr (9, ms)), (ha, .inl (X.2.1, 371, .inl f)), (hr, .inl (X.2.1, 3, .inl fr))] sz) s [(m0, .inr (9, ms)), (hr, .inl (X.2.1, 3, .inl fr)), (ha, .inl (X.2.1, 371, .inl (upd u_9 4 0)))] H locs := G
        refine lv_aload_n zx zb dX11_one_59 rfl (lv_at hl 0 rfl) ?_
        refine o_ri (cells' := 0) (slots' := 0) G rfl rfl (n_V (As := []) (rest := []) (C := RX11) (T := TX11) (N := 18) (ci := 9) S G (m_many l X m0 ms ha (upd u_9 4 0) 1 hm0 hp_9 H.size) gX11_one_X11_many rfl rfl rfl hdV_X11_many ⟨Nat.le_of_ble_eq_true rfl, Nat.le_of_ble_eq_true rfl⟩ [0, 2] rfl (by decide) 0 rfl rfl rfl hl.1 (Nat.le_of_ble_eq_true rfl) dX11_one_60 ⟨Nat.le_of_ble_eq_true rfl, Nat.le_of_ble_eq_true rfl⟩) (fun r_11 u_11 H locs hp_11 G => ?_)
        have G : wd X (va_A [(m0, .inr (9, ms)), (ha, .inl (X.2.1, 371, .inl f)), (hr, .inl (X.2.1, 3, .inl fr))] sz) (va_A [(m0, .inr (9, ms)), (ha, .inl (X.2.1, 371, .inl f)), (hr, .inl (X.2.1, 3, .inl fr))] sz) s [(m0, .inr (9, ms)), (hr, .inl (X.2.1, 3, .inl fr)), (ha, .inl (X.2.1, 371, .inl (upd u_9 4 0)))] H locs := G
        subst hp_11
        refine lv_iconst (v := 1) zx zb dX11_one_63 (by decide) ?_
        refine r_isub (v := 0) S (by decide) dX11_one_64 ?_
        exact e_int S zr zlk (vp_nar_int _) G () [] rfl (by decide) (Or.inl rfl) (by first | exact (if_pos ⟨hw_1, hw_3, hw_5⟩).symm | exact (if_neg (fun h => hw_5 h.2.2)).symm) dX11_one_65
      · refine lv_if_ne (tgt := 28) zx zb dX11_one_18 (by decide) (fun c_12 => absurd (by decide) c_12) (fun c_12 => ?_)
        refine lv_aload_n zx zb dX11_one_21 rfl (lv_at hl 0 rfl) ?_
        refine lv_bipush (v := (-2)) zx zb dX11_one_22 (by decide) ?_
        refine o_wi (cells' := 0) (slots' := 0) (wr := [(ha, .inl (X.2.1, 371, .inl f))]) G rfl rfl [0, 2] [1] rfl rfl (by decide) (by decide) (n_V (As := [.int (-2)]) (rest := []) (C := RX11) (T := TX11) (N := 18) (ci := 9) S G (m_bad l X m0 ms hr fr (-2) hm3 H.size) gX11_one_X11_bad rfl rfl rfl hdV_X11_bad ⟨Nat.le_of_ble_eq_true rfl, Nat.le_of_ble_eq_true rfl⟩ [0, 2] rfl (by decide) 0 rfl rfl rfl hl.1 (Nat.le_of_ble_eq_true rfl) dX11_one_24 ⟨Nat.le_of_ble_eq_true rfl, Nat.le_of_ble_eq_true rfl⟩) (fun r_13 u_13 H locs hp_13 G => ?_)
        have G : wd X (va_A [(m0, .inr (9, ms)), (ha, .inl (X.2.1, 371, .inl f)), (hr, .inl (X.2.1, 3, .inl fr))] sz) (va_A [(m0, .inr (9, ms)), (ha, .inl (X.2.1, 371, .inl f)), (hr, .inl (X.2.1, 3, .inl fr))] sz) s [(ha, .inl (X.2.1, 371, .inl f))] H locs := G
        subst hp_13
        exact e_int S zr zlk (vp_nar_int _) G () [] rfl (by decide) (Or.inl rfl) (by first | exact (if_pos ⟨hw_1, hw_3, hw_5⟩).symm | exact (if_neg (fun h => hw_5 h.2.2)).symm) dX11_one_27
    · refine lv_if_eq (tgt := 21) zx zb dX11_one_11 (by decide) (fun c_14 => ?_) (fun c_14 => absurd (by decide) c_14)
      refine lv_aload_n zx zb dX11_one_21 rfl (lv_at hl 0 rfl) ?_
      refine lv_bipush (v := (-2)) zx zb dX11_one_22 (by decide) ?_
      refine o_wi (cells' := 0) (slots' := 0) (wr := [(ha, .inl (X.2.1, 371, .inl f))]) G rfl rfl [0, 2] [1] rfl rfl (by decide) (by decide) (n_V (As := [.int (-2)]) (rest := []) (C := RX11) (T := TX11) (N := 18) (ci := 9) S G (m_bad l X m0 ms hr fr (-2) hm3 H.size) gX11_one_X11_bad rfl rfl rfl hdV_X11_bad ⟨Nat.le_of_ble_eq_true rfl, Nat.le_of_ble_eq_true rfl⟩ [0, 2] rfl (by decide) 0 rfl rfl rfl hl.1 (Nat.le_of_ble_eq_true rfl) dX11_one_24 ⟨Nat.le_of_ble_eq_true rfl, Nat.le_of_ble_eq_true rfl⟩) (fun r_15 u_15 H locs hp_15 G => ?_)
      have G : wd X (va_A [(m0, .inr (9, ms)), (ha, .inl (X.2.1, 371, .inl f)), (hr, .inl (X.2.1, 3, .inl fr))] sz) (va_A [(m0, .inr (9, ms)), (ha, .inl (X.2.1, 371, .inl f)), (hr, .inl (X.2.1, 3, .inl fr))] sz) s [(ha, .inl (X.2.1, 371, .inl f))] H locs := G
      subst hp_15
      exact e_int S zr zlk (vp_nar_int _) G () [] rfl (by decide) (Or.inl rfl) (by first | exact (if_pos ⟨hw_1, hw_3⟩).symm | exact (if_neg (fun h => hw_3 h.2.1)).symm) dX11_one_27
  · refine lv_if_eq (tgt := 21) zx zb dX11_one_4 (by decide) (fun c_16 => ?_) (fun c_16 => absurd (by decide) c_16)
    refine lv_aload_n zx zb dX11_one_21 rfl (lv_at hl 0 rfl) ?_
    refine lv_bipush (v := (-2)) zx zb dX11_one_22 (by decide) ?_
    refine o_wi (cells' := 0) (slots' := 0) (wr := [(ha, .inl (X.2.1, 371, .inl f))]) G rfl rfl [0, 2] [1] rfl rfl (by decide) (by decide) (n_V (As := [.int (-2)]) (rest := []) (C := RX11) (T := TX11) (N := 18) (ci := 9) S G (m_bad l X m0 ms hr fr (-2) hm3 H.size) gX11_one_X11_bad rfl rfl rfl hdV_X11_bad ⟨Nat.le_of_ble_eq_true rfl, Nat.le_of_ble_eq_true rfl⟩ [0, 2] rfl (by decide) 0 rfl rfl rfl hl.1 (Nat.le_of_ble_eq_true rfl) dX11_one_24 ⟨Nat.le_of_ble_eq_true rfl, Nat.le_of_ble_eq_true rfl⟩) (fun r_17 u_17 H locs hp_17 G => ?_)
    have G : wd X (va_A [(m0, .inr (9, ms)), (ha, .inl (X.2.1, 371, .inl f)), (hr, .inl (X.2.1, 3, .inl fr))] sz) (va_A [(m0, .inr (9, ms)), (ha, .inl (X.2.1, 371, .inl f)), (hr, .inl (X.2.1, 3, .inl fr))] sz) s [(ha, .inl (X.2.1, 371, .inl f))] H locs := G
    subst hp_17
    exact e_int S zr zlk (vp_nar_int _) G () [] rfl (by decide) (Or.inl rfl) (by first | exact (if_pos hw_1).symm | exact (if_neg (fun h => hw_1 h.1)).symm) dX11_one_27
theorem mm_X11_type_c203 : Cond.constantLong RX11 203 (127) ∈ wsX11_type := by decide +kernel
theorem in_X11_type_X11 : ∀ w ∈ wsX110, w ∈ wsX11_type := by decide +kernel
theorem lk_X11_type_205 : Cond.fieldLink RX11 205 "EggSpoonsModel" "bytesLong" "I" ∈ wsX11_type := by decide +kernel
theorem lk_X11_type_39 : Cond.fieldLink RX11 39 "EggSpoonsModel" "bytes" "[I" ∈ wsX11_type := by decide +kernel
set_option maxHeartbeats 4000000 in
set_option maxRecDepth 100000 in
/-- type -/
theorem m_type (l : Launch) (X : EX) (m0 : Nat) (y0 : Value) (y1 : Value) (y2 : Value) (y4 : Value) (y5 : Value) (y6 : Value) (y7 : Value) (y8 : Value) (y9 : Value) (y12 : Value) (y13 : Value) (y14 : Value) (y15 : Value) (y16 : Value) (y17 : Value) (hr : Nat) (fr : Nat → Int32) (hb : Nat) (fb : Nat → Int32) (x1 : Int32) (sz : Nat) : Met l yX11_type wsX11_type ({ frames := 1, cells := 0, slots := 0, locals := 25 } : Room) (pE X [.ref m0, .int x1] [(m0, .inr (9, [y0, y1, y2, .ref hr, y4, y5, y6, y7, y8, y9, .ref hb, .int 0, y12, y13, y14, y15, y16, y17])), (hr, .inl (X.2.1, 3, .inl fr)), (hb, .inl (X.2.1, 150, .inl fb))] sz) (qI (fun (r : Int32) (u : Unit) => r = if (0 : Int32) ≤ x1 ∧ x1 ≤ 127 then 1 else -2) X (fun (u : Unit) => []) [(m0, .inr (9, [y0, y1, y2, .ref hr, y4, y5, y6, y7, y8, y9, .ref hb, .int 0, y12, y13, y14, y15, y16, y17])), (hr, .inl (X.2.1, 3, .inl fr)), (hb, .inl (X.2.1, 150, .inl fb))] sz) 0 0 (va_A [(m0, .inr (9, [y0, y1, y2, .ref hr, y4, y5, y6, y7, y8, y9, .ref hb, .int 0, y12, y13, y14, y15, y16, y17])), (hr, .inl (X.2.1, 3, .inl fr)), (hb, .inl (X.2.1, 150, .inl fb))] sz) := by
  refine mk_met (B := (va_A [(m0, .inr (9, [y0, y1, y2, .ref hr, y4, y5, y6, y7, y8, y9, .ref hb, .int 0, y12, y13, y14, y15, y16, y17])), (hr, .inl (X.2.1, 3, .inl fr)), (hb, .inl (X.2.1, 150, .inl fb))] sz)) (A := (va_A [(m0, .inr (9, [y0, y1, y2, .ref hr, y4, y5, y6, y7, y8, y9, .ref hb, .int 0, y12, y13, y14, y15, y16, y17])), (hr, .inl (X.2.1, 3, .inl fr)), (hb, .inl (X.2.1, 150, .inl fb))] sz)) (cc := cX11_type) (maxL := 2) (ret := (some .int)) (by decide) rfl (Nat.le_of_ble_eq_true rfl) k_w k_a (fun p e s m below meth c S zr zlk znm zsz G ls hl => ?_)
  have S : CallFix p m c cX11_type 2 s _ wsX11_type RX11 := S
  have zx := S.1
  have zb := S.2.1
  have hl : lv_has ls 2 [(0, .ref m0), (1, .int x1)] := hl
  refine lv_iload_n zx zb dX11_type_0 rfl (lv_at hl 1 rfl) ?_
  refine lv_i2l (v := (Int32.toInt64 x1)) zx zb dX11_type_1 rfl ?_
  refine lv_lconst (v := (Int32.toInt64 0)) zx zb dX11_type_2 (by decide) ?_
  refine lv_ldc2 zx zb S.2.2.2.1 (S.2.2.2.2 _ mm_X11_type_c203) dX11_type_3 ?_
  refine k_ld (v := (Int32.toInt64 127)) (by decide) ?_
  refine o_ri (cells' := 0) (slots' := 0) G rfl rfl (n_S (As := [.long (Int32.toInt64 x1), .long (Int32.toInt64 0), .long (Int32.toInt64 127)]) (rest := []) S G (m_in l X x1 0 127 s.heap.size) gX11_type_X11_in rfl rfl rfl hdS_X11_in ⟨Nat.le_of_ble_eq_true rfl, Nat.le_of_ble_eq_true rfl⟩ [] rfl (by decide) rfl hl.1 (Nat.le_of_ble_eq_true rfl) dX11_type_6 ⟨Nat.le_of_ble_eq_true rfl, Nat.le_of_ble_eq_true rfl⟩) (fun r_1 u_1 H locs hp_1 G => ?_)
  have G : wd X (va_A [(m0, .inr (9, [y0, y1, y2, .ref hr, y4, y5, y6, y7, y8, y9, .ref hb, .int 0, y12, y13, y14, y15, y16, y17])), (hr, .inl (X.2.1, 3, .inl fr)), (hb, .inl (X.2.1, 150, .inl fb))] sz) (va_A [(m0, .inr (9, [y0, y1, y2, .ref hr, y4, y5, y6, y7, y8, y9, .ref hb, .int 0, y12, y13, y14, y15, y16, y17])), (hr, .inl (X.2.1, 3, .inl fr)), (hb, .inl (X.2.1, 150, .inl fb))] sz) s [(m0, .inr (9, [y0, y1, y2, .ref hr, y4, y5, y6, y7, y8, y9, .ref hb, .int 0, y12, y13, y14, y15, y16, y17])), (hr, .inl (X.2.1, 3, .inl fr)), (hb, .inl (X.2.1, 150, .inl fb))] H locs := G
  rcases hp_1 with ⟨rfl, hw_1⟩ | ⟨rfl, hw_1⟩
  · refine lv_if_ne (tgt := 19) zx zb dX11_type_9 (by decide) (fun c_2 => ?_) (fun c_2 => absurd c_2 (by decide))
    refine lv_aload_n zx zb dX11_type_19 rfl (lv_at hl 0 rfl) ?_
    refine r_get (C := RX11) (T := TX11) (N := 18) (ci := 9) (v := .int 0) S in_X11_type_X11 G 0 rfl rfl 11 (by decide) lk_X11_type_205 rfl dX11_type_20 ?_
    refine lv_sipush (v := 150) zx zb dX11_type_23 (by decide) ?_
    refine lv_icmp_ne (tgt := 34) zx zb dX11_type_26 (by decide) (fun c_3 => ?_) (fun c_3 => absurd c_3 (by decide))
    refine lv_aload_n zx zb dX11_type_34 rfl (lv_at hl 0 rfl) ?_
    refine r_get (C := RX11) (T := TX11) (N := 18) (ci := 9) (v := .ref hb) S in_X11_type_X11 G 0 rfl rfl 10 (by decide) lk_X11_type_39 rfl dX11_type_35 ?_
    refine lv_aload_n zx zb dX11_type_38 rfl (lv_at hl 0 rfl) ?_
    refine r_get (C := RX11) (T := TX11) (N := 18) (ci := 9) (v := .int 0) S in_X11_type_X11 G 0 rfl rfl 11 (by decide) lk_X11_type_205 rfl dX11_type_39 ?_
    refine lv_iload_n zx zb dX11_type_42 rfl (lv_at hl 1 rfl) ?_
    refine r_iast S G 2 rfl (k_vp (by decide)) dX11_type_43 (fun H locs G => ?_)
    obtain ⟨g_4, G⟩ : ∃ g_4 : Nat → Int32, wd X (va_A [(m0, .inr (9, [y0, y1, y2, .ref hr, y4, y5, y6, y7, y8, y9, .ref hb, .int 0, y12, y13, y14, y15, y16, y17])), (hr, .inl (X.2.1, 3, .inl fr)), (hb, .inl (X.2.1, 150, .inl fb))] sz) (va_A [(m0, .inr (9, [y0, y1, y2, .ref hr, y4, y5, y6, y7, y8, y9, .ref hb, .int 0, y12, y13, y14, y15, y16, y17])), (hr, .inl (X.2.1, 3, .inl fr)), (hb, .inl (X.2.1, 150, .inl fb))] sz) s [(m0, .inr (9, [y0, y1, y2, .ref hr, y4, y5, y6, y7, y8, y9, .ref hb, .int 0, y12, y13, y14, y15, y16, y17])), (hr, .inl (X.2.1, 3, .inl fr)), (hb, .inl (X.2.1, 150, .inl g_4))] H locs := ⟨_, G⟩
    refine lv_aload_n zx zb dX11_type_44 rfl (lv_at hl 0 rfl) ?_
    refine lv_dup zx zb dX11_type_45 rfl ?_
    refine r_get (C := RX11) (T := TX11) (N := 18) (ci := 9) (v := .int 0) S in_X11_type_X11 G 0 rfl rfl 11 (by decide) lk_X11_type_205 rfl dX11_type_46 ?_
    refine lv_iconst (v := 1) zx zb dX11_type_49 (by decide) ?_
    refine r_iadd (v := 1) S (by decide) dX11_type_50 ?_
    refine r_put (C := RX11) (T := TX11) (N := 18) (ci := 9) (v := .int 1) S in_X11_type_X11 tyX11_ok nmX11 G 0 rfl rfl 11 (by decide) lk_X11_type_205 rfl (vp_nar_int _) rfl (Nat.le_of_ble_eq_true rfl) dX11_type_51 (fun H locs G => ?_)
    have G : wd X (va_A [(m0, .inr (9, [y0, y1, y2, .ref hr, y4, y5, y6, y7, y8, y9, .ref hb, .int 0, y12, y13, y14, y15, y16, y17])), (hr, .inl (X.2.1, 3, .inl fr)), (hb, .inl (X.2.1, 150, .inl fb))] sz) (va_A [(m0, .inr (9, [y0, y1, y2, .ref hr, y4, y5, y6, y7, y8, y9, .ref hb, .int 0, y12, y13, y14, y15, y16, y17])), (hr, .inl (X.2.1, 3, .inl fr)), (hb, .inl (X.2.1, 150, .inl fb))] sz) s [(m0, .inr (9, [y0, y1, y2, .ref hr, y4, y5, y6, y7, y8, y9, .ref hb, .int 1, y12, y13, y14, y15, y16, y17])), (hr, .inl (X.2.1, 3, .inl fr)), (hb, .inl (X.2.1, 150, .inl g_4))] H locs := G
    refine lv_aload_n zx zb dX11_type_54 rfl (lv_at hl 0 rfl) ?_
    refine r_get (C := RX11) (T := TX11) (N := 18) (ci := 9) (v := .int 1) S in_X11_type_X11 G 0 rfl rfl 11 (by decide) lk_X11_type_205 rfl dX11_type_55 ?_
    exact e_int S zr zlk (vp_nar_int _) G () [] rfl (by decide) (Or.inl rfl) (by first | exact (if_pos hw_1).symm | exact (if_neg (fun h => hw_1 h)).symm) dX11_type_58
  · refine lv_if_ne (tgt := 19) zx zb dX11_type_9 (by decide) (fun c_5 => absurd (by decide) c_5) (fun c_5 => ?_)
    refine lv_aload_n zx zb dX11_type_12 rfl (lv_at hl 0 rfl) ?_
    refine lv_bipush (v := (-2)) zx zb dX11_type_13 (by decide) ?_
    refine o_wi (cells' := 0) (slots' := 0) (wr := [(hb, .inl (X.2.1, 150, .inl fb))]) G rfl rfl [0, 1] [2] rfl rfl (by decide) (by decide) (n_V (As := [.int (-2)]) (rest := []) (C := RX11) (T := TX11) (N := 18) (ci := 9) S G (m_bad l X m0 ([y0, y1, y2, .ref hr, y4, y5, y6, y7, y8, y9, .ref hb, .int 0, y12, y13, y14, y15, y16, y17]) hr fr (-2) rfl H.size) gX11_type_X11_bad rfl rfl rfl hdV_X11_bad ⟨Nat.le_of_ble_eq_true rfl, Nat.le_of_ble_eq_true rfl⟩ [0, 1] rfl (by decide) 0 rfl rfl rfl hl.1 (Nat.le_of_ble_eq_true rfl) dX11_type_15 ⟨Nat.le_of_ble_eq_true rfl, Nat.le_of_ble_eq_true rfl⟩) (fun r_6 u_6 H locs hp_6 G => ?_)
    have G : wd X (va_A [(m0, .inr (9, [y0, y1, y2, .ref hr, y4, y5, y6, y7, y8, y9, .ref hb, .int 0, y12, y13, y14, y15, y16, y17])), (hr, .inl (X.2.1, 3, .inl fr)), (hb, .inl (X.2.1, 150, .inl fb))] sz) (va_A [(m0, .inr (9, [y0, y1, y2, .ref hr, y4, y5, y6, y7, y8, y9, .ref hb, .int 0, y12, y13, y14, y15, y16, y17])), (hr, .inl (X.2.1, 3, .inl fr)), (hb, .inl (X.2.1, 150, .inl fb))] sz) s [(hb, .inl (X.2.1, 150, .inl fb))] H locs := G
    subst hp_6
    exact e_int S zr zlk (vp_nar_int _) G () [] rfl (by decide) (Or.inl rfl) (by first | exact (if_pos hw_1).symm | exact (if_neg (fun h => hw_1 h)).symm) dX11_type_18
theorem in_X11_clear_X11 : ∀ w ∈ wsX110, w ∈ wsX11_clear := by decide +kernel
theorem lk_X11_clear_205 : Cond.fieldLink RX11 205 "EggSpoonsModel" "bytesLong" "I" ∈ wsX11_clear := by decide +kernel
set_option maxHeartbeats 4000000 in
set_option maxRecDepth 100000 in
/-- clear -/
theorem m_clear (l : Launch) (X : EX) (m0 : Nat) (y0 : Value) (y1 : Value) (y2 : Value) (y3 : Value) (y4 : Value) (y5 : Value) (y6 : Value) (y7 : Value) (y8 : Value) (y9 : Value) (y10 : Value) (y12 : Value) (y13 : Value) (y14 : Value) (y15 : Value) (y16 : Value) (y17 : Value) (sz : Nat) : Met l yX11_clear wsX11_clear ({ frames := 0, cells := 0, slots := 0, locals := 0 } : Room) (pE X [.ref m0] [(m0, .inr (9, [y0, y1, y2, y3, y4, y5, y6, y7, y8, y9, y10, .int 0, y12, y13, y14, y15, y16, y17]))] sz) (qI (fun (r : Int32) (u : Unit) => r = 0) X (fun (u : Unit) => []) [(m0, .inr (9, [y0, y1, y2, y3, y4, y5, y6, y7, y8, y9, y10, .int 0, y12, y13, y14, y15, y16, y17]))] sz) 0 0 (va_A [(m0, .inr (9, [y0, y1, y2, y3, y4, y5, y6, y7, y8, y9, y10, .int 0, y12, y13, y14, y15, y16, y17]))] sz) := by
  refine mk_met (B := (va_A [(m0, .inr (9, [y0, y1, y2, y3, y4, y5, y6, y7, y8, y9, y10, .int 0, y12, y13, y14, y15, y16, y17]))] sz)) (A := (va_A [(m0, .inr (9, [y0, y1, y2, y3, y4, y5, y6, y7, y8, y9, y10, .int 0, y12, y13, y14, y15, y16, y17]))] sz)) (cc := cX11_clear) (maxL := 2) (ret := (some .int)) (by decide) rfl (Nat.le_of_ble_eq_true rfl) k_w k_a (fun p e s m below meth c S zr zlk znm zsz G ls hl => ?_)
  have S : CallFix p m c cX11_clear 2 s _ wsX11_clear RX11 := S
  have zx := S.1
  have zb := S.2.1
  have hl : lv_has ls 2 [(0, .ref m0)] := hl
  refine lv_aload_n zx zb dX11_clear_0 rfl (lv_at hl 0 rfl) ?_
  refine r_get (C := RX11) (T := TX11) (N := 18) (ci := 9) (v := .int 0) S in_X11_clear_X11 G 0 rfl rfl 11 (by decide) lk_X11_clear_205 rfl dX11_clear_1 ?_
  refine lv_istore_n (lv' := [(1, .int 0), (0, .ref m0)]) zx zb dX11_clear_4 rfl hl (by decide) rfl (fun ls hl => ?_)
  refine lv_aload_n zx zb dX11_clear_5 rfl (lv_at hl 1 rfl) ?_
  refine lv_iconst (v := 0) zx zb dX11_clear_6 (by decide) ?_
  refine r_put (C := RX11) (T := TX11) (N := 18) (ci := 9) (v := .int 0) S in_X11_clear_X11 tyX11_ok nmX11 G 0 rfl rfl 11 (by decide) lk_X11_clear_205 rfl (vp_nar_int _) rfl (Nat.le_of_ble_eq_true rfl) dX11_clear_7 (fun H locs G => ?_)
  have G : wd X (va_A [(m0, .inr (9, [y0, y1, y2, y3, y4, y5, y6, y7, y8, y9, y10, .int 0, y12, y13, y14, y15, y16, y17]))] sz) (va_A [(m0, .inr (9, [y0, y1, y2, y3, y4, y5, y6, y7, y8, y9, y10, .int 0, y12, y13, y14, y15, y16, y17]))] sz) s [(m0, .inr (9, [y0, y1, y2, y3, y4, y5, y6, y7, y8, y9, y10, .int 0, y12, y13, y14, y15, y16, y17]))] H locs := G
  refine lv_iload_n zx zb dX11_clear_10 rfl (lv_at hl 0 rfl) ?_
  exact e_int S zr zlk (vp_nar_int _) G () [] rfl (by decide) (Or.inl rfl) (rfl) dX11_clear_11
theorem in_X11_lookAt_X11 : ∀ w ∈ wsX110, w ∈ wsX11_lookAt := by decide +kernel
theorem lk_X11_lookAt_217 : Cond.fieldLink RX11 217 "EggSpoonsModel" "tokenAt" "I" ∈ wsX11_lookAt := by decide +kernel
theorem lk_X11_lookAt_205 : Cond.fieldLink RX11 205 "EggSpoonsModel" "bytesLong" "I" ∈ wsX11_lookAt := by decide +kernel
theorem lk_X11_lookAt_220 : Cond.fieldLink RX11 220 "EggSpoonsModel" "tokenLong" "I" ∈ wsX11_lookAt := by decide +kernel
theorem lk_X11_lookAt_223 : Cond.fieldLink RX11 223 "EggSpoonsModel" "token" "I" ∈ wsX11_lookAt := by decide +kernel
theorem lk_X11_lookAt_226 : Cond.fieldLink RX11 226 "EggSpoonsModel" "value" "I" ∈ wsX11_lookAt := by decide +kernel
set_option maxHeartbeats 4000000 in
set_option maxRecDepth 100000 in
/-- lookAt an empty text -/
theorem m_lookAt (l : Launch) (X : EX) (m0 : Nat) (y0 : Value) (y1 : Value) (y2 : Value) (y3 : Value) (y4 : Value) (y5 : Value) (y6 : Value) (y7 : Value) (y8 : Value) (y9 : Value) (y10 : Value) (y12 : Value) (y13 : Value) (y14 : Value) (y15 : Value) (y16 : Value) (y17 : Value) (sz : Nat) : Met l yX11_lookAt wsX11_lookAt ({ frames := 0, cells := 0, slots := 0, locals := 0 } : Room) (pE X [.ref m0, .int 0] [(m0, .inr (9, [y0, y1, y2, y3, y4, y5, y6, y7, y8, y9, y10, .int 0, y12, y13, y14, y15, y16, y17]))] sz) (qV (fun (u : Unit) => True) X (fun (u : Unit) => [(m0, .inr (9, [y0, y1, y2, y3, y4, y5, y6, y7, y8, y9, y10, .int 0, .int 0, .int 0, .int 0, .int 0, y16, y17]))]) [(m0, .inr (9, [y0, y1, y2, y3, y4, y5, y6, y7, y8, y9, y10, .int 0, y12, y13, y14, y15, y16, y17]))] sz) 0 0 (va_A [(m0, .inr (9, [y0, y1, y2, y3, y4, y5, y6, y7, y8, y9, y10, .int 0, y12, y13, y14, y15, y16, y17]))] sz) := by
  refine mk_met (B := (va_A [(m0, .inr (9, [y0, y1, y2, y3, y4, y5, y6, y7, y8, y9, y10, .int 0, y12, y13, y14, y15, y16, y17]))] sz)) (A := (va_A [(m0, .inr (9, [y0, y1, y2, y3, y4, y5, y6, y7, y8, y9, y10, .int 0, y12, y13, y14, y15, y16, y17]))] sz)) (cc := cX11_lookAt) (maxL := 5) (ret := none) (by decide) rfl (Nat.le_of_ble_eq_true rfl) k_w k_a (fun p e s m below meth c S zr zlk znm zsz G ls hl => ?_)
  have S : CallFix p m c cX11_lookAt 5 s _ wsX11_lookAt RX11 := S
  have zx := S.1
  have zb := S.2.1
  have hl : lv_has ls 5 [(0, .ref m0), (1, .int 0)] := hl
  refine lv_aload_n zx zb dX11_lookAt_0 rfl (lv_at hl 0 rfl) ?_
  refine lv_iload_n zx zb dX11_lookAt_1 rfl (lv_at hl 1 rfl) ?_
  refine r_put (C := RX11) (T := TX11) (N := 18) (ci := 9) (v := .int 0) S in_X11_lookAt_X11 tyX11_ok nmX11 G 0 rfl rfl 12 (by decide) lk_X11_lookAt_217 rfl (vp_nar_int _) rfl (Nat.le_of_ble_eq_true rfl) dX11_lookAt_2 (fun H locs G => ?_)
  have G : wd X (va_A [(m0, .inr (9, [y0, y1, y2, y3, y4, y5, y6, y7, y8, y9, y10, .int 0, y12, y13, y14, y15, y16, y17]))] sz) (va_A [(m0, .inr (9, [y0, y1, y2, y3, y4, y5, y6, y7, y8, y9, y10, .int 0, y12, y13, y14, y15, y16, y17]))] sz) s [(m0, .inr (9, [y0, y1, y2, y3, y4, y5, y6, y7, y8, y9, y10, .int 0, .int 0, y13, y14, y15, y16, y17]))] H locs := G
  refine lv_aload_n zx zb dX11_lookAt_5 rfl (lv_at hl 0 rfl) ?_
  refine r_get (C := RX11) (T := TX11) (N := 18) (ci := 9) (v := .int 0) S in_X11_lookAt_X11 G 0 rfl rfl 12 (by decide) lk_X11_lookAt_217 rfl dX11_lookAt_6 ?_
  refine lv_aload_n zx zb dX11_lookAt_9 rfl (lv_at hl 0 rfl) ?_
  refine r_get (C := RX11) (T := TX11) (N := 18) (ci := 9) (v := .int 0) S in_X11_lookAt_X11 G 0 rfl rfl 11 (by decide) lk_X11_lookAt_205 rfl dX11_lookAt_10 ?_
  refine lv_icmp_ge (tgt := 43) zx zb dX11_lookAt_13 (by decide) (fun c_1 => ?_) (fun c_1 => absurd (by decide) c_1)
  refine lv_aload_n zx zb dX11_lookAt_43 rfl (lv_at hl 0 rfl) ?_
  refine lv_iconst (v := 0) zx zb dX11_lookAt_44 (by decide) ?_
  refine r_put (C := RX11) (T := TX11) (N := 18) (ci := 9) (v := .int 0) S in_X11_lookAt_X11 tyX11_ok nmX11 G 0 rfl rfl 13 (by decide) lk_X11_lookAt_220 rfl (vp_nar_int _) rfl (Nat.le_of_ble_eq_true rfl) dX11_lookAt_45 (fun H locs G => ?_)
  have G : wd X (va_A [(m0, .inr (9, [y0, y1, y2, y3, y4, y5, y6, y7, y8, y9, y10, .int 0, y12, y13, y14, y15, y16, y17]))] sz) (va_A [(m0, .inr (9, [y0, y1, y2, y3, y4, y5, y6, y7, y8, y9, y10, .int 0, y12, y13, y14, y15, y16, y17]))] sz) s [(m0, .inr (9, [y0, y1, y2, y3, y4, y5, y6, y7, y8, y9, y10, .int 0, .int 0, .int 0, y14, y15, y16, y17]))] H locs := G
  refine lv_aload_n zx zb dX11_lookAt_48 rfl (lv_at hl 0 rfl) ?_
  refine lv_iconst (v := 0) zx zb dX11_lookAt_49 (by decide) ?_
  refine r_put (C := RX11) (T := TX11) (N := 18) (ci := 9) (v := .int 0) S in_X11_lookAt_X11 tyX11_ok nmX11 G 0 rfl rfl 14 (by decide) lk_X11_lookAt_223 rfl (vp_nar_int _) rfl (Nat.le_of_ble_eq_true rfl) dX11_lookAt_50 (fun H locs G => ?_)
  have G : wd X (va_A [(m0, .inr (9, [y0, y1, y2, y3, y4, y5, y6, y7, y8, y9, y10, .int 0, y12, y13, y14, y15, y16, y17]))] sz) (va_A [(m0, .inr (9, [y0, y1, y2, y3, y4, y5, y6, y7, y8, y9, y10, .int 0, y12, y13, y14, y15, y16, y17]))] sz) s [(m0, .inr (9, [y0, y1, y2, y3, y4, y5, y6, y7, y8, y9, y10, .int 0, .int 0, .int 0, .int 0, y15, y16, y17]))] H locs := G
  refine lv_aload_n zx zb dX11_lookAt_53 rfl (lv_at hl 0 rfl) ?_
  refine lv_iconst (v := 0) zx zb dX11_lookAt_54 (by decide) ?_
  refine r_put (C := RX11) (T := TX11) (N := 18) (ci := 9) (v := .int 0) S in_X11_lookAt_X11 tyX11_ok nmX11 G 0 rfl rfl 15 (by decide) lk_X11_lookAt_226 rfl (vp_nar_int _) rfl (Nat.le_of_ble_eq_true rfl) dX11_lookAt_55 (fun H locs G => ?_)
  have G : wd X (va_A [(m0, .inr (9, [y0, y1, y2, y3, y4, y5, y6, y7, y8, y9, y10, .int 0, y12, y13, y14, y15, y16, y17]))] sz) (va_A [(m0, .inr (9, [y0, y1, y2, y3, y4, y5, y6, y7, y8, y9, y10, .int 0, y12, y13, y14, y15, y16, y17]))] sz) s [(m0, .inr (9, [y0, y1, y2, y3, y4, y5, y6, y7, y8, y9, y10, .int 0, .int 0, .int 0, .int 0, .int 0, y16, y17]))] H locs := G
  refine lv_aload_n zx zb dX11_lookAt_58 rfl (lv_at hl 0 rfl) ?_
  refine r_get (C := RX11) (T := TX11) (N := 18) (ci := 9) (v := .int 0) S in_X11_lookAt_X11 G 0 rfl rfl 12 (by decide) lk_X11_lookAt_217 rfl dX11_lookAt_59 ?_
  refine lv_aload_n zx zb dX11_lookAt_62 rfl (lv_at hl 0 rfl) ?_
  refine r_get (C := RX11) (T := TX11) (N := 18) (ci := 9) (v := .int 0) S in_X11_lookAt_X11 G 0 rfl rfl 11 (by decide) lk_X11_lookAt_205 rfl dX11_lookAt_63 ?_
  refine lv_icmp_ne (tgt := 70) zx zb dX11_lookAt_66 (by decide) (fun c_2 => absurd (by decide) c_2) (fun c_2 => ?_)
  exact e_void S zr zlk G () [0] rfl (by decide) (Or.inr rfl) (trivial) dX11_lookAt_69
theorem in_X11_spells_X11 : ∀ w ∈ wsX110, w ∈ wsX11_spells := by decide +kernel
theorem lk_X11_spells_223 : Cond.fieldLink RX11 223 "EggSpoonsModel" "token" "I" ∈ wsX11_spells := by decide +kernel
set_option maxHeartbeats 4000000 in
set_option maxRecDepth 100000 in
/-- spells at the end -/
theorem m_spells (l : Launch) (X : EX) (m0 : Nat) (ms : List Value) (x1 : Int32) (x2 : Int32) (x3 : Int32) (x4 : Int32) (x5 : Int32) (x6 : Int32) (hm14 : ms[14]? = some (.int 0)) (sz : Nat) : Met l yX11_spells wsX11_spells ({ frames := 0, cells := 0, slots := 0, locals := 0 } : Room) (pE X [.ref m0, .int 4, .int x1, .int x2, .int x3, .int x4, .int x5, .int x6] [(m0, .inr (9, ms))] sz) (qI (fun (r : Int32) (u : Unit) => r = 0) X (fun (u : Unit) => []) [] sz) 0 0 (va_A [] sz) := by
  refine mk_met (B := (fun _ => True)) (A := (va_A [] sz)) (cc := cX11_spells) (maxL := 10) (ret := (some .boolean)) (by decide) rfl (Nat.le_of_ble_eq_true rfl) k_ro k_a (fun p e s m below meth c S zr zlk znm zsz G ls hl => ?_)
  have S : CallFix p m c cX11_spells 10 s _ wsX11_spells RX11 := S
  have zx := S.1
  have zb := S.2.1
  have hl : lv_has ls 10 [(0, .ref m0), (1, .int 4), (2, .int x1), (3, .int x2), (4, .int x3), (5, .int x4), (6, .int x5), (7, .int x6)] := hl
  refine lv_aload_n zx zb dX11_spells_0 rfl (lv_at hl 0 rfl) ?_
  refine r_get (C := RX11) (T := TX11) (N := 18) (ci := 9) (v := .int 0) S in_X11_spells_X11 G 0 rfl rfl 14 (by decide) lk_X11_spells_223 hm14 dX11_spells_1 ?_
  refine lv_iconst (v := 1) zx zb dX11_spells_4 (by decide) ?_
  refine lv_icmp_ne (tgt := 20) zx zb dX11_spells_5 (by decide) (fun c_1 => ?_) (fun c_1 => absurd c_1 (by decide))
  refine lv_iconst (v := 0) zx zb dX11_spells_20 (by decide) ?_
  refine lv_istore (lv' := [(8, .int 0), (0, .ref m0), (1, .int 4), (2, .int x1), (3, .int x2), (4, .int x3), (5, .int x4), (6, .int x5), (7, .int x6)]) zx zb dX11_spells_21 hl (by decide) rfl (fun ls hl => ?_)
  refine lv_iconst (v := 0) zx zb dX11_spells_23 (by decide) ?_
  refine lv_istore (lv' := [(9, .int 0), (8, .int 0), (0, .ref m0), (1, .int 4), (2, .int x1), (3, .int x2), (4, .int x3), (5, .int x4), (6, .int x5), (7, .int x6)]) zx zb dX11_spells_24 hl (by decide) rfl (fun ls hl => ?_)
  refine lv_iload zx zb dX11_spells_26 (lv_at hl 0 rfl) ?_
  refine lv_iload_n zx zb dX11_spells_28 rfl (lv_at hl 3 rfl) ?_
  refine lv_icmp_ge (tgt := 119) zx zb dX11_spells_29 (by decide) (fun c_2 => absurd c_2 (by decide)) (fun c_2 => ?_)
  refine lv_iload zx zb dX11_spells_32 (lv_at hl 1 rfl) ?_
  refine lv_if_eq (tgt := 119) zx zb dX11_spells_34 (by decide) (fun c_3 => ?_) (fun c_3 => absurd (by decide) c_3)
  refine lv_iload zx zb dX11_spells_119 (lv_at hl 1 rfl) ?_
  exact e_int S zr zlk (by decide) G () [] rfl (by decide) (Or.inl rfl) (rfl) dX11_spells_121
theorem hdV_X11_lookAt : yX11_lookAt.cls = RX11 ∧ yX11_lookAt.cls ≠ "java/lang/invoke/MethodHandle" ∧ yX11_lookAt.cls ≠ "java/lang/invoke/VarHandle" ∧ (parseMethodDescriptor yX11_lookAt.desc).map (fun d => d.parameters.length) = some 1 := by decide +kernel
theorem hdV_X11_spells : yX11_spells.cls = RX11 ∧ yX11_spells.cls ≠ "java/lang/invoke/MethodHandle" ∧ yX11_spells.cls ≠ "java/lang/invoke/VarHandle" ∧ (parseMethodDescriptor yX11_spells.desc).map (fun d => d.parameters.length) = some 7 := by decide +kernel
theorem in_X11_read_X11 : ∀ w ∈ wsX110, w ∈ wsX11_read := by decide +kernel
theorem lk_X11_read_217 : Cond.fieldLink RX11 217 "EggSpoonsModel" "tokenAt" "I" ∈ wsX11_read := by decide +kernel
set_option maxHeartbeats 4000000 in
set_option maxRecDepth 100000 in
/-- read an empty text -/
theorem m_read (l : Launch) (X : EX) (m0 : Nat) (y0 : Value) (y1 : Value) (y2 : Value) (y3 : Value) (y4 : Value) (y5 : Value) (y6 : Value) (y7 : Value) (y8 : Value) (y9 : Value) (y10 : Value) (y12 : Value) (y13 : Value) (y14 : Value) (y15 : Value) (y16 : Value) (y17 : Value) (sz : Nat) : Met l yX11_read wsX11_read ({ frames := 1, cells := 0, slots := 0, locals := 29 } : Room) (pE X [.ref m0] [(m0, .inr (9, [y0, y1, y2, y3, y4, y5, y6, y7, y8, y9, y10, .int 0, y12, y13, y14, y15, y16, y17]))] sz) (qI (fun (r : Int32) (u : Unit) => r = -10) X (fun (u : Unit) => []) [(m0, .inr (9, [y0, y1, y2, y3, y4, y5, y6, y7, y8, y9, y10, .int 0, y12, y13, y14, y15, y16, y17]))] sz) 0 0 (va_A [(m0, .inr (9, [y0, y1, y2, y3, y4, y5, y6, y7, y8, y9, y10, .int 0, y12, y13, y14, y15, y16, y17]))] sz) := by
  refine mk_met (B := (va_A [(m0, .inr (9, [y0, y1, y2, y3, y4, y5, y6, y7, y8, y9, y10, .int 0, y12, y13, y14, y15, y16, y17]))] sz)) (A := (va_A [(m0, .inr (9, [y0, y1, y2, y3, y4, y5, y6, y7, y8, y9, y10, .int 0, y12, y13, y14, y15, y16, y17]))] sz)) (cc := cX11_read) (maxL := 3) (ret := (some .int)) (by decide) rfl (Nat.le_of_ble_eq_true rfl) k_w k_a (fun p e s m below meth c S zr zlk znm zsz G ls hl => ?_)
  have S : CallFix p m c cX11_read 3 s _ wsX11_read RX11 := S
  have zx := S.1
  have zb := S.2.1
  have hl : lv_has ls 3 [(0, .ref m0)] := hl
  refine lv_aload_n zx zb dX11_read_0 rfl (lv_at hl 0 rfl) ?_
  refine lv_iconst (v := 0) zx zb dX11_read_1 (by decide) ?_
  refine o_wv (cells' := 0) (slots' := 0) (wr := []) G rfl rfl [0] [] rfl rfl (by decide) (by decide) (n_V (As := [.int 0]) (rest := []) (C := RX11) (T := TX11) (N := 18) (ci := 9) S G (m_lookAt l X m0 y0 y1 y2 y3 y4 y5 y6 y7 y8 y9 y10 y12 y13 y14 y15 y16 y17 s.heap.size) gX11_read_X11_lookAt rfl rfl rfl hdV_X11_lookAt ⟨Nat.le_of_ble_eq_true rfl, Nat.le_of_ble_eq_true rfl⟩ [0] rfl (by decide) 0 rfl rfl rfl hl.1 (Nat.le_of_ble_eq_true rfl) dX11_read_2 ⟨Nat.le_of_ble_eq_true rfl, Nat.le_of_ble_eq_true rfl⟩) (fun u_1 H locs hp_1 G => ?_)
  have G : wd X (va_A [(m0, .inr (9, [y0, y1, y2, y3, y4, y5, y6, y7, y8, y9, y10, .int 0, y12, y13, y14, y15, y16, y17]))] sz) (va_A [(m0, .inr (9, [y0, y1, y2, y3, y4, y5, y6, y7, y8, y9, y10, .int 0, y12, y13, y14, y15, y16, y17]))] sz) s [(m0, .inr (9, [y0, y1, y2, y3, y4, y5, y6, y7, y8, y9, y10, .int 0, .int 0, .int 0, .int 0, .int 0, y16, y17]))] H locs := G
  refine lv_aload_n zx zb dX11_read_5 rfl (lv_at hl 0 rfl) ?_
  refine lv_iconst (v := 4) zx zb dX11_read_6 (by decide) ?_
  refine lv_bipush (v := 114) zx zb dX11_read_7 (by decide) ?_
  refine lv_bipush (v := 97) zx zb dX11_read_9 (by decide) ?_
  refine lv_bipush (v := 99) zx zb dX11_read_11 (by decide) ?_
  refine lv_bipush (v := 101) zx zb dX11_read_13 (by decide) ?_
  refine lv_iconst (v := 0) zx zb dX11_read_15 (by decide) ?_
  refine lv_iconst (v := 0) zx zb dX11_read_16 (by decide) ?_
  refine o_ri (cells' := 0) (slots' := 0) G rfl rfl (n_V (As := [.int 4, .int 114, .int 97, .int 99, .int 101, .int 0, .int 0]) (rest := []) (C := RX11) (T := TX11) (N := 18) (ci := 9) S G (m_spells l X m0 ([y0, y1, y2, y3, y4, y5, y6, y7, y8, y9, y10, .int 0, .int 0, .int 0, .int 0, .int 0, y16, y17]) 114 97 99 101 0 0 rfl H.size) gX11_read_X11_spells rfl rfl rfl hdV_X11_spells ⟨Nat.le_of_ble_eq_true rfl, Nat.le_of_ble_eq_true rfl⟩ [0] rfl (by decide) 0 rfl rfl rfl hl.1 (Nat.le_of_ble_eq_true rfl) dX11_read_17 ⟨Nat.le_of_ble_eq_true rfl, Nat.le_of_ble_eq_true rfl⟩) (fun r_2 u_2 H locs hp_2 G => ?_)
  have G : wd X (va_A [(m0, .inr (9, [y0, y1, y2, y3, y4, y5, y6, y7, y8, y9, y10, .int 0, y12, y13, y14, y15, y16, y17]))] sz) (va_A [(m0, .inr (9, [y0, y1, y2, y3, y4, y5, y6, y7, y8, y9, y10, .int 0, y12, y13, y14, y15, y16, y17]))] sz) s [(m0, .inr (9, [y0, y1, y2, y3, y4, y5, y6, y7, y8, y9, y10, .int 0, .int 0, .int 0, .int 0, .int 0, y16, y17]))] H locs := G
  subst hp_2
  refine lv_if_ne (tgt := 31) zx zb dX11_read_20 (by decide) (fun c_3 => absurd (by decide) c_3) (fun c_3 => ?_)
  refine lv_bipush (v := (-10)) zx zb dX11_read_23 (by decide) ?_
  refine lv_aload_n zx zb dX11_read_25 rfl (lv_at hl 0 rfl) ?_
  refine r_get (C := RX11) (T := TX11) (N := 18) (ci := 9) (v := .int 0) S in_X11_read_X11 G 0 rfl rfl 12 (by decide) lk_X11_read_217 rfl dX11_read_26 ?_
  refine r_isub (v := (-10)) S (by decide) dX11_read_29 ?_
  exact e_int S zr zlk (vp_nar_int _) G () [] rfl (by decide) (Or.inl rfl) (rfl) dX11_read_30
theorem in_X11_undo_X11 : ∀ w ∈ wsX110, w ∈ wsX11_undo := by decide +kernel
theorem lk_X11_undo_7 : Cond.fieldLink RX11 7 "EggSpoonsModel" "all" "[I" ∈ wsX11_undo := by decide +kernel
theorem hdV_X11_no : yX11_no.cls = RX11 ∧ yX11_no.cls ≠ "java/lang/invoke/MethodHandle" ∧ yX11_no.cls ≠ "java/lang/invoke/VarHandle" ∧ (parseMethodDescriptor yX11_no.desc).map (fun d => d.parameters.length) = some 0 := by decide +kernel
set_option maxHeartbeats 4000000 in
set_option maxRecDepth 100000 in
/-- undo of nothing -/
theorem m_undo (l : Launch) (X : EX) (m0 : Nat) (ms : List Value) (ha : Nat) (f : Nat → Int32) (hr : Nat) (fr : Nat → Int32) (hm0 : ms[0]? = some (.ref ha)) (hm3 : ms[3]? = some (.ref hr)) (hf4_ : f 4 = 0) (sz : Nat) : Met l yX11_undo wsX11_undo ({ frames := 1, cells := 0, slots := 0, locals := 20 } : Room) (pE X [.ref m0] [(m0, .inr (9, ms)), (ha, .inl (X.2.1, 371, .inl f)), (hr, .inl (X.2.1, 3, .inl fr))] sz) (qI (fun (r : Int32) (u : Unit) => r = -3) X (fun (u : Unit) => []) [(m0, .inr (9, ms)), (ha, .inl (X.2.1, 371, .inl f)), (hr, .inl (X.2.1, 3, .inl fr))] sz) 0 0 (va_A [(m0, .inr (9, ms)), (ha, .inl (X.2.1, 371, .inl f)), (hr, .inl (X.2.1, 3, .inl fr))] sz) := by
  refine mk_met (B := (va_A [(m0, .inr (9, ms)), (ha, .inl (X.2.1, 371, .inl f)), (hr, .inl (X.2.1, 3, .inl fr))] sz)) (A := (va_A [(m0, .inr (9, ms)), (ha, .inl (X.2.1, 371, .inl f)), (hr, .inl (X.2.1, 3, .inl fr))] sz)) (cc := cX11_undo) (maxL := 2) (ret := (some .int)) (by decide) rfl (Nat.le_of_ble_eq_true rfl) k_w k_a (fun p e s m below meth c S zr zlk znm zsz G ls hl => ?_)
  have S : CallFix p m c cX11_undo 2 s _ wsX11_undo RX11 := S
  have zx := S.1
  have zb := S.2.1
  have hl : lv_has ls 2 [(0, .ref m0)] := hl
  refine lv_aload_n zx zb dX11_undo_0 rfl (lv_at hl 0 rfl) ?_
  refine r_get (C := RX11) (T := TX11) (N := 18) (ci := 9) (v := .ref ha) S in_X11_undo_X11 G 0 rfl rfl 0 (by decide) lk_X11_undo_7 hm0 dX11_undo_1 ?_
  refine lv_iconst (v := 4) zx zb dX11_undo_4 (by decide) ?_
  refine r_iald (v := 0) S G 1 rfl (k_vp (by decide)) hf4_ dX11_undo_5 ?_
  refine lv_if_ne (tgt := 14) zx zb dX11_undo_6 (by decide) (fun c_1 => absurd (by decide) c_1) (fun c_1 => ?_)
  refine lv_aload_n zx zb dX11_undo_9 rfl (lv_at hl 0 rfl) ?_
  refine o_wi (cells' := 0) (slots' := 0) (wr := [(ha, .inl (X.2.1, 371, .inl f))]) G rfl rfl [0, 2] [1] rfl rfl (by decide) (by decide) (n_V (As := []) (rest := []) (C := RX11) (T := TX11) (N := 18) (ci := 9) S G (m_no l X m0 ms hr fr hm3 s.heap.size) gX11_undo_X11_no rfl rfl rfl hdV_X11_no ⟨Nat.le_of_ble_eq_true rfl, Nat.le_of_ble_eq_true rfl⟩ [0, 2] rfl (by decide) 0 rfl rfl rfl hl.1 (Nat.le_of_ble_eq_true rfl) dX11_undo_10 ⟨Nat.le_of_ble_eq_true rfl, Nat.le_of_ble_eq_true rfl⟩) (fun r_2 u_2 H locs hp_2 G => ?_)
  have G : wd X (va_A [(m0, .inr (9, ms)), (ha, .inl (X.2.1, 371, .inl f)), (hr, .inl (X.2.1, 3, .inl fr))] sz) (va_A [(m0, .inr (9, ms)), (ha, .inl (X.2.1, 371, .inl f)), (hr, .inl (X.2.1, 3, .inl fr))] sz) s [(ha, .inl (X.2.1, 371, .inl f))] H locs := G
  subst hp_2
  exact e_int S zr zlk (vp_nar_int _) G () [] rfl (by decide) (Or.inl rfl) (rfl) dX11_undo_13
theorem mm_X11_first_c150 : Cond.constant RX11 150 (1000000) ∈ wsX11_first := by decide +kernel
set_option maxHeartbeats 4000000 in
set_option maxRecDepth 100000 in
/-- first, with no runner -/
theorem m_first (l : Launch) (X : EX) (m0 : Nat) (ms : List Value) (ha : Nat) (f : Nat → Int32) (hm0 : ms[0]? = some (.ref ha)) (hf0 : f 0 = 0) (sz : Nat) : Met l yX11_first wsX11_first ({ frames := 1, cells := 0, slots := 0, locals := 20 } : Room) (pE X [.ref m0] [(m0, .inr (9, ms)), (ha, .inl (X.2.1, 371, .inl f))] sz) (qI (fun (r : Int32) (u : Unit) => r = -1) X (fun (u : Unit) => []) [] sz) 0 0 (va_A [] sz) := by
  refine mk_met (B := (fun _ => True)) (A := (va_A [] sz)) (cc := cX11_first) (maxL := 5) (ret := (some .int)) (by decide) rfl (Nat.le_of_ble_eq_true rfl) k_ro k_a (fun p e s m below meth c S zr zlk znm zsz G ls hl => ?_)
  have S : CallFix p m c cX11_first 5 s _ wsX11_first RX11 := S
  have zx := S.1
  have zb := S.2.1
  have hl : lv_has ls 5 [(0, .ref m0)] := hl
  refine lv_iconst (v := (-1)) zx zb dX11_first_0 (by decide) ?_
  refine lv_istore_n (lv' := [(1, .int (-1)), (0, .ref m0)]) zx zb dX11_first_1 rfl hl (by decide) rfl (fun ls hl => ?_)
  refine lv_ldc zx zb S.2.2.2.1 (S.2.2.2.2 _ mm_X11_first_c150) dX11_first_2 ?_
  refine lv_istore_n (lv' := [(2, .int 1000000), (1, .int (-1)), (0, .ref m0)]) zx zb dX11_first_4 rfl hl (by decide) rfl (fun ls hl => ?_)
  refine lv_iconst (v := 0) zx zb dX11_first_5 (by decide) ?_
  refine lv_istore_n (lv' := [(3, .int 0), (2, .int 1000000), (1, .int (-1)), (0, .ref m0)]) zx zb dX11_first_6 rfl hl (by decide) rfl (fun ls hl => ?_)
  refine lv_iload_n zx zb dX11_first_7 rfl (lv_at hl 0 rfl) ?_
  refine lv_aload_n zx zb dX11_first_8 rfl (lv_at hl 3 rfl) ?_
  refine o_ri (cells' := 0) (slots' := 0) G rfl rfl (n_V (As := []) (rest := [.int 0]) (C := RX11) (T := TX11) (N := 18) (ci := 9) S G (m_many l X m0 ms ha f 0 hm0 hf0 s.heap.size) gX11_first_X11_many rfl rfl rfl hdV_X11_many ⟨Nat.le_of_ble_eq_true rfl, Nat.le_of_ble_eq_true rfl⟩ [0, 1] rfl (by decide) 0 rfl rfl rfl hl.1 (Nat.le_of_ble_eq_true rfl) dX11_first_9 ⟨Nat.le_of_ble_eq_true rfl, Nat.le_of_ble_eq_true rfl⟩) (fun r_1 u_1 H locs hp_1 G => ?_)
  have G : wd X (fun _ => True) (va_A [] sz) s [(m0, .inr (9, ms)), (ha, .inl (X.2.1, 371, .inl f))] H locs := G
  subst hp_1
  refine lv_icmp_ge (tgt := 60) zx zb dX11_first_12 (by decide) (fun c_2 => ?_) (fun c_2 => absurd (by decide) c_2)
  refine lv_iload_n zx zb dX11_first_60 rfl (lv_at hl 2 rfl) ?_
  exact e_int S zr zlk (vp_nar_int _) G () [] rfl (by decide) (Or.inl rfl) (rfl) dX11_first_61
set_option maxHeartbeats 4000000 in
set_option maxRecDepth 100000 in
/-- order, with no runner -/
theorem m_order (l : Launch) (X : EX) (m0 : Nat) (ms : List Value) (ha : Nat) (f : Nat → Int32) (hr : Nat) (fr : Nat → Int32) (x1 : Int32) (hm0 : ms[0]? = some (.ref ha)) (hm3 : ms[3]? = some (.ref hr)) (hf0 : f 0 = 0) (sz : Nat) : Met l yX11_order wsX11_order ({ frames := 1, cells := 0, slots := 0, locals := 21 } : Room) (pE X [.ref m0, .int x1] [(m0, .inr (9, ms)), (ha, .inl (X.2.1, 371, .inl f)), (hr, .inl (X.2.1, 3, .inl fr))] sz) (qI (fun (r : Int32) (u : Unit) => r = if x1 < 0 then -2 else -3) X (fun (u : Unit) => []) [(m0, .inr (9, ms)), (ha, .inl (X.2.1, 371, .inl f)), (hr, .inl (X.2.1, 3, .inl fr))] sz) 0 0 (va_A [(m0, .inr (9, ms)), (ha, .inl (X.2.1, 371, .inl f)), (hr, .inl (X.2.1, 3, .inl fr))] sz) := by
  refine mk_met (B := (va_A [(m0, .inr (9, ms)), (ha, .inl (X.2.1, 371, .inl f)), (hr, .inl (X.2.1, 3, .inl fr))] sz)) (A := (va_A [(m0, .inr (9, ms)), (ha, .inl (X.2.1, 371, .inl f)), (hr, .inl (X.2.1, 3, .inl fr))] sz)) (cc := cX11_order) (maxL := 5) (ret := (some .int)) (by decide) rfl (Nat.le_of_ble_eq_true rfl) k_w k_a (fun p e s m below meth c S zr zlk znm zsz G ls hl => ?_)
  have S : CallFix p m c cX11_order 5 s _ wsX11_order RX11 := S
  have zx := S.1
  have zb := S.2.1
  have hl : lv_has ls 5 [(0, .ref m0), (1, .int x1)] := hl
  refine lv_iload_n zx zb dX11_order_0 rfl (lv_at hl 1 rfl) ?_
  refine lv_if_ge (tgt := 11) zx zb dX11_order_1 (by decide) (fun c_1 => ?_) (fun c_1 => ?_)
  · refine lv_iload_n zx zb dX11_order_11 rfl (lv_at hl 1 rfl) ?_
    refine lv_aload_n zx zb dX11_order_12 rfl (lv_at hl 0 rfl) ?_
    refine o_ri (cells' := 0) (slots' := 0) G rfl rfl (n_V (As := []) (rest := [.int x1]) (C := RX11) (T := TX11) (N := 18) (ci := 9) S G (m_many l X m0 ms ha f 0 hm0 hf0 s.heap.size) gX11_order_X11_many rfl rfl rfl hdV_X11_many ⟨Nat.le_of_ble_eq_true rfl, Nat.le_of_ble_eq_true rfl⟩ [0, 1] rfl (by decide) 0 rfl rfl rfl hl.1 (Nat.le_of_ble_eq_true rfl) dX11_order_13 ⟨Nat.le_of_ble_eq_true rfl, Nat.le_of_ble_eq_true rfl⟩) (fun r_2 u_2 H locs hp_2 G => ?_)
    have G : wd X (va_A [(m0, .inr (9, ms)), (ha, .inl (X.2.1, 371, .inl f)), (hr, .inl (X.2.1, 3, .inl fr))] sz) (va_A [(m0, .inr (9, ms)), (ha, .inl (X.2.1, 371, .inl f)), (hr, .inl (X.2.1, 3, .inl fr))] sz) s [(m0, .inr (9, ms)), (ha, .inl (X.2.1, 371, .inl f)), (hr, .inl (X.2.1, 3, .inl fr))] H locs := G
    subst hp_2
    refine lv_icmp_lt (tgt := 24) zx zb dX11_order_16 (by decide) (fun c_3 => absurd c_3 (Int32.not_lt.mpr c_1)) (fun c_3 => ?_)
    refine lv_aload_n zx zb dX11_order_19 rfl (lv_at hl 0 rfl) ?_
    refine o_wi (cells' := 0) (slots' := 0) (wr := [(ha, .inl (X.2.1, 371, .inl f))]) G rfl rfl [0, 2] [1] rfl rfl (by decide) (by decide) (n_V (As := []) (rest := []) (C := RX11) (T := TX11) (N := 18) (ci := 9) S G (m_no l X m0 ms hr fr hm3 H.size) gX11_order_X11_no rfl rfl rfl hdV_X11_no ⟨Nat.le_of_ble_eq_true rfl, Nat.le_of_ble_eq_true rfl⟩ [0, 2] rfl (by decide) 0 rfl rfl rfl hl.1 (Nat.le_of_ble_eq_true rfl) dX11_order_20 ⟨Nat.le_of_ble_eq_true rfl, Nat.le_of_ble_eq_true rfl⟩) (fun r_4 u_4 H locs hp_4 G => ?_)
    have G : wd X (va_A [(m0, .inr (9, ms)), (ha, .inl (X.2.1, 371, .inl f)), (hr, .inl (X.2.1, 3, .inl fr))] sz) (va_A [(m0, .inr (9, ms)), (ha, .inl (X.2.1, 371, .inl f)), (hr, .inl (X.2.1, 3, .inl fr))] sz) s [(ha, .inl (X.2.1, 371, .inl f))] H locs := G
    subst hp_4
    exact e_int S zr zlk (vp_nar_int _) G () [] rfl (by decide) (Or.inl rfl) (by first | exact (if_neg (Int32.not_lt.mpr c_1)).symm | exact (if_pos (Int32.not_le.mp c_1)).symm) dX11_order_23
  · refine lv_aload_n zx zb dX11_order_4 rfl (lv_at hl 0 rfl) ?_
    refine lv_bipush (v := (-2)) zx zb dX11_order_5 (by decide) ?_
    refine o_wi (cells' := 0) (slots' := 0) (wr := [(ha, .inl (X.2.1, 371, .inl f))]) G rfl rfl [0, 2] [1] rfl rfl (by decide) (by decide) (n_V (As := [.int (-2)]) (rest := []) (C := RX11) (T := TX11) (N := 18) (ci := 9) S G (m_bad l X m0 ms hr fr (-2) hm3 s.heap.size) gX11_order_X11_bad rfl rfl rfl hdV_X11_bad ⟨Nat.le_of_ble_eq_true rfl, Nat.le_of_ble_eq_true rfl⟩ [0, 2] rfl (by decide) 0 rfl rfl rfl hl.1 (Nat.le_of_ble_eq_true rfl) dX11_order_7 ⟨Nat.le_of_ble_eq_true rfl, Nat.le_of_ble_eq_true rfl⟩) (fun r_5 u_5 H locs hp_5 G => ?_)
    have G : wd X (va_A [(m0, .inr (9, ms)), (ha, .inl (X.2.1, 371, .inl f)), (hr, .inl (X.2.1, 3, .inl fr))] sz) (va_A [(m0, .inr (9, ms)), (ha, .inl (X.2.1, 371, .inl f)), (hr, .inl (X.2.1, 3, .inl fr))] sz) s [(ha, .inl (X.2.1, 371, .inl f))] H locs := G
    subst hp_5
    exact e_int S zr zlk (vp_nar_int _) G () [] rfl (by decide) (Or.inl rfl) (by first | exact (if_neg (Int32.not_lt.mpr c_1)).symm | exact (if_pos (Int32.not_le.mp c_1)).symm) dX11_order_10
set_option maxHeartbeats 4000000 in
set_option maxRecDepth 100000 in
/-- manyHome, with no runner -/
theorem m_manyHome (l : Launch) (X : EX) (ha : Nat) (f : Nat → Int32) (hf0 : f 0 = 0) (sz : Nat) : Met l yX11_manyHome wsX11_manyHome ({ frames := 0, cells := 0, slots := 0, locals := 0 } : Room) (pE X [.ref ha] [(ha, .inl (X.2.1, 371, .inl f))] sz) (qI (fun (r : Int32) (u : Unit) => r = 0) X (fun (u : Unit) => []) [] sz) 0 0 (va_A [] sz) := by
  refine mk_met (B := (fun _ => True)) (A := (va_A [] sz)) (cc := cX11_manyHome) (maxL := 3) (ret := (some .int)) (by decide) rfl (Nat.le_of_ble_eq_true rfl) k_ro k_a (fun p e s m below meth c S zr zlk znm zsz G ls hl => ?_)
  have S : CallFix p m c cX11_manyHome 3 s _ wsX11_manyHome RX11 := S
  have zx := S.1
  have zb := S.2.1
  have hl : lv_has ls 3 [(0, .ref ha)] := hl
  refine lv_iconst (v := 0) zx zb dX11_manyHome_0 (by decide) ?_
  refine lv_istore_n (lv' := [(1, .int 0), (0, .ref ha)]) zx zb dX11_manyHome_1 rfl hl (by decide) rfl (fun ls hl => ?_)
  refine lv_iconst (v := 0) zx zb dX11_manyHome_2 (by decide) ?_
  refine lv_istore_n (lv' := [(2, .int 0), (1, .int 0), (0, .ref ha)]) zx zb dX11_manyHome_3 rfl hl (by decide) rfl (fun ls hl => ?_)
  refine lv_iload_n zx zb dX11_manyHome_4 rfl (lv_at hl 0 rfl) ?_
  refine lv_aload_n zx zb dX11_manyHome_5 rfl (lv_at hl 2 rfl) ?_
  refine lv_iconst (v := 0) zx zb dX11_manyHome_6 (by decide) ?_
  refine r_iald (v := 0) S G 0 rfl (k_vp (by decide)) hf0 dX11_manyHome_7 ?_
  refine lv_icmp_ge (tgt := 33) zx zb dX11_manyHome_8 (by decide) (fun c_1 => ?_) (fun c_1 => absurd (by decide) c_1)
  refine lv_iload_n zx zb dX11_manyHome_33 rfl (lv_at hl 1 rfl) ?_
  exact e_int S zr zlk (vp_nar_int _) G () [] rfl (by decide) (Or.inl rfl) (rfl) dX11_manyHome_34
set_option maxHeartbeats 4000000 in
set_option maxRecDepth 100000 in
/-- manyHome of the hand, with no runner -/
theorem m_manyHomeH (l : Launch) (X : EX) (ha : Nat) (f : Nat → Int32) (hf0 : f 0 = 0) (sz : Nat) : Met l yX11_manyHome wsX11_manyHome ({ frames := 0, cells := 0, slots := 0, locals := 0 } : Room) (pE X [.ref ha] [(ha, .inl (X.2.1, 55, .inl f))] sz) (qI (fun (r : Int32) (u : Unit) => r = 0) X (fun (u : Unit) => []) [] sz) 0 0 (va_A [] sz) := by
  refine mk_met (B := (fun _ => True)) (A := (va_A [] sz)) (cc := cX11_manyHome) (maxL := 3) (ret := (some .int)) (by decide) rfl (Nat.le_of_ble_eq_true rfl) k_ro k_a (fun p e s m below meth c S zr zlk znm zsz G ls hl => ?_)
  have S : CallFix p m c cX11_manyHome 3 s _ wsX11_manyHome RX11 := S
  have zx := S.1
  have zb := S.2.1
  have hl : lv_has ls 3 [(0, .ref ha)] := hl
  refine lv_iconst (v := 0) zx zb dX11_manyHome_0 (by decide) ?_
  refine lv_istore_n (lv' := [(1, .int 0), (0, .ref ha)]) zx zb dX11_manyHome_1 rfl hl (by decide) rfl (fun ls hl => ?_)
  refine lv_iconst (v := 0) zx zb dX11_manyHome_2 (by decide) ?_
  refine lv_istore_n (lv' := [(2, .int 0), (1, .int 0), (0, .ref ha)]) zx zb dX11_manyHome_3 rfl hl (by decide) rfl (fun ls hl => ?_)
  refine lv_iload_n zx zb dX11_manyHome_4 rfl (lv_at hl 0 rfl) ?_
  refine lv_aload_n zx zb dX11_manyHome_5 rfl (lv_at hl 2 rfl) ?_
  refine lv_iconst (v := 0) zx zb dX11_manyHome_6 (by decide) ?_
  refine r_iald (v := 0) S G 0 rfl (k_vp (by decide)) hf0 dX11_manyHome_7 ?_
  refine lv_icmp_ge (tgt := 33) zx zb dX11_manyHome_8 (by decide) (fun c_1 => ?_) (fun c_1 => absurd (by decide) c_1)
  refine lv_iload_n zx zb dX11_manyHome_33 rfl (lv_at hl 1 rfl) ?_
  exact e_int S zr zlk (vp_nar_int _) G () [] rfl (by decide) (Or.inl rfl) (rfl) dX11_manyHome_34
set_option maxHeartbeats 4000000 in
set_option maxRecDepth 100000 in
/-- goTick, with no runner -/
theorem m_goTick (l : Launch) (X : EX) (ha : Nat) (f : Nat → Int32) (hf0 : f 0 = 0) (sz : Nat) : Met l yX11_goTick wsX11_goTick ({ frames := 0, cells := 0, slots := 0, locals := 0 } : Room) (pE X [.ref ha] [(ha, .inl (X.2.1, 371, .inl f))] sz) (qV (fun (u : Nat → Int32) => (∀ j : Nat, j ≠ 35 → u j = f j) ∧ u 35 = f 35 + 1) X (fun (u : Nat → Int32) => [(ha, .inl (X.2.1, 371, .inl u))]) [(ha, .inl (X.2.1, 371, .inl f))] sz) 0 0 (va_A [(ha, .inl (X.2.1, 371, .inl f))] sz) := by
  refine mk_met (B := (va_A [(ha, .inl (X.2.1, 371, .inl f))] sz)) (A := (va_A [(ha, .inl (X.2.1, 371, .inl f))] sz)) (cc := cX11_goTick) (maxL := 2) (ret := none) (by decide) rfl (Nat.le_of_ble_eq_true rfl) k_w k_a (fun p e s m below meth c S zr zlk znm zsz G ls hl => ?_)
  have S : CallFix p m c cX11_goTick 2 s _ wsX11_goTick RX11 := S
  have zx := S.1
  have zb := S.2.1
  have hl : lv_has ls 2 [(0, .ref ha)] := hl
  refine lv_aload_n zx zb dX11_goTick_0 rfl (lv_at hl 0 rfl) ?_
  refine lv_bipush (v := 35) zx zb dX11_goTick_1 (by decide) ?_
  refine lv_dup2_11 zx zb dX11_goTick_3 rfl rfl ?_
  refine r_iald (v := (f 35)) S G 0 rfl (k_vp (by decide)) rfl dX11_goTick_4 ?_
  refine lv_iconst (v := 1) zx zb dX11_goTick_5 (by decide) ?_
  refine r_iadd (v := ((f 35) + 1)) S rfl dX11_goTick_6 ?_
  refine r_iast S G 0 rfl (k_vp (by decide)) dX11_goTick_7 (fun H locs G => ?_)
  have G : wd X (va_A [(ha, .inl (X.2.1, 371, .inl f))] sz) (va_A [(ha, .inl (X.2.1, 371, .inl f))] sz) s [(ha, .inl (X.2.1, 371, .inl (upd f 35 ((f 35) + 1))))] H locs := G
  refine lv_iconst (v := 0) zx zb dX11_goTick_8 (by decide) ?_
  refine lv_istore_n (lv' := [(1, .int 0), (0, .ref ha)]) zx zb dX11_goTick_9 rfl hl (by decide) rfl (fun ls hl => ?_)
  refine lv_iload_n zx zb dX11_goTick_10 rfl (lv_at hl 0 rfl) ?_
  refine lv_aload_n zx zb dX11_goTick_11 rfl (lv_at hl 1 rfl) ?_
  refine lv_iconst (v := 0) zx zb dX11_goTick_12 (by decide) ?_
  refine r_iald (v := 0) S G 0 rfl (k_vp (by decide)) hf0 dX11_goTick_13 ?_
  refine lv_icmp_ge (tgt := 37) zx zb dX11_goTick_14 (by decide) (fun c_2 => ?_) (fun c_2 => absurd (by decide) c_2)
  exact e_void S zr zlk G (upd f 35 ((f 35) + 1)) [0] rfl (by decide) (Or.inr rfl) (⟨fun j h => pk_un h, pk_us⟩) dX11_goTick_37
set_option maxHeartbeats 4000000 in
set_option maxRecDepth 100000 in
/-- goTick, with no runner -/
theorem m_goTickH (l : Launch) (X : EX) (ha : Nat) (f : Nat → Int32) (hf0 : f 0 = 0) (sz : Nat) : Met l yX11_goTick wsX11_goTick ({ frames := 0, cells := 0, slots := 0, locals := 0 } : Room) (pE X [.ref ha] [(ha, .inl (X.2.1, 55, .inl f))] sz) (qV (fun (u : Nat → Int32) => (∀ j : Nat, j ≠ 35 → u j = f j) ∧ u 35 = f 35 + 1) X (fun (u : Nat → Int32) => [(ha, .inl (X.2.1, 55, .inl u))]) [(ha, .inl (X.2.1, 55, .inl f))] sz) 0 0 (va_A [(ha, .inl (X.2.1, 55, .inl f))] sz) := by
  refine mk_met (B := (va_A [(ha, .inl (X.2.1, 55, .inl f))] sz)) (A := (va_A [(ha, .inl (X.2.1, 55, .inl f))] sz)) (cc := cX11_goTick) (maxL := 2) (ret := none) (by decide) rfl (Nat.le_of_ble_eq_true rfl) k_w k_a (fun p e s m below meth c S zr zlk znm zsz G ls hl => ?_)
  have S : CallFix p m c cX11_goTick 2 s _ wsX11_goTick RX11 := S
  have zx := S.1
  have zb := S.2.1
  have hl : lv_has ls 2 [(0, .ref ha)] := hl
  refine lv_aload_n zx zb dX11_goTick_0 rfl (lv_at hl 0 rfl) ?_
  refine lv_bipush (v := 35) zx zb dX11_goTick_1 (by decide) ?_
  refine lv_dup2_11 zx zb dX11_goTick_3 rfl rfl ?_
  refine r_iald (v := (f 35)) S G 0 rfl (k_vp (by decide)) rfl dX11_goTick_4 ?_
  refine lv_iconst (v := 1) zx zb dX11_goTick_5 (by decide) ?_
  refine r_iadd (v := ((f 35) + 1)) S rfl dX11_goTick_6 ?_
  refine r_iast S G 0 rfl (k_vp (by decide)) dX11_goTick_7 (fun H locs G => ?_)
  have G : wd X (va_A [(ha, .inl (X.2.1, 55, .inl f))] sz) (va_A [(ha, .inl (X.2.1, 55, .inl f))] sz) s [(ha, .inl (X.2.1, 55, .inl (upd f 35 ((f 35) + 1))))] H locs := G
  refine lv_iconst (v := 0) zx zb dX11_goTick_8 (by decide) ?_
  refine lv_istore_n (lv' := [(1, .int 0), (0, .ref ha)]) zx zb dX11_goTick_9 rfl hl (by decide) rfl (fun ls hl => ?_)
  refine lv_iload_n zx zb dX11_goTick_10 rfl (lv_at hl 0 rfl) ?_
  refine lv_aload_n zx zb dX11_goTick_11 rfl (lv_at hl 1 rfl) ?_
  refine lv_iconst (v := 0) zx zb dX11_goTick_12 (by decide) ?_
  refine r_iald (v := 0) S G 0 rfl (k_vp (by decide)) hf0 dX11_goTick_13 ?_
  refine lv_icmp_ge (tgt := 37) zx zb dX11_goTick_14 (by decide) (fun c_2 => ?_) (fun c_2 => absurd (by decide) c_2)
  exact e_void S zr zlk G (upd f 35 ((f 35) + 1)) [0] rfl (by decide) (Or.inr rfl) (⟨fun j h => pk_un h, pk_us⟩) dX11_goTick_37
theorem in_X11_save_X11 : ∀ w ∈ wsX110, w ∈ wsX11_save := by decide +kernel
theorem lk_X11_save_7 : Cond.fieldLink RX11 7 "EggSpoonsModel" "all" "[I" ∈ wsX11_save := by decide +kernel
set_option maxHeartbeats 4000000 in
set_option maxRecDepth 100000 in
/-- save: the first -/
theorem m_save (l : Launch) (X : EX) (m0 : Nat) (ms : List Value) (ha : Nat) (f : Nat → Int32) (hm0 : ms[0]? = some (.ref ha)) (hz : ∀ j : Nat, j ≠ 36 → f j = 0) (h36 : f 36 = 20) (sz : Nat) : Met l yX11_save wsX11_save ({ frames := 0, cells := 0, slots := 0, locals := 0 } : Room) (pE X [.ref m0] [(m0, .inr (9, ms)), (ha, .inl (X.2.1, 371, .inl f))] sz) (qV (fun (u : Nat → Int32) => u 0 = 0 ∧ u 35 = 0) X (fun (u : Nat → Int32) => [(m0, .inr (9, ms)), (ha, .inl (X.2.1, 371, .inl u))]) [(m0, .inr (9, ms)), (ha, .inl (X.2.1, 371, .inl f))] sz) 0 0 (va_A [(m0, .inr (9, ms)), (ha, .inl (X.2.1, 371, .inl f))] sz) := by
  refine mk_met (B := (va_A [(m0, .inr (9, ms)), (ha, .inl (X.2.1, 371, .inl f))] sz)) (A := (va_A [(m0, .inr (9, ms)), (ha, .inl (X.2.1, 371, .inl f))] sz)) (cc := cX11_save) (maxL := 2) (ret := none) (by decide) rfl (Nat.le_of_ble_eq_true rfl) k_w k_a (fun p e s m below meth c S zr zlk znm zsz G ls hl => ?_)
  have S : CallFix p m c cX11_save 2 s _ wsX11_save RX11 := S
  have zx := S.1
  have zb := S.2.1
  have hl : lv_has ls 2 [(0, .ref m0)] := hl
  refine lv_aload_n zx zb dX11_save_0 rfl (lv_at hl 0 rfl) ?_
  refine r_get (C := RX11) (T := TX11) (N := 18) (ci := 9) (v := .ref ha) S in_X11_save_X11 G 0 rfl rfl 0 (by decide) lk_X11_save_7 hm0 dX11_save_1 ?_
  refine lv_iconst (v := 4) zx zb dX11_save_4 (by decide) ?_
  refine r_iald (v := 0) S G 1 rfl (k_vp (by decide)) (hz 4 (by decide)) dX11_save_5 ?_
  refine lv_bipush (v := 8) zx zb dX11_save_6 (by decide) ?_
  refine lv_icmp_ne (tgt := 53) zx zb dX11_save_8 (by decide) (fun c_1 => ?_) (fun c_1 => absurd c_1 (by decide))
  refine lv_iconst (v := 0) zx zb dX11_save_53 (by decide) ?_
  refine lv_istore_n (lv' := [(1, .int 0), (0, .ref m0)]) zx zb dX11_save_54 rfl hl (by decide) rfl (fun ls hl => ?_)
  refine k_loop (P := ∀ (n k : Nat), k ≤ 31 → 31 + 1 ≤ k + n → ∀ (g : Nat → Int32) (H : Heap) (locs : List Loc) (ls : Array Slot), (∀ j : Nat, j < 123 → g j = f j) → wd X (va_A [(m0, .inr (9, ms)), (ha, .inl (X.2.1, 371, .inl f))] sz) (va_A [(m0, .inr (9, ms)), (ha, .inl (X.2.1, 371, .inl f))] sz) s [(m0, .inr (9, ms)), (ha, .inl (X.2.1, 371, .inl g))] H locs → lv_has ls 2 [(1, .int (nI k)), (0, .ref m0)] → W p l e _ s m _ below meth c H locs _ _ _ (F0 m 55 ls [])) (fun loop => loop (31 + 1) 0 (Nat.zero_le _) (by omega) _ _ _ _ (fun j _ => rfl) G hl) ?_
  intro zn
  induction zn with
  | zero => exact fun k h1 h2 => absurd h2 (by omega)
  | succ zn ih =>
    intro k zk zn1 g H locs ls h1 G hl
    refine lv_iload_n zx zb dX11_save_55 rfl (lv_at hl 0 rfl) ?_
    refine lv_bipush (v := 31) zx zb dX11_save_56 (by decide) ?_
    refine lv_icmp_ge (tgt := 94) zx zb dX11_save_58 (by decide) (fun c_2 => ?_) (fun c_2 => ?_)
    · have hkE := k_ge (by decide) zk c_2
      refine lv_aload_n zx zb dX11_save_94 rfl (lv_at hl 1 rfl) ?_
      refine r_get (C := RX11) (T := TX11) (N := 18) (ci := 9) (v := .ref ha) S in_X11_save_X11 G 0 rfl rfl 0 (by decide) lk_X11_save_7 hm0 dX11_save_95 ?_
      refine lv_iconst (v := 4) zx zb dX11_save_98 (by decide) ?_
      refine lv_dup2_11 zx zb dX11_save_99 rfl rfl ?_
      refine r_iald (v := 0) S G 1 rfl (k_vp (by decide)) ((h1 4 (by decide)).trans (hz 4 (by decide))) dX11_save_100 ?_
      refine lv_iconst (v := 1) zx zb dX11_save_101 (by decide) ?_
      refine r_iadd (v := 1) S (by decide) dX11_save_102 ?_
      refine r_iast S G 1 rfl (k_vp (by decide)) dX11_save_103 (fun H locs G => ?_)
      have G : wd X (va_A [(m0, .inr (9, ms)), (ha, .inl (X.2.1, 371, .inl f))] sz) (va_A [(m0, .inr (9, ms)), (ha, .inl (X.2.1, 371, .inl f))] sz) s [(m0, .inr (9, ms)), (ha, .inl (X.2.1, 371, .inl (upd g 4 1)))] H locs := G
      exact e_void S zr zlk G (upd g 4 1) [0, 1] rfl (by decide) (Or.inr rfl) (⟨(h1 0 (by decide)).trans (hz 0 (by decide)), (h1 35 (by decide)).trans (hz 35 (by decide))⟩) dX11_save_104
    · have hkl := k_lt (by decide) zk c_2
      refine lv_aload_n zx zb dX11_save_61 rfl (lv_at hl 1 rfl) ?_
      refine r_get (C := RX11) (T := TX11) (N := 18) (ci := 9) (v := .ref ha) S in_X11_save_X11 G 0 rfl rfl 0 (by decide) lk_X11_save_7 hm0 dX11_save_62 ?_
      refine lv_bipush (v := 123) zx zb dX11_save_65 (by decide) ?_
      refine lv_bipush (v := 31) zx zb dX11_save_67 (by decide) ?_
      refine lv_aload_n zx zb dX11_save_69 rfl (lv_at hl 1 rfl) ?_
      refine r_get (C := RX11) (T := TX11) (N := 18) (ci := 9) (v := .ref ha) S in_X11_save_X11 G 0 rfl rfl 0 (by decide) lk_X11_save_7 hm0 dX11_save_70 ?_
      refine lv_iconst (v := 4) zx zb dX11_save_73 (by decide) ?_
      refine r_iald (v := 0) S G 1 rfl (k_vp (by decide)) ((h1 4 (by decide)).trans (hz 4 (by decide))) dX11_save_74 ?_
      refine r_imul (v := 0) S (by decide) dX11_save_75 ?_
      refine r_iadd (v := 123) S (by decide) dX11_save_76 ?_
      refine lv_iload_n zx zb dX11_save_77 rfl (lv_at hl 0 rfl) ?_
      refine r_iadd (v := (123 + (nI k))) S rfl dX11_save_78 ?_
      refine k_it (nI_add 123 k) ?_
      refine lv_aload_n zx zb dX11_save_79 rfl (lv_at hl 1 rfl) ?_
      refine r_get (C := RX11) (T := TX11) (N := 18) (ci := 9) (v := .ref ha) S in_X11_save_X11 G 0 rfl rfl 0 (by decide) lk_X11_save_7 hm0 dX11_save_80 ?_
      refine lv_iconst (v := 5) zx zb dX11_save_83 (by decide) ?_
      refine lv_iload_n zx zb dX11_save_84 rfl (lv_at hl 0 rfl) ?_
      refine r_iadd (v := (5 + (nI k))) S rfl dX11_save_85 ?_
      refine k_it (nI_add 5 k) ?_
      refine r_iald (v := (g (5 + k))) S G 1 rfl (vp_in_nI (by omega) (by decide)) (by rw [nI_clamp (by omega)]) dX11_save_86 ?_
      refine r_iast S G 1 rfl (vp_in_nI (by omega) (by decide)) dX11_save_87 (fun H locs G => ?_)
      rw [nI_clamp (by omega)] at G
      have G : wd X (va_A [(m0, .inr (9, ms)), (ha, .inl (X.2.1, 371, .inl f))] sz) (va_A [(m0, .inr (9, ms)), (ha, .inl (X.2.1, 371, .inl f))] sz) s [(m0, .inr (9, ms)), (ha, .inl (X.2.1, 371, .inl (upd g (123 + k) (g (5 + k)))))] H locs := G
      refine lv_iinc (v := (nI (k + 1))) (lv' := [(1, .int (nI (k + 1))), (0, .ref m0)]) zx zb dX11_save_88 hl (k := 0) rfl (nI_1 k) (by decide) rfl (fun ls hl => ?_)
      refine lv_goto (tgt := 55) zx zb dX11_save_91 (by decide) ?_
      exact ih (k + 1) (by omega) (by omega) _ _ _ _ (k_uplt (by omega) h1 _) G hl
theorem hdS_X11_goTick : yX11_goTick.cls ≠ "java/lang/invoke/MethodHandle" ∧ yX11_goTick.cls ≠ "java/lang/invoke/VarHandle" ∧ (parseMethodDescriptor yX11_goTick.desc).map (fun d => d.parameters.length) = some 1 := by decide +kernel
set_option maxHeartbeats 4000000 in
set_option maxRecDepth 100000 in
/-- goTicks, with no runner -/
theorem m_goTicks (l : Launch) (X : EX) (ha : Nat) (f : Nat → Int32) (N : Nat) (hf0 : f 0 = 0) (hf35 : f 35 = 0) (hN : N ≤ 60) (sz : Nat) : Met l yX11_goTicks wsX11_goTicks ({ frames := 1, cells := 0, slots := 0, locals := 21 } : Room) (pE X [.ref ha, .int (nI N)] [(ha, .inl (X.2.1, 371, .inl f))] sz) (qV (fun (u : Nat → Int32) => u 0 = 0) X (fun (u : Nat → Int32) => [(ha, .inl (X.2.1, 371, .inl u))]) [(ha, .inl (X.2.1, 371, .inl f))] sz) 0 0 (va_A [(ha, .inl (X.2.1, 371, .inl f))] sz) := by
  refine mk_met (B := (va_A [(ha, .inl (X.2.1, 371, .inl f))] sz)) (A := (va_A [(ha, .inl (X.2.1, 371, .inl f))] sz)) (cc := cX11_goTicks) (maxL := 3) (ret := none) (by decide) rfl (Nat.le_of_ble_eq_true rfl) k_w k_a (fun p e s m below meth c S zr zlk znm zsz G ls hl => ?_)
  have S : CallFix p m c cX11_goTicks 3 s _ wsX11_goTicks RX11 := S
  have zx := S.1
  have zb := S.2.1
  have hl : lv_has ls 3 [(0, .ref ha), (1, .int (nI N))] := hl
  refine lv_iconst (v := 0) zx zb dX11_goTicks_0 (by decide) ?_
  refine lv_istore_n (lv' := [(2, .int 0), (0, .ref ha), (1, .int (nI N))]) zx zb dX11_goTicks_1 rfl hl (by decide) rfl (fun ls hl => ?_)
  refine k_loop (P := ∀ (n k : Nat), k ≤ N → N + 1 ≤ k + n → ∀ (g : Nat → Int32) (H : Heap) (locs : List Loc) (ls : Array Slot), g 0 = 0 → g 35 = nI k → wd X (va_A [(ha, .inl (X.2.1, 371, .inl f))] sz) (va_A [(ha, .inl (X.2.1, 371, .inl f))] sz) s [(ha, .inl (X.2.1, 371, .inl g))] H locs → lv_has ls 3 [(2, .int (nI k)), (0, .ref ha), (1, .int (nI N))] → W p l e _ s m _ below meth c H locs _ _ _ (F0 m 2 ls [])) (fun loop => loop (N + 1) 0 (Nat.zero_le _) (by omega) _ _ _ _ hf0 hf35 G hl) ?_
  intro zn
  induction zn with
  | zero => exact fun k h1 h2 => absurd h2 (by omega)
  | succ zn ih =>
    intro k zk zn1 g H locs ls h1 h2 G hl
    refine lv_iload_n zx zb dX11_goTicks_2 rfl (lv_at hl 0 rfl) ?_
    refine lv_iload_n zx zb dX11_goTicks_3 rfl (lv_at hl 2 rfl) ?_
    refine lv_icmp_ge (tgt := 27) zx zb dX11_goTicks_4 (by decide) (fun c_1 => ?_) (fun c_1 => ?_)
    · have hkE := k_ge (by omega) zk c_1
      exact e_void S zr zlk G g [0] rfl (by decide) (Or.inr rfl) (h1) dX11_goTicks_27
    · have hkl := k_lt (by omega) zk c_1
      refine lv_aload_n zx zb dX11_goTicks_7 rfl (lv_at hl 1 rfl) ?_
      refine lv_bipush (v := 35) zx zb dX11_goTicks_8 (by decide) ?_
      refine r_iald (v := (nI k)) S G 0 rfl (k_vp (by decide)) h2 dX11_goTicks_10 ?_
      refine lv_sipush (v := 9999) zx zb dX11_goTicks_11 (by decide) ?_
      refine lv_icmp_ge (tgt := 27) zx zb dX11_goTicks_14 (by decide) (fun c_2 => absurd c_2 (nI_ge (show k < 9999 by omega) (by decide))) (fun c_2 => ?_)
      refine lv_aload_n zx zb dX11_goTicks_17 rfl (lv_at hl 1 rfl) ?_
      refine o_wv (cells' := 0) (slots' := 0) (wr := []) G rfl rfl [0] [] rfl rfl (by decide) (by decide) (n_S (As := [.ref ha]) (rest := []) S G (m_goTick l X ha g h1 H.size) gX11_goTicks_X11_goTick rfl rfl rfl hdS_X11_goTick ⟨Nat.le_of_ble_eq_true rfl, Nat.le_of_ble_eq_true rfl⟩ [0] rfl (by decide) rfl hl.1 (Nat.le_of_ble_eq_true rfl) dX11_goTicks_18 ⟨Nat.le_of_ble_eq_true rfl, Nat.le_of_ble_eq_true rfl⟩) (fun u_3 H locs hp_3 G => ?_)
      have G : wd X (va_A [(ha, .inl (X.2.1, 371, .inl f))] sz) (va_A [(ha, .inl (X.2.1, 371, .inl f))] sz) s [(ha, .inl (X.2.1, 371, .inl u_3))] H locs := G
      refine lv_iinc (v := (nI (k + 1))) (lv' := [(2, .int (nI (k + 1))), (0, .ref ha), (1, .int (nI N))]) zx zb dX11_goTicks_21 hl (k := 0) rfl (nI_1 k) (by decide) rfl (fun ls hl => ?_)
      refine lv_goto (tgt := 2) zx zb dX11_goTicks_24 (by decide) ?_
      exact ih (k + 1) (by omega) (by omega) _ _ _ _ ((hp_3.1 0 (by decide)).trans h1) (by rw [hp_3.2, h2]; exact nI_1 k) G hl
theorem mm_X11_ticks_c66 : Cond.constantLong RX11 66 (60) ∈ wsX11_ticks := by decide +kernel
theorem hdV_X11_save : yX11_save.cls = RX11 ∧ yX11_save.cls ≠ "java/lang/invoke/MethodHandle" ∧ yX11_save.cls ≠ "java/lang/invoke/VarHandle" ∧ (parseMethodDescriptor yX11_save.desc).map (fun d => d.parameters.length) = some 0 := by decide +kernel
theorem in_X11_ticks_X11 : ∀ w ∈ wsX110, w ∈ wsX11_ticks := by decide +kernel
theorem lk_X11_ticks_7 : Cond.fieldLink RX11 7 "EggSpoonsModel" "all" "[I" ∈ wsX11_ticks := by decide +kernel
theorem hdS_X11_goTicks : yX11_goTicks.cls ≠ "java/lang/invoke/MethodHandle" ∧ yX11_goTicks.cls ≠ "java/lang/invoke/VarHandle" ∧ (parseMethodDescriptor yX11_goTicks.desc).map (fun d => d.parameters.length) = some 2 := by decide +kernel
theorem hdS_X11_manyHome : yX11_manyHome.cls ≠ "java/lang/invoke/MethodHandle" ∧ yX11_manyHome.cls ≠ "java/lang/invoke/VarHandle" ∧ (parseMethodDescriptor yX11_manyHome.desc).map (fun d => d.parameters.length) = some 1 := by decide +kernel
set_option maxHeartbeats 4000000 in
set_option maxRecDepth 100000 in
/-- ticks -/
theorem m_ticks (l : Launch) (X : EX) (m0 : Nat) (ms : List Value) (ha : Nat) (f : Nat → Int32) (hr : Nat) (fr : Nat → Int32) (x1 : Int32) (hm0 : ms[0]? = some (.ref ha)) (hm3 : ms[3]? = some (.ref hr)) (hz : ∀ j : Nat, j ≠ 36 → f j = 0) (h36 : f 36 = 20) (sz : Nat) : Met l yX11_ticks wsX11_ticks ({ frames := 2, cells := 0, slots := 0, locals := 43 } : Room) (pE X [.ref m0, .int x1] [(m0, .inr (9, ms)), (ha, .inl (X.2.1, 371, .inl f)), (hr, .inl (X.2.1, 3, .inl fr))] sz) (qI (fun (r : Int32) (u : Unit) => r = if (1 : Int32) ≤ x1 ∧ x1 ≤ 60 then 0 else -2) X (fun (u : Unit) => []) [(m0, .inr (9, ms)), (ha, .inl (X.2.1, 371, .inl f)), (hr, .inl (X.2.1, 3, .inl fr))] sz) 0 0 (va_A [(m0, .inr (9, ms)), (ha, .inl (X.2.1, 371, .inl f)), (hr, .inl (X.2.1, 3, .inl fr))] sz) := by
  refine mk_met (B := (va_A [(m0, .inr (9, ms)), (ha, .inl (X.2.1, 371, .inl f)), (hr, .inl (X.2.1, 3, .inl fr))] sz)) (A := (va_A [(m0, .inr (9, ms)), (ha, .inl (X.2.1, 371, .inl f)), (hr, .inl (X.2.1, 3, .inl fr))] sz)) (cc := cX11_ticks) (maxL := 2) (ret := (some .int)) (by decide) rfl (Nat.le_of_ble_eq_true rfl) k_w k_a (fun p e s m below meth c S zr zlk znm zsz G ls hl => ?_)
  have S : CallFix p m c cX11_ticks 2 s _ wsX11_ticks RX11 := S
  have zx := S.1
  have zb := S.2.1
  have hl : lv_has ls 2 [(0, .ref m0), (1, .int x1)] := hl
  refine lv_iload_n zx zb dX11_ticks_0 rfl (lv_at hl 1 rfl) ?_
  refine lv_i2l (v := (Int32.toInt64 x1)) zx zb dX11_ticks_1 rfl ?_
  refine lv_lconst (v := (Int32.toInt64 1)) zx zb dX11_ticks_2 (by decide) ?_
  refine lv_ldc2 zx zb S.2.2.2.1 (S.2.2.2.2 _ mm_X11_ticks_c66) dX11_ticks_3 ?_
  refine k_ld (v := (Int32.toInt64 60)) (by decide) ?_
  refine o_ri (cells' := 0) (slots' := 0) G rfl rfl (n_S (As := [.long (Int32.toInt64 x1), .long (Int32.toInt64 1), .long (Int32.toInt64 60)]) (rest := []) S G (m_in l X x1 1 60 s.heap.size) gX11_ticks_X11_in rfl rfl rfl hdS_X11_in ⟨Nat.le_of_ble_eq_true rfl, Nat.le_of_ble_eq_true rfl⟩ [] rfl (by decide) rfl hl.1 (Nat.le_of_ble_eq_true rfl) dX11_ticks_6 ⟨Nat.le_of_ble_eq_true rfl, Nat.le_of_ble_eq_true rfl⟩) (fun r_1 u_1 H locs hp_1 G => ?_)
  have G : wd X (va_A [(m0, .inr (9, ms)), (ha, .inl (X.2.1, 371, .inl f)), (hr, .inl (X.2.1, 3, .inl fr))] sz) (va_A [(m0, .inr (9, ms)), (ha, .inl (X.2.1, 371, .inl f)), (hr, .inl (X.2.1, 3, .inl fr))] sz) s [(m0, .inr (9, ms)), (ha, .inl (X.2.1, 371, .inl f)), (hr, .inl (X.2.1, 3, .inl fr))] H locs := G
  rcases hp_1 with ⟨rfl, hw_1⟩ | ⟨rfl, hw_1⟩
  · refine lv_if_ne (tgt := 19) zx zb dX11_ticks_9 (by decide) (fun c_2 => ?_) (fun c_2 => absurd c_2 (by decide))
    obtain ⟨N, hN, rfl⟩ := k_n60 (by decide) hw_1
    refine lv_aload_n zx zb dX11_ticks_19 rfl (lv_at hl 0 rfl) ?_
    refine o_wv (cells' := 0) (slots' := 0) (wr := [(hr, .inl (X.2.1, 3, .inl fr))]) G rfl rfl [0, 1] [2] rfl rfl (by decide) (by decide) (n_V (As := []) (rest := []) (C := RX11) (T := TX11) (N := 18) (ci := 9) S G (m_save l X m0 ms ha f hm0 hz h36 H.size) gX11_ticks_X11_save rfl rfl rfl hdV_X11_save ⟨Nat.le_of_ble_eq_true rfl, Nat.le_of_ble_eq_true rfl⟩ [0, 1] rfl (by decide) 0 rfl rfl rfl hl.1 (Nat.le_of_ble_eq_true rfl) dX11_ticks_20 ⟨Nat.le_of_ble_eq_true rfl, Nat.le_of_ble_eq_true rfl⟩) (fun u_3 H locs hp_3 G => ?_)
    have G : wd X (va_A [(m0, .inr (9, ms)), (ha, .inl (X.2.1, 371, .inl f)), (hr, .inl (X.2.1, 3, .inl fr))] sz) (va_A [(m0, .inr (9, ms)), (ha, .inl (X.2.1, 371, .inl f)), (hr, .inl (X.2.1, 3, .inl fr))] sz) s [(hr, .inl (X.2.1, 3, .inl fr)), (m0, .inr (9, ms)), (ha, .inl (X.2.1, 371, .inl u_3))] H locs := G
    refine lv_aload_n zx zb dX11_ticks_23 rfl (lv_at hl 0 rfl) ?_
    refine r_get (C := RX11) (T := TX11) (N := 18) (ci := 9) (v := .ref ha) S in_X11_ticks_X11 G 1 rfl rfl 0 (by decide) lk_X11_ticks_7 hm0 dX11_ticks_24 ?_
    refine lv_iload_n zx zb dX11_ticks_27 rfl (lv_at hl 1 rfl) ?_
    refine o_wv (cells' := 0) (slots' := 0) (wr := [(hr, .inl (X.2.1, 3, .inl fr)), (m0, .inr (9, ms))]) G rfl rfl [2] [0, 1] rfl rfl (by decide) (by decide) (n_S (As := [.ref ha, .int (nI N)]) (rest := []) S G (m_goTicks l X ha u_3 N hp_3.1 hp_3.2 (by first | assumption | decide | rfl) H.size) gX11_ticks_X11_goTicks rfl rfl rfl hdS_X11_goTicks ⟨Nat.le_of_ble_eq_true rfl, Nat.le_of_ble_eq_true rfl⟩ [2] rfl (by decide) rfl hl.1 (Nat.le_of_ble_eq_true rfl) dX11_ticks_28 ⟨Nat.le_of_ble_eq_true rfl, Nat.le_of_ble_eq_true rfl⟩) (fun u_4 H locs hp_4 G => ?_)
    have G : wd X (va_A [(m0, .inr (9, ms)), (ha, .inl (X.2.1, 371, .inl f)), (hr, .inl (X.2.1, 3, .inl fr))] sz) (va_A [(m0, .inr (9, ms)), (ha, .inl (X.2.1, 371, .inl f)), (hr, .inl (X.2.1, 3, .inl fr))] sz) s [(hr, .inl (X.2.1, 3, .inl fr)), (m0, .inr (9, ms)), (ha, .inl (X.2.1, 371, .inl u_4))] H locs := G
    refine lv_aload_n zx zb dX11_ticks_31 rfl (lv_at hl 0 rfl) ?_
    refine r_get (C := RX11) (T := TX11) (N := 18) (ci := 9) (v := .ref ha) S in_X11_ticks_X11 G 1 rfl rfl 0 (by decide) lk_X11_ticks_7 hm0 dX11_ticks_32 ?_
    refine o_ri (cells' := 0) (slots' := 0) G rfl rfl (n_S (As := [.ref ha]) (rest := []) S G (m_manyHome l X ha u_4 hp_4 H.size) gX11_ticks_X11_manyHome rfl rfl rfl hdS_X11_manyHome ⟨Nat.le_of_ble_eq_true rfl, Nat.le_of_ble_eq_true rfl⟩ [2] rfl (by decide) rfl hl.1 (Nat.le_of_ble_eq_true rfl) dX11_ticks_35 ⟨Nat.le_of_ble_eq_true rfl, Nat.le_of_ble_eq_true rfl⟩) (fun r_5 u_5 H locs hp_5 G => ?_)
    have G : wd X (va_A [(m0, .inr (9, ms)), (ha, .inl (X.2.1, 371, .inl f)), (hr, .inl (X.2.1, 3, .inl fr))] sz) (va_A [(m0, .inr (9, ms)), (ha, .inl (X.2.1, 371, .inl f)), (hr, .inl (X.2.1, 3, .inl fr))] sz) s [(hr, .inl (X.2.1, 3, .inl fr)), (m0, .inr (9, ms)), (ha, .inl (X.2.1, 371, .inl u_4))] H locs := G
    subst hp_5
    exact e_int S zr zlk (vp_nar_int _) G () [] rfl (by decide) (Or.inl rfl) (by first | exact (if_pos hw_1).symm | exact (if_neg (fun h => hw_1 h)).symm) dX11_ticks_38
  · refine lv_if_ne (tgt := 19) zx zb dX11_ticks_9 (by decide) (fun c_6 => absurd (by decide) c_6) (fun c_6 => ?_)
    refine lv_aload_n zx zb dX11_ticks_12 rfl (lv_at hl 0 rfl) ?_
    refine lv_bipush (v := (-2)) zx zb dX11_ticks_13 (by decide) ?_
    refine o_wi (cells' := 0) (slots' := 0) (wr := [(ha, .inl (X.2.1, 371, .inl f))]) G rfl rfl [0, 2] [1] rfl rfl (by decide) (by decide) (n_V (As := [.int (-2)]) (rest := []) (C := RX11) (T := TX11) (N := 18) (ci := 9) S G (m_bad l X m0 ms hr fr (-2) hm3 H.size) gX11_ticks_X11_bad rfl rfl rfl hdV_X11_bad ⟨Nat.le_of_ble_eq_true rfl, Nat.le_of_ble_eq_true rfl⟩ [0, 2] rfl (by decide) 0 rfl rfl rfl hl.1 (Nat.le_of_ble_eq_true rfl) dX11_ticks_15 ⟨Nat.le_of_ble_eq_true rfl, Nat.le_of_ble_eq_true rfl⟩) (fun r_7 u_7 H locs hp_7 G => ?_)
    have G : wd X (va_A [(m0, .inr (9, ms)), (ha, .inl (X.2.1, 371, .inl f)), (hr, .inl (X.2.1, 3, .inl fr))] sz) (va_A [(m0, .inr (9, ms)), (ha, .inl (X.2.1, 371, .inl f)), (hr, .inl (X.2.1, 3, .inl fr))] sz) s [(ha, .inl (X.2.1, 371, .inl f))] H locs := G
    subst hp_7
    exact e_int S zr zlk (vp_nar_int _) G () [] rfl (by decide) (Or.inl rfl) (by first | exact (if_pos hw_1).symm | exact (if_neg (fun h => hw_1 h)).symm) dX11_ticks_18
theorem mm_X11_forget_c156 : Cond.constantLong RX11 156 (2) ∈ wsX11_forget := by decide +kernel
theorem in_X11_forget_X11 : ∀ w ∈ wsX110, w ∈ wsX11_forget := by decide +kernel
theorem lk_X11_forget_7 : Cond.fieldLink RX11 7 "EggSpoonsModel" "all" "[I" ∈ wsX11_forget := by decide +kernel
set_option maxHeartbeats 4000000 in
set_option maxRecDepth 100000 in
/-- forget -/
theorem m_forget (l : Launch) (X : EX) (m0 : Nat) (ms : List Value) (ha : Nat) (f : Nat → Int32) (hr : Nat) (fr : Nat → Int32) (x1 : Int32) (hm0 : ms[0]? = some (.ref ha)) (hm3 : ms[3]? = some (.ref hr)) (hz : ∀ j : Nat, j ≠ 36 → f j = 0) (h36 : f 36 = 20) (sz : Nat) : Met l yX11_forget wsX11_forget ({ frames := 1, cells := 0, slots := 0, locals := 25 } : Room) (pE X [.ref m0, .int x1] [(m0, .inr (9, ms)), (ha, .inl (X.2.1, 371, .inl f)), (hr, .inl (X.2.1, 3, .inl fr))] sz) (qI (fun (r : Int32) (u : Unit) => r = if (0 : Int32) ≤ x1 ∧ x1 ≤ 2 then 0 else -2) X (fun (u : Unit) => []) [(m0, .inr (9, ms)), (ha, .inl (X.2.1, 371, .inl f)), (hr, .inl (X.2.1, 3, .inl fr))] sz) 0 0 (va_A [(m0, .inr (9, ms)), (ha, .inl (X.2.1, 371, .inl f)), (hr, .inl (X.2.1, 3, .inl fr))] sz) := by
  refine mk_met (B := (va_A [(m0, .inr (9, ms)), (ha, .inl (X.2.1, 371, .inl f)), (hr, .inl (X.2.1, 3, .inl fr))] sz)) (A := (va_A [(m0, .inr (9, ms)), (ha, .inl (X.2.1, 371, .inl f)), (hr, .inl (X.2.1, 3, .inl fr))] sz)) (cc := cX11_forget) (maxL := 3) (ret := (some .int)) (by decide) rfl (Nat.le_of_ble_eq_true rfl) k_w k_a (fun p e s m below meth c S zr zlk znm zsz G ls hl => ?_)
  have S : CallFix p m c cX11_forget 3 s _ wsX11_forget RX11 := S
  have zx := S.1
  have zb := S.2.1
  have hl : lv_has ls 3 [(0, .ref m0), (1, .int x1)] := hl
  refine lv_iload_n zx zb dX11_forget_0 rfl (lv_at hl 1 rfl) ?_
  refine lv_i2l (v := (Int32.toInt64 x1)) zx zb dX11_forget_1 rfl ?_
  refine lv_lconst (v := (Int32.toInt64 0)) zx zb dX11_forget_2 (by decide) ?_
  refine lv_ldc2 zx zb S.2.2.2.1 (S.2.2.2.2 _ mm_X11_forget_c156) dX11_forget_3 ?_
  refine k_ld (v := (Int32.toInt64 2)) (by decide) ?_
  refine o_ri (cells' := 0) (slots' := 0) G rfl rfl (n_S (As := [.long (Int32.toInt64 x1), .long (Int32.toInt64 0), .long (Int32.toInt64 2)]) (rest := []) S G (m_in l X x1 0 2 s.heap.size) gX11_forget_X11_in rfl rfl rfl hdS_X11_in ⟨Nat.le_of_ble_eq_true rfl, Nat.le_of_ble_eq_true rfl⟩ [] rfl (by decide) rfl hl.1 (Nat.le_of_ble_eq_true rfl) dX11_forget_6 ⟨Nat.le_of_ble_eq_true rfl, Nat.le_of_ble_eq_true rfl⟩) (fun r_1 u_1 H locs hp_1 G => ?_)
  have G : wd X (va_A [(m0, .inr (9, ms)), (ha, .inl (X.2.1, 371, .inl f)), (hr, .inl (X.2.1, 3, .inl fr))] sz) (va_A [(m0, .inr (9, ms)), (ha, .inl (X.2.1, 371, .inl f)), (hr, .inl (X.2.1, 3, .inl fr))] sz) s [(m0, .inr (9, ms)), (ha, .inl (X.2.1, 371, .inl f)), (hr, .inl (X.2.1, 3, .inl fr))] H locs := G
  rcases hp_1 with ⟨rfl, hw_1⟩ | ⟨rfl, hw_1⟩
  · refine lv_if_ne (tgt := 19) zx zb dX11_forget_9 (by decide) (fun c_2 => ?_) (fun c_2 => absurd c_2 (by decide))
    rcases k_012 hw_1 with rfl | rfl | rfl
    · refine lv_aload_n zx zb dX11_forget_19 rfl (lv_at hl 0 rfl) ?_
      refine r_get (C := RX11) (T := TX11) (N := 18) (ci := 9) (v := .ref ha) S in_X11_forget_X11 G 0 rfl rfl 0 (by decide) lk_X11_forget_7 hm0 dX11_forget_20 ?_
      refine lv_iconst (v := 1) zx zb dX11_forget_23 (by decide) ?_
      refine lv_iload_n zx zb dX11_forget_24 rfl (lv_at hl 1 rfl) ?_
      refine r_iadd (v := 1) S (by decide) dX11_forget_25 ?_
      refine r_iald (v := 0) S G 1 rfl (k_vp (by decide)) (hz 1 (by decide)) dX11_forget_26 ?_
      refine lv_istore_n (lv' := [(2, .int 0), (0, .ref m0), (1, .int 0)]) zx zb dX11_forget_27 rfl hl (by decide) rfl (fun ls hl => ?_)
      refine lv_aload_n zx zb dX11_forget_28 rfl (lv_at hl 1 rfl) ?_
      refine r_get (C := RX11) (T := TX11) (N := 18) (ci := 9) (v := .ref ha) S in_X11_forget_X11 G 0 rfl rfl 0 (by decide) lk_X11_forget_7 hm0 dX11_forget_29 ?_
      refine lv_iconst (v := 1) zx zb dX11_forget_32 (by decide) ?_
      refine lv_iload_n zx zb dX11_forget_33 rfl (lv_at hl 2 rfl) ?_
      refine r_iadd (v := 1) S (by decide) dX11_forget_34 ?_
      refine lv_iconst (v := 0) zx zb dX11_forget_35 (by decide) ?_
      refine r_iast S G 1 rfl (k_vp (by decide)) dX11_forget_36 (fun H locs G => ?_)
      obtain ⟨g_3, G⟩ : ∃ g_3 : Nat → Int32, wd X (va_A [(m0, .inr (9, ms)), (ha, .inl (X.2.1, 371, .inl f)), (hr, .inl (X.2.1, 3, .inl fr))] sz) (va_A [(m0, .inr (9, ms)), (ha, .inl (X.2.1, 371, .inl f)), (hr, .inl (X.2.1, 3, .inl fr))] sz) s [(m0, .inr (9, ms)), (ha, .inl (X.2.1, 371, .inl g_3)), (hr, .inl (X.2.1, 3, .inl fr))] H locs := ⟨_, G⟩
      refine lv_iload_n zx zb dX11_forget_37 rfl (lv_at hl 0 rfl) ?_
      exact e_int S zr zlk (vp_nar_int _) G () [] rfl (by decide) (Or.inl rfl) (by decide) dX11_forget_38
    · refine lv_aload_n zx zb dX11_forget_19 rfl (lv_at hl 0 rfl) ?_
      refine r_get (C := RX11) (T := TX11) (N := 18) (ci := 9) (v := .ref ha) S in_X11_forget_X11 G 0 rfl rfl 0 (by decide) lk_X11_forget_7 hm0 dX11_forget_20 ?_
      refine lv_iconst (v := 1) zx zb dX11_forget_23 (by decide) ?_
      refine lv_iload_n zx zb dX11_forget_24 rfl (lv_at hl 1 rfl) ?_
      refine r_iadd (v := 2) S (by decide) dX11_forget_25 ?_
      refine r_iald (v := 0) S G 1 rfl (k_vp (by decide)) (hz 2 (by decide)) dX11_forget_26 ?_
      refine lv_istore_n (lv' := [(2, .int 0), (0, .ref m0), (1, .int 1)]) zx zb dX11_forget_27 rfl hl (by decide) rfl (fun ls hl => ?_)
      refine lv_aload_n zx zb dX11_forget_28 rfl (lv_at hl 1 rfl) ?_
      refine r_get (C := RX11) (T := TX11) (N := 18) (ci := 9) (v := .ref ha) S in_X11_forget_X11 G 0 rfl rfl 0 (by decide) lk_X11_forget_7 hm0 dX11_forget_29 ?_
      refine lv_iconst (v := 1) zx zb dX11_forget_32 (by decide) ?_
      refine lv_iload_n zx zb dX11_forget_33 rfl (lv_at hl 2 rfl) ?_
      refine r_iadd (v := 2) S (by decide) dX11_forget_34 ?_
      refine lv_iconst (v := 0) zx zb dX11_forget_35 (by decide) ?_
      refine r_iast S G 1 rfl (k_vp (by decide)) dX11_forget_36 (fun H locs G => ?_)
      obtain ⟨g_4, G⟩ : ∃ g_4 : Nat → Int32, wd X (va_A [(m0, .inr (9, ms)), (ha, .inl (X.2.1, 371, .inl f)), (hr, .inl (X.2.1, 3, .inl fr))] sz) (va_A [(m0, .inr (9, ms)), (ha, .inl (X.2.1, 371, .inl f)), (hr, .inl (X.2.1, 3, .inl fr))] sz) s [(m0, .inr (9, ms)), (ha, .inl (X.2.1, 371, .inl g_4)), (hr, .inl (X.2.1, 3, .inl fr))] H locs := ⟨_, G⟩
      refine lv_iload_n zx zb dX11_forget_37 rfl (lv_at hl 0 rfl) ?_
      exact e_int S zr zlk (vp_nar_int _) G () [] rfl (by decide) (Or.inl rfl) (by decide) dX11_forget_38
    · refine lv_aload_n zx zb dX11_forget_19 rfl (lv_at hl 0 rfl) ?_
      refine r_get (C := RX11) (T := TX11) (N := 18) (ci := 9) (v := .ref ha) S in_X11_forget_X11 G 0 rfl rfl 0 (by decide) lk_X11_forget_7 hm0 dX11_forget_20 ?_
      refine lv_iconst (v := 1) zx zb dX11_forget_23 (by decide) ?_
      refine lv_iload_n zx zb dX11_forget_24 rfl (lv_at hl 1 rfl) ?_
      refine r_iadd (v := 3) S (by decide) dX11_forget_25 ?_
      refine r_iald (v := 0) S G 1 rfl (k_vp (by decide)) (hz 3 (by decide)) dX11_forget_26 ?_
      refine lv_istore_n (lv' := [(2, .int 0), (0, .ref m0), (1, .int 2)]) zx zb dX11_forget_27 rfl hl (by decide) rfl (fun ls hl => ?_)
      refine lv_aload_n zx zb dX11_forget_28 rfl (lv_at hl 1 rfl) ?_
      refine r_get (C := RX11) (T := TX11) (N := 18) (ci := 9) (v := .ref ha) S in_X11_forget_X11 G 0 rfl rfl 0 (by decide) lk_X11_forget_7 hm0 dX11_forget_29 ?_
      refine lv_iconst (v := 1) zx zb dX11_forget_32 (by decide) ?_
      refine lv_iload_n zx zb dX11_forget_33 rfl (lv_at hl 2 rfl) ?_
      refine r_iadd (v := 3) S (by decide) dX11_forget_34 ?_
      refine lv_iconst (v := 0) zx zb dX11_forget_35 (by decide) ?_
      refine r_iast S G 1 rfl (k_vp (by decide)) dX11_forget_36 (fun H locs G => ?_)
      obtain ⟨g_5, G⟩ : ∃ g_5 : Nat → Int32, wd X (va_A [(m0, .inr (9, ms)), (ha, .inl (X.2.1, 371, .inl f)), (hr, .inl (X.2.1, 3, .inl fr))] sz) (va_A [(m0, .inr (9, ms)), (ha, .inl (X.2.1, 371, .inl f)), (hr, .inl (X.2.1, 3, .inl fr))] sz) s [(m0, .inr (9, ms)), (ha, .inl (X.2.1, 371, .inl g_5)), (hr, .inl (X.2.1, 3, .inl fr))] H locs := ⟨_, G⟩
      refine lv_iload_n zx zb dX11_forget_37 rfl (lv_at hl 0 rfl) ?_
      exact e_int S zr zlk (vp_nar_int _) G () [] rfl (by decide) (Or.inl rfl) (by decide) dX11_forget_38
  · refine lv_if_ne (tgt := 19) zx zb dX11_forget_9 (by decide) (fun c_6 => absurd (by decide) c_6) (fun c_6 => ?_)
    refine lv_aload_n zx zb dX11_forget_12 rfl (lv_at hl 0 rfl) ?_
    refine lv_bipush (v := (-2)) zx zb dX11_forget_13 (by decide) ?_
    refine o_wi (cells' := 0) (slots' := 0) (wr := [(ha, .inl (X.2.1, 371, .inl f))]) G rfl rfl [0, 2] [1] rfl rfl (by decide) (by decide) (n_V (As := [.int (-2)]) (rest := []) (C := RX11) (T := TX11) (N := 18) (ci := 9) S G (m_bad l X m0 ms hr fr (-2) hm3 H.size) gX11_forget_X11_bad rfl rfl rfl hdV_X11_bad ⟨Nat.le_of_ble_eq_true rfl, Nat.le_of_ble_eq_true rfl⟩ [0, 2] rfl (by decide) 0 rfl rfl rfl hl.1 (Nat.le_of_ble_eq_true rfl) dX11_forget_15 ⟨Nat.le_of_ble_eq_true rfl, Nat.le_of_ble_eq_true rfl⟩) (fun r_7 u_7 H locs hp_7 G => ?_)
    have G : wd X (va_A [(m0, .inr (9, ms)), (ha, .inl (X.2.1, 371, .inl f)), (hr, .inl (X.2.1, 3, .inl fr))] sz) (va_A [(m0, .inr (9, ms)), (ha, .inl (X.2.1, 371, .inl f)), (hr, .inl (X.2.1, 3, .inl fr))] sz) s [(ha, .inl (X.2.1, 371, .inl f))] H locs := G
    subst hp_7
    exact e_int S zr zlk (vp_nar_int _) G () [] rfl (by decide) (Or.inl rfl) (by first | exact (if_pos hw_1).symm | exact (if_neg (fun h => hw_1 h)).symm) dX11_forget_18
theorem in_X11_layHand_X11 : ∀ w ∈ wsX110, w ∈ wsX11_layHand := by decide +kernel
theorem lk_X11_layHand_27 : Cond.fieldLink RX11 27 "EggSpoonsModel" "hand" "[I" ∈ wsX11_layHand := by decide +kernel
theorem lk_X11_layHand_7 : Cond.fieldLink RX11 7 "EggSpoonsModel" "all" "[I" ∈ wsX11_layHand := by decide +kernel
set_option maxHeartbeats 4000000 in
set_option maxRecDepth 100000 in
/-- layHand -/
theorem m_layHand (l : Launch) (X : EX) (m0 : Nat) (ms : List Value) (ha : Nat) (f : Nat → Int32) (hh : Nat) (gh : Nat → Int32) (hm0 : ms[0]? = some (.ref ha)) (hf0 : f 0 = 0) (hm6 : ms[6]? = some (.ref hh)) (sz : Nat) : Met l yX11_layHand wsX11_layHand ({ frames := 0, cells := 0, slots := 0, locals := 0 } : Room) (pE X [.ref m0] [(m0, .inr (9, ms)), (ha, .inl (X.2.1, 371, .inl f)), (hh, .inl (X.2.1, 55, .inl gh))] sz) (qV (fun (u : Nat → Int32) => u 0 = 0) X (fun (u : Nat → Int32) => [(m0, .inr (9, ms)), (ha, .inl (X.2.1, 371, .inl f)), (hh, .inl (X.2.1, 55, .inl u))]) [(m0, .inr (9, ms)), (ha, .inl (X.2.1, 371, .inl f)), (hh, .inl (X.2.1, 55, .inl gh))] sz) 0 0 (va_A [(m0, .inr (9, ms)), (ha, .inl (X.2.1, 371, .inl f)), (hh, .inl (X.2.1, 55, .inl gh))] sz) := by
  refine mk_met (B := (va_A [(m0, .inr (9, ms)), (ha, .inl (X.2.1, 371, .inl f)), (hh, .inl (X.2.1, 55, .inl gh))] sz)) (A := (va_A [(m0, .inr (9, ms)), (ha, .inl (X.2.1, 371, .inl f)), (hh, .inl (X.2.1, 55, .inl gh))] sz)) (cc := cX11_layHand) (maxL := 2) (ret := none) (by decide) rfl (Nat.le_of_ble_eq_true rfl) k_w k_a (fun p e s m below meth c S zr zlk znm zsz G ls hl => ?_)
  have S : CallFix p m c cX11_layHand 2 s _ wsX11_layHand RX11 := S
  have zx := S.1
  have zb := S.2.1
  have hl : lv_has ls 2 [(0, .ref m0)] := hl
  refine lv_iconst (v := 0) zx zb dX11_layHand_0 (by decide) ?_
  refine lv_istore_n (lv' := [(1, .int 0), (0, .ref m0)]) zx zb dX11_layHand_1 rfl hl (by decide) rfl (fun ls hl => ?_)
  refine k_loop (P := ∀ (n k : Nat), k ≤ 55 → 55 + 1 ≤ k + n → ∀ (g : Nat → Int32) (H : Heap) (locs : List Loc) (ls : Array Slot), (∀ j : Nat, j < k → g j = f j) → wd X (va_A [(m0, .inr (9, ms)), (ha, .inl (X.2.1, 371, .inl f)), (hh, .inl (X.2.1, 55, .inl gh))] sz) (va_A [(m0, .inr (9, ms)), (ha, .inl (X.2.1, 371, .inl f)), (hh, .inl (X.2.1, 55, .inl gh))] sz) s [(m0, .inr (9, ms)), (ha, .inl (X.2.1, 371, .inl f)), (hh, .inl (X.2.1, 55, .inl g))] H locs → lv_has ls 2 [(1, .int (nI k)), (0, .ref m0)] → W p l e _ s m _ below meth c H locs _ _ _ (F0 m 2 ls [])) (fun loop => loop (55 + 1) 0 (Nat.zero_le _) (by omega) _ _ _ _ (fun j h => absurd h (Nat.not_lt_zero j)) G hl) ?_
  intro zn
  induction zn with
  | zero => exact fun k h1 h2 => absurd h2 (by omega)
  | succ zn ih =>
    intro k zk zn1 g H locs ls h1 G hl
    refine lv_iload_n zx zb dX11_layHand_2 rfl (lv_at hl 0 rfl) ?_
    refine lv_bipush (v := 55) zx zb dX11_layHand_3 (by decide) ?_
    refine lv_icmp_ge (tgt := 26) zx zb dX11_layHand_5 (by decide) (fun c_1 => ?_) (fun c_1 => ?_)
    · have hkE := k_ge (by decide) zk c_1
      exact e_void S zr zlk G g [0, 1, 2] rfl (by decide) (Or.inr rfl) ((h1 0 (by omega)).trans hf0) dX11_layHand_26
    · have hkl := k_lt (by decide) zk c_1
      refine lv_aload_n zx zb dX11_layHand_8 rfl (lv_at hl 1 rfl) ?_
      refine r_get (C := RX11) (T := TX11) (N := 18) (ci := 9) (v := .ref hh) S in_X11_layHand_X11 G 0 rfl rfl 6 (by decide) lk_X11_layHand_27 hm6 dX11_layHand_9 ?_
      refine lv_iload_n zx zb dX11_layHand_12 rfl (lv_at hl 0 rfl) ?_
      refine lv_aload_n zx zb dX11_layHand_13 rfl (lv_at hl 1 rfl) ?_
      refine r_get (C := RX11) (T := TX11) (N := 18) (ci := 9) (v := .ref ha) S in_X11_layHand_X11 G 0 rfl rfl 0 (by decide) lk_X11_layHand_7 hm0 dX11_layHand_14 ?_
      refine lv_iload_n zx zb dX11_layHand_17 rfl (lv_at hl 0 rfl) ?_
      refine r_iald (v := (f k)) S G 1 rfl (vp_in_nI (by omega) (by decide)) (by rw [nI_clamp (by omega)]) dX11_layHand_18 ?_
      refine r_iast S G 2 rfl (vp_in_nI (by omega) (by decide)) dX11_layHand_19 (fun H locs G => ?_)
      rw [nI_clamp (by omega)] at G
      have G : wd X (va_A [(m0, .inr (9, ms)), (ha, .inl (X.2.1, 371, .inl f)), (hh, .inl (X.2.1, 55, .inl gh))] sz) (va_A [(m0, .inr (9, ms)), (ha, .inl (X.2.1, 371, .inl f)), (hh, .inl (X.2.1, 55, .inl gh))] sz) s [(m0, .inr (9, ms)), (ha, .inl (X.2.1, 371, .inl f)), (hh, .inl (X.2.1, 55, .inl (upd g k (f k))))] H locs := G
      refine lv_iinc (v := (nI (k + 1))) (lv' := [(1, .int (nI (k + 1))), (0, .ref m0)]) zx zb dX11_layHand_20 hl (k := 0) rfl (nI_1 k) (by decide) rfl (fun ls hl => ?_)
      refine lv_goto (tgt := 2) zx zb dX11_layHand_23 (by decide) ?_
      exact ih (k + 1) (by omega) (by omega) _ _ _ _ (k_upeq h1) G hl
theorem mm_X11_races_c191 : Cond.constantLong RX11 191 (999999) ∈ wsX11_races := by decide +kernel
theorem mm_X11_races_c66 : Cond.constantLong RX11 66 (60) ∈ wsX11_races := by decide +kernel
theorem hdV_X11_layHand : yX11_layHand.cls = RX11 ∧ yX11_layHand.cls ≠ "java/lang/invoke/MethodHandle" ∧ yX11_layHand.cls ≠ "java/lang/invoke/VarHandle" ∧ (parseMethodDescriptor yX11_layHand.desc).map (fun d => d.parameters.length) = some 0 := by decide +kernel
theorem in_X11_races_X11 : ∀ w ∈ wsX110, w ∈ wsX11_races := by decide +kernel
theorem lk_X11_races_27 : Cond.fieldLink RX11 27 "EggSpoonsModel" "hand" "[I" ∈ wsX11_races := by decide +kernel
theorem mm_X11_races_c193 : Cond.constantLong RX11 193 (1103515245) ∈ wsX11_races := by decide +kernel
theorem mm_X11_races_c195 : Cond.constantLong RX11 195 (12345) ∈ wsX11_races := by decide +kernel
theorem mm_X11_races_c197 : Cond.constantLong RX11 197 (2147483648) ∈ wsX11_races := by decide +kernel
theorem mm_X11_races_c199 : Cond.constantLong RX11 199 (65536) ∈ wsX11_races := by decide +kernel
theorem mm_X11_races_c185 : Cond.constantLong RX11 185 (6) ∈ wsX11_races := by decide +kernel
set_option maxHeartbeats 4000000 in
set_option maxRecDepth 100000 in
/-- races -/
theorem m_races (l : Launch) (X : EX) (m0 : Nat) (ms : List Value) (ha : Nat) (f : Nat → Int32) (hh : Nat) (gh : Nat → Int32) (hr : Nat) (fr : Nat → Int32) (x1 : Int32) (x2 : Int32) (hm0 : ms[0]? = some (.ref ha)) (hm3 : ms[3]? = some (.ref hr)) (hm6 : ms[6]? = some (.ref hh)) (hf0 : f 0 = 0) (sz : Nat) : Met l yX11_races wsX11_races ({ frames := 2, cells := 0, slots := 0, locals := 46 } : Room) (pE X [.ref m0, .int x1, .int x2] [(m0, .inr (9, ms)), (ha, .inl (X.2.1, 371, .inl f)), (hh, .inl (X.2.1, 55, .inl gh)), (hr, .inl (X.2.1, 3, .inl fr))] sz) (qI (fun (r : Int32) (u : Unit) => r = if ((0 : Int32) ≤ x1 ∧ x1 ≤ 999999) ∧ ((0 : Int32) ≤ x2 ∧ x2 ≤ 60) then 0 else -2) X (fun (u : Unit) => []) [(m0, .inr (9, ms)), (ha, .inl (X.2.1, 371, .inl f)), (hh, .inl (X.2.1, 55, .inl gh)), (hr, .inl (X.2.1, 3, .inl fr))] sz) 0 0 (va_A [(m0, .inr (9, ms)), (ha, .inl (X.2.1, 371, .inl f)), (hh, .inl (X.2.1, 55, .inl gh)), (hr, .inl (X.2.1, 3, .inl fr))] sz) := by
  refine mk_met (B := (va_A [(m0, .inr (9, ms)), (ha, .inl (X.2.1, 371, .inl f)), (hh, .inl (X.2.1, 55, .inl gh)), (hr, .inl (X.2.1, 3, .inl fr))] sz)) (A := (va_A [(m0, .inr (9, ms)), (ha, .inl (X.2.1, 371, .inl f)), (hh, .inl (X.2.1, 55, .inl gh)), (hr, .inl (X.2.1, 3, .inl fr))] sz)) (cc := cX11_races) (maxL := 7) (ret := (some .int)) (by decide) rfl (Nat.le_of_ble_eq_true rfl) k_w k_a (fun p e s m below meth c S zr zlk znm zsz G ls hl => ?_)
  have S : CallFix p m c cX11_races 7 s _ wsX11_races RX11 := S
  have zx := S.1
  have zb := S.2.1
  have hl : lv_has ls 7 [(0, .ref m0), (1, .int x1), (2, .int x2)] := hl
  refine lv_iload_n zx zb dX11_races_0 rfl (lv_at hl 1 rfl) ?_
  refine lv_i2l (v := (Int32.toInt64 x1)) zx zb dX11_races_1 rfl ?_
  refine lv_lconst (v := (Int32.toInt64 0)) zx zb dX11_races_2 (by decide) ?_
  refine lv_ldc2 zx zb S.2.2.2.1 (S.2.2.2.2 _ mm_X11_races_c191) dX11_races_3 ?_
  refine k_ld (v := (Int32.toInt64 999999)) (by decide) ?_
  refine o_ri (cells' := 0) (slots' := 0) G rfl rfl (n_S (As := [.long (Int32.toInt64 x1), .long (Int32.toInt64 0), .long (Int32.toInt64 999999)]) (rest := []) S G (m_in l X x1 0 999999 s.heap.size) gX11_races_X11_in rfl rfl rfl hdS_X11_in ⟨Nat.le_of_ble_eq_true rfl, Nat.le_of_ble_eq_true rfl⟩ [] rfl (by decide) rfl hl.1 (Nat.le_of_ble_eq_true rfl) dX11_races_6 ⟨Nat.le_of_ble_eq_true rfl, Nat.le_of_ble_eq_true rfl⟩) (fun r_1 u_1 H locs hp_1 G => ?_)
  have G : wd X (va_A [(m0, .inr (9, ms)), (ha, .inl (X.2.1, 371, .inl f)), (hh, .inl (X.2.1, 55, .inl gh)), (hr, .inl (X.2.1, 3, .inl fr))] sz) (va_A [(m0, .inr (9, ms)), (ha, .inl (X.2.1, 371, .inl f)), (hh, .inl (X.2.1, 55, .inl gh)), (hr, .inl (X.2.1, 3, .inl fr))] sz) s [(m0, .inr (9, ms)), (ha, .inl (X.2.1, 371, .inl f)), (hh, .inl (X.2.1, 55, .inl gh)), (hr, .inl (X.2.1, 3, .inl fr))] H locs := G
  rcases hp_1 with ⟨rfl, hw_1⟩ | ⟨rfl, hw_1⟩
  · refine lv_if_eq (tgt := 24) zx zb dX11_races_9 (by decide) (fun c_2 => absurd c_2 (by decide)) (fun c_2 => ?_)
    refine lv_iload_n zx zb dX11_races_12 rfl (lv_at hl 2 rfl) ?_
    refine lv_i2l (v := (Int32.toInt64 x2)) zx zb dX11_races_13 rfl ?_
    refine lv_lconst (v := (Int32.toInt64 0)) zx zb dX11_races_14 (by decide) ?_
    refine lv_ldc2 zx zb S.2.2.2.1 (S.2.2.2.2 _ mm_X11_races_c66) dX11_races_15 ?_
    refine k_ld (v := (Int32.toInt64 60)) (by decide) ?_
    refine o_ri (cells' := 0) (slots' := 0) G rfl rfl (n_S (As := [.long (Int32.toInt64 x2), .long (Int32.toInt64 0), .long (Int32.toInt64 60)]) (rest := []) S G (m_in l X x2 0 60 H.size) gX11_races_X11_in rfl rfl rfl hdS_X11_in ⟨Nat.le_of_ble_eq_true rfl, Nat.le_of_ble_eq_true rfl⟩ [] rfl (by decide) rfl hl.1 (Nat.le_of_ble_eq_true rfl) dX11_races_18 ⟨Nat.le_of_ble_eq_true rfl, Nat.le_of_ble_eq_true rfl⟩) (fun r_3 u_3 H locs hp_3 G => ?_)
    have G : wd X (va_A [(m0, .inr (9, ms)), (ha, .inl (X.2.1, 371, .inl f)), (hh, .inl (X.2.1, 55, .inl gh)), (hr, .inl (X.2.1, 3, .inl fr))] sz) (va_A [(m0, .inr (9, ms)), (ha, .inl (X.2.1, 371, .inl f)), (hh, .inl (X.2.1, 55, .inl gh)), (hr, .inl (X.2.1, 3, .inl fr))] sz) s [(m0, .inr (9, ms)), (ha, .inl (X.2.1, 371, .inl f)), (hh, .inl (X.2.1, 55, .inl gh)), (hr, .inl (X.2.1, 3, .inl fr))] H locs := G
    rcases hp_3 with ⟨rfl, hw_3⟩ | ⟨rfl, hw_3⟩
    · refine lv_if_ne (tgt := 31) zx zb dX11_races_21 (by decide) (fun c_4 => ?_) (fun c_4 => absurd c_4 (by decide))
      obtain ⟨N, hN, rfl⟩ := k_n60 (by decide) hw_3
      obtain ⟨z0, hz0, rfl⟩ := k_seed hw_1
      refine lv_iload_n zx zb dX11_races_31 rfl (lv_at hl 1 rfl) ?_
      refine lv_i2l (v := (Int32.toInt64 (nI z0))) zx zb dX11_races_32 rfl ?_
      refine k_ld (nI_l (by omega)) ?_
      refine lv_lstore_n (lv' := [(3, .long (lN z0)), (0, .ref m0), (1, .int (nI z0)), (2, .int (nI N))]) zx zb dX11_races_33 rfl hl (by decide) rfl (fun ls hl => ?_)
      refine lv_aload_n zx zb dX11_races_34 rfl (lv_at hl 1 rfl) ?_
      refine o_wv (cells' := 0) (slots' := 0) (wr := [(hr, .inl (X.2.1, 3, .inl fr))]) G rfl rfl [0, 1, 2] [3] rfl rfl (by decide) (by decide) (n_V (As := []) (rest := []) (C := RX11) (T := TX11) (N := 18) (ci := 9) S G (m_layHand l X m0 ms ha f hh gh hm0 hf0 hm6 H.size) gX11_races_X11_layHand rfl rfl rfl hdV_X11_layHand ⟨Nat.le_of_ble_eq_true rfl, Nat.le_of_ble_eq_true rfl⟩ [0, 1, 2] rfl (by decide) 0 rfl rfl rfl hl.1 (Nat.le_of_ble_eq_true rfl) dX11_races_35 ⟨Nat.le_of_ble_eq_true rfl, Nat.le_of_ble_eq_true rfl⟩) (fun u_5 H locs hp_5 G => ?_)
      have G : wd X (va_A [(m0, .inr (9, ms)), (ha, .inl (X.2.1, 371, .inl f)), (hh, .inl (X.2.1, 55, .inl gh)), (hr, .inl (X.2.1, 3, .inl fr))] sz) (va_A [(m0, .inr (9, ms)), (ha, .inl (X.2.1, 371, .inl f)), (hh, .inl (X.2.1, 55, .inl gh)), (hr, .inl (X.2.1, 3, .inl fr))] sz) s [(hr, .inl (X.2.1, 3, .inl fr)), (m0, .inr (9, ms)), (ha, .inl (X.2.1, 371, .inl f)), (hh, .inl (X.2.1, 55, .inl u_5))] H locs := G
      refine lv_iconst (v := 0) zx zb dX11_races_38 (by decide) ?_
      refine lv_istore (lv' := [(5, .int 0), (3, .long (lN z0)), (0, .ref m0), (1, .int (nI z0)), (2, .int (nI N))]) zx zb dX11_races_39 hl (by decide) rfl (fun ls hl => ?_)
      refine k_loop (P := ∀ (n k : Nat), k ≤ N → N + 1 ≤ k + n → ∀ (z : Nat) (g : Nat → Int32) (H : Heap) (locs : List Loc) (ls : Array Slot), z < 2147483648 → g 0 = 0 → wd X (va_A [(m0, .inr (9, ms)), (ha, .inl (X.2.1, 371, .inl f)), (hh, .inl (X.2.1, 55, .inl gh)), (hr, .inl (X.2.1, 3, .inl fr))] sz) (va_A [(m0, .inr (9, ms)), (ha, .inl (X.2.1, 371, .inl f)), (hh, .inl (X.2.1, 55, .inl gh)), (hr, .inl (X.2.1, 3, .inl fr))] sz) s [(hr, .inl (X.2.1, 3, .inl fr)), (m0, .inr (9, ms)), (ha, .inl (X.2.1, 371, .inl f)), (hh, .inl (X.2.1, 55, .inl g))] H locs → lv_has ls 7 [(5, .int (nI k)), (3, .long (lN z)), (0, .ref m0), (1, .int (nI z0)), (2, .int (nI N))] → W p l e _ s m _ below meth c H locs _ _ _ (F0 m 41 ls [])) (fun loop => loop (N + 1) 0 (Nat.zero_le _) (by omega) z0 _ _ _ _ hz0 hp_5 G hl) ?_
      intro zn
      induction zn with
      | zero => exact fun k h1 h2 => absurd h2 (by omega)
      | succ zn ih =>
        intro k zk zn1 z g H locs ls zz h1 G hl
        refine lv_iload zx zb dX11_races_41 (lv_at hl 0 rfl) ?_
        refine lv_iload_n zx zb dX11_races_43 rfl (lv_at hl 4 rfl) ?_
        refine lv_icmp_ge (tgt := 115) zx zb dX11_races_44 (by decide) (fun c_6 => ?_) (fun c_6 => ?_)
        · have hkE := k_ge (by omega) zk c_6
          refine lv_aload_n zx zb dX11_races_115 rfl (lv_at hl 2 rfl) ?_
          refine r_get (C := RX11) (T := TX11) (N := 18) (ci := 9) (v := .ref hh) S in_X11_races_X11 G 1 rfl rfl 6 (by decide) lk_X11_races_27 hm6 dX11_races_116 ?_
          refine o_ri (cells' := 0) (slots' := 0) G rfl rfl (n_S (As := [.ref hh]) (rest := []) S G (m_manyHomeH l X hh g h1 H.size) gX11_races_X11_manyHome rfl rfl rfl hdS_X11_manyHome ⟨Nat.le_of_ble_eq_true rfl, Nat.le_of_ble_eq_true rfl⟩ [3] rfl (by decide) rfl hl.1 (Nat.le_of_ble_eq_true rfl) dX11_races_119 ⟨Nat.le_of_ble_eq_true rfl, Nat.le_of_ble_eq_true rfl⟩) (fun r_7 u_7 H locs hp_7 G => ?_)
          have G : wd X (va_A [(m0, .inr (9, ms)), (ha, .inl (X.2.1, 371, .inl f)), (hh, .inl (X.2.1, 55, .inl gh)), (hr, .inl (X.2.1, 3, .inl fr))] sz) (va_A [(m0, .inr (9, ms)), (ha, .inl (X.2.1, 371, .inl f)), (hh, .inl (X.2.1, 55, .inl gh)), (hr, .inl (X.2.1, 3, .inl fr))] sz) s [(hr, .inl (X.2.1, 3, .inl fr)), (m0, .inr (9, ms)), (ha, .inl (X.2.1, 371, .inl f)), (hh, .inl (X.2.1, 55, .inl g))] H locs := G
          subst hp_7
          exact e_int S zr zlk (vp_nar_int _) G () [] rfl (by decide) (Or.inl rfl) (by first | exact (if_pos ⟨hw_1, hw_3⟩).symm | exact (if_neg (fun h => hw_3 h.2)).symm) dX11_races_122
        · have hkl := k_lt (by omega) zk c_6
          refine lv_lload_n zx zb dX11_races_47 rfl (lv_at hl 1 rfl) ?_
          refine lv_ldc2 zx zb S.2.2.2.1 (S.2.2.2.2 _ mm_X11_races_c193) dX11_races_48 ?_
          refine k_ld (v := (Int32.toInt64 1103515245)) (by decide) ?_
          refine r_lmul (v := ((lN z) * (Int32.toInt64 1103515245))) S rfl dX11_races_51 ?_
          refine lv_ldc2 zx zb S.2.2.2.1 (S.2.2.2.2 _ mm_X11_races_c195) dX11_races_52 ?_
          refine k_ld (v := (Int32.toInt64 12345)) (by decide) ?_
          refine r_ladd (v := (((lN z) * (Int32.toInt64 1103515245)) + (Int32.toInt64 12345))) S rfl dX11_races_55 ?_
          refine lv_ldc2 zx zb S.2.2.2.1 (S.2.2.2.2 _ mm_X11_races_c197) dX11_races_56 ?_
          refine lv_lrem zx zb dX11_races_59 (by decide) ?_
          obtain ⟨z1, hz1, ez1⟩ := k_rx zz
          refine k_ld ez1 ?_
          refine lv_lstore_n (lv' := [(3, .long (lN z1)), (5, .int (nI k)), (0, .ref m0), (1, .int (nI z0)), (2, .int (nI N))]) zx zb dX11_races_60 rfl hl (by decide) rfl (fun ls hl => ?_)
          refine lv_lload_n zx zb dX11_races_61 rfl (lv_at hl 0 rfl) ?_
          refine lv_ldc2 zx zb S.2.2.2.1 (S.2.2.2.2 _ mm_X11_races_c199) dX11_races_62 ?_
          refine k_ld (v := (Int32.toInt64 65536)) (by decide) ?_
          refine lv_ldiv zx zb dX11_races_65 (by decide) ?_
          refine lv_ldc2 zx zb S.2.2.2.1 (S.2.2.2.2 _ mm_X11_races_c185) dX11_races_66 ?_
          refine k_ld (v := (Int32.toInt64 6)) (by decide) ?_
          refine lv_lrem zx zb dX11_races_69 (by decide) ?_
          refine lv_l2i (v := (Int64.toInt32 (((lN z1) / (Int32.toInt64 65536)) - ((lN z1) / (Int32.toInt64 65536)) / (Int32.toInt64 6) * (Int32.toInt64 6)))) zx zb dX11_races_70 rfl ?_
          obtain ⟨j, hj, ej⟩ := k_ri hz1
          refine k_it ej ?_
          refine lv_istore (lv' := [(6, .int (nI j)), (3, .long (lN z1)), (5, .int (nI k)), (0, .ref m0), (1, .int (nI z0)), (2, .int (nI N))]) zx zb dX11_races_71 hl (by decide) rfl (fun ls hl => ?_)
          refine lv_aload_n zx zb dX11_races_73 rfl (lv_at hl 3 rfl) ?_
          refine lv_iload zx zb dX11_races_74 (lv_at hl 0 rfl) ?_
          refine o_ri (cells' := 0) (slots' := 0) G rfl rfl (n_V (As := [.int (nI j)]) (rest := []) (C := RX11) (T := TX11) (N := 18) (ci := 9) S G (m_isOne l X m0 ms ha f (nI j) hm0 hf0 H.size) gX11_races_X11_isOne rfl rfl rfl hdV_X11_isOne ⟨Nat.le_of_ble_eq_true rfl, Nat.le_of_ble_eq_true rfl⟩ [1, 2] rfl (by decide) 1 rfl rfl rfl hl.1 (Nat.le_of_ble_eq_true rfl) dX11_races_76 ⟨Nat.le_of_ble_eq_true rfl, Nat.le_of_ble_eq_true rfl⟩) (fun r_8 u_8 H locs hp_8 G => ?_)
          have G : wd X (va_A [(m0, .inr (9, ms)), (ha, .inl (X.2.1, 371, .inl f)), (hh, .inl (X.2.1, 55, .inl gh)), (hr, .inl (X.2.1, 3, .inl fr))] sz) (va_A [(m0, .inr (9, ms)), (ha, .inl (X.2.1, 371, .inl f)), (hh, .inl (X.2.1, 55, .inl gh)), (hr, .inl (X.2.1, 3, .inl fr))] sz) s [(hr, .inl (X.2.1, 3, .inl fr)), (m0, .inr (9, ms)), (ha, .inl (X.2.1, 371, .inl f)), (hh, .inl (X.2.1, 55, .inl g))] H locs := G
          subst hp_8
          refine lv_if_eq (tgt := 102) zx zb dX11_races_79 (by decide) (fun c_9 => ?_) (fun c_9 => absurd (by decide) c_9)
          refine lv_aload_n zx zb dX11_races_102 rfl (lv_at hl 3 rfl) ?_
          refine r_get (C := RX11) (T := TX11) (N := 18) (ci := 9) (v := .ref hh) S in_X11_races_X11 G 1 rfl rfl 6 (by decide) lk_X11_races_27 hm6 dX11_races_103 ?_
          refine o_wv (cells' := 0) (slots' := 0) (wr := [(hr, .inl (X.2.1, 3, .inl fr)), (m0, .inr (9, ms)), (ha, .inl (X.2.1, 371, .inl f))]) G rfl rfl [3] [0, 1, 2] rfl rfl (by decide) (by decide) (n_S (As := [.ref hh]) (rest := []) S G (m_goTickH l X hh g h1 H.size) gX11_races_X11_goTick rfl rfl rfl hdS_X11_goTick ⟨Nat.le_of_ble_eq_true rfl, Nat.le_of_ble_eq_true rfl⟩ [3] rfl (by decide) rfl hl.1 (Nat.le_of_ble_eq_true rfl) dX11_races_106 ⟨Nat.le_of_ble_eq_true rfl, Nat.le_of_ble_eq_true rfl⟩) (fun u_10 H locs hp_10 G => ?_)
          have G : wd X (va_A [(m0, .inr (9, ms)), (ha, .inl (X.2.1, 371, .inl f)), (hh, .inl (X.2.1, 55, .inl gh)), (hr, .inl (X.2.1, 3, .inl fr))] sz) (va_A [(m0, .inr (9, ms)), (ha, .inl (X.2.1, 371, .inl f)), (hh, .inl (X.2.1, 55, .inl gh)), (hr, .inl (X.2.1, 3, .inl fr))] sz) s [(hr, .inl (X.2.1, 3, .inl fr)), (m0, .inr (9, ms)), (ha, .inl (X.2.1, 371, .inl f)), (hh, .inl (X.2.1, 55, .inl u_10))] H locs := G
          refine lv_iinc (v := (nI (k + 1))) (lv' := [(5, .int (nI (k + 1))), (6, .int (nI j)), (3, .long (lN z1)), (0, .ref m0), (1, .int (nI z0)), (2, .int (nI N))]) zx zb dX11_races_109 hl (k := 2) rfl (nI_1 k) (by decide) rfl (fun ls hl => ?_)
          refine lv_goto (tgt := 41) zx zb dX11_races_112 (by decide) ?_
          have hl := lv_sub hl (l' := [(5, .int (nI (k + 1))), (3, .long (lN z1)), (0, .ref m0), (1, .int (nI z0)), (2, .int (nI N))]) [0, 2, 3, 4, 5] rfl
          exact ih (k + 1) (by omega) (by omega) z1 _ _ _ _ hz1 ((hp_10.1 0 (by decide)).trans h1) G hl
    · refine lv_if_ne (tgt := 31) zx zb dX11_races_21 (by decide) (fun c_11 => absurd (by decide) c_11) (fun c_11 => ?_)
      refine lv_aload_n zx zb dX11_races_24 rfl (lv_at hl 0 rfl) ?_
      refine lv_bipush (v := (-2)) zx zb dX11_races_25 (by decide) ?_
      refine o_wi (cells' := 0) (slots' := 0) (wr := [(ha, .inl (X.2.1, 371, .inl f)), (hh, .inl (X.2.1, 55, .inl gh))]) G rfl rfl [0, 3] [1, 2] rfl rfl (by decide) (by decide) (n_V (As := [.int (-2)]) (rest := []) (C := RX11) (T := TX11) (N := 18) (ci := 9) S G (m_bad l X m0 ms hr fr (-2) hm3 H.size) gX11_races_X11_bad rfl rfl rfl hdV_X11_bad ⟨Nat.le_of_ble_eq_true rfl, Nat.le_of_ble_eq_true rfl⟩ [0, 3] rfl (by decide) 0 rfl rfl rfl hl.1 (Nat.le_of_ble_eq_true rfl) dX11_races_27 ⟨Nat.le_of_ble_eq_true rfl, Nat.le_of_ble_eq_true rfl⟩) (fun r_12 u_12 H locs hp_12 G => ?_)
      have G : wd X (va_A [(m0, .inr (9, ms)), (ha, .inl (X.2.1, 371, .inl f)), (hh, .inl (X.2.1, 55, .inl gh)), (hr, .inl (X.2.1, 3, .inl fr))] sz) (va_A [(m0, .inr (9, ms)), (ha, .inl (X.2.1, 371, .inl f)), (hh, .inl (X.2.1, 55, .inl gh)), (hr, .inl (X.2.1, 3, .inl fr))] sz) s [(ha, .inl (X.2.1, 371, .inl f)), (hh, .inl (X.2.1, 55, .inl gh))] H locs := G
      subst hp_12
      exact e_int S zr zlk (vp_nar_int _) G () [] rfl (by decide) (Or.inl rfl) (by first | exact (if_pos ⟨hw_1, hw_3⟩).symm | exact (if_neg (fun h => hw_3 h.2)).symm) dX11_races_30
  · refine lv_if_eq (tgt := 24) zx zb dX11_races_9 (by decide) (fun c_13 => ?_) (fun c_13 => absurd (by decide) c_13)
    refine lv_aload_n zx zb dX11_races_24 rfl (lv_at hl 0 rfl) ?_
    refine lv_bipush (v := (-2)) zx zb dX11_races_25 (by decide) ?_
    refine o_wi (cells' := 0) (slots' := 0) (wr := [(ha, .inl (X.2.1, 371, .inl f)), (hh, .inl (X.2.1, 55, .inl gh))]) G rfl rfl [0, 3] [1, 2] rfl rfl (by decide) (by decide) (n_V (As := [.int (-2)]) (rest := []) (C := RX11) (T := TX11) (N := 18) (ci := 9) S G (m_bad l X m0 ms hr fr (-2) hm3 H.size) gX11_races_X11_bad rfl rfl rfl hdV_X11_bad ⟨Nat.le_of_ble_eq_true rfl, Nat.le_of_ble_eq_true rfl⟩ [0, 3] rfl (by decide) 0 rfl rfl rfl hl.1 (Nat.le_of_ble_eq_true rfl) dX11_races_27 ⟨Nat.le_of_ble_eq_true rfl, Nat.le_of_ble_eq_true rfl⟩) (fun r_14 u_14 H locs hp_14 G => ?_)
    have G : wd X (va_A [(m0, .inr (9, ms)), (ha, .inl (X.2.1, 371, .inl f)), (hh, .inl (X.2.1, 55, .inl gh)), (hr, .inl (X.2.1, 3, .inl fr))] sz) (va_A [(m0, .inr (9, ms)), (ha, .inl (X.2.1, 371, .inl f)), (hh, .inl (X.2.1, 55, .inl gh)), (hr, .inl (X.2.1, 3, .inl fr))] sz) s [(ha, .inl (X.2.1, 371, .inl f)), (hh, .inl (X.2.1, 55, .inl gh))] H locs := G
    subst hp_14
    exact e_int S zr zlk (vp_nar_int _) G () [] rfl (by decide) (Or.inl rfl) (by first | exact (if_pos hw_1).symm | exact (if_neg (fun h => hw_1 h.1)).symm) dX11_races_30
theorem in_X11_part_X11 : ∀ w ∈ wsX110, w ∈ wsX11_part := by decide +kernel
theorem lk_X11_part_23 : Cond.fieldLink RX11 23 "EggSpoonsModel" "below" "J" ∈ wsX11_part := by decide +kernel
theorem lk_X11_part_182 : Cond.fieldLink RX11 182 "EggSpoonsModel" "above" "J" ∈ wsX11_part := by decide +kernel
set_option maxHeartbeats 4000000 in
set_option maxRecDepth 100000 in
/-- part -/
theorem m_part (l : Launch) (X : EX) (m0 : Nat) (ms : List Value) (hr : Nat) (fr : Nat → Int32) (x1 : Int32) (hm3 : ms[3]? = some (.ref hr)) (hm4 : ms[4]? = some (.long 0)) (hm5 : ms[5]? = some (.long (Int32.toInt64 1))) (sz : Nat) : Met l yX11_part wsX11_part ({ frames := 1, cells := 0, slots := 0, locals := 21 } : Room) (pE X [.ref m0, .int x1] [(m0, .inr (9, ms)), (hr, .inl (X.2.1, 3, .inl fr))] sz) (qL (fun (r : Int64) (u : Unit) => r = if x1 = 0 then Int32.toInt64 0 else if x1 = 1 then Int32.toInt64 1 else Int32.toInt64 (-2)) X (fun (u : Unit) => []) [(m0, .inr (9, ms)), (hr, .inl (X.2.1, 3, .inl fr))] sz) 0 0 (va_A [(m0, .inr (9, ms)), (hr, .inl (X.2.1, 3, .inl fr))] sz) := by
  refine mk_met (B := (va_A [(m0, .inr (9, ms)), (hr, .inl (X.2.1, 3, .inl fr))] sz)) (A := (va_A [(m0, .inr (9, ms)), (hr, .inl (X.2.1, 3, .inl fr))] sz)) (cc := cX11_part) (maxL := 2) (ret := (some .long)) (by decide) rfl (Nat.le_of_ble_eq_true rfl) k_w k_a (fun p e s m below meth c S zr zlk znm zsz G ls hl => ?_)
  have S : CallFix p m c cX11_part 2 s _ wsX11_part RX11 := S
  have zx := S.1
  have zb := S.2.1
  have hl : lv_has ls 2 [(0, .ref m0), (1, .int x1)] := hl
  refine lv_iload_n zx zb dX11_part_0 rfl (lv_at hl 1 rfl) ?_
  refine lv_if_ne (tgt := 11) zx zb dX11_part_1 (by decide) (fun c_1 => ?_) (fun c_1 => ?_)
  · refine lv_iload_n zx zb dX11_part_11 rfl (lv_at hl 1 rfl) ?_
    refine lv_iconst (v := 1) zx zb dX11_part_12 (by decide) ?_
    refine lv_icmp_ne (tgt := 23) zx zb dX11_part_13 (by decide) (fun c_2 => ?_) (fun c_2 => ?_)
    · refine lv_aload_n zx zb dX11_part_23 rfl (lv_at hl 0 rfl) ?_
      refine lv_bipush (v := (-2)) zx zb dX11_part_24 (by decide) ?_
      refine o_wi (cells' := 0) (slots' := 0) (wr := []) G rfl rfl [0, 1] [] rfl rfl (by decide) (by decide) (n_V (As := [.int (-2)]) (rest := []) (C := RX11) (T := TX11) (N := 18) (ci := 9) S G (m_bad l X m0 ms hr fr (-2) hm3 s.heap.size) gX11_part_X11_bad rfl rfl rfl hdV_X11_bad ⟨Nat.le_of_ble_eq_true rfl, Nat.le_of_ble_eq_true rfl⟩ [0, 1] rfl (by decide) 0 rfl rfl rfl hl.1 (Nat.le_of_ble_eq_true rfl) dX11_part_26 ⟨Nat.le_of_ble_eq_true rfl, Nat.le_of_ble_eq_true rfl⟩) (fun r_3 u_3 H locs hp_3 G => ?_)
      have G : wd X (va_A [(m0, .inr (9, ms)), (hr, .inl (X.2.1, 3, .inl fr))] sz) (va_A [(m0, .inr (9, ms)), (hr, .inl (X.2.1, 3, .inl fr))] sz) s [] H locs := G
      subst hp_3
      refine lv_i2l (v := (Int32.toInt64 (-2))) zx zb dX11_part_29 rfl ?_
      exact e_long S zr zlk G () [] rfl (by decide) (Or.inl rfl) (by first | exact (show (0 : Int64) = Int32.toInt64 0 by decide).trans (k_p0 c_1).symm | exact (k_q1 c_1 c_2).symm | exact (k_q2 c_1 c_2).symm) dX11_part_30
    · refine lv_aload_n zx zb dX11_part_16 rfl (lv_at hl 0 rfl) ?_
      refine r_get (C := RX11) (T := TX11) (N := 18) (ci := 9) (v := .long (Int32.toInt64 1)) S in_X11_part_X11 G 0 rfl rfl 5 (by decide) lk_X11_part_23 hm5 dX11_part_17 ?_
      refine lv_goto (tgt := 30) zx zb dX11_part_20 (by decide) ?_
      exact e_long S zr zlk G () [] rfl (by decide) (Or.inl rfl) (by first | exact (show (0 : Int64) = Int32.toInt64 0 by decide).trans (k_p0 c_1).symm | exact (k_q1 c_1 c_2).symm | exact (k_q2 c_1 c_2).symm) dX11_part_30
  · refine lv_aload_n zx zb dX11_part_4 rfl (lv_at hl 0 rfl) ?_
    refine r_get (C := RX11) (T := TX11) (N := 18) (ci := 9) (v := .long 0) S in_X11_part_X11 G 0 rfl rfl 4 (by decide) lk_X11_part_182 hm4 dX11_part_5 ?_
    refine lv_goto (tgt := 30) zx zb dX11_part_8 (by decide) ?_
    exact e_long S zr zlk G () [] rfl (by decide) (Or.inl rfl) (by first | exact (show (0 : Int64) = Int32.toInt64 0 by decide).trans (k_p0 c_1).symm | exact (k_q1 c_1 c_2).symm | exact (k_q2 c_1 c_2).symm) dX11_part_30
theorem in_X11_image_X11 : ∀ w ∈ wsX110, w ∈ wsX11_image := by decide +kernel
theorem lk_X11_image_16 : Cond.fieldLink RX11 16 "EggSpoonsModel" "isKept" "[Z" ∈ wsX11_image := by decide +kernel
theorem lk_X11_image_13 : Cond.fieldLink RX11 13 "EggSpoonsModel" "kept" "[I" ∈ wsX11_image := by decide +kernel
theorem lk_X11_image_7 : Cond.fieldLink RX11 7 "EggSpoonsModel" "all" "[I" ∈ wsX11_image := by decide +kernel
set_option maxHeartbeats 4000000 in
set_option maxRecDepth 100000 in
/-- image -/
theorem m_image (l : Launch) (X : EX) (m0 : Nat) (ms : List Value) (ha : Nat) (f : Nat → Int32) (hk : Nat) (gk : Nat → Int32) (hq : Nat) (gq : Nat → Int32) (hr : Nat) (fr : Nat → Int32) (x1 : Int32) (hm0 : ms[0]? = some (.ref ha)) (hm3 : ms[3]? = some (.ref hr)) (hm1 : ms[1]? = some (.ref hk)) (hm2 : ms[2]? = some (.ref hq)) (sz : Nat) : Met l yX11_image wsX11_image ({ frames := 1, cells := 0, slots := 0, locals := 25 } : Room) (pE X [.ref m0, .int x1] [(m0, .inr (9, ms)), (ha, .inl (X.2.1, 371, .inl f)), (hk, .inl (X.2.1, 742, .inl gk)), (hq, .inl (X.2.2.1, 2, .inl gq)), (hr, .inl (X.2.1, 3, .inl fr))] sz) (qI (fun (r : Int32) (u : Unit) => r = if (0 : Int32) ≤ x1 ∧ x1 ≤ 1 then 1 else -2) X (fun (u : Unit) => []) [(m0, .inr (9, ms)), (ha, .inl (X.2.1, 371, .inl f)), (hk, .inl (X.2.1, 742, .inl gk)), (hq, .inl (X.2.2.1, 2, .inl gq)), (hr, .inl (X.2.1, 3, .inl fr))] sz) 0 0 (va_A [(m0, .inr (9, ms)), (ha, .inl (X.2.1, 371, .inl f)), (hk, .inl (X.2.1, 742, .inl gk)), (hq, .inl (X.2.2.1, 2, .inl gq)), (hr, .inl (X.2.1, 3, .inl fr))] sz) := by
  refine mk_met (B := (va_A [(m0, .inr (9, ms)), (ha, .inl (X.2.1, 371, .inl f)), (hk, .inl (X.2.1, 742, .inl gk)), (hq, .inl (X.2.2.1, 2, .inl gq)), (hr, .inl (X.2.1, 3, .inl fr))] sz)) (A := (va_A [(m0, .inr (9, ms)), (ha, .inl (X.2.1, 371, .inl f)), (hk, .inl (X.2.1, 742, .inl gk)), (hq, .inl (X.2.2.1, 2, .inl gq)), (hr, .inl (X.2.1, 3, .inl fr))] sz)) (cc := cX11_image) (maxL := 3) (ret := (some .int)) (by decide) rfl (Nat.le_of_ble_eq_true rfl) k_w k_a (fun p e s m below meth c S zr zlk znm zsz G ls hl => ?_)
  have S : CallFix p m c cX11_image 3 s _ wsX11_image RX11 := S
  have zx := S.1
  have zb := S.2.1
  have hl : lv_has ls 3 [(0, .ref m0), (1, .int x1)] := hl
  refine lv_iload_n zx zb dX11_image_0 rfl (lv_at hl 1 rfl) ?_
  refine lv_i2l (v := (Int32.toInt64 x1)) zx zb dX11_image_1 rfl ?_
  refine lv_lconst (v := (Int32.toInt64 0)) zx zb dX11_image_2 (by decide) ?_
  refine lv_lconst (v := (Int32.toInt64 1)) zx zb dX11_image_3 (by decide) ?_
  refine o_ri (cells' := 0) (slots' := 0) G rfl rfl (n_S (As := [.long (Int32.toInt64 x1), .long (Int32.toInt64 0), .long (Int32.toInt64 1)]) (rest := []) S G (m_in l X x1 0 1 s.heap.size) gX11_image_X11_in rfl rfl rfl hdS_X11_in ⟨Nat.le_of_ble_eq_true rfl, Nat.le_of_ble_eq_true rfl⟩ [] rfl (by decide) rfl hl.1 (Nat.le_of_ble_eq_true rfl) dX11_image_4 ⟨Nat.le_of_ble_eq_true rfl, Nat.le_of_ble_eq_true rfl⟩) (fun r_1 u_1 H locs hp_1 G => ?_)
  have G : wd X (va_A [(m0, .inr (9, ms)), (ha, .inl (X.2.1, 371, .inl f)), (hk, .inl (X.2.1, 742, .inl gk)), (hq, .inl (X.2.2.1, 2, .inl gq)), (hr, .inl (X.2.1, 3, .inl fr))] sz) (va_A [(m0, .inr (9, ms)), (ha, .inl (X.2.1, 371, .inl f)), (hk, .inl (X.2.1, 742, .inl gk)), (hq, .inl (X.2.2.1, 2, .inl gq)), (hr, .inl (X.2.1, 3, .inl fr))] sz) s [(m0, .inr (9, ms)), (ha, .inl (X.2.1, 371, .inl f)), (hk, .inl (X.2.1, 742, .inl gk)), (hq, .inl (X.2.2.1, 2, .inl gq)), (hr, .inl (X.2.1, 3, .inl fr))] H locs := G
  rcases hp_1 with ⟨rfl, hw_1⟩ | ⟨rfl, hw_1⟩
  · refine lv_if_ne (tgt := 17) zx zb dX11_image_7 (by decide) (fun c_2 => ?_) (fun c_2 => absurd c_2 (by decide))
    rcases k_01 hw_1 with rfl | rfl
    · refine lv_iconst (v := 0) zx zb dX11_image_17 (by decide) ?_
      refine lv_istore_n (lv' := [(2, .int 0), (0, .ref m0), (1, .int 0)]) zx zb dX11_image_18 rfl hl (by decide) rfl (fun ls hl => ?_)
      refine k_loop (P := ∀ (n k : Nat), k ≤ 371 → 371 + 1 ≤ k + n → ∀ (g : Nat → Int32) (H : Heap) (locs : List Loc) (ls : Array Slot), wd X (va_A [(m0, .inr (9, ms)), (ha, .inl (X.2.1, 371, .inl f)), (hk, .inl (X.2.1, 742, .inl gk)), (hq, .inl (X.2.2.1, 2, .inl gq)), (hr, .inl (X.2.1, 3, .inl fr))] sz) (va_A [(m0, .inr (9, ms)), (ha, .inl (X.2.1, 371, .inl f)), (hk, .inl (X.2.1, 742, .inl gk)), (hq, .inl (X.2.2.1, 2, .inl gq)), (hr, .inl (X.2.1, 3, .inl fr))] sz) s [(m0, .inr (9, ms)), (ha, .inl (X.2.1, 371, .inl f)), (hk, .inl (X.2.1, 742, .inl g)), (hq, .inl (X.2.2.1, 2, .inl gq)), (hr, .inl (X.2.1, 3, .inl fr))] H locs → lv_has ls 3 [(2, .int (nI k)), (0, .ref m0), (1, .int 0)] → W p l e _ s m _ below meth c H locs _ _ _ (F0 m 19 ls [])) (fun loop => loop (371 + 1) 0 (Nat.zero_le _) (by omega) _ _ _ _  G hl) ?_
      intro zn
      induction zn with
      | zero => exact fun k h1 h2 => absurd h2 (by omega)
      | succ zn ih =>
        intro k zk zn1 g H locs ls G hl
        refine lv_iload_n zx zb dX11_image_19 rfl (lv_at hl 0 rfl) ?_
        refine lv_sipush (v := 371) zx zb dX11_image_20 (by decide) ?_
        refine lv_icmp_ge (tgt := 50) zx zb dX11_image_23 (by decide) (fun c_3 => ?_) (fun c_3 => ?_)
        · have hkE := k_ge (by decide) zk c_3
          refine lv_aload_n zx zb dX11_image_50 rfl (lv_at hl 1 rfl) ?_
          refine r_get (C := RX11) (T := TX11) (N := 18) (ci := 9) (v := .ref hq) S in_X11_image_X11 G 0 rfl rfl 2 (by decide) lk_X11_image_16 hm2 dX11_image_51 ?_
          refine lv_iload_n zx zb dX11_image_54 rfl (lv_at hl 2 rfl) ?_
          refine lv_iconst (v := 1) zx zb dX11_image_55 (by decide) ?_
          refine r_zast S G 3 rfl (k_vp (by decide)) dX11_image_56 (fun H locs G => ?_)
          obtain ⟨g_4, G⟩ : ∃ g_4 : Nat → Int32, wd X (va_A [(m0, .inr (9, ms)), (ha, .inl (X.2.1, 371, .inl f)), (hk, .inl (X.2.1, 742, .inl gk)), (hq, .inl (X.2.2.1, 2, .inl gq)), (hr, .inl (X.2.1, 3, .inl fr))] sz) (va_A [(m0, .inr (9, ms)), (ha, .inl (X.2.1, 371, .inl f)), (hk, .inl (X.2.1, 742, .inl gk)), (hq, .inl (X.2.2.1, 2, .inl gq)), (hr, .inl (X.2.1, 3, .inl fr))] sz) s [(m0, .inr (9, ms)), (ha, .inl (X.2.1, 371, .inl f)), (hk, .inl (X.2.1, 742, .inl g)), (hq, .inl (X.2.2.1, 2, .inl g_4)), (hr, .inl (X.2.1, 3, .inl fr))] H locs := ⟨_, G⟩
          refine lv_iconst (v := 1) zx zb dX11_image_57 (by decide) ?_
          exact e_int S zr zlk (vp_nar_int _) G () [] rfl (by decide) (Or.inl rfl) (by decide) dX11_image_58
        · have hkl := k_lt (by decide) zk c_3
          refine lv_aload_n zx zb dX11_image_26 rfl (lv_at hl 1 rfl) ?_
          refine r_get (C := RX11) (T := TX11) (N := 18) (ci := 9) (v := .ref hk) S in_X11_image_X11 G 0 rfl rfl 1 (by decide) lk_X11_image_13 hm1 dX11_image_27 ?_
          refine lv_sipush (v := 371) zx zb dX11_image_30 (by decide) ?_
          refine lv_iload_n zx zb dX11_image_33 rfl (lv_at hl 2 rfl) ?_
          refine r_imul (v := 0) S (by decide) dX11_image_34 ?_
          refine lv_iload_n zx zb dX11_image_35 rfl (lv_at hl 0 rfl) ?_
          refine r_iadd (v := (0 + (nI k))) S rfl dX11_image_36 ?_
          refine k_it (nI_add 0 k) ?_
          refine lv_aload_n zx zb dX11_image_37 rfl (lv_at hl 1 rfl) ?_
          refine r_get (C := RX11) (T := TX11) (N := 18) (ci := 9) (v := .ref ha) S in_X11_image_X11 G 0 rfl rfl 0 (by decide) lk_X11_image_7 hm0 dX11_image_38 ?_
          refine lv_iload_n zx zb dX11_image_41 rfl (lv_at hl 0 rfl) ?_
          refine r_iald (v := (f k)) S G 1 rfl (vp_in_nI (by omega) (by decide)) (by rw [nI_clamp (by omega)]) dX11_image_42 ?_
          refine r_iast S G 2 rfl (vp_in_nI (by omega) (by decide)) dX11_image_43 (fun H locs G => ?_)
          obtain ⟨g1, G⟩ : ∃ g1 : Nat → Int32, wd X (va_A [(m0, .inr (9, ms)), (ha, .inl (X.2.1, 371, .inl f)), (hk, .inl (X.2.1, 742, .inl gk)), (hq, .inl (X.2.2.1, 2, .inl gq)), (hr, .inl (X.2.1, 3, .inl fr))] sz) (va_A [(m0, .inr (9, ms)), (ha, .inl (X.2.1, 371, .inl f)), (hk, .inl (X.2.1, 742, .inl gk)), (hq, .inl (X.2.2.1, 2, .inl gq)), (hr, .inl (X.2.1, 3, .inl fr))] sz) s [(m0, .inr (9, ms)), (ha, .inl (X.2.1, 371, .inl f)), (hk, .inl (X.2.1, 742, .inl g1)), (hq, .inl (X.2.2.1, 2, .inl gq)), (hr, .inl (X.2.1, 3, .inl fr))] H locs := ⟨_, G⟩
          refine lv_iinc (v := (nI (k + 1))) (lv' := [(2, .int (nI (k + 1))), (0, .ref m0), (1, .int 0)]) zx zb dX11_image_44 hl (k := 0) rfl (nI_1 k) (by decide) rfl (fun ls hl => ?_)
          refine lv_goto (tgt := 19) zx zb dX11_image_47 (by decide) ?_
          exact ih (k + 1) (by omega) (by omega) _ _ _ _ G hl
    · refine lv_iconst (v := 0) zx zb dX11_image_17 (by decide) ?_
      refine lv_istore_n (lv' := [(2, .int 0), (0, .ref m0), (1, .int 1)]) zx zb dX11_image_18 rfl hl (by decide) rfl (fun ls hl => ?_)
      refine k_loop (P := ∀ (n k : Nat), k ≤ 371 → 371 + 1 ≤ k + n → ∀ (g : Nat → Int32) (H : Heap) (locs : List Loc) (ls : Array Slot), wd X (va_A [(m0, .inr (9, ms)), (ha, .inl (X.2.1, 371, .inl f)), (hk, .inl (X.2.1, 742, .inl gk)), (hq, .inl (X.2.2.1, 2, .inl gq)), (hr, .inl (X.2.1, 3, .inl fr))] sz) (va_A [(m0, .inr (9, ms)), (ha, .inl (X.2.1, 371, .inl f)), (hk, .inl (X.2.1, 742, .inl gk)), (hq, .inl (X.2.2.1, 2, .inl gq)), (hr, .inl (X.2.1, 3, .inl fr))] sz) s [(m0, .inr (9, ms)), (ha, .inl (X.2.1, 371, .inl f)), (hk, .inl (X.2.1, 742, .inl g)), (hq, .inl (X.2.2.1, 2, .inl gq)), (hr, .inl (X.2.1, 3, .inl fr))] H locs → lv_has ls 3 [(2, .int (nI k)), (0, .ref m0), (1, .int 1)] → W p l e _ s m _ below meth c H locs _ _ _ (F0 m 19 ls [])) (fun loop => loop (371 + 1) 0 (Nat.zero_le _) (by omega) _ _ _ _  G hl) ?_
      intro zn
      induction zn with
      | zero => exact fun k h1 h2 => absurd h2 (by omega)
      | succ zn ih =>
        intro k zk zn1 g H locs ls G hl
        refine lv_iload_n zx zb dX11_image_19 rfl (lv_at hl 0 rfl) ?_
        refine lv_sipush (v := 371) zx zb dX11_image_20 (by decide) ?_
        refine lv_icmp_ge (tgt := 50) zx zb dX11_image_23 (by decide) (fun c_6 => ?_) (fun c_6 => ?_)
        · have hkE := k_ge (by decide) zk c_6
          refine lv_aload_n zx zb dX11_image_50 rfl (lv_at hl 1 rfl) ?_
          refine r_get (C := RX11) (T := TX11) (N := 18) (ci := 9) (v := .ref hq) S in_X11_image_X11 G 0 rfl rfl 2 (by decide) lk_X11_image_16 hm2 dX11_image_51 ?_
          refine lv_iload_n zx zb dX11_image_54 rfl (lv_at hl 2 rfl) ?_
          refine lv_iconst (v := 1) zx zb dX11_image_55 (by decide) ?_
          refine r_zast S G 3 rfl (k_vp (by decide)) dX11_image_56 (fun H locs G => ?_)
          obtain ⟨g_7, G⟩ : ∃ g_7 : Nat → Int32, wd X (va_A [(m0, .inr (9, ms)), (ha, .inl (X.2.1, 371, .inl f)), (hk, .inl (X.2.1, 742, .inl gk)), (hq, .inl (X.2.2.1, 2, .inl gq)), (hr, .inl (X.2.1, 3, .inl fr))] sz) (va_A [(m0, .inr (9, ms)), (ha, .inl (X.2.1, 371, .inl f)), (hk, .inl (X.2.1, 742, .inl gk)), (hq, .inl (X.2.2.1, 2, .inl gq)), (hr, .inl (X.2.1, 3, .inl fr))] sz) s [(m0, .inr (9, ms)), (ha, .inl (X.2.1, 371, .inl f)), (hk, .inl (X.2.1, 742, .inl g)), (hq, .inl (X.2.2.1, 2, .inl g_7)), (hr, .inl (X.2.1, 3, .inl fr))] H locs := ⟨_, G⟩
          refine lv_iconst (v := 1) zx zb dX11_image_57 (by decide) ?_
          exact e_int S zr zlk (vp_nar_int _) G () [] rfl (by decide) (Or.inl rfl) (by decide) dX11_image_58
        · have hkl := k_lt (by decide) zk c_6
          refine lv_aload_n zx zb dX11_image_26 rfl (lv_at hl 1 rfl) ?_
          refine r_get (C := RX11) (T := TX11) (N := 18) (ci := 9) (v := .ref hk) S in_X11_image_X11 G 0 rfl rfl 1 (by decide) lk_X11_image_13 hm1 dX11_image_27 ?_
          refine lv_sipush (v := 371) zx zb dX11_image_30 (by decide) ?_
          refine lv_iload_n zx zb dX11_image_33 rfl (lv_at hl 2 rfl) ?_
          refine r_imul (v := 371) S (by decide) dX11_image_34 ?_
          refine lv_iload_n zx zb dX11_image_35 rfl (lv_at hl 0 rfl) ?_
          refine r_iadd (v := (371 + (nI k))) S rfl dX11_image_36 ?_
          refine k_it (nI_add 371 k) ?_
          refine lv_aload_n zx zb dX11_image_37 rfl (lv_at hl 1 rfl) ?_
          refine r_get (C := RX11) (T := TX11) (N := 18) (ci := 9) (v := .ref ha) S in_X11_image_X11 G 0 rfl rfl 0 (by decide) lk_X11_image_7 hm0 dX11_image_38 ?_
          refine lv_iload_n zx zb dX11_image_41 rfl (lv_at hl 0 rfl) ?_
          refine r_iald (v := (f k)) S G 1 rfl (vp_in_nI (by omega) (by decide)) (by rw [nI_clamp (by omega)]) dX11_image_42 ?_
          refine r_iast S G 2 rfl (vp_in_nI (by omega) (by decide)) dX11_image_43 (fun H locs G => ?_)
          obtain ⟨g1, G⟩ : ∃ g1 : Nat → Int32, wd X (va_A [(m0, .inr (9, ms)), (ha, .inl (X.2.1, 371, .inl f)), (hk, .inl (X.2.1, 742, .inl gk)), (hq, .inl (X.2.2.1, 2, .inl gq)), (hr, .inl (X.2.1, 3, .inl fr))] sz) (va_A [(m0, .inr (9, ms)), (ha, .inl (X.2.1, 371, .inl f)), (hk, .inl (X.2.1, 742, .inl gk)), (hq, .inl (X.2.2.1, 2, .inl gq)), (hr, .inl (X.2.1, 3, .inl fr))] sz) s [(m0, .inr (9, ms)), (ha, .inl (X.2.1, 371, .inl f)), (hk, .inl (X.2.1, 742, .inl g1)), (hq, .inl (X.2.2.1, 2, .inl gq)), (hr, .inl (X.2.1, 3, .inl fr))] H locs := ⟨_, G⟩
          refine lv_iinc (v := (nI (k + 1))) (lv' := [(2, .int (nI (k + 1))), (0, .ref m0), (1, .int 1)]) zx zb dX11_image_44 hl (k := 0) rfl (nI_1 k) (by decide) rfl (fun ls hl => ?_)
          refine lv_goto (tgt := 19) zx zb dX11_image_47 (by decide) ?_
          exact ih (k + 1) (by omega) (by omega) _ _ _ _ G hl
  · refine lv_if_ne (tgt := 17) zx zb dX11_image_7 (by decide) (fun c_9 => absurd (by decide) c_9) (fun c_9 => ?_)
    refine lv_aload_n zx zb dX11_image_10 rfl (lv_at hl 0 rfl) ?_
    refine lv_bipush (v := (-2)) zx zb dX11_image_11 (by decide) ?_
    refine o_wi (cells' := 0) (slots' := 0) (wr := [(ha, .inl (X.2.1, 371, .inl f)), (hk, .inl (X.2.1, 742, .inl gk)), (hq, .inl (X.2.2.1, 2, .inl gq))]) G rfl rfl [0, 4] [1, 2, 3] rfl rfl (by decide) (by decide) (n_V (As := [.int (-2)]) (rest := []) (C := RX11) (T := TX11) (N := 18) (ci := 9) S G (m_bad l X m0 ms hr fr (-2) hm3 H.size) gX11_image_X11_bad rfl rfl rfl hdV_X11_bad ⟨Nat.le_of_ble_eq_true rfl, Nat.le_of_ble_eq_true rfl⟩ [0, 4] rfl (by decide) 0 rfl rfl rfl hl.1 (Nat.le_of_ble_eq_true rfl) dX11_image_13 ⟨Nat.le_of_ble_eq_true rfl, Nat.le_of_ble_eq_true rfl⟩) (fun r_10 u_10 H locs hp_10 G => ?_)
    have G : wd X (va_A [(m0, .inr (9, ms)), (ha, .inl (X.2.1, 371, .inl f)), (hk, .inl (X.2.1, 742, .inl gk)), (hq, .inl (X.2.2.1, 2, .inl gq)), (hr, .inl (X.2.1, 3, .inl fr))] sz) (va_A [(m0, .inr (9, ms)), (ha, .inl (X.2.1, 371, .inl f)), (hk, .inl (X.2.1, 742, .inl gk)), (hq, .inl (X.2.2.1, 2, .inl gq)), (hr, .inl (X.2.1, 3, .inl fr))] sz) s [(ha, .inl (X.2.1, 371, .inl f)), (hk, .inl (X.2.1, 742, .inl gk)), (hq, .inl (X.2.2.1, 2, .inl gq))] H locs := G
    subst hp_10
    exact e_int S zr zlk (vp_nar_int _) G () [] rfl (by decide) (Or.inl rfl) (by first | exact (if_pos hw_1).symm | exact (if_neg (fun h => hw_1 h)).symm) dX11_image_16
theorem in_X11_from_X11 : ∀ w ∈ wsX110, w ∈ wsX11_from := by decide +kernel
theorem lk_X11_from_16 : Cond.fieldLink RX11 16 "EggSpoonsModel" "isKept" "[Z" ∈ wsX11_from := by decide +kernel
set_option maxHeartbeats 4000000 in
set_option maxRecDepth 100000 in
/-- from -/
theorem m_from (l : Launch) (X : EX) (m0 : Nat) (ms : List Value) (hq : Nat) (hr : Nat) (fr : Nat → Int32) (x1 : Int32) (hm3 : ms[3]? = some (.ref hr)) (hm2 : ms[2]? = some (.ref hq)) (sz : Nat) : Met l yX11_from wsX11_from ({ frames := 1, cells := 0, slots := 0, locals := 25 } : Room) (pE X [.ref m0, .int x1] [(m0, .inr (9, ms)), (hq, .inl (X.2.2.1, 2, .inl (fun _ => 0))), (hr, .inl (X.2.1, 3, .inl fr))] sz) (qI (fun (r : Int32) (u : Unit) => r = if (0 : Int32) ≤ x1 ∧ x1 ≤ 1 then -3 else -2) X (fun (u : Unit) => []) [(m0, .inr (9, ms)), (hq, .inl (X.2.2.1, 2, .inl (fun _ => 0))), (hr, .inl (X.2.1, 3, .inl fr))] sz) 0 0 (va_A [(m0, .inr (9, ms)), (hq, .inl (X.2.2.1, 2, .inl (fun _ => 0))), (hr, .inl (X.2.1, 3, .inl fr))] sz) := by
  refine mk_met (B := (va_A [(m0, .inr (9, ms)), (hq, .inl (X.2.2.1, 2, .inl (fun _ => 0))), (hr, .inl (X.2.1, 3, .inl fr))] sz)) (A := (va_A [(m0, .inr (9, ms)), (hq, .inl (X.2.2.1, 2, .inl (fun _ => 0))), (hr, .inl (X.2.1, 3, .inl fr))] sz)) (cc := cX11_from) (maxL := 3) (ret := (some .int)) (by decide) rfl (Nat.le_of_ble_eq_true rfl) k_w k_a (fun p e s m below meth c S zr zlk znm zsz G ls hl => ?_)
  have S : CallFix p m c cX11_from 3 s _ wsX11_from RX11 := S
  have zx := S.1
  have zb := S.2.1
  have hl : lv_has ls 3 [(0, .ref m0), (1, .int x1)] := hl
  refine lv_iload_n zx zb dX11_from_0 rfl (lv_at hl 1 rfl) ?_
  refine lv_i2l (v := (Int32.toInt64 x1)) zx zb dX11_from_1 rfl ?_
  refine lv_lconst (v := (Int32.toInt64 0)) zx zb dX11_from_2 (by decide) ?_
  refine lv_lconst (v := (Int32.toInt64 1)) zx zb dX11_from_3 (by decide) ?_
  refine o_ri (cells' := 0) (slots' := 0) G rfl rfl (n_S (As := [.long (Int32.toInt64 x1), .long (Int32.toInt64 0), .long (Int32.toInt64 1)]) (rest := []) S G (m_in l X x1 0 1 s.heap.size) gX11_from_X11_in rfl rfl rfl hdS_X11_in ⟨Nat.le_of_ble_eq_true rfl, Nat.le_of_ble_eq_true rfl⟩ [] rfl (by decide) rfl hl.1 (Nat.le_of_ble_eq_true rfl) dX11_from_4 ⟨Nat.le_of_ble_eq_true rfl, Nat.le_of_ble_eq_true rfl⟩) (fun r_1 u_1 H locs hp_1 G => ?_)
  have G : wd X (va_A [(m0, .inr (9, ms)), (hq, .inl (X.2.2.1, 2, .inl (fun _ => 0))), (hr, .inl (X.2.1, 3, .inl fr))] sz) (va_A [(m0, .inr (9, ms)), (hq, .inl (X.2.2.1, 2, .inl (fun _ => 0))), (hr, .inl (X.2.1, 3, .inl fr))] sz) s [(m0, .inr (9, ms)), (hq, .inl (X.2.2.1, 2, .inl (fun _ => 0))), (hr, .inl (X.2.1, 3, .inl fr))] H locs := G
  rcases hp_1 with ⟨rfl, hw_1⟩ | ⟨rfl, hw_1⟩
  · refine lv_if_ne (tgt := 17) zx zb dX11_from_7 (by decide) (fun c_2 => ?_) (fun c_2 => absurd c_2 (by decide))
    rcases k_01 hw_1 with rfl | rfl
    · refine lv_aload_n zx zb dX11_from_17 rfl (lv_at hl 0 rfl) ?_
      refine r_get (C := RX11) (T := TX11) (N := 18) (ci := 9) (v := .ref hq) S in_X11_from_X11 G 0 rfl rfl 2 (by decide) lk_X11_from_16 hm2 dX11_from_18 ?_
      refine lv_iload_n zx zb dX11_from_21 rfl (lv_at hl 1 rfl) ?_
      refine r_zald (v := 0) S G 1 rfl (k_vp (by decide)) rfl dX11_from_22 ?_
      refine lv_if_ne (tgt := 31) zx zb dX11_from_23 (by decide) (fun c_3 => absurd (by decide) c_3) (fun c_3 => ?_)
      refine lv_aload_n zx zb dX11_from_26 rfl (lv_at hl 0 rfl) ?_
      refine o_wi (cells' := 0) (slots' := 0) (wr := [(hq, .inl (X.2.2.1, 2, .inl (fun _ => 0)))]) G rfl rfl [0, 2] [1] rfl rfl (by decide) (by decide) (n_V (As := []) (rest := []) (C := RX11) (T := TX11) (N := 18) (ci := 9) S G (m_no l X m0 ms hr fr hm3 H.size) gX11_from_X11_no rfl rfl rfl hdV_X11_no ⟨Nat.le_of_ble_eq_true rfl, Nat.le_of_ble_eq_true rfl⟩ [0, 2] rfl (by decide) 0 rfl rfl rfl hl.1 (Nat.le_of_ble_eq_true rfl) dX11_from_27 ⟨Nat.le_of_ble_eq_true rfl, Nat.le_of_ble_eq_true rfl⟩) (fun r_4 u_4 H locs hp_4 G => ?_)
      have G : wd X (va_A [(m0, .inr (9, ms)), (hq, .inl (X.2.2.1, 2, .inl (fun _ => 0))), (hr, .inl (X.2.1, 3, .inl fr))] sz) (va_A [(m0, .inr (9, ms)), (hq, .inl (X.2.2.1, 2, .inl (fun _ => 0))), (hr, .inl (X.2.1, 3, .inl fr))] sz) s [(hq, .inl (X.2.2.1, 2, .inl (fun _ => 0)))] H locs := G
      subst hp_4
      exact e_int S zr zlk (vp_nar_int _) G () [] rfl (by decide) (Or.inl rfl) (by decide) dX11_from_30
    · refine lv_aload_n zx zb dX11_from_17 rfl (lv_at hl 0 rfl) ?_
      refine r_get (C := RX11) (T := TX11) (N := 18) (ci := 9) (v := .ref hq) S in_X11_from_X11 G 0 rfl rfl 2 (by decide) lk_X11_from_16 hm2 dX11_from_18 ?_
      refine lv_iload_n zx zb dX11_from_21 rfl (lv_at hl 1 rfl) ?_
      refine r_zald (v := 0) S G 1 rfl (k_vp (by decide)) rfl dX11_from_22 ?_
      refine lv_if_ne (tgt := 31) zx zb dX11_from_23 (by decide) (fun c_5 => absurd (by decide) c_5) (fun c_5 => ?_)
      refine lv_aload_n zx zb dX11_from_26 rfl (lv_at hl 0 rfl) ?_
      refine o_wi (cells' := 0) (slots' := 0) (wr := [(hq, .inl (X.2.2.1, 2, .inl (fun _ => 0)))]) G rfl rfl [0, 2] [1] rfl rfl (by decide) (by decide) (n_V (As := []) (rest := []) (C := RX11) (T := TX11) (N := 18) (ci := 9) S G (m_no l X m0 ms hr fr hm3 H.size) gX11_from_X11_no rfl rfl rfl hdV_X11_no ⟨Nat.le_of_ble_eq_true rfl, Nat.le_of_ble_eq_true rfl⟩ [0, 2] rfl (by decide) 0 rfl rfl rfl hl.1 (Nat.le_of_ble_eq_true rfl) dX11_from_27 ⟨Nat.le_of_ble_eq_true rfl, Nat.le_of_ble_eq_true rfl⟩) (fun r_6 u_6 H locs hp_6 G => ?_)
      have G : wd X (va_A [(m0, .inr (9, ms)), (hq, .inl (X.2.2.1, 2, .inl (fun _ => 0))), (hr, .inl (X.2.1, 3, .inl fr))] sz) (va_A [(m0, .inr (9, ms)), (hq, .inl (X.2.2.1, 2, .inl (fun _ => 0))), (hr, .inl (X.2.1, 3, .inl fr))] sz) s [(hq, .inl (X.2.2.1, 2, .inl (fun _ => 0)))] H locs := G
      subst hp_6
      exact e_int S zr zlk (vp_nar_int _) G () [] rfl (by decide) (Or.inl rfl) (by decide) dX11_from_30
  · refine lv_if_ne (tgt := 17) zx zb dX11_from_7 (by decide) (fun c_7 => absurd (by decide) c_7) (fun c_7 => ?_)
    refine lv_aload_n zx zb dX11_from_10 rfl (lv_at hl 0 rfl) ?_
    refine lv_bipush (v := (-2)) zx zb dX11_from_11 (by decide) ?_
    refine o_wi (cells' := 0) (slots' := 0) (wr := [(hq, .inl (X.2.2.1, 2, .inl (fun _ => 0)))]) G rfl rfl [0, 2] [1] rfl rfl (by decide) (by decide) (n_V (As := [.int (-2)]) (rest := []) (C := RX11) (T := TX11) (N := 18) (ci := 9) S G (m_bad l X m0 ms hr fr (-2) hm3 H.size) gX11_from_X11_bad rfl rfl rfl hdV_X11_bad ⟨Nat.le_of_ble_eq_true rfl, Nat.le_of_ble_eq_true rfl⟩ [0, 2] rfl (by decide) 0 rfl rfl rfl hl.1 (Nat.le_of_ble_eq_true rfl) dX11_from_13 ⟨Nat.le_of_ble_eq_true rfl, Nat.le_of_ble_eq_true rfl⟩) (fun r_8 u_8 H locs hp_8 G => ?_)
    have G : wd X (va_A [(m0, .inr (9, ms)), (hq, .inl (X.2.2.1, 2, .inl (fun _ => 0))), (hr, .inl (X.2.1, 3, .inl fr))] sz) (va_A [(m0, .inr (9, ms)), (hq, .inl (X.2.2.1, 2, .inl (fun _ => 0))), (hr, .inl (X.2.1, 3, .inl fr))] sz) s [(hq, .inl (X.2.2.1, 2, .inl (fun _ => 0)))] H locs := G
    subst hp_8
    exact e_int S zr zlk (vp_nar_int _) G () [] rfl (by decide) (Or.inl rfl) (by first | exact (if_pos hw_1).symm | exact (if_neg (fun h => hw_1 h)).symm) dX11_from_16
theorem mm_X11_status_c156 : Cond.constantLong RX11 156 (2) ∈ wsX11_status := by decide +kernel
theorem in_X11_status_X11 : ∀ w ∈ wsX110, w ∈ wsX11_status := by decide +kernel
theorem lk_X11_status_20 : Cond.fieldLink RX11 20 "EggSpoonsModel" "refused" "[I" ∈ wsX11_status := by decide +kernel
set_option maxHeartbeats 4000000 in
set_option maxRecDepth 100000 in
/-- status -/
theorem m_status (l : Launch) (X : EX) (m0 : Nat) (ms : List Value) (hr : Nat) (x1 : Int32) (hm3 : ms[3]? = some (.ref hr)) (sz : Nat) : Met l yX11_status wsX11_status ({ frames := 1, cells := 0, slots := 0, locals := 25 } : Room) (pE X [.ref m0, .int x1] [(m0, .inr (9, ms)), (hr, .inl (X.2.1, 3, .inl (fun _ => 0)))] sz) (qI (fun (r : Int32) (u : Unit) => r = if (0 : Int32) ≤ x1 ∧ x1 ≤ 2 then 0 else -1) X (fun (u : Unit) => []) [(m0, .inr (9, ms)), (hr, .inl (X.2.1, 3, .inl (fun _ => 0)))] sz) 0 0 (va_A [(m0, .inr (9, ms)), (hr, .inl (X.2.1, 3, .inl (fun _ => 0)))] sz) := by
  refine mk_met (B := (va_A [(m0, .inr (9, ms)), (hr, .inl (X.2.1, 3, .inl (fun _ => 0)))] sz)) (A := (va_A [(m0, .inr (9, ms)), (hr, .inl (X.2.1, 3, .inl (fun _ => 0)))] sz)) (cc := cX11_status) (maxL := 2) (ret := (some .int)) (by decide) rfl (Nat.le_of_ble_eq_true rfl) k_w k_a (fun p e s m below meth c S zr zlk znm zsz G ls hl => ?_)
  have S : CallFix p m c cX11_status 2 s _ wsX11_status RX11 := S
  have zx := S.1
  have zb := S.2.1
  have hl : lv_has ls 2 [(0, .ref m0), (1, .int x1)] := hl
  refine lv_iload_n zx zb dX11_status_0 rfl (lv_at hl 1 rfl) ?_
  refine lv_i2l (v := (Int32.toInt64 x1)) zx zb dX11_status_1 rfl ?_
  refine lv_lconst (v := (Int32.toInt64 0)) zx zb dX11_status_2 (by decide) ?_
  refine lv_ldc2 zx zb S.2.2.2.1 (S.2.2.2.2 _ mm_X11_status_c156) dX11_status_3 ?_
  refine k_ld (v := (Int32.toInt64 2)) (by decide) ?_
  refine o_ri (cells' := 0) (slots' := 0) G rfl rfl (n_S (As := [.long (Int32.toInt64 x1), .long (Int32.toInt64 0), .long (Int32.toInt64 2)]) (rest := []) S G (m_in l X x1 0 2 s.heap.size) gX11_status_X11_in rfl rfl rfl hdS_X11_in ⟨Nat.le_of_ble_eq_true rfl, Nat.le_of_ble_eq_true rfl⟩ [] rfl (by decide) rfl hl.1 (Nat.le_of_ble_eq_true rfl) dX11_status_6 ⟨Nat.le_of_ble_eq_true rfl, Nat.le_of_ble_eq_true rfl⟩) (fun r_1 u_1 H locs hp_1 G => ?_)
  have G : wd X (va_A [(m0, .inr (9, ms)), (hr, .inl (X.2.1, 3, .inl (fun _ => 0)))] sz) (va_A [(m0, .inr (9, ms)), (hr, .inl (X.2.1, 3, .inl (fun _ => 0)))] sz) s [(m0, .inr (9, ms)), (hr, .inl (X.2.1, 3, .inl (fun _ => 0)))] H locs := G
  rcases hp_1 with ⟨rfl, hw_1⟩ | ⟨rfl, hw_1⟩
  · refine lv_if_eq (tgt := 21) zx zb dX11_status_9 (by decide) (fun c_2 => absurd c_2 (by decide)) (fun c_2 => ?_)
    rcases k_012 hw_1 with rfl | rfl | rfl
    · refine lv_aload_n zx zb dX11_status_12 rfl (lv_at hl 0 rfl) ?_
      refine r_get (C := RX11) (T := TX11) (N := 18) (ci := 9) (v := .ref hr) S in_X11_status_X11 G 0 rfl rfl 3 (by decide) lk_X11_status_20 hm3 dX11_status_13 ?_
      refine lv_iload_n zx zb dX11_status_16 rfl (lv_at hl 1 rfl) ?_
      refine r_iald (v := 0) S G 1 rfl (k_vp (by decide)) rfl dX11_status_17 ?_
      refine lv_goto (tgt := 26) zx zb dX11_status_18 (by decide) ?_
      exact e_int S zr zlk (vp_nar_int _) G () [] rfl (by decide) (Or.inl rfl) (by decide) dX11_status_26
    · refine lv_aload_n zx zb dX11_status_12 rfl (lv_at hl 0 rfl) ?_
      refine r_get (C := RX11) (T := TX11) (N := 18) (ci := 9) (v := .ref hr) S in_X11_status_X11 G 0 rfl rfl 3 (by decide) lk_X11_status_20 hm3 dX11_status_13 ?_
      refine lv_iload_n zx zb dX11_status_16 rfl (lv_at hl 1 rfl) ?_
      refine r_iald (v := 0) S G 1 rfl (k_vp (by decide)) rfl dX11_status_17 ?_
      refine lv_goto (tgt := 26) zx zb dX11_status_18 (by decide) ?_
      exact e_int S zr zlk (vp_nar_int _) G () [] rfl (by decide) (Or.inl rfl) (by decide) dX11_status_26
    · refine lv_aload_n zx zb dX11_status_12 rfl (lv_at hl 0 rfl) ?_
      refine r_get (C := RX11) (T := TX11) (N := 18) (ci := 9) (v := .ref hr) S in_X11_status_X11 G 0 rfl rfl 3 (by decide) lk_X11_status_20 hm3 dX11_status_13 ?_
      refine lv_iload_n zx zb dX11_status_16 rfl (lv_at hl 1 rfl) ?_
      refine r_iald (v := 0) S G 1 rfl (k_vp (by decide)) rfl dX11_status_17 ?_
      refine lv_goto (tgt := 26) zx zb dX11_status_18 (by decide) ?_
      exact e_int S zr zlk (vp_nar_int _) G () [] rfl (by decide) (Or.inl rfl) (by decide) dX11_status_26
  · refine lv_if_eq (tgt := 21) zx zb dX11_status_9 (by decide) (fun c_3 => ?_) (fun c_3 => absurd (by decide) c_3)
    refine lv_aload_n zx zb dX11_status_21 rfl (lv_at hl 0 rfl) ?_
    refine lv_iconst (v := (-1)) zx zb dX11_status_22 (by decide) ?_
    refine o_wi (cells' := 0) (slots' := 0) (wr := []) G rfl rfl [0, 1] [] rfl rfl (by decide) (by decide) (n_V (As := [.int (-1)]) (rest := []) (C := RX11) (T := TX11) (N := 18) (ci := 9) S G (m_bad l X m0 ms hr (fun _ => 0) (-1) hm3 H.size) gX11_status_X11_bad rfl rfl rfl hdV_X11_bad ⟨Nat.le_of_ble_eq_true rfl, Nat.le_of_ble_eq_true rfl⟩ [0, 1] rfl (by decide) 0 rfl rfl rfl hl.1 (Nat.le_of_ble_eq_true rfl) dX11_status_23 ⟨Nat.le_of_ble_eq_true rfl, Nat.le_of_ble_eq_true rfl⟩) (fun r_4 u_4 H locs hp_4 G => ?_)
    have G : wd X (va_A [(m0, .inr (9, ms)), (hr, .inl (X.2.1, 3, .inl (fun _ => 0)))] sz) (va_A [(m0, .inr (9, ms)), (hr, .inl (X.2.1, 3, .inl (fun _ => 0)))] sz) s [] H locs := G
    subst hp_4
    exact e_int S zr zlk (vp_nar_int _) G () [] rfl (by decide) (Or.inl rfl) (by first | exact (if_pos hw_1).symm | exact (if_neg (fun h => hw_1 h)).symm) dX11_status_26
set_option maxHeartbeats 4000000 in
set_option maxRecDepth 100000 in
/-- sumOf, with no runner -/
theorem m_sumOf (l : Launch) (X : EX) (m0 : Nat) (ms : List Value) (ha : Nat) (f : Nat → Int32) (x : Int32) (hm0 : ms[0]? = some (.ref ha)) (hf0 : f 0 = 0) (sz : Nat) : Met l yX11_sumOf wsX11_sumOf ({ frames := 1, cells := 0, slots := 0, locals := 20 } : Room) (pE X [.ref m0, .int x] [(m0, .inr (9, ms)), (ha, .inl (X.2.1, 371, .inl f))] sz) (qI (fun (r : Int32) (u : Unit) => r = 0) X (fun (u : Unit) => []) [] sz) 0 0 (va_A [] sz) := by
  refine mk_met (B := (fun _ => True)) (A := (va_A [] sz)) (cc := cX11_sumOf) (maxL := 4) (ret := (some .int)) (by decide) rfl (Nat.le_of_ble_eq_true rfl) k_ro k_a (fun p e s m below meth c S zr zlk znm zsz G ls hl => ?_)
  have S : CallFix p m c cX11_sumOf 4 s _ wsX11_sumOf RX11 := S
  have zx := S.1
  have zb := S.2.1
  have hl : lv_has ls 4 [(0, .ref m0), (1, .int x)] := hl
  refine lv_iconst (v := 0) zx zb dX11_sumOf_0 (by decide) ?_
  refine lv_istore_n (lv' := [(2, .int 0), (0, .ref m0), (1, .int x)]) zx zb dX11_sumOf_1 rfl hl (by decide) rfl (fun ls hl => ?_)
  refine lv_iconst (v := 0) zx zb dX11_sumOf_2 (by decide) ?_
  refine lv_istore_n (lv' := [(3, .int 0), (2, .int 0), (0, .ref m0), (1, .int x)]) zx zb dX11_sumOf_3 rfl hl (by decide) rfl (fun ls hl => ?_)
  refine lv_iload_n zx zb dX11_sumOf_4 rfl (lv_at hl 0 rfl) ?_
  refine lv_aload_n zx zb dX11_sumOf_5 rfl (lv_at hl 2 rfl) ?_
  refine o_ri (cells' := 0) (slots' := 0) G rfl rfl (n_V (As := []) (rest := [.int 0]) (C := RX11) (T := TX11) (N := 18) (ci := 9) S G (m_many l X m0 ms ha f 0 hm0 hf0 s.heap.size) gX11_sumOf_X11_many rfl rfl rfl hdV_X11_many ⟨Nat.le_of_ble_eq_true rfl, Nat.le_of_ble_eq_true rfl⟩ [0, 1] rfl (by decide) 0 rfl rfl rfl hl.1 (Nat.le_of_ble_eq_true rfl) dX11_sumOf_6 ⟨Nat.le_of_ble_eq_true rfl, Nat.le_of_ble_eq_true rfl⟩) (fun r_1 u_1 H locs hp_1 G => ?_)
  have G : wd X (fun _ => True) (va_A [] sz) s [(m0, .inr (9, ms)), (ha, .inl (X.2.1, 371, .inl f))] H locs := G
  subst hp_1
  refine lv_icmp_ge (tgt := 29) zx zb dX11_sumOf_9 (by decide) (fun c_2 => ?_) (fun c_2 => absurd (by decide) c_2)
  refine lv_iload_n zx zb dX11_sumOf_29 rfl (lv_at hl 1 rfl) ?_
  exact e_int S zr zlk (vp_nar_int _) G () [] rfl (by decide) (Or.inl rfl) (rfl) dX11_sumOf_30
theorem in_X11_counted_X11 : ∀ w ∈ wsX110, w ∈ wsX11_counted := by decide +kernel
theorem lk_X11_counted_7 : Cond.fieldLink RX11 7 "EggSpoonsModel" "all" "[I" ∈ wsX11_counted := by decide +kernel
theorem hdV_X11_sumOf : yX11_sumOf.cls = RX11 ∧ yX11_sumOf.cls ≠ "java/lang/invoke/MethodHandle" ∧ yX11_sumOf.cls ≠ "java/lang/invoke/VarHandle" ∧ (parseMethodDescriptor yX11_sumOf.desc).map (fun d => d.parameters.length) = some 1 := by decide +kernel
theorem lk_X11_counted_205 : Cond.fieldLink RX11 205 "EggSpoonsModel" "bytesLong" "I" ∈ wsX11_counted := by decide +kernel
set_option maxHeartbeats 4000000 in
set_option maxRecDepth 100000 in
/-- counted -/
theorem m_counted (l : Launch) (X : EX) (m0 : Nat) (ms : List Value) (ha : Nat) (f : Nat → Int32) (x1 : Int32) (hm0 : ms[0]? = some (.ref ha)) (hm11 : ms[11]? = some (.int 0)) (hz : ∀ j : Nat, j ≠ 36 → f j = 0) (h36 : f 36 = 20) (hin : (0 : Int32) ≤ x1 ∧ x1 ≤ 10) (sz : Nat) : Met l yX11_counted wsX11_counted ({ frames := 2, cells := 0, slots := 0, locals := 43 } : Room) (pE X [.ref m0, .int x1] [(m0, .inr (9, ms)), (ha, .inl (X.2.1, 371, .inl f))] sz) (qI (fun (r : Int32) (u : Unit) => r = if x1 = 2 then 20 else 0) X (fun (u : Unit) => []) [] sz) 0 0 (va_A [] sz) := by
  refine mk_met (B := (fun _ => True)) (A := (va_A [] sz)) (cc := cX11_counted) (maxL := 2) (ret := (some .int)) (by decide) rfl (Nat.le_of_ble_eq_true rfl) k_ro k_a (fun p e s m below meth c S zr zlk znm zsz G ls hl => ?_)
  have S : CallFix p m c cX11_counted 2 s _ wsX11_counted RX11 := S
  have zx := S.1
  have zb := S.2.1
  have hl : lv_has ls 2 [(0, .ref m0), (1, .int x1)] := hl
  refine lv_iload_n zx zb dX11_counted_0 rfl (lv_at hl 1 rfl) ?_
  rcases k_10 hin with rfl | rfl | rfl | rfl | rfl | rfl | rfl | rfl | rfl | rfl | rfl
  · refine lv_tableIn (off := 59) (tgt := 60) zx zb dX11_counted_1 (by decide) (by decide) rfl (by decide) ?_
    refine lv_aload_n zx zb dX11_counted_60 rfl (lv_at hl 0 rfl) ?_
    refine o_ri (cells' := 0) (slots' := 0) G rfl rfl (n_V (As := []) (rest := []) (C := RX11) (T := TX11) (N := 18) (ci := 9) S G (m_many l X m0 ms ha f 0 hm0 (hz 0 (by decide)) s.heap.size) gX11_counted_X11_many rfl rfl rfl hdV_X11_many ⟨Nat.le_of_ble_eq_true rfl, Nat.le_of_ble_eq_true rfl⟩ [0, 1] rfl (by decide) 0 rfl rfl rfl hl.1 (Nat.le_of_ble_eq_true rfl) dX11_counted_61 ⟨Nat.le_of_ble_eq_true rfl, Nat.le_of_ble_eq_true rfl⟩) (fun r_1 u_1 H locs hp_1 G => ?_)
    have G : wd X (fun _ => True) (va_A [] sz) s [(m0, .inr (9, ms)), (ha, .inl (X.2.1, 371, .inl f))] H locs := G
    subst hp_1
    exact e_int S zr zlk (vp_nar_int _) G () [] rfl (by decide) (Or.inl rfl) (by decide) dX11_counted_64
  · refine lv_tableIn (off := 64) (tgt := 65) zx zb dX11_counted_1 (by decide) (by decide) rfl (by decide) ?_
    refine lv_aload_n zx zb dX11_counted_65 rfl (lv_at hl 0 rfl) ?_
    refine r_get (C := RX11) (T := TX11) (N := 18) (ci := 9) (v := .ref ha) S in_X11_counted_X11 G 0 rfl rfl 0 (by decide) lk_X11_counted_7 hm0 dX11_counted_66 ?_
    refine o_ri (cells' := 0) (slots' := 0) G rfl rfl (n_S (As := [.ref ha]) (rest := []) S G (m_manyHome l X ha f (hz 0 (by decide)) s.heap.size) gX11_counted_X11_manyHome rfl rfl rfl hdS_X11_manyHome ⟨Nat.le_of_ble_eq_true rfl, Nat.le_of_ble_eq_true rfl⟩ [1] rfl (by decide) rfl hl.1 (Nat.le_of_ble_eq_true rfl) dX11_counted_69 ⟨Nat.le_of_ble_eq_true rfl, Nat.le_of_ble_eq_true rfl⟩) (fun r_2 u_2 H locs hp_2 G => ?_)
    have G : wd X (fun _ => True) (va_A [] sz) s [(m0, .inr (9, ms)), (ha, .inl (X.2.1, 371, .inl f))] H locs := G
    subst hp_2
    exact e_int S zr zlk (vp_nar_int _) G () [] rfl (by decide) (Or.inl rfl) (by decide) dX11_counted_72
  · refine lv_tableIn (off := 72) (tgt := 73) zx zb dX11_counted_1 (by decide) (by decide) rfl (by decide) ?_
    refine lv_aload_n zx zb dX11_counted_73 rfl (lv_at hl 0 rfl) ?_
    refine r_get (C := RX11) (T := TX11) (N := 18) (ci := 9) (v := .ref ha) S in_X11_counted_X11 G 0 rfl rfl 0 (by decide) lk_X11_counted_7 hm0 dX11_counted_74 ?_
    refine lv_bipush (v := 36) zx zb dX11_counted_77 (by decide) ?_
    refine r_iald (v := 20) S G 1 rfl (k_vp (by decide)) h36 dX11_counted_79 ?_
    exact e_int S zr zlk (vp_nar_int _) G () [] rfl (by decide) (Or.inl rfl) (by decide) dX11_counted_80
  · refine lv_tableIn (off := 80) (tgt := 81) zx zb dX11_counted_1 (by decide) (by decide) rfl (by decide) ?_
    refine lv_aload_n zx zb dX11_counted_81 rfl (lv_at hl 0 rfl) ?_
    refine r_get (C := RX11) (T := TX11) (N := 18) (ci := 9) (v := .ref ha) S in_X11_counted_X11 G 0 rfl rfl 0 (by decide) lk_X11_counted_7 hm0 dX11_counted_82 ?_
    refine lv_bipush (v := 35) zx zb dX11_counted_85 (by decide) ?_
    refine r_iald (v := 0) S G 1 rfl (k_vp (by decide)) (hz 35 (by decide)) dX11_counted_87 ?_
    exact e_int S zr zlk (vp_nar_int _) G () [] rfl (by decide) (Or.inl rfl) (by decide) dX11_counted_88
  · refine lv_tableIn (off := 88) (tgt := 89) zx zb dX11_counted_1 (by decide) (by decide) rfl (by decide) ?_
    refine lv_aload_n zx zb dX11_counted_89 rfl (lv_at hl 0 rfl) ?_
    refine lv_iconst (v := 5) zx zb dX11_counted_90 (by decide) ?_
    refine o_ri (cells' := 0) (slots' := 0) G rfl rfl (n_V (As := [.int 5]) (rest := []) (C := RX11) (T := TX11) (N := 18) (ci := 9) S G (m_sumOf l X m0 ms ha f 5 hm0 (hz 0 (by decide)) s.heap.size) gX11_counted_X11_sumOf rfl rfl rfl hdV_X11_sumOf ⟨Nat.le_of_ble_eq_true rfl, Nat.le_of_ble_eq_true rfl⟩ [0, 1] rfl (by decide) 0 rfl rfl rfl hl.1 (Nat.le_of_ble_eq_true rfl) dX11_counted_91 ⟨Nat.le_of_ble_eq_true rfl, Nat.le_of_ble_eq_true rfl⟩) (fun r_3 u_3 H locs hp_3 G => ?_)
    have G : wd X (fun _ => True) (va_A [] sz) s [(m0, .inr (9, ms)), (ha, .inl (X.2.1, 371, .inl f))] H locs := G
    subst hp_3
    exact e_int S zr zlk (vp_nar_int _) G () [] rfl (by decide) (Or.inl rfl) (by decide) dX11_counted_94
  · refine lv_tableIn (off := 94) (tgt := 95) zx zb dX11_counted_1 (by decide) (by decide) rfl (by decide) ?_
    refine lv_aload_n zx zb dX11_counted_95 rfl (lv_at hl 0 rfl) ?_
    refine lv_bipush (v := 17) zx zb dX11_counted_96 (by decide) ?_
    refine o_ri (cells' := 0) (slots' := 0) G rfl rfl (n_V (As := [.int 17]) (rest := []) (C := RX11) (T := TX11) (N := 18) (ci := 9) S G (m_sumOf l X m0 ms ha f 17 hm0 (hz 0 (by decide)) s.heap.size) gX11_counted_X11_sumOf rfl rfl rfl hdV_X11_sumOf ⟨Nat.le_of_ble_eq_true rfl, Nat.le_of_ble_eq_true rfl⟩ [0, 1] rfl (by decide) 0 rfl rfl rfl hl.1 (Nat.le_of_ble_eq_true rfl) dX11_counted_98 ⟨Nat.le_of_ble_eq_true rfl, Nat.le_of_ble_eq_true rfl⟩) (fun r_4 u_4 H locs hp_4 G => ?_)
    have G : wd X (fun _ => True) (va_A [] sz) s [(m0, .inr (9, ms)), (ha, .inl (X.2.1, 371, .inl f))] H locs := G
    subst hp_4
    exact e_int S zr zlk (vp_nar_int _) G () [] rfl (by decide) (Or.inl rfl) (by decide) dX11_counted_101
  · refine lv_tableIn (off := 106) (tgt := 107) zx zb dX11_counted_1 (by decide) (by decide) rfl (by decide) ?_
    refine lv_aload_n zx zb dX11_counted_107 rfl (lv_at hl 0 rfl) ?_
    refine r_get (C := RX11) (T := TX11) (N := 18) (ci := 9) (v := .ref ha) S in_X11_counted_X11 G 0 rfl rfl 0 (by decide) lk_X11_counted_7 hm0 dX11_counted_108 ?_
    refine lv_iconst (v := 1) zx zb dX11_counted_111 (by decide) ?_
    refine lv_iload_n zx zb dX11_counted_112 rfl (lv_at hl 1 rfl) ?_
    refine r_iadd (v := 7) S (by decide) dX11_counted_113 ?_
    refine lv_bipush (v := 6) zx zb dX11_counted_114 (by decide) ?_
    refine r_isub (v := 1) S (by decide) dX11_counted_116 ?_
    refine r_iald (v := 0) S G 1 rfl (k_vp (by decide)) (hz 1 (by decide)) dX11_counted_117 ?_
    exact e_int S zr zlk (vp_nar_int _) G () [] rfl (by decide) (Or.inl rfl) (by decide) dX11_counted_118
  · refine lv_tableIn (off := 106) (tgt := 107) zx zb dX11_counted_1 (by decide) (by decide) rfl (by decide) ?_
    refine lv_aload_n zx zb dX11_counted_107 rfl (lv_at hl 0 rfl) ?_
    refine r_get (C := RX11) (T := TX11) (N := 18) (ci := 9) (v := .ref ha) S in_X11_counted_X11 G 0 rfl rfl 0 (by decide) lk_X11_counted_7 hm0 dX11_counted_108 ?_
    refine lv_iconst (v := 1) zx zb dX11_counted_111 (by decide) ?_
    refine lv_iload_n zx zb dX11_counted_112 rfl (lv_at hl 1 rfl) ?_
    refine r_iadd (v := 8) S (by decide) dX11_counted_113 ?_
    refine lv_bipush (v := 6) zx zb dX11_counted_114 (by decide) ?_
    refine r_isub (v := 2) S (by decide) dX11_counted_116 ?_
    refine r_iald (v := 0) S G 1 rfl (k_vp (by decide)) (hz 2 (by decide)) dX11_counted_117 ?_
    exact e_int S zr zlk (vp_nar_int _) G () [] rfl (by decide) (Or.inl rfl) (by decide) dX11_counted_118
  · refine lv_tableIn (off := 106) (tgt := 107) zx zb dX11_counted_1 (by decide) (by decide) rfl (by decide) ?_
    refine lv_aload_n zx zb dX11_counted_107 rfl (lv_at hl 0 rfl) ?_
    refine r_get (C := RX11) (T := TX11) (N := 18) (ci := 9) (v := .ref ha) S in_X11_counted_X11 G 0 rfl rfl 0 (by decide) lk_X11_counted_7 hm0 dX11_counted_108 ?_
    refine lv_iconst (v := 1) zx zb dX11_counted_111 (by decide) ?_
    refine lv_iload_n zx zb dX11_counted_112 rfl (lv_at hl 1 rfl) ?_
    refine r_iadd (v := 9) S (by decide) dX11_counted_113 ?_
    refine lv_bipush (v := 6) zx zb dX11_counted_114 (by decide) ?_
    refine r_isub (v := 3) S (by decide) dX11_counted_116 ?_
    refine r_iald (v := 0) S G 1 rfl (k_vp (by decide)) (hz 3 (by decide)) dX11_counted_117 ?_
    exact e_int S zr zlk (vp_nar_int _) G () [] rfl (by decide) (Or.inl rfl) (by decide) dX11_counted_118
  · refine lv_tableIn (off := 106) (tgt := 107) zx zb dX11_counted_1 (by decide) (by decide) rfl (by decide) ?_
    refine lv_aload_n zx zb dX11_counted_107 rfl (lv_at hl 0 rfl) ?_
    refine r_get (C := RX11) (T := TX11) (N := 18) (ci := 9) (v := .ref ha) S in_X11_counted_X11 G 0 rfl rfl 0 (by decide) lk_X11_counted_7 hm0 dX11_counted_108 ?_
    refine lv_iconst (v := 1) zx zb dX11_counted_111 (by decide) ?_
    refine lv_iload_n zx zb dX11_counted_112 rfl (lv_at hl 1 rfl) ?_
    refine r_iadd (v := 10) S (by decide) dX11_counted_113 ?_
    refine lv_bipush (v := 6) zx zb dX11_counted_114 (by decide) ?_
    refine r_isub (v := 4) S (by decide) dX11_counted_116 ?_
    refine r_iald (v := 0) S G 1 rfl (k_vp (by decide)) (hz 4 (by decide)) dX11_counted_117 ?_
    exact e_int S zr zlk (vp_nar_int _) G () [] rfl (by decide) (Or.inl rfl) (by decide) dX11_counted_118
  · refine lv_tableIn (off := 101) (tgt := 102) zx zb dX11_counted_1 (by decide) (by decide) rfl (by decide) ?_
    refine lv_aload_n zx zb dX11_counted_102 rfl (lv_at hl 0 rfl) ?_
    refine r_get (C := RX11) (T := TX11) (N := 18) (ci := 9) (v := .int 0) S in_X11_counted_X11 G 0 rfl rfl 11 (by decide) lk_X11_counted_205 hm11 dX11_counted_103 ?_
    exact e_int S zr zlk (vp_nar_int _) G () [] rfl (by decide) (Or.inl rfl) (by decide) dX11_counted_106
theorem mm_X11_count_c64 : Cond.constantLong RX11 64 (10) ∈ wsX11_count := by decide +kernel
theorem hdV_X11_counted : yX11_counted.cls = RX11 ∧ yX11_counted.cls ≠ "java/lang/invoke/MethodHandle" ∧ yX11_counted.cls ≠ "java/lang/invoke/VarHandle" ∧ (parseMethodDescriptor yX11_counted.desc).map (fun d => d.parameters.length) = some 1 := by decide +kernel
set_option maxHeartbeats 4000000 in
set_option maxRecDepth 100000 in
/-- count -/
theorem m_count (l : Launch) (X : EX) (m0 : Nat) (ms : List Value) (ha : Nat) (f : Nat → Int32) (hr : Nat) (fr : Nat → Int32) (x1 : Int32) (hm0 : ms[0]? = some (.ref ha)) (hm3 : ms[3]? = some (.ref hr)) (hm11 : ms[11]? = some (.int 0)) (hz : ∀ j : Nat, j ≠ 36 → f j = 0) (h36 : f 36 = 20) (sz : Nat) : Met l yX11_count wsX11_count ({ frames := 3, cells := 0, slots := 0, locals := 64 } : Room) (pE X [.ref m0, .int x1] [(m0, .inr (9, ms)), (ha, .inl (X.2.1, 371, .inl f)), (hr, .inl (X.2.1, 3, .inl fr))] sz) (qI (fun (r : Int32) (u : Unit) => r = if (0 : Int32) ≤ x1 ∧ x1 ≤ 10 then (if x1 = 2 then 20 else 0) else -2) X (fun (u : Unit) => []) [(m0, .inr (9, ms)), (ha, .inl (X.2.1, 371, .inl f)), (hr, .inl (X.2.1, 3, .inl fr))] sz) 0 0 (va_A [(m0, .inr (9, ms)), (ha, .inl (X.2.1, 371, .inl f)), (hr, .inl (X.2.1, 3, .inl fr))] sz) := by
  refine mk_met (B := (va_A [(m0, .inr (9, ms)), (ha, .inl (X.2.1, 371, .inl f)), (hr, .inl (X.2.1, 3, .inl fr))] sz)) (A := (va_A [(m0, .inr (9, ms)), (ha, .inl (X.2.1, 371, .inl f)), (hr, .inl (X.2.1, 3, .inl fr))] sz)) (cc := cX11_count) (maxL := 2) (ret := (some .int)) (by decide) rfl (Nat.le_of_ble_eq_true rfl) k_w k_a (fun p e s m below meth c S zr zlk znm zsz G ls hl => ?_)
  have S : CallFix p m c cX11_count 2 s _ wsX11_count RX11 := S
  have zx := S.1
  have zb := S.2.1
  have hl : lv_has ls 2 [(0, .ref m0), (1, .int x1)] := hl
  refine lv_iload_n zx zb dX11_count_0 rfl (lv_at hl 1 rfl) ?_
  refine lv_i2l (v := (Int32.toInt64 x1)) zx zb dX11_count_1 rfl ?_
  refine lv_lconst (v := (Int32.toInt64 0)) zx zb dX11_count_2 (by decide) ?_
  refine lv_ldc2 zx zb S.2.2.2.1 (S.2.2.2.2 _ mm_X11_count_c64) dX11_count_3 ?_
  refine k_ld (v := (Int32.toInt64 10)) (by decide) ?_
  refine o_ri (cells' := 0) (slots' := 0) G rfl rfl (n_S (As := [.long (Int32.toInt64 x1), .long (Int32.toInt64 0), .long (Int32.toInt64 10)]) (rest := []) S G (m_in l X x1 0 10 s.heap.size) gX11_count_X11_in rfl rfl rfl hdS_X11_in ⟨Nat.le_of_ble_eq_true rfl, Nat.le_of_ble_eq_true rfl⟩ [] rfl (by decide) rfl hl.1 (Nat.le_of_ble_eq_true rfl) dX11_count_6 ⟨Nat.le_of_ble_eq_true rfl, Nat.le_of_ble_eq_true rfl⟩) (fun r_1 u_1 H locs hp_1 G => ?_)
  have G : wd X (va_A [(m0, .inr (9, ms)), (ha, .inl (X.2.1, 371, .inl f)), (hr, .inl (X.2.1, 3, .inl fr))] sz) (va_A [(m0, .inr (9, ms)), (ha, .inl (X.2.1, 371, .inl f)), (hr, .inl (X.2.1, 3, .inl fr))] sz) s [(m0, .inr (9, ms)), (ha, .inl (X.2.1, 371, .inl f)), (hr, .inl (X.2.1, 3, .inl fr))] H locs := G
  rcases hp_1 with ⟨rfl, hw_1⟩ | ⟨rfl, hw_1⟩
  · refine lv_if_eq (tgt := 20) zx zb dX11_count_9 (by decide) (fun c_2 => absurd c_2 (by decide)) (fun c_2 => ?_)
    refine lv_aload_n zx zb dX11_count_12 rfl (lv_at hl 0 rfl) ?_
    refine lv_iload_n zx zb dX11_count_13 rfl (lv_at hl 1 rfl) ?_
    refine o_ri (cells' := 0) (slots' := 0) G rfl rfl (n_V (As := [.int x1]) (rest := []) (C := RX11) (T := TX11) (N := 18) (ci := 9) S G (m_counted l X m0 ms ha f x1 hm0 hm11 hz h36 (by first | assumption | decide | rfl) H.size) gX11_count_X11_counted rfl rfl rfl hdV_X11_counted ⟨Nat.le_of_ble_eq_true rfl, Nat.le_of_ble_eq_true rfl⟩ [0, 1] rfl (by decide) 0 rfl rfl rfl hl.1 (Nat.le_of_ble_eq_true rfl) dX11_count_14 ⟨Nat.le_of_ble_eq_true rfl, Nat.le_of_ble_eq_true rfl⟩) (fun r_3 u_3 H locs hp_3 G => ?_)
    have G : wd X (va_A [(m0, .inr (9, ms)), (ha, .inl (X.2.1, 371, .inl f)), (hr, .inl (X.2.1, 3, .inl fr))] sz) (va_A [(m0, .inr (9, ms)), (ha, .inl (X.2.1, 371, .inl f)), (hr, .inl (X.2.1, 3, .inl fr))] sz) s [(m0, .inr (9, ms)), (ha, .inl (X.2.1, 371, .inl f)), (hr, .inl (X.2.1, 3, .inl fr))] H locs := G
    refine lv_goto (tgt := 26) zx zb dX11_count_17 (by decide) ?_
    exact e_int S zr zlk (vp_nar_int _) G () [] rfl (by decide) (Or.inl rfl) (by rw [if_pos hw_1]; exact hp_3) dX11_count_26
  · refine lv_if_eq (tgt := 20) zx zb dX11_count_9 (by decide) (fun c_4 => ?_) (fun c_4 => absurd (by decide) c_4)
    refine lv_aload_n zx zb dX11_count_20 rfl (lv_at hl 0 rfl) ?_
    refine lv_bipush (v := (-2)) zx zb dX11_count_21 (by decide) ?_
    refine o_wi (cells' := 0) (slots' := 0) (wr := [(ha, .inl (X.2.1, 371, .inl f))]) G rfl rfl [0, 2] [1] rfl rfl (by decide) (by decide) (n_V (As := [.int (-2)]) (rest := []) (C := RX11) (T := TX11) (N := 18) (ci := 9) S G (m_bad l X m0 ms hr fr (-2) hm3 H.size) gX11_count_X11_bad rfl rfl rfl hdV_X11_bad ⟨Nat.le_of_ble_eq_true rfl, Nat.le_of_ble_eq_true rfl⟩ [0, 2] rfl (by decide) 0 rfl rfl rfl hl.1 (Nat.le_of_ble_eq_true rfl) dX11_count_23 ⟨Nat.le_of_ble_eq_true rfl, Nat.le_of_ble_eq_true rfl⟩) (fun r_5 u_5 H locs hp_5 G => ?_)
    have G : wd X (va_A [(m0, .inr (9, ms)), (ha, .inl (X.2.1, 371, .inl f)), (hr, .inl (X.2.1, 3, .inl fr))] sz) (va_A [(m0, .inr (9, ms)), (ha, .inl (X.2.1, 371, .inl f)), (hr, .inl (X.2.1, 3, .inl fr))] sz) s [(ha, .inl (X.2.1, 371, .inl f))] H locs := G
    subst hp_5
    exact e_int S zr zlk (vp_nar_int _) G () [] rfl (by decide) (Or.inl rfl) ((if_neg hw_1).symm) dX11_count_26
set_option maxHeartbeats 4000000 in
set_option maxRecDepth 100000 in
/-- sums of nothing -/
theorem m_sums (l : Launch) (X : EX) (m0 : Nat) (ms : List Value) (x : Int64) (y : Int32) (sz : Nat) : Met l yX11_sums wsX11_sums ({ frames := 0, cells := 0, slots := 0, locals := 0 } : Room) (pE X [.ref m0, .long x, .int y, .int 0] [(m0, .inr (9, ms))] sz) (qL (fun (r : Int64) (u : Unit) => r = x) X (fun (u : Unit) => []) [] sz) 0 0 (va_A [] sz) := by
  refine mk_met (B := (fun _ => True)) (A := (va_A [] sz)) (cc := cX11_sums) (maxL := 8) (ret := (some .long)) (by decide) rfl (Nat.le_of_ble_eq_true rfl) k_ro k_a (fun p e s m below meth c S zr zlk znm zsz G ls hl => ?_)
  have S : CallFix p m c cX11_sums 8 s _ wsX11_sums RX11 := S
  have zx := S.1
  have zb := S.2.1
  have hl : lv_has ls 8 [(0, .ref m0), (1, .long x), (3, .int y), (4, .int 0)] := hl
  refine lv_lload_n zx zb dX11_sums_0 rfl (lv_at hl 1 rfl) ?_
  refine lv_lstore (lv' := [(5, .long x), (0, .ref m0), (1, .long x), (3, .int y), (4, .int 0)]) zx zb dX11_sums_1 hl (by decide) rfl (fun ls hl => ?_)
  refine lv_iconst (v := 0) zx zb dX11_sums_3 (by decide) ?_
  refine lv_istore (lv' := [(7, .int 0), (5, .long x), (0, .ref m0), (1, .long x), (3, .int y), (4, .int 0)]) zx zb dX11_sums_4 hl (by decide) rfl (fun ls hl => ?_)
  refine lv_iload zx zb dX11_sums_6 (lv_at hl 0 rfl) ?_
  refine lv_iload zx zb dX11_sums_8 (lv_at hl 5 rfl) ?_
  refine lv_icmp_ge (tgt := 38) zx zb dX11_sums_10 (by decide) (fun c_1 => ?_) (fun c_1 => absurd (by decide) c_1)
  refine lv_lload zx zb dX11_sums_38 (lv_at hl 1 rfl) ?_
  exact e_long S zr zlk G () [] rfl (by decide) (Or.inl rfl) (rfl) dX11_sums_40
theorem mm_X11_digest_c273 : Cond.constantLong RX11 273 (1789) ∈ wsX11_digest := by decide +kernel
theorem mm_X11_digest_c271 : Cond.constantLong RX11 271 (31) ∈ wsX11_digest := by decide +kernel
theorem in_X11_digest_X11 : ∀ w ∈ wsX110, w ∈ wsX11_digest := by decide +kernel
theorem lk_X11_digest_7 : Cond.fieldLink RX11 7 "EggSpoonsModel" "all" "[I" ∈ wsX11_digest := by decide +kernel
theorem hdV_X11_sums : yX11_sums.cls = RX11 ∧ yX11_sums.cls ≠ "java/lang/invoke/MethodHandle" ∧ yX11_sums.cls ≠ "java/lang/invoke/VarHandle" ∧ (parseMethodDescriptor yX11_sums.desc).map (fun d => d.parameters.length) = some 3 := by decide +kernel
theorem lk_X11_digest_182 : Cond.fieldLink RX11 182 "EggSpoonsModel" "above" "J" ∈ wsX11_digest := by decide +kernel
theorem lk_X11_digest_23 : Cond.fieldLink RX11 23 "EggSpoonsModel" "below" "J" ∈ wsX11_digest := by decide +kernel
set_option maxHeartbeats 4000000 in
set_option maxRecDepth 100000 in
/-- digest of a fresh object -/
theorem m_digest (l : Launch) (X : EX) (m0 : Nat) (ms : List Value) (ha : Nat) (f : Nat → Int32) (hm0 : ms[0]? = some (.ref ha)) (hm11 : ms[11]? = some (.int 0)) (hm4 : ms[4]? = some (.long 0)) (hm5 : ms[5]? = some (.long (Int32.toInt64 1))) (hz : ∀ j : Nat, j ≠ 36 → f j = 0) (h36 : f 36 = 20) (sz : Nat) : Met l yX11_digest wsX11_digest ({ frames := 3, cells := 0, slots := 0, locals := 64 } : Room) (pE X [.ref m0] [(m0, .inr (9, ms)), (ha, .inl (X.2.1, 371, .inl f))] sz) (qL (fun (r : Int64) (u : Unit) => r = 1116752150702584632) X (fun (u : Unit) => []) [] sz) 0 0 (va_A [] sz) := by
  refine mk_met (B := (fun _ => True)) (A := (va_A [] sz)) (cc := cX11_digest) (maxL := 5) (ret := (some .long)) (by decide) rfl (Nat.le_of_ble_eq_true rfl) k_ro k_a (fun p e s m below meth c S zr zlk znm zsz G ls hl => ?_)
  have S : CallFix p m c cX11_digest 5 s _ wsX11_digest RX11 := S
  have zx := S.1
  have zb := S.2.1
  have hl : lv_has ls 5 [(0, .ref m0)] := hl
  refine lv_ldc2 zx zb S.2.2.2.1 (S.2.2.2.2 _ mm_X11_digest_c273) dX11_digest_0 ?_
  refine k_ld (v := (Int32.toInt64 1789)) (by decide) ?_
  refine lv_lstore_n (lv' := [(1, .long (Int32.toInt64 1789)), (0, .ref m0)]) zx zb dX11_digest_3 rfl hl (by decide) rfl (fun ls hl => ?_)
  refine lv_iconst (v := 0) zx zb dX11_digest_4 (by decide) ?_
  refine lv_istore_n (lv' := [(3, .int 0), (1, .long (Int32.toInt64 1789)), (0, .ref m0)]) zx zb dX11_digest_5 rfl hl (by decide) rfl (fun ls hl => ?_)
  refine lv_iload_n zx zb dX11_digest_6 rfl (lv_at hl 0 rfl) ?_
  refine lv_bipush (v := 11) zx zb dX11_digest_7 (by decide) ?_
  refine lv_icmp_ge (tgt := 31) zx zb dX11_digest_9 (by decide) (fun c_1 => absurd c_1 (by decide)) (fun c_1 => ?_)
  refine lv_ldc2 zx zb S.2.2.2.1 (S.2.2.2.2 _ mm_X11_digest_c271) dX11_digest_12 ?_
  refine k_ld (v := (Int32.toInt64 31)) (by decide) ?_
  refine lv_lload_n zx zb dX11_digest_15 rfl (lv_at hl 1 rfl) ?_
  refine r_lmul (v := 55459) S (by decide) dX11_digest_16 ?_
  refine lv_aload_n zx zb dX11_digest_17 rfl (lv_at hl 2 rfl) ?_
  refine lv_iload_n zx zb dX11_digest_18 rfl (lv_at hl 0 rfl) ?_
  refine o_ri (cells' := 0) (slots' := 0) G rfl rfl (n_V (As := [.int 0]) (rest := [.long 55459]) (C := RX11) (T := TX11) (N := 18) (ci := 9) S G (m_counted l X m0 ms ha f 0 hm0 hm11 hz h36 (by first | assumption | decide | rfl) s.heap.size) gX11_digest_X11_counted rfl rfl rfl hdV_X11_counted ⟨Nat.le_of_ble_eq_true rfl, Nat.le_of_ble_eq_true rfl⟩ [0, 1] rfl (by decide) 0 rfl rfl rfl hl.1 (Nat.le_of_ble_eq_true rfl) dX11_digest_19 ⟨Nat.le_of_ble_eq_true rfl, Nat.le_of_ble_eq_true rfl⟩) (fun r_2 u_2 H locs hp_2 G => ?_)
  have G : wd X (fun _ => True) (va_A [] sz) s [(m0, .inr (9, ms)), (ha, .inl (X.2.1, 371, .inl f))] H locs := G
  replace hp_2 : r_2 = 0 := hp_2.trans (by decide)
  subst hp_2
  refine lv_i2l (v := (Int32.toInt64 0)) zx zb dX11_digest_22 rfl ?_
  refine r_ladd (v := 55459) S (by decide) dX11_digest_23 ?_
  refine lv_lstore_n (lv' := [(1, .long 55459), (3, .int 0), (0, .ref m0)]) zx zb dX11_digest_24 rfl hl (by decide) rfl (fun ls hl => ?_)
  refine lv_iinc (v := 1) (lv' := [(3, .int 1), (1, .long 55459), (0, .ref m0)]) zx zb dX11_digest_25 hl (k := 1) rfl (by decide) (by decide) rfl (fun ls hl => ?_)
  refine lv_goto (tgt := 6) zx zb dX11_digest_28 (by decide) ?_
  refine lv_iload_n zx zb dX11_digest_6 rfl (lv_at hl 0 rfl) ?_
  refine lv_bipush (v := 11) zx zb dX11_digest_7 (by decide) ?_
  refine lv_icmp_ge (tgt := 31) zx zb dX11_digest_9 (by decide) (fun c_3 => absurd c_3 (by decide)) (fun c_3 => ?_)
  refine lv_ldc2 zx zb S.2.2.2.1 (S.2.2.2.2 _ mm_X11_digest_c271) dX11_digest_12 ?_
  refine k_ld (v := (Int32.toInt64 31)) (by decide) ?_
  refine lv_lload_n zx zb dX11_digest_15 rfl (lv_at hl 1 rfl) ?_
  refine r_lmul (v := 1719229) S (by decide) dX11_digest_16 ?_
  refine lv_aload_n zx zb dX11_digest_17 rfl (lv_at hl 2 rfl) ?_
  refine lv_iload_n zx zb dX11_digest_18 rfl (lv_at hl 0 rfl) ?_
  refine o_ri (cells' := 0) (slots' := 0) G rfl rfl (n_V (As := [.int 1]) (rest := [.long 1719229]) (C := RX11) (T := TX11) (N := 18) (ci := 9) S G (m_counted l X m0 ms ha f 1 hm0 hm11 hz h36 (by first | assumption | decide | rfl) H.size) gX11_digest_X11_counted rfl rfl rfl hdV_X11_counted ⟨Nat.le_of_ble_eq_true rfl, Nat.le_of_ble_eq_true rfl⟩ [0, 1] rfl (by decide) 0 rfl rfl rfl hl.1 (Nat.le_of_ble_eq_true rfl) dX11_digest_19 ⟨Nat.le_of_ble_eq_true rfl, Nat.le_of_ble_eq_true rfl⟩) (fun r_4 u_4 H locs hp_4 G => ?_)
  have G : wd X (fun _ => True) (va_A [] sz) s [(m0, .inr (9, ms)), (ha, .inl (X.2.1, 371, .inl f))] H locs := G
  replace hp_4 : r_4 = 0 := hp_4.trans (by decide)
  subst hp_4
  refine lv_i2l (v := (Int32.toInt64 0)) zx zb dX11_digest_22 rfl ?_
  refine r_ladd (v := 1719229) S (by decide) dX11_digest_23 ?_
  refine lv_lstore_n (lv' := [(1, .long 1719229), (3, .int 1), (0, .ref m0)]) zx zb dX11_digest_24 rfl hl (by decide) rfl (fun ls hl => ?_)
  refine lv_iinc (v := 2) (lv' := [(3, .int 2), (1, .long 1719229), (0, .ref m0)]) zx zb dX11_digest_25 hl (k := 1) rfl (by decide) (by decide) rfl (fun ls hl => ?_)
  refine lv_goto (tgt := 6) zx zb dX11_digest_28 (by decide) ?_
  refine lv_iload_n zx zb dX11_digest_6 rfl (lv_at hl 0 rfl) ?_
  refine lv_bipush (v := 11) zx zb dX11_digest_7 (by decide) ?_
  refine lv_icmp_ge (tgt := 31) zx zb dX11_digest_9 (by decide) (fun c_5 => absurd c_5 (by decide)) (fun c_5 => ?_)
  refine lv_ldc2 zx zb S.2.2.2.1 (S.2.2.2.2 _ mm_X11_digest_c271) dX11_digest_12 ?_
  refine k_ld (v := (Int32.toInt64 31)) (by decide) ?_
  refine lv_lload_n zx zb dX11_digest_15 rfl (lv_at hl 1 rfl) ?_
  refine r_lmul (v := 53296099) S (by decide) dX11_digest_16 ?_
  refine lv_aload_n zx zb dX11_digest_17 rfl (lv_at hl 2 rfl) ?_
  refine lv_iload_n zx zb dX11_digest_18 rfl (lv_at hl 0 rfl) ?_
  refine o_ri (cells' := 0) (slots' := 0) G rfl rfl (n_V (As := [.int 2]) (rest := [.long 53296099]) (C := RX11) (T := TX11) (N := 18) (ci := 9) S G (m_counted l X m0 ms ha f 2 hm0 hm11 hz h36 (by first | assumption | decide | rfl) H.size) gX11_digest_X11_counted rfl rfl rfl hdV_X11_counted ⟨Nat.le_of_ble_eq_true rfl, Nat.le_of_ble_eq_true rfl⟩ [0, 1] rfl (by decide) 0 rfl rfl rfl hl.1 (Nat.le_of_ble_eq_true rfl) dX11_digest_19 ⟨Nat.le_of_ble_eq_true rfl, Nat.le_of_ble_eq_true rfl⟩) (fun r_6 u_6 H locs hp_6 G => ?_)
  have G : wd X (fun _ => True) (va_A [] sz) s [(m0, .inr (9, ms)), (ha, .inl (X.2.1, 371, .inl f))] H locs := G
  replace hp_6 : r_6 = 20 := hp_6.trans (by decide)
  subst hp_6
  refine lv_i2l (v := (Int32.toInt64 20)) zx zb dX11_digest_22 rfl ?_
  refine r_ladd (v := 53296119) S (by decide) dX11_digest_23 ?_
  refine lv_lstore_n (lv' := [(1, .long 53296119), (3, .int 2), (0, .ref m0)]) zx zb dX11_digest_24 rfl hl (by decide) rfl (fun ls hl => ?_)
  refine lv_iinc (v := 3) (lv' := [(3, .int 3), (1, .long 53296119), (0, .ref m0)]) zx zb dX11_digest_25 hl (k := 1) rfl (by decide) (by decide) rfl (fun ls hl => ?_)
  refine lv_goto (tgt := 6) zx zb dX11_digest_28 (by decide) ?_
  refine lv_iload_n zx zb dX11_digest_6 rfl (lv_at hl 0 rfl) ?_
  refine lv_bipush (v := 11) zx zb dX11_digest_7 (by decide) ?_
  refine lv_icmp_ge (tgt := 31) zx zb dX11_digest_9 (by decide) (fun c_7 => absurd c_7 (by decide)) (fun c_7 => ?_)
  refine lv_ldc2 zx zb S.2.2.2.1 (S.2.2.2.2 _ mm_X11_digest_c271) dX11_digest_12 ?_
  refine k_ld (v := (Int32.toInt64 31)) (by decide) ?_
  refine lv_lload_n zx zb dX11_digest_15 rfl (lv_at hl 1 rfl) ?_
  refine r_lmul (v := 1652179689) S (by decide) dX11_digest_16 ?_
  refine lv_aload_n zx zb dX11_digest_17 rfl (lv_at hl 2 rfl) ?_
  refine lv_iload_n zx zb dX11_digest_18 rfl (lv_at hl 0 rfl) ?_
  refine o_ri (cells' := 0) (slots' := 0) G rfl rfl (n_V (As := [.int 3]) (rest := [.long 1652179689]) (C := RX11) (T := TX11) (N := 18) (ci := 9) S G (m_counted l X m0 ms ha f 3 hm0 hm11 hz h36 (by first | assumption | decide | rfl) H.size) gX11_digest_X11_counted rfl rfl rfl hdV_X11_counted ⟨Nat.le_of_ble_eq_true rfl, Nat.le_of_ble_eq_true rfl⟩ [0, 1] rfl (by decide) 0 rfl rfl rfl hl.1 (Nat.le_of_ble_eq_true rfl) dX11_digest_19 ⟨Nat.le_of_ble_eq_true rfl, Nat.le_of_ble_eq_true rfl⟩) (fun r_8 u_8 H locs hp_8 G => ?_)
  have G : wd X (fun _ => True) (va_A [] sz) s [(m0, .inr (9, ms)), (ha, .inl (X.2.1, 371, .inl f))] H locs := G
  replace hp_8 : r_8 = 0 := hp_8.trans (by decide)
  subst hp_8
  refine lv_i2l (v := (Int32.toInt64 0)) zx zb dX11_digest_22 rfl ?_
  refine r_ladd (v := 1652179689) S (by decide) dX11_digest_23 ?_
  refine lv_lstore_n (lv' := [(1, .long 1652179689), (3, .int 3), (0, .ref m0)]) zx zb dX11_digest_24 rfl hl (by decide) rfl (fun ls hl => ?_)
  refine lv_iinc (v := 4) (lv' := [(3, .int 4), (1, .long 1652179689), (0, .ref m0)]) zx zb dX11_digest_25 hl (k := 1) rfl (by decide) (by decide) rfl (fun ls hl => ?_)
  refine lv_goto (tgt := 6) zx zb dX11_digest_28 (by decide) ?_
  refine lv_iload_n zx zb dX11_digest_6 rfl (lv_at hl 0 rfl) ?_
  refine lv_bipush (v := 11) zx zb dX11_digest_7 (by decide) ?_
  refine lv_icmp_ge (tgt := 31) zx zb dX11_digest_9 (by decide) (fun c_9 => absurd c_9 (by decide)) (fun c_9 => ?_)
  refine lv_ldc2 zx zb S.2.2.2.1 (S.2.2.2.2 _ mm_X11_digest_c271) dX11_digest_12 ?_
  refine k_ld (v := (Int32.toInt64 31)) (by decide) ?_
  refine lv_lload_n zx zb dX11_digest_15 rfl (lv_at hl 1 rfl) ?_
  refine r_lmul (v := 51217570359) S (by decide) dX11_digest_16 ?_
  refine lv_aload_n zx zb dX11_digest_17 rfl (lv_at hl 2 rfl) ?_
  refine lv_iload_n zx zb dX11_digest_18 rfl (lv_at hl 0 rfl) ?_
  refine o_ri (cells' := 0) (slots' := 0) G rfl rfl (n_V (As := [.int 4]) (rest := [.long 51217570359]) (C := RX11) (T := TX11) (N := 18) (ci := 9) S G (m_counted l X m0 ms ha f 4 hm0 hm11 hz h36 (by first | assumption | decide | rfl) H.size) gX11_digest_X11_counted rfl rfl rfl hdV_X11_counted ⟨Nat.le_of_ble_eq_true rfl, Nat.le_of_ble_eq_true rfl⟩ [0, 1] rfl (by decide) 0 rfl rfl rfl hl.1 (Nat.le_of_ble_eq_true rfl) dX11_digest_19 ⟨Nat.le_of_ble_eq_true rfl, Nat.le_of_ble_eq_true rfl⟩) (fun r_10 u_10 H locs hp_10 G => ?_)
  have G : wd X (fun _ => True) (va_A [] sz) s [(m0, .inr (9, ms)), (ha, .inl (X.2.1, 371, .inl f))] H locs := G
  replace hp_10 : r_10 = 0 := hp_10.trans (by decide)
  subst hp_10
  refine lv_i2l (v := (Int32.toInt64 0)) zx zb dX11_digest_22 rfl ?_
  refine r_ladd (v := 51217570359) S (by decide) dX11_digest_23 ?_
  refine lv_lstore_n (lv' := [(1, .long 51217570359), (3, .int 4), (0, .ref m0)]) zx zb dX11_digest_24 rfl hl (by decide) rfl (fun ls hl => ?_)
  refine lv_iinc (v := 5) (lv' := [(3, .int 5), (1, .long 51217570359), (0, .ref m0)]) zx zb dX11_digest_25 hl (k := 1) rfl (by decide) (by decide) rfl (fun ls hl => ?_)
  refine lv_goto (tgt := 6) zx zb dX11_digest_28 (by decide) ?_
  refine lv_iload_n zx zb dX11_digest_6 rfl (lv_at hl 0 rfl) ?_
  refine lv_bipush (v := 11) zx zb dX11_digest_7 (by decide) ?_
  refine lv_icmp_ge (tgt := 31) zx zb dX11_digest_9 (by decide) (fun c_11 => absurd c_11 (by decide)) (fun c_11 => ?_)
  refine lv_ldc2 zx zb S.2.2.2.1 (S.2.2.2.2 _ mm_X11_digest_c271) dX11_digest_12 ?_
  refine k_ld (v := (Int32.toInt64 31)) (by decide) ?_
  refine lv_lload_n zx zb dX11_digest_15 rfl (lv_at hl 1 rfl) ?_
  refine r_lmul (v := 1587744681129) S (by decide) dX11_digest_16 ?_
  refine lv_aload_n zx zb dX11_digest_17 rfl (lv_at hl 2 rfl) ?_
  refine lv_iload_n zx zb dX11_digest_18 rfl (lv_at hl 0 rfl) ?_
  refine o_ri (cells' := 0) (slots' := 0) G rfl rfl (n_V (As := [.int 5]) (rest := [.long 1587744681129]) (C := RX11) (T := TX11) (N := 18) (ci := 9) S G (m_counted l X m0 ms ha f 5 hm0 hm11 hz h36 (by first | assumption | decide | rfl) H.size) gX11_digest_X11_counted rfl rfl rfl hdV_X11_counted ⟨Nat.le_of_ble_eq_true rfl, Nat.le_of_ble_eq_true rfl⟩ [0, 1] rfl (by decide) 0 rfl rfl rfl hl.1 (Nat.le_of_ble_eq_true rfl) dX11_digest_19 ⟨Nat.le_of_ble_eq_true rfl, Nat.le_of_ble_eq_true rfl⟩) (fun r_12 u_12 H locs hp_12 G => ?_)
  have G : wd X (fun _ => True) (va_A [] sz) s [(m0, .inr (9, ms)), (ha, .inl (X.2.1, 371, .inl f))] H locs := G
  replace hp_12 : r_12 = 0 := hp_12.trans (by decide)
  subst hp_12
  refine lv_i2l (v := (Int32.toInt64 0)) zx zb dX11_digest_22 rfl ?_
  refine r_ladd (v := 1587744681129) S (by decide) dX11_digest_23 ?_
  refine lv_lstore_n (lv' := [(1, .long 1587744681129), (3, .int 5), (0, .ref m0)]) zx zb dX11_digest_24 rfl hl (by decide) rfl (fun ls hl => ?_)
  refine lv_iinc (v := 6) (lv' := [(3, .int 6), (1, .long 1587744681129), (0, .ref m0)]) zx zb dX11_digest_25 hl (k := 1) rfl (by decide) (by decide) rfl (fun ls hl => ?_)
  refine lv_goto (tgt := 6) zx zb dX11_digest_28 (by decide) ?_
  refine lv_iload_n zx zb dX11_digest_6 rfl (lv_at hl 0 rfl) ?_
  refine lv_bipush (v := 11) zx zb dX11_digest_7 (by decide) ?_
  refine lv_icmp_ge (tgt := 31) zx zb dX11_digest_9 (by decide) (fun c_13 => absurd c_13 (by decide)) (fun c_13 => ?_)
  refine lv_ldc2 zx zb S.2.2.2.1 (S.2.2.2.2 _ mm_X11_digest_c271) dX11_digest_12 ?_
  refine k_ld (v := (Int32.toInt64 31)) (by decide) ?_
  refine lv_lload_n zx zb dX11_digest_15 rfl (lv_at hl 1 rfl) ?_
  refine r_lmul (v := 49220085114999) S (by decide) dX11_digest_16 ?_
  refine lv_aload_n zx zb dX11_digest_17 rfl (lv_at hl 2 rfl) ?_
  refine lv_iload_n zx zb dX11_digest_18 rfl (lv_at hl 0 rfl) ?_
  refine o_ri (cells' := 0) (slots' := 0) G rfl rfl (n_V (As := [.int 6]) (rest := [.long 49220085114999]) (C := RX11) (T := TX11) (N := 18) (ci := 9) S G (m_counted l X m0 ms ha f 6 hm0 hm11 hz h36 (by first | assumption | decide | rfl) H.size) gX11_digest_X11_counted rfl rfl rfl hdV_X11_counted ⟨Nat.le_of_ble_eq_true rfl, Nat.le_of_ble_eq_true rfl⟩ [0, 1] rfl (by decide) 0 rfl rfl rfl hl.1 (Nat.le_of_ble_eq_true rfl) dX11_digest_19 ⟨Nat.le_of_ble_eq_true rfl, Nat.le_of_ble_eq_true rfl⟩) (fun r_14 u_14 H locs hp_14 G => ?_)
  have G : wd X (fun _ => True) (va_A [] sz) s [(m0, .inr (9, ms)), (ha, .inl (X.2.1, 371, .inl f))] H locs := G
  replace hp_14 : r_14 = 0 := hp_14.trans (by decide)
  subst hp_14
  refine lv_i2l (v := (Int32.toInt64 0)) zx zb dX11_digest_22 rfl ?_
  refine r_ladd (v := 49220085114999) S (by decide) dX11_digest_23 ?_
  refine lv_lstore_n (lv' := [(1, .long 49220085114999), (3, .int 6), (0, .ref m0)]) zx zb dX11_digest_24 rfl hl (by decide) rfl (fun ls hl => ?_)
  refine lv_iinc (v := 7) (lv' := [(3, .int 7), (1, .long 49220085114999), (0, .ref m0)]) zx zb dX11_digest_25 hl (k := 1) rfl (by decide) (by decide) rfl (fun ls hl => ?_)
  refine lv_goto (tgt := 6) zx zb dX11_digest_28 (by decide) ?_
  refine lv_iload_n zx zb dX11_digest_6 rfl (lv_at hl 0 rfl) ?_
  refine lv_bipush (v := 11) zx zb dX11_digest_7 (by decide) ?_
  refine lv_icmp_ge (tgt := 31) zx zb dX11_digest_9 (by decide) (fun c_15 => absurd c_15 (by decide)) (fun c_15 => ?_)
  refine lv_ldc2 zx zb S.2.2.2.1 (S.2.2.2.2 _ mm_X11_digest_c271) dX11_digest_12 ?_
  refine k_ld (v := (Int32.toInt64 31)) (by decide) ?_
  refine lv_lload_n zx zb dX11_digest_15 rfl (lv_at hl 1 rfl) ?_
  refine r_lmul (v := 1525822638564969) S (by decide) dX11_digest_16 ?_
  refine lv_aload_n zx zb dX11_digest_17 rfl (lv_at hl 2 rfl) ?_
  refine lv_iload_n zx zb dX11_digest_18 rfl (lv_at hl 0 rfl) ?_
  refine o_ri (cells' := 0) (slots' := 0) G rfl rfl (n_V (As := [.int 7]) (rest := [.long 1525822638564969]) (C := RX11) (T := TX11) (N := 18) (ci := 9) S G (m_counted l X m0 ms ha f 7 hm0 hm11 hz h36 (by first | assumption | decide | rfl) H.size) gX11_digest_X11_counted rfl rfl rfl hdV_X11_counted ⟨Nat.le_of_ble_eq_true rfl, Nat.le_of_ble_eq_true rfl⟩ [0, 1] rfl (by decide) 0 rfl rfl rfl hl.1 (Nat.le_of_ble_eq_true rfl) dX11_digest_19 ⟨Nat.le_of_ble_eq_true rfl, Nat.le_of_ble_eq_true rfl⟩) (fun r_16 u_16 H locs hp_16 G => ?_)
  have G : wd X (fun _ => True) (va_A [] sz) s [(m0, .inr (9, ms)), (ha, .inl (X.2.1, 371, .inl f))] H locs := G
  replace hp_16 : r_16 = 0 := hp_16.trans (by decide)
  subst hp_16
  refine lv_i2l (v := (Int32.toInt64 0)) zx zb dX11_digest_22 rfl ?_
  refine r_ladd (v := 1525822638564969) S (by decide) dX11_digest_23 ?_
  refine lv_lstore_n (lv' := [(1, .long 1525822638564969), (3, .int 7), (0, .ref m0)]) zx zb dX11_digest_24 rfl hl (by decide) rfl (fun ls hl => ?_)
  refine lv_iinc (v := 8) (lv' := [(3, .int 8), (1, .long 1525822638564969), (0, .ref m0)]) zx zb dX11_digest_25 hl (k := 1) rfl (by decide) (by decide) rfl (fun ls hl => ?_)
  refine lv_goto (tgt := 6) zx zb dX11_digest_28 (by decide) ?_
  refine lv_iload_n zx zb dX11_digest_6 rfl (lv_at hl 0 rfl) ?_
  refine lv_bipush (v := 11) zx zb dX11_digest_7 (by decide) ?_
  refine lv_icmp_ge (tgt := 31) zx zb dX11_digest_9 (by decide) (fun c_17 => absurd c_17 (by decide)) (fun c_17 => ?_)
  refine lv_ldc2 zx zb S.2.2.2.1 (S.2.2.2.2 _ mm_X11_digest_c271) dX11_digest_12 ?_
  refine k_ld (v := (Int32.toInt64 31)) (by decide) ?_
  refine lv_lload_n zx zb dX11_digest_15 rfl (lv_at hl 1 rfl) ?_
  refine r_lmul (v := 47300501795514039) S (by decide) dX11_digest_16 ?_
  refine lv_aload_n zx zb dX11_digest_17 rfl (lv_at hl 2 rfl) ?_
  refine lv_iload_n zx zb dX11_digest_18 rfl (lv_at hl 0 rfl) ?_
  refine o_ri (cells' := 0) (slots' := 0) G rfl rfl (n_V (As := [.int 8]) (rest := [.long 47300501795514039]) (C := RX11) (T := TX11) (N := 18) (ci := 9) S G (m_counted l X m0 ms ha f 8 hm0 hm11 hz h36 (by first | assumption | decide | rfl) H.size) gX11_digest_X11_counted rfl rfl rfl hdV_X11_counted ⟨Nat.le_of_ble_eq_true rfl, Nat.le_of_ble_eq_true rfl⟩ [0, 1] rfl (by decide) 0 rfl rfl rfl hl.1 (Nat.le_of_ble_eq_true rfl) dX11_digest_19 ⟨Nat.le_of_ble_eq_true rfl, Nat.le_of_ble_eq_true rfl⟩) (fun r_18 u_18 H locs hp_18 G => ?_)
  have G : wd X (fun _ => True) (va_A [] sz) s [(m0, .inr (9, ms)), (ha, .inl (X.2.1, 371, .inl f))] H locs := G
  replace hp_18 : r_18 = 0 := hp_18.trans (by decide)
  subst hp_18
  refine lv_i2l (v := (Int32.toInt64 0)) zx zb dX11_digest_22 rfl ?_
  refine r_ladd (v := 47300501795514039) S (by decide) dX11_digest_23 ?_
  refine lv_lstore_n (lv' := [(1, .long 47300501795514039), (3, .int 8), (0, .ref m0)]) zx zb dX11_digest_24 rfl hl (by decide) rfl (fun ls hl => ?_)
  refine lv_iinc (v := 9) (lv' := [(3, .int 9), (1, .long 47300501795514039), (0, .ref m0)]) zx zb dX11_digest_25 hl (k := 1) rfl (by decide) (by decide) rfl (fun ls hl => ?_)
  refine lv_goto (tgt := 6) zx zb dX11_digest_28 (by decide) ?_
  refine lv_iload_n zx zb dX11_digest_6 rfl (lv_at hl 0 rfl) ?_
  refine lv_bipush (v := 11) zx zb dX11_digest_7 (by decide) ?_
  refine lv_icmp_ge (tgt := 31) zx zb dX11_digest_9 (by decide) (fun c_19 => absurd c_19 (by decide)) (fun c_19 => ?_)
  refine lv_ldc2 zx zb S.2.2.2.1 (S.2.2.2.2 _ mm_X11_digest_c271) dX11_digest_12 ?_
  refine k_ld (v := (Int32.toInt64 31)) (by decide) ?_
  refine lv_lload_n zx zb dX11_digest_15 rfl (lv_at hl 1 rfl) ?_
  refine r_lmul (v := 1466315555660935209) S (by decide) dX11_digest_16 ?_
  refine lv_aload_n zx zb dX11_digest_17 rfl (lv_at hl 2 rfl) ?_
  refine lv_iload_n zx zb dX11_digest_18 rfl (lv_at hl 0 rfl) ?_
  refine o_ri (cells' := 0) (slots' := 0) G rfl rfl (n_V (As := [.int 9]) (rest := [.long 1466315555660935209]) (C := RX11) (T := TX11) (N := 18) (ci := 9) S G (m_counted l X m0 ms ha f 9 hm0 hm11 hz h36 (by first | assumption | decide | rfl) H.size) gX11_digest_X11_counted rfl rfl rfl hdV_X11_counted ⟨Nat.le_of_ble_eq_true rfl, Nat.le_of_ble_eq_true rfl⟩ [0, 1] rfl (by decide) 0 rfl rfl rfl hl.1 (Nat.le_of_ble_eq_true rfl) dX11_digest_19 ⟨Nat.le_of_ble_eq_true rfl, Nat.le_of_ble_eq_true rfl⟩) (fun r_20 u_20 H locs hp_20 G => ?_)
  have G : wd X (fun _ => True) (va_A [] sz) s [(m0, .inr (9, ms)), (ha, .inl (X.2.1, 371, .inl f))] H locs := G
  replace hp_20 : r_20 = 0 := hp_20.trans (by decide)
  subst hp_20
  refine lv_i2l (v := (Int32.toInt64 0)) zx zb dX11_digest_22 rfl ?_
  refine r_ladd (v := 1466315555660935209) S (by decide) dX11_digest_23 ?_
  refine lv_lstore_n (lv' := [(1, .long 1466315555660935209), (3, .int 9), (0, .ref m0)]) zx zb dX11_digest_24 rfl hl (by decide) rfl (fun ls hl => ?_)
  refine lv_iinc (v := 10) (lv' := [(3, .int 10), (1, .long 1466315555660935209), (0, .ref m0)]) zx zb dX11_digest_25 hl (k := 1) rfl (by decide) (by decide) rfl (fun ls hl => ?_)
  refine lv_goto (tgt := 6) zx zb dX11_digest_28 (by decide) ?_
  refine lv_iload_n zx zb dX11_digest_6 rfl (lv_at hl 0 rfl) ?_
  refine lv_bipush (v := 11) zx zb dX11_digest_7 (by decide) ?_
  refine lv_icmp_ge (tgt := 31) zx zb dX11_digest_9 (by decide) (fun c_21 => absurd c_21 (by decide)) (fun c_21 => ?_)
  refine lv_ldc2 zx zb S.2.2.2.1 (S.2.2.2.2 _ mm_X11_digest_c271) dX11_digest_12 ?_
  refine k_ld (v := (Int32.toInt64 31)) (by decide) ?_
  refine lv_lload_n zx zb dX11_digest_15 rfl (lv_at hl 1 rfl) ?_
  refine r_lmul (v := 8562294078069888247) S (by decide) dX11_digest_16 ?_
  refine lv_aload_n zx zb dX11_digest_17 rfl (lv_at hl 2 rfl) ?_
  refine lv_iload_n zx zb dX11_digest_18 rfl (lv_at hl 0 rfl) ?_
  refine o_ri (cells' := 0) (slots' := 0) G rfl rfl (n_V (As := [.int 10]) (rest := [.long 8562294078069888247]) (C := RX11) (T := TX11) (N := 18) (ci := 9) S G (m_counted l X m0 ms ha f 10 hm0 hm11 hz h36 (by first | assumption | decide | rfl) H.size) gX11_digest_X11_counted rfl rfl rfl hdV_X11_counted ⟨Nat.le_of_ble_eq_true rfl, Nat.le_of_ble_eq_true rfl⟩ [0, 1] rfl (by decide) 0 rfl rfl rfl hl.1 (Nat.le_of_ble_eq_true rfl) dX11_digest_19 ⟨Nat.le_of_ble_eq_true rfl, Nat.le_of_ble_eq_true rfl⟩) (fun r_22 u_22 H locs hp_22 G => ?_)
  have G : wd X (fun _ => True) (va_A [] sz) s [(m0, .inr (9, ms)), (ha, .inl (X.2.1, 371, .inl f))] H locs := G
  replace hp_22 : r_22 = 0 := hp_22.trans (by decide)
  subst hp_22
  refine lv_i2l (v := (Int32.toInt64 0)) zx zb dX11_digest_22 rfl ?_
  refine r_ladd (v := 8562294078069888247) S (by decide) dX11_digest_23 ?_
  refine lv_lstore_n (lv' := [(1, .long 8562294078069888247), (3, .int 10), (0, .ref m0)]) zx zb dX11_digest_24 rfl hl (by decide) rfl (fun ls hl => ?_)
  refine lv_iinc (v := 11) (lv' := [(3, .int 11), (1, .long 8562294078069888247), (0, .ref m0)]) zx zb dX11_digest_25 hl (k := 1) rfl (by decide) (by decide) rfl (fun ls hl => ?_)
  refine lv_goto (tgt := 6) zx zb dX11_digest_28 (by decide) ?_
  refine lv_iload_n zx zb dX11_digest_6 rfl (lv_at hl 0 rfl) ?_
  refine lv_bipush (v := 11) zx zb dX11_digest_7 (by decide) ?_
  refine lv_icmp_ge (tgt := 31) zx zb dX11_digest_9 (by decide) (fun c_23 => ?_) (fun c_23 => absurd (by decide) c_23)
  refine lv_iconst (v := 0) zx zb dX11_digest_31 (by decide) ?_
  refine lv_istore_n (lv' := [(3, .int 0), (1, .long 8562294078069888247), (0, .ref m0)]) zx zb dX11_digest_32 rfl hl (by decide) rfl (fun ls hl => ?_)
  refine lv_iload_n zx zb dX11_digest_33 rfl (lv_at hl 0 rfl) ?_
  refine lv_aload_n zx zb dX11_digest_34 rfl (lv_at hl 2 rfl) ?_
  refine o_ri (cells' := 0) (slots' := 0) G rfl rfl (n_V (As := []) (rest := [.int 0]) (C := RX11) (T := TX11) (N := 18) (ci := 9) S G (m_many l X m0 ms ha f 0 hm0 (hz 0 (by decide)) H.size) gX11_digest_X11_many rfl rfl rfl hdV_X11_many ⟨Nat.le_of_ble_eq_true rfl, Nat.le_of_ble_eq_true rfl⟩ [0, 1] rfl (by decide) 0 rfl rfl rfl hl.1 (Nat.le_of_ble_eq_true rfl) dX11_digest_35 ⟨Nat.le_of_ble_eq_true rfl, Nat.le_of_ble_eq_true rfl⟩) (fun r_24 u_24 H locs hp_24 G => ?_)
  have G : wd X (fun _ => True) (va_A [] sz) s [(m0, .inr (9, ms)), (ha, .inl (X.2.1, 371, .inl f))] H locs := G
  subst hp_24
  refine lv_icmp_ge (tgt := 78) zx zb dX11_digest_38 (by decide) (fun c_25 => ?_) (fun c_25 => absurd (by decide) c_25)
  refine lv_aload_n zx zb dX11_digest_78 rfl (lv_at hl 2 rfl) ?_
  refine lv_lload_n zx zb dX11_digest_79 rfl (lv_at hl 1 rfl) ?_
  refine lv_bipush (v := 55) zx zb dX11_digest_80 (by decide) ?_
  refine lv_iconst (v := 4) zx zb dX11_digest_82 (by decide) ?_
  refine lv_aload_n zx zb dX11_digest_83 rfl (lv_at hl 2 rfl) ?_
  refine r_get (C := RX11) (T := TX11) (N := 18) (ci := 9) (v := .ref ha) S in_X11_digest_X11 G 0 rfl rfl 0 (by decide) lk_X11_digest_7 hm0 dX11_digest_84 ?_
  refine lv_iconst (v := 1) zx zb dX11_digest_87 (by decide) ?_
  refine r_iald (v := 0) S G 1 rfl (k_vp (by decide)) (hz 1 (by decide)) dX11_digest_88 ?_
  refine r_imul (v := 0) S (by decide) dX11_digest_89 ?_
  refine o_rl (cells' := 0) (slots' := 0) G rfl rfl (n_V (As := [.long 8562294078069888247, .int 55, .int 0]) (rest := []) (C := RX11) (T := TX11) (N := 18) (ci := 9) S G (m_sums l X m0 ms 8562294078069888247 55 H.size) gX11_digest_X11_sums rfl rfl rfl hdV_X11_sums ⟨Nat.le_of_ble_eq_true rfl, Nat.le_of_ble_eq_true rfl⟩ [0] rfl (by decide) 0 rfl rfl rfl hl.1 (Nat.le_of_ble_eq_true rfl) dX11_digest_90 ⟨Nat.le_of_ble_eq_true rfl, Nat.le_of_ble_eq_true rfl⟩) (fun r_26 u_26 H locs hp_26 G => ?_)
  have G : wd X (fun _ => True) (va_A [] sz) s [(m0, .inr (9, ms)), (ha, .inl (X.2.1, 371, .inl f))] H locs := G
  subst hp_26
  refine lv_lstore_n (lv' := [(1, .long 8562294078069888247), (3, .int 0), (0, .ref m0)]) zx zb dX11_digest_93 rfl hl (by decide) rfl (fun ls hl => ?_)
  refine lv_aload_n zx zb dX11_digest_94 rfl (lv_at hl 2 rfl) ?_
  refine lv_lload_n zx zb dX11_digest_95 rfl (lv_at hl 0 rfl) ?_
  refine lv_bipush (v := 75) zx zb dX11_digest_96 (by decide) ?_
  refine lv_iconst (v := 5) zx zb dX11_digest_98 (by decide) ?_
  refine lv_aload_n zx zb dX11_digest_99 rfl (lv_at hl 2 rfl) ?_
  refine r_get (C := RX11) (T := TX11) (N := 18) (ci := 9) (v := .ref ha) S in_X11_digest_X11 G 0 rfl rfl 0 (by decide) lk_X11_digest_7 hm0 dX11_digest_100 ?_
  refine lv_iconst (v := 2) zx zb dX11_digest_103 (by decide) ?_
  refine r_iald (v := 0) S G 1 rfl (k_vp (by decide)) (hz 2 (by decide)) dX11_digest_104 ?_
  refine r_imul (v := 0) S (by decide) dX11_digest_105 ?_
  refine o_rl (cells' := 0) (slots' := 0) G rfl rfl (n_V (As := [.long 8562294078069888247, .int 75, .int 0]) (rest := []) (C := RX11) (T := TX11) (N := 18) (ci := 9) S G (m_sums l X m0 ms 8562294078069888247 75 H.size) gX11_digest_X11_sums rfl rfl rfl hdV_X11_sums ⟨Nat.le_of_ble_eq_true rfl, Nat.le_of_ble_eq_true rfl⟩ [0] rfl (by decide) 0 rfl rfl rfl hl.1 (Nat.le_of_ble_eq_true rfl) dX11_digest_106 ⟨Nat.le_of_ble_eq_true rfl, Nat.le_of_ble_eq_true rfl⟩) (fun r_27 u_27 H locs hp_27 G => ?_)
  have G : wd X (fun _ => True) (va_A [] sz) s [(m0, .inr (9, ms)), (ha, .inl (X.2.1, 371, .inl f))] H locs := G
  subst hp_27
  refine lv_lstore_n (lv' := [(1, .long 8562294078069888247), (3, .int 0), (0, .ref m0)]) zx zb dX11_digest_109 rfl hl (by decide) rfl (fun ls hl => ?_)
  refine lv_aload_n zx zb dX11_digest_110 rfl (lv_at hl 2 rfl) ?_
  refine lv_lload_n zx zb dX11_digest_111 rfl (lv_at hl 0 rfl) ?_
  refine lv_bipush (v := 105) zx zb dX11_digest_112 (by decide) ?_
  refine lv_iconst (v := 3) zx zb dX11_digest_114 (by decide) ?_
  refine lv_aload_n zx zb dX11_digest_115 rfl (lv_at hl 2 rfl) ?_
  refine r_get (C := RX11) (T := TX11) (N := 18) (ci := 9) (v := .ref ha) S in_X11_digest_X11 G 0 rfl rfl 0 (by decide) lk_X11_digest_7 hm0 dX11_digest_116 ?_
  refine lv_iconst (v := 3) zx zb dX11_digest_119 (by decide) ?_
  refine r_iald (v := 0) S G 1 rfl (k_vp (by decide)) (hz 3 (by decide)) dX11_digest_120 ?_
  refine r_imul (v := 0) S (by decide) dX11_digest_121 ?_
  refine o_rl (cells' := 0) (slots' := 0) G rfl rfl (n_V (As := [.long 8562294078069888247, .int 105, .int 0]) (rest := []) (C := RX11) (T := TX11) (N := 18) (ci := 9) S G (m_sums l X m0 ms 8562294078069888247 105 H.size) gX11_digest_X11_sums rfl rfl rfl hdV_X11_sums ⟨Nat.le_of_ble_eq_true rfl, Nat.le_of_ble_eq_true rfl⟩ [0] rfl (by decide) 0 rfl rfl rfl hl.1 (Nat.le_of_ble_eq_true rfl) dX11_digest_122 ⟨Nat.le_of_ble_eq_true rfl, Nat.le_of_ble_eq_true rfl⟩) (fun r_28 u_28 H locs hp_28 G => ?_)
  have G : wd X (fun _ => True) (va_A [] sz) s [(m0, .inr (9, ms)), (ha, .inl (X.2.1, 371, .inl f))] H locs := G
  subst hp_28
  refine lv_lstore_n (lv' := [(1, .long 8562294078069888247), (3, .int 0), (0, .ref m0)]) zx zb dX11_digest_125 rfl hl (by decide) rfl (fun ls hl => ?_)
  refine lv_ldc2 zx zb S.2.2.2.1 (S.2.2.2.2 _ mm_X11_digest_c271) dX11_digest_126 ?_
  refine k_ld (v := (Int32.toInt64 31)) (by decide) ?_
  refine lv_ldc2 zx zb S.2.2.2.1 (S.2.2.2.2 _ mm_X11_digest_c271) dX11_digest_129 ?_
  refine k_ld (v := (Int32.toInt64 31)) (by decide) ?_
  refine lv_lload_n zx zb dX11_digest_132 rfl (lv_at hl 0 rfl) ?_
  refine r_lmul (v := 7176699388232813033) S (by decide) dX11_digest_133 ?_
  refine lv_aload_n zx zb dX11_digest_134 rfl (lv_at hl 2 rfl) ?_
  refine r_get (C := RX11) (T := TX11) (N := 18) (ci := 9) (v := .long 0) S in_X11_digest_X11 G 0 rfl rfl 4 (by decide) lk_X11_digest_182 hm4 dX11_digest_135 ?_
  refine r_ladd (v := 7176699388232813033) S (by decide) dX11_digest_138 ?_
  refine r_lmul (v := 1116752150702584631) S (by decide) dX11_digest_139 ?_
  refine lv_aload_n zx zb dX11_digest_140 rfl (lv_at hl 2 rfl) ?_
  refine r_get (C := RX11) (T := TX11) (N := 18) (ci := 9) (v := .long (Int32.toInt64 1)) S in_X11_digest_X11 G 0 rfl rfl 5 (by decide) lk_X11_digest_23 hm5 dX11_digest_141 ?_
  refine r_ladd (v := 1116752150702584632) S (by decide) dX11_digest_144 ?_
  exact e_long S zr zlk G () [] rfl (by decide) (Or.inl rfl) (rfl) dX11_digest_145
theorem mm_X11_init_oi : Cond.methodLink RX11 1 objectInit ∈ wsX11_init := by decide +kernel
theorem mm_X11_init_oj : Cond.instanceMethod objectInit ∈ wsX11_init := by decide +kernel
theorem mm_X11_init_ok : Cond.code objectInit ⟨#[0xb1]⟩ 1 none ∈ wsX11_init := by decide +kernel
theorem mm_X11_init_acint : Cond.arrayClass .int ∈ wsX11_init := by decide +kernel
theorem in_X11_init_X11 : ∀ w ∈ wsX110, w ∈ wsX11_init := by decide +kernel
theorem lk_X11_init_7 : Cond.fieldLink RX11 7 "EggSpoonsModel" "all" "[I" ∈ wsX11_init := by decide +kernel
theorem lk_X11_init_13 : Cond.fieldLink RX11 13 "EggSpoonsModel" "kept" "[I" ∈ wsX11_init := by decide +kernel
theorem mm_X11_init_acboolean : Cond.arrayClass .boolean ∈ wsX11_init := by decide +kernel
theorem lk_X11_init_16 : Cond.fieldLink RX11 16 "EggSpoonsModel" "isKept" "[Z" ∈ wsX11_init := by decide +kernel
theorem lk_X11_init_20 : Cond.fieldLink RX11 20 "EggSpoonsModel" "refused" "[I" ∈ wsX11_init := by decide +kernel
theorem lk_X11_init_23 : Cond.fieldLink RX11 23 "EggSpoonsModel" "below" "J" ∈ wsX11_init := by decide +kernel
theorem lk_X11_init_27 : Cond.fieldLink RX11 27 "EggSpoonsModel" "hand" "[I" ∈ wsX11_init := by decide +kernel
theorem lk_X11_init_30 : Cond.fieldLink RX11 30 "EggSpoonsModel" "goesBy" "[I" ∈ wsX11_init := by decide +kernel
theorem lk_X11_init_33 : Cond.fieldLink RX11 33 "EggSpoonsModel" "tells" "[I" ∈ wsX11_init := by decide +kernel
theorem lk_X11_init_36 : Cond.fieldLink RX11 36 "EggSpoonsModel" "behindBy" "[I" ∈ wsX11_init := by decide +kernel
theorem lk_X11_init_39 : Cond.fieldLink RX11 39 "EggSpoonsModel" "bytes" "[I" ∈ wsX11_init := by decide +kernel
theorem lk_X11_init_42 : Cond.fieldLink RX11 42 "EggSpoonsModel" "anew" "[I" ∈ wsX11_init := by decide +kernel
theorem lk_X11_init_45 : Cond.fieldLink RX11 45 "EggSpoonsModel" "values" "[I" ∈ wsX11_init := by decide +kernel
set_option maxHeartbeats 4000000 in
set_option maxRecDepth 100000 in
/-- EggSpoonsModel() -/
theorem m_init (l : Launch) (X : EX) (m0 : Nat) (sz : Nat) : Met l yX11_init wsX11_init ({ frames := 1, cells := 11, slots := 1485, locals := 22 } : Room) (pE X [.ref m0] [(m0, .inr (9, [.null, .null, .null, .null, .long 0, .long 0, .null, .null, .null, .null, .null, .int 0, .int 0, .int 0, .int 0, .int 0, .null, .null]))] sz) (qV (fun (u : (Nat → Nat) × (Nat → Int32)) => (∀ j : Nat, j ≠ 36 → u.2 j = 0) ∧ u.2 36 = 20) X (fun (u : (Nat → Nat) × (Nat → Int32)) => [(m0, .inr (9, [.ref (u.1 0), .ref (u.1 1), .ref (u.1 2), .ref (u.1 3), .long 0, .long (Int32.toInt64 1), .ref (u.1 4), .ref (u.1 5), .ref (u.1 6), .ref (u.1 7), .ref (u.1 8), .int 0, .int 0, .int 0, .int 0, .int 0, .ref (u.1 9), .ref (u.1 10)])), ((u.1 0), .inl (X.2.1, 371, .inl u.2)), ((u.1 1), .inl (X.2.1, 742, .inl (fun _ => 0))), ((u.1 2), .inl (X.2.2.1, 2, .inl (fun _ => 0))), ((u.1 3), .inl (X.2.1, 3, .inl (fun _ => 0))), ((u.1 4), .inl (X.2.1, 55, .inl (fun _ => 0))), ((u.1 8), .inl (X.2.1, 150, .inl (fun _ => 0)))]) [(m0, .inr (9, [.null, .null, .null, .null, .long 0, .long 0, .null, .null, .null, .null, .null, .int 0, .int 0, .int 0, .int 0, .int 0, .null, .null]))] sz) 11 1485 (va_A [(m0, .inr (9, [.null, .null, .null, .null, .long 0, .long 0, .null, .null, .null, .null, .null, .int 0, .int 0, .int 0, .int 0, .int 0, .null, .null]))] sz) := by
  refine mk_met (B := (va_A [(m0, .inr (9, [.null, .null, .null, .null, .long 0, .long 0, .null, .null, .null, .null, .null, .int 0, .int 0, .int 0, .int 0, .int 0, .null, .null]))] sz)) (A := (va_A [(m0, .inr (9, [.null, .null, .null, .null, .long 0, .long 0, .null, .null, .null, .null, .null, .int 0, .int 0, .int 0, .int 0, .int 0, .null, .null]))] sz)) (cc := cX11_init) (maxL := 1) (ret := none) (by decide) rfl (Nat.le_of_ble_eq_true rfl) k_w k_a (fun p e s m below meth c S zr zlk znm zsz G ls hl => ?_)
  have S : CallFix p m c cX11_init 1 s _ wsX11_init RX11 := S
  have zx := S.1
  have zb := S.2.1
  have hl : lv_has ls 1 [(0, .ref m0)] := hl
  refine lv_aload_n zx zb dX11_init_0 rfl (lv_at hl 0 rfl) ?_
  refine r_obj S hl.1 mm_X11_init_oi mm_X11_init_oj mm_X11_init_ok dX11_init_1 (Nat.le_of_ble_eq_true rfl) (Nat.le_of_ble_eq_true rfl) ?_
  refine lv_aload_n zx zb dX11_init_4 rfl (lv_at hl 0 rfl) ?_
  refine lv_sipush (v := 371) zx zb dX11_init_5 (by decide) ?_
  refine r_newi (cells' := 1) (slots' := 371) S G mm_X11_init_acint 371 (by decide) (by decide) (Nat.le_of_ble_eq_true rfl) rfl rfl (Nat.le_of_ble_eq_true rfl) (Nat.le_of_ble_eq_true rfl) dX11_init_8 (fun q_1 H G => ?_)
  have G : wd X (va_A [(m0, .inr (9, [.null, .null, .null, .null, .long 0, .long 0, .null, .null, .null, .null, .null, .int 0, .int 0, .int 0, .int 0, .int 0, .null, .null]))] sz) (va_A [(m0, .inr (9, [.null, .null, .null, .null, .long 0, .long 0, .null, .null, .null, .null, .null, .int 0, .int 0, .int 0, .int 0, .int 0, .null, .null]))] sz) s [(m0, .inr (9, [.null, .null, .null, .null, .long 0, .long 0, .null, .null, .null, .null, .null, .int 0, .int 0, .int 0, .int 0, .int 0, .null, .null])), (q_1, .inl (X.2.1, 371, .inl (fun _ => 0)))] H [] := G
  refine r_putF (C := RX11) (T := TX11) (N := 18) (ci := 9) (v := .ref q_1) S in_X11_init_X11 tyX11_ok nmX11 G 0 rfl rfl 0 (by decide) lk_X11_init_7 rfl znm rfl rfl rfl (Nat.le_of_ble_eq_true rfl) dX11_init_10 (fun H locs G => ?_)
  have G : wd X (va_A [(m0, .inr (9, [.null, .null, .null, .null, .long 0, .long 0, .null, .null, .null, .null, .null, .int 0, .int 0, .int 0, .int 0, .int 0, .null, .null]))] sz) (va_A [(m0, .inr (9, [.null, .null, .null, .null, .long 0, .long 0, .null, .null, .null, .null, .null, .int 0, .int 0, .int 0, .int 0, .int 0, .null, .null]))] sz) s [(m0, .inr (9, [.ref q_1, .null, .null, .null, .long 0, .long 0, .null, .null, .null, .null, .null, .int 0, .int 0, .int 0, .int 0, .int 0, .null, .null])), (q_1, .inl (X.2.1, 371, .inl (fun _ => 0)))] H locs := G
  refine lv_aload_n zx zb dX11_init_13 rfl (lv_at hl 0 rfl) ?_
  refine lv_sipush (v := 742) zx zb dX11_init_14 (by decide) ?_
  refine r_newi (cells' := 2) (slots' := 1113) S G mm_X11_init_acint 742 (by decide) (by decide) (Nat.le_of_ble_eq_true rfl) rfl rfl (Nat.le_of_ble_eq_true rfl) (Nat.le_of_ble_eq_true rfl) dX11_init_17 (fun q_2 H G => ?_)
  have G : wd X (va_A [(m0, .inr (9, [.null, .null, .null, .null, .long 0, .long 0, .null, .null, .null, .null, .null, .int 0, .int 0, .int 0, .int 0, .int 0, .null, .null]))] sz) (va_A [(m0, .inr (9, [.null, .null, .null, .null, .long 0, .long 0, .null, .null, .null, .null, .null, .int 0, .int 0, .int 0, .int 0, .int 0, .null, .null]))] sz) s [(m0, .inr (9, [.ref q_1, .null, .null, .null, .long 0, .long 0, .null, .null, .null, .null, .null, .int 0, .int 0, .int 0, .int 0, .int 0, .null, .null])), (q_1, .inl (X.2.1, 371, .inl (fun _ => 0))), (q_2, .inl (X.2.1, 742, .inl (fun _ => 0)))] H locs := G
  refine r_putF (C := RX11) (T := TX11) (N := 18) (ci := 9) (v := .ref q_2) S in_X11_init_X11 tyX11_ok nmX11 G 0 rfl rfl 1 (by decide) lk_X11_init_13 rfl znm rfl rfl rfl (Nat.le_of_ble_eq_true rfl) dX11_init_19 (fun H locs G => ?_)
  have G : wd X (va_A [(m0, .inr (9, [.null, .null, .null, .null, .long 0, .long 0, .null, .null, .null, .null, .null, .int 0, .int 0, .int 0, .int 0, .int 0, .null, .null]))] sz) (va_A [(m0, .inr (9, [.null, .null, .null, .null, .long 0, .long 0, .null, .null, .null, .null, .null, .int 0, .int 0, .int 0, .int 0, .int 0, .null, .null]))] sz) s [(m0, .inr (9, [.ref q_1, .ref q_2, .null, .null, .long 0, .long 0, .null, .null, .null, .null, .null, .int 0, .int 0, .int 0, .int 0, .int 0, .null, .null])), (q_1, .inl (X.2.1, 371, .inl (fun _ => 0))), (q_2, .inl (X.2.1, 742, .inl (fun _ => 0)))] H locs := G
  refine lv_aload_n zx zb dX11_init_22 rfl (lv_at hl 0 rfl) ?_
  refine lv_iconst (v := 2) zx zb dX11_init_23 (by decide) ?_
  refine r_newz (cells' := 3) (slots' := 1115) S G mm_X11_init_acboolean 2 (by decide) (by decide) (Nat.le_of_ble_eq_true rfl) rfl rfl (Nat.le_of_ble_eq_true rfl) (Nat.le_of_ble_eq_true rfl) dX11_init_24 (fun q_3 H G => ?_)
  have G : wd X (va_A [(m0, .inr (9, [.null, .null, .null, .null, .long 0, .long 0, .null, .null, .null, .null, .null, .int 0, .int 0, .int 0, .int 0, .int 0, .null, .null]))] sz) (va_A [(m0, .inr (9, [.null, .null, .null, .null, .long 0, .long 0, .null, .null, .null, .null, .null, .int 0, .int 0, .int 0, .int 0, .int 0, .null, .null]))] sz) s [(m0, .inr (9, [.ref q_1, .ref q_2, .null, .null, .long 0, .long 0, .null, .null, .null, .null, .null, .int 0, .int 0, .int 0, .int 0, .int 0, .null, .null])), (q_1, .inl (X.2.1, 371, .inl (fun _ => 0))), (q_2, .inl (X.2.1, 742, .inl (fun _ => 0))), (q_3, .inl (X.2.2.1, 2, .inl (fun _ => 0)))] H locs := G
  refine r_putF (C := RX11) (T := TX11) (N := 18) (ci := 9) (v := .ref q_3) S in_X11_init_X11 tyX11_ok nmX11 G 0 rfl rfl 2 (by decide) lk_X11_init_16 rfl znm rfl rfl rfl (Nat.le_of_ble_eq_true rfl) dX11_init_26 (fun H locs G => ?_)
  have G : wd X (va_A [(m0, .inr (9, [.null, .null, .null, .null, .long 0, .long 0, .null, .null, .null, .null, .null, .int 0, .int 0, .int 0, .int 0, .int 0, .null, .null]))] sz) (va_A [(m0, .inr (9, [.null, .null, .null, .null, .long 0, .long 0, .null, .null, .null, .null, .null, .int 0, .int 0, .int 0, .int 0, .int 0, .null, .null]))] sz) s [(m0, .inr (9, [.ref q_1, .ref q_2, .ref q_3, .null, .long 0, .long 0, .null, .null, .null, .null, .null, .int 0, .int 0, .int 0, .int 0, .int 0, .null, .null])), (q_1, .inl (X.2.1, 371, .inl (fun _ => 0))), (q_2, .inl (X.2.1, 742, .inl (fun _ => 0))), (q_3, .inl (X.2.2.1, 2, .inl (fun _ => 0)))] H locs := G
  refine lv_aload_n zx zb dX11_init_29 rfl (lv_at hl 0 rfl) ?_
  refine lv_iconst (v := 3) zx zb dX11_init_30 (by decide) ?_
  refine r_newi (cells' := 4) (slots' := 1118) S G mm_X11_init_acint 3 (by decide) (by decide) (Nat.le_of_ble_eq_true rfl) rfl rfl (Nat.le_of_ble_eq_true rfl) (Nat.le_of_ble_eq_true rfl) dX11_init_31 (fun q_4 H G => ?_)
  have G : wd X (va_A [(m0, .inr (9, [.null, .null, .null, .null, .long 0, .long 0, .null, .null, .null, .null, .null, .int 0, .int 0, .int 0, .int 0, .int 0, .null, .null]))] sz) (va_A [(m0, .inr (9, [.null, .null, .null, .null, .long 0, .long 0, .null, .null, .null, .null, .null, .int 0, .int 0, .int 0, .int 0, .int 0, .null, .null]))] sz) s [(m0, .inr (9, [.ref q_1, .ref q_2, .ref q_3, .null, .long 0, .long 0, .null, .null, .null, .null, .null, .int 0, .int 0, .int 0, .int 0, .int 0, .null, .null])), (q_1, .inl (X.2.1, 371, .inl (fun _ => 0))), (q_2, .inl (X.2.1, 742, .inl (fun _ => 0))), (q_3, .inl (X.2.2.1, 2, .inl (fun _ => 0))), (q_4, .inl (X.2.1, 3, .inl (fun _ => 0)))] H locs := G
  refine r_putF (C := RX11) (T := TX11) (N := 18) (ci := 9) (v := .ref q_4) S in_X11_init_X11 tyX11_ok nmX11 G 0 rfl rfl 3 (by decide) lk_X11_init_20 rfl znm rfl rfl rfl (Nat.le_of_ble_eq_true rfl) dX11_init_33 (fun H locs G => ?_)
  have G : wd X (va_A [(m0, .inr (9, [.null, .null, .null, .null, .long 0, .long 0, .null, .null, .null, .null, .null, .int 0, .int 0, .int 0, .int 0, .int 0, .null, .null]))] sz) (va_A [(m0, .inr (9, [.null, .null, .null, .null, .long 0, .long 0, .null, .null, .null, .null, .null, .int 0, .int 0, .int 0, .int 0, .int 0, .null, .null]))] sz) s [(m0, .inr (9, [.ref q_1, .ref q_2, .ref q_3, .ref q_4, .long 0, .long 0, .null, .null, .null, .null, .null, .int 0, .int 0, .int 0, .int 0, .int 0, .null, .null])), (q_1, .inl (X.2.1, 371, .inl (fun _ => 0))), (q_2, .inl (X.2.1, 742, .inl (fun _ => 0))), (q_3, .inl (X.2.2.1, 2, .inl (fun _ => 0))), (q_4, .inl (X.2.1, 3, .inl (fun _ => 0)))] H locs := G
  refine lv_aload_n zx zb dX11_init_36 rfl (lv_at hl 0 rfl) ?_
  refine lv_lconst (v := (Int32.toInt64 1)) zx zb dX11_init_37 (by decide) ?_
  refine r_put (C := RX11) (T := TX11) (N := 18) (ci := 9) (v := .long (Int32.toInt64 1)) S in_X11_init_X11 tyX11_ok nmX11 G 0 rfl rfl 5 (by decide) lk_X11_init_23 rfl rfl rfl (Nat.le_of_ble_eq_true rfl) dX11_init_38 (fun H locs G => ?_)
  have G : wd X (va_A [(m0, .inr (9, [.null, .null, .null, .null, .long 0, .long 0, .null, .null, .null, .null, .null, .int 0, .int 0, .int 0, .int 0, .int 0, .null, .null]))] sz) (va_A [(m0, .inr (9, [.null, .null, .null, .null, .long 0, .long 0, .null, .null, .null, .null, .null, .int 0, .int 0, .int 0, .int 0, .int 0, .null, .null]))] sz) s [(m0, .inr (9, [.ref q_1, .ref q_2, .ref q_3, .ref q_4, .long 0, .long (Int32.toInt64 1), .null, .null, .null, .null, .null, .int 0, .int 0, .int 0, .int 0, .int 0, .null, .null])), (q_1, .inl (X.2.1, 371, .inl (fun _ => 0))), (q_2, .inl (X.2.1, 742, .inl (fun _ => 0))), (q_3, .inl (X.2.2.1, 2, .inl (fun _ => 0))), (q_4, .inl (X.2.1, 3, .inl (fun _ => 0)))] H locs := G
  refine lv_aload_n zx zb dX11_init_41 rfl (lv_at hl 0 rfl) ?_
  refine lv_bipush (v := 55) zx zb dX11_init_42 (by decide) ?_
  refine r_newi (cells' := 5) (slots' := 1173) S G mm_X11_init_acint 55 (by decide) (by decide) (Nat.le_of_ble_eq_true rfl) rfl rfl (Nat.le_of_ble_eq_true rfl) (Nat.le_of_ble_eq_true rfl) dX11_init_44 (fun q_5 H G => ?_)
  have G : wd X (va_A [(m0, .inr (9, [.null, .null, .null, .null, .long 0, .long 0, .null, .null, .null, .null, .null, .int 0, .int 0, .int 0, .int 0, .int 0, .null, .null]))] sz) (va_A [(m0, .inr (9, [.null, .null, .null, .null, .long 0, .long 0, .null, .null, .null, .null, .null, .int 0, .int 0, .int 0, .int 0, .int 0, .null, .null]))] sz) s [(m0, .inr (9, [.ref q_1, .ref q_2, .ref q_3, .ref q_4, .long 0, .long (Int32.toInt64 1), .null, .null, .null, .null, .null, .int 0, .int 0, .int 0, .int 0, .int 0, .null, .null])), (q_1, .inl (X.2.1, 371, .inl (fun _ => 0))), (q_2, .inl (X.2.1, 742, .inl (fun _ => 0))), (q_3, .inl (X.2.2.1, 2, .inl (fun _ => 0))), (q_4, .inl (X.2.1, 3, .inl (fun _ => 0))), (q_5, .inl (X.2.1, 55, .inl (fun _ => 0)))] H locs := G
  refine r_putF (C := RX11) (T := TX11) (N := 18) (ci := 9) (v := .ref q_5) S in_X11_init_X11 tyX11_ok nmX11 G 0 rfl rfl 6 (by decide) lk_X11_init_27 rfl znm rfl rfl rfl (Nat.le_of_ble_eq_true rfl) dX11_init_46 (fun H locs G => ?_)
  have G : wd X (va_A [(m0, .inr (9, [.null, .null, .null, .null, .long 0, .long 0, .null, .null, .null, .null, .null, .int 0, .int 0, .int 0, .int 0, .int 0, .null, .null]))] sz) (va_A [(m0, .inr (9, [.null, .null, .null, .null, .long 0, .long 0, .null, .null, .null, .null, .null, .int 0, .int 0, .int 0, .int 0, .int 0, .null, .null]))] sz) s [(m0, .inr (9, [.ref q_1, .ref q_2, .ref q_3, .ref q_4, .long 0, .long (Int32.toInt64 1), .ref q_5, .null, .null, .null, .null, .int 0, .int 0, .int 0, .int 0, .int 0, .null, .null])), (q_1, .inl (X.2.1, 371, .inl (fun _ => 0))), (q_2, .inl (X.2.1, 742, .inl (fun _ => 0))), (q_3, .inl (X.2.2.1, 2, .inl (fun _ => 0))), (q_4, .inl (X.2.1, 3, .inl (fun _ => 0))), (q_5, .inl (X.2.1, 55, .inl (fun _ => 0)))] H locs := G
  refine lv_aload_n zx zb dX11_init_49 rfl (lv_at hl 0 rfl) ?_
  refine lv_bipush (v := 6) zx zb dX11_init_50 (by decide) ?_
  refine r_newi (cells' := 6) (slots' := 1179) S G mm_X11_init_acint 6 (by decide) (by decide) (Nat.le_of_ble_eq_true rfl) rfl rfl (Nat.le_of_ble_eq_true rfl) (Nat.le_of_ble_eq_true rfl) dX11_init_52 (fun q_6 H G => ?_)
  have G : wd X (va_A [(m0, .inr (9, [.null, .null, .null, .null, .long 0, .long 0, .null, .null, .null, .null, .null, .int 0, .int 0, .int 0, .int 0, .int 0, .null, .null]))] sz) (va_A [(m0, .inr (9, [.null, .null, .null, .null, .long 0, .long 0, .null, .null, .null, .null, .null, .int 0, .int 0, .int 0, .int 0, .int 0, .null, .null]))] sz) s [(m0, .inr (9, [.ref q_1, .ref q_2, .ref q_3, .ref q_4, .long 0, .long (Int32.toInt64 1), .ref q_5, .null, .null, .null, .null, .int 0, .int 0, .int 0, .int 0, .int 0, .null, .null])), (q_1, .inl (X.2.1, 371, .inl (fun _ => 0))), (q_2, .inl (X.2.1, 742, .inl (fun _ => 0))), (q_3, .inl (X.2.2.1, 2, .inl (fun _ => 0))), (q_4, .inl (X.2.1, 3, .inl (fun _ => 0))), (q_5, .inl (X.2.1, 55, .inl (fun _ => 0))), (q_6, .inl (X.2.1, 6, .inl (fun _ => 0)))] H locs := G
  refine r_putF (C := RX11) (T := TX11) (N := 18) (ci := 9) (v := .ref q_6) S in_X11_init_X11 tyX11_ok nmX11 G 0 rfl rfl 7 (by decide) lk_X11_init_30 rfl znm rfl rfl rfl (Nat.le_of_ble_eq_true rfl) dX11_init_54 (fun H locs G => ?_)
  have G : wd X (va_A [(m0, .inr (9, [.null, .null, .null, .null, .long 0, .long 0, .null, .null, .null, .null, .null, .int 0, .int 0, .int 0, .int 0, .int 0, .null, .null]))] sz) (va_A [(m0, .inr (9, [.null, .null, .null, .null, .long 0, .long 0, .null, .null, .null, .null, .null, .int 0, .int 0, .int 0, .int 0, .int 0, .null, .null]))] sz) s [(m0, .inr (9, [.ref q_1, .ref q_2, .ref q_3, .ref q_4, .long 0, .long (Int32.toInt64 1), .ref q_5, .ref q_6, .null, .null, .null, .int 0, .int 0, .int 0, .int 0, .int 0, .null, .null])), (q_1, .inl (X.2.1, 371, .inl (fun _ => 0))), (q_2, .inl (X.2.1, 742, .inl (fun _ => 0))), (q_3, .inl (X.2.2.1, 2, .inl (fun _ => 0))), (q_4, .inl (X.2.1, 3, .inl (fun _ => 0))), (q_5, .inl (X.2.1, 55, .inl (fun _ => 0))), (q_6, .inl (X.2.1, 6, .inl (fun _ => 0)))] H locs := G
  refine lv_aload_n zx zb dX11_init_57 rfl (lv_at hl 0 rfl) ?_
  refine lv_bipush (v := 10) zx zb dX11_init_58 (by decide) ?_
  refine r_newi (cells' := 7) (slots' := 1189) S G mm_X11_init_acint 10 (by decide) (by decide) (Nat.le_of_ble_eq_true rfl) rfl rfl (Nat.le_of_ble_eq_true rfl) (Nat.le_of_ble_eq_true rfl) dX11_init_60 (fun q_7 H G => ?_)
  have G : wd X (va_A [(m0, .inr (9, [.null, .null, .null, .null, .long 0, .long 0, .null, .null, .null, .null, .null, .int 0, .int 0, .int 0, .int 0, .int 0, .null, .null]))] sz) (va_A [(m0, .inr (9, [.null, .null, .null, .null, .long 0, .long 0, .null, .null, .null, .null, .null, .int 0, .int 0, .int 0, .int 0, .int 0, .null, .null]))] sz) s [(m0, .inr (9, [.ref q_1, .ref q_2, .ref q_3, .ref q_4, .long 0, .long (Int32.toInt64 1), .ref q_5, .ref q_6, .null, .null, .null, .int 0, .int 0, .int 0, .int 0, .int 0, .null, .null])), (q_1, .inl (X.2.1, 371, .inl (fun _ => 0))), (q_2, .inl (X.2.1, 742, .inl (fun _ => 0))), (q_3, .inl (X.2.2.1, 2, .inl (fun _ => 0))), (q_4, .inl (X.2.1, 3, .inl (fun _ => 0))), (q_5, .inl (X.2.1, 55, .inl (fun _ => 0))), (q_6, .inl (X.2.1, 6, .inl (fun _ => 0))), (q_7, .inl (X.2.1, 10, .inl (fun _ => 0)))] H locs := G
  refine r_putF (C := RX11) (T := TX11) (N := 18) (ci := 9) (v := .ref q_7) S in_X11_init_X11 tyX11_ok nmX11 G 0 rfl rfl 8 (by decide) lk_X11_init_33 rfl znm rfl rfl rfl (Nat.le_of_ble_eq_true rfl) dX11_init_62 (fun H locs G => ?_)
  have G : wd X (va_A [(m0, .inr (9, [.null, .null, .null, .null, .long 0, .long 0, .null, .null, .null, .null, .null, .int 0, .int 0, .int 0, .int 0, .int 0, .null, .null]))] sz) (va_A [(m0, .inr (9, [.null, .null, .null, .null, .long 0, .long 0, .null, .null, .null, .null, .null, .int 0, .int 0, .int 0, .int 0, .int 0, .null, .null]))] sz) s [(m0, .inr (9, [.ref q_1, .ref q_2, .ref q_3, .ref q_4, .long 0, .long (Int32.toInt64 1), .ref q_5, .ref q_6, .ref q_7, .null, .null, .int 0, .int 0, .int 0, .int 0, .int 0, .null, .null])), (q_1, .inl (X.2.1, 371, .inl (fun _ => 0))), (q_2, .inl (X.2.1, 742, .inl (fun _ => 0))), (q_3, .inl (X.2.2.1, 2, .inl (fun _ => 0))), (q_4, .inl (X.2.1, 3, .inl (fun _ => 0))), (q_5, .inl (X.2.1, 55, .inl (fun _ => 0))), (q_6, .inl (X.2.1, 6, .inl (fun _ => 0))), (q_7, .inl (X.2.1, 10, .inl (fun _ => 0)))] H locs := G
  refine lv_aload_n zx zb dX11_init_65 rfl (lv_at hl 0 rfl) ?_
  refine lv_bipush (v := 20) zx zb dX11_init_66 (by decide) ?_
  refine r_newi (cells' := 8) (slots' := 1209) S G mm_X11_init_acint 20 (by decide) (by decide) (Nat.le_of_ble_eq_true rfl) rfl rfl (Nat.le_of_ble_eq_true rfl) (Nat.le_of_ble_eq_true rfl) dX11_init_68 (fun q_8 H G => ?_)
  have G : wd X (va_A [(m0, .inr (9, [.null, .null, .null, .null, .long 0, .long 0, .null, .null, .null, .null, .null, .int 0, .int 0, .int 0, .int 0, .int 0, .null, .null]))] sz) (va_A [(m0, .inr (9, [.null, .null, .null, .null, .long 0, .long 0, .null, .null, .null, .null, .null, .int 0, .int 0, .int 0, .int 0, .int 0, .null, .null]))] sz) s [(m0, .inr (9, [.ref q_1, .ref q_2, .ref q_3, .ref q_4, .long 0, .long (Int32.toInt64 1), .ref q_5, .ref q_6, .ref q_7, .null, .null, .int 0, .int 0, .int 0, .int 0, .int 0, .null, .null])), (q_1, .inl (X.2.1, 371, .inl (fun _ => 0))), (q_2, .inl (X.2.1, 742, .inl (fun _ => 0))), (q_3, .inl (X.2.2.1, 2, .inl (fun _ => 0))), (q_4, .inl (X.2.1, 3, .inl (fun _ => 0))), (q_5, .inl (X.2.1, 55, .inl (fun _ => 0))), (q_6, .inl (X.2.1, 6, .inl (fun _ => 0))), (q_7, .inl (X.2.1, 10, .inl (fun _ => 0))), (q_8, .inl (X.2.1, 20, .inl (fun _ => 0)))] H locs := G
  refine r_putF (C := RX11) (T := TX11) (N := 18) (ci := 9) (v := .ref q_8) S in_X11_init_X11 tyX11_ok nmX11 G 0 rfl rfl 9 (by decide) lk_X11_init_36 rfl znm rfl rfl rfl (Nat.le_of_ble_eq_true rfl) dX11_init_70 (fun H locs G => ?_)
  have G : wd X (va_A [(m0, .inr (9, [.null, .null, .null, .null, .long 0, .long 0, .null, .null, .null, .null, .null, .int 0, .int 0, .int 0, .int 0, .int 0, .null, .null]))] sz) (va_A [(m0, .inr (9, [.null, .null, .null, .null, .long 0, .long 0, .null, .null, .null, .null, .null, .int 0, .int 0, .int 0, .int 0, .int 0, .null, .null]))] sz) s [(m0, .inr (9, [.ref q_1, .ref q_2, .ref q_3, .ref q_4, .long 0, .long (Int32.toInt64 1), .ref q_5, .ref q_6, .ref q_7, .ref q_8, .null, .int 0, .int 0, .int 0, .int 0, .int 0, .null, .null])), (q_1, .inl (X.2.1, 371, .inl (fun _ => 0))), (q_2, .inl (X.2.1, 742, .inl (fun _ => 0))), (q_3, .inl (X.2.2.1, 2, .inl (fun _ => 0))), (q_4, .inl (X.2.1, 3, .inl (fun _ => 0))), (q_5, .inl (X.2.1, 55, .inl (fun _ => 0))), (q_6, .inl (X.2.1, 6, .inl (fun _ => 0))), (q_7, .inl (X.2.1, 10, .inl (fun _ => 0))), (q_8, .inl (X.2.1, 20, .inl (fun _ => 0)))] H locs := G
  refine lv_aload_n zx zb dX11_init_73 rfl (lv_at hl 0 rfl) ?_
  refine lv_sipush (v := 150) zx zb dX11_init_74 (by decide) ?_
  refine r_newi (cells' := 9) (slots' := 1359) S G mm_X11_init_acint 150 (by decide) (by decide) (Nat.le_of_ble_eq_true rfl) rfl rfl (Nat.le_of_ble_eq_true rfl) (Nat.le_of_ble_eq_true rfl) dX11_init_77 (fun q_9 H G => ?_)
  have G : wd X (va_A [(m0, .inr (9, [.null, .null, .null, .null, .long 0, .long 0, .null, .null, .null, .null, .null, .int 0, .int 0, .int 0, .int 0, .int 0, .null, .null]))] sz) (va_A [(m0, .inr (9, [.null, .null, .null, .null, .long 0, .long 0, .null, .null, .null, .null, .null, .int 0, .int 0, .int 0, .int 0, .int 0, .null, .null]))] sz) s [(m0, .inr (9, [.ref q_1, .ref q_2, .ref q_3, .ref q_4, .long 0, .long (Int32.toInt64 1), .ref q_5, .ref q_6, .ref q_7, .ref q_8, .null, .int 0, .int 0, .int 0, .int 0, .int 0, .null, .null])), (q_1, .inl (X.2.1, 371, .inl (fun _ => 0))), (q_2, .inl (X.2.1, 742, .inl (fun _ => 0))), (q_3, .inl (X.2.2.1, 2, .inl (fun _ => 0))), (q_4, .inl (X.2.1, 3, .inl (fun _ => 0))), (q_5, .inl (X.2.1, 55, .inl (fun _ => 0))), (q_6, .inl (X.2.1, 6, .inl (fun _ => 0))), (q_7, .inl (X.2.1, 10, .inl (fun _ => 0))), (q_8, .inl (X.2.1, 20, .inl (fun _ => 0))), (q_9, .inl (X.2.1, 150, .inl (fun _ => 0)))] H locs := G
  refine r_putF (C := RX11) (T := TX11) (N := 18) (ci := 9) (v := .ref q_9) S in_X11_init_X11 tyX11_ok nmX11 G 0 rfl rfl 10 (by decide) lk_X11_init_39 rfl znm rfl rfl rfl (Nat.le_of_ble_eq_true rfl) dX11_init_79 (fun H locs G => ?_)
  have G : wd X (va_A [(m0, .inr (9, [.null, .null, .null, .null, .long 0, .long 0, .null, .null, .null, .null, .null, .int 0, .int 0, .int 0, .int 0, .int 0, .null, .null]))] sz) (va_A [(m0, .inr (9, [.null, .null, .null, .null, .long 0, .long 0, .null, .null, .null, .null, .null, .int 0, .int 0, .int 0, .int 0, .int 0, .null, .null]))] sz) s [(m0, .inr (9, [.ref q_1, .ref q_2, .ref q_3, .ref q_4, .long 0, .long (Int32.toInt64 1), .ref q_5, .ref q_6, .ref q_7, .ref q_8, .ref q_9, .int 0, .int 0, .int 0, .int 0, .int 0, .null, .null])), (q_1, .inl (X.2.1, 371, .inl (fun _ => 0))), (q_2, .inl (X.2.1, 742, .inl (fun _ => 0))), (q_3, .inl (X.2.2.1, 2, .inl (fun _ => 0))), (q_4, .inl (X.2.1, 3, .inl (fun _ => 0))), (q_5, .inl (X.2.1, 55, .inl (fun _ => 0))), (q_6, .inl (X.2.1, 6, .inl (fun _ => 0))), (q_7, .inl (X.2.1, 10, .inl (fun _ => 0))), (q_8, .inl (X.2.1, 20, .inl (fun _ => 0))), (q_9, .inl (X.2.1, 150, .inl (fun _ => 0)))] H locs := G
  refine lv_aload_n zx zb dX11_init_82 rfl (lv_at hl 0 rfl) ?_
  refine lv_bipush (v := 123) zx zb dX11_init_83 (by decide) ?_
  refine r_newi (cells' := 10) (slots' := 1482) S G mm_X11_init_acint 123 (by decide) (by decide) (Nat.le_of_ble_eq_true rfl) rfl rfl (Nat.le_of_ble_eq_true rfl) (Nat.le_of_ble_eq_true rfl) dX11_init_85 (fun q_10 H G => ?_)
  have G : wd X (va_A [(m0, .inr (9, [.null, .null, .null, .null, .long 0, .long 0, .null, .null, .null, .null, .null, .int 0, .int 0, .int 0, .int 0, .int 0, .null, .null]))] sz) (va_A [(m0, .inr (9, [.null, .null, .null, .null, .long 0, .long 0, .null, .null, .null, .null, .null, .int 0, .int 0, .int 0, .int 0, .int 0, .null, .null]))] sz) s [(m0, .inr (9, [.ref q_1, .ref q_2, .ref q_3, .ref q_4, .long 0, .long (Int32.toInt64 1), .ref q_5, .ref q_6, .ref q_7, .ref q_8, .ref q_9, .int 0, .int 0, .int 0, .int 0, .int 0, .null, .null])), (q_1, .inl (X.2.1, 371, .inl (fun _ => 0))), (q_2, .inl (X.2.1, 742, .inl (fun _ => 0))), (q_3, .inl (X.2.2.1, 2, .inl (fun _ => 0))), (q_4, .inl (X.2.1, 3, .inl (fun _ => 0))), (q_5, .inl (X.2.1, 55, .inl (fun _ => 0))), (q_6, .inl (X.2.1, 6, .inl (fun _ => 0))), (q_7, .inl (X.2.1, 10, .inl (fun _ => 0))), (q_8, .inl (X.2.1, 20, .inl (fun _ => 0))), (q_9, .inl (X.2.1, 150, .inl (fun _ => 0))), (q_10, .inl (X.2.1, 123, .inl (fun _ => 0)))] H locs := G
  refine r_putF (C := RX11) (T := TX11) (N := 18) (ci := 9) (v := .ref q_10) S in_X11_init_X11 tyX11_ok nmX11 G 0 rfl rfl 16 (by decide) lk_X11_init_42 rfl znm rfl rfl rfl (Nat.le_of_ble_eq_true rfl) dX11_init_87 (fun H locs G => ?_)
  have G : wd X (va_A [(m0, .inr (9, [.null, .null, .null, .null, .long 0, .long 0, .null, .null, .null, .null, .null, .int 0, .int 0, .int 0, .int 0, .int 0, .null, .null]))] sz) (va_A [(m0, .inr (9, [.null, .null, .null, .null, .long 0, .long 0, .null, .null, .null, .null, .null, .int 0, .int 0, .int 0, .int 0, .int 0, .null, .null]))] sz) s [(m0, .inr (9, [.ref q_1, .ref q_2, .ref q_3, .ref q_4, .long 0, .long (Int32.toInt64 1), .ref q_5, .ref q_6, .ref q_7, .ref q_8, .ref q_9, .int 0, .int 0, .int 0, .int 0, .int 0, .ref q_10, .null])), (q_1, .inl (X.2.1, 371, .inl (fun _ => 0))), (q_2, .inl (X.2.1, 742, .inl (fun _ => 0))), (q_3, .inl (X.2.2.1, 2, .inl (fun _ => 0))), (q_4, .inl (X.2.1, 3, .inl (fun _ => 0))), (q_5, .inl (X.2.1, 55, .inl (fun _ => 0))), (q_6, .inl (X.2.1, 6, .inl (fun _ => 0))), (q_7, .inl (X.2.1, 10, .inl (fun _ => 0))), (q_8, .inl (X.2.1, 20, .inl (fun _ => 0))), (q_9, .inl (X.2.1, 150, .inl (fun _ => 0))), (q_10, .inl (X.2.1, 123, .inl (fun _ => 0)))] H locs := G
  refine lv_aload_n zx zb dX11_init_90 rfl (lv_at hl 0 rfl) ?_
  refine lv_iconst (v := 3) zx zb dX11_init_91 (by decide) ?_
  refine r_newi (cells' := 11) (slots' := 1485) S G mm_X11_init_acint 3 (by decide) (by decide) (Nat.le_of_ble_eq_true rfl) rfl rfl (Nat.le_of_ble_eq_true rfl) (Nat.le_of_ble_eq_true rfl) dX11_init_92 (fun q_11 H G => ?_)
  have G : wd X (va_A [(m0, .inr (9, [.null, .null, .null, .null, .long 0, .long 0, .null, .null, .null, .null, .null, .int 0, .int 0, .int 0, .int 0, .int 0, .null, .null]))] sz) (va_A [(m0, .inr (9, [.null, .null, .null, .null, .long 0, .long 0, .null, .null, .null, .null, .null, .int 0, .int 0, .int 0, .int 0, .int 0, .null, .null]))] sz) s [(m0, .inr (9, [.ref q_1, .ref q_2, .ref q_3, .ref q_4, .long 0, .long (Int32.toInt64 1), .ref q_5, .ref q_6, .ref q_7, .ref q_8, .ref q_9, .int 0, .int 0, .int 0, .int 0, .int 0, .ref q_10, .null])), (q_1, .inl (X.2.1, 371, .inl (fun _ => 0))), (q_2, .inl (X.2.1, 742, .inl (fun _ => 0))), (q_3, .inl (X.2.2.1, 2, .inl (fun _ => 0))), (q_4, .inl (X.2.1, 3, .inl (fun _ => 0))), (q_5, .inl (X.2.1, 55, .inl (fun _ => 0))), (q_6, .inl (X.2.1, 6, .inl (fun _ => 0))), (q_7, .inl (X.2.1, 10, .inl (fun _ => 0))), (q_8, .inl (X.2.1, 20, .inl (fun _ => 0))), (q_9, .inl (X.2.1, 150, .inl (fun _ => 0))), (q_10, .inl (X.2.1, 123, .inl (fun _ => 0))), (q_11, .inl (X.2.1, 3, .inl (fun _ => 0)))] H locs := G
  refine r_putF (C := RX11) (T := TX11) (N := 18) (ci := 9) (v := .ref q_11) S in_X11_init_X11 tyX11_ok nmX11 G 0 rfl rfl 17 (by decide) lk_X11_init_45 rfl znm rfl rfl rfl (Nat.le_of_ble_eq_true rfl) dX11_init_94 (fun H locs G => ?_)
  have G : wd X (va_A [(m0, .inr (9, [.null, .null, .null, .null, .long 0, .long 0, .null, .null, .null, .null, .null, .int 0, .int 0, .int 0, .int 0, .int 0, .null, .null]))] sz) (va_A [(m0, .inr (9, [.null, .null, .null, .null, .long 0, .long 0, .null, .null, .null, .null, .null, .int 0, .int 0, .int 0, .int 0, .int 0, .null, .null]))] sz) s [(m0, .inr (9, [.ref q_1, .ref q_2, .ref q_3, .ref q_4, .long 0, .long (Int32.toInt64 1), .ref q_5, .ref q_6, .ref q_7, .ref q_8, .ref q_9, .int 0, .int 0, .int 0, .int 0, .int 0, .ref q_10, .ref q_11])), (q_1, .inl (X.2.1, 371, .inl (fun _ => 0))), (q_2, .inl (X.2.1, 742, .inl (fun _ => 0))), (q_3, .inl (X.2.2.1, 2, .inl (fun _ => 0))), (q_4, .inl (X.2.1, 3, .inl (fun _ => 0))), (q_5, .inl (X.2.1, 55, .inl (fun _ => 0))), (q_6, .inl (X.2.1, 6, .inl (fun _ => 0))), (q_7, .inl (X.2.1, 10, .inl (fun _ => 0))), (q_8, .inl (X.2.1, 20, .inl (fun _ => 0))), (q_9, .inl (X.2.1, 150, .inl (fun _ => 0))), (q_10, .inl (X.2.1, 123, .inl (fun _ => 0))), (q_11, .inl (X.2.1, 3, .inl (fun _ => 0)))] H locs := G
  refine lv_aload_n zx zb dX11_init_97 rfl (lv_at hl 0 rfl) ?_
  refine r_get (C := RX11) (T := TX11) (N := 18) (ci := 9) (v := .ref q_1) S in_X11_init_X11 G 0 rfl rfl 0 (by decide) lk_X11_init_7 rfl dX11_init_98 ?_
  refine lv_bipush (v := 20) zx zb dX11_init_101 (by decide) ?_
  refine o_wv (cells' := 11) (slots' := 1485) (wr := [(m0, .inr (9, [.ref q_1, .ref q_2, .ref q_3, .ref q_4, .long 0, .long (Int32.toInt64 1), .ref q_5, .ref q_6, .ref q_7, .ref q_8, .ref q_9, .int 0, .int 0, .int 0, .int 0, .int 0, .ref q_10, .ref q_11])), (q_2, .inl (X.2.1, 742, .inl (fun _ => 0))), (q_3, .inl (X.2.2.1, 2, .inl (fun _ => 0))), (q_4, .inl (X.2.1, 3, .inl (fun _ => 0))), (q_5, .inl (X.2.1, 55, .inl (fun _ => 0))), (q_6, .inl (X.2.1, 6, .inl (fun _ => 0))), (q_7, .inl (X.2.1, 10, .inl (fun _ => 0))), (q_8, .inl (X.2.1, 20, .inl (fun _ => 0))), (q_9, .inl (X.2.1, 150, .inl (fun _ => 0))), (q_10, .inl (X.2.1, 123, .inl (fun _ => 0))), (q_11, .inl (X.2.1, 3, .inl (fun _ => 0)))]) G rfl rfl [1] [0, 2, 3, 4, 5, 6, 7, 8, 9, 10, 11] rfl rfl (by decide) (by decide) (n_S (As := [.ref q_1, .int 20]) (rest := []) S G (m_begin l X q_1 (fun _ => 0) 20 H.size) gX11_init_X11_begin rfl rfl rfl hdS_X11_begin ⟨Nat.le_of_ble_eq_true rfl, Nat.le_of_ble_eq_true rfl⟩ [1] rfl (by decide) rfl hl.1 (Nat.le_of_ble_eq_true rfl) dX11_init_103 ⟨Nat.le_of_ble_eq_true rfl, Nat.le_of_ble_eq_true rfl⟩) (fun u_12 H locs hp_12 G => ?_)
  have G : wd X (va_A [(m0, .inr (9, [.null, .null, .null, .null, .long 0, .long 0, .null, .null, .null, .null, .null, .int 0, .int 0, .int 0, .int 0, .int 0, .null, .null]))] sz) (va_A [(m0, .inr (9, [.null, .null, .null, .null, .long 0, .long 0, .null, .null, .null, .null, .null, .int 0, .int 0, .int 0, .int 0, .int 0, .null, .null]))] sz) s [(m0, .inr (9, [.ref q_1, .ref q_2, .ref q_3, .ref q_4, .long 0, .long (Int32.toInt64 1), .ref q_5, .ref q_6, .ref q_7, .ref q_8, .ref q_9, .int 0, .int 0, .int 0, .int 0, .int 0, .ref q_10, .ref q_11])), (q_2, .inl (X.2.1, 742, .inl (fun _ => 0))), (q_3, .inl (X.2.2.1, 2, .inl (fun _ => 0))), (q_4, .inl (X.2.1, 3, .inl (fun _ => 0))), (q_5, .inl (X.2.1, 55, .inl (fun _ => 0))), (q_6, .inl (X.2.1, 6, .inl (fun _ => 0))), (q_7, .inl (X.2.1, 10, .inl (fun _ => 0))), (q_8, .inl (X.2.1, 20, .inl (fun _ => 0))), (q_9, .inl (X.2.1, 150, .inl (fun _ => 0))), (q_10, .inl (X.2.1, 123, .inl (fun _ => 0))), (q_11, .inl (X.2.1, 3, .inl (fun _ => 0))), (q_1, .inl (X.2.1, 371, .inl u_12))] H locs := G
  exact e_void S zr zlk G (fun k => [q_1, q_2, q_3, q_4, q_5, q_6, q_7, q_8, q_9, q_10, q_11].getD k 0, u_12) [0, 11, 1, 2, 3, 4, 8] rfl (by decide) (Or.inr rfl) (⟨fun j h => k_ini hp_12 h, hp_12.2.1⟩) dX11_init_106
