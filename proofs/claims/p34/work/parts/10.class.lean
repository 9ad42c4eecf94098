set_option maxHeartbeats 4000000 in
set_option maxRecDepth 100000 in
/-- reach answers -/
theorem s_reach (l : Launch) (X : EX) (k : Int32) (l_ : Int32) (t : Int32) (s_ : Int32) (sz : Nat) : Met l yX2_reach wsX2_reach ({ frames := 0, cells := 0, slots := 0, locals := 0 } : Room) (pE X [.int k, .int l_, .int t, .int s_] ([]) sz) (qI (fun (r : Int32) (u : Unit) => True) X (fun (u : Unit) => []) [] sz) 0 0 (va_A [] sz) := by
  refine mk_met (B := (fun _ => True)) (A := (va_A [] sz)) (cc := cX2_reach) (maxL := 7) (ret := (some .int)) (by decide) rfl (Nat.le_of_ble_eq_true rfl) k_ro k_a (fun p e s m below meth c S zr zlk znm zsz G ls hl => ?_)
  have S : CallFix p m c cX2_reach 7 s _ wsX2_reach RX2 := S
  have zx := S.1
  have zb := S.2.1
  have hl : lv_has ls 7 [(0, .int k), (1, .int l_), (2, .int t), (3, .int s_)] := hl
  refine lv_iload_n zx zb dX2_reach_0 rfl (lv_at hl 3 rfl) ?_
  refine lv_iload_n zx zb dX2_reach_1 rfl (lv_at hl 1 rfl) ?_
  refine k_cutW (PP := fun Wx => ∀ (x_2 : Int32) (H : Heap) (locs : List Loc) (ls : Array Slot), wd X (fun _ => True) (va_A [] sz) s ([]) H locs → lv_has ls 7 [(0, .int k), (1, .int l_), (2, .int t), (3, .int s_)] → Wx (F0 m 10 ls [.int x_2]) H locs) ?_ ?_
  · intro join_2
    refine lv_icmp_ge (tgt := 9) zx zb dX2_reach_2 (by decide) (fun c_1 => ?_) (fun c_1 => ?_)
    · refine lv_iload_n zx zb dX2_reach_9 rfl (lv_at hl 1 rfl) ?_
      exact join_2 l_ _ _ _  G hl
    · refine lv_iload_n zx zb dX2_reach_5 rfl (lv_at hl 3 rfl) ?_
      refine lv_goto (tgt := 10) zx zb dX2_reach_6 (by decide) ?_
      exact join_2 s_ _ _ _  G hl
  · intro x_2 H locs ls  G hl
    refine lv_istore (lv' := [(4, .int x_2), (0, .int k), (1, .int l_), (2, .int t), (3, .int s_)]) zx zb dX2_reach_10 hl (by decide) rfl (fun ls hl => ?_)
    refine lv_iload_n zx zb dX2_reach_12 rfl (lv_at hl 4 rfl) ?_
    refine lv_iconst (v := 5) zx zb dX2_reach_13 (by decide) ?_
    refine k_cutW (PP := fun Wx => ∀ (x_4 : Int32) (H : Heap) (locs : List Loc) (ls : Array Slot), wd X (fun _ => True) (va_A [] sz) s ([]) H locs → lv_has ls 7 [(4, .int x_2), (0, .int k), (1, .int l_), (2, .int t), (3, .int s_)] → Wx (F0 m 26 ls [.int x_4]) H locs) ?_ ?_
    · intro join_14
      refine lv_icmp_lt (tgt := 24) zx zb dX2_reach_14 (by decide) (fun c_3 => ?_) (fun c_3 => ?_)
      · refine lv_iload zx zb dX2_reach_24 (lv_at hl 0 rfl) ?_
        exact join_14 x_2 _ _ _  G hl
      · refine lv_iload zx zb dX2_reach_17 (lv_at hl 0 rfl) ?_
        refine lv_iconst (v := 1) zx zb dX2_reach_19 (by decide) ?_
        refine r_iadd (v := (x_2 + 1)) S rfl dX2_reach_20 ?_
        refine lv_goto (tgt := 26) zx zb dX2_reach_21 (by decide) ?_
        exact join_14 (x_2 + 1) _ _ _  G hl
    · intro x_4 H locs ls  G hl
      refine lv_istore (lv' := [(5, .int x_4), (4, .int x_2), (0, .int k), (1, .int l_), (2, .int t), (3, .int s_)]) zx zb dX2_reach_26 hl (by decide) rfl (fun ls hl => ?_)
      refine lv_iload zx zb dX2_reach_28 (lv_at hl 1 rfl) ?_
      refine lv_iload_n zx zb dX2_reach_30 rfl (lv_at hl 4 rfl) ?_
      refine lv_bipush (v := 10) zx zb dX2_reach_31 (by decide) ?_
      refine lv_idiv zx zb dX2_reach_33 (by decide) ?_
      refine k_itE (fun y_5 => ?_)
      refine k_cutW (PP := fun Wx => ∀ (x_7 : Int32) (H : Heap) (locs : List Loc) (ls : Array Slot), wd X (fun _ => True) (va_A [] sz) s ([]) H locs → lv_has ls 7 [(5, .int x_4), (4, .int x_2), (0, .int k), (1, .int l_), (2, .int t), (3, .int s_)] → Wx (F0 m 48 ls [.int x_7]) H locs) ?_ ?_
      · intro join_34
        refine lv_icmp_le (tgt := 47) zx zb dX2_reach_34 (by decide) (fun c_6 => ?_) (fun c_6 => ?_)
        · refine lv_iconst (v := 0) zx zb dX2_reach_47 (by decide) ?_
          exact join_34 0 _ _ _  G hl
        · refine lv_iload zx zb dX2_reach_37 (lv_at hl 1 rfl) ?_
          refine lv_iload_n zx zb dX2_reach_39 rfl (lv_at hl 4 rfl) ?_
          refine lv_bipush (v := 10) zx zb dX2_reach_40 (by decide) ?_
          refine lv_idiv zx zb dX2_reach_42 (by decide) ?_
          refine k_itE (fun y_8 => ?_)
          refine r_isub (v := (x_2 - y_8)) S rfl dX2_reach_43 ?_
          refine lv_goto (tgt := 48) zx zb dX2_reach_44 (by decide) ?_
          exact join_34 (x_2 - y_8) _ _ _  G hl
      · intro x_7 H locs ls  G hl
        refine lv_istore (lv' := [(6, .int x_7), (5, .int x_4), (4, .int x_2), (0, .int k), (1, .int l_), (2, .int t), (3, .int s_)]) zx zb dX2_reach_48 hl (by decide) rfl (fun ls hl => ?_)
        refine lv_iload_n zx zb dX2_reach_50 rfl (lv_at hl 3 rfl) ?_
        rcases k_ts1_5 k with w_9 | w_9 | w_9 | w_9 | w_9 | w_9
        · refine k_it w_9 ?_
          refine lv_tableIn (off := 33) (tgt := 84) zx zb dX2_reach_51 (by decide) (by decide) rfl (by decide) ?_
          refine lv_iload zx zb dX2_reach_84 (lv_at hl 1 rfl) ?_
          exact e_int S zr zlk (vp_nar_int _) G () [] rfl rfl (Or.inl rfl) (trivial) dX2_reach_86
        · refine k_it w_9 ?_
          refine lv_tableIn (off := 36) (tgt := 87) zx zb dX2_reach_51 (by decide) (by decide) rfl (by decide) ?_
          refine lv_iload zx zb dX2_reach_87 (lv_at hl 0 rfl) ?_
          exact e_int S zr zlk (vp_nar_int _) G () [] rfl rfl (Or.inl rfl) (trivial) dX2_reach_89
        · refine k_it w_9 ?_
          refine lv_tableIn (off := 39) (tgt := 90) zx zb dX2_reach_51 (by decide) (by decide) rfl (by decide) ?_
          refine lv_iload_n zx zb dX2_reach_90 rfl (lv_at hl 5 rfl) ?_
          refine lv_iconst (v := 5) zx zb dX2_reach_91 (by decide) ?_
          refine lv_irem zx zb dX2_reach_92 (by decide) ?_
          refine k_itE (fun y_10 => ?_)
          refine lv_iconst (v := 4) zx zb dX2_reach_93 (by decide) ?_
          refine k_cutW (PP := fun Wx => ∀ (x_12 : Int32) (H : Heap) (locs : List Loc) (ls : Array Slot), wd X (fun _ => True) (va_A [] sz) s ([]) H locs → lv_has ls 7 [(6, .int x_7), (5, .int x_4), (4, .int x_2), (0, .int k), (1, .int l_), (2, .int t), (3, .int s_)] → Wx (F0 m 106 ls [.int x_12]) H locs) ?_ ?_
          · intro join_94
            refine lv_icmp_ne (tgt := 104) zx zb dX2_reach_94 (by decide) (fun c_11 => ?_) (fun c_11 => ?_)
            · refine lv_iload zx zb dX2_reach_104 (lv_at hl 1 rfl) ?_
              exact join_94 x_4 _ _ _  G hl
            · refine lv_iload zx zb dX2_reach_97 (lv_at hl 1 rfl) ?_
              refine lv_iconst (v := 3) zx zb dX2_reach_99 (by decide) ?_
              refine r_iadd (v := (x_4 + 3)) S rfl dX2_reach_100 ?_
              refine lv_goto (tgt := 106) zx zb dX2_reach_101 (by decide) ?_
              exact join_94 (x_4 + 3) _ _ _  G hl
          · intro x_12 H locs ls  G hl
            exact e_int S zr zlk (vp_nar_int _) G () [] rfl rfl (Or.inl rfl) (trivial) dX2_reach_106
        · refine k_it w_9 ?_
          refine lv_tableIn (off := 56) (tgt := 107) zx zb dX2_reach_51 (by decide) (by decide) rfl (by decide) ?_
          refine lv_iload zx zb dX2_reach_107 (lv_at hl 2 rfl) ?_
          refine lv_iconst (v := 1) zx zb dX2_reach_109 (by decide) ?_
          refine r_iadd (v := (x_2 + 1)) S rfl dX2_reach_110 ?_
          refine lv_iconst (v := 2) zx zb dX2_reach_111 (by decide) ?_
          refine lv_idiv zx zb dX2_reach_112 (by decide) ?_
          refine k_itE (fun y_13 => ?_)
          exact e_int S zr zlk (vp_nar_int _) G () [] rfl rfl (Or.inl rfl) (trivial) dX2_reach_113
        · refine k_it w_9 ?_
          refine lv_tableIn (off := 63) (tgt := 114) zx zb dX2_reach_51 (by decide) (by decide) rfl (by decide) ?_
          refine lv_iload_n zx zb dX2_reach_114 rfl (lv_at hl 5 rfl) ?_
          refine lv_iconst (v := 2) zx zb dX2_reach_115 (by decide) ?_
          refine lv_irem zx zb dX2_reach_116 (by decide) ?_
          refine k_itE (fun y_14 => ?_)
          refine lv_iconst (v := 1) zx zb dX2_reach_117 (by decide) ?_
          refine k_cutW (PP := fun Wx => ∀ (x_16 : Int32) (H : Heap) (locs : List Loc) (ls : Array Slot), wd X (fun _ => True) (va_A [] sz) s ([]) H locs → lv_has ls 7 [(6, .int x_7), (5, .int x_4), (4, .int x_2), (0, .int k), (1, .int l_), (2, .int t), (3, .int s_)] → Wx (F0 m 130 ls [.int x_16]) H locs) ?_ ?_
          · intro join_118
            refine lv_icmp_ne (tgt := 128) zx zb dX2_reach_118 (by decide) (fun c_15 => ?_) (fun c_15 => ?_)
            · refine lv_iload zx zb dX2_reach_128 (lv_at hl 0 rfl) ?_
              exact join_118 x_7 _ _ _  G hl
            · refine lv_iload zx zb dX2_reach_121 (lv_at hl 0 rfl) ?_
              refine lv_iconst (v := 2) zx zb dX2_reach_123 (by decide) ?_
              refine r_iadd (v := (x_7 + 2)) S rfl dX2_reach_124 ?_
              refine lv_goto (tgt := 130) zx zb dX2_reach_125 (by decide) ?_
              exact join_118 (x_7 + 2) _ _ _  G hl
          · intro x_16 H locs ls  G hl
            exact e_int S zr zlk (vp_nar_int _) G () [] rfl rfl (Or.inl rfl) (trivial) dX2_reach_130
        · refine lv_tableOut (tgt := 131) zx zb dX2_reach_51 w_9 (by decide) ?_
          refine lv_iload zx zb dX2_reach_131 (lv_at hl 2 rfl) ?_
          exact e_int S zr zlk (vp_nar_int _) G () [] rfl rfl (Or.inl rfl) (trivial) dX2_reach_133
set_option maxHeartbeats 4000000 in
set_option maxRecDepth 100000 in
/-- limit answers -/
theorem s_limit (l : Launch) (X : EX) (k : Int32) (t : Int32) (sz : Nat) : Met l yX1_limit wsX1_limit ({ frames := 0, cells := 0, slots := 0, locals := 0 } : Room) (pE X [.int k, .int t] ([]) sz) (qI (fun (r : Int32) (u : Unit) => True) X (fun (u : Unit) => []) [] sz) 0 0 (va_A [] sz) := by
  refine mk_met (B := (fun _ => True)) (A := (va_A [] sz)) (cc := cX1_limit) (maxL := 5) (ret := (some .int)) (by decide) rfl (Nat.le_of_ble_eq_true rfl) k_ro k_a (fun p e s m below meth c S zr zlk znm zsz G ls hl => ?_)
  have S : CallFix p m c cX1_limit 5 s _ wsX1_limit RX1 := S
  have zx := S.1
  have zb := S.2.1
  have hl : lv_has ls 5 [(0, .int k), (1, .int t)] := hl
  refine lv_iconst (v := 4) zx zb dX1_limit_0 (by decide) ?_
  refine lv_istore_n (lv' := [(2, .int 4), (0, .int k), (1, .int t)]) zx zb dX1_limit_1 rfl hl (by decide) rfl (fun ls hl => ?_)
  refine lv_iload_n zx zb dX1_limit_2 rfl (lv_at hl 0 rfl) ?_
  refine lv_iconst (v := 1) zx zb dX1_limit_3 (by decide) ?_
  refine r_iadd (v := 5) S (by decide) dX1_limit_4 ?_
  refine lv_istore_n (lv' := [(3, .int 5), (2, .int 4), (0, .int k), (1, .int t)]) zx zb dX1_limit_5 rfl hl (by decide) rfl (fun ls hl => ?_)
  refine lv_iload_n zx zb dX1_limit_6 rfl (lv_at hl 3 rfl) ?_
  refine lv_iconst (v := 2) zx zb dX1_limit_7 (by decide) ?_
  refine lv_irem zx zb dX1_limit_8 (by decide) ?_
  refine k_itE (fun y_1 => ?_)
  refine lv_iconst (v := 1) zx zb dX1_limit_9 (by decide) ?_
  refine k_cutW (PP := fun Wx => ∀ (x_3 : Int32) (H : Heap) (locs : List Loc) (ls : Array Slot), wd X (fun _ => True) (va_A [] sz) s ([]) H locs → lv_has ls 5 [(3, .int 5), (2, .int 4), (0, .int k), (1, .int t)] → Wx (F0 m 20 ls [.int x_3]) H locs) ?_ ?_
  · intro join_10
    refine lv_icmp_ne (tgt := 19) zx zb dX1_limit_10 (by decide) (fun c_2 => ?_) (fun c_2 => ?_)
    · refine lv_iload_n zx zb dX1_limit_19 rfl (lv_at hl 1 rfl) ?_
      exact join_10 4 _ _ _  G hl
    · refine lv_iload_n zx zb dX1_limit_13 rfl (lv_at hl 1 rfl) ?_
      refine lv_iconst (v := 1) zx zb dX1_limit_14 (by decide) ?_
      refine r_isub (v := 3) S (by decide) dX1_limit_15 ?_
      refine lv_goto (tgt := 20) zx zb dX1_limit_16 (by decide) ?_
      exact join_10 3 _ _ _  G hl
  · intro x_3 H locs ls  G hl
    refine lv_istore (lv' := [(4, .int x_3), (3, .int 5), (2, .int 4), (0, .int k), (1, .int t)]) zx zb dX1_limit_20 hl (by decide) rfl (fun ls hl => ?_)
    refine lv_iload_n zx zb dX1_limit_22 rfl (lv_at hl 3 rfl) ?_
    rcases k_ts1_5 k with w_4 | w_4 | w_4 | w_4 | w_4 | w_4
    · refine k_it w_4 ?_
      refine lv_tableIn (off := 33) (tgt := 56) zx zb dX1_limit_23 (by decide) (by decide) rfl (by decide) ?_
      refine lv_iload_n zx zb dX1_limit_56 rfl (lv_at hl 1 rfl) ?_
      exact e_int S zr zlk (vp_nar_int _) G () [] rfl rfl (Or.inl rfl) (trivial) dX1_limit_57
    · refine k_it w_4 ?_
      refine lv_tableIn (off := 35) (tgt := 58) zx zb dX1_limit_23 (by decide) (by decide) rfl (by decide) ?_
      refine lv_iload zx zb dX1_limit_58 (lv_at hl 0 rfl) ?_
      exact e_int S zr zlk (vp_nar_int _) G () [] rfl rfl (Or.inl rfl) (trivial) dX1_limit_60
    · refine k_it w_4 ?_
      refine lv_tableIn (off := 38) (tgt := 61) zx zb dX1_limit_23 (by decide) (by decide) rfl (by decide) ?_
      refine lv_iload_n zx zb dX1_limit_61 rfl (lv_at hl 4 rfl) ?_
      refine lv_iconst (v := 3) zx zb dX1_limit_62 (by decide) ?_
      refine k_cutW (PP := fun Wx => ∀ (x_6 : Int32) (H : Heap) (locs : List Loc) (ls : Array Slot), wd X (fun _ => True) (va_A [] sz) s ([]) H locs → lv_has ls 5 [(4, .int x_3), (3, .int 5), (2, .int 4), (0, .int k), (1, .int t)] → Wx (F0 m 73 ls [.int x_6]) H locs) ?_ ?_
      · intro join_63
        refine lv_icmp_ge (tgt := 72) zx zb dX1_limit_63 (by decide) (fun c_5 => ?_) (fun c_5 => ?_)
        · refine lv_iload_n zx zb dX1_limit_72 rfl (lv_at hl 1 rfl) ?_
          exact join_63 5 _ _ _  G hl
        · refine lv_iload_n zx zb dX1_limit_66 rfl (lv_at hl 1 rfl) ?_
          refine lv_iconst (v := 3) zx zb dX1_limit_67 (by decide) ?_
          refine r_iadd (v := 8) S (by decide) dX1_limit_68 ?_
          refine lv_goto (tgt := 73) zx zb dX1_limit_69 (by decide) ?_
          exact join_63 8 _ _ _  G hl
      · intro x_6 H locs ls  G hl
        exact e_int S zr zlk (vp_nar_int _) G () [] rfl rfl (Or.inl rfl) (trivial) dX1_limit_73
    · refine k_it w_4 ?_
      refine lv_tableIn (off := 51) (tgt := 74) zx zb dX1_limit_23 (by decide) (by decide) rfl (by decide) ?_
      refine lv_iload zx zb dX1_limit_74 (lv_at hl 0 rfl) ?_
      refine lv_iconst (v := 1) zx zb dX1_limit_76 (by decide) ?_
      refine r_isub (v := (x_3 - 1)) S rfl dX1_limit_77 ?_
      exact e_int S zr zlk (vp_nar_int _) G () [] rfl rfl (Or.inl rfl) (trivial) dX1_limit_78
    · refine k_it w_4 ?_
      refine lv_tableIn (off := 56) (tgt := 79) zx zb dX1_limit_23 (by decide) (by decide) rfl (by decide) ?_
      refine lv_iload_n zx zb dX1_limit_79 rfl (lv_at hl 4 rfl) ?_
      refine lv_iconst (v := 4) zx zb dX1_limit_80 (by decide) ?_
      refine lv_irem zx zb dX1_limit_81 (by decide) ?_
      refine k_itE (fun y_7 => ?_)
      refine k_cutW (PP := fun Wx => ∀ (x_9 : Int32) (H : Heap) (locs : List Loc) (ls : Array Slot), wd X (fun _ => True) (va_A [] sz) s ([]) H locs → lv_has ls 5 [(4, .int x_3), (3, .int 5), (2, .int 4), (0, .int k), (1, .int t)] → Wx (F0 m 92 ls [.int x_9]) H locs) ?_ ?_
      · intro join_82
        refine lv_if_ne (tgt := 91) zx zb dX1_limit_82 (by decide) (fun c_8 => ?_) (fun c_8 => ?_)
        · refine lv_iload_n zx zb dX1_limit_91 rfl (lv_at hl 1 rfl) ?_
          exact join_82 5 _ _ _  G hl
        · refine lv_iload_n zx zb dX1_limit_85 rfl (lv_at hl 1 rfl) ?_
          refine lv_iconst (v := 2) zx zb dX1_limit_86 (by decide) ?_
          refine r_iadd (v := 7) S (by decide) dX1_limit_87 ?_
          refine lv_goto (tgt := 92) zx zb dX1_limit_88 (by decide) ?_
          exact join_82 7 _ _ _  G hl
      · intro x_9 H locs ls  G hl
        exact e_int S zr zlk (vp_nar_int _) G () [] rfl rfl (Or.inl rfl) (trivial) dX1_limit_92
    · refine lv_tableOut (tgt := 93) zx zb dX1_limit_23 w_4 (by decide) ?_
      refine lv_iload_n zx zb dX1_limit_93 rfl (lv_at hl 2 rfl) ?_
      exact e_int S zr zlk (vp_nar_int _) G () [] rfl rfl (Or.inl rfl) (trivial) dX1_limit_94
theorem in_X8_isHome_X8 : ∀ w ∈ wsX80, w ∈ wsX8_isHome := by decide +kernel
theorem lk_X8_isHome_33 : Cond.fieldLink RX8 33 "EggSpoons$Runner" "homeAt" "I" ∈ wsX8_isHome := by decide +kernel
set_option maxHeartbeats 4000000 in
set_option maxRecDepth 100000 in
/-- isHome answers -/
theorem s_isHome (l : Launch) (X : EX) (h0 : Nat) (v : Nat → Int32) (sz : Nat) : Met l yX8_isHome wsX8_isHome ({ frames := 0, cells := 0, slots := 0, locals := 0 } : Room) (pE X [.ref h0] (rnW h0 v) sz) (qI (fun (r : Int32) (u : Unit) => r = 0 ∨ r = 1) X (fun (u : Unit) => []) [] sz) 0 0 (va_A [] sz) := by
  refine mk_met (B := (fun _ => True)) (A := (va_A [] sz)) (cc := cX8_isHome) (maxL := 1) (ret := (some .boolean)) (by decide) rfl (Nat.le_of_ble_eq_true rfl) k_ro k_a (fun p e s m below meth c S zr zlk znm zsz G ls hl => ?_)
  have S : CallFix p m c cX8_isHome 1 s _ wsX8_isHome RX8 := S
  have zx := S.1
  have zb := S.2.1
  have hl : lv_has ls 1 [(0, .ref h0)] := hl
  refine lv_aload_n zx zb dX8_isHome_0 rfl (lv_at hl 0 rfl) ?_
  refine r_get (C := RX8) (T := TX8) (N := 8) (ci := 6) (v := .int (v 7)) S in_X8_isHome_X8 G 0 rfl rfl 7 (by decide) lk_X8_isHome_33 rfl dX8_isHome_1 ?_
  refine lv_iconst (v := (-1)) zx zb dX8_isHome_4 (by decide) ?_
  refine k_cutW (PP := fun Wx => ∀ (x_2 : Int32) (H : Heap) (locs : List Loc) (ls : Array Slot), wd X (fun _ => True) (va_A [] sz) s (rnW h0 v) H locs → lv_has ls 1 [(0, .ref h0)] → Wx (F0 m 13 ls [.int x_2]) H locs) ?_ ?_
  · intro join_5
    refine lv_icmp_eq (tgt := 12) zx zb dX8_isHome_5 (by decide) (fun c_1 => ?_) (fun c_1 => ?_)
    · refine lv_iconst (v := 0) zx zb dX8_isHome_12 (by decide) ?_
      exact join_5 0 _ _ _  G hl
    · refine lv_iconst (v := 1) zx zb dX8_isHome_8 (by decide) ?_
      refine lv_goto (tgt := 13) zx zb dX8_isHome_9 (by decide) ?_
      exact join_5 1 _ _ _  G hl
  · intro x_2 H locs ls  G hl
    exact e_int S zr zlk (by assumption) G () [] rfl rfl (Or.inl rfl) (by first | exact Or.inl rfl | exact Or.inr rfl) dX8_isHome_13
theorem hdV_X8_isHome : yX8_isHome.cls = RX8 ∧ yX8_isHome.cls ≠ "java/lang/invoke/MethodHandle" ∧ yX8_isHome.cls ≠ "java/lang/invoke/VarHandle" ∧ (parseMethodDescriptor yX8_isHome.desc).map (fun d => d.parameters.length) = some 0 := by decide +kernel
theorem in_X8_step_X8 : ∀ w ∈ wsX80, w ∈ wsX8_step := by decide +kernel
theorem lk_X8_step_30 : Cond.fieldLink RX8 30 "EggSpoons$Runner" "waits" "I" ∈ wsX8_step := by decide +kernel
theorem lk_X8_step_9 : Cond.fieldLink RX8 9 "EggSpoons$Runner" "kind" "I" ∈ wsX8_step := by decide +kernel
theorem lk_X8_step_15 : Cond.fieldLink RX8 15 "EggSpoons$Runner" "legs" "I" ∈ wsX8_step := by decide +kernel
theorem lk_X8_step_21 : Cond.fieldLink RX8 21 "EggSpoons$Runner" "speed" "I" ∈ wsX8_step := by decide +kernel
theorem hdS_X2_reach : yX2_reach.cls ≠ "java/lang/invoke/MethodHandle" ∧ yX2_reach.cls ≠ "java/lang/invoke/VarHandle" ∧ (parseMethodDescriptor yX2_reach.desc).map (fun d => d.parameters.length) = some 4 := by decide +kernel
theorem lk_X8_step_18 : Cond.fieldLink RX8 18 "EggSpoons$Runner" "egg" "I" ∈ wsX8_step := by decide +kernel
theorem hdS_X1_limit : yX1_limit.cls ≠ "java/lang/invoke/MethodHandle" ∧ yX1_limit.cls ≠ "java/lang/invoke/VarHandle" ∧ (parseMethodDescriptor yX1_limit.desc).map (fun d => d.parameters.length) = some 2 := by decide +kernel
theorem lk_X8_step_24 : Cond.fieldLink RX8 24 "EggSpoons$Runner" "place" "I" ∈ wsX8_step := by decide +kernel
theorem lk_X8_step_33 : Cond.fieldLink RX8 33 "EggSpoons$Runner" "homeAt" "I" ∈ wsX8_step := by decide +kernel
theorem lk_X8_step_27 : Cond.fieldLink RX8 27 "EggSpoons$Runner" "drops" "I" ∈ wsX8_step := by decide +kernel
set_option maxHeartbeats 4000000 in
set_option maxRecDepth 100000 in
/-- step: some runner -/
theorem s_step (l : Launch) (X : EX) (h0 : Nat) (v : Nat → Int32) (t : Int32) (x : Int32) (sz : Nat) : Met l yX8_step wsX8_step ({ frames := 1, cells := 0, slots := 0, locals := 26 } : Room) (pE X [.ref h0, .int t, .int x] (rnW h0 v) sz) (qV (fun (u : (Nat → Int32)) => (True)) X (fun (u : (Nat → Int32)) => rnW h0 u) (rnW h0 v) sz) 0 0 (va_A (rnW h0 v) sz) := by
  refine mk_met (B := (va_A (rnW h0 v) sz)) (A := (va_A (rnW h0 v) sz)) (cc := cX8_step) (maxL := 4) (ret := none) (by decide) rfl (Nat.le_of_ble_eq_true rfl) k_w k_a (fun p e s m below meth c S zr zlk znm zsz G ls hl => ?_)
  have S : CallFix p m c cX8_step 4 s _ wsX8_step RX8 := S
  have zx := S.1
  have zb := S.2.1
  have hl : lv_has ls 4 [(0, .ref h0), (1, .int t), (2, .int x)] := hl
  refine lv_aload_n zx zb dX8_step_0 rfl (lv_at hl 0 rfl) ?_
  refine o_ri (cells' := 0) (slots' := 0) G rfl rfl (n_V (As := []) (rest := []) (C := RX8) (T := TX8) (N := 8) (ci := 6) S G (s_isHome l X h0 v s.heap.size) gX8_step_X8_isHome rfl rfl rfl hdV_X8_isHome ⟨Nat.le_of_ble_eq_true rfl, Nat.le_of_ble_eq_true rfl⟩ [0] rfl rfl 0 rfl rfl rfl hl.1 (Nat.le_of_ble_eq_true rfl) dX8_step_1 ⟨Nat.le_of_ble_eq_true rfl, Nat.le_of_ble_eq_true rfl⟩) (fun r_1 u_1 H locs hp_1 G => ?_)
  have G : wd X (va_A (rnW h0 v) sz) (va_A (rnW h0 v) sz) s (rnW h0 v) H locs := G
  refine lv_if_eq (tgt := 8) zx zb dX8_step_4 (by decide) (fun c_2 => ?_) (fun c_2 => ?_)
  · refine lv_aload_n zx zb dX8_step_8 rfl (lv_at hl 0 rfl) ?_
    refine r_get (C := RX8) (T := TX8) (N := 8) (ci := 6) (v := .int (v 6)) S in_X8_step_X8 G 0 rfl rfl 6 (by decide) lk_X8_step_30 rfl dX8_step_9 ?_
    refine lv_if_le (tgt := 26) zx zb dX8_step_12 (by decide) (fun c_3 => ?_) (fun c_3 => ?_)
    · refine lv_aload_n zx zb dX8_step_26 rfl (lv_at hl 0 rfl) ?_
      refine r_get (C := RX8) (T := TX8) (N := 8) (ci := 6) (v := .int (v 0)) S in_X8_step_X8 G 0 rfl rfl 0 (by decide) lk_X8_step_9 rfl dX8_step_27 ?_
      refine lv_aload_n zx zb dX8_step_30 rfl (lv_at hl 0 rfl) ?_
      refine r_get (C := RX8) (T := TX8) (N := 8) (ci := 6) (v := .int (v 1)) S in_X8_step_X8 G 0 rfl rfl 1 (by decide) lk_X8_step_15 rfl dX8_step_31 ?_
      refine lv_iload_n zx zb dX8_step_34 rfl (lv_at hl 1 rfl) ?_
      refine lv_aload_n zx zb dX8_step_35 rfl (lv_at hl 0 rfl) ?_
      refine r_get (C := RX8) (T := TX8) (N := 8) (ci := 6) (v := .int (v 3)) S in_X8_step_X8 G 0 rfl rfl 3 (by decide) lk_X8_step_21 rfl dX8_step_36 ?_
      refine o_ri (cells' := 0) (slots' := 0) G rfl rfl (n_S (As := [.int (v 0), .int (v 1), .int t, .int (v 3)]) (rest := []) S G (s_reach l X (v 0) (v 1) t (v 3) H.size) gX8_step_X2_reach rfl rfl rfl hdS_X2_reach ⟨Nat.le_of_ble_eq_true rfl, Nat.le_of_ble_eq_true rfl⟩ [] rfl rfl rfl hl.1 (Nat.le_of_ble_eq_true rfl) dX8_step_39 ⟨Nat.le_of_ble_eq_true rfl, Nat.le_of_ble_eq_true rfl⟩) (fun r_4 u_4 H locs hp_4 G => ?_)
      have G : wd X (va_A (rnW h0 v) sz) (va_A (rnW h0 v) sz) s (rnW h0 v) H locs := G
      refine lv_istore_n (lv' := [(3, .int r_4), (0, .ref h0), (1, .int t), (2, .int x)]) zx zb dX8_step_42 rfl hl (by decide) rfl (fun ls hl => ?_)
      refine lv_iload_n zx zb dX8_step_43 rfl (lv_at hl 0 rfl) ?_
      refine lv_aload_n zx zb dX8_step_44 rfl (lv_at hl 1 rfl) ?_
      refine r_get (C := RX8) (T := TX8) (N := 8) (ci := 6) (v := .int (v 2)) S in_X8_step_X8 G 0 rfl rfl 2 (by decide) lk_X8_step_18 rfl dX8_step_45 ?_
      refine lv_iload_n zx zb dX8_step_48 rfl (lv_at hl 2 rfl) ?_
      refine o_ri (cells' := 0) (slots' := 0) G rfl rfl (n_S (As := [.int (v 2), .int t]) (rest := [.int r_4]) S G (s_limit l X (v 2) t H.size) gX8_step_X1_limit rfl rfl rfl hdS_X1_limit ⟨Nat.le_of_ble_eq_true rfl, Nat.le_of_ble_eq_true rfl⟩ [] rfl rfl rfl hl.1 (Nat.le_of_ble_eq_true rfl) dX8_step_49 ⟨Nat.le_of_ble_eq_true rfl, Nat.le_of_ble_eq_true rfl⟩) (fun r_5 u_5 H locs hp_5 G => ?_)
      have G : wd X (va_A (rnW h0 v) sz) (va_A (rnW h0 v) sz) s (rnW h0 v) H locs := G
      refine lv_icmp_le (tgt := 85) zx zb dX8_step_52 (by decide) (fun c_6 => ?_) (fun c_6 => ?_)
      · refine lv_aload_n zx zb dX8_step_85 rfl (lv_at hl 1 rfl) ?_
        refine lv_dup zx zb dX8_step_86 rfl ?_
        refine r_get (C := RX8) (T := TX8) (N := 8) (ci := 6) (v := .int (v 4)) S in_X8_step_X8 G 0 rfl rfl 4 (by decide) lk_X8_step_24 rfl dX8_step_87 ?_
        refine lv_iload_n zx zb dX8_step_90 rfl (lv_at hl 0 rfl) ?_
        refine r_iadd (v := ((v 4) + r_4)) S rfl dX8_step_91 ?_
        refine r_put (C := RX8) (T := TX8) (N := 8) (ci := 6) (v := .int ((v 4) + r_4)) S in_X8_step_X8 tyX8_ok nmX8 G 0 rfl rfl 4 (by decide) lk_X8_step_24 rfl (vp_nar_int _) rfl (Nat.le_of_ble_eq_true rfl) dX8_step_92 (fun H locs G => ?_)
        obtain ⟨v_7, G⟩ : ∃ v_7 : Nat → Int32, wd X (va_A (rnW h0 v) sz) (va_A (rnW h0 v) sz) s (rnW h0 v_7) H locs := ⟨upd v 4 ((v 4) + r_4), G⟩
        refine lv_aload_n zx zb dX8_step_95 rfl (lv_at hl 1 rfl) ?_
        refine r_get (C := RX8) (T := TX8) (N := 8) (ci := 6) (v := .int (v_7 4)) S in_X8_step_X8 G 0 rfl rfl 4 (by decide) lk_X8_step_24 rfl dX8_step_96 ?_
        refine lv_iload_n zx zb dX8_step_99 rfl (lv_at hl 3 rfl) ?_
        refine k_cutW (PP := fun Wx => ∀ (v_9 : Nat → Int32) (H : Heap) (locs : List Loc) (ls : Array Slot), wd X (va_A (rnW h0 v) sz) (va_A (rnW h0 v) sz) s (rnW h0 v_9) H locs → lv_has ls 4 [(3, .int r_4), (0, .ref h0), (1, .int t), (2, .int x)] → Wx (F0 m 108 ls []) H locs) ?_ ?_
        · intro join_100
          refine lv_icmp_lt (tgt := 108) zx zb dX8_step_100 (by decide) (fun c_8 => ?_) (fun c_8 => ?_)
          · exact join_100 v_7 _ _ _  G hl
          · refine lv_aload_n zx zb dX8_step_103 rfl (lv_at hl 1 rfl) ?_
            refine lv_iload_n zx zb dX8_step_104 rfl (lv_at hl 2 rfl) ?_
            refine r_put (C := RX8) (T := TX8) (N := 8) (ci := 6) (v := .int t) S in_X8_step_X8 tyX8_ok nmX8 G 0 rfl rfl 7 (by decide) lk_X8_step_33 rfl (vp_nar_int _) rfl (Nat.le_of_ble_eq_true rfl) dX8_step_105 (fun H locs G => ?_)
            obtain ⟨v_10, G⟩ : ∃ v_10 : Nat → Int32, wd X (va_A (rnW h0 v) sz) (va_A (rnW h0 v) sz) s (rnW h0 v_10) H locs := ⟨upd v_7 7 t, G⟩
            exact join_100 v_10 _ _ _  G hl
        · intro v_9 H locs ls  G hl
          exact e_void S zr zlk G (v_9) [0] rfl rfl (Or.inr rfl) (trivial) dX8_step_108
      · refine lv_aload_n zx zb dX8_step_55 rfl (lv_at hl 1 rfl) ?_
        refine lv_aload_n zx zb dX8_step_56 rfl (lv_at hl 1 rfl) ?_
        refine r_get (C := RX8) (T := TX8) (N := 8) (ci := 6) (v := .int (v 5)) S in_X8_step_X8 G 0 rfl rfl 5 (by decide) lk_X8_step_27 rfl dX8_step_57 ?_
        refine lv_bipush (v := 99) zx zb dX8_step_60 (by decide) ?_
        refine k_cutW (PP := fun Wx => ∀ (x_12 : Int32) (H : Heap) (locs : List Loc) (ls : Array Slot), wd X (va_A (rnW h0 v) sz) (va_A (rnW h0 v) sz) s (rnW h0 v) H locs → lv_has ls 4 [(3, .int r_4), (0, .ref h0), (1, .int t), (2, .int x)] → Wx (F0 m 76 ls [.int x_12, .ref h0]) H locs) ?_ ?_
        · intro join_62
          refine lv_icmp_ge (tgt := 74) zx zb dX8_step_62 (by decide) (fun c_11 => ?_) (fun c_11 => ?_)
          · refine lv_bipush (v := 99) zx zb dX8_step_74 (by decide) ?_
            exact join_62 99 _ _ _  G hl
          · refine lv_aload_n zx zb dX8_step_65 rfl (lv_at hl 1 rfl) ?_
            refine r_get (C := RX8) (T := TX8) (N := 8) (ci := 6) (v := .int (v 5)) S in_X8_step_X8 G 0 rfl rfl 5 (by decide) lk_X8_step_27 rfl dX8_step_66 ?_
            refine lv_iconst (v := 1) zx zb dX8_step_69 (by decide) ?_
            refine r_iadd (v := ((v 5) + 1)) S rfl dX8_step_70 ?_
            refine lv_goto (tgt := 76) zx zb dX8_step_71 (by decide) ?_
            exact join_62 ((v 5) + 1) _ _ _  G hl
        · intro x_12 H locs ls  G hl
          refine r_put (C := RX8) (T := TX8) (N := 8) (ci := 6) (v := .int x_12) S in_X8_step_X8 tyX8_ok nmX8 G 0 rfl rfl 5 (by decide) lk_X8_step_27 rfl (vp_nar_int _) rfl (Nat.le_of_ble_eq_true rfl) dX8_step_76 (fun H locs G => ?_)
          obtain ⟨v_13, G⟩ : ∃ v_13 : Nat → Int32, wd X (va_A (rnW h0 v) sz) (va_A (rnW h0 v) sz) s (rnW h0 v_13) H locs := ⟨upd v 5 x_12, G⟩
          refine lv_aload_n zx zb dX8_step_79 rfl (lv_at hl 1 rfl) ?_
          refine lv_iconst (v := 2) zx zb dX8_step_80 (by decide) ?_
          refine r_put (C := RX8) (T := TX8) (N := 8) (ci := 6) (v := .int 2) S in_X8_step_X8 tyX8_ok nmX8 G 0 rfl rfl 6 (by decide) lk_X8_step_30 rfl (vp_nar_int _) rfl (Nat.le_of_ble_eq_true rfl) dX8_step_81 (fun H locs G => ?_)
          obtain ⟨v_14, G⟩ : ∃ v_14 : Nat → Int32, wd X (va_A (rnW h0 v) sz) (va_A (rnW h0 v) sz) s (rnW h0 v_14) H locs := ⟨upd v_13 6 2, G⟩
          exact e_void S zr zlk G (v_14) [0] rfl rfl (Or.inr rfl) (trivial) dX8_step_84
    · refine lv_aload_n zx zb dX8_step_15 rfl (lv_at hl 0 rfl) ?_
      refine lv_dup zx zb dX8_step_16 rfl ?_
      refine r_get (C := RX8) (T := TX8) (N := 8) (ci := 6) (v := .int (v 6)) S in_X8_step_X8 G 0 rfl rfl 6 (by decide) lk_X8_step_30 rfl dX8_step_17 ?_
      refine lv_iconst (v := 1) zx zb dX8_step_20 (by decide) ?_
      refine r_isub (v := ((v 6) - 1)) S rfl dX8_step_21 ?_
      refine r_put (C := RX8) (T := TX8) (N := 8) (ci := 6) (v := .int ((v 6) - 1)) S in_X8_step_X8 tyX8_ok nmX8 G 0 rfl rfl 6 (by decide) lk_X8_step_30 rfl (vp_nar_int _) rfl (Nat.le_of_ble_eq_true rfl) dX8_step_22 (fun H locs G => ?_)
      obtain ⟨v_15, G⟩ : ∃ v_15 : Nat → Int32, wd X (va_A (rnW h0 v) sz) (va_A (rnW h0 v) sz) s (rnW h0 v_15) H locs := ⟨upd v 6 ((v 6) - 1), G⟩
      exact e_void S zr zlk G (v_15) [0] rfl rfl (Or.inr rfl) (trivial) dX8_step_25
  · exact e_void S zr zlk G (v) [0] rfl rfl (Or.inr rfl) (trivial) dX8_step_7
theorem in_X8_begin_X8 : ∀ w ∈ wsX80, w ∈ wsX8_begin := by decide +kernel
theorem lk_X8_begin_9 : Cond.fieldLink RX8 9 "EggSpoons$Runner" "kind" "I" ∈ wsX8_begin := by decide +kernel
theorem lk_X8_begin_15 : Cond.fieldLink RX8 15 "EggSpoons$Runner" "legs" "I" ∈ wsX8_begin := by decide +kernel
theorem lk_X8_begin_18 : Cond.fieldLink RX8 18 "EggSpoons$Runner" "egg" "I" ∈ wsX8_begin := by decide +kernel
theorem lk_X8_begin_21 : Cond.fieldLink RX8 21 "EggSpoons$Runner" "speed" "I" ∈ wsX8_begin := by decide +kernel
theorem lk_X8_begin_24 : Cond.fieldLink RX8 24 "EggSpoons$Runner" "place" "I" ∈ wsX8_begin := by decide +kernel
theorem lk_X8_begin_27 : Cond.fieldLink RX8 27 "EggSpoons$Runner" "drops" "I" ∈ wsX8_begin := by decide +kernel
theorem lk_X8_begin_30 : Cond.fieldLink RX8 30 "EggSpoons$Runner" "waits" "I" ∈ wsX8_begin := by decide +kernel
theorem lk_X8_begin_33 : Cond.fieldLink RX8 33 "EggSpoons$Runner" "homeAt" "I" ∈ wsX8_begin := by decide +kernel
set_option maxHeartbeats 4000000 in
set_option maxRecDepth 100000 in
/-- begin -/
theorem s_begin (l : Launch) (X : EX) (h0 : Nat) (v : Nat → Int32) (x1 : Int32) (x2 : Int32) (x3 : Int32) (sz : Nat) : Met l yX8_begin wsX8_begin ({ frames := 0, cells := 0, slots := 0, locals := 0 } : Room) (pE X [.ref h0, .int x1, .int x2, .int x3] (rnW h0 v) sz) (qV (fun (u : (Nat → Int32)) => (True)) X (fun (u : (Nat → Int32)) => rnW h0 u) (rnW h0 v) sz) 0 0 (va_A (rnW h0 v) sz) := by
  refine mk_met (B := (va_A (rnW h0 v) sz)) (A := (va_A (rnW h0 v) sz)) (cc := cX8_begin) (maxL := 4) (ret := none) (by decide) rfl (Nat.le_of_ble_eq_true rfl) k_w k_a (fun p e s m below meth c S zr zlk znm zsz G ls hl => ?_)
  have S : CallFix p m c cX8_begin 4 s _ wsX8_begin RX8 := S
  have zx := S.1
  have zb := S.2.1
  have hl : lv_has ls 4 [(0, .ref h0), (1, .int x1), (2, .int x2), (3, .int x3)] := hl
  refine lv_aload_n zx zb dX8_begin_0 rfl (lv_at hl 0 rfl) ?_
  refine lv_iload_n zx zb dX8_begin_1 rfl (lv_at hl 1 rfl) ?_
  refine r_put (C := RX8) (T := TX8) (N := 8) (ci := 6) (v := .int x1) S in_X8_begin_X8 tyX8_ok nmX8 G 0 rfl rfl 0 (by decide) lk_X8_begin_9 rfl (vp_nar_int _) rfl (Nat.le_of_ble_eq_true rfl) dX8_begin_2 (fun H locs G => ?_)
  obtain ⟨v_1, G⟩ : ∃ v_1 : Nat → Int32, wd X (va_A (rnW h0 v) sz) (va_A (rnW h0 v) sz) s (rnW h0 v_1) H locs := ⟨upd v 0 x1, G⟩
  refine lv_aload_n zx zb dX8_begin_5 rfl (lv_at hl 0 rfl) ?_
  refine lv_iload_n zx zb dX8_begin_6 rfl (lv_at hl 2 rfl) ?_
  refine r_put (C := RX8) (T := TX8) (N := 8) (ci := 6) (v := .int x2) S in_X8_begin_X8 tyX8_ok nmX8 G 0 rfl rfl 1 (by decide) lk_X8_begin_15 rfl (vp_nar_int _) rfl (Nat.le_of_ble_eq_true rfl) dX8_begin_7 (fun H locs G => ?_)
  obtain ⟨v_2, G⟩ : ∃ v_2 : Nat → Int32, wd X (va_A (rnW h0 v) sz) (va_A (rnW h0 v) sz) s (rnW h0 v_2) H locs := ⟨upd v_1 1 x2, G⟩
  refine lv_aload_n zx zb dX8_begin_10 rfl (lv_at hl 0 rfl) ?_
  refine lv_iload_n zx zb dX8_begin_11 rfl (lv_at hl 3 rfl) ?_
  refine r_put (C := RX8) (T := TX8) (N := 8) (ci := 6) (v := .int x3) S in_X8_begin_X8 tyX8_ok nmX8 G 0 rfl rfl 2 (by decide) lk_X8_begin_18 rfl (vp_nar_int _) rfl (Nat.le_of_ble_eq_true rfl) dX8_begin_12 (fun H locs G => ?_)
  obtain ⟨v_3, G⟩ : ∃ v_3 : Nat → Int32, wd X (va_A (rnW h0 v) sz) (va_A (rnW h0 v) sz) s (rnW h0 v_3) H locs := ⟨upd v_2 2 x3, G⟩
  refine lv_aload_n zx zb dX8_begin_15 rfl (lv_at hl 0 rfl) ?_
  refine lv_iconst (v := 4) zx zb dX8_begin_16 (by decide) ?_
  refine r_put (C := RX8) (T := TX8) (N := 8) (ci := 6) (v := .int 4) S in_X8_begin_X8 tyX8_ok nmX8 G 0 rfl rfl 3 (by decide) lk_X8_begin_21 rfl (vp_nar_int _) rfl (Nat.le_of_ble_eq_true rfl) dX8_begin_17 (fun H locs G => ?_)
  obtain ⟨v_4, G⟩ : ∃ v_4 : Nat → Int32, wd X (va_A (rnW h0 v) sz) (va_A (rnW h0 v) sz) s (rnW h0 v_4) H locs := ⟨upd v_3 3 4, G⟩
  refine lv_aload_n zx zb dX8_begin_20 rfl (lv_at hl 0 rfl) ?_
  refine lv_iconst (v := 0) zx zb dX8_begin_21 (by decide) ?_
  refine r_put (C := RX8) (T := TX8) (N := 8) (ci := 6) (v := .int 0) S in_X8_begin_X8 tyX8_ok nmX8 G 0 rfl rfl 4 (by decide) lk_X8_begin_24 rfl (vp_nar_int _) rfl (Nat.le_of_ble_eq_true rfl) dX8_begin_22 (fun H locs G => ?_)
  obtain ⟨v_5, G⟩ : ∃ v_5 : Nat → Int32, wd X (va_A (rnW h0 v) sz) (va_A (rnW h0 v) sz) s (rnW h0 v_5) H locs := ⟨upd v_4 4 0, G⟩
  refine lv_aload_n zx zb dX8_begin_25 rfl (lv_at hl 0 rfl) ?_
  refine lv_iconst (v := 0) zx zb dX8_begin_26 (by decide) ?_
  refine r_put (C := RX8) (T := TX8) (N := 8) (ci := 6) (v := .int 0) S in_X8_begin_X8 tyX8_ok nmX8 G 0 rfl rfl 5 (by decide) lk_X8_begin_27 rfl (vp_nar_int _) rfl (Nat.le_of_ble_eq_true rfl) dX8_begin_27 (fun H locs G => ?_)
  obtain ⟨v_6, G⟩ : ∃ v_6 : Nat → Int32, wd X (va_A (rnW h0 v) sz) (va_A (rnW h0 v) sz) s (rnW h0 v_6) H locs := ⟨upd v_5 5 0, G⟩
  refine lv_aload_n zx zb dX8_begin_30 rfl (lv_at hl 0 rfl) ?_
  refine lv_iconst (v := 0) zx zb dX8_begin_31 (by decide) ?_
  refine r_put (C := RX8) (T := TX8) (N := 8) (ci := 6) (v := .int 0) S in_X8_begin_X8 tyX8_ok nmX8 G 0 rfl rfl 6 (by decide) lk_X8_begin_30 rfl (vp_nar_int _) rfl (Nat.le_of_ble_eq_true rfl) dX8_begin_32 (fun H locs G => ?_)
  obtain ⟨v_7, G⟩ : ∃ v_7 : Nat → Int32, wd X (va_A (rnW h0 v) sz) (va_A (rnW h0 v) sz) s (rnW h0 v_7) H locs := ⟨upd v_6 6 0, G⟩
  refine lv_aload_n zx zb dX8_begin_35 rfl (lv_at hl 0 rfl) ?_
  refine lv_iconst (v := (-1)) zx zb dX8_begin_36 (by decide) ?_
  refine r_put (C := RX8) (T := TX8) (N := 8) (ci := 6) (v := .int (-1)) S in_X8_begin_X8 tyX8_ok nmX8 G 0 rfl rfl 7 (by decide) lk_X8_begin_33 rfl (vp_nar_int _) rfl (Nat.le_of_ble_eq_true rfl) dX8_begin_37 (fun H locs G => ?_)
  obtain ⟨v_8, G⟩ : ∃ v_8 : Nat → Int32, wd X (va_A (rnW h0 v) sz) (va_A (rnW h0 v) sz) s (rnW h0 v_8) H locs := ⟨upd v_7 7 (-1), G⟩
  exact e_void S zr zlk G (v_8) [0] rfl rfl (Or.inr rfl) (trivial) dX8_begin_40
theorem in_X8_copyFrom_X8 : ∀ w ∈ wsX80, w ∈ wsX8_copyFrom := by decide +kernel
theorem lk_X8_copyFrom_9 : Cond.fieldLink RX8 9 "EggSpoons$Runner" "kind" "I" ∈ wsX8_copyFrom := by decide +kernel
theorem lk_X8_copyFrom_15 : Cond.fieldLink RX8 15 "EggSpoons$Runner" "legs" "I" ∈ wsX8_copyFrom := by decide +kernel
theorem lk_X8_copyFrom_18 : Cond.fieldLink RX8 18 "EggSpoons$Runner" "egg" "I" ∈ wsX8_copyFrom := by decide +kernel
theorem lk_X8_copyFrom_21 : Cond.fieldLink RX8 21 "EggSpoons$Runner" "speed" "I" ∈ wsX8_copyFrom := by decide +kernel
theorem lk_X8_copyFrom_24 : Cond.fieldLink RX8 24 "EggSpoons$Runner" "place" "I" ∈ wsX8_copyFrom := by decide +kernel
theorem lk_X8_copyFrom_27 : Cond.fieldLink RX8 27 "EggSpoons$Runner" "drops" "I" ∈ wsX8_copyFrom := by decide +kernel
theorem lk_X8_copyFrom_30 : Cond.fieldLink RX8 30 "EggSpoons$Runner" "waits" "I" ∈ wsX8_copyFrom := by decide +kernel
theorem lk_X8_copyFrom_33 : Cond.fieldLink RX8 33 "EggSpoons$Runner" "homeAt" "I" ∈ wsX8_copyFrom := by decide +kernel
set_option maxHeartbeats 4000000 in
set_option maxRecDepth 100000 in
/-- Runner.copyFrom -/
theorem s_rcopy (l : Launch) (X : EX) (h0 : Nat) (v : Nat → Int32) (h1 : Nat) (v1 : Nat → Int32) (sz : Nat) : Met l yX8_copyFrom wsX8_copyFrom ({ frames := 0, cells := 0, slots := 0, locals := 0 } : Room) (pE X [.ref h0, .ref h1] (rnW h0 v ++ rnW h1 v1) sz) (qV (fun (u : (Nat → Int32)) => (True)) X (fun (u : (Nat → Int32)) => rnW h0 u ++ rnW h1 v1) (rnW h0 v ++ rnW h1 v1) sz) 0 0 (va_A (rnW h0 v ++ rnW h1 v1) sz) := by
  refine mk_met (B := (va_A (rnW h0 v ++ rnW h1 v1) sz)) (A := (va_A (rnW h0 v ++ rnW h1 v1) sz)) (cc := cX8_copyFrom) (maxL := 2) (ret := none) (by decide) rfl (Nat.le_of_ble_eq_true rfl) k_w k_a (fun p e s m below meth c S zr zlk znm zsz G ls hl => ?_)
  have S : CallFix p m c cX8_copyFrom 2 s _ wsX8_copyFrom RX8 := S
  have zx := S.1
  have zb := S.2.1
  have hl : lv_has ls 2 [(0, .ref h0), (1, .ref h1)] := hl
  refine lv_aload_n zx zb dX8_copyFrom_0 rfl (lv_at hl 0 rfl) ?_
  refine lv_aload_n zx zb dX8_copyFrom_1 rfl (lv_at hl 1 rfl) ?_
  refine r_get (C := RX8) (T := TX8) (N := 8) (ci := 6) (v := .int (v1 0)) S in_X8_copyFrom_X8 G 1 rfl rfl 0 (by decide) lk_X8_copyFrom_9 rfl dX8_copyFrom_2 ?_
  refine r_put (C := RX8) (T := TX8) (N := 8) (ci := 6) (v := .int (v1 0)) S in_X8_copyFrom_X8 tyX8_ok nmX8 G 0 rfl rfl 0 (by decide) lk_X8_copyFrom_9 rfl (vp_nar_int _) rfl (Nat.le_of_ble_eq_true rfl) dX8_copyFrom_5 (fun H locs G => ?_)
  obtain ⟨v_1, G⟩ : ∃ v_1 : Nat → Int32, wd X (va_A (rnW h0 v ++ rnW h1 v1) sz) (va_A (rnW h0 v ++ rnW h1 v1) sz) s (rnW h0 v_1 ++ rnW h1 v1) H locs := ⟨upd v 0 (v1 0), G⟩
  refine lv_aload_n zx zb dX8_copyFrom_8 rfl (lv_at hl 0 rfl) ?_
  refine lv_aload_n zx zb dX8_copyFrom_9 rfl (lv_at hl 1 rfl) ?_
  refine r_get (C := RX8) (T := TX8) (N := 8) (ci := 6) (v := .int (v1 1)) S in_X8_copyFrom_X8 G 1 rfl rfl 1 (by decide) lk_X8_copyFrom_15 rfl dX8_copyFrom_10 ?_
  refine r_put (C := RX8) (T := TX8) (N := 8) (ci := 6) (v := .int (v1 1)) S in_X8_copyFrom_X8 tyX8_ok nmX8 G 0 rfl rfl 1 (by decide) lk_X8_copyFrom_15 rfl (vp_nar_int _) rfl (Nat.le_of_ble_eq_true rfl) dX8_copyFrom_13 (fun H locs G => ?_)
  obtain ⟨v_2, G⟩ : ∃ v_2 : Nat → Int32, wd X (va_A (rnW h0 v ++ rnW h1 v1) sz) (va_A (rnW h0 v ++ rnW h1 v1) sz) s (rnW h0 v_2 ++ rnW h1 v1) H locs := ⟨upd v_1 1 (v1 1), G⟩
  refine lv_aload_n zx zb dX8_copyFrom_16 rfl (lv_at hl 0 rfl) ?_
  refine lv_aload_n zx zb dX8_copyFrom_17 rfl (lv_at hl 1 rfl) ?_
  refine r_get (C := RX8) (T := TX8) (N := 8) (ci := 6) (v := .int (v1 2)) S in_X8_copyFrom_X8 G 1 rfl rfl 2 (by decide) lk_X8_copyFrom_18 rfl dX8_copyFrom_18 ?_
  refine r_put (C := RX8) (T := TX8) (N := 8) (ci := 6) (v := .int (v1 2)) S in_X8_copyFrom_X8 tyX8_ok nmX8 G 0 rfl rfl 2 (by decide) lk_X8_copyFrom_18 rfl (vp_nar_int _) rfl (Nat.le_of_ble_eq_true rfl) dX8_copyFrom_21 (fun H locs G => ?_)
  obtain ⟨v_3, G⟩ : ∃ v_3 : Nat → Int32, wd X (va_A (rnW h0 v ++ rnW h1 v1) sz) (va_A (rnW h0 v ++ rnW h1 v1) sz) s (rnW h0 v_3 ++ rnW h1 v1) H locs := ⟨upd v_2 2 (v1 2), G⟩
  refine lv_aload_n zx zb dX8_copyFrom_24 rfl (lv_at hl 0 rfl) ?_
  refine lv_aload_n zx zb dX8_copyFrom_25 rfl (lv_at hl 1 rfl) ?_
  refine r_get (C := RX8) (T := TX8) (N := 8) (ci := 6) (v := .int (v1 3)) S in_X8_copyFrom_X8 G 1 rfl rfl 3 (by decide) lk_X8_copyFrom_21 rfl dX8_copyFrom_26 ?_
  refine r_put (C := RX8) (T := TX8) (N := 8) (ci := 6) (v := .int (v1 3)) S in_X8_copyFrom_X8 tyX8_ok nmX8 G 0 rfl rfl 3 (by decide) lk_X8_copyFrom_21 rfl (vp_nar_int _) rfl (Nat.le_of_ble_eq_true rfl) dX8_copyFrom_29 (fun H locs G => ?_)
  obtain ⟨v_4, G⟩ : ∃ v_4 : Nat → Int32, wd X (va_A (rnW h0 v ++ rnW h1 v1) sz) (va_A (rnW h0 v ++ rnW h1 v1) sz) s (rnW h0 v_4 ++ rnW h1 v1) H locs := ⟨upd v_3 3 (v1 3), G⟩
  refine lv_aload_n zx zb dX8_copyFrom_32 rfl (lv_at hl 0 rfl) ?_
  refine lv_aload_n zx zb dX8_copyFrom_33 rfl (lv_at hl 1 rfl) ?_
  refine r_get (C := RX8) (T := TX8) (N := 8) (ci := 6) (v := .int (v1 4)) S in_X8_copyFrom_X8 G 1 rfl rfl 4 (by decide) lk_X8_copyFrom_24 rfl dX8_copyFrom_34 ?_
  refine r_put (C := RX8) (T := TX8) (N := 8) (ci := 6) (v := .int (v1 4)) S in_X8_copyFrom_X8 tyX8_ok nmX8 G 0 rfl rfl 4 (by decide) lk_X8_copyFrom_24 rfl (vp_nar_int _) rfl (Nat.le_of_ble_eq_true rfl) dX8_copyFrom_37 (fun H locs G => ?_)
  obtain ⟨v_5, G⟩ : ∃ v_5 : Nat → Int32, wd X (va_A (rnW h0 v ++ rnW h1 v1) sz) (va_A (rnW h0 v ++ rnW h1 v1) sz) s (rnW h0 v_5 ++ rnW h1 v1) H locs := ⟨upd v_4 4 (v1 4), G⟩
  refine lv_aload_n zx zb dX8_copyFrom_40 rfl (lv_at hl 0 rfl) ?_
  refine lv_aload_n zx zb dX8_copyFrom_41 rfl (lv_at hl 1 rfl) ?_
  refine r_get (C := RX8) (T := TX8) (N := 8) (ci := 6) (v := .int (v1 5)) S in_X8_copyFrom_X8 G 1 rfl rfl 5 (by decide) lk_X8_copyFrom_27 rfl dX8_copyFrom_42 ?_
  refine r_put (C := RX8) (T := TX8) (N := 8) (ci := 6) (v := .int (v1 5)) S in_X8_copyFrom_X8 tyX8_ok nmX8 G 0 rfl rfl 5 (by decide) lk_X8_copyFrom_27 rfl (vp_nar_int _) rfl (Nat.le_of_ble_eq_true rfl) dX8_copyFrom_45 (fun H locs G => ?_)
  obtain ⟨v_6, G⟩ : ∃ v_6 : Nat → Int32, wd X (va_A (rnW h0 v ++ rnW h1 v1) sz) (va_A (rnW h0 v ++ rnW h1 v1) sz) s (rnW h0 v_6 ++ rnW h1 v1) H locs := ⟨upd v_5 5 (v1 5), G⟩
  refine lv_aload_n zx zb dX8_copyFrom_48 rfl (lv_at hl 0 rfl) ?_
  refine lv_aload_n zx zb dX8_copyFrom_49 rfl (lv_at hl 1 rfl) ?_
  refine r_get (C := RX8) (T := TX8) (N := 8) (ci := 6) (v := .int (v1 6)) S in_X8_copyFrom_X8 G 1 rfl rfl 6 (by decide) lk_X8_copyFrom_30 rfl dX8_copyFrom_50 ?_
  refine r_put (C := RX8) (T := TX8) (N := 8) (ci := 6) (v := .int (v1 6)) S in_X8_copyFrom_X8 tyX8_ok nmX8 G 0 rfl rfl 6 (by decide) lk_X8_copyFrom_30 rfl (vp_nar_int _) rfl (Nat.le_of_ble_eq_true rfl) dX8_copyFrom_53 (fun H locs G => ?_)
  obtain ⟨v_7, G⟩ : ∃ v_7 : Nat → Int32, wd X (va_A (rnW h0 v ++ rnW h1 v1) sz) (va_A (rnW h0 v ++ rnW h1 v1) sz) s (rnW h0 v_7 ++ rnW h1 v1) H locs := ⟨upd v_6 6 (v1 6), G⟩
  refine lv_aload_n zx zb dX8_copyFrom_56 rfl (lv_at hl 0 rfl) ?_
  refine lv_aload_n zx zb dX8_copyFrom_57 rfl (lv_at hl 1 rfl) ?_
  refine r_get (C := RX8) (T := TX8) (N := 8) (ci := 6) (v := .int (v1 7)) S in_X8_copyFrom_X8 G 1 rfl rfl 7 (by decide) lk_X8_copyFrom_33 rfl dX8_copyFrom_58 ?_
  refine r_put (C := RX8) (T := TX8) (N := 8) (ci := 6) (v := .int (v1 7)) S in_X8_copyFrom_X8 tyX8_ok nmX8 G 0 rfl rfl 7 (by decide) lk_X8_copyFrom_33 rfl (vp_nar_int _) rfl (Nat.le_of_ble_eq_true rfl) dX8_copyFrom_61 (fun H locs G => ?_)
  obtain ⟨v_8, G⟩ : ∃ v_8 : Nat → Int32, wd X (va_A (rnW h0 v ++ rnW h1 v1) sz) (va_A (rnW h0 v ++ rnW h1 v1) sz) s (rnW h0 v_8 ++ rnW h1 v1) H locs := ⟨upd v_7 7 (v1 7), G⟩
  exact e_void S zr zlk G (v_8) [0, 1] rfl rfl (Or.inr rfl) (trivial) dX8_copyFrom_64
theorem in_X8_fact_X8 : ∀ w ∈ wsX80, w ∈ wsX8_fact := by decide +kernel
theorem lk_X8_fact_9 : Cond.fieldLink RX8 9 "EggSpoons$Runner" "kind" "I" ∈ wsX8_fact := by decide +kernel
theorem lk_X8_fact_15 : Cond.fieldLink RX8 15 "EggSpoons$Runner" "legs" "I" ∈ wsX8_fact := by decide +kernel
theorem lk_X8_fact_18 : Cond.fieldLink RX8 18 "EggSpoons$Runner" "egg" "I" ∈ wsX8_fact := by decide +kernel
theorem lk_X8_fact_21 : Cond.fieldLink RX8 21 "EggSpoons$Runner" "speed" "I" ∈ wsX8_fact := by decide +kernel
theorem lk_X8_fact_24 : Cond.fieldLink RX8 24 "EggSpoons$Runner" "place" "I" ∈ wsX8_fact := by decide +kernel
theorem lk_X8_fact_27 : Cond.fieldLink RX8 27 "EggSpoons$Runner" "drops" "I" ∈ wsX8_fact := by decide +kernel
theorem lk_X8_fact_30 : Cond.fieldLink RX8 30 "EggSpoons$Runner" "waits" "I" ∈ wsX8_fact := by decide +kernel
theorem lk_X8_fact_33 : Cond.fieldLink RX8 33 "EggSpoons$Runner" "homeAt" "I" ∈ wsX8_fact := by decide +kernel
set_option maxHeartbeats 4000000 in
set_option maxRecDepth 100000 in
/-- fact answers -/
theorem s_fact (l : Launch) (X : EX) (h0 : Nat) (v : Nat → Int32) (x1 : Int32) (x2 : Int32) (sz : Nat) : Met l yX8_fact wsX8_fact ({ frames := 1, cells := 0, slots := 0, locals := 26 } : Room) (pE X [.ref h0, .int x1, .int x2] (rnW h0 v) sz) (qI (fun (r : Int32) (u : Unit) => True) X (fun (u : Unit) => []) [] sz) 0 0 (va_A [] sz) := by
  refine mk_met (B := (fun _ => True)) (A := (va_A [] sz)) (cc := cX8_fact) (maxL := 3) (ret := (some .int)) (by decide) rfl (Nat.le_of_ble_eq_true rfl) k_ro k_a (fun p e s m below meth c S zr zlk znm zsz G ls hl => ?_)
  have S : CallFix p m c cX8_fact 3 s _ wsX8_fact RX8 := S
  have zx := S.1
  have zb := S.2.1
  have hl : lv_has ls 3 [(0, .ref h0), (1, .int x1), (2, .int x2)] := hl
  refine lv_iload_n zx zb dX8_fact_0 rfl (lv_at hl 1 rfl) ?_
  rcases k_ts0_8 x1 with w_1 | w_1 | w_1 | w_1 | w_1 | w_1 | w_1 | w_1 | w_1 | w_1
  · refine k_it w_1 ?_
    refine lv_tableIn (off := 51) (tgt := 52) zx zb dX8_fact_1 (by decide) (by decide) rfl (by decide) ?_
    refine lv_aload_n zx zb dX8_fact_52 rfl (lv_at hl 0 rfl) ?_
    refine r_get (C := RX8) (T := TX8) (N := 8) (ci := 6) (v := .int (v 0)) S in_X8_fact_X8 G 0 rfl rfl 0 (by decide) lk_X8_fact_9 rfl dX8_fact_53 ?_
    exact e_int S zr zlk (vp_nar_int _) G () [] rfl rfl (Or.inl rfl) (trivial) dX8_fact_56
  · refine k_it w_1 ?_
    refine lv_tableIn (off := 56) (tgt := 57) zx zb dX8_fact_1 (by decide) (by decide) rfl (by decide) ?_
    refine lv_aload_n zx zb dX8_fact_57 rfl (lv_at hl 0 rfl) ?_
    refine r_get (C := RX8) (T := TX8) (N := 8) (ci := 6) (v := .int (v 1)) S in_X8_fact_X8 G 0 rfl rfl 1 (by decide) lk_X8_fact_15 rfl dX8_fact_58 ?_
    exact e_int S zr zlk (vp_nar_int _) G () [] rfl rfl (Or.inl rfl) (trivial) dX8_fact_61
  · refine k_it w_1 ?_
    refine lv_tableIn (off := 61) (tgt := 62) zx zb dX8_fact_1 (by decide) (by decide) rfl (by decide) ?_
    refine lv_aload_n zx zb dX8_fact_62 rfl (lv_at hl 0 rfl) ?_
    refine r_get (C := RX8) (T := TX8) (N := 8) (ci := 6) (v := .int (v 2)) S in_X8_fact_X8 G 0 rfl rfl 2 (by decide) lk_X8_fact_18 rfl dX8_fact_63 ?_
    exact e_int S zr zlk (vp_nar_int _) G () [] rfl rfl (Or.inl rfl) (trivial) dX8_fact_66
  · refine k_it w_1 ?_
    refine lv_tableIn (off := 66) (tgt := 67) zx zb dX8_fact_1 (by decide) (by decide) rfl (by decide) ?_
    refine lv_aload_n zx zb dX8_fact_67 rfl (lv_at hl 0 rfl) ?_
    refine r_get (C := RX8) (T := TX8) (N := 8) (ci := 6) (v := .int (v 3)) S in_X8_fact_X8 G 0 rfl rfl 3 (by decide) lk_X8_fact_21 rfl dX8_fact_68 ?_
    exact e_int S zr zlk (vp_nar_int _) G () [] rfl rfl (Or.inl rfl) (trivial) dX8_fact_71
  · refine k_it w_1 ?_
    refine lv_tableIn (off := 71) (tgt := 72) zx zb dX8_fact_1 (by decide) (by decide) rfl (by decide) ?_
    refine lv_aload_n zx zb dX8_fact_72 rfl (lv_at hl 0 rfl) ?_
    refine r_get (C := RX8) (T := TX8) (N := 8) (ci := 6) (v := .int (v 4)) S in_X8_fact_X8 G 0 rfl rfl 4 (by decide) lk_X8_fact_24 rfl dX8_fact_73 ?_
    exact e_int S zr zlk (vp_nar_int _) G () [] rfl rfl (Or.inl rfl) (trivial) dX8_fact_76
  · refine k_it w_1 ?_
    refine lv_tableIn (off := 76) (tgt := 77) zx zb dX8_fact_1 (by decide) (by decide) rfl (by decide) ?_
    refine lv_aload_n zx zb dX8_fact_77 rfl (lv_at hl 0 rfl) ?_
    refine r_get (C := RX8) (T := TX8) (N := 8) (ci := 6) (v := .int (v 5)) S in_X8_fact_X8 G 0 rfl rfl 5 (by decide) lk_X8_fact_27 rfl dX8_fact_78 ?_
    exact e_int S zr zlk (vp_nar_int _) G () [] rfl rfl (Or.inl rfl) (trivial) dX8_fact_81
  · refine k_it w_1 ?_
    refine lv_tableIn (off := 81) (tgt := 82) zx zb dX8_fact_1 (by decide) (by decide) rfl (by decide) ?_
    refine lv_aload_n zx zb dX8_fact_82 rfl (lv_at hl 0 rfl) ?_
    refine r_get (C := RX8) (T := TX8) (N := 8) (ci := 6) (v := .int (v 6)) S in_X8_fact_X8 G 0 rfl rfl 6 (by decide) lk_X8_fact_30 rfl dX8_fact_83 ?_
    exact e_int S zr zlk (vp_nar_int _) G () [] rfl rfl (Or.inl rfl) (trivial) dX8_fact_86
  · refine k_it w_1 ?_
    refine lv_tableIn (off := 86) (tgt := 87) zx zb dX8_fact_1 (by decide) (by decide) rfl (by decide) ?_
    refine lv_aload_n zx zb dX8_fact_87 rfl (lv_at hl 0 rfl) ?_
    refine r_get (C := RX8) (T := TX8) (N := 8) (ci := 6) (v := .int (v 7)) S in_X8_fact_X8 G 0 rfl rfl 7 (by decide) lk_X8_fact_33 rfl dX8_fact_88 ?_
    exact e_int S zr zlk (vp_nar_int _) G () [] rfl rfl (Or.inl rfl) (trivial) dX8_fact_91
  · refine k_it w_1 ?_
    refine lv_tableIn (off := 91) (tgt := 92) zx zb dX8_fact_1 (by decide) (by decide) rfl (by decide) ?_
    refine lv_aload_n zx zb dX8_fact_92 rfl (lv_at hl 0 rfl) ?_
    refine r_get (C := RX8) (T := TX8) (N := 8) (ci := 6) (v := .int (v 0)) S in_X8_fact_X8 G 0 rfl rfl 0 (by decide) lk_X8_fact_9 rfl dX8_fact_93 ?_
    refine lv_aload_n zx zb dX8_fact_96 rfl (lv_at hl 0 rfl) ?_
    refine r_get (C := RX8) (T := TX8) (N := 8) (ci := 6) (v := .int (v 1)) S in_X8_fact_X8 G 0 rfl rfl 1 (by decide) lk_X8_fact_15 rfl dX8_fact_97 ?_
    refine lv_iload_n zx zb dX8_fact_100 rfl (lv_at hl 2 rfl) ?_
    refine lv_aload_n zx zb dX8_fact_101 rfl (lv_at hl 0 rfl) ?_
    refine r_get (C := RX8) (T := TX8) (N := 8) (ci := 6) (v := .int (v 3)) S in_X8_fact_X8 G 0 rfl rfl 3 (by decide) lk_X8_fact_21 rfl dX8_fact_102 ?_
    refine o_ri (cells' := 0) (slots' := 0) G rfl rfl (n_S (As := [.int (v 0), .int (v 1), .int x2, .int (v 3)]) (rest := []) S G (s_reach l X (v 0) (v 1) x2 (v 3) s.heap.size) gX8_fact_X2_reach rfl rfl rfl hdS_X2_reach ⟨Nat.le_of_ble_eq_true rfl, Nat.le_of_ble_eq_true rfl⟩ [] rfl rfl rfl hl.1 (Nat.le_of_ble_eq_true rfl) dX8_fact_105 ⟨Nat.le_of_ble_eq_true rfl, Nat.le_of_ble_eq_true rfl⟩) (fun r_2 u_2 H locs hp_2 G => ?_)
    have G : wd X (fun _ => True) (va_A [] sz) s (rnW h0 v) H locs := G
    exact e_int S zr zlk (vp_nar_int _) G () [] rfl rfl (Or.inl rfl) (trivial) dX8_fact_108
  · refine lv_tableOut (tgt := 109) zx zb dX8_fact_1 w_1 (by decide) ?_
    refine lv_aload_n zx zb dX8_fact_109 rfl (lv_at hl 0 rfl) ?_
    refine r_get (C := RX8) (T := TX8) (N := 8) (ci := 6) (v := .int (v 2)) S in_X8_fact_X8 G 0 rfl rfl 2 (by decide) lk_X8_fact_18 rfl dX8_fact_110 ?_
    refine lv_iload_n zx zb dX8_fact_113 rfl (lv_at hl 2 rfl) ?_
    refine o_ri (cells' := 0) (slots' := 0) G rfl rfl (n_S (As := [.int (v 2), .int x2]) (rest := []) S G (s_limit l X (v 2) x2 s.heap.size) gX8_fact_X1_limit rfl rfl rfl hdS_X1_limit ⟨Nat.le_of_ble_eq_true rfl, Nat.le_of_ble_eq_true rfl⟩ [] rfl rfl rfl hl.1 (Nat.le_of_ble_eq_true rfl) dX8_fact_114 ⟨Nat.le_of_ble_eq_true rfl, Nat.le_of_ble_eq_true rfl⟩) (fun r_3 u_3 H locs hp_3 G => ?_)
    have G : wd X (fun _ => True) (va_A [] sz) s (rnW h0 v) H locs := G
    exact e_int S zr zlk (vp_nar_int _) G () [] rfl rfl (Or.inl rfl) (trivial) dX8_fact_117
theorem hdV_X8_step : yX8_step.cls = RX8 ∧ yX8_step.cls ≠ "java/lang/invoke/MethodHandle" ∧ yX8_step.cls ≠ "java/lang/invoke/VarHandle" ∧ (parseMethodDescriptor yX8_step.desc).map (fun d => d.parameters.length) = some 2 := by decide +kernel
set_option maxHeartbeats 4000000 in
set_option maxRecDepth 100000 in
/-- ticksToHome -/
theorem s_ticksToHome (l : Launch) (X : EX) (h0 : Nat) (v : Nat → Int32) (x1 : Int32) (x2 : Int32) (x3 : Int32) (hl6 : x3 ≤ 60) (sz : Nat) : Met l yX8_ticksToHome wsX8_ticksToHome ({ frames := 2, cells := 0, slots := 0, locals := 49 } : Room) (pE X [.ref h0, .int x1, .int x2, .int x3] (rnW h0 v) sz) (qI (fun (r : Int32) (u : (Nat → Int32)) => ((-1 : Int32) ≤ r ∧ r ≤ 60)) X (fun (u : (Nat → Int32)) => rnW h0 u) (rnW h0 v) sz) 0 0 (va_A (rnW h0 v) sz) := by
  refine mk_met (B := (va_A (rnW h0 v) sz)) (A := (va_A (rnW h0 v) sz)) (cc := cX8_ticksToHome) (maxL := 5) (ret := (some .int)) (by decide) rfl (Nat.le_of_ble_eq_true rfl) k_w k_a (fun p e s m below meth c S zr zlk znm zsz G ls hl => ?_)
  have S : CallFix p m c cX8_ticksToHome 5 s _ wsX8_ticksToHome RX8 := S
  have zx := S.1
  have zb := S.2.1
  have hl : lv_has ls 5 [(0, .ref h0), (1, .int x1), (2, .int x2), (3, .int x3)] := hl
  refine lv_aload_n zx zb dX8_ticksToHome_0 rfl (lv_at hl 0 rfl) ?_
  refine o_ri (cells' := 0) (slots' := 0) G rfl rfl (n_V (As := []) (rest := []) (C := RX8) (T := TX8) (N := 8) (ci := 6) S G (s_isHome l X h0 v s.heap.size) gX8_ticksToHome_X8_isHome rfl rfl rfl hdV_X8_isHome ⟨Nat.le_of_ble_eq_true rfl, Nat.le_of_ble_eq_true rfl⟩ [0] rfl rfl 0 rfl rfl rfl hl.1 (Nat.le_of_ble_eq_true rfl) dX8_ticksToHome_1 ⟨Nat.le_of_ble_eq_true rfl, Nat.le_of_ble_eq_true rfl⟩) (fun r_1 u_1 H locs hp_1 G => ?_)
  have G : wd X (va_A (rnW h0 v) sz) (va_A (rnW h0 v) sz) s (rnW h0 v) H locs := G
  refine lv_if_eq (tgt := 9) zx zb dX8_ticksToHome_4 (by decide) (fun c_2 => ?_) (fun c_2 => ?_)
  · refine lv_iconst (v := 1) zx zb dX8_ticksToHome_9 (by decide) ?_
    refine lv_istore (lv' := [(4, .int 1), (0, .ref h0), (1, .int x1), (2, .int x2), (3, .int x3)]) zx zb dX8_ticksToHome_10 hl (by decide) rfl (fun ls hl => ?_)
    refine k_loop (P := ∀ (zm : Nat) (k12 : Nat) (v12_0 : Nat → Int32) (H : Heap) (locs : List Loc) (ls : Array Slot), 61 + 1 ≤ k12 + zm → (k12 ≤ 61) → wd X (va_A (rnW h0 v) sz) (va_A (rnW h0 v) sz) s (rnW h0 v12_0) H locs → lv_has ls 5 [(4, .int (nI k12)), (0, .ref h0), (1, .int x1), (2, .int x2), (3, .int x3)] → W p l e _ s m _ below meth c H locs _ _ _ (F0 m 12 ls [])) (fun loop => loop (61 + 1) 1 v _ _ _ (by omega) (by omega) G hl) ?_
    intro zm
    induction zm with
    | zero => intro k12 v12_0 H locs ls zz q_hk_k12 _ _; exact absurd zz (by omega)
    | succ zm ih12 =>
      intro k12 v12_0 H locs ls zm_12 hk_k12 G hl
      refine lv_iload zx zb dX8_ticksToHome_12 (lv_at hl 0 rfl) ?_
      refine lv_iload_n zx zb dX8_ticksToHome_14 rfl (lv_at hl 4 rfl) ?_
      refine lv_icmp_gt (tgt := 43) zx zb dX8_ticksToHome_15 (by decide) (fun c_3 => ?_) (fun c_3 => ?_)
      · refine lv_iconst (v := (-1)) zx zb dX8_ticksToHome_43 (by decide) ?_
        exact e_int S zr zlk (vp_nar_int _) G (v12_0) [0] rfl rfl (Or.inr rfl) (by decide) dX8_ticksToHome_44
      · have fk_c_3 := k_le60 (Int32.not_lt.mp c_3) hl6 (by omega)
        refine lv_aload_n zx zb dX8_ticksToHome_18 rfl (lv_at hl 1 rfl) ?_
        refine lv_iload_n zx zb dX8_ticksToHome_19 rfl (lv_at hl 2 rfl) ?_
        refine lv_iload zx zb dX8_ticksToHome_20 (lv_at hl 0 rfl) ?_
        refine r_iadd (v := (x1 + (nI k12))) S rfl dX8_ticksToHome_22 ?_
        refine lv_iload_n zx zb dX8_ticksToHome_23 rfl (lv_at hl 3 rfl) ?_
        refine b_wv (cells' := 0) (slots' := 0) (wr := []) G rfl rfl [0] [] rfl rfl rfl rfl (n_V (As := [.int (x1 + (nI k12)), .int x2]) (rest := []) (C := RX8) (T := TX8) (N := 8) (ci := 6) S G (s_step l X h0 v12_0 (x1 + (nI k12)) x2 H.size) gX8_ticksToHome_X8_step rfl rfl rfl hdV_X8_step ⟨Nat.le_of_ble_eq_true rfl, Nat.le_of_ble_eq_true rfl⟩ [0] rfl rfl 0 rfl rfl rfl hl.1 (Nat.le_of_ble_eq_true rfl) dX8_ticksToHome_24 ⟨Nat.le_of_ble_eq_true rfl, Nat.le_of_ble_eq_true rfl⟩) (fun u_4 H locs hp_4 G => ?_)
        obtain ⟨v_4, rfl⟩ : ∃ z, z = u_4 := ⟨_, rfl⟩
        have hq_4 := hp_4
        have G : wd X (va_A (rnW h0 v) sz) (va_A (rnW h0 v) sz) s (rnW h0 v_4) H locs := G
        refine lv_aload_n zx zb dX8_ticksToHome_27 rfl (lv_at hl 1 rfl) ?_
        refine o_ri (cells' := 0) (slots' := 0) G rfl rfl (n_V (As := []) (rest := []) (C := RX8) (T := TX8) (N := 8) (ci := 6) S G (s_isHome l X h0 v_4 H.size) gX8_ticksToHome_X8_isHome rfl rfl rfl hdV_X8_isHome ⟨Nat.le_of_ble_eq_true rfl, Nat.le_of_ble_eq_true rfl⟩ [0] rfl rfl 0 rfl rfl rfl hl.1 (Nat.le_of_ble_eq_true rfl) dX8_ticksToHome_28 ⟨Nat.le_of_ble_eq_true rfl, Nat.le_of_ble_eq_true rfl⟩) (fun r_5 u_5 H locs hp_5 G => ?_)
        have G : wd X (va_A (rnW h0 v) sz) (va_A (rnW h0 v) sz) s (rnW h0 v_4) H locs := G
        refine lv_if_eq (tgt := 37) zx zb dX8_ticksToHome_31 (by decide) (fun c_6 => ?_) (fun c_6 => ?_)
        · refine lv_iinc (v := (nI (k12 + 1))) (lv' := [(4, .int (nI (k12 + 1))), (0, .ref h0), (1, .int x1), (2, .int x2), (3, .int x3)]) zx zb dX8_ticksToHome_37 hl (k := 0) rfl (nI_add k12 1) (by decide) rfl (fun ls hl => ?_)
          refine lv_goto (tgt := 12) zx zb dX8_ticksToHome_40 (by decide) ?_
          exact ih12 (k12 + 1) v_4 _ _ _ (by omega) (by omega) G hl
        · refine lv_iload zx zb dX8_ticksToHome_34 (lv_at hl 0 rfl) ?_
          exact e_int S zr zlk (vp_nar_int _) G (v_4) [0] rfl rfl (Or.inr rfl) (k_r60 (by omega)) dX8_ticksToHome_36
  · refine lv_iconst (v := 0) zx zb dX8_ticksToHome_7 (by decide) ?_
    exact e_int S zr zlk (vp_nar_int _) G (v) [0] rfl rfl (Or.inr rfl) (by decide) dX8_ticksToHome_8
theorem in_X8_placeBehind_X8 : ∀ w ∈ wsX80, w ∈ wsX8_placeBehind := by decide +kernel
theorem lk_X8_placeBehind_24 : Cond.fieldLink RX8 24 "EggSpoons$Runner" "place" "I" ∈ wsX8_placeBehind := by decide +kernel
set_option maxHeartbeats 4000000 in
set_option maxRecDepth 100000 in
/-- placeBehind -/
theorem s_placeBehind (l : Launch) (X : EX) (h0 : Nat) (v : Nat → Int32) (x1 : Int32) (x2 : Int32) (x3 : Int32) (hl6 : x3 ≤ 60) (sz : Nat) : Met l yX8_placeBehind wsX8_placeBehind ({ frames := 2, cells := 0, slots := 0, locals := 49 } : Room) (pE X [.ref h0, .int x1, .int x2, .int x3] (rnW h0 v) sz) (qI (fun (r : Int32) (u : (Nat → Int32)) => (True)) X (fun (u : (Nat → Int32)) => rnW h0 u) (rnW h0 v) sz) 0 0 (va_A (rnW h0 v) sz) := by
  refine mk_met (B := (va_A (rnW h0 v) sz)) (A := (va_A (rnW h0 v) sz)) (cc := cX8_placeBehind) (maxL := 5) (ret := (some .int)) (by decide) rfl (Nat.le_of_ble_eq_true rfl) k_w k_a (fun p e s m below meth c S zr zlk znm zsz G ls hl => ?_)
  have S : CallFix p m c cX8_placeBehind 5 s _ wsX8_placeBehind RX8 := S
  have zx := S.1
  have zb := S.2.1
  have hl : lv_has ls 5 [(0, .ref h0), (1, .int x1), (2, .int x2), (3, .int x3)] := hl
  refine lv_iconst (v := 1) zx zb dX8_placeBehind_0 (by decide) ?_
  refine lv_istore (lv' := [(4, .int 1), (0, .ref h0), (1, .int x1), (2, .int x2), (3, .int x3)]) zx zb dX8_placeBehind_1 hl (by decide) rfl (fun ls hl => ?_)
  refine k_loop (P := ∀ (zm : Nat) (k3 : Nat) (v3_0 : Nat → Int32) (H : Heap) (locs : List Loc) (ls : Array Slot), 61 + 1 ≤ k3 + zm → (k3 ≤ 61) → wd X (va_A (rnW h0 v) sz) (va_A (rnW h0 v) sz) s (rnW h0 v3_0) H locs → lv_has ls 5 [(4, .int (nI k3)), (0, .ref h0), (1, .int x1), (2, .int x2), (3, .int x3)] → W p l e _ s m _ below meth c H locs _ _ _ (F0 m 3 ls [])) (fun loop => loop (61 + 1) 1 v _ _ _ (by omega) (by omega) G hl) ?_
  intro zm
  induction zm with
  | zero => intro k3 v3_0 H locs ls zz q_hk_k3 _ _; exact absurd zz (by omega)
  | succ zm ih3 =>
    intro k3 v3_0 H locs ls zm_3 hk_k3 G hl
    refine lv_iload zx zb dX8_placeBehind_3 (lv_at hl 0 rfl) ?_
    refine lv_iload_n zx zb dX8_placeBehind_5 rfl (lv_at hl 4 rfl) ?_
    refine lv_icmp_gt (tgt := 24) zx zb dX8_placeBehind_6 (by decide) (fun c_1 => ?_) (fun c_1 => ?_)
    · refine lv_aload_n zx zb dX8_placeBehind_24 rfl (lv_at hl 1 rfl) ?_
      refine r_get (C := RX8) (T := TX8) (N := 8) (ci := 6) (v := .int (v3_0 4)) S in_X8_placeBehind_X8 G 0 rfl rfl 4 (by decide) lk_X8_placeBehind_24 rfl dX8_placeBehind_25 ?_
      exact e_int S zr zlk (vp_nar_int _) G (v3_0) [0] rfl rfl (Or.inr rfl) (trivial) dX8_placeBehind_28
    · have fk_c_1 := k_le60 (Int32.not_lt.mp c_1) hl6 (by omega)
      refine lv_aload_n zx zb dX8_placeBehind_9 rfl (lv_at hl 1 rfl) ?_
      refine lv_iload_n zx zb dX8_placeBehind_10 rfl (lv_at hl 2 rfl) ?_
      refine lv_iload zx zb dX8_placeBehind_11 (lv_at hl 0 rfl) ?_
      refine r_iadd (v := (x1 + (nI k3))) S rfl dX8_placeBehind_13 ?_
      refine lv_iload_n zx zb dX8_placeBehind_14 rfl (lv_at hl 3 rfl) ?_
      refine b_wv (cells' := 0) (slots' := 0) (wr := []) G rfl rfl [0] [] rfl rfl rfl rfl (n_V (As := [.int (x1 + (nI k3)), .int x2]) (rest := []) (C := RX8) (T := TX8) (N := 8) (ci := 6) S G (s_step l X h0 v3_0 (x1 + (nI k3)) x2 H.size) gX8_placeBehind_X8_step rfl rfl rfl hdV_X8_step ⟨Nat.le_of_ble_eq_true rfl, Nat.le_of_ble_eq_true rfl⟩ [0] rfl rfl 0 rfl rfl rfl hl.1 (Nat.le_of_ble_eq_true rfl) dX8_placeBehind_15 ⟨Nat.le_of_ble_eq_true rfl, Nat.le_of_ble_eq_true rfl⟩) (fun u_3 H locs hp_3 G => ?_)
      obtain ⟨v_3, rfl⟩ : ∃ z, z = u_3 := ⟨_, rfl⟩
      have hq_3 := hp_3
      have G : wd X (va_A (rnW h0 v) sz) (va_A (rnW h0 v) sz) s (rnW h0 v_3) H locs := G
      refine lv_iinc (v := (nI (k3 + 1))) (lv' := [(4, .int (nI (k3 + 1))), (0, .ref h0), (1, .int x1), (2, .int x2), (3, .int x3)]) zx zb dX8_placeBehind_18 hl (k := 0) rfl (nI_add k3 1) (by decide) rfl (fun ls hl => ?_)
      refine lv_goto (tgt := 3) zx zb dX8_placeBehind_21 (by decide) ?_
      exact ih3 (k3 + 1) v_3 _ _ _ (by omega) (by omega) G hl
theorem in_X7_append_X7 : ∀ w ∈ wsX70, w ∈ wsX7_append := by decide +kernel
theorem lk_X7_append_7 : Cond.fieldLink RX7 7 "EggSpoons$Rows" "size" "I" ∈ wsX7_append := by decide +kernel
theorem lk_X7_append_13 : Cond.fieldLink RX7 13 "EggSpoons$Rows" "most" "I" ∈ wsX7_append := by decide +kernel
theorem lk_X7_append_23 : Cond.fieldLink RX7 23 "EggSpoons$Rows" "cells" "[I" ∈ wsX7_append := by decide +kernel
set_option maxHeartbeats 4000000 in
set_option maxRecDepth 100000 in
/-- append -/
theorem s_append0 (l : Launch) (X : EX) (h0 : Nat) (c0 : Nat) (n : Nat) (f : Nat → Int32) (x1 : Int32) (x2 : Int32) (x3 : Int32) (x4 : Int32) (x5 : Int32) (hI_n : n ≤ 5) (sz : Nat) : Met l yX7_append wsX7_append ({ frames := 0, cells := 0, slots := 0, locals := 0 } : Room) (pE X [.ref h0, .int x1, .int x2, .int x3, .int x4, .int x5] ([(h0, .inr (5, [.int 5, .int 0, .int 1, .ref c0, .int (nI n)])), (c0, .inl (X.2.1, 25, .inl f))]) sz) (qI (fun (r : Int32) (u : (Nat) × (Nat → Int32)) => u.1 ≤ 5 ∧ (r = 0 ∨ r = 1)) X (fun (u : (Nat) × (Nat → Int32)) => [(h0, .inr (5, [.int 5, .int 0, .int 1, .ref c0, .int (nI u.1)])), (c0, .inl (X.2.1, 25, .inl u.2))]) ([(h0, .inr (5, [.int 5, .int 0, .int 1, .ref c0, .int (nI n)])), (c0, .inl (X.2.1, 25, .inl f))]) sz) 0 0 (va_A ([(h0, .inr (5, [.int 5, .int 0, .int 1, .ref c0, .int (nI n)])), (c0, .inl (X.2.1, 25, .inl f))]) sz) := by
  refine mk_met (B := (va_A ([(h0, .inr (5, [.int 5, .int 0, .int 1, .ref c0, .int (nI n)])), (c0, .inl (X.2.1, 25, .inl f))]) sz)) (A := (va_A ([(h0, .inr (5, [.int 5, .int 0, .int 1, .ref c0, .int (nI n)])), (c0, .inl (X.2.1, 25, .inl f))]) sz)) (cc := cX7_append) (maxL := 7) (ret := (some .boolean)) (by decide) rfl (Nat.le_of_ble_eq_true rfl) k_w k_a (fun p e s m below meth c S zr zlk znm zsz G ls hl => ?_)
  have S : CallFix p m c cX7_append 7 s _ wsX7_append RX7 := S
  have zx := S.1
  have zb := S.2.1
  have hl : lv_has ls 7 [(0, .ref h0), (1, .int x1), (2, .int x2), (3, .int x3), (4, .int x4), (5, .int x5)] := hl
  refine lv_aload_n zx zb dX7_append_0 rfl (lv_at hl 0 rfl) ?_
  refine r_get (C := RX7) (T := TX7) (N := 5) (ci := 5) (v := .int (nI n)) S in_X7_append_X7 G 0 rfl rfl 4 (by decide) lk_X7_append_7 rfl dX7_append_1 ?_
  refine lv_aload_n zx zb dX7_append_4 rfl (lv_at hl 0 rfl) ?_
  refine r_get (C := RX7) (T := TX7) (N := 5) (ci := 5) (v := .int 5) S in_X7_append_X7 G 0 rfl rfl 0 (by decide) lk_X7_append_13 rfl dX7_append_5 ?_
  refine lv_icmp_lt (tgt := 13) zx zb dX7_append_8 (by decide) (fun c_1 => ?_) (fun c_1 => ?_)
  · have fc_1 := j_lt (a := n) (b := 5) (by omega) (by omega) c_1
    refine lv_aload_n zx zb dX7_append_13 rfl (lv_at hl 0 rfl) ?_
    refine r_get (C := RX7) (T := TX7) (N := 5) (ci := 5) (v := .int (nI n)) S in_X7_append_X7 G 0 rfl rfl 4 (by decide) lk_X7_append_7 rfl dX7_append_14 ?_
    refine lv_iconst (v := 5) zx zb dX7_append_17 (by decide) ?_
    refine r_imul (v := (nI (n * 5))) S (pk_mul n 5) dX7_append_18 ?_
    refine lv_istore (lv' := [(6, .int (nI (n * 5))), (0, .ref h0), (1, .int x1), (2, .int x2), (3, .int x3), (4, .int x4), (5, .int x5)]) zx zb dX7_append_19 hl (by decide) rfl (fun ls hl => ?_)
    refine lv_aload_n zx zb dX7_append_21 rfl (lv_at hl 1 rfl) ?_
    refine r_get (C := RX7) (T := TX7) (N := 5) (ci := 5) (v := .ref c0) S in_X7_append_X7 G 0 rfl rfl 3 (by decide) lk_X7_append_23 rfl dX7_append_22 ?_
    refine lv_iload zx zb dX7_append_25 (lv_at hl 0 rfl) ?_
    refine lv_iconst (v := 0) zx zb dX7_append_27 (by decide) ?_
    refine r_iadd (v := (nI ((n * 5) + 0))) S (nI_add (n * 5) 0) dX7_append_28 ?_
    refine lv_iload_n zx zb dX7_append_29 rfl (lv_at hl 2 rfl) ?_
    refine r_iast S G 1 rfl (vp_in_nI (by omega) (by decide)) dX7_append_30 (fun H locs G => ?_)
    obtain ⟨f_2, G⟩ : ∃ f_2 : Nat → Int32, wd X (va_A ([(h0, .inr (5, [.int 5, .int 0, .int 1, .ref c0, .int (nI n)])), (c0, .inl (X.2.1, 25, .inl f))]) sz) (va_A ([(h0, .inr (5, [.int 5, .int 0, .int 1, .ref c0, .int (nI n)])), (c0, .inl (X.2.1, 25, .inl f))]) sz) s ([(h0, .inr (5, [.int 5, .int 0, .int 1, .ref c0, .int (nI n)])), (c0, .inl (X.2.1, 25, .inl f_2))]) H locs := ⟨_, G⟩
    refine lv_aload_n zx zb dX7_append_31 rfl (lv_at hl 1 rfl) ?_
    refine r_get (C := RX7) (T := TX7) (N := 5) (ci := 5) (v := .ref c0) S in_X7_append_X7 G 0 rfl rfl 3 (by decide) lk_X7_append_23 rfl dX7_append_32 ?_
    refine lv_iload zx zb dX7_append_35 (lv_at hl 0 rfl) ?_
    refine lv_iconst (v := 1) zx zb dX7_append_37 (by decide) ?_
    refine r_iadd (v := (nI ((n * 5) + 1))) S (nI_add (n * 5) 1) dX7_append_38 ?_
    refine lv_iload_n zx zb dX7_append_39 rfl (lv_at hl 3 rfl) ?_
    refine r_iast S G 1 rfl (vp_in_nI (by omega) (by decide)) dX7_append_40 (fun H locs G => ?_)
    obtain ⟨f_3, G⟩ : ∃ f_3 : Nat → Int32, wd X (va_A ([(h0, .inr (5, [.int 5, .int 0, .int 1, .ref c0, .int (nI n)])), (c0, .inl (X.2.1, 25, .inl f))]) sz) (va_A ([(h0, .inr (5, [.int 5, .int 0, .int 1, .ref c0, .int (nI n)])), (c0, .inl (X.2.1, 25, .inl f))]) sz) s ([(h0, .inr (5, [.int 5, .int 0, .int 1, .ref c0, .int (nI n)])), (c0, .inl (X.2.1, 25, .inl f_3))]) H locs := ⟨_, G⟩
    refine lv_aload_n zx zb dX7_append_41 rfl (lv_at hl 1 rfl) ?_
    refine r_get (C := RX7) (T := TX7) (N := 5) (ci := 5) (v := .ref c0) S in_X7_append_X7 G 0 rfl rfl 3 (by decide) lk_X7_append_23 rfl dX7_append_42 ?_
    refine lv_iload zx zb dX7_append_45 (lv_at hl 0 rfl) ?_
    refine lv_iconst (v := 2) zx zb dX7_append_47 (by decide) ?_
    refine r_iadd (v := (nI ((n * 5) + 2))) S (nI_add (n * 5) 2) dX7_append_48 ?_
    refine lv_iload_n zx zb dX7_append_49 rfl (lv_at hl 4 rfl) ?_
    refine r_iast S G 1 rfl (vp_in_nI (by omega) (by decide)) dX7_append_50 (fun H locs G => ?_)
    obtain ⟨f_4, G⟩ : ∃ f_4 : Nat → Int32, wd X (va_A ([(h0, .inr (5, [.int 5, .int 0, .int 1, .ref c0, .int (nI n)])), (c0, .inl (X.2.1, 25, .inl f))]) sz) (va_A ([(h0, .inr (5, [.int 5, .int 0, .int 1, .ref c0, .int (nI n)])), (c0, .inl (X.2.1, 25, .inl f))]) sz) s ([(h0, .inr (5, [.int 5, .int 0, .int 1, .ref c0, .int (nI n)])), (c0, .inl (X.2.1, 25, .inl f_4))]) H locs := ⟨_, G⟩
    refine lv_aload_n zx zb dX7_append_51 rfl (lv_at hl 1 rfl) ?_
    refine r_get (C := RX7) (T := TX7) (N := 5) (ci := 5) (v := .ref c0) S in_X7_append_X7 G 0 rfl rfl 3 (by decide) lk_X7_append_23 rfl dX7_append_52 ?_
    refine lv_iload zx zb dX7_append_55 (lv_at hl 0 rfl) ?_
    refine lv_iconst (v := 3) zx zb dX7_append_57 (by decide) ?_
    refine r_iadd (v := (nI ((n * 5) + 3))) S (nI_add (n * 5) 3) dX7_append_58 ?_
    refine lv_iload zx zb dX7_append_59 (lv_at hl 5 rfl) ?_
    refine r_iast S G 1 rfl (vp_in_nI (by omega) (by decide)) dX7_append_61 (fun H locs G => ?_)
    obtain ⟨f_5, G⟩ : ∃ f_5 : Nat → Int32, wd X (va_A ([(h0, .inr (5, [.int 5, .int 0, .int 1, .ref c0, .int (nI n)])), (c0, .inl (X.2.1, 25, .inl f))]) sz) (va_A ([(h0, .inr (5, [.int 5, .int 0, .int 1, .ref c0, .int (nI n)])), (c0, .inl (X.2.1, 25, .inl f))]) sz) s ([(h0, .inr (5, [.int 5, .int 0, .int 1, .ref c0, .int (nI n)])), (c0, .inl (X.2.1, 25, .inl f_5))]) H locs := ⟨_, G⟩
    refine lv_aload_n zx zb dX7_append_62 rfl (lv_at hl 1 rfl) ?_
    refine r_get (C := RX7) (T := TX7) (N := 5) (ci := 5) (v := .ref c0) S in_X7_append_X7 G 0 rfl rfl 3 (by decide) lk_X7_append_23 rfl dX7_append_63 ?_
    refine lv_iload zx zb dX7_append_66 (lv_at hl 0 rfl) ?_
    refine lv_iconst (v := 4) zx zb dX7_append_68 (by decide) ?_
    refine r_iadd (v := (nI ((n * 5) + 4))) S (nI_add (n * 5) 4) dX7_append_69 ?_
    refine lv_iload zx zb dX7_append_70 (lv_at hl 6 rfl) ?_
    refine r_iast S G 1 rfl (vp_in_nI (by omega) (by decide)) dX7_append_72 (fun H locs G => ?_)
    obtain ⟨f_6, G⟩ : ∃ f_6 : Nat → Int32, wd X (va_A ([(h0, .inr (5, [.int 5, .int 0, .int 1, .ref c0, .int (nI n)])), (c0, .inl (X.2.1, 25, .inl f))]) sz) (va_A ([(h0, .inr (5, [.int 5, .int 0, .int 1, .ref c0, .int (nI n)])), (c0, .inl (X.2.1, 25, .inl f))]) sz) s ([(h0, .inr (5, [.int 5, .int 0, .int 1, .ref c0, .int (nI n)])), (c0, .inl (X.2.1, 25, .inl f_6))]) H locs := ⟨_, G⟩
    refine lv_aload_n zx zb dX7_append_73 rfl (lv_at hl 1 rfl) ?_
    refine lv_dup zx zb dX7_append_74 rfl ?_
    refine r_get (C := RX7) (T := TX7) (N := 5) (ci := 5) (v := .int (nI n)) S in_X7_append_X7 G 0 rfl rfl 4 (by decide) lk_X7_append_7 rfl dX7_append_75 ?_
    refine lv_iconst (v := 1) zx zb dX7_append_78 (by decide) ?_
    refine r_iadd (v := (nI (n + 1))) S (nI_add n 1) dX7_append_79 ?_
    refine r_put (C := RX7) (T := TX7) (N := 5) (ci := 5) (v := .int (nI (n + 1))) S in_X7_append_X7 tyX7_ok nmX7 G 0 rfl rfl 4 (by decide) lk_X7_append_7 rfl (vp_nar_int _) rfl (Nat.le_of_ble_eq_true rfl) dX7_append_80 (fun H locs G => ?_)
    obtain ⟨n_7, hI_n_7, hE_n_7, G⟩ : ∃ n_7 : Nat, n_7 ≤ 5 ∧ n_7 = (n + 1) ∧ wd X (va_A ([(h0, .inr (5, [.int 5, .int 0, .int 1, .ref c0, .int (nI n)])), (c0, .inl (X.2.1, 25, .inl f))]) sz) (va_A ([(h0, .inr (5, [.int 5, .int 0, .int 1, .ref c0, .int (nI n)])), (c0, .inl (X.2.1, 25, .inl f))]) sz) s ([(h0, .inr (5, [.int 5, .int 0, .int 1, .ref c0, .int (nI n_7)])), (c0, .inl (X.2.1, 25, .inl f_6))]) H locs := ⟨(n + 1), by omega, rfl, G⟩
    refine lv_iconst (v := 1) zx zb dX7_append_83 (by decide) ?_
    exact e_int S zr zlk (by decide) G (n_7, f_6) [0, 1] rfl rfl (Or.inr rfl) (⟨hI_n_7, by first | exact Or.inl rfl | exact Or.inr rfl⟩) dX7_append_84
  · have fc_1 := j_nlt (a := n) (b := 5) (by omega) (by omega) c_1
    refine lv_iconst (v := 0) zx zb dX7_append_11 (by decide) ?_
    exact e_int S zr zlk (by decide) G (n, f) [0, 1] rfl rfl (Or.inr rfl) (⟨hI_n, by first | exact Or.inl rfl | exact Or.inr rfl⟩) dX7_append_12
theorem in_X7_fitRunner_X7 : ∀ w ∈ wsX70, w ∈ wsX7_fitRunner := by decide +kernel
theorem lk_X7_fitRunner_7 : Cond.fieldLink RX7 7 "EggSpoons$Rows" "size" "I" ∈ wsX7_fitRunner := by decide +kernel
theorem lk_X7_fitRunner_16 : Cond.fieldLink RX7 16 "EggSpoons$Rows" "withLegs" "Z" ∈ wsX7_fitRunner := by decide +kernel
theorem lk_X7_fitRunner_23 : Cond.fieldLink RX7 23 "EggSpoons$Rows" "cells" "[I" ∈ wsX7_fitRunner := by decide +kernel
set_option maxHeartbeats 4000000 in
set_option maxRecDepth 100000 in
/-- fitRunner -/
theorem s_fitRunner0 (l : Launch) (X : EX) (h0 : Nat) (c0 : Nat) (n : Nat) (f : Nat → Int32) (x1 : Int32) (x2 : Int32) (x3 : Int32) (hI_n : n ≤ 5) (sz : Nat) : Met l yX7_fitRunner wsX7_fitRunner ({ frames := 1, cells := 0, slots := 0, locals := 26 } : Room) (pE X [.ref h0, .int x1, .int x2, .int x3] ([(h0, .inr (5, [.int 5, .int 0, .int 1, .ref c0, .int (nI n)])), (c0, .inl (X.2.1, 25, .inl f))]) sz) (qI (fun (r : Int32) (u : Unit) => r = 0 ∨ r = 1) X (fun (u : Unit) => []) [] sz) 0 0 (va_A [] sz) := by
  refine mk_met (B := (fun _ => True)) (A := (va_A [] sz)) (cc := cX7_fitRunner) (maxL := 7) (ret := (some .boolean)) (by decide) rfl (Nat.le_of_ble_eq_true rfl) k_ro k_a (fun p e s m below meth c S zr zlk znm zsz G ls hl => ?_)
  have S : CallFix p m c cX7_fitRunner 7 s _ wsX7_fitRunner RX7 := S
  have zx := S.1
  have zb := S.2.1
  have hl : lv_has ls 7 [(0, .ref h0), (1, .int x1), (2, .int x2), (3, .int x3)] := hl
  refine lv_iconst (v := 0) zx zb dX7_fitRunner_0 (by decide) ?_
  refine lv_istore (lv' := [(4, .int 0), (0, .ref h0), (1, .int x1), (2, .int x2), (3, .int x3)]) zx zb dX7_fitRunner_1 hl (by decide) rfl (fun ls hl => ?_)
  refine k_loop (P := ∀ (zm : Nat) (k3 : Nat) (H : Heap) (locs : List Loc) (ls : Array Slot), n + 1 ≤ k3 + zm → (k3 ≤ n) → wd X (fun _ => True) (va_A [] sz) s ([(h0, .inr (5, [.int 5, .int 0, .int 1, .ref c0, .int (nI n)])), (c0, .inl (X.2.1, 25, .inl f))]) H locs → lv_has ls 7 [(4, .int (nI k3)), (0, .ref h0), (1, .int x1), (2, .int x2), (3, .int x3)] → W p l e _ s m _ below meth c H locs _ _ _ (F0 m 3 ls [])) (fun loop => loop (n + 1) 0 _ _ _ (by omega) (by omega) G hl) ?_
  intro zm
  induction zm with
  | zero => intro k3 H locs ls zz q_hk_k3 _ _; exact absurd zz (by omega)
  | succ zm ih3 =>
    intro k3 H locs ls zm_3 hk_k3 G hl
    refine lv_iload zx zb dX7_fitRunner_3 (lv_at hl 0 rfl) ?_
    refine lv_aload_n zx zb dX7_fitRunner_5 rfl (lv_at hl 1 rfl) ?_
    refine r_get (C := RX7) (T := TX7) (N := 5) (ci := 5) (v := .int (nI n)) S in_X7_fitRunner_X7 G 0 rfl rfl 4 (by decide) lk_X7_fitRunner_7 rfl dX7_fitRunner_6 ?_
    refine lv_icmp_ge (tgt := 97) zx zb dX7_fitRunner_9 (by decide) (fun c_1 => ?_) (fun c_1 => ?_)
    · have fc_1 := j_le (a := n) (b := k3) (by omega) (by omega) c_1
      refine lv_iconst (v := 1) zx zb dX7_fitRunner_97 (by decide) ?_
      exact e_int S zr zlk (by decide) G () [] rfl rfl (Or.inl rfl) (by first | exact Or.inl rfl | exact Or.inr rfl) dX7_fitRunner_98
    · have fc_1 := j_nle (a := n) (b := k3) (by omega) (by omega) c_1
      refine lv_iload zx zb dX7_fitRunner_12 (lv_at hl 0 rfl) ?_
      refine lv_iconst (v := 5) zx zb dX7_fitRunner_14 (by decide) ?_
      refine r_imul (v := (nI (k3 * 5))) S (pk_mul k3 5) dX7_fitRunner_15 ?_
      refine lv_istore (lv' := [(5, .int (nI (k3 * 5))), (4, .int (nI k3)), (0, .ref h0), (1, .int x1), (2, .int x2), (3, .int x3)]) zx zb dX7_fitRunner_16 hl (by decide) rfl (fun ls hl => ?_)
      refine lv_aload_n zx zb dX7_fitRunner_18 rfl (lv_at hl 2 rfl) ?_
      refine r_get (C := RX7) (T := TX7) (N := 5) (ci := 5) (v := .int 0) S in_X7_fitRunner_X7 G 0 rfl rfl 1 (by decide) lk_X7_fitRunner_16 rfl dX7_fitRunner_19 ?_
      refine lv_if_eq (tgt := 37) zx zb dX7_fitRunner_22 (by decide) (fun c_2 => ?_) (fun c_2 => absurd (by decide) c_2)
      refine lv_iload_n zx zb dX7_fitRunner_37 rfl (lv_at hl 5 rfl) ?_
      refine lv_istore (lv' := [(6, .int x3), (5, .int (nI (k3 * 5))), (4, .int (nI k3)), (0, .ref h0), (1, .int x1), (2, .int x2), (3, .int x3)]) zx zb dX7_fitRunner_38 hl (by decide) rfl (fun ls hl => ?_)
      refine lv_aload_n zx zb dX7_fitRunner_40 rfl (lv_at hl 3 rfl) ?_
      refine r_get (C := RX7) (T := TX7) (N := 5) (ci := 5) (v := .ref c0) S in_X7_fitRunner_X7 G 0 rfl rfl 3 (by decide) lk_X7_fitRunner_23 rfl dX7_fitRunner_41 ?_
      refine lv_iload zx zb dX7_fitRunner_44 (lv_at hl 1 rfl) ?_
      refine lv_iconst (v := 0) zx zb dX7_fitRunner_46 (by decide) ?_
      refine r_iadd (v := (nI ((k3 * 5) + 0))) S (nI_add (k3 * 5) 0) dX7_fitRunner_47 ?_
      refine r_iald S G 1 rfl (vp_in_nI (by omega) (by decide)) rfl dX7_fitRunner_48 ?_
      refine k_itE (fun y_3 => ?_)
      refine lv_iload_n zx zb dX7_fitRunner_49 rfl (lv_at hl 4 rfl) ?_
      refine lv_icmp_ne (tgt := 91) zx zb dX7_fitRunner_50 (by decide) (fun c_4 => ?_) (fun c_4 => ?_)
      · refine lv_iinc (v := (nI (k3 + 1))) (lv' := [(4, .int (nI (k3 + 1))), (6, .int x3), (5, .int (nI (k3 * 5))), (0, .ref h0), (1, .int x1), (2, .int x2), (3, .int x3)]) zx zb dX7_fitRunner_91 hl (k := 2) rfl (nI_add k3 1) (by decide) rfl (fun ls hl => ?_)
        refine lv_goto (tgt := 3) zx zb dX7_fitRunner_94 (by decide) ?_
        have hl := lv_sub hl (l' := [(4, .int (nI (k3 + 1))), (0, .ref h0), (1, .int x1), (2, .int x2), (3, .int x3)]) [0, 3, 4, 5, 6] rfl
        exact ih3 (k3 + 1) _ _ _ (by omega) (by omega) G hl
      · refine lv_iload_n zx zb dX7_fitRunner_53 rfl (lv_at hl 5 rfl) ?_
        refine lv_iload zx zb dX7_fitRunner_54 (lv_at hl 0 rfl) ?_
        refine lv_aload_n zx zb dX7_fitRunner_56 rfl (lv_at hl 3 rfl) ?_
        refine r_get (C := RX7) (T := TX7) (N := 5) (ci := 5) (v := .ref c0) S in_X7_fitRunner_X7 G 0 rfl rfl 3 (by decide) lk_X7_fitRunner_23 rfl dX7_fitRunner_57 ?_
        refine lv_iload zx zb dX7_fitRunner_60 (lv_at hl 1 rfl) ?_
        refine lv_iconst (v := 2) zx zb dX7_fitRunner_62 (by decide) ?_
        refine r_iadd (v := (nI ((k3 * 5) + 2))) S (nI_add (k3 * 5) 2) dX7_fitRunner_63 ?_
        refine r_iald S G 1 rfl (vp_in_nI (by omega) (by decide)) rfl dX7_fitRunner_64 ?_
        refine k_itE (fun y_5 => ?_)
        refine lv_aload_n zx zb dX7_fitRunner_65 rfl (lv_at hl 3 rfl) ?_
        refine r_get (C := RX7) (T := TX7) (N := 5) (ci := 5) (v := .ref c0) S in_X7_fitRunner_X7 G 0 rfl rfl 3 (by decide) lk_X7_fitRunner_23 rfl dX7_fitRunner_66 ?_
        refine lv_iload zx zb dX7_fitRunner_69 (lv_at hl 1 rfl) ?_
        refine lv_iconst (v := 3) zx zb dX7_fitRunner_71 (by decide) ?_
        refine r_iadd (v := (nI ((k3 * 5) + 3))) S (nI_add (k3 * 5) 3) dX7_fitRunner_72 ?_
        refine r_iald S G 1 rfl (vp_in_nI (by omega) (by decide)) rfl dX7_fitRunner_73 ?_
        refine k_itE (fun y_6 => ?_)
        refine o_ri (cells' := 0) (slots' := 0) G rfl rfl (n_S (As := [.int x2, .int x3, .int y_5, .int y_6]) (rest := []) S G (s_reach l X x2 x3 y_5 y_6 H.size) gX7_fitRunner_X2_reach rfl rfl rfl hdS_X2_reach ⟨Nat.le_of_ble_eq_true rfl, Nat.le_of_ble_eq_true rfl⟩ [] rfl rfl rfl hl.1 (Nat.le_of_ble_eq_true rfl) dX7_fitRunner_74 ⟨Nat.le_of_ble_eq_true rfl, Nat.le_of_ble_eq_true rfl⟩) (fun r_7 u_7 H locs hp_7 G => ?_)
        have G : wd X (fun _ => True) (va_A [] sz) s ([(h0, .inr (5, [.int 5, .int 0, .int 1, .ref c0, .int (nI n)])), (c0, .inl (X.2.1, 25, .inl f))]) H locs := G
        refine lv_aload_n zx zb dX7_fitRunner_77 rfl (lv_at hl 3 rfl) ?_
        refine r_get (C := RX7) (T := TX7) (N := 5) (ci := 5) (v := .ref c0) S in_X7_fitRunner_X7 G 0 rfl rfl 3 (by decide) lk_X7_fitRunner_23 rfl dX7_fitRunner_78 ?_
        refine lv_iload zx zb dX7_fitRunner_81 (lv_at hl 1 rfl) ?_
        refine lv_iconst (v := 4) zx zb dX7_fitRunner_83 (by decide) ?_
        refine r_iadd (v := (nI ((k3 * 5) + 4))) S (nI_add (k3 * 5) 4) dX7_fitRunner_84 ?_
        refine r_iald S G 1 rfl (vp_in_nI (by omega) (by decide)) rfl dX7_fitRunner_85 ?_
        refine k_itE (fun y_8 => ?_)
        refine lv_icmp_eq (tgt := 91) zx zb dX7_fitRunner_86 (by decide) (fun c_9 => ?_) (fun c_9 => ?_)
        · refine lv_iinc (v := (nI (k3 + 1))) (lv' := [(4, .int (nI (k3 + 1))), (6, .int x3), (5, .int (nI (k3 * 5))), (0, .ref h0), (1, .int x1), (2, .int x2), (3, .int x3)]) zx zb dX7_fitRunner_91 hl (k := 2) rfl (nI_add k3 1) (by decide) rfl (fun ls hl => ?_)
          refine lv_goto (tgt := 3) zx zb dX7_fitRunner_94 (by decide) ?_
          have hl := lv_sub hl (l' := [(4, .int (nI (k3 + 1))), (0, .ref h0), (1, .int x1), (2, .int x2), (3, .int x3)]) [0, 3, 4, 5, 6] rfl
          exact ih3 (k3 + 1) _ _ _ (by omega) (by omega) G hl
        · refine lv_iconst (v := 0) zx zb dX7_fitRunner_89 (by decide) ?_
          exact e_int S zr zlk (by decide) G () [] rfl rfl (Or.inl rfl) (by first | exact Or.inl rfl | exact Or.inr rfl) dX7_fitRunner_90
theorem in_X7_fitEgg_X7 : ∀ w ∈ wsX70, w ∈ wsX7_fitEgg := by decide +kernel
theorem lk_X7_fitEgg_7 : Cond.fieldLink RX7 7 "EggSpoons$Rows" "size" "I" ∈ wsX7_fitEgg := by decide +kernel
theorem lk_X7_fitEgg_23 : Cond.fieldLink RX7 23 "EggSpoons$Rows" "cells" "[I" ∈ wsX7_fitEgg := by decide +kernel
set_option maxHeartbeats 4000000 in
set_option maxRecDepth 100000 in
/-- fitEgg -/
theorem s_fitEgg0 (l : Launch) (X : EX) (h0 : Nat) (c0 : Nat) (n : Nat) (f : Nat → Int32) (x1 : Int32) (x2 : Int32) (hI_n : n ≤ 5) (sz : Nat) : Met l yX7_fitEgg wsX7_fitEgg ({ frames := 1, cells := 0, slots := 0, locals := 24 } : Room) (pE X [.ref h0, .int x1, .int x2] ([(h0, .inr (5, [.int 5, .int 0, .int 1, .ref c0, .int (nI n)])), (c0, .inl (X.2.1, 25, .inl f))]) sz) (qI (fun (r : Int32) (u : Unit) => r = 0 ∨ r = 1) X (fun (u : Unit) => []) [] sz) 0 0 (va_A [] sz) := by
  refine mk_met (B := (fun _ => True)) (A := (va_A [] sz)) (cc := cX7_fitEgg) (maxL := 5) (ret := (some .boolean)) (by decide) rfl (Nat.le_of_ble_eq_true rfl) k_ro k_a (fun p e s m below meth c S zr zlk znm zsz G ls hl => ?_)
  have S : CallFix p m c cX7_fitEgg 5 s _ wsX7_fitEgg RX7 := S
  have zx := S.1
  have zb := S.2.1
  have hl : lv_has ls 5 [(0, .ref h0), (1, .int x1), (2, .int x2)] := hl
  refine lv_iconst (v := 0) zx zb dX7_fitEgg_0 (by decide) ?_
  refine lv_istore_n (lv' := [(3, .int 0), (0, .ref h0), (1, .int x1), (2, .int x2)]) zx zb dX7_fitEgg_1 rfl hl (by decide) rfl (fun ls hl => ?_)
  refine k_loop (P := ∀ (zm : Nat) (k2 : Nat) (H : Heap) (locs : List Loc) (ls : Array Slot), n + 1 ≤ k2 + zm → (k2 ≤ n) → wd X (fun _ => True) (va_A [] sz) s ([(h0, .inr (5, [.int 5, .int 0, .int 1, .ref c0, .int (nI n)])), (c0, .inl (X.2.1, 25, .inl f))]) H locs → lv_has ls 5 [(3, .int (nI k2)), (0, .ref h0), (1, .int x1), (2, .int x2)] → W p l e _ s m _ below meth c H locs _ _ _ (F0 m 2 ls [])) (fun loop => loop (n + 1) 0 _ _ _ (by omega) (by omega) G hl) ?_
  intro zm
  induction zm with
  | zero => intro k2 H locs ls zz q_hk_k2 _ _; exact absurd zz (by omega)
  | succ zm ih2 =>
    intro k2 H locs ls zm_2 hk_k2 G hl
    refine lv_iload_n zx zb dX7_fitEgg_2 rfl (lv_at hl 0 rfl) ?_
    refine lv_aload_n zx zb dX7_fitEgg_3 rfl (lv_at hl 1 rfl) ?_
    refine r_get (C := RX7) (T := TX7) (N := 5) (ci := 5) (v := .int (nI n)) S in_X7_fitEgg_X7 G 0 rfl rfl 4 (by decide) lk_X7_fitEgg_7 rfl dX7_fitEgg_4 ?_
    refine lv_icmp_ge (tgt := 61) zx zb dX7_fitEgg_7 (by decide) (fun c_1 => ?_) (fun c_1 => ?_)
    · have fc_1 := j_le (a := n) (b := k2) (by omega) (by omega) c_1
      refine lv_iconst (v := 1) zx zb dX7_fitEgg_61 (by decide) ?_
      exact e_int S zr zlk (by decide) G () [] rfl rfl (Or.inl rfl) (by first | exact Or.inl rfl | exact Or.inr rfl) dX7_fitEgg_62
    · have fc_1 := j_nle (a := n) (b := k2) (by omega) (by omega) c_1
      refine lv_iload_n zx zb dX7_fitEgg_10 rfl (lv_at hl 0 rfl) ?_
      refine lv_iconst (v := 5) zx zb dX7_fitEgg_11 (by decide) ?_
      refine r_imul (v := (nI (k2 * 5))) S (pk_mul k2 5) dX7_fitEgg_12 ?_
      refine lv_istore (lv' := [(4, .int (nI (k2 * 5))), (3, .int (nI k2)), (0, .ref h0), (1, .int x1), (2, .int x2)]) zx zb dX7_fitEgg_13 hl (by decide) rfl (fun ls hl => ?_)
      refine lv_aload_n zx zb dX7_fitEgg_15 rfl (lv_at hl 2 rfl) ?_
      refine r_get (C := RX7) (T := TX7) (N := 5) (ci := 5) (v := .ref c0) S in_X7_fitEgg_X7 G 0 rfl rfl 3 (by decide) lk_X7_fitEgg_23 rfl dX7_fitEgg_16 ?_
      refine lv_iload zx zb dX7_fitEgg_19 (lv_at hl 0 rfl) ?_
      refine lv_iconst (v := 0) zx zb dX7_fitEgg_21 (by decide) ?_
      refine r_iadd (v := (nI ((k2 * 5) + 0))) S (nI_add (k2 * 5) 0) dX7_fitEgg_22 ?_
      refine r_iald S G 1 rfl (vp_in_nI (by omega) (by decide)) rfl dX7_fitEgg_23 ?_
      refine k_itE (fun y_2 => ?_)
      refine lv_iload_n zx zb dX7_fitEgg_24 rfl (lv_at hl 3 rfl) ?_
      refine lv_icmp_ne (tgt := 55) zx zb dX7_fitEgg_25 (by decide) (fun c_3 => ?_) (fun c_3 => ?_)
      · refine lv_iinc (v := (nI (k2 + 1))) (lv' := [(3, .int (nI (k2 + 1))), (4, .int (nI (k2 * 5))), (0, .ref h0), (1, .int x1), (2, .int x2)]) zx zb dX7_fitEgg_55 hl (k := 1) rfl (nI_add k2 1) (by decide) rfl (fun ls hl => ?_)
        refine lv_goto (tgt := 2) zx zb dX7_fitEgg_58 (by decide) ?_
        have hl := lv_sub hl (l' := [(3, .int (nI (k2 + 1))), (0, .ref h0), (1, .int x1), (2, .int x2)]) [0, 2, 3, 4] rfl
        exact ih2 (k2 + 1) _ _ _ (by omega) (by omega) G hl
      · refine lv_iload_n zx zb dX7_fitEgg_28 rfl (lv_at hl 4 rfl) ?_
        refine lv_aload_n zx zb dX7_fitEgg_29 rfl (lv_at hl 2 rfl) ?_
        refine r_get (C := RX7) (T := TX7) (N := 5) (ci := 5) (v := .ref c0) S in_X7_fitEgg_X7 G 0 rfl rfl 3 (by decide) lk_X7_fitEgg_23 rfl dX7_fitEgg_30 ?_
        refine lv_iload zx zb dX7_fitEgg_33 (lv_at hl 0 rfl) ?_
        refine lv_iconst (v := 2) zx zb dX7_fitEgg_35 (by decide) ?_
        refine r_iadd (v := (nI ((k2 * 5) + 2))) S (nI_add (k2 * 5) 2) dX7_fitEgg_36 ?_
        refine r_iald S G 1 rfl (vp_in_nI (by omega) (by decide)) rfl dX7_fitEgg_37 ?_
        refine k_itE (fun y_4 => ?_)
        refine o_ri (cells' := 0) (slots' := 0) G rfl rfl (n_S (As := [.int x2, .int y_4]) (rest := []) S G (s_limit l X x2 y_4 H.size) gX7_fitEgg_X1_limit rfl rfl rfl hdS_X1_limit ⟨Nat.le_of_ble_eq_true rfl, Nat.le_of_ble_eq_true rfl⟩ [] rfl rfl rfl hl.1 (Nat.le_of_ble_eq_true rfl) dX7_fitEgg_38 ⟨Nat.le_of_ble_eq_true rfl, Nat.le_of_ble_eq_true rfl⟩) (fun r_5 u_5 H locs hp_5 G => ?_)
        have G : wd X (fun _ => True) (va_A [] sz) s ([(h0, .inr (5, [.int 5, .int 0, .int 1, .ref c0, .int (nI n)])), (c0, .inl (X.2.1, 25, .inl f))]) H locs := G
        refine lv_aload_n zx zb dX7_fitEgg_41 rfl (lv_at hl 2 rfl) ?_
        refine r_get (C := RX7) (T := TX7) (N := 5) (ci := 5) (v := .ref c0) S in_X7_fitEgg_X7 G 0 rfl rfl 3 (by decide) lk_X7_fitEgg_23 rfl dX7_fitEgg_42 ?_
        refine lv_iload zx zb dX7_fitEgg_45 (lv_at hl 0 rfl) ?_
        refine lv_iconst (v := 4) zx zb dX7_fitEgg_47 (by decide) ?_
        refine r_iadd (v := (nI ((k2 * 5) + 4))) S (nI_add (k2 * 5) 4) dX7_fitEgg_48 ?_
        refine r_iald S G 1 rfl (vp_in_nI (by omega) (by decide)) rfl dX7_fitEgg_49 ?_
        refine k_itE (fun y_6 => ?_)
        refine lv_icmp_eq (tgt := 55) zx zb dX7_fitEgg_50 (by decide) (fun c_7 => ?_) (fun c_7 => ?_)
        · refine lv_iinc (v := (nI (k2 + 1))) (lv' := [(3, .int (nI (k2 + 1))), (4, .int (nI (k2 * 5))), (0, .ref h0), (1, .int x1), (2, .int x2)]) zx zb dX7_fitEgg_55 hl (k := 1) rfl (nI_add k2 1) (by decide) rfl (fun ls hl => ?_)
          refine lv_goto (tgt := 2) zx zb dX7_fitEgg_58 (by decide) ?_
          have hl := lv_sub hl (l' := [(3, .int (nI (k2 + 1))), (0, .ref h0), (1, .int x1), (2, .int x2)]) [0, 2, 3, 4] rfl
          exact ih2 (k2 + 1) _ _ _ (by omega) (by omega) G hl
        · refine lv_iconst (v := 0) zx zb dX7_fitEgg_53 (by decide) ?_
          exact e_int S zr zlk (by decide) G () [] rfl rfl (Or.inl rfl) (by first | exact Or.inl rfl | exact Or.inr rfl) dX7_fitEgg_54
theorem in_X7_mixInto_X7 : ∀ w ∈ wsX70, w ∈ wsX7_mixInto := by decide +kernel
theorem lk_X7_mixInto_7 : Cond.fieldLink RX7 7 "EggSpoons$Rows" "size" "I" ∈ wsX7_mixInto := by decide +kernel
theorem mm_X7_mixInto_c50 : Cond.constantLong RX7 50 (31) ∈ wsX7_mixInto := by decide +kernel
theorem lk_X7_mixInto_23 : Cond.fieldLink RX7 23 "EggSpoons$Rows" "cells" "[I" ∈ wsX7_mixInto := by decide +kernel
theorem lk_X7_mixInto_16 : Cond.fieldLink RX7 16 "EggSpoons$Rows" "withLegs" "Z" ∈ wsX7_mixInto := by decide +kernel
theorem lk_X7_mixInto_20 : Cond.fieldLink RX7 20 "EggSpoons$Rows" "withSpeed" "Z" ∈ wsX7_mixInto := by decide +kernel
set_option maxHeartbeats 4000000 in
set_option maxRecDepth 100000 in
/-- mixInto -/
theorem s_mixInto0 (l : Launch) (X : EX) (h0 : Nat) (c0 : Nat) (n : Nat) (f : Nat → Int32) (x : Int64) (hI_n : n ≤ 5) (sz : Nat) : Met l yX7_mixInto wsX7_mixInto ({ frames := 0, cells := 0, slots := 0, locals := 0 } : Room) (pE X [.ref h0, .long x] ([(h0, .inr (5, [.int 5, .int 0, .int 1, .ref c0, .int (nI n)])), (c0, .inl (X.2.1, 25, .inl f))]) sz) (qL (fun (r : Int64) (u : Unit) => True) X (fun (u : Unit) => []) [] sz) 0 0 (va_A [] sz) := by
  refine mk_met (B := (fun _ => True)) (A := (va_A [] sz)) (cc := cX7_mixInto) (maxL := 7) (ret := (some .long)) (by decide) rfl (Nat.le_of_ble_eq_true rfl) k_ro k_a (fun p e s m below meth c S zr zlk znm zsz G ls hl => ?_)
  have S : CallFix p m c cX7_mixInto 7 s _ wsX7_mixInto RX7 := S
  have zx := S.1
  have zb := S.2.1
  have hl : lv_has ls 7 [(0, .ref h0), (1, .long x)] := hl
  refine lv_lload_n zx zb dX7_mixInto_0 rfl (lv_at hl 1 rfl) ?_
  refine lv_lstore_n (lv' := [(3, .long x), (0, .ref h0), (1, .long x)]) zx zb dX7_mixInto_1 rfl hl (by decide) rfl (fun ls hl => ?_)
  refine lv_iconst (v := 0) zx zb dX7_mixInto_2 (by decide) ?_
  refine lv_istore (lv' := [(5, .int 0), (3, .long x), (0, .ref h0), (1, .long x)]) zx zb dX7_mixInto_3 hl (by decide) rfl (fun ls hl => ?_)
  refine k_loop (P := ∀ (zm : Nat) (k5 : Nat) (x5_3 : Int64) (H : Heap) (locs : List Loc) (ls : Array Slot), n + 1 ≤ k5 + zm → (k5 ≤ n) → wd X (fun _ => True) (va_A [] sz) s ([(h0, .inr (5, [.int 5, .int 0, .int 1, .ref c0, .int (nI n)])), (c0, .inl (X.2.1, 25, .inl f))]) H locs → lv_has ls 7 [(5, .int (nI k5)), (3, .long x5_3), (0, .ref h0), (1, .long x)] → W p l e _ s m _ below meth c H locs _ _ _ (F0 m 5 ls [])) (fun loop => loop (n + 1) 0 x _ _ _ (by omega) (by omega) G hl) ?_
  intro zm
  induction zm with
  | zero => intro k5 x5_3 H locs ls zz q_hk_k5 _ _; exact absurd zz (by omega)
  | succ zm ih5 =>
    intro k5 x5_3 H locs ls zm_5 hk_k5 G hl
    refine lv_iload zx zb dX7_mixInto_5 (lv_at hl 0 rfl) ?_
    refine lv_aload_n zx zb dX7_mixInto_7 rfl (lv_at hl 2 rfl) ?_
    refine r_get (C := RX7) (T := TX7) (N := 5) (ci := 5) (v := .int (nI n)) S in_X7_mixInto_X7 G 0 rfl rfl 4 (by decide) lk_X7_mixInto_7 rfl dX7_mixInto_8 ?_
    refine lv_icmp_ge (tgt := 133) zx zb dX7_mixInto_11 (by decide) (fun c_1 => ?_) (fun c_1 => ?_)
    · have fc_1 := j_le (a := n) (b := k5) (by omega) (by omega) c_1
      refine lv_lload_n zx zb dX7_mixInto_133 rfl (lv_at hl 1 rfl) ?_
      exact e_long S zr zlk G () [] rfl rfl (Or.inl rfl) (trivial) dX7_mixInto_134
    · have fc_1 := j_nle (a := n) (b := k5) (by omega) (by omega) c_1
      refine lv_iload zx zb dX7_mixInto_14 (lv_at hl 0 rfl) ?_
      refine lv_iconst (v := 5) zx zb dX7_mixInto_16 (by decide) ?_
      refine r_imul (v := (nI (k5 * 5))) S (pk_mul k5 5) dX7_mixInto_17 ?_
      refine lv_istore (lv' := [(6, .int (nI (k5 * 5))), (5, .int (nI k5)), (3, .long x5_3), (0, .ref h0), (1, .long x)]) zx zb dX7_mixInto_18 hl (by decide) rfl (fun ls hl => ?_)
      refine lv_ldc2 zx zb S.2.2.2.1 (S.2.2.2.2 _ mm_X7_mixInto_c50) dX7_mixInto_20 ?_
      refine k_ld (v := (Int32.toInt64 31)) (by decide) ?_
      refine lv_lload_n zx zb dX7_mixInto_23 rfl (lv_at hl 2 rfl) ?_
      refine r_lmul (v := ((Int32.toInt64 31) * x5_3)) S rfl dX7_mixInto_24 ?_
      refine lv_aload_n zx zb dX7_mixInto_25 rfl (lv_at hl 3 rfl) ?_
      refine r_get (C := RX7) (T := TX7) (N := 5) (ci := 5) (v := .ref c0) S in_X7_mixInto_X7 G 0 rfl rfl 3 (by decide) lk_X7_mixInto_23 rfl dX7_mixInto_26 ?_
      refine lv_iload zx zb dX7_mixInto_29 (lv_at hl 0 rfl) ?_
      refine lv_iconst (v := 0) zx zb dX7_mixInto_31 (by decide) ?_
      refine r_iadd (v := (nI ((k5 * 5) + 0))) S (nI_add (k5 * 5) 0) dX7_mixInto_32 ?_
      refine r_iald S G 1 rfl (vp_in_nI (by omega) (by decide)) rfl dX7_mixInto_33 ?_
      refine k_itE (fun y_8 => ?_)
      refine lv_i2l (v := (Int32.toInt64 y_8)) zx zb dX7_mixInto_34 rfl ?_
      refine r_ladd (v := (((Int32.toInt64 31) * x5_3) + (Int32.toInt64 y_8))) S rfl dX7_mixInto_35 ?_
      refine lv_lstore_n (lv' := [(3, .long (((Int32.toInt64 31) * x5_3) + (Int32.toInt64 y_8))), (6, .int (nI (k5 * 5))), (5, .int (nI k5)), (0, .ref h0), (1, .long x)]) zx zb dX7_mixInto_36 rfl hl (by decide) rfl (fun ls hl => ?_)
      refine lv_aload_n zx zb dX7_mixInto_37 rfl (lv_at hl 3 rfl) ?_
      refine r_get (C := RX7) (T := TX7) (N := 5) (ci := 5) (v := .int 0) S in_X7_mixInto_X7 G 0 rfl rfl 1 (by decide) lk_X7_mixInto_16 rfl dX7_mixInto_38 ?_
      refine lv_if_eq (tgt := 63) zx zb dX7_mixInto_41 (by decide) (fun c_9 => ?_) (fun c_9 => absurd (by decide) c_9)
      refine lv_lload_n zx zb dX7_mixInto_63 rfl (lv_at hl 0 rfl) ?_
      refine lv_lstore_n (lv' := [(3, .long (((Int32.toInt64 31) * x5_3) + (Int32.toInt64 y_8))), (6, .int (nI (k5 * 5))), (5, .int (nI k5)), (0, .ref h0), (1, .long x)]) zx zb dX7_mixInto_64 rfl hl (by decide) rfl (fun ls hl => ?_)
      refine lv_ldc2 zx zb S.2.2.2.1 (S.2.2.2.2 _ mm_X7_mixInto_c50) dX7_mixInto_65 ?_
      refine k_ld (v := (Int32.toInt64 31)) (by decide) ?_
      refine lv_lload_n zx zb dX7_mixInto_68 rfl (lv_at hl 0 rfl) ?_
      refine r_lmul (v := ((Int32.toInt64 31) * (((Int32.toInt64 31) * x5_3) + (Int32.toInt64 y_8)))) S rfl dX7_mixInto_69 ?_
      refine lv_aload_n zx zb dX7_mixInto_70 rfl (lv_at hl 3 rfl) ?_
      refine r_get (C := RX7) (T := TX7) (N := 5) (ci := 5) (v := .ref c0) S in_X7_mixInto_X7 G 0 rfl rfl 3 (by decide) lk_X7_mixInto_23 rfl dX7_mixInto_71 ?_
      refine lv_iload zx zb dX7_mixInto_74 (lv_at hl 1 rfl) ?_
      refine lv_iconst (v := 2) zx zb dX7_mixInto_76 (by decide) ?_
      refine r_iadd (v := (nI ((k5 * 5) + 2))) S (nI_add (k5 * 5) 2) dX7_mixInto_77 ?_
      refine r_iald S G 1 rfl (vp_in_nI (by omega) (by decide)) rfl dX7_mixInto_78 ?_
      refine k_itE (fun y_10 => ?_)
      refine lv_i2l (v := (Int32.toInt64 y_10)) zx zb dX7_mixInto_79 rfl ?_
      refine r_ladd (v := (((Int32.toInt64 31) * (((Int32.toInt64 31) * x5_3) + (Int32.toInt64 y_8))) + (Int32.toInt64 y_10))) S rfl dX7_mixInto_80 ?_
      refine lv_lstore_n (lv' := [(3, .long (((Int32.toInt64 31) * (((Int32.toInt64 31) * x5_3) + (Int32.toInt64 y_8))) + (Int32.toInt64 y_10))), (6, .int (nI (k5 * 5))), (5, .int (nI k5)), (0, .ref h0), (1, .long x)]) zx zb dX7_mixInto_81 rfl hl (by decide) rfl (fun ls hl => ?_)
      refine lv_aload_n zx zb dX7_mixInto_82 rfl (lv_at hl 3 rfl) ?_
      refine r_get (C := RX7) (T := TX7) (N := 5) (ci := 5) (v := .int 1) S in_X7_mixInto_X7 G 0 rfl rfl 2 (by decide) lk_X7_mixInto_20 rfl dX7_mixInto_83 ?_
      refine lv_if_eq (tgt := 108) zx zb dX7_mixInto_86 (by decide) (fun c_11 => absurd c_11 (by decide)) (fun c_11 => ?_)
      refine lv_ldc2 zx zb S.2.2.2.1 (S.2.2.2.2 _ mm_X7_mixInto_c50) dX7_mixInto_89 ?_
      refine k_ld (v := (Int32.toInt64 31)) (by decide) ?_
      refine lv_lload_n zx zb dX7_mixInto_92 rfl (lv_at hl 0 rfl) ?_
      refine r_lmul (v := ((Int32.toInt64 31) * (((Int32.toInt64 31) * (((Int32.toInt64 31) * x5_3) + (Int32.toInt64 y_8))) + (Int32.toInt64 y_10)))) S rfl dX7_mixInto_93 ?_
      refine lv_aload_n zx zb dX7_mixInto_94 rfl (lv_at hl 3 rfl) ?_
      refine r_get (C := RX7) (T := TX7) (N := 5) (ci := 5) (v := .ref c0) S in_X7_mixInto_X7 G 0 rfl rfl 3 (by decide) lk_X7_mixInto_23 rfl dX7_mixInto_95 ?_
      refine lv_iload zx zb dX7_mixInto_98 (lv_at hl 1 rfl) ?_
      refine lv_iconst (v := 3) zx zb dX7_mixInto_100 (by decide) ?_
      refine r_iadd (v := (nI ((k5 * 5) + 3))) S (nI_add (k5 * 5) 3) dX7_mixInto_101 ?_
      refine r_iald S G 1 rfl (vp_in_nI (by omega) (by decide)) rfl dX7_mixInto_102 ?_
      refine k_itE (fun y_12 => ?_)
      refine lv_i2l (v := (Int32.toInt64 y_12)) zx zb dX7_mixInto_103 rfl ?_
      refine r_ladd (v := (((Int32.toInt64 31) * (((Int32.toInt64 31) * (((Int32.toInt64 31) * x5_3) + (Int32.toInt64 y_8))) + (Int32.toInt64 y_10))) + (Int32.toInt64 y_12))) S rfl dX7_mixInto_104 ?_
      refine lv_goto (tgt := 109) zx zb dX7_mixInto_105 (by decide) ?_
      refine lv_lstore_n (lv' := [(3, .long (((Int32.toInt64 31) * (((Int32.toInt64 31) * (((Int32.toInt64 31) * x5_3) + (Int32.toInt64 y_8))) + (Int32.toInt64 y_10))) + (Int32.toInt64 y_12))), (6, .int (nI (k5 * 5))), (5, .int (nI k5)), (0, .ref h0), (1, .long x)]) zx zb dX7_mixInto_109 rfl hl (by decide) rfl (fun ls hl => ?_)
      refine lv_ldc2 zx zb S.2.2.2.1 (S.2.2.2.2 _ mm_X7_mixInto_c50) dX7_mixInto_110 ?_
      refine k_ld (v := (Int32.toInt64 31)) (by decide) ?_
      refine lv_lload_n zx zb dX7_mixInto_113 rfl (lv_at hl 0 rfl) ?_
      refine r_lmul (v := ((Int32.toInt64 31) * (((Int32.toInt64 31) * (((Int32.toInt64 31) * (((Int32.toInt64 31) * x5_3) + (Int32.toInt64 y_8))) + (Int32.toInt64 y_10))) + (Int32.toInt64 y_12)))) S rfl dX7_mixInto_114 ?_
      refine lv_aload_n zx zb dX7_mixInto_115 rfl (lv_at hl 3 rfl) ?_
      refine r_get (C := RX7) (T := TX7) (N := 5) (ci := 5) (v := .ref c0) S in_X7_mixInto_X7 G 0 rfl rfl 3 (by decide) lk_X7_mixInto_23 rfl dX7_mixInto_116 ?_
      refine lv_iload zx zb dX7_mixInto_119 (lv_at hl 1 rfl) ?_
      refine lv_iconst (v := 4) zx zb dX7_mixInto_121 (by decide) ?_
      refine r_iadd (v := (nI ((k5 * 5) + 4))) S (nI_add (k5 * 5) 4) dX7_mixInto_122 ?_
      refine r_iald S G 1 rfl (vp_in_nI (by omega) (by decide)) rfl dX7_mixInto_123 ?_
      refine k_itE (fun y_13 => ?_)
      refine lv_i2l (v := (Int32.toInt64 y_13)) zx zb dX7_mixInto_124 rfl ?_
      refine r_ladd (v := (((Int32.toInt64 31) * (((Int32.toInt64 31) * (((Int32.toInt64 31) * (((Int32.toInt64 31) * x5_3) + (Int32.toInt64 y_8))) + (Int32.toInt64 y_10))) + (Int32.toInt64 y_12))) + (Int32.toInt64 y_13))) S rfl dX7_mixInto_125 ?_
      refine lv_lstore_n (lv' := [(3, .long (((Int32.toInt64 31) * (((Int32.toInt64 31) * (((Int32.toInt64 31) * (((Int32.toInt64 31) * x5_3) + (Int32.toInt64 y_8))) + (Int32.toInt64 y_10))) + (Int32.toInt64 y_12))) + (Int32.toInt64 y_13))), (6, .int (nI (k5 * 5))), (5, .int (nI k5)), (0, .ref h0), (1, .long x)]) zx zb dX7_mixInto_126 rfl hl (by decide) rfl (fun ls hl => ?_)
      refine lv_iinc (v := (nI (k5 + 1))) (lv' := [(5, .int (nI (k5 + 1))), (3, .long (((Int32.toInt64 31) * (((Int32.toInt64 31) * (((Int32.toInt64 31) * (((Int32.toInt64 31) * x5_3) + (Int32.toInt64 y_8))) + (Int32.toInt64 y_10))) + (Int32.toInt64 y_12))) + (Int32.toInt64 y_13))), (6, .int (nI (k5 * 5))), (0, .ref h0), (1, .long x)]) zx zb dX7_mixInto_127 hl (k := 2) rfl (nI_add k5 1) (by decide) rfl (fun ls hl => ?_)
      refine lv_goto (tgt := 5) zx zb dX7_mixInto_130 (by decide) ?_
      have hl := lv_sub hl (l' := [(5, .int (nI (k5 + 1))), (3, .long (((Int32.toInt64 31) * (((Int32.toInt64 31) * (((Int32.toInt64 31) * (((Int32.toInt64 31) * x5_3) + (Int32.toInt64 y_8))) + (Int32.toInt64 y_10))) + (Int32.toInt64 y_12))) + (Int32.toInt64 y_13))), (0, .ref h0), (1, .long x)]) [0, 1, 3, 4] rfl
      exact ih5 (k5 + 1) (((Int32.toInt64 31) * (((Int32.toInt64 31) * (((Int32.toInt64 31) * (((Int32.toInt64 31) * x5_3) + (Int32.toInt64 y_8))) + (Int32.toInt64 y_10))) + (Int32.toInt64 y_12))) + (Int32.toInt64 y_13)) _ _ _ (by omega) (by omega) G hl
set_option maxHeartbeats 4000000 in
set_option maxRecDepth 100000 in
/-- append -/
theorem s_append1 (l : Launch) (X : EX) (h0 : Nat) (c0 : Nat) (n : Nat) (f : Nat → Int32) (x1 : Int32) (x2 : Int32) (x3 : Int32) (x4 : Int32) (x5 : Int32) (hI_n : n ≤ 6) (sz : Nat) : Met l yX7_append wsX7_append ({ frames := 0, cells := 0, slots := 0, locals := 0 } : Room) (pE X [.ref h0, .int x1, .int x2, .int x3, .int x4, .int x5] ([(h0, .inr (5, [.int 6, .int 1, .int 1, .ref c0, .int (nI n)])), (c0, .inl (X.2.1, 30, .inl f))]) sz) (qI (fun (r : Int32) (u : (Nat) × (Nat → Int32)) => u.1 ≤ 6 ∧ (r = 0 ∨ r = 1)) X (fun (u : (Nat) × (Nat → Int32)) => [(h0, .inr (5, [.int 6, .int 1, .int 1, .ref c0, .int (nI u.1)])), (c0, .inl (X.2.1, 30, .inl u.2))]) ([(h0, .inr (5, [.int 6, .int 1, .int 1, .ref c0, .int (nI n)])), (c0, .inl (X.2.1, 30, .inl f))]) sz) 0 0 (va_A ([(h0, .inr (5, [.int 6, .int 1, .int 1, .ref c0, .int (nI n)])), (c0, .inl (X.2.1, 30, .inl f))]) sz) := by
  refine mk_met (B := (va_A ([(h0, .inr (5, [.int 6, .int 1, .int 1, .ref c0, .int (nI n)])), (c0, .inl (X.2.1, 30, .inl f))]) sz)) (A := (va_A ([(h0, .inr (5, [.int 6, .int 1, .int 1, .ref c0, .int (nI n)])), (c0, .inl (X.2.1, 30, .inl f))]) sz)) (cc := cX7_append) (maxL := 7) (ret := (some .boolean)) (by decide) rfl (Nat.le_of_ble_eq_true rfl) k_w k_a (fun p e s m below meth c S zr zlk znm zsz G ls hl => ?_)
  have S : CallFix p m c cX7_append 7 s _ wsX7_append RX7 := S
  have zx := S.1
  have zb := S.2.1
  have hl : lv_has ls 7 [(0, .ref h0), (1, .int x1), (2, .int x2), (3, .int x3), (4, .int x4), (5, .int x5)] := hl
  refine lv_aload_n zx zb dX7_append_0 rfl (lv_at hl 0 rfl) ?_
  refine r_get (C := RX7) (T := TX7) (N := 5) (ci := 5) (v := .int (nI n)) S in_X7_append_X7 G 0 rfl rfl 4 (by decide) lk_X7_append_7 rfl dX7_append_1 ?_
  refine lv_aload_n zx zb dX7_append_4 rfl (lv_at hl 0 rfl) ?_
  refine r_get (C := RX7) (T := TX7) (N := 5) (ci := 5) (v := .int 6) S in_X7_append_X7 G 0 rfl rfl 0 (by decide) lk_X7_append_13 rfl dX7_append_5 ?_
  refine lv_icmp_lt (tgt := 13) zx zb dX7_append_8 (by decide) (fun c_1 => ?_) (fun c_1 => ?_)
  · have fc_1 := j_lt (a := n) (b := 6) (by omega) (by omega) c_1
    refine lv_aload_n zx zb dX7_append_13 rfl (lv_at hl 0 rfl) ?_
    refine r_get (C := RX7) (T := TX7) (N := 5) (ci := 5) (v := .int (nI n)) S in_X7_append_X7 G 0 rfl rfl 4 (by decide) lk_X7_append_7 rfl dX7_append_14 ?_
    refine lv_iconst (v := 5) zx zb dX7_append_17 (by decide) ?_
    refine r_imul (v := (nI (n * 5))) S (pk_mul n 5) dX7_append_18 ?_
    refine lv_istore (lv' := [(6, .int (nI (n * 5))), (0, .ref h0), (1, .int x1), (2, .int x2), (3, .int x3), (4, .int x4), (5, .int x5)]) zx zb dX7_append_19 hl (by decide) rfl (fun ls hl => ?_)
    refine lv_aload_n zx zb dX7_append_21 rfl (lv_at hl 1 rfl) ?_
    refine r_get (C := RX7) (T := TX7) (N := 5) (ci := 5) (v := .ref c0) S in_X7_append_X7 G 0 rfl rfl 3 (by decide) lk_X7_append_23 rfl dX7_append_22 ?_
    refine lv_iload zx zb dX7_append_25 (lv_at hl 0 rfl) ?_
    refine lv_iconst (v := 0) zx zb dX7_append_27 (by decide) ?_
    refine r_iadd (v := (nI ((n * 5) + 0))) S (nI_add (n * 5) 0) dX7_append_28 ?_
    refine lv_iload_n zx zb dX7_append_29 rfl (lv_at hl 2 rfl) ?_
    refine r_iast S G 1 rfl (vp_in_nI (by omega) (by decide)) dX7_append_30 (fun H locs G => ?_)
    obtain ⟨f_2, G⟩ : ∃ f_2 : Nat → Int32, wd X (va_A ([(h0, .inr (5, [.int 6, .int 1, .int 1, .ref c0, .int (nI n)])), (c0, .inl (X.2.1, 30, .inl f))]) sz) (va_A ([(h0, .inr (5, [.int 6, .int 1, .int 1, .ref c0, .int (nI n)])), (c0, .inl (X.2.1, 30, .inl f))]) sz) s ([(h0, .inr (5, [.int 6, .int 1, .int 1, .ref c0, .int (nI n)])), (c0, .inl (X.2.1, 30, .inl f_2))]) H locs := ⟨_, G⟩
    refine lv_aload_n zx zb dX7_append_31 rfl (lv_at hl 1 rfl) ?_
    refine r_get (C := RX7) (T := TX7) (N := 5) (ci := 5) (v := .ref c0) S in_X7_append_X7 G 0 rfl rfl 3 (by decide) lk_X7_append_23 rfl dX7_append_32 ?_
    refine lv_iload zx zb dX7_append_35 (lv_at hl 0 rfl) ?_
    refine lv_iconst (v := 1) zx zb dX7_append_37 (by decide) ?_
    refine r_iadd (v := (nI ((n * 5) + 1))) S (nI_add (n * 5) 1) dX7_append_38 ?_
    refine lv_iload_n zx zb dX7_append_39 rfl (lv_at hl 3 rfl) ?_
    refine r_iast S G 1 rfl (vp_in_nI (by omega) (by decide)) dX7_append_40 (fun H locs G => ?_)
    obtain ⟨f_3, G⟩ : ∃ f_3 : Nat → Int32, wd X (va_A ([(h0, .inr (5, [.int 6, .int 1, .int 1, .ref c0, .int (nI n)])), (c0, .inl (X.2.1, 30, .inl f))]) sz) (va_A ([(h0, .inr (5, [.int 6, .int 1, .int 1, .ref c0, .int (nI n)])), (c0, .inl (X.2.1, 30, .inl f))]) sz) s ([(h0, .inr (5, [.int 6, .int 1, .int 1, .ref c0, .int (nI n)])), (c0, .inl (X.2.1, 30, .inl f_3))]) H locs := ⟨_, G⟩
    refine lv_aload_n zx zb dX7_append_41 rfl (lv_at hl 1 rfl) ?_
    refine r_get (C := RX7) (T := TX7) (N := 5) (ci := 5) (v := .ref c0) S in_X7_append_X7 G 0 rfl rfl 3 (by decide) lk_X7_append_23 rfl dX7_append_42 ?_
    refine lv_iload zx zb dX7_append_45 (lv_at hl 0 rfl) ?_
    refine lv_iconst (v := 2) zx zb dX7_append_47 (by decide) ?_
    refine r_iadd (v := (nI ((n * 5) + 2))) S (nI_add (n * 5) 2) dX7_append_48 ?_
    refine lv_iload_n zx zb dX7_append_49 rfl (lv_at hl 4 rfl) ?_
    refine r_iast S G 1 rfl (vp_in_nI (by omega) (by decide)) dX7_append_50 (fun H locs G => ?_)
    obtain ⟨f_4, G⟩ : ∃ f_4 : Nat → Int32, wd X (va_A ([(h0, .inr (5, [.int 6, .int 1, .int 1, .ref c0, .int (nI n)])), (c0, .inl (X.2.1, 30, .inl f))]) sz) (va_A ([(h0, .inr (5, [.int 6, .int 1, .int 1, .ref c0, .int (nI n)])), (c0, .inl (X.2.1, 30, .inl f))]) sz) s ([(h0, .inr (5, [.int 6, .int 1, .int 1, .ref c0, .int (nI n)])), (c0, .inl (X.2.1, 30, .inl f_4))]) H locs := ⟨_, G⟩
    refine lv_aload_n zx zb dX7_append_51 rfl (lv_at hl 1 rfl) ?_
    refine r_get (C := RX7) (T := TX7) (N := 5) (ci := 5) (v := .ref c0) S in_X7_append_X7 G 0 rfl rfl 3 (by decide) lk_X7_append_23 rfl dX7_append_52 ?_
    refine lv_iload zx zb dX7_append_55 (lv_at hl 0 rfl) ?_
    refine lv_iconst (v := 3) zx zb dX7_append_57 (by decide) ?_
    refine r_iadd (v := (nI ((n * 5) + 3))) S (nI_add (n * 5) 3) dX7_append_58 ?_
    refine lv_iload zx zb dX7_append_59 (lv_at hl 5 rfl) ?_
    refine r_iast S G 1 rfl (vp_in_nI (by omega) (by decide)) dX7_append_61 (fun H locs G => ?_)
    obtain ⟨f_5, G⟩ : ∃ f_5 : Nat → Int32, wd X (va_A ([(h0, .inr (5, [.int 6, .int 1, .int 1, .ref c0, .int (nI n)])), (c0, .inl (X.2.1, 30, .inl f))]) sz) (va_A ([(h0, .inr (5, [.int 6, .int 1, .int 1, .ref c0, .int (nI n)])), (c0, .inl (X.2.1, 30, .inl f))]) sz) s ([(h0, .inr (5, [.int 6, .int 1, .int 1, .ref c0, .int (nI n)])), (c0, .inl (X.2.1, 30, .inl f_5))]) H locs := ⟨_, G⟩
    refine lv_aload_n zx zb dX7_append_62 rfl (lv_at hl 1 rfl) ?_
    refine r_get (C := RX7) (T := TX7) (N := 5) (ci := 5) (v := .ref c0) S in_X7_append_X7 G 0 rfl rfl 3 (by decide) lk_X7_append_23 rfl dX7_append_63 ?_
    refine lv_iload zx zb dX7_append_66 (lv_at hl 0 rfl) ?_
    refine lv_iconst (v := 4) zx zb dX7_append_68 (by decide) ?_
    refine r_iadd (v := (nI ((n * 5) + 4))) S (nI_add (n * 5) 4) dX7_append_69 ?_
    refine lv_iload zx zb dX7_append_70 (lv_at hl 6 rfl) ?_
    refine r_iast S G 1 rfl (vp_in_nI (by omega) (by decide)) dX7_append_72 (fun H locs G => ?_)
    obtain ⟨f_6, G⟩ : ∃ f_6 : Nat → Int32, wd X (va_A ([(h0, .inr (5, [.int 6, .int 1, .int 1, .ref c0, .int (nI n)])), (c0, .inl (X.2.1, 30, .inl f))]) sz) (va_A ([(h0, .inr (5, [.int 6, .int 1, .int 1, .ref c0, .int (nI n)])), (c0, .inl (X.2.1, 30, .inl f))]) sz) s ([(h0, .inr (5, [.int 6, .int 1, .int 1, .ref c0, .int (nI n)])), (c0, .inl (X.2.1, 30, .inl f_6))]) H locs := ⟨_, G⟩
    refine lv_aload_n zx zb dX7_append_73 rfl (lv_at hl 1 rfl) ?_
    refine lv_dup zx zb dX7_append_74 rfl ?_
    refine r_get (C := RX7) (T := TX7) (N := 5) (ci := 5) (v := .int (nI n)) S in_X7_append_X7 G 0 rfl rfl 4 (by decide) lk_X7_append_7 rfl dX7_append_75 ?_
    refine lv_iconst (v := 1) zx zb dX7_append_78 (by decide) ?_
    refine r_iadd (v := (nI (n + 1))) S (nI_add n 1) dX7_append_79 ?_
    refine r_put (C := RX7) (T := TX7) (N := 5) (ci := 5) (v := .int (nI (n + 1))) S in_X7_append_X7 tyX7_ok nmX7 G 0 rfl rfl 4 (by decide) lk_X7_append_7 rfl (vp_nar_int _) rfl (Nat.le_of_ble_eq_true rfl) dX7_append_80 (fun H locs G => ?_)
    obtain ⟨n_7, hI_n_7, hE_n_7, G⟩ : ∃ n_7 : Nat, n_7 ≤ 6 ∧ n_7 = (n + 1) ∧ wd X (va_A ([(h0, .inr (5, [.int 6, .int 1, .int 1, .ref c0, .int (nI n)])), (c0, .inl (X.2.1, 30, .inl f))]) sz) (va_A ([(h0, .inr (5, [.int 6, .int 1, .int 1, .ref c0, .int (nI n)])), (c0, .inl (X.2.1, 30, .inl f))]) sz) s ([(h0, .inr (5, [.int 6, .int 1, .int 1, .ref c0, .int (nI n_7)])), (c0, .inl (X.2.1, 30, .inl f_6))]) H locs := ⟨(n + 1), by omega, rfl, G⟩
    refine lv_iconst (v := 1) zx zb dX7_append_83 (by decide) ?_
    exact e_int S zr zlk (by decide) G (n_7, f_6) [0, 1] rfl rfl (Or.inr rfl) (⟨hI_n_7, by first | exact Or.inl rfl | exact Or.inr rfl⟩) dX7_append_84
  · have fc_1 := j_nlt (a := n) (b := 6) (by omega) (by omega) c_1
    refine lv_iconst (v := 0) zx zb dX7_append_11 (by decide) ?_
    exact e_int S zr zlk (by decide) G (n, f) [0, 1] rfl rfl (Or.inr rfl) (⟨hI_n, by first | exact Or.inl rfl | exact Or.inr rfl⟩) dX7_append_12
set_option maxHeartbeats 4000000 in
set_option maxRecDepth 100000 in
/-- fitRunner -/
theorem s_fitRunner1 (l : Launch) (X : EX) (h0 : Nat) (c0 : Nat) (n : Nat) (f : Nat → Int32) (x1 : Int32) (x2 : Int32) (x3 : Int32) (hI_n : n ≤ 6) (sz : Nat) : Met l yX7_fitRunner wsX7_fitRunner ({ frames := 1, cells := 0, slots := 0, locals := 26 } : Room) (pE X [.ref h0, .int x1, .int x2, .int x3] ([(h0, .inr (5, [.int 6, .int 1, .int 1, .ref c0, .int (nI n)])), (c0, .inl (X.2.1, 30, .inl f))]) sz) (qI (fun (r : Int32) (u : Unit) => r = 0 ∨ r = 1) X (fun (u : Unit) => []) [] sz) 0 0 (va_A [] sz) := by
  refine mk_met (B := (fun _ => True)) (A := (va_A [] sz)) (cc := cX7_fitRunner) (maxL := 7) (ret := (some .boolean)) (by decide) rfl (Nat.le_of_ble_eq_true rfl) k_ro k_a (fun p e s m below meth c S zr zlk znm zsz G ls hl => ?_)
  have S : CallFix p m c cX7_fitRunner 7 s _ wsX7_fitRunner RX7 := S
  have zx := S.1
  have zb := S.2.1
  have hl : lv_has ls 7 [(0, .ref h0), (1, .int x1), (2, .int x2), (3, .int x3)] := hl
  refine lv_iconst (v := 0) zx zb dX7_fitRunner_0 (by decide) ?_
  refine lv_istore (lv' := [(4, .int 0), (0, .ref h0), (1, .int x1), (2, .int x2), (3, .int x3)]) zx zb dX7_fitRunner_1 hl (by decide) rfl (fun ls hl => ?_)
  refine k_loop (P := ∀ (zm : Nat) (k3 : Nat) (H : Heap) (locs : List Loc) (ls : Array Slot), n + 1 ≤ k3 + zm → (k3 ≤ n) → wd X (fun _ => True) (va_A [] sz) s ([(h0, .inr (5, [.int 6, .int 1, .int 1, .ref c0, .int (nI n)])), (c0, .inl (X.2.1, 30, .inl f))]) H locs → lv_has ls 7 [(4, .int (nI k3)), (0, .ref h0), (1, .int x1), (2, .int x2), (3, .int x3)] → W p l e _ s m _ below meth c H locs _ _ _ (F0 m 3 ls [])) (fun loop => loop (n + 1) 0 _ _ _ (by omega) (by omega) G hl) ?_
  intro zm
  induction zm with
  | zero => intro k3 H locs ls zz q_hk_k3 _ _; exact absurd zz (by omega)
  | succ zm ih3 =>
    intro k3 H locs ls zm_3 hk_k3 G hl
    refine lv_iload zx zb dX7_fitRunner_3 (lv_at hl 0 rfl) ?_
    refine lv_aload_n zx zb dX7_fitRunner_5 rfl (lv_at hl 1 rfl) ?_
    refine r_get (C := RX7) (T := TX7) (N := 5) (ci := 5) (v := .int (nI n)) S in_X7_fitRunner_X7 G 0 rfl rfl 4 (by decide) lk_X7_fitRunner_7 rfl dX7_fitRunner_6 ?_
    refine lv_icmp_ge (tgt := 97) zx zb dX7_fitRunner_9 (by decide) (fun c_1 => ?_) (fun c_1 => ?_)
    · have fc_1 := j_le (a := n) (b := k3) (by omega) (by omega) c_1
      refine lv_iconst (v := 1) zx zb dX7_fitRunner_97 (by decide) ?_
      exact e_int S zr zlk (by decide) G () [] rfl rfl (Or.inl rfl) (by first | exact Or.inl rfl | exact Or.inr rfl) dX7_fitRunner_98
    · have fc_1 := j_nle (a := n) (b := k3) (by omega) (by omega) c_1
      refine lv_iload zx zb dX7_fitRunner_12 (lv_at hl 0 rfl) ?_
      refine lv_iconst (v := 5) zx zb dX7_fitRunner_14 (by decide) ?_
      refine r_imul (v := (nI (k3 * 5))) S (pk_mul k3 5) dX7_fitRunner_15 ?_
      refine lv_istore (lv' := [(5, .int (nI (k3 * 5))), (4, .int (nI k3)), (0, .ref h0), (1, .int x1), (2, .int x2), (3, .int x3)]) zx zb dX7_fitRunner_16 hl (by decide) rfl (fun ls hl => ?_)
      refine lv_aload_n zx zb dX7_fitRunner_18 rfl (lv_at hl 2 rfl) ?_
      refine r_get (C := RX7) (T := TX7) (N := 5) (ci := 5) (v := .int 1) S in_X7_fitRunner_X7 G 0 rfl rfl 1 (by decide) lk_X7_fitRunner_16 rfl dX7_fitRunner_19 ?_
      refine lv_if_eq (tgt := 37) zx zb dX7_fitRunner_22 (by decide) (fun c_2 => absurd c_2 (by decide)) (fun c_2 => ?_)
      refine lv_aload_n zx zb dX7_fitRunner_25 rfl (lv_at hl 2 rfl) ?_
      refine r_get (C := RX7) (T := TX7) (N := 5) (ci := 5) (v := .ref c0) S in_X7_fitRunner_X7 G 0 rfl rfl 3 (by decide) lk_X7_fitRunner_23 rfl dX7_fitRunner_26 ?_
      refine lv_iload zx zb dX7_fitRunner_29 (lv_at hl 0 rfl) ?_
      refine lv_iconst (v := 1) zx zb dX7_fitRunner_31 (by decide) ?_
      refine r_iadd (v := (nI ((k3 * 5) + 1))) S (nI_add (k3 * 5) 1) dX7_fitRunner_32 ?_
      refine r_iald S G 1 rfl (vp_in_nI (by omega) (by decide)) rfl dX7_fitRunner_33 ?_
      refine k_itE (fun y_3 => ?_)
      refine lv_goto (tgt := 38) zx zb dX7_fitRunner_34 (by decide) ?_
      refine lv_istore (lv' := [(6, .int y_3), (5, .int (nI (k3 * 5))), (4, .int (nI k3)), (0, .ref h0), (1, .int x1), (2, .int x2), (3, .int x3)]) zx zb dX7_fitRunner_38 hl (by decide) rfl (fun ls hl => ?_)
      refine lv_aload_n zx zb dX7_fitRunner_40 rfl (lv_at hl 3 rfl) ?_
      refine r_get (C := RX7) (T := TX7) (N := 5) (ci := 5) (v := .ref c0) S in_X7_fitRunner_X7 G 0 rfl rfl 3 (by decide) lk_X7_fitRunner_23 rfl dX7_fitRunner_41 ?_
      refine lv_iload zx zb dX7_fitRunner_44 (lv_at hl 1 rfl) ?_
      refine lv_iconst (v := 0) zx zb dX7_fitRunner_46 (by decide) ?_
      refine r_iadd (v := (nI ((k3 * 5) + 0))) S (nI_add (k3 * 5) 0) dX7_fitRunner_47 ?_
      refine r_iald S G 1 rfl (vp_in_nI (by omega) (by decide)) rfl dX7_fitRunner_48 ?_
      refine k_itE (fun y_4 => ?_)
      refine lv_iload_n zx zb dX7_fitRunner_49 rfl (lv_at hl 4 rfl) ?_
      refine lv_icmp_ne (tgt := 91) zx zb dX7_fitRunner_50 (by decide) (fun c_5 => ?_) (fun c_5 => ?_)
      · refine lv_iinc (v := (nI (k3 + 1))) (lv' := [(4, .int (nI (k3 + 1))), (6, .int y_3), (5, .int (nI (k3 * 5))), (0, .ref h0), (1, .int x1), (2, .int x2), (3, .int x3)]) zx zb dX7_fitRunner_91 hl (k := 2) rfl (nI_add k3 1) (by decide) rfl (fun ls hl => ?_)
        refine lv_goto (tgt := 3) zx zb dX7_fitRunner_94 (by decide) ?_
        have hl := lv_sub hl (l' := [(4, .int (nI (k3 + 1))), (0, .ref h0), (1, .int x1), (2, .int x2), (3, .int x3)]) [0, 3, 4, 5, 6] rfl
        exact ih3 (k3 + 1) _ _ _ (by omega) (by omega) G hl
      · refine lv_iload_n zx zb dX7_fitRunner_53 rfl (lv_at hl 5 rfl) ?_
        refine lv_iload zx zb dX7_fitRunner_54 (lv_at hl 0 rfl) ?_
        refine lv_aload_n zx zb dX7_fitRunner_56 rfl (lv_at hl 3 rfl) ?_
        refine r_get (C := RX7) (T := TX7) (N := 5) (ci := 5) (v := .ref c0) S in_X7_fitRunner_X7 G 0 rfl rfl 3 (by decide) lk_X7_fitRunner_23 rfl dX7_fitRunner_57 ?_
        refine lv_iload zx zb dX7_fitRunner_60 (lv_at hl 1 rfl) ?_
        refine lv_iconst (v := 2) zx zb dX7_fitRunner_62 (by decide) ?_
        refine r_iadd (v := (nI ((k3 * 5) + 2))) S (nI_add (k3 * 5) 2) dX7_fitRunner_63 ?_
        refine r_iald S G 1 rfl (vp_in_nI (by omega) (by decide)) rfl dX7_fitRunner_64 ?_
        refine k_itE (fun y_6 => ?_)
        refine lv_aload_n zx zb dX7_fitRunner_65 rfl (lv_at hl 3 rfl) ?_
        refine r_get (C := RX7) (T := TX7) (N := 5) (ci := 5) (v := .ref c0) S in_X7_fitRunner_X7 G 0 rfl rfl 3 (by decide) lk_X7_fitRunner_23 rfl dX7_fitRunner_66 ?_
        refine lv_iload zx zb dX7_fitRunner_69 (lv_at hl 1 rfl) ?_
        refine lv_iconst (v := 3) zx zb dX7_fitRunner_71 (by decide) ?_
        refine r_iadd (v := (nI ((k3 * 5) + 3))) S (nI_add (k3 * 5) 3) dX7_fitRunner_72 ?_
        refine r_iald S G 1 rfl (vp_in_nI (by omega) (by decide)) rfl dX7_fitRunner_73 ?_
        refine k_itE (fun y_7 => ?_)
        refine o_ri (cells' := 0) (slots' := 0) G rfl rfl (n_S (As := [.int x2, .int y_3, .int y_6, .int y_7]) (rest := []) S G (s_reach l X x2 y_3 y_6 y_7 H.size) gX7_fitRunner_X2_reach rfl rfl rfl hdS_X2_reach ⟨Nat.le_of_ble_eq_true rfl, Nat.le_of_ble_eq_true rfl⟩ [] rfl rfl rfl hl.1 (Nat.le_of_ble_eq_true rfl) dX7_fitRunner_74 ⟨Nat.le_of_ble_eq_true rfl, Nat.le_of_ble_eq_true rfl⟩) (fun r_8 u_8 H locs hp_8 G => ?_)
        have G : wd X (fun _ => True) (va_A [] sz) s ([(h0, .inr (5, [.int 6, .int 1, .int 1, .ref c0, .int (nI n)])), (c0, .inl (X.2.1, 30, .inl f))]) H locs := G
        refine lv_aload_n zx zb dX7_fitRunner_77 rfl (lv_at hl 3 rfl) ?_
        refine r_get (C := RX7) (T := TX7) (N := 5) (ci := 5) (v := .ref c0) S in_X7_fitRunner_X7 G 0 rfl rfl 3 (by decide) lk_X7_fitRunner_23 rfl dX7_fitRunner_78 ?_
        refine lv_iload zx zb dX7_fitRunner_81 (lv_at hl 1 rfl) ?_
        refine lv_iconst (v := 4) zx zb dX7_fitRunner_83 (by decide) ?_
        refine r_iadd (v := (nI ((k3 * 5) + 4))) S (nI_add (k3 * 5) 4) dX7_fitRunner_84 ?_
        refine r_iald S G 1 rfl (vp_in_nI (by omega) (by decide)) rfl dX7_fitRunner_85 ?_
        refine k_itE (fun y_9 => ?_)
        refine lv_icmp_eq (tgt := 91) zx zb dX7_fitRunner_86 (by decide) (fun c_10 => ?_) (fun c_10 => ?_)
        · refine lv_iinc (v := (nI (k3 + 1))) (lv' := [(4, .int (nI (k3 + 1))), (6, .int y_3), (5, .int (nI (k3 * 5))), (0, .ref h0), (1, .int x1), (2, .int x2), (3, .int x3)]) zx zb dX7_fitRunner_91 hl (k := 2) rfl (nI_add k3 1) (by decide) rfl (fun ls hl => ?_)
          refine lv_goto (tgt := 3) zx zb dX7_fitRunner_94 (by decide) ?_
          have hl := lv_sub hl (l' := [(4, .int (nI (k3 + 1))), (0, .ref h0), (1, .int x1), (2, .int x2), (3, .int x3)]) [0, 3, 4, 5, 6] rfl
          exact ih3 (k3 + 1) _ _ _ (by omega) (by omega) G hl
        · refine lv_iconst (v := 0) zx zb dX7_fitRunner_89 (by decide) ?_
          exact e_int S zr zlk (by decide) G () [] rfl rfl (Or.inl rfl) (by first | exact Or.inl rfl | exact Or.inr rfl) dX7_fitRunner_90
set_option maxHeartbeats 4000000 in
set_option maxRecDepth 100000 in
/-- fitEgg -/
theorem s_fitEgg1 (l : Launch) (X : EX) (h0 : Nat) (c0 : Nat) (n : Nat) (f : Nat → Int32) (x1 : Int32) (x2 : Int32) (hI_n : n ≤ 6) (sz : Nat) : Met l yX7_fitEgg wsX7_fitEgg ({ frames := 1, cells := 0, slots := 0, locals := 24 } : Room) (pE X [.ref h0, .int x1, .int x2] ([(h0, .inr (5, [.int 6, .int 1, .int 1, .ref c0, .int (nI n)])), (c0, .inl (X.2.1, 30, .inl f))]) sz) (qI (fun (r : Int32) (u : Unit) => r = 0 ∨ r = 1) X (fun (u : Unit) => []) [] sz) 0 0 (va_A [] sz) := by
  refine mk_met (B := (fun _ => True)) (A := (va_A [] sz)) (cc := cX7_fitEgg) (maxL := 5) (ret := (some .boolean)) (by decide) rfl (Nat.le_of_ble_eq_true rfl) k_ro k_a (fun p e s m below meth c S zr zlk znm zsz G ls hl => ?_)
  have S : CallFix p m c cX7_fitEgg 5 s _ wsX7_fitEgg RX7 := S
  have zx := S.1
  have zb := S.2.1
  have hl : lv_has ls 5 [(0, .ref h0), (1, .int x1), (2, .int x2)] := hl
  refine lv_iconst (v := 0) zx zb dX7_fitEgg_0 (by decide) ?_
  refine lv_istore_n (lv' := [(3, .int 0), (0, .ref h0), (1, .int x1), (2, .int x2)]) zx zb dX7_fitEgg_1 rfl hl (by decide) rfl (fun ls hl => ?_)
  refine k_loop (P := ∀ (zm : Nat) (k2 : Nat) (H : Heap) (locs : List Loc) (ls : Array Slot), n + 1 ≤ k2 + zm → (k2 ≤ n) → wd X (fun _ => True) (va_A [] sz) s ([(h0, .inr (5, [.int 6, .int 1, .int 1, .ref c0, .int (nI n)])), (c0, .inl (X.2.1, 30, .inl f))]) H locs → lv_has ls 5 [(3, .int (nI k2)), (0, .ref h0), (1, .int x1), (2, .int x2)] → W p l e _ s m _ below meth c H locs _ _ _ (F0 m 2 ls [])) (fun loop => loop (n + 1) 0 _ _ _ (by omega) (by omega) G hl) ?_
  intro zm
  induction zm with
  | zero => intro k2 H locs ls zz q_hk_k2 _ _; exact absurd zz (by omega)
  | succ zm ih2 =>
    intro k2 H locs ls zm_2 hk_k2 G hl
    refine lv_iload_n zx zb dX7_fitEgg_2 rfl (lv_at hl 0 rfl) ?_
    refine lv_aload_n zx zb dX7_fitEgg_3 rfl (lv_at hl 1 rfl) ?_
    refine r_get (C := RX7) (T := TX7) (N := 5) (ci := 5) (v := .int (nI n)) S in_X7_fitEgg_X7 G 0 rfl rfl 4 (by decide) lk_X7_fitEgg_7 rfl dX7_fitEgg_4 ?_
    refine lv_icmp_ge (tgt := 61) zx zb dX7_fitEgg_7 (by decide) (fun c_1 => ?_) (fun c_1 => ?_)
    · have fc_1 := j_le (a := n) (b := k2) (by omega) (by omega) c_1
      refine lv_iconst (v := 1) zx zb dX7_fitEgg_61 (by decide) ?_
      exact e_int S zr zlk (by decide) G () [] rfl rfl (Or.inl rfl) (by first | exact Or.inl rfl | exact Or.inr rfl) dX7_fitEgg_62
    · have fc_1 := j_nle (a := n) (b := k2) (by omega) (by omega) c_1
      refine lv_iload_n zx zb dX7_fitEgg_10 rfl (lv_at hl 0 rfl) ?_
      refine lv_iconst (v := 5) zx zb dX7_fitEgg_11 (by decide) ?_
      refine r_imul (v := (nI (k2 * 5))) S (pk_mul k2 5) dX7_fitEgg_12 ?_
      refine lv_istore (lv' := [(4, .int (nI (k2 * 5))), (3, .int (nI k2)), (0, .ref h0), (1, .int x1), (2, .int x2)]) zx zb dX7_fitEgg_13 hl (by decide) rfl (fun ls hl => ?_)
      refine lv_aload_n zx zb dX7_fitEgg_15 rfl (lv_at hl 2 rfl) ?_
      refine r_get (C := RX7) (T := TX7) (N := 5) (ci := 5) (v := .ref c0) S in_X7_fitEgg_X7 G 0 rfl rfl 3 (by decide) lk_X7_fitEgg_23 rfl dX7_fitEgg_16 ?_
      refine lv_iload zx zb dX7_fitEgg_19 (lv_at hl 0 rfl) ?_
      refine lv_iconst (v := 0) zx zb dX7_fitEgg_21 (by decide) ?_
      refine r_iadd (v := (nI ((k2 * 5) + 0))) S (nI_add (k2 * 5) 0) dX7_fitEgg_22 ?_
      refine r_iald S G 1 rfl (vp_in_nI (by omega) (by decide)) rfl dX7_fitEgg_23 ?_
      refine k_itE (fun y_2 => ?_)
      refine lv_iload_n zx zb dX7_fitEgg_24 rfl (lv_at hl 3 rfl) ?_
      refine lv_icmp_ne (tgt := 55) zx zb dX7_fitEgg_25 (by decide) (fun c_3 => ?_) (fun c_3 => ?_)
      · refine lv_iinc (v := (nI (k2 + 1))) (lv' := [(3, .int (nI (k2 + 1))), (4, .int (nI (k2 * 5))), (0, .ref h0), (1, .int x1), (2, .int x2)]) zx zb dX7_fitEgg_55 hl (k := 1) rfl (nI_add k2 1) (by decide) rfl (fun ls hl => ?_)
        refine lv_goto (tgt := 2) zx zb dX7_fitEgg_58 (by decide) ?_
        have hl := lv_sub hl (l' := [(3, .int (nI (k2 + 1))), (0, .ref h0), (1, .int x1), (2, .int x2)]) [0, 2, 3, 4] rfl
        exact ih2 (k2 + 1) _ _ _ (by omega) (by omega) G hl
      · refine lv_iload_n zx zb dX7_fitEgg_28 rfl (lv_at hl 4 rfl) ?_
        refine lv_aload_n zx zb dX7_fitEgg_29 rfl (lv_at hl 2 rfl) ?_
        refine r_get (C := RX7) (T := TX7) (N := 5) (ci := 5) (v := .ref c0) S in_X7_fitEgg_X7 G 0 rfl rfl 3 (by decide) lk_X7_fitEgg_23 rfl dX7_fitEgg_30 ?_
        refine lv_iload zx zb dX7_fitEgg_33 (lv_at hl 0 rfl) ?_
        refine lv_iconst (v := 2) zx zb dX7_fitEgg_35 (by decide) ?_
        refine r_iadd (v := (nI ((k2 * 5) + 2))) S (nI_add (k2 * 5) 2) dX7_fitEgg_36 ?_
        refine r_iald S G 1 rfl (vp_in_nI (by omega) (by decide)) rfl dX7_fitEgg_37 ?_
        refine k_itE (fun y_4 => ?_)
        refine o_ri (cells' := 0) (slots' := 0) G rfl rfl (n_S (As := [.int x2, .int y_4]) (rest := []) S G (s_limit l X x2 y_4 H.size) gX7_fitEgg_X1_limit rfl rfl rfl hdS_X1_limit ⟨Nat.le_of_ble_eq_true rfl, Nat.le_of_ble_eq_true rfl⟩ [] rfl rfl rfl hl.1 (Nat.le_of_ble_eq_true rfl) dX7_fitEgg_38 ⟨Nat.le_of_ble_eq_true rfl, Nat.le_of_ble_eq_true rfl⟩) (fun r_5 u_5 H locs hp_5 G => ?_)
        have G : wd X (fun _ => True) (va_A [] sz) s ([(h0, .inr (5, [.int 6, .int 1, .int 1, .ref c0, .int (nI n)])), (c0, .inl (X.2.1, 30, .inl f))]) H locs := G
        refine lv_aload_n zx zb dX7_fitEgg_41 rfl (lv_at hl 2 rfl) ?_
        refine r_get (C := RX7) (T := TX7) (N := 5) (ci := 5) (v := .ref c0) S in_X7_fitEgg_X7 G 0 rfl rfl 3 (by decide) lk_X7_fitEgg_23 rfl dX7_fitEgg_42 ?_
        refine lv_iload zx zb dX7_fitEgg_45 (lv_at hl 0 rfl) ?_
        refine lv_iconst (v := 4) zx zb dX7_fitEgg_47 (by decide) ?_
        refine r_iadd (v := (nI ((k2 * 5) + 4))) S (nI_add (k2 * 5) 4) dX7_fitEgg_48 ?_
        refine r_iald S G 1 rfl (vp_in_nI (by omega) (by decide)) rfl dX7_fitEgg_49 ?_
        refine k_itE (fun y_6 => ?_)
        refine lv_icmp_eq (tgt := 55) zx zb dX7_fitEgg_50 (by decide) (fun c_7 => ?_) (fun c_7 => ?_)
        · refine lv_iinc (v := (nI (k2 + 1))) (lv' := [(3, .int (nI (k2 + 1))), (4, .int (nI (k2 * 5))), (0, .ref h0), (1, .int x1), (2, .int x2)]) zx zb dX7_fitEgg_55 hl (k := 1) rfl (nI_add k2 1) (by decide) rfl (fun ls hl => ?_)
          refine lv_goto (tgt := 2) zx zb dX7_fitEgg_58 (by decide) ?_
          have hl := lv_sub hl (l' := [(3, .int (nI (k2 + 1))), (0, .ref h0), (1, .int x1), (2, .int x2)]) [0, 2, 3, 4] rfl
          exact ih2 (k2 + 1) _ _ _ (by omega) (by omega) G hl
        · refine lv_iconst (v := 0) zx zb dX7_fitEgg_53 (by decide) ?_
          exact e_int S zr zlk (by decide) G () [] rfl rfl (Or.inl rfl) (by first | exact Or.inl rfl | exact Or.inr rfl) dX7_fitEgg_54
set_option maxHeartbeats 4000000 in
set_option maxRecDepth 100000 in
/-- mixInto -/
theorem s_mixInto1 (l : Launch) (X : EX) (h0 : Nat) (c0 : Nat) (n : Nat) (f : Nat → Int32) (x : Int64) (hI_n : n ≤ 6) (sz : Nat) : Met l yX7_mixInto wsX7_mixInto ({ frames := 0, cells := 0, slots := 0, locals := 0 } : Room) (pE X [.ref h0, .long x] ([(h0, .inr (5, [.int 6, .int 1, .int 1, .ref c0, .int (nI n)])), (c0, .inl (X.2.1, 30, .inl f))]) sz) (qL (fun (r : Int64) (u : Unit) => True) X (fun (u : Unit) => []) [] sz) 0 0 (va_A [] sz) := by
  refine mk_met (B := (fun _ => True)) (A := (va_A [] sz)) (cc := cX7_mixInto) (maxL := 7) (ret := (some .long)) (by decide) rfl (Nat.le_of_ble_eq_true rfl) k_ro k_a (fun p e s m below meth c S zr zlk znm zsz G ls hl => ?_)
  have S : CallFix p m c cX7_mixInto 7 s _ wsX7_mixInto RX7 := S
  have zx := S.1
  have zb := S.2.1
  have hl : lv_has ls 7 [(0, .ref h0), (1, .long x)] := hl
  refine lv_lload_n zx zb dX7_mixInto_0 rfl (lv_at hl 1 rfl) ?_
  refine lv_lstore_n (lv' := [(3, .long x), (0, .ref h0), (1, .long x)]) zx zb dX7_mixInto_1 rfl hl (by decide) rfl (fun ls hl => ?_)
  refine lv_iconst (v := 0) zx zb dX7_mixInto_2 (by decide) ?_
  refine lv_istore (lv' := [(5, .int 0), (3, .long x), (0, .ref h0), (1, .long x)]) zx zb dX7_mixInto_3 hl (by decide) rfl (fun ls hl => ?_)
  refine k_loop (P := ∀ (zm : Nat) (k5 : Nat) (x5_3 : Int64) (H : Heap) (locs : List Loc) (ls : Array Slot), n + 1 ≤ k5 + zm → (k5 ≤ n) → wd X (fun _ => True) (va_A [] sz) s ([(h0, .inr (5, [.int 6, .int 1, .int 1, .ref c0, .int (nI n)])), (c0, .inl (X.2.1, 30, .inl f))]) H locs → lv_has ls 7 [(5, .int (nI k5)), (3, .long x5_3), (0, .ref h0), (1, .long x)] → W p l e _ s m _ below meth c H locs _ _ _ (F0 m 5 ls [])) (fun loop => loop (n + 1) 0 x _ _ _ (by omega) (by omega) G hl) ?_
  intro zm
  induction zm with
  | zero => intro k5 x5_3 H locs ls zz q_hk_k5 _ _; exact absurd zz (by omega)
  | succ zm ih5 =>
    intro k5 x5_3 H locs ls zm_5 hk_k5 G hl
    refine lv_iload zx zb dX7_mixInto_5 (lv_at hl 0 rfl) ?_
    refine lv_aload_n zx zb dX7_mixInto_7 rfl (lv_at hl 2 rfl) ?_
    refine r_get (C := RX7) (T := TX7) (N := 5) (ci := 5) (v := .int (nI n)) S in_X7_mixInto_X7 G 0 rfl rfl 4 (by decide) lk_X7_mixInto_7 rfl dX7_mixInto_8 ?_
    refine lv_icmp_ge (tgt := 133) zx zb dX7_mixInto_11 (by decide) (fun c_1 => ?_) (fun c_1 => ?_)
    · have fc_1 := j_le (a := n) (b := k5) (by omega) (by omega) c_1
      refine lv_lload_n zx zb dX7_mixInto_133 rfl (lv_at hl 1 rfl) ?_
      exact e_long S zr zlk G () [] rfl rfl (Or.inl rfl) (trivial) dX7_mixInto_134
    · have fc_1 := j_nle (a := n) (b := k5) (by omega) (by omega) c_1
      refine lv_iload zx zb dX7_mixInto_14 (lv_at hl 0 rfl) ?_
      refine lv_iconst (v := 5) zx zb dX7_mixInto_16 (by decide) ?_
      refine r_imul (v := (nI (k5 * 5))) S (pk_mul k5 5) dX7_mixInto_17 ?_
      refine lv_istore (lv' := [(6, .int (nI (k5 * 5))), (5, .int (nI k5)), (3, .long x5_3), (0, .ref h0), (1, .long x)]) zx zb dX7_mixInto_18 hl (by decide) rfl (fun ls hl => ?_)
      refine lv_ldc2 zx zb S.2.2.2.1 (S.2.2.2.2 _ mm_X7_mixInto_c50) dX7_mixInto_20 ?_
      refine k_ld (v := (Int32.toInt64 31)) (by decide) ?_
      refine lv_lload_n zx zb dX7_mixInto_23 rfl (lv_at hl 2 rfl) ?_
      refine r_lmul (v := ((Int32.toInt64 31) * x5_3)) S rfl dX7_mixInto_24 ?_
      refine lv_aload_n zx zb dX7_mixInto_25 rfl (lv_at hl 3 rfl) ?_
      refine r_get (C := RX7) (T := TX7) (N := 5) (ci := 5) (v := .ref c0) S in_X7_mixInto_X7 G 0 rfl rfl 3 (by decide) lk_X7_mixInto_23 rfl dX7_mixInto_26 ?_
      refine lv_iload zx zb dX7_mixInto_29 (lv_at hl 0 rfl) ?_
      refine lv_iconst (v := 0) zx zb dX7_mixInto_31 (by decide) ?_
      refine r_iadd (v := (nI ((k5 * 5) + 0))) S (nI_add (k5 * 5) 0) dX7_mixInto_32 ?_
      refine r_iald S G 1 rfl (vp_in_nI (by omega) (by decide)) rfl dX7_mixInto_33 ?_
      refine k_itE (fun y_9 => ?_)
      refine lv_i2l (v := (Int32.toInt64 y_9)) zx zb dX7_mixInto_34 rfl ?_
      refine r_ladd (v := (((Int32.toInt64 31) * x5_3) + (Int32.toInt64 y_9))) S rfl dX7_mixInto_35 ?_
      refine lv_lstore_n (lv' := [(3, .long (((Int32.toInt64 31) * x5_3) + (Int32.toInt64 y_9))), (6, .int (nI (k5 * 5))), (5, .int (nI k5)), (0, .ref h0), (1, .long x)]) zx zb dX7_mixInto_36 rfl hl (by decide) rfl (fun ls hl => ?_)
      refine lv_aload_n zx zb dX7_mixInto_37 rfl (lv_at hl 3 rfl) ?_
      refine r_get (C := RX7) (T := TX7) (N := 5) (ci := 5) (v := .int 1) S in_X7_mixInto_X7 G 0 rfl rfl 1 (by decide) lk_X7_mixInto_16 rfl dX7_mixInto_38 ?_
      refine lv_if_eq (tgt := 63) zx zb dX7_mixInto_41 (by decide) (fun c_10 => absurd c_10 (by decide)) (fun c_10 => ?_)
      refine lv_ldc2 zx zb S.2.2.2.1 (S.2.2.2.2 _ mm_X7_mixInto_c50) dX7_mixInto_44 ?_
      refine k_ld (v := (Int32.toInt64 31)) (by decide) ?_
      refine lv_lload_n zx zb dX7_mixInto_47 rfl (lv_at hl 0 rfl) ?_
      refine r_lmul (v := ((Int32.toInt64 31) * (((Int32.toInt64 31) * x5_3) + (Int32.toInt64 y_9)))) S rfl dX7_mixInto_48 ?_
      refine lv_aload_n zx zb dX7_mixInto_49 rfl (lv_at hl 3 rfl) ?_
      refine r_get (C := RX7) (T := TX7) (N := 5) (ci := 5) (v := .ref c0) S in_X7_mixInto_X7 G 0 rfl rfl 3 (by decide) lk_X7_mixInto_23 rfl dX7_mixInto_50 ?_
      refine lv_iload zx zb dX7_mixInto_53 (lv_at hl 1 rfl) ?_
      refine lv_iconst (v := 1) zx zb dX7_mixInto_55 (by decide) ?_
      refine r_iadd (v := (nI ((k5 * 5) + 1))) S (nI_add (k5 * 5) 1) dX7_mixInto_56 ?_
      refine r_iald S G 1 rfl (vp_in_nI (by omega) (by decide)) rfl dX7_mixInto_57 ?_
      refine k_itE (fun y_11 => ?_)
      refine lv_i2l (v := (Int32.toInt64 y_11)) zx zb dX7_mixInto_58 rfl ?_
      refine r_ladd (v := (((Int32.toInt64 31) * (((Int32.toInt64 31) * x5_3) + (Int32.toInt64 y_9))) + (Int32.toInt64 y_11))) S rfl dX7_mixInto_59 ?_
      refine lv_goto (tgt := 64) zx zb dX7_mixInto_60 (by decide) ?_
      refine lv_lstore_n (lv' := [(3, .long (((Int32.toInt64 31) * (((Int32.toInt64 31) * x5_3) + (Int32.toInt64 y_9))) + (Int32.toInt64 y_11))), (6, .int (nI (k5 * 5))), (5, .int (nI k5)), (0, .ref h0), (1, .long x)]) zx zb dX7_mixInto_64 rfl hl (by decide) rfl (fun ls hl => ?_)
      refine lv_ldc2 zx zb S.2.2.2.1 (S.2.2.2.2 _ mm_X7_mixInto_c50) dX7_mixInto_65 ?_
      refine k_ld (v := (Int32.toInt64 31)) (by decide) ?_
      refine lv_lload_n zx zb dX7_mixInto_68 rfl (lv_at hl 0 rfl) ?_
      refine r_lmul (v := ((Int32.toInt64 31) * (((Int32.toInt64 31) * (((Int32.toInt64 31) * x5_3) + (Int32.toInt64 y_9))) + (Int32.toInt64 y_11)))) S rfl dX7_mixInto_69 ?_
      refine lv_aload_n zx zb dX7_mixInto_70 rfl (lv_at hl 3 rfl) ?_
      refine r_get (C := RX7) (T := TX7) (N := 5) (ci := 5) (v := .ref c0) S in_X7_mixInto_X7 G 0 rfl rfl 3 (by decide) lk_X7_mixInto_23 rfl dX7_mixInto_71 ?_
      refine lv_iload zx zb dX7_mixInto_74 (lv_at hl 1 rfl) ?_
      refine lv_iconst (v := 2) zx zb dX7_mixInto_76 (by decide) ?_
      refine r_iadd (v := (nI ((k5 * 5) + 2))) S (nI_add (k5 * 5) 2) dX7_mixInto_77 ?_
      refine r_iald S G 1 rfl (vp_in_nI (by omega) (by decide)) rfl dX7_mixInto_78 ?_
      refine k_itE (fun y_12 => ?_)
      refine lv_i2l (v := (Int32.toInt64 y_12)) zx zb dX7_mixInto_79 rfl ?_
      refine r_ladd (v := (((Int32.toInt64 31) * (((Int32.toInt64 31) * (((Int32.toInt64 31) * x5_3) + (Int32.toInt64 y_9))) + (Int32.toInt64 y_11))) + (Int32.toInt64 y_12))) S rfl dX7_mixInto_80 ?_
      refine lv_lstore_n (lv' := [(3, .long (((Int32.toInt64 31) * (((Int32.toInt64 31) * (((Int32.toInt64 31) * x5_3) + (Int32.toInt64 y_9))) + (Int32.toInt64 y_11))) + (Int32.toInt64 y_12))), (6, .int (nI (k5 * 5))), (5, .int (nI k5)), (0, .ref h0), (1, .long x)]) zx zb dX7_mixInto_81 rfl hl (by decide) rfl (fun ls hl => ?_)
      refine lv_aload_n zx zb dX7_mixInto_82 rfl (lv_at hl 3 rfl) ?_
      refine r_get (C := RX7) (T := TX7) (N := 5) (ci := 5) (v := .int 1) S in_X7_mixInto_X7 G 0 rfl rfl 2 (by decide) lk_X7_mixInto_20 rfl dX7_mixInto_83 ?_
      refine lv_if_eq (tgt := 108) zx zb dX7_mixInto_86 (by decide) (fun c_13 => absurd c_13 (by decide)) (fun c_13 => ?_)
      refine lv_ldc2 zx zb S.2.2.2.1 (S.2.2.2.2 _ mm_X7_mixInto_c50) dX7_mixInto_89 ?_
      refine k_ld (v := (Int32.toInt64 31)) (by decide) ?_
      refine lv_lload_n zx zb dX7_mixInto_92 rfl (lv_at hl 0 rfl) ?_
      refine r_lmul (v := ((Int32.toInt64 31) * (((Int32.toInt64 31) * (((Int32.toInt64 31) * (((Int32.toInt64 31) * x5_3) + (Int32.toInt64 y_9))) + (Int32.toInt64 y_11))) + (Int32.toInt64 y_12)))) S rfl dX7_mixInto_93 ?_
      refine lv_aload_n zx zb dX7_mixInto_94 rfl (lv_at hl 3 rfl) ?_
      refine r_get (C := RX7) (T := TX7) (N := 5) (ci := 5) (v := .ref c0) S in_X7_mixInto_X7 G 0 rfl rfl 3 (by decide) lk_X7_mixInto_23 rfl dX7_mixInto_95 ?_
      refine lv_iload zx zb dX7_mixInto_98 (lv_at hl 1 rfl) ?_
      refine lv_iconst (v := 3) zx zb dX7_mixInto_100 (by decide) ?_
      refine r_iadd (v := (nI ((k5 * 5) + 3))) S (nI_add (k5 * 5) 3) dX7_mixInto_101 ?_
      refine r_iald S G 1 rfl (vp_in_nI (by omega) (by decide)) rfl dX7_mixInto_102 ?_
      refine k_itE (fun y_14 => ?_)
      refine lv_i2l (v := (Int32.toInt64 y_14)) zx zb dX7_mixInto_103 rfl ?_
      refine r_ladd (v := (((Int32.toInt64 31) * (((Int32.toInt64 31) * (((Int32.toInt64 31) * (((Int32.toInt64 31) * x5_3) + (Int32.toInt64 y_9))) + (Int32.toInt64 y_11))) + (Int32.toInt64 y_12))) + (Int32.toInt64 y_14))) S rfl dX7_mixInto_104 ?_
      refine lv_goto (tgt := 109) zx zb dX7_mixInto_105 (by decide) ?_
      refine lv_lstore_n (lv' := [(3, .long (((Int32.toInt64 31) * (((Int32.toInt64 31) * (((Int32.toInt64 31) * (((Int32.toInt64 31) * x5_3) + (Int32.toInt64 y_9))) + (Int32.toInt64 y_11))) + (Int32.toInt64 y_12))) + (Int32.toInt64 y_14))), (6, .int (nI (k5 * 5))), (5, .int (nI k5)), (0, .ref h0), (1, .long x)]) zx zb dX7_mixInto_109 rfl hl (by decide) rfl (fun ls hl => ?_)
      refine lv_ldc2 zx zb S.2.2.2.1 (S.2.2.2.2 _ mm_X7_mixInto_c50) dX7_mixInto_110 ?_
      refine k_ld (v := (Int32.toInt64 31)) (by decide) ?_
      refine lv_lload_n zx zb dX7_mixInto_113 rfl (lv_at hl 0 rfl) ?_
      refine r_lmul (v := ((Int32.toInt64 31) * (((Int32.toInt64 31) * (((Int32.toInt64 31) * (((Int32.toInt64 31) * (((Int32.toInt64 31) * x5_3) + (Int32.toInt64 y_9))) + (Int32.toInt64 y_11))) + (Int32.toInt64 y_12))) + (Int32.toInt64 y_14)))) S rfl dX7_mixInto_114 ?_
      refine lv_aload_n zx zb dX7_mixInto_115 rfl (lv_at hl 3 rfl) ?_
      refine r_get (C := RX7) (T := TX7) (N := 5) (ci := 5) (v := .ref c0) S in_X7_mixInto_X7 G 0 rfl rfl 3 (by decide) lk_X7_mixInto_23 rfl dX7_mixInto_116 ?_
      refine lv_iload zx zb dX7_mixInto_119 (lv_at hl 1 rfl) ?_
      refine lv_iconst (v := 4) zx zb dX7_mixInto_121 (by decide) ?_
      refine r_iadd (v := (nI ((k5 * 5) + 4))) S (nI_add (k5 * 5) 4) dX7_mixInto_122 ?_
      refine r_iald S G 1 rfl (vp_in_nI (by omega) (by decide)) rfl dX7_mixInto_123 ?_
      refine k_itE (fun y_15 => ?_)
      refine lv_i2l (v := (Int32.toInt64 y_15)) zx zb dX7_mixInto_124 rfl ?_
      refine r_ladd (v := (((Int32.toInt64 31) * (((Int32.toInt64 31) * (((Int32.toInt64 31) * (((Int32.toInt64 31) * (((Int32.toInt64 31) * x5_3) + (Int32.toInt64 y_9))) + (Int32.toInt64 y_11))) + (Int32.toInt64 y_12))) + (Int32.toInt64 y_14))) + (Int32.toInt64 y_15))) S rfl dX7_mixInto_125 ?_
      refine lv_lstore_n (lv' := [(3, .long (((Int32.toInt64 31) * (((Int32.toInt64 31) * (((Int32.toInt64 31) * (((Int32.toInt64 31) * (((Int32.toInt64 31) * x5_3) + (Int32.toInt64 y_9))) + (Int32.toInt64 y_11))) + (Int32.toInt64 y_12))) + (Int32.toInt64 y_14))) + (Int32.toInt64 y_15))), (6, .int (nI (k5 * 5))), (5, .int (nI k5)), (0, .ref h0), (1, .long x)]) zx zb dX7_mixInto_126 rfl hl (by decide) rfl (fun ls hl => ?_)
      refine lv_iinc (v := (nI (k5 + 1))) (lv' := [(5, .int (nI (k5 + 1))), (3, .long (((Int32.toInt64 31) * (((Int32.toInt64 31) * (((Int32.toInt64 31) * (((Int32.toInt64 31) * (((Int32.toInt64 31) * x5_3) + (Int32.toInt64 y_9))) + (Int32.toInt64 y_11))) + (Int32.toInt64 y_12))) + (Int32.toInt64 y_14))) + (Int32.toInt64 y_15))), (6, .int (nI (k5 * 5))), (0, .ref h0), (1, .long x)]) zx zb dX7_mixInto_127 hl (k := 2) rfl (nI_add k5 1) (by decide) rfl (fun ls hl => ?_)
      refine lv_goto (tgt := 5) zx zb dX7_mixInto_130 (by decide) ?_
      have hl := lv_sub hl (l' := [(5, .int (nI (k5 + 1))), (3, .long (((Int32.toInt64 31) * (((Int32.toInt64 31) * (((Int32.toInt64 31) * (((Int32.toInt64 31) * (((Int32.toInt64 31) * x5_3) + (Int32.toInt64 y_9))) + (Int32.toInt64 y_11))) + (Int32.toInt64 y_12))) + (Int32.toInt64 y_14))) + (Int32.toInt64 y_15))), (0, .ref h0), (1, .long x)]) [0, 1, 3, 4] rfl
      exact ih5 (k5 + 1) (((Int32.toInt64 31) * (((Int32.toInt64 31) * (((Int32.toInt64 31) * (((Int32.toInt64 31) * (((Int32.toInt64 31) * x5_3) + (Int32.toInt64 y_9))) + (Int32.toInt64 y_11))) + (Int32.toInt64 y_12))) + (Int32.toInt64 y_14))) + (Int32.toInt64 y_15)) _ _ _ (by omega) (by omega) G hl
set_option maxHeartbeats 4000000 in
set_option maxRecDepth 100000 in
/-- append -/
theorem s_append2 (l : Launch) (X : EX) (h0 : Nat) (c0 : Nat) (n : Nat) (f : Nat → Int32) (x1 : Int32) (x2 : Int32) (x3 : Int32) (x4 : Int32) (x5 : Int32) (hI_n : n ≤ 6) (sz : Nat) : Met l yX7_append wsX7_append ({ frames := 0, cells := 0, slots := 0, locals := 0 } : Room) (pE X [.ref h0, .int x1, .int x2, .int x3, .int x4, .int x5] ([(h0, .inr (5, [.int 6, .int 0, .int 0, .ref c0, .int (nI n)])), (c0, .inl (X.2.1, 30, .inl f))]) sz) (qI (fun (r : Int32) (u : (Nat) × (Nat → Int32)) => u.1 ≤ 6 ∧ (r = 0 ∨ r = 1)) X (fun (u : (Nat) × (Nat → Int32)) => [(h0, .inr (5, [.int 6, .int 0, .int 0, .ref c0, .int (nI u.1)])), (c0, .inl (X.2.1, 30, .inl u.2))]) ([(h0, .inr (5, [.int 6, .int 0, .int 0, .ref c0, .int (nI n)])), (c0, .inl (X.2.1, 30, .inl f))]) sz) 0 0 (va_A ([(h0, .inr (5, [.int 6, .int 0, .int 0, .ref c0, .int (nI n)])), (c0, .inl (X.2.1, 30, .inl f))]) sz) := by
  refine mk_met (B := (va_A ([(h0, .inr (5, [.int 6, .int 0, .int 0, .ref c0, .int (nI n)])), (c0, .inl (X.2.1, 30, .inl f))]) sz)) (A := (va_A ([(h0, .inr (5, [.int 6, .int 0, .int 0, .ref c0, .int (nI n)])), (c0, .inl (X.2.1, 30, .inl f))]) sz)) (cc := cX7_append) (maxL := 7) (ret := (some .boolean)) (by decide) rfl (Nat.le_of_ble_eq_true rfl) k_w k_a (fun p e s m below meth c S zr zlk znm zsz G ls hl => ?_)
  have S : CallFix p m c cX7_append 7 s _ wsX7_append RX7 := S
  have zx := S.1
  have zb := S.2.1
  have hl : lv_has ls 7 [(0, .ref h0), (1, .int x1), (2, .int x2), (3, .int x3), (4, .int x4), (5, .int x5)] := hl
  refine lv_aload_n zx zb dX7_append_0 rfl (lv_at hl 0 rfl) ?_
  refine r_get (C := RX7) (T := TX7) (N := 5) (ci := 5) (v := .int (nI n)) S in_X7_append_X7 G 0 rfl rfl 4 (by decide) lk_X7_append_7 rfl dX7_append_1 ?_
  refine lv_aload_n zx zb dX7_append_4 rfl (lv_at hl 0 rfl) ?_
  refine r_get (C := RX7) (T := TX7) (N := 5) (ci := 5) (v := .int 6) S in_X7_append_X7 G 0 rfl rfl 0 (by decide) lk_X7_append_13 rfl dX7_append_5 ?_
  refine lv_icmp_lt (tgt := 13) zx zb dX7_append_8 (by decide) (fun c_1 => ?_) (fun c_1 => ?_)
  · have fc_1 := j_lt (a := n) (b := 6) (by omega) (by omega) c_1
    refine lv_aload_n zx zb dX7_append_13 rfl (lv_at hl 0 rfl) ?_
    refine r_get (C := RX7) (T := TX7) (N := 5) (ci := 5) (v := .int (nI n)) S in_X7_append_X7 G 0 rfl rfl 4 (by decide) lk_X7_append_7 rfl dX7_append_14 ?_
    refine lv_iconst (v := 5) zx zb dX7_append_17 (by decide) ?_
    refine r_imul (v := (nI (n * 5))) S (pk_mul n 5) dX7_append_18 ?_
    refine lv_istore (lv' := [(6, .int (nI (n * 5))), (0, .ref h0), (1, .int x1), (2, .int x2), (3, .int x3), (4, .int x4), (5, .int x5)]) zx zb dX7_append_19 hl (by decide) rfl (fun ls hl => ?_)
    refine lv_aload_n zx zb dX7_append_21 rfl (lv_at hl 1 rfl) ?_
    refine r_get (C := RX7) (T := TX7) (N := 5) (ci := 5) (v := .ref c0) S in_X7_append_X7 G 0 rfl rfl 3 (by decide) lk_X7_append_23 rfl dX7_append_22 ?_
    refine lv_iload zx zb dX7_append_25 (lv_at hl 0 rfl) ?_
    refine lv_iconst (v := 0) zx zb dX7_append_27 (by decide) ?_
    refine r_iadd (v := (nI ((n * 5) + 0))) S (nI_add (n * 5) 0) dX7_append_28 ?_
    refine lv_iload_n zx zb dX7_append_29 rfl (lv_at hl 2 rfl) ?_
    refine r_iast S G 1 rfl (vp_in_nI (by omega) (by decide)) dX7_append_30 (fun H locs G => ?_)
    obtain ⟨f_2, G⟩ : ∃ f_2 : Nat → Int32, wd X (va_A ([(h0, .inr (5, [.int 6, .int 0, .int 0, .ref c0, .int (nI n)])), (c0, .inl (X.2.1, 30, .inl f))]) sz) (va_A ([(h0, .inr (5, [.int 6, .int 0, .int 0, .ref c0, .int (nI n)])), (c0, .inl (X.2.1, 30, .inl f))]) sz) s ([(h0, .inr (5, [.int 6, .int 0, .int 0, .ref c0, .int (nI n)])), (c0, .inl (X.2.1, 30, .inl f_2))]) H locs := ⟨_, G⟩
    refine lv_aload_n zx zb dX7_append_31 rfl (lv_at hl 1 rfl) ?_
    refine r_get (C := RX7) (T := TX7) (N := 5) (ci := 5) (v := .ref c0) S in_X7_append_X7 G 0 rfl rfl 3 (by decide) lk_X7_append_23 rfl dX7_append_32 ?_
    refine lv_iload zx zb dX7_append_35 (lv_at hl 0 rfl) ?_
    refine lv_iconst (v := 1) zx zb dX7_append_37 (by decide) ?_
    refine r_iadd (v := (nI ((n * 5) + 1))) S (nI_add (n * 5) 1) dX7_append_38 ?_
    refine lv_iload_n zx zb dX7_append_39 rfl (lv_at hl 3 rfl) ?_
    refine r_iast S G 1 rfl (vp_in_nI (by omega) (by decide)) dX7_append_40 (fun H locs G => ?_)
    obtain ⟨f_3, G⟩ : ∃ f_3 : Nat → Int32, wd X (va_A ([(h0, .inr (5, [.int 6, .int 0, .int 0, .ref c0, .int (nI n)])), (c0, .inl (X.2.1, 30, .inl f))]) sz) (va_A ([(h0, .inr (5, [.int 6, .int 0, .int 0, .ref c0, .int (nI n)])), (c0, .inl (X.2.1, 30, .inl f))]) sz) s ([(h0, .inr (5, [.int 6, .int 0, .int 0, .ref c0, .int (nI n)])), (c0, .inl (X.2.1, 30, .inl f_3))]) H locs := ⟨_, G⟩
    refine lv_aload_n zx zb dX7_append_41 rfl (lv_at hl 1 rfl) ?_
    refine r_get (C := RX7) (T := TX7) (N := 5) (ci := 5) (v := .ref c0) S in_X7_append_X7 G 0 rfl rfl 3 (by decide) lk_X7_append_23 rfl dX7_append_42 ?_
    refine lv_iload zx zb dX7_append_45 (lv_at hl 0 rfl) ?_
    refine lv_iconst (v := 2) zx zb dX7_append_47 (by decide) ?_
    refine r_iadd (v := (nI ((n * 5) + 2))) S (nI_add (n * 5) 2) dX7_append_48 ?_
    refine lv_iload_n zx zb dX7_append_49 rfl (lv_at hl 4 rfl) ?_
    refine r_iast S G 1 rfl (vp_in_nI (by omega) (by decide)) dX7_append_50 (fun H locs G => ?_)
    obtain ⟨f_4, G⟩ : ∃ f_4 : Nat → Int32, wd X (va_A ([(h0, .inr (5, [.int 6, .int 0, .int 0, .ref c0, .int (nI n)])), (c0, .inl (X.2.1, 30, .inl f))]) sz) (va_A ([(h0, .inr (5, [.int 6, .int 0, .int 0, .ref c0, .int (nI n)])), (c0, .inl (X.2.1, 30, .inl f))]) sz) s ([(h0, .inr (5, [.int 6, .int 0, .int 0, .ref c0, .int (nI n)])), (c0, .inl (X.2.1, 30, .inl f_4))]) H locs := ⟨_, G⟩
    refine lv_aload_n zx zb dX7_append_51 rfl (lv_at hl 1 rfl) ?_
    refine r_get (C := RX7) (T := TX7) (N := 5) (ci := 5) (v := .ref c0) S in_X7_append_X7 G 0 rfl rfl 3 (by decide) lk_X7_append_23 rfl dX7_append_52 ?_
    refine lv_iload zx zb dX7_append_55 (lv_at hl 0 rfl) ?_
    refine lv_iconst (v := 3) zx zb dX7_append_57 (by decide) ?_
    refine r_iadd (v := (nI ((n * 5) + 3))) S (nI_add (n * 5) 3) dX7_append_58 ?_
    refine lv_iload zx zb dX7_append_59 (lv_at hl 5 rfl) ?_
    refine r_iast S G 1 rfl (vp_in_nI (by omega) (by decide)) dX7_append_61 (fun H locs G => ?_)
    obtain ⟨f_5, G⟩ : ∃ f_5 : Nat → Int32, wd X (va_A ([(h0, .inr (5, [.int 6, .int 0, .int 0, .ref c0, .int (nI n)])), (c0, .inl (X.2.1, 30, .inl f))]) sz) (va_A ([(h0, .inr (5, [.int 6, .int 0, .int 0, .ref c0, .int (nI n)])), (c0, .inl (X.2.1, 30, .inl f))]) sz) s ([(h0, .inr (5, [.int 6, .int 0, .int 0, .ref c0, .int (nI n)])), (c0, .inl (X.2.1, 30, .inl f_5))]) H locs := ⟨_, G⟩
    refine lv_aload_n zx zb dX7_append_62 rfl (lv_at hl 1 rfl) ?_
    refine r_get (C := RX7) (T := TX7) (N := 5) (ci := 5) (v := .ref c0) S in_X7_append_X7 G 0 rfl rfl 3 (by decide) lk_X7_append_23 rfl dX7_append_63 ?_
    refine lv_iload zx zb dX7_append_66 (lv_at hl 0 rfl) ?_
    refine lv_iconst (v := 4) zx zb dX7_append_68 (by decide) ?_
    refine r_iadd (v := (nI ((n * 5) + 4))) S (nI_add (n * 5) 4) dX7_append_69 ?_
    refine lv_iload zx zb dX7_append_70 (lv_at hl 6 rfl) ?_
    refine r_iast S G 1 rfl (vp_in_nI (by omega) (by decide)) dX7_append_72 (fun H locs G => ?_)
    obtain ⟨f_6, G⟩ : ∃ f_6 : Nat → Int32, wd X (va_A ([(h0, .inr (5, [.int 6, .int 0, .int 0, .ref c0, .int (nI n)])), (c0, .inl (X.2.1, 30, .inl f))]) sz) (va_A ([(h0, .inr (5, [.int 6, .int 0, .int 0, .ref c0, .int (nI n)])), (c0, .inl (X.2.1, 30, .inl f))]) sz) s ([(h0, .inr (5, [.int 6, .int 0, .int 0, .ref c0, .int (nI n)])), (c0, .inl (X.2.1, 30, .inl f_6))]) H locs := ⟨_, G⟩
    refine lv_aload_n zx zb dX7_append_73 rfl (lv_at hl 1 rfl) ?_
    refine lv_dup zx zb dX7_append_74 rfl ?_
    refine r_get (C := RX7) (T := TX7) (N := 5) (ci := 5) (v := .int (nI n)) S in_X7_append_X7 G 0 rfl rfl 4 (by decide) lk_X7_append_7 rfl dX7_append_75 ?_
    refine lv_iconst (v := 1) zx zb dX7_append_78 (by decide) ?_
    refine r_iadd (v := (nI (n + 1))) S (nI_add n 1) dX7_append_79 ?_
    refine r_put (C := RX7) (T := TX7) (N := 5) (ci := 5) (v := .int (nI (n + 1))) S in_X7_append_X7 tyX7_ok nmX7 G 0 rfl rfl 4 (by decide) lk_X7_append_7 rfl (vp_nar_int _) rfl (Nat.le_of_ble_eq_true rfl) dX7_append_80 (fun H locs G => ?_)
    obtain ⟨n_7, hI_n_7, hE_n_7, G⟩ : ∃ n_7 : Nat, n_7 ≤ 6 ∧ n_7 = (n + 1) ∧ wd X (va_A ([(h0, .inr (5, [.int 6, .int 0, .int 0, .ref c0, .int (nI n)])), (c0, .inl (X.2.1, 30, .inl f))]) sz) (va_A ([(h0, .inr (5, [.int 6, .int 0, .int 0, .ref c0, .int (nI n)])), (c0, .inl (X.2.1, 30, .inl f))]) sz) s ([(h0, .inr (5, [.int 6, .int 0, .int 0, .ref c0, .int (nI n_7)])), (c0, .inl (X.2.1, 30, .inl f_6))]) H locs := ⟨(n + 1), by omega, rfl, G⟩
    refine lv_iconst (v := 1) zx zb dX7_append_83 (by decide) ?_
    exact e_int S zr zlk (by decide) G (n_7, f_6) [0, 1] rfl rfl (Or.inr rfl) (⟨hI_n_7, by first | exact Or.inl rfl | exact Or.inr rfl⟩) dX7_append_84
  · have fc_1 := j_nlt (a := n) (b := 6) (by omega) (by omega) c_1
    refine lv_iconst (v := 0) zx zb dX7_append_11 (by decide) ?_
    exact e_int S zr zlk (by decide) G (n, f) [0, 1] rfl rfl (Or.inr rfl) (⟨hI_n, by first | exact Or.inl rfl | exact Or.inr rfl⟩) dX7_append_12
set_option maxHeartbeats 4000000 in
set_option maxRecDepth 100000 in
/-- fitRunner -/
theorem s_fitRunner2 (l : Launch) (X : EX) (h0 : Nat) (c0 : Nat) (n : Nat) (f : Nat → Int32) (x1 : Int32) (x2 : Int32) (x3 : Int32) (hI_n : n ≤ 6) (sz : Nat) : Met l yX7_fitRunner wsX7_fitRunner ({ frames := 1, cells := 0, slots := 0, locals := 26 } : Room) (pE X [.ref h0, .int x1, .int x2, .int x3] ([(h0, .inr (5, [.int 6, .int 0, .int 0, .ref c0, .int (nI n)])), (c0, .inl (X.2.1, 30, .inl f))]) sz) (qI (fun (r : Int32) (u : Unit) => r = 0 ∨ r = 1) X (fun (u : Unit) => []) [] sz) 0 0 (va_A [] sz) := by
  refine mk_met (B := (fun _ => True)) (A := (va_A [] sz)) (cc := cX7_fitRunner) (maxL := 7) (ret := (some .boolean)) (by decide) rfl (Nat.le_of_ble_eq_true rfl) k_ro k_a (fun p e s m below meth c S zr zlk znm zsz G ls hl => ?_)
  have S : CallFix p m c cX7_fitRunner 7 s _ wsX7_fitRunner RX7 := S
  have zx := S.1
  have zb := S.2.1
  have hl : lv_has ls 7 [(0, .ref h0), (1, .int x1), (2, .int x2), (3, .int x3)] := hl
  refine lv_iconst (v := 0) zx zb dX7_fitRunner_0 (by decide) ?_
  refine lv_istore (lv' := [(4, .int 0), (0, .ref h0), (1, .int x1), (2, .int x2), (3, .int x3)]) zx zb dX7_fitRunner_1 hl (by decide) rfl (fun ls hl => ?_)
  refine k_loop (P := ∀ (zm : Nat) (k3 : Nat) (H : Heap) (locs : List Loc) (ls : Array Slot), n + 1 ≤ k3 + zm → (k3 ≤ n) → wd X (fun _ => True) (va_A [] sz) s ([(h0, .inr (5, [.int 6, .int 0, .int 0, .ref c0, .int (nI n)])), (c0, .inl (X.2.1, 30, .inl f))]) H locs → lv_has ls 7 [(4, .int (nI k3)), (0, .ref h0), (1, .int x1), (2, .int x2), (3, .int x3)] → W p l e _ s m _ below meth c H locs _ _ _ (F0 m 3 ls [])) (fun loop => loop (n + 1) 0 _ _ _ (by omega) (by omega) G hl) ?_
  intro zm
  induction zm with
  | zero => intro k3 H locs ls zz q_hk_k3 _ _; exact absurd zz (by omega)
  | succ zm ih3 =>
    intro k3 H locs ls zm_3 hk_k3 G hl
    refine lv_iload zx zb dX7_fitRunner_3 (lv_at hl 0 rfl) ?_
    refine lv_aload_n zx zb dX7_fitRunner_5 rfl (lv_at hl 1 rfl) ?_
    refine r_get (C := RX7) (T := TX7) (N := 5) (ci := 5) (v := .int (nI n)) S in_X7_fitRunner_X7 G 0 rfl rfl 4 (by decide) lk_X7_fitRunner_7 rfl dX7_fitRunner_6 ?_
    refine lv_icmp_ge (tgt := 97) zx zb dX7_fitRunner_9 (by decide) (fun c_1 => ?_) (fun c_1 => ?_)
    · have fc_1 := j_le (a := n) (b := k3) (by omega) (by omega) c_1
      refine lv_iconst (v := 1) zx zb dX7_fitRunner_97 (by decide) ?_
      exact e_int S zr zlk (by decide) G () [] rfl rfl (Or.inl rfl) (by first | exact Or.inl rfl | exact Or.inr rfl) dX7_fitRunner_98
    · have fc_1 := j_nle (a := n) (b := k3) (by omega) (by omega) c_1
      refine lv_iload zx zb dX7_fitRunner_12 (lv_at hl 0 rfl) ?_
      refine lv_iconst (v := 5) zx zb dX7_fitRunner_14 (by decide) ?_
      refine r_imul (v := (nI (k3 * 5))) S (pk_mul k3 5) dX7_fitRunner_15 ?_
      refine lv_istore (lv' := [(5, .int (nI (k3 * 5))), (4, .int (nI k3)), (0, .ref h0), (1, .int x1), (2, .int x2), (3, .int x3)]) zx zb dX7_fitRunner_16 hl (by decide) rfl (fun ls hl => ?_)
      refine lv_aload_n zx zb dX7_fitRunner_18 rfl (lv_at hl 2 rfl) ?_
      refine r_get (C := RX7) (T := TX7) (N := 5) (ci := 5) (v := .int 0) S in_X7_fitRunner_X7 G 0 rfl rfl 1 (by decide) lk_X7_fitRunner_16 rfl dX7_fitRunner_19 ?_
      refine lv_if_eq (tgt := 37) zx zb dX7_fitRunner_22 (by decide) (fun c_2 => ?_) (fun c_2 => absurd (by decide) c_2)
      refine lv_iload_n zx zb dX7_fitRunner_37 rfl (lv_at hl 5 rfl) ?_
      refine lv_istore (lv' := [(6, .int x3), (5, .int (nI (k3 * 5))), (4, .int (nI k3)), (0, .ref h0), (1, .int x1), (2, .int x2), (3, .int x3)]) zx zb dX7_fitRunner_38 hl (by decide) rfl (fun ls hl => ?_)
      refine lv_aload_n zx zb dX7_fitRunner_40 rfl (lv_at hl 3 rfl) ?_
      refine r_get (C := RX7) (T := TX7) (N := 5) (ci := 5) (v := .ref c0) S in_X7_fitRunner_X7 G 0 rfl rfl 3 (by decide) lk_X7_fitRunner_23 rfl dX7_fitRunner_41 ?_
      refine lv_iload zx zb dX7_fitRunner_44 (lv_at hl 1 rfl) ?_
      refine lv_iconst (v := 0) zx zb dX7_fitRunner_46 (by decide) ?_
      refine r_iadd (v := (nI ((k3 * 5) + 0))) S (nI_add (k3 * 5) 0) dX7_fitRunner_47 ?_
      refine r_iald S G 1 rfl (vp_in_nI (by omega) (by decide)) rfl dX7_fitRunner_48 ?_
      refine k_itE (fun y_3 => ?_)
      refine lv_iload_n zx zb dX7_fitRunner_49 rfl (lv_at hl 4 rfl) ?_
      refine lv_icmp_ne (tgt := 91) zx zb dX7_fitRunner_50 (by decide) (fun c_4 => ?_) (fun c_4 => ?_)
      · refine lv_iinc (v := (nI (k3 + 1))) (lv' := [(4, .int (nI (k3 + 1))), (6, .int x3), (5, .int (nI (k3 * 5))), (0, .ref h0), (1, .int x1), (2, .int x2), (3, .int x3)]) zx zb dX7_fitRunner_91 hl (k := 2) rfl (nI_add k3 1) (by decide) rfl (fun ls hl => ?_)
        refine lv_goto (tgt := 3) zx zb dX7_fitRunner_94 (by decide) ?_
        have hl := lv_sub hl (l' := [(4, .int (nI (k3 + 1))), (0, .ref h0), (1, .int x1), (2, .int x2), (3, .int x3)]) [0, 3, 4, 5, 6] rfl
        exact ih3 (k3 + 1) _ _ _ (by omega) (by omega) G hl
      · refine lv_iload_n zx zb dX7_fitRunner_53 rfl (lv_at hl 5 rfl) ?_
        refine lv_iload zx zb dX7_fitRunner_54 (lv_at hl 0 rfl) ?_
        refine lv_aload_n zx zb dX7_fitRunner_56 rfl (lv_at hl 3 rfl) ?_
        refine r_get (C := RX7) (T := TX7) (N := 5) (ci := 5) (v := .ref c0) S in_X7_fitRunner_X7 G 0 rfl rfl 3 (by decide) lk_X7_fitRunner_23 rfl dX7_fitRunner_57 ?_
        refine lv_iload zx zb dX7_fitRunner_60 (lv_at hl 1 rfl) ?_
        refine lv_iconst (v := 2) zx zb dX7_fitRunner_62 (by decide) ?_
        refine r_iadd (v := (nI ((k3 * 5) + 2))) S (nI_add (k3 * 5) 2) dX7_fitRunner_63 ?_
        refine r_iald S G 1 rfl (vp_in_nI (by omega) (by decide)) rfl dX7_fitRunner_64 ?_
        refine k_itE (fun y_5 => ?_)
        refine lv_aload_n zx zb dX7_fitRunner_65 rfl (lv_at hl 3 rfl) ?_
        refine r_get (C := RX7) (T := TX7) (N := 5) (ci := 5) (v := .ref c0) S in_X7_fitRunner_X7 G 0 rfl rfl 3 (by decide) lk_X7_fitRunner_23 rfl dX7_fitRunner_66 ?_
        refine lv_iload zx zb dX7_fitRunner_69 (lv_at hl 1 rfl) ?_
        refine lv_iconst (v := 3) zx zb dX7_fitRunner_71 (by decide) ?_
        refine r_iadd (v := (nI ((k3 * 5) + 3))) S (nI_add (k3 * 5) 3) dX7_fitRunner_72 ?_
        refine r_iald S G 1 rfl (vp_in_nI (by omega) (by decide)) rfl dX7_fitRunner_73 ?_
        refine k_itE (fun y_6 => ?_)
        refine o_ri (cells' := 0) (slots' := 0) G rfl rfl (n_S (As := [.int x2, .int x3, .int y_5, .int y_6]) (rest := []) S G (s_reach l X x2 x3 y_5 y_6 H.size) gX7_fitRunner_X2_reach rfl rfl rfl hdS_X2_reach ⟨Nat.le_of_ble_eq_true rfl, Nat.le_of_ble_eq_true rfl⟩ [] rfl rfl rfl hl.1 (Nat.le_of_ble_eq_true rfl) dX7_fitRunner_74 ⟨Nat.le_of_ble_eq_true rfl, Nat.le_of_ble_eq_true rfl⟩) (fun r_7 u_7 H locs hp_7 G => ?_)
        have G : wd X (fun _ => True) (va_A [] sz) s ([(h0, .inr (5, [.int 6, .int 0, .int 0, .ref c0, .int (nI n)])), (c0, .inl (X.2.1, 30, .inl f))]) H locs := G
        refine lv_aload_n zx zb dX7_fitRunner_77 rfl (lv_at hl 3 rfl) ?_
        refine r_get (C := RX7) (T := TX7) (N := 5) (ci := 5) (v := .ref c0) S in_X7_fitRunner_X7 G 0 rfl rfl 3 (by decide) lk_X7_fitRunner_23 rfl dX7_fitRunner_78 ?_
        refine lv_iload zx zb dX7_fitRunner_81 (lv_at hl 1 rfl) ?_
        refine lv_iconst (v := 4) zx zb dX7_fitRunner_83 (by decide) ?_
        refine r_iadd (v := (nI ((k3 * 5) + 4))) S (nI_add (k3 * 5) 4) dX7_fitRunner_84 ?_
        refine r_iald S G 1 rfl (vp_in_nI (by omega) (by decide)) rfl dX7_fitRunner_85 ?_
        refine k_itE (fun y_8 => ?_)
        refine lv_icmp_eq (tgt := 91) zx zb dX7_fitRunner_86 (by decide) (fun c_9 => ?_) (fun c_9 => ?_)
        · refine lv_iinc (v := (nI (k3 + 1))) (lv' := [(4, .int (nI (k3 + 1))), (6, .int x3), (5, .int (nI (k3 * 5))), (0, .ref h0), (1, .int x1), (2, .int x2), (3, .int x3)]) zx zb dX7_fitRunner_91 hl (k := 2) rfl (nI_add k3 1) (by decide) rfl (fun ls hl => ?_)
          refine lv_goto (tgt := 3) zx zb dX7_fitRunner_94 (by decide) ?_
          have hl := lv_sub hl (l' := [(4, .int (nI (k3 + 1))), (0, .ref h0), (1, .int x1), (2, .int x2), (3, .int x3)]) [0, 3, 4, 5, 6] rfl
          exact ih3 (k3 + 1) _ _ _ (by omega) (by omega) G hl
        · refine lv_iconst (v := 0) zx zb dX7_fitRunner_89 (by decide) ?_
          exact e_int S zr zlk (by decide) G () [] rfl rfl (Or.inl rfl) (by first | exact Or.inl rfl | exact Or.inr rfl) dX7_fitRunner_90
set_option maxHeartbeats 4000000 in
set_option maxRecDepth 100000 in
/-- fitEgg -/
theorem s_fitEgg2 (l : Launch) (X : EX) (h0 : Nat) (c0 : Nat) (n : Nat) (f : Nat → Int32) (x1 : Int32) (x2 : Int32) (hI_n : n ≤ 6) (sz : Nat) : Met l yX7_fitEgg wsX7_fitEgg ({ frames := 1, cells := 0, slots := 0, locals := 24 } : Room) (pE X [.ref h0, .int x1, .int x2] ([(h0, .inr (5, [.int 6, .int 0, .int 0, .ref c0, .int (nI n)])), (c0, .inl (X.2.1, 30, .inl f))]) sz) (qI (fun (r : Int32) (u : Unit) => r = 0 ∨ r = 1) X (fun (u : Unit) => []) [] sz) 0 0 (va_A [] sz) := by
  refine mk_met (B := (fun _ => True)) (A := (va_A [] sz)) (cc := cX7_fitEgg) (maxL := 5) (ret := (some .boolean)) (by decide) rfl (Nat.le_of_ble_eq_true rfl) k_ro k_a (fun p e s m below meth c S zr zlk znm zsz G ls hl => ?_)
  have S : CallFix p m c cX7_fitEgg 5 s _ wsX7_fitEgg RX7 := S
  have zx := S.1
  have zb := S.2.1
  have hl : lv_has ls 5 [(0, .ref h0), (1, .int x1), (2, .int x2)] := hl
  refine lv_iconst (v := 0) zx zb dX7_fitEgg_0 (by decide) ?_
  refine lv_istore_n (lv' := [(3, .int 0), (0, .ref h0), (1, .int x1), (2, .int x2)]) zx zb dX7_fitEgg_1 rfl hl (by decide) rfl (fun ls hl => ?_)
  refine k_loop (P := ∀ (zm : Nat) (k2 : Nat) (H : Heap) (locs : List Loc) (ls : Array Slot), n + 1 ≤ k2 + zm → (k2 ≤ n) → wd X (fun _ => True) (va_A [] sz) s ([(h0, .inr (5, [.int 6, .int 0, .int 0, .ref c0, .int (nI n)])), (c0, .inl (X.2.1, 30, .inl f))]) H locs → lv_has ls 5 [(3, .int (nI k2)), (0, .ref h0), (1, .int x1), (2, .int x2)] → W p l e _ s m _ below meth c H locs _ _ _ (F0 m 2 ls [])) (fun loop => loop (n + 1) 0 _ _ _ (by omega) (by omega) G hl) ?_
  intro zm
  induction zm with
  | zero => intro k2 H locs ls zz q_hk_k2 _ _; exact absurd zz (by omega)
  | succ zm ih2 =>
    intro k2 H locs ls zm_2 hk_k2 G hl
    refine lv_iload_n zx zb dX7_fitEgg_2 rfl (lv_at hl 0 rfl) ?_
    refine lv_aload_n zx zb dX7_fitEgg_3 rfl (lv_at hl 1 rfl) ?_
    refine r_get (C := RX7) (T := TX7) (N := 5) (ci := 5) (v := .int (nI n)) S in_X7_fitEgg_X7 G 0 rfl rfl 4 (by decide) lk_X7_fitEgg_7 rfl dX7_fitEgg_4 ?_
    refine lv_icmp_ge (tgt := 61) zx zb dX7_fitEgg_7 (by decide) (fun c_1 => ?_) (fun c_1 => ?_)
    · have fc_1 := j_le (a := n) (b := k2) (by omega) (by omega) c_1
      refine lv_iconst (v := 1) zx zb dX7_fitEgg_61 (by decide) ?_
      exact e_int S zr zlk (by decide) G () [] rfl rfl (Or.inl rfl) (by first | exact Or.inl rfl | exact Or.inr rfl) dX7_fitEgg_62
    · have fc_1 := j_nle (a := n) (b := k2) (by omega) (by omega) c_1
      refine lv_iload_n zx zb dX7_fitEgg_10 rfl (lv_at hl 0 rfl) ?_
      refine lv_iconst (v := 5) zx zb dX7_fitEgg_11 (by decide) ?_
      refine r_imul (v := (nI (k2 * 5))) S (pk_mul k2 5) dX7_fitEgg_12 ?_
      refine lv_istore (lv' := [(4, .int (nI (k2 * 5))), (3, .int (nI k2)), (0, .ref h0), (1, .int x1), (2, .int x2)]) zx zb dX7_fitEgg_13 hl (by decide) rfl (fun ls hl => ?_)
      refine lv_aload_n zx zb dX7_fitEgg_15 rfl (lv_at hl 2 rfl) ?_
      refine r_get (C := RX7) (T := TX7) (N := 5) (ci := 5) (v := .ref c0) S in_X7_fitEgg_X7 G 0 rfl rfl 3 (by decide) lk_X7_fitEgg_23 rfl dX7_fitEgg_16 ?_
      refine lv_iload zx zb dX7_fitEgg_19 (lv_at hl 0 rfl) ?_
      refine lv_iconst (v := 0) zx zb dX7_fitEgg_21 (by decide) ?_
      refine r_iadd (v := (nI ((k2 * 5) + 0))) S (nI_add (k2 * 5) 0) dX7_fitEgg_22 ?_
      refine r_iald S G 1 rfl (vp_in_nI (by omega) (by decide)) rfl dX7_fitEgg_23 ?_
      refine k_itE (fun y_2 => ?_)
      refine lv_iload_n zx zb dX7_fitEgg_24 rfl (lv_at hl 3 rfl) ?_
      refine lv_icmp_ne (tgt := 55) zx zb dX7_fitEgg_25 (by decide) (fun c_3 => ?_) (fun c_3 => ?_)
      · refine lv_iinc (v := (nI (k2 + 1))) (lv' := [(3, .int (nI (k2 + 1))), (4, .int (nI (k2 * 5))), (0, .ref h0), (1, .int x1), (2, .int x2)]) zx zb dX7_fitEgg_55 hl (k := 1) rfl (nI_add k2 1) (by decide) rfl (fun ls hl => ?_)
        refine lv_goto (tgt := 2) zx zb dX7_fitEgg_58 (by decide) ?_
        have hl := lv_sub hl (l' := [(3, .int (nI (k2 + 1))), (0, .ref h0), (1, .int x1), (2, .int x2)]) [0, 2, 3, 4] rfl
        exact ih2 (k2 + 1) _ _ _ (by omega) (by omega) G hl
      · refine lv_iload_n zx zb dX7_fitEgg_28 rfl (lv_at hl 4 rfl) ?_
        refine lv_aload_n zx zb dX7_fitEgg_29 rfl (lv_at hl 2 rfl) ?_
        refine r_get (C := RX7) (T := TX7) (N := 5) (ci := 5) (v := .ref c0) S in_X7_fitEgg_X7 G 0 rfl rfl 3 (by decide) lk_X7_fitEgg_23 rfl dX7_fitEgg_30 ?_
        refine lv_iload zx zb dX7_fitEgg_33 (lv_at hl 0 rfl) ?_
        refine lv_iconst (v := 2) zx zb dX7_fitEgg_35 (by decide) ?_
        refine r_iadd (v := (nI ((k2 * 5) + 2))) S (nI_add (k2 * 5) 2) dX7_fitEgg_36 ?_
        refine r_iald S G 1 rfl (vp_in_nI (by omega) (by decide)) rfl dX7_fitEgg_37 ?_
        refine k_itE (fun y_4 => ?_)
        refine o_ri (cells' := 0) (slots' := 0) G rfl rfl (n_S (As := [.int x2, .int y_4]) (rest := []) S G (s_limit l X x2 y_4 H.size) gX7_fitEgg_X1_limit rfl rfl rfl hdS_X1_limit ⟨Nat.le_of_ble_eq_true rfl, Nat.le_of_ble_eq_true rfl⟩ [] rfl rfl rfl hl.1 (Nat.le_of_ble_eq_true rfl) dX7_fitEgg_38 ⟨Nat.le_of_ble_eq_true rfl, Nat.le_of_ble_eq_true rfl⟩) (fun r_5 u_5 H locs hp_5 G => ?_)
        have G : wd X (fun _ => True) (va_A [] sz) s ([(h0, .inr (5, [.int 6, .int 0, .int 0, .ref c0, .int (nI n)])), (c0, .inl (X.2.1, 30, .inl f))]) H locs := G
        refine lv_aload_n zx zb dX7_fitEgg_41 rfl (lv_at hl 2 rfl) ?_
        refine r_get (C := RX7) (T := TX7) (N := 5) (ci := 5) (v := .ref c0) S in_X7_fitEgg_X7 G 0 rfl rfl 3 (by decide) lk_X7_fitEgg_23 rfl dX7_fitEgg_42 ?_
        refine lv_iload zx zb dX7_fitEgg_45 (lv_at hl 0 rfl) ?_
        refine lv_iconst (v := 4) zx zb dX7_fitEgg_47 (by decide) ?_
        refine r_iadd (v := (nI ((k2 * 5) + 4))) S (nI_add (k2 * 5) 4) dX7_fitEgg_48 ?_
        refine r_iald S G 1 rfl (vp_in_nI (by omega) (by decide)) rfl dX7_fitEgg_49 ?_
        refine k_itE (fun y_6 => ?_)
        refine lv_icmp_eq (tgt := 55) zx zb dX7_fitEgg_50 (by decide) (fun c_7 => ?_) (fun c_7 => ?_)
        · refine lv_iinc (v := (nI (k2 + 1))) (lv' := [(3, .int (nI (k2 + 1))), (4, .int (nI (k2 * 5))), (0, .ref h0), (1, .int x1), (2, .int x2)]) zx zb dX7_fitEgg_55 hl (k := 1) rfl (nI_add k2 1) (by decide) rfl (fun ls hl => ?_)
          refine lv_goto (tgt := 2) zx zb dX7_fitEgg_58 (by decide) ?_
          have hl := lv_sub hl (l' := [(3, .int (nI (k2 + 1))), (0, .ref h0), (1, .int x1), (2, .int x2)]) [0, 2, 3, 4] rfl
          exact ih2 (k2 + 1) _ _ _ (by omega) (by omega) G hl
        · refine lv_iconst (v := 0) zx zb dX7_fitEgg_53 (by decide) ?_
          exact e_int S zr zlk (by decide) G () [] rfl rfl (Or.inl rfl) (by first | exact Or.inl rfl | exact Or.inr rfl) dX7_fitEgg_54
set_option maxHeartbeats 4000000 in
set_option maxRecDepth 100000 in
/-- mixInto -/
theorem s_mixInto2 (l : Launch) (X : EX) (h0 : Nat) (c0 : Nat) (n : Nat) (f : Nat → Int32) (x : Int64) (hI_n : n ≤ 6) (sz : Nat) : Met l yX7_mixInto wsX7_mixInto ({ frames := 0, cells := 0, slots := 0, locals := 0 } : Room) (pE X [.ref h0, .long x] ([(h0, .inr (5, [.int 6, .int 0, .int 0, .ref c0, .int (nI n)])), (c0, .inl (X.2.1, 30, .inl f))]) sz) (qL (fun (r : Int64) (u : Unit) => True) X (fun (u : Unit) => []) [] sz) 0 0 (va_A [] sz) := by
  refine mk_met (B := (fun _ => True)) (A := (va_A [] sz)) (cc := cX7_mixInto) (maxL := 7) (ret := (some .long)) (by decide) rfl (Nat.le_of_ble_eq_true rfl) k_ro k_a (fun p e s m below meth c S zr zlk znm zsz G ls hl => ?_)
  have S : CallFix p m c cX7_mixInto 7 s _ wsX7_mixInto RX7 := S
  have zx := S.1
  have zb := S.2.1
  have hl : lv_has ls 7 [(0, .ref h0), (1, .long x)] := hl
  refine lv_lload_n zx zb dX7_mixInto_0 rfl (lv_at hl 1 rfl) ?_
  refine lv_lstore_n (lv' := [(3, .long x), (0, .ref h0), (1, .long x)]) zx zb dX7_mixInto_1 rfl hl (by decide) rfl (fun ls hl => ?_)
  refine lv_iconst (v := 0) zx zb dX7_mixInto_2 (by decide) ?_
  refine lv_istore (lv' := [(5, .int 0), (3, .long x), (0, .ref h0), (1, .long x)]) zx zb dX7_mixInto_3 hl (by decide) rfl (fun ls hl => ?_)
  refine k_loop (P := ∀ (zm : Nat) (k5 : Nat) (x5_3 : Int64) (H : Heap) (locs : List Loc) (ls : Array Slot), n + 1 ≤ k5 + zm → (k5 ≤ n) → wd X (fun _ => True) (va_A [] sz) s ([(h0, .inr (5, [.int 6, .int 0, .int 0, .ref c0, .int (nI n)])), (c0, .inl (X.2.1, 30, .inl f))]) H locs → lv_has ls 7 [(5, .int (nI k5)), (3, .long x5_3), (0, .ref h0), (1, .long x)] → W p l e _ s m _ below meth c H locs _ _ _ (F0 m 5 ls [])) (fun loop => loop (n + 1) 0 x _ _ _ (by omega) (by omega) G hl) ?_
  intro zm
  induction zm with
  | zero => intro k5 x5_3 H locs ls zz q_hk_k5 _ _; exact absurd zz (by omega)
  | succ zm ih5 =>
    intro k5 x5_3 H locs ls zm_5 hk_k5 G hl
    refine lv_iload zx zb dX7_mixInto_5 (lv_at hl 0 rfl) ?_
    refine lv_aload_n zx zb dX7_mixInto_7 rfl (lv_at hl 2 rfl) ?_
    refine r_get (C := RX7) (T := TX7) (N := 5) (ci := 5) (v := .int (nI n)) S in_X7_mixInto_X7 G 0 rfl rfl 4 (by decide) lk_X7_mixInto_7 rfl dX7_mixInto_8 ?_
    refine lv_icmp_ge (tgt := 133) zx zb dX7_mixInto_11 (by decide) (fun c_1 => ?_) (fun c_1 => ?_)
    · have fc_1 := j_le (a := n) (b := k5) (by omega) (by omega) c_1
      refine lv_lload_n zx zb dX7_mixInto_133 rfl (lv_at hl 1 rfl) ?_
      exact e_long S zr zlk G () [] rfl rfl (Or.inl rfl) (trivial) dX7_mixInto_134
    · have fc_1 := j_nle (a := n) (b := k5) (by omega) (by omega) c_1
      refine lv_iload zx zb dX7_mixInto_14 (lv_at hl 0 rfl) ?_
      refine lv_iconst (v := 5) zx zb dX7_mixInto_16 (by decide) ?_
      refine r_imul (v := (nI (k5 * 5))) S (pk_mul k5 5) dX7_mixInto_17 ?_
      refine lv_istore (lv' := [(6, .int (nI (k5 * 5))), (5, .int (nI k5)), (3, .long x5_3), (0, .ref h0), (1, .long x)]) zx zb dX7_mixInto_18 hl (by decide) rfl (fun ls hl => ?_)
      refine lv_ldc2 zx zb S.2.2.2.1 (S.2.2.2.2 _ mm_X7_mixInto_c50) dX7_mixInto_20 ?_
      refine k_ld (v := (Int32.toInt64 31)) (by decide) ?_
      refine lv_lload_n zx zb dX7_mixInto_23 rfl (lv_at hl 2 rfl) ?_
      refine r_lmul (v := ((Int32.toInt64 31) * x5_3)) S rfl dX7_mixInto_24 ?_
      refine lv_aload_n zx zb dX7_mixInto_25 rfl (lv_at hl 3 rfl) ?_
      refine r_get (C := RX7) (T := TX7) (N := 5) (ci := 5) (v := .ref c0) S in_X7_mixInto_X7 G 0 rfl rfl 3 (by decide) lk_X7_mixInto_23 rfl dX7_mixInto_26 ?_
      refine lv_iload zx zb dX7_mixInto_29 (lv_at hl 0 rfl) ?_
      refine lv_iconst (v := 0) zx zb dX7_mixInto_31 (by decide) ?_
      refine r_iadd (v := (nI ((k5 * 5) + 0))) S (nI_add (k5 * 5) 0) dX7_mixInto_32 ?_
      refine r_iald S G 1 rfl (vp_in_nI (by omega) (by decide)) rfl dX7_mixInto_33 ?_
      refine k_itE (fun y_7 => ?_)
      refine lv_i2l (v := (Int32.toInt64 y_7)) zx zb dX7_mixInto_34 rfl ?_
      refine r_ladd (v := (((Int32.toInt64 31) * x5_3) + (Int32.toInt64 y_7))) S rfl dX7_mixInto_35 ?_
      refine lv_lstore_n (lv' := [(3, .long (((Int32.toInt64 31) * x5_3) + (Int32.toInt64 y_7))), (6, .int (nI (k5 * 5))), (5, .int (nI k5)), (0, .ref h0), (1, .long x)]) zx zb dX7_mixInto_36 rfl hl (by decide) rfl (fun ls hl => ?_)
      refine lv_aload_n zx zb dX7_mixInto_37 rfl (lv_at hl 3 rfl) ?_
      refine r_get (C := RX7) (T := TX7) (N := 5) (ci := 5) (v := .int 0) S in_X7_mixInto_X7 G 0 rfl rfl 1 (by decide) lk_X7_mixInto_16 rfl dX7_mixInto_38 ?_
      refine lv_if_eq (tgt := 63) zx zb dX7_mixInto_41 (by decide) (fun c_8 => ?_) (fun c_8 => absurd (by decide) c_8)
      refine lv_lload_n zx zb dX7_mixInto_63 rfl (lv_at hl 0 rfl) ?_
      refine lv_lstore_n (lv' := [(3, .long (((Int32.toInt64 31) * x5_3) + (Int32.toInt64 y_7))), (6, .int (nI (k5 * 5))), (5, .int (nI k5)), (0, .ref h0), (1, .long x)]) zx zb dX7_mixInto_64 rfl hl (by decide) rfl (fun ls hl => ?_)
      refine lv_ldc2 zx zb S.2.2.2.1 (S.2.2.2.2 _ mm_X7_mixInto_c50) dX7_mixInto_65 ?_
      refine k_ld (v := (Int32.toInt64 31)) (by decide) ?_
      refine lv_lload_n zx zb dX7_mixInto_68 rfl (lv_at hl 0 rfl) ?_
      refine r_lmul (v := ((Int32.toInt64 31) * (((Int32.toInt64 31) * x5_3) + (Int32.toInt64 y_7)))) S rfl dX7_mixInto_69 ?_
      refine lv_aload_n zx zb dX7_mixInto_70 rfl (lv_at hl 3 rfl) ?_
      refine r_get (C := RX7) (T := TX7) (N := 5) (ci := 5) (v := .ref c0) S in_X7_mixInto_X7 G 0 rfl rfl 3 (by decide) lk_X7_mixInto_23 rfl dX7_mixInto_71 ?_
      refine lv_iload zx zb dX7_mixInto_74 (lv_at hl 1 rfl) ?_
      refine lv_iconst (v := 2) zx zb dX7_mixInto_76 (by decide) ?_
      refine r_iadd (v := (nI ((k5 * 5) + 2))) S (nI_add (k5 * 5) 2) dX7_mixInto_77 ?_
      refine r_iald S G 1 rfl (vp_in_nI (by omega) (by decide)) rfl dX7_mixInto_78 ?_
      refine k_itE (fun y_9 => ?_)
      refine lv_i2l (v := (Int32.toInt64 y_9)) zx zb dX7_mixInto_79 rfl ?_
      refine r_ladd (v := (((Int32.toInt64 31) * (((Int32.toInt64 31) * x5_3) + (Int32.toInt64 y_7))) + (Int32.toInt64 y_9))) S rfl dX7_mixInto_80 ?_
      refine lv_lstore_n (lv' := [(3, .long (((Int32.toInt64 31) * (((Int32.toInt64 31) * x5_3) + (Int32.toInt64 y_7))) + (Int32.toInt64 y_9))), (6, .int (nI (k5 * 5))), (5, .int (nI k5)), (0, .ref h0), (1, .long x)]) zx zb dX7_mixInto_81 rfl hl (by decide) rfl (fun ls hl => ?_)
      refine lv_aload_n zx zb dX7_mixInto_82 rfl (lv_at hl 3 rfl) ?_
      refine r_get (C := RX7) (T := TX7) (N := 5) (ci := 5) (v := .int 0) S in_X7_mixInto_X7 G 0 rfl rfl 2 (by decide) lk_X7_mixInto_20 rfl dX7_mixInto_83 ?_
      refine lv_if_eq (tgt := 108) zx zb dX7_mixInto_86 (by decide) (fun c_10 => ?_) (fun c_10 => absurd (by decide) c_10)
      refine lv_lload_n zx zb dX7_mixInto_108 rfl (lv_at hl 0 rfl) ?_
      refine lv_lstore_n (lv' := [(3, .long (((Int32.toInt64 31) * (((Int32.toInt64 31) * x5_3) + (Int32.toInt64 y_7))) + (Int32.toInt64 y_9))), (6, .int (nI (k5 * 5))), (5, .int (nI k5)), (0, .ref h0), (1, .long x)]) zx zb dX7_mixInto_109 rfl hl (by decide) rfl (fun ls hl => ?_)
      refine lv_ldc2 zx zb S.2.2.2.1 (S.2.2.2.2 _ mm_X7_mixInto_c50) dX7_mixInto_110 ?_
      refine k_ld (v := (Int32.toInt64 31)) (by decide) ?_
      refine lv_lload_n zx zb dX7_mixInto_113 rfl (lv_at hl 0 rfl) ?_
      refine r_lmul (v := ((Int32.toInt64 31) * (((Int32.toInt64 31) * (((Int32.toInt64 31) * x5_3) + (Int32.toInt64 y_7))) + (Int32.toInt64 y_9)))) S rfl dX7_mixInto_114 ?_
      refine lv_aload_n zx zb dX7_mixInto_115 rfl (lv_at hl 3 rfl) ?_
      refine r_get (C := RX7) (T := TX7) (N := 5) (ci := 5) (v := .ref c0) S in_X7_mixInto_X7 G 0 rfl rfl 3 (by decide) lk_X7_mixInto_23 rfl dX7_mixInto_116 ?_
      refine lv_iload zx zb dX7_mixInto_119 (lv_at hl 1 rfl) ?_
      refine lv_iconst (v := 4) zx zb dX7_mixInto_121 (by decide) ?_
      refine r_iadd (v := (nI ((k5 * 5) + 4))) S (nI_add (k5 * 5) 4) dX7_mixInto_122 ?_
      refine r_iald S G 1 rfl (vp_in_nI (by omega) (by decide)) rfl dX7_mixInto_123 ?_
      refine k_itE (fun y_11 => ?_)
      refine lv_i2l (v := (Int32.toInt64 y_11)) zx zb dX7_mixInto_124 rfl ?_
      refine r_ladd (v := (((Int32.toInt64 31) * (((Int32.toInt64 31) * (((Int32.toInt64 31) * x5_3) + (Int32.toInt64 y_7))) + (Int32.toInt64 y_9))) + (Int32.toInt64 y_11))) S rfl dX7_mixInto_125 ?_
      refine lv_lstore_n (lv' := [(3, .long (((Int32.toInt64 31) * (((Int32.toInt64 31) * (((Int32.toInt64 31) * x5_3) + (Int32.toInt64 y_7))) + (Int32.toInt64 y_9))) + (Int32.toInt64 y_11))), (6, .int (nI (k5 * 5))), (5, .int (nI k5)), (0, .ref h0), (1, .long x)]) zx zb dX7_mixInto_126 rfl hl (by decide) rfl (fun ls hl => ?_)
      refine lv_iinc (v := (nI (k5 + 1))) (lv' := [(5, .int (nI (k5 + 1))), (3, .long (((Int32.toInt64 31) * (((Int32.toInt64 31) * (((Int32.toInt64 31) * x5_3) + (Int32.toInt64 y_7))) + (Int32.toInt64 y_9))) + (Int32.toInt64 y_11))), (6, .int (nI (k5 * 5))), (0, .ref h0), (1, .long x)]) zx zb dX7_mixInto_127 hl (k := 2) rfl (nI_add k5 1) (by decide) rfl (fun ls hl => ?_)
      refine lv_goto (tgt := 5) zx zb dX7_mixInto_130 (by decide) ?_
      have hl := lv_sub hl (l' := [(5, .int (nI (k5 + 1))), (3, .long (((Int32.toInt64 31) * (((Int32.toInt64 31) * (((Int32.toInt64 31) * x5_3) + (Int32.toInt64 y_7))) + (Int32.toInt64 y_9))) + (Int32.toInt64 y_11))), (0, .ref h0), (1, .long x)]) [0, 1, 3, 4] rfl
      exact ih5 (k5 + 1) (((Int32.toInt64 31) * (((Int32.toInt64 31) * (((Int32.toInt64 31) * x5_3) + (Int32.toInt64 y_7))) + (Int32.toInt64 y_9))) + (Int32.toInt64 y_11)) _ _ _ (by omega) (by omega) G hl
theorem in_X4_push_X4 : ∀ w ∈ wsX40, w ∈ wsX4_push := by decide +kernel
theorem lk_X4_push_15 : Cond.fieldLink RX4 15 "EggSpoons$Past" "size" "I" ∈ wsX4_push := by decide +kernel
theorem lk_X4_push_11 : Cond.fieldLink RX4 11 "EggSpoons$Past" "cells" "[I" ∈ wsX4_push := by decide +kernel
theorem mm_X4_push_ml19 : Cond.methodLink RX4 19 arraycopyName ∈ wsX4_push := by decide +kernel
theorem mm_X4_push_cn : Cond.native arraycopyName ∈ wsX4_push := by decide +kernel
theorem mm_X4_push_cs : Cond.static arraycopyName ∈ wsX4_push := by decide +kernel
theorem mm_X4_push_ci : Cond.initialized "java/lang/System" ∈ wsX4_push := by decide +kernel
theorem in_X4_push_X8 : ∀ w ∈ wsX80, w ∈ wsX4_push := by decide +kernel
theorem lk_X4_push_25 : Cond.fieldLink RX4 25 "EggSpoons$Runner" "speed" "I" ∈ wsX4_push := by decide +kernel
theorem lk_X4_push_30 : Cond.fieldLink RX4 30 "EggSpoons$Runner" "place" "I" ∈ wsX4_push := by decide +kernel
theorem lk_X4_push_33 : Cond.fieldLink RX4 33 "EggSpoons$Runner" "drops" "I" ∈ wsX4_push := by decide +kernel
theorem lk_X4_push_36 : Cond.fieldLink RX4 36 "EggSpoons$Runner" "waits" "I" ∈ wsX4_push := by decide +kernel
theorem lk_X4_push_39 : Cond.fieldLink RX4 39 "EggSpoons$Runner" "homeAt" "I" ∈ wsX4_push := by decide +kernel
set_option maxHeartbeats 4000000 in
set_option maxRecDepth 100000 in
/-- push -/
theorem s_push (l : Launch) (X : EX) (hn : Nat) (an : Nat → Nat) (v : Nat → Int32) (b : Nat → Nat) (g : Nat → Nat → Int32) (x1 : Int32) (hI_b : InR b) (sz : Nat) : Met l yX4_push wsX4_push ({ frames := 1, cells := 0, slots := 0, locals := 60 } : Room) (pE X [.ref (an 7), .int x1, .ref (an 0)] (rcW X hn an v b g) sz) (qV (fun (u : (Nat → Int32) × (Nat → Nat) × (Nat → Nat → Int32)) => InR u.2.1 ∧ (True)) X (fun (u : (Nat → Int32) × (Nat → Nat) × (Nat → Nat → Int32)) => rcW X hn an u.1 u.2.1 u.2.2) (rcW X hn an v b g) sz) 0 0 (va_A (rcW X hn an v b g) sz) := by
  refine mk_met (B := (va_A (rcW X hn an v b g) sz)) (A := (va_A (rcW X hn an v b g) sz)) (cc := cX4_push) (maxL := 6) (ret := none) (by decide) rfl (Nat.le_of_ble_eq_true rfl) k_w k_a (fun p e s m below meth c S zr zlk znm zsz G ls hl => ?_)
  have S : CallFix p m c cX4_push 6 s _ wsX4_push RX4 := S
  have zx := S.1
  have zb := S.2.1
  have hl : lv_has ls 6 [(0, .ref (an 7)), (1, .int x1), (2, .ref (an 0))] := hl
  have hO_b := hI_b
  obtain ⟨hb0_b, hb1_b, hb2_b, hb3_b, hb4_b⟩ := hO_b
  refine lv_aload_n zx zb dX4_push_0 rfl (lv_at hl 0 rfl) ?_
  refine r_get (C := RX4) (T := TX4) (N := 2) (ci := 2) (v := .int (nI (b 1))) S in_X4_push_X4 G 8 rfl rfl 1 (by decide) lk_X4_push_15 rfl dX4_push_1 ?_
  refine lv_bipush (v := 8) zx zb dX4_push_4 (by decide) ?_
  refine k_cutW (PP := fun Wx => ∀ (b_2 : Nat → Nat) (g_3 : Nat → Nat → Int32) (H : Heap) (locs : List Loc) (ls : Array Slot), InR b_2 → wd X (va_A (rcW X hn an v b g) sz) (va_A (rcW X hn an v b g) sz) s (rcW X hn an v b_2 g_3) H locs → lv_has ls 6 [(0, .ref (an 7)), (1, .int x1), (2, .ref (an 0))] → Wx (F0 m 32 ls []) H locs) ?_ ?_
  · intro join_6
    refine lv_icmp_lt (tgt := 32) zx zb dX4_push_6 (by decide) (fun c_1 => ?_) (fun c_1 => ?_)
    · have fc_1 := j_lt (a := (b 1)) (b := 8) (by omega) (by omega) c_1
      exact join_6 b g _ _ _ hI_b G hl
    · have fc_1 := j_nlt (a := (b 1)) (b := 8) (by omega) (by omega) c_1
      refine lv_aload_n zx zb dX4_push_9 rfl (lv_at hl 0 rfl) ?_
      refine r_get (C := RX4) (T := TX4) (N := 2) (ci := 2) (v := .ref (an 8)) S in_X4_push_X4 G 8 rfl rfl 0 (by decide) lk_X4_push_11 rfl dX4_push_10 ?_
      refine lv_bipush (v := 31) zx zb dX4_push_13 (by decide) ?_
      refine lv_aload_n zx zb dX4_push_15 rfl (lv_at hl 0 rfl) ?_
      refine r_get (C := RX4) (T := TX4) (N := 2) (ci := 2) (v := .ref (an 8)) S in_X4_push_X4 G 8 rfl rfl 0 (by decide) lk_X4_push_11 rfl dX4_push_16 ?_
      refine lv_iconst (v := 0) zx zb dX4_push_19 (by decide) ?_
      refine lv_sipush (v := 217) zx zb dX4_push_20 (by decide) ?_
      refine r_copyN (sp := 31) (dp := 0) (n := 217) S hl.1 G mm_X4_push_ml19 mm_X4_push_cn mm_X4_push_cs mm_X4_push_ci 9 9 rfl rfl (by omega) (by omega) (by omega) (by omega) (by omega) (Nat.le_of_ble_eq_true rfl) (Nat.le_of_ble_eq_true rfl) dX4_push_23 (fun cw H locs G => ?_)
      obtain ⟨g_4, G⟩ : ∃ g_4 : Nat → Nat → Int32, wd X (va_A (rcW X hn an v b g) sz) (va_A (rcW X hn an v b g) sz) s (rcW X hn an v b g_4) H locs := ⟨upG g 0 _, G⟩
      refine lv_aload_n zx zb dX4_push_26 rfl (lv_at hl 0 rfl) ?_
      refine lv_bipush (v := 7) zx zb dX4_push_27 (by decide) ?_
      refine r_put (C := RX4) (T := TX4) (N := 2) (ci := 2) (v := .int 7) S in_X4_push_X4 tyX4_ok nmX4 G 8 rfl rfl 1 (by decide) lk_X4_push_15 rfl (vp_nar_int _) rfl (Nat.le_of_ble_eq_true rfl) dX4_push_29 (fun H locs G => ?_)
      obtain ⟨b_5, hI_b_5, ⟨hE_b_5_1, hE_b_5_0, hE_b_5_2, hE_b_5_3, hE_b_5_4⟩, G⟩ : ∃ b_5 : Nat → Nat, InR b_5 ∧ (b_5 1 = 7 ∧ b_5 0 = b 0 ∧ b_5 2 = b 2 ∧ b_5 3 = b 3 ∧ b_5 4 = b 4) ∧ wd X (va_A (rcW X hn an v b g) sz) (va_A (rcW X hn an v b g) sz) s (rcW X hn an v b_5 g_4) H locs := ⟨upN b 1 7, ⟨hI_b.1, (by show 7 ≤ 8; omega), hI_b.2.2.1, hI_b.2.2.2.1, hI_b.2.2.2.2⟩, ⟨rfl, rfl, rfl, rfl, rfl⟩, G⟩
      have hO_b_5 := hI_b_5
      obtain ⟨hb0_b_5, hb1_b_5, hb2_b_5, hb3_b_5, hb4_b_5⟩ := hO_b_5
      exact join_6 b_5 g_4 _ _ _ hI_b_5 G hl
  · intro b_2 g_3 H locs ls hI_b_2 G hl
    have hO_b_2 := hI_b_2
    obtain ⟨hb0_b_2, hb1_b_2, hb2_b_2, hb3_b_2, hb4_b_2⟩ := hO_b_2
    refine lv_aload_n zx zb dX4_push_32 rfl (lv_at hl 0 rfl) ?_
    refine r_get (C := RX4) (T := TX4) (N := 2) (ci := 2) (v := .int (nI (b_2 1))) S in_X4_push_X4 G 8 rfl rfl 1 (by decide) lk_X4_push_15 rfl dX4_push_33 ?_
    refine lv_bipush (v := 31) zx zb dX4_push_36 (by decide) ?_
    refine r_imul (v := (nI ((b_2 1) * 31))) S (pk_mul (b_2 1) 31) dX4_push_38 ?_
    refine lv_istore_n (lv' := [(3, .int (nI ((b_2 1) * 31))), (0, .ref (an 7)), (1, .int x1), (2, .ref (an 0))]) zx zb dX4_push_39 rfl hl (by decide) rfl (fun ls hl => ?_)
    refine lv_aload_n zx zb dX4_push_40 rfl (lv_at hl 1 rfl) ?_
    refine r_get (C := RX4) (T := TX4) (N := 2) (ci := 2) (v := .ref (an 8)) S in_X4_push_X4 G 8 rfl rfl 0 (by decide) lk_X4_push_11 rfl dX4_push_41 ?_
    refine lv_iload_n zx zb dX4_push_44 rfl (lv_at hl 0 rfl) ?_
    refine lv_iload_n zx zb dX4_push_45 rfl (lv_at hl 2 rfl) ?_
    refine r_iast S G 9 rfl (vp_in_nI (by omega) (by decide)) dX4_push_46 (fun H locs G => ?_)
    obtain ⟨g_6, G⟩ : ∃ g_6 : Nat → Nat → Int32, wd X (va_A (rcW X hn an v b g) sz) (va_A (rcW X hn an v b g) sz) s (rcW X hn an v b_2 g_6) H locs := ⟨upG g_3 0 _, G⟩
    refine lv_iconst (v := 0) zx zb dX4_push_47 (by decide) ?_
    refine lv_istore (lv' := [(4, .int 0), (3, .int (nI ((b_2 1) * 31))), (0, .ref (an 7)), (1, .int x1), (2, .ref (an 0))]) zx zb dX4_push_48 hl (by decide) rfl (fun ls hl => ?_)
    refine k_loop (P := ∀ (zm : Nat) (k50 : Nat) (g50_0 : Nat → Nat → Int32) (H : Heap) (locs : List Loc) (ls : Array Slot), 6 + 1 ≤ k50 + zm → (k50 ≤ 6) → wd X (va_A (rcW X hn an v b g) sz) (va_A (rcW X hn an v b g) sz) s (rcW X hn an v b_2 g50_0) H locs → lv_has ls 6 [(4, .int (nI k50)), (3, .int (nI ((b_2 1) * 31))), (0, .ref (an 7)), (1, .int x1), (2, .ref (an 0))] → W p l e _ s m _ below meth c H locs _ _ _ (F0 m 50 ls [])) (fun loop => loop (6 + 1) 0 g_6 _ _ _ (by omega) (by omega) G hl) ?_
    intro zm
    induction zm with
    | zero => intro k50 g50_0 H locs ls zz q_hk_k50 _ _; exact absurd zz (by omega)
    | succ zm ih50 =>
      intro k50 g50_0 H locs ls zm_50 hk_k50 G hl
      refine lv_iload zx zb dX4_push_50 (lv_at hl 0 rfl) ?_
      refine lv_bipush (v := 6) zx zb dX4_push_52 (by decide) ?_
      refine lv_icmp_ge (tgt := 151) zx zb dX4_push_54 (by decide) (fun c_7 => ?_) (fun c_7 => ?_)
      · have fc_7 := j_le (a := 6) (b := k50) (by omega) (by omega) c_7
        refine lv_aload_n zx zb dX4_push_151 rfl (lv_at hl 2 rfl) ?_
        refine lv_dup zx zb dX4_push_152 rfl ?_
        refine r_get (C := RX4) (T := TX4) (N := 2) (ci := 2) (v := .int (nI (b_2 1))) S in_X4_push_X4 G 8 rfl rfl 1 (by decide) lk_X4_push_15 rfl dX4_push_153 ?_
        refine lv_iconst (v := 1) zx zb dX4_push_156 (by decide) ?_
        refine r_iadd (v := (nI ((b_2 1) + 1))) S (nI_add (b_2 1) 1) dX4_push_157 ?_
        refine r_put (C := RX4) (T := TX4) (N := 2) (ci := 2) (v := .int (nI ((b_2 1) + 1))) S in_X4_push_X4 tyX4_ok nmX4 G 8 rfl rfl 1 (by decide) lk_X4_push_15 rfl (vp_nar_int _) rfl (Nat.le_of_ble_eq_true rfl) dX4_push_158 (fun H locs G => ?_)
        obtain ⟨b_39, hI_b_39, ⟨hE_b_39_1, hE_b_39_0, hE_b_39_2, hE_b_39_3, hE_b_39_4⟩, G⟩ : ∃ b_39 : Nat → Nat, InR b_39 ∧ (b_39 1 = ((b_2 1) + 1) ∧ b_39 0 = b_2 0 ∧ b_39 2 = b_2 2 ∧ b_39 3 = b_2 3 ∧ b_39 4 = b_2 4) ∧ wd X (va_A (rcW X hn an v b g) sz) (va_A (rcW X hn an v b g) sz) s (rcW X hn an v b_39 g50_0) H locs := ⟨upN b_2 1 ((b_2 1) + 1), ⟨hI_b_2.1, (by show ((b_2 1) + 1) ≤ 8; omega), hI_b_2.2.2.1, hI_b_2.2.2.2.1, hI_b_2.2.2.2.2⟩, ⟨rfl, rfl, rfl, rfl, rfl⟩, G⟩
        have hO_b_39 := hI_b_39
        obtain ⟨hb0_b_39, hb1_b_39, hb2_b_39, hb3_b_39, hb4_b_39⟩ := hO_b_39
        exact e_void S zr zlk G (v, b_39, g50_0) [0, 1, 2, 3, 4, 5, 6, 7, 8, 9, 10, 11, 12, 13, 14, 15] rfl rfl (Or.inr rfl) (⟨hI_b_39, trivial⟩) dX4_push_161
      · have fc_7 := j_nle (a := 6) (b := k50) (by omega) (by omega) c_7
        refine lv_iload_n zx zb dX4_push_57 rfl (lv_at hl 1 rfl) ?_
        refine lv_iconst (v := 1) zx zb dX4_push_58 (by decide) ?_
        refine r_iadd (v := (nI (((b_2 1) * 31) + 1))) S (nI_add ((b_2 1) * 31) 1) dX4_push_59 ?_
        refine lv_iload zx zb dX4_push_60 (lv_at hl 0 rfl) ?_
        refine lv_iconst (v := 5) zx zb dX4_push_62 (by decide) ?_
        refine r_imul (v := (nI (k50 * 5))) S (pk_mul k50 5) dX4_push_63 ?_
        refine r_iadd (v := (nI ((((b_2 1) * 31) + 1) + (k50 * 5)))) S (nI_add (((b_2 1) * 31) + 1) (k50 * 5)) dX4_push_64 ?_
        refine lv_istore (lv' := [(5, .int (nI ((((b_2 1) * 31) + 1) + (k50 * 5)))), (4, .int (nI k50)), (3, .int (nI ((b_2 1) * 31))), (0, .ref (an 7)), (1, .int x1), (2, .ref (an 0))]) zx zb dX4_push_65 hl (by decide) rfl (fun ls hl => ?_)
        refine lv_aload_n zx zb dX4_push_67 rfl (lv_at hl 3 rfl) ?_
        refine r_get (C := RX4) (T := TX4) (N := 2) (ci := 2) (v := .ref (an 8)) S in_X4_push_X4 G 8 rfl rfl 0 (by decide) lk_X4_push_11 rfl dX4_push_68 ?_
        refine lv_iload zx zb dX4_push_71 (lv_at hl 0 rfl) ?_
        refine lv_aload_n zx zb dX4_push_73 rfl (lv_at hl 5 rfl) ?_
        refine lv_iload zx zb dX4_push_74 (lv_at hl 1 rfl) ?_
        rcases k_6c (show k50 < 6 by omega) with rfl | rfl | rfl | rfl | rfl | rfl
        · refine k_it (v := 0) rfl ?_
          refine r_aald (C := RX8) (b := (an 1)) S G 1 3 rfl rfl (k_vp (by decide)) rfl dX4_push_76 ?_
          refine r_get (C := RX8) (T := TX8) (N := 8) (ci := 6) (v := .int (v 13)) S in_X4_push_X8 G 2 rfl rfl 3 (by decide) lk_X4_push_25 rfl dX4_push_77 ?_
          refine r_iast S G 9 rfl (vp_in_nI (by omega) (by decide)) dX4_push_80 (fun H locs G => ?_)
          obtain ⟨g_41, G⟩ : ∃ g_41 : Nat → Nat → Int32, wd X (va_A (rcW X hn an v b g) sz) (va_A (rcW X hn an v b g) sz) s (rcW X hn an v b_2 g_41) H locs := ⟨upG g50_0 0 _, G⟩
          refine lv_aload_n zx zb dX4_push_81 rfl (lv_at hl 3 rfl) ?_
          refine r_get (C := RX4) (T := TX4) (N := 2) (ci := 2) (v := .ref (an 8)) S in_X4_push_X4 G 8 rfl rfl 0 (by decide) lk_X4_push_11 rfl dX4_push_82 ?_
          refine lv_iload zx zb dX4_push_85 (lv_at hl 0 rfl) ?_
          refine lv_iconst (v := 1) zx zb dX4_push_87 (by decide) ?_
          refine r_iadd (v := (nI (((((b_2 1) * 31) + 1) + (0 * 5)) + 1))) S (nI_add ((((b_2 1) * 31) + 1) + (0 * 5)) 1) dX4_push_88 ?_
          refine lv_aload_n zx zb dX4_push_89 rfl (lv_at hl 5 rfl) ?_
          refine lv_iload zx zb dX4_push_90 (lv_at hl 1 rfl) ?_
          refine r_aald (C := RX8) (b := (an 1)) S G 1 3 rfl rfl (k_vp (by decide)) rfl dX4_push_92 ?_
          refine r_get (C := RX8) (T := TX8) (N := 8) (ci := 6) (v := .int (v 14)) S in_X4_push_X8 G 2 rfl rfl 4 (by decide) lk_X4_push_30 rfl dX4_push_93 ?_
          refine r_iast S G 9 rfl (vp_in_nI (by omega) (by decide)) dX4_push_96 (fun H locs G => ?_)
          obtain ⟨g_42, G⟩ : ∃ g_42 : Nat → Nat → Int32, wd X (va_A (rcW X hn an v b g) sz) (va_A (rcW X hn an v b g) sz) s (rcW X hn an v b_2 g_42) H locs := ⟨upG g_41 0 _, G⟩
          refine lv_aload_n zx zb dX4_push_97 rfl (lv_at hl 3 rfl) ?_
          refine r_get (C := RX4) (T := TX4) (N := 2) (ci := 2) (v := .ref (an 8)) S in_X4_push_X4 G 8 rfl rfl 0 (by decide) lk_X4_push_11 rfl dX4_push_98 ?_
          refine lv_iload zx zb dX4_push_101 (lv_at hl 0 rfl) ?_
          refine lv_iconst (v := 2) zx zb dX4_push_103 (by decide) ?_
          refine r_iadd (v := (nI (((((b_2 1) * 31) + 1) + (0 * 5)) + 2))) S (nI_add ((((b_2 1) * 31) + 1) + (0 * 5)) 2) dX4_push_104 ?_
          refine lv_aload_n zx zb dX4_push_105 rfl (lv_at hl 5 rfl) ?_
          refine lv_iload zx zb dX4_push_106 (lv_at hl 1 rfl) ?_
          refine r_aald (C := RX8) (b := (an 1)) S G 1 3 rfl rfl (k_vp (by decide)) rfl dX4_push_108 ?_
          refine r_get (C := RX8) (T := TX8) (N := 8) (ci := 6) (v := .int (v 15)) S in_X4_push_X8 G 2 rfl rfl 5 (by decide) lk_X4_push_33 rfl dX4_push_109 ?_
          refine r_iast S G 9 rfl (vp_in_nI (by omega) (by decide)) dX4_push_112 (fun H locs G => ?_)
          obtain ⟨g_43, G⟩ : ∃ g_43 : Nat → Nat → Int32, wd X (va_A (rcW X hn an v b g) sz) (va_A (rcW X hn an v b g) sz) s (rcW X hn an v b_2 g_43) H locs := ⟨upG g_42 0 _, G⟩
          refine lv_aload_n zx zb dX4_push_113 rfl (lv_at hl 3 rfl) ?_
          refine r_get (C := RX4) (T := TX4) (N := 2) (ci := 2) (v := .ref (an 8)) S in_X4_push_X4 G 8 rfl rfl 0 (by decide) lk_X4_push_11 rfl dX4_push_114 ?_
          refine lv_iload zx zb dX4_push_117 (lv_at hl 0 rfl) ?_
          refine lv_iconst (v := 3) zx zb dX4_push_119 (by decide) ?_
          refine r_iadd (v := (nI (((((b_2 1) * 31) + 1) + (0 * 5)) + 3))) S (nI_add ((((b_2 1) * 31) + 1) + (0 * 5)) 3) dX4_push_120 ?_
          refine lv_aload_n zx zb dX4_push_121 rfl (lv_at hl 5 rfl) ?_
          refine lv_iload zx zb dX4_push_122 (lv_at hl 1 rfl) ?_
          refine r_aald (C := RX8) (b := (an 1)) S G 1 3 rfl rfl (k_vp (by decide)) rfl dX4_push_124 ?_
          refine r_get (C := RX8) (T := TX8) (N := 8) (ci := 6) (v := .int (v 16)) S in_X4_push_X8 G 2 rfl rfl 6 (by decide) lk_X4_push_36 rfl dX4_push_125 ?_
          refine r_iast S G 9 rfl (vp_in_nI (by omega) (by decide)) dX4_push_128 (fun H locs G => ?_)
          obtain ⟨g_44, G⟩ : ∃ g_44 : Nat → Nat → Int32, wd X (va_A (rcW X hn an v b g) sz) (va_A (rcW X hn an v b g) sz) s (rcW X hn an v b_2 g_44) H locs := ⟨upG g_43 0 _, G⟩
          refine lv_aload_n zx zb dX4_push_129 rfl (lv_at hl 3 rfl) ?_
          refine r_get (C := RX4) (T := TX4) (N := 2) (ci := 2) (v := .ref (an 8)) S in_X4_push_X4 G 8 rfl rfl 0 (by decide) lk_X4_push_11 rfl dX4_push_130 ?_
          refine lv_iload zx zb dX4_push_133 (lv_at hl 0 rfl) ?_
          refine lv_iconst (v := 4) zx zb dX4_push_135 (by decide) ?_
          refine r_iadd (v := (nI (((((b_2 1) * 31) + 1) + (0 * 5)) + 4))) S (nI_add ((((b_2 1) * 31) + 1) + (0 * 5)) 4) dX4_push_136 ?_
          refine lv_aload_n zx zb dX4_push_137 rfl (lv_at hl 5 rfl) ?_
          refine lv_iload zx zb dX4_push_138 (lv_at hl 1 rfl) ?_
          refine r_aald (C := RX8) (b := (an 1)) S G 1 3 rfl rfl (k_vp (by decide)) rfl dX4_push_140 ?_
          refine r_get (C := RX8) (T := TX8) (N := 8) (ci := 6) (v := .int (v 17)) S in_X4_push_X8 G 2 rfl rfl 7 (by decide) lk_X4_push_39 rfl dX4_push_141 ?_
          refine r_iast S G 9 rfl (vp_in_nI (by omega) (by decide)) dX4_push_144 (fun H locs G => ?_)
          obtain ⟨g_45, G⟩ : ∃ g_45 : Nat → Nat → Int32, wd X (va_A (rcW X hn an v b g) sz) (va_A (rcW X hn an v b g) sz) s (rcW X hn an v b_2 g_45) H locs := ⟨upG g_44 0 _, G⟩
          refine lv_iinc (v := 1) (lv' := [(4, .int 1), (5, .int (nI ((((b_2 1) * 31) + 1) + (0 * 5)))), (3, .int (nI ((b_2 1) * 31))), (0, .ref (an 7)), (1, .int x1), (2, .ref (an 0))]) zx zb dX4_push_145 hl (k := 1) rfl (by decide) (by decide) rfl (fun ls hl => ?_)
          refine lv_goto (tgt := 50) zx zb dX4_push_148 (by decide) ?_
          have hl := lv_sub hl (l' := [(4, .int 1), (3, .int (nI ((b_2 1) * 31))), (0, .ref (an 7)), (1, .int x1), (2, .ref (an 0))]) [0, 2, 3, 4, 5] rfl
          exact ih50 1 g_45 _ _ _ (by omega) (by omega) G hl
        · refine k_it (v := 1) rfl ?_
          refine r_aald (C := RX8) (b := (an 2)) S G 1 3 rfl rfl (k_vp (by decide)) rfl dX4_push_76 ?_
          refine r_get (C := RX8) (T := TX8) (N := 8) (ci := 6) (v := .int (v 21)) S in_X4_push_X8 G 3 rfl rfl 3 (by decide) lk_X4_push_25 rfl dX4_push_77 ?_
          refine r_iast S G 9 rfl (vp_in_nI (by omega) (by decide)) dX4_push_80 (fun H locs G => ?_)
          obtain ⟨g_46, G⟩ : ∃ g_46 : Nat → Nat → Int32, wd X (va_A (rcW X hn an v b g) sz) (va_A (rcW X hn an v b g) sz) s (rcW X hn an v b_2 g_46) H locs := ⟨upG g50_0 0 _, G⟩
          refine lv_aload_n zx zb dX4_push_81 rfl (lv_at hl 3 rfl) ?_
          refine r_get (C := RX4) (T := TX4) (N := 2) (ci := 2) (v := .ref (an 8)) S in_X4_push_X4 G 8 rfl rfl 0 (by decide) lk_X4_push_11 rfl dX4_push_82 ?_
          refine lv_iload zx zb dX4_push_85 (lv_at hl 0 rfl) ?_
          refine lv_iconst (v := 1) zx zb dX4_push_87 (by decide) ?_
          refine r_iadd (v := (nI (((((b_2 1) * 31) + 1) + (1 * 5)) + 1))) S (nI_add ((((b_2 1) * 31) + 1) + (1 * 5)) 1) dX4_push_88 ?_
          refine lv_aload_n zx zb dX4_push_89 rfl (lv_at hl 5 rfl) ?_
          refine lv_iload zx zb dX4_push_90 (lv_at hl 1 rfl) ?_
          refine r_aald (C := RX8) (b := (an 2)) S G 1 3 rfl rfl (k_vp (by decide)) rfl dX4_push_92 ?_
          refine r_get (C := RX8) (T := TX8) (N := 8) (ci := 6) (v := .int (v 22)) S in_X4_push_X8 G 3 rfl rfl 4 (by decide) lk_X4_push_30 rfl dX4_push_93 ?_
          refine r_iast S G 9 rfl (vp_in_nI (by omega) (by decide)) dX4_push_96 (fun H locs G => ?_)
          obtain ⟨g_47, G⟩ : ∃ g_47 : Nat → Nat → Int32, wd X (va_A (rcW X hn an v b g) sz) (va_A (rcW X hn an v b g) sz) s (rcW X hn an v b_2 g_47) H locs := ⟨upG g_46 0 _, G⟩
          refine lv_aload_n zx zb dX4_push_97 rfl (lv_at hl 3 rfl) ?_
          refine r_get (C := RX4) (T := TX4) (N := 2) (ci := 2) (v := .ref (an 8)) S in_X4_push_X4 G 8 rfl rfl 0 (by decide) lk_X4_push_11 rfl dX4_push_98 ?_
          refine lv_iload zx zb dX4_push_101 (lv_at hl 0 rfl) ?_
          refine lv_iconst (v := 2) zx zb dX4_push_103 (by decide) ?_
          refine r_iadd (v := (nI (((((b_2 1) * 31) + 1) + (1 * 5)) + 2))) S (nI_add ((((b_2 1) * 31) + 1) + (1 * 5)) 2) dX4_push_104 ?_
          refine lv_aload_n zx zb dX4_push_105 rfl (lv_at hl 5 rfl) ?_
          refine lv_iload zx zb dX4_push_106 (lv_at hl 1 rfl) ?_
          refine r_aald (C := RX8) (b := (an 2)) S G 1 3 rfl rfl (k_vp (by decide)) rfl dX4_push_108 ?_
          refine r_get (C := RX8) (T := TX8) (N := 8) (ci := 6) (v := .int (v 23)) S in_X4_push_X8 G 3 rfl rfl 5 (by decide) lk_X4_push_33 rfl dX4_push_109 ?_
          refine r_iast S G 9 rfl (vp_in_nI (by omega) (by decide)) dX4_push_112 (fun H locs G => ?_)
          obtain ⟨g_48, G⟩ : ∃ g_48 : Nat → Nat → Int32, wd X (va_A (rcW X hn an v b g) sz) (va_A (rcW X hn an v b g) sz) s (rcW X hn an v b_2 g_48) H locs := ⟨upG g_47 0 _, G⟩
          refine lv_aload_n zx zb dX4_push_113 rfl (lv_at hl 3 rfl) ?_
          refine r_get (C := RX4) (T := TX4) (N := 2) (ci := 2) (v := .ref (an 8)) S in_X4_push_X4 G 8 rfl rfl 0 (by decide) lk_X4_push_11 rfl dX4_push_114 ?_
          refine lv_iload zx zb dX4_push_117 (lv_at hl 0 rfl) ?_
          refine lv_iconst (v := 3) zx zb dX4_push_119 (by decide) ?_
          refine r_iadd (v := (nI (((((b_2 1) * 31) + 1) + (1 * 5)) + 3))) S (nI_add ((((b_2 1) * 31) + 1) + (1 * 5)) 3) dX4_push_120 ?_
          refine lv_aload_n zx zb dX4_push_121 rfl (lv_at hl 5 rfl) ?_
          refine lv_iload zx zb dX4_push_122 (lv_at hl 1 rfl) ?_
          refine r_aald (C := RX8) (b := (an 2)) S G 1 3 rfl rfl (k_vp (by decide)) rfl dX4_push_124 ?_
          refine r_get (C := RX8) (T := TX8) (N := 8) (ci := 6) (v := .int (v 24)) S in_X4_push_X8 G 3 rfl rfl 6 (by decide) lk_X4_push_36 rfl dX4_push_125 ?_
          refine r_iast S G 9 rfl (vp_in_nI (by omega) (by decide)) dX4_push_128 (fun H locs G => ?_)
          obtain ⟨g_49, G⟩ : ∃ g_49 : Nat → Nat → Int32, wd X (va_A (rcW X hn an v b g) sz) (va_A (rcW X hn an v b g) sz) s (rcW X hn an v b_2 g_49) H locs := ⟨upG g_48 0 _, G⟩
          refine lv_aload_n zx zb dX4_push_129 rfl (lv_at hl 3 rfl) ?_
          refine r_get (C := RX4) (T := TX4) (N := 2) (ci := 2) (v := .ref (an 8)) S in_X4_push_X4 G 8 rfl rfl 0 (by decide) lk_X4_push_11 rfl dX4_push_130 ?_
          refine lv_iload zx zb dX4_push_133 (lv_at hl 0 rfl) ?_
          refine lv_iconst (v := 4) zx zb dX4_push_135 (by decide) ?_
          refine r_iadd (v := (nI (((((b_2 1) * 31) + 1) + (1 * 5)) + 4))) S (nI_add ((((b_2 1) * 31) + 1) + (1 * 5)) 4) dX4_push_136 ?_
          refine lv_aload_n zx zb dX4_push_137 rfl (lv_at hl 5 rfl) ?_
          refine lv_iload zx zb dX4_push_138 (lv_at hl 1 rfl) ?_
          refine r_aald (C := RX8) (b := (an 2)) S G 1 3 rfl rfl (k_vp (by decide)) rfl dX4_push_140 ?_
          refine r_get (C := RX8) (T := TX8) (N := 8) (ci := 6) (v := .int (v 25)) S in_X4_push_X8 G 3 rfl rfl 7 (by decide) lk_X4_push_39 rfl dX4_push_141 ?_
          refine r_iast S G 9 rfl (vp_in_nI (by omega) (by decide)) dX4_push_144 (fun H locs G => ?_)
          obtain ⟨g_50, G⟩ : ∃ g_50 : Nat → Nat → Int32, wd X (va_A (rcW X hn an v b g) sz) (va_A (rcW X hn an v b g) sz) s (rcW X hn an v b_2 g_50) H locs := ⟨upG g_49 0 _, G⟩
          refine lv_iinc (v := 2) (lv' := [(4, .int 2), (5, .int (nI ((((b_2 1) * 31) + 1) + (1 * 5)))), (3, .int (nI ((b_2 1) * 31))), (0, .ref (an 7)), (1, .int x1), (2, .ref (an 0))]) zx zb dX4_push_145 hl (k := 1) rfl (by decide) (by decide) rfl (fun ls hl => ?_)
          refine lv_goto (tgt := 50) zx zb dX4_push_148 (by decide) ?_
          have hl := lv_sub hl (l' := [(4, .int 2), (3, .int (nI ((b_2 1) * 31))), (0, .ref (an 7)), (1, .int x1), (2, .ref (an 0))]) [0, 2, 3, 4, 5] rfl
          exact ih50 2 g_50 _ _ _ (by omega) (by omega) G hl
        · refine k_it (v := 2) rfl ?_
          refine r_aald (C := RX8) (b := (an 3)) S G 1 3 rfl rfl (k_vp (by decide)) rfl dX4_push_76 ?_
          refine r_get (C := RX8) (T := TX8) (N := 8) (ci := 6) (v := .int (v 29)) S in_X4_push_X8 G 4 rfl rfl 3 (by decide) lk_X4_push_25 rfl dX4_push_77 ?_
          refine r_iast S G 9 rfl (vp_in_nI (by omega) (by decide)) dX4_push_80 (fun H locs G => ?_)
          obtain ⟨g_51, G⟩ : ∃ g_51 : Nat → Nat → Int32, wd X (va_A (rcW X hn an v b g) sz) (va_A (rcW X hn an v b g) sz) s (rcW X hn an v b_2 g_51) H locs := ⟨upG g50_0 0 _, G⟩
          refine lv_aload_n zx zb dX4_push_81 rfl (lv_at hl 3 rfl) ?_
          refine r_get (C := RX4) (T := TX4) (N := 2) (ci := 2) (v := .ref (an 8)) S in_X4_push_X4 G 8 rfl rfl 0 (by decide) lk_X4_push_11 rfl dX4_push_82 ?_
          refine lv_iload zx zb dX4_push_85 (lv_at hl 0 rfl) ?_
          refine lv_iconst (v := 1) zx zb dX4_push_87 (by decide) ?_
          refine r_iadd (v := (nI (((((b_2 1) * 31) + 1) + (2 * 5)) + 1))) S (nI_add ((((b_2 1) * 31) + 1) + (2 * 5)) 1) dX4_push_88 ?_
          refine lv_aload_n zx zb dX4_push_89 rfl (lv_at hl 5 rfl) ?_
          refine lv_iload zx zb dX4_push_90 (lv_at hl 1 rfl) ?_
          refine r_aald (C := RX8) (b := (an 3)) S G 1 3 rfl rfl (k_vp (by decide)) rfl dX4_push_92 ?_
          refine r_get (C := RX8) (T := TX8) (N := 8) (ci := 6) (v := .int (v 30)) S in_X4_push_X8 G 4 rfl rfl 4 (by decide) lk_X4_push_30 rfl dX4_push_93 ?_
          refine r_iast S G 9 rfl (vp_in_nI (by omega) (by decide)) dX4_push_96 (fun H locs G => ?_)
          obtain ⟨g_52, G⟩ : ∃ g_52 : Nat → Nat → Int32, wd X (va_A (rcW X hn an v b g) sz) (va_A (rcW X hn an v b g) sz) s (rcW X hn an v b_2 g_52) H locs := ⟨upG g_51 0 _, G⟩
          refine lv_aload_n zx zb dX4_push_97 rfl (lv_at hl 3 rfl) ?_
          refine r_get (C := RX4) (T := TX4) (N := 2) (ci := 2) (v := .ref (an 8)) S in_X4_push_X4 G 8 rfl rfl 0 (by decide) lk_X4_push_11 rfl dX4_push_98 ?_
          refine lv_iload zx zb dX4_push_101 (lv_at hl 0 rfl) ?_
          refine lv_iconst (v := 2) zx zb dX4_push_103 (by decide) ?_
          refine r_iadd (v := (nI (((((b_2 1) * 31) + 1) + (2 * 5)) + 2))) S (nI_add ((((b_2 1) * 31) + 1) + (2 * 5)) 2) dX4_push_104 ?_
          refine lv_aload_n zx zb dX4_push_105 rfl (lv_at hl 5 rfl) ?_
          refine lv_iload zx zb dX4_push_106 (lv_at hl 1 rfl) ?_
          refine r_aald (C := RX8) (b := (an 3)) S G 1 3 rfl rfl (k_vp (by decide)) rfl dX4_push_108 ?_
          refine r_get (C := RX8) (T := TX8) (N := 8) (ci := 6) (v := .int (v 31)) S in_X4_push_X8 G 4 rfl rfl 5 (by decide) lk_X4_push_33 rfl dX4_push_109 ?_
          refine r_iast S G 9 rfl (vp_in_nI (by omega) (by decide)) dX4_push_112 (fun H locs G => ?_)
          obtain ⟨g_53, G⟩ : ∃ g_53 : Nat → Nat → Int32, wd X (va_A (rcW X hn an v b g) sz) (va_A (rcW X hn an v b g) sz) s (rcW X hn an v b_2 g_53) H locs := ⟨upG g_52 0 _, G⟩
          refine lv_aload_n zx zb dX4_push_113 rfl (lv_at hl 3 rfl) ?_
          refine r_get (C := RX4) (T := TX4) (N := 2) (ci := 2) (v := .ref (an 8)) S in_X4_push_X4 G 8 rfl rfl 0 (by decide) lk_X4_push_11 rfl dX4_push_114 ?_
          refine lv_iload zx zb dX4_push_117 (lv_at hl 0 rfl) ?_
          refine lv_iconst (v := 3) zx zb dX4_push_119 (by decide) ?_
          refine r_iadd (v := (nI (((((b_2 1) * 31) + 1) + (2 * 5)) + 3))) S (nI_add ((((b_2 1) * 31) + 1) + (2 * 5)) 3) dX4_push_120 ?_
          refine lv_aload_n zx zb dX4_push_121 rfl (lv_at hl 5 rfl) ?_
          refine lv_iload zx zb dX4_push_122 (lv_at hl 1 rfl) ?_
          refine r_aald (C := RX8) (b := (an 3)) S G 1 3 rfl rfl (k_vp (by decide)) rfl dX4_push_124 ?_
          refine r_get (C := RX8) (T := TX8) (N := 8) (ci := 6) (v := .int (v 32)) S in_X4_push_X8 G 4 rfl rfl 6 (by decide) lk_X4_push_36 rfl dX4_push_125 ?_
          refine r_iast S G 9 rfl (vp_in_nI (by omega) (by decide)) dX4_push_128 (fun H locs G => ?_)
          obtain ⟨g_54, G⟩ : ∃ g_54 : Nat → Nat → Int32, wd X (va_A (rcW X hn an v b g) sz) (va_A (rcW X hn an v b g) sz) s (rcW X hn an v b_2 g_54) H locs := ⟨upG g_53 0 _, G⟩
          refine lv_aload_n zx zb dX4_push_129 rfl (lv_at hl 3 rfl) ?_
          refine r_get (C := RX4) (T := TX4) (N := 2) (ci := 2) (v := .ref (an 8)) S in_X4_push_X4 G 8 rfl rfl 0 (by decide) lk_X4_push_11 rfl dX4_push_130 ?_
          refine lv_iload zx zb dX4_push_133 (lv_at hl 0 rfl) ?_
          refine lv_iconst (v := 4) zx zb dX4_push_135 (by decide) ?_
          refine r_iadd (v := (nI (((((b_2 1) * 31) + 1) + (2 * 5)) + 4))) S (nI_add ((((b_2 1) * 31) + 1) + (2 * 5)) 4) dX4_push_136 ?_
          refine lv_aload_n zx zb dX4_push_137 rfl (lv_at hl 5 rfl) ?_
          refine lv_iload zx zb dX4_push_138 (lv_at hl 1 rfl) ?_
          refine r_aald (C := RX8) (b := (an 3)) S G 1 3 rfl rfl (k_vp (by decide)) rfl dX4_push_140 ?_
          refine r_get (C := RX8) (T := TX8) (N := 8) (ci := 6) (v := .int (v 33)) S in_X4_push_X8 G 4 rfl rfl 7 (by decide) lk_X4_push_39 rfl dX4_push_141 ?_
          refine r_iast S G 9 rfl (vp_in_nI (by omega) (by decide)) dX4_push_144 (fun H locs G => ?_)
          obtain ⟨g_55, G⟩ : ∃ g_55 : Nat → Nat → Int32, wd X (va_A (rcW X hn an v b g) sz) (va_A (rcW X hn an v b g) sz) s (rcW X hn an v b_2 g_55) H locs := ⟨upG g_54 0 _, G⟩
          refine lv_iinc (v := 3) (lv' := [(4, .int 3), (5, .int (nI ((((b_2 1) * 31) + 1) + (2 * 5)))), (3, .int (nI ((b_2 1) * 31))), (0, .ref (an 7)), (1, .int x1), (2, .ref (an 0))]) zx zb dX4_push_145 hl (k := 1) rfl (by decide) (by decide) rfl (fun ls hl => ?_)
          refine lv_goto (tgt := 50) zx zb dX4_push_148 (by decide) ?_
          have hl := lv_sub hl (l' := [(4, .int 3), (3, .int (nI ((b_2 1) * 31))), (0, .ref (an 7)), (1, .int x1), (2, .ref (an 0))]) [0, 2, 3, 4, 5] rfl
          exact ih50 3 g_55 _ _ _ (by omega) (by omega) G hl
        · refine k_it (v := 3) rfl ?_
          refine r_aald (C := RX8) (b := (an 4)) S G 1 3 rfl rfl (k_vp (by decide)) rfl dX4_push_76 ?_
          refine r_get (C := RX8) (T := TX8) (N := 8) (ci := 6) (v := .int (v 37)) S in_X4_push_X8 G 5 rfl rfl 3 (by decide) lk_X4_push_25 rfl dX4_push_77 ?_
          refine r_iast S G 9 rfl (vp_in_nI (by omega) (by decide)) dX4_push_80 (fun H locs G => ?_)
          obtain ⟨g_56, G⟩ : ∃ g_56 : Nat → Nat → Int32, wd X (va_A (rcW X hn an v b g) sz) (va_A (rcW X hn an v b g) sz) s (rcW X hn an v b_2 g_56) H locs := ⟨upG g50_0 0 _, G⟩
          refine lv_aload_n zx zb dX4_push_81 rfl (lv_at hl 3 rfl) ?_
          refine r_get (C := RX4) (T := TX4) (N := 2) (ci := 2) (v := .ref (an 8)) S in_X4_push_X4 G 8 rfl rfl 0 (by decide) lk_X4_push_11 rfl dX4_push_82 ?_
          refine lv_iload zx zb dX4_push_85 (lv_at hl 0 rfl) ?_
          refine lv_iconst (v := 1) zx zb dX4_push_87 (by decide) ?_
          refine r_iadd (v := (nI (((((b_2 1) * 31) + 1) + (3 * 5)) + 1))) S (nI_add ((((b_2 1) * 31) + 1) + (3 * 5)) 1) dX4_push_88 ?_
          refine lv_aload_n zx zb dX4_push_89 rfl (lv_at hl 5 rfl) ?_
          refine lv_iload zx zb dX4_push_90 (lv_at hl 1 rfl) ?_
          refine r_aald (C := RX8) (b := (an 4)) S G 1 3 rfl rfl (k_vp (by decide)) rfl dX4_push_92 ?_
          refine r_get (C := RX8) (T := TX8) (N := 8) (ci := 6) (v := .int (v 38)) S in_X4_push_X8 G 5 rfl rfl 4 (by decide) lk_X4_push_30 rfl dX4_push_93 ?_
          refine r_iast S G 9 rfl (vp_in_nI (by omega) (by decide)) dX4_push_96 (fun H locs G => ?_)
          obtain ⟨g_57, G⟩ : ∃ g_57 : Nat → Nat → Int32, wd X (va_A (rcW X hn an v b g) sz) (va_A (rcW X hn an v b g) sz) s (rcW X hn an v b_2 g_57) H locs := ⟨upG g_56 0 _, G⟩
          refine lv_aload_n zx zb dX4_push_97 rfl (lv_at hl 3 rfl) ?_
          refine r_get (C := RX4) (T := TX4) (N := 2) (ci := 2) (v := .ref (an 8)) S in_X4_push_X4 G 8 rfl rfl 0 (by decide) lk_X4_push_11 rfl dX4_push_98 ?_
          refine lv_iload zx zb dX4_push_101 (lv_at hl 0 rfl) ?_
          refine lv_iconst (v := 2) zx zb dX4_push_103 (by decide) ?_
          refine r_iadd (v := (nI (((((b_2 1) * 31) + 1) + (3 * 5)) + 2))) S (nI_add ((((b_2 1) * 31) + 1) + (3 * 5)) 2) dX4_push_104 ?_
          refine lv_aload_n zx zb dX4_push_105 rfl (lv_at hl 5 rfl) ?_
          refine lv_iload zx zb dX4_push_106 (lv_at hl 1 rfl) ?_
          refine r_aald (C := RX8) (b := (an 4)) S G 1 3 rfl rfl (k_vp (by decide)) rfl dX4_push_108 ?_
          refine r_get (C := RX8) (T := TX8) (N := 8) (ci := 6) (v := .int (v 39)) S in_X4_push_X8 G 5 rfl rfl 5 (by decide) lk_X4_push_33 rfl dX4_push_109 ?_
          refine r_iast S G 9 rfl (vp_in_nI (by omega) (by decide)) dX4_push_112 (fun H locs G => ?_)
          obtain ⟨g_58, G⟩ : ∃ g_58 : Nat → Nat → Int32, wd X (va_A (rcW X hn an v b g) sz) (va_A (rcW X hn an v b g) sz) s (rcW X hn an v b_2 g_58) H locs := ⟨upG g_57 0 _, G⟩
          refine lv_aload_n zx zb dX4_push_113 rfl (lv_at hl 3 rfl) ?_
          refine r_get (C := RX4) (T := TX4) (N := 2) (ci := 2) (v := .ref (an 8)) S in_X4_push_X4 G 8 rfl rfl 0 (by decide) lk_X4_push_11 rfl dX4_push_114 ?_
          refine lv_iload zx zb dX4_push_117 (lv_at hl 0 rfl) ?_
          refine lv_iconst (v := 3) zx zb dX4_push_119 (by decide) ?_
          refine r_iadd (v := (nI (((((b_2 1) * 31) + 1) + (3 * 5)) + 3))) S (nI_add ((((b_2 1) * 31) + 1) + (3 * 5)) 3) dX4_push_120 ?_
          refine lv_aload_n zx zb dX4_push_121 rfl (lv_at hl 5 rfl) ?_
          refine lv_iload zx zb dX4_push_122 (lv_at hl 1 rfl) ?_
          refine r_aald (C := RX8) (b := (an 4)) S G 1 3 rfl rfl (k_vp (by decide)) rfl dX4_push_124 ?_
          refine r_get (C := RX8) (T := TX8) (N := 8) (ci := 6) (v := .int (v 40)) S in_X4_push_X8 G 5 rfl rfl 6 (by decide) lk_X4_push_36 rfl dX4_push_125 ?_
          refine r_iast S G 9 rfl (vp_in_nI (by omega) (by decide)) dX4_push_128 (fun H locs G => ?_)
          obtain ⟨g_59, G⟩ : ∃ g_59 : Nat → Nat → Int32, wd X (va_A (rcW X hn an v b g) sz) (va_A (rcW X hn an v b g) sz) s (rcW X hn an v b_2 g_59) H locs := ⟨upG g_58 0 _, G⟩
          refine lv_aload_n zx zb dX4_push_129 rfl (lv_at hl 3 rfl) ?_
          refine r_get (C := RX4) (T := TX4) (N := 2) (ci := 2) (v := .ref (an 8)) S in_X4_push_X4 G 8 rfl rfl 0 (by decide) lk_X4_push_11 rfl dX4_push_130 ?_
          refine lv_iload zx zb dX4_push_133 (lv_at hl 0 rfl) ?_
          refine lv_iconst (v := 4) zx zb dX4_push_135 (by decide) ?_
          refine r_iadd (v := (nI (((((b_2 1) * 31) + 1) + (3 * 5)) + 4))) S (nI_add ((((b_2 1) * 31) + 1) + (3 * 5)) 4) dX4_push_136 ?_
          refine lv_aload_n zx zb dX4_push_137 rfl (lv_at hl 5 rfl) ?_
          refine lv_iload zx zb dX4_push_138 (lv_at hl 1 rfl) ?_
          refine r_aald (C := RX8) (b := (an 4)) S G 1 3 rfl rfl (k_vp (by decide)) rfl dX4_push_140 ?_
          refine r_get (C := RX8) (T := TX8) (N := 8) (ci := 6) (v := .int (v 41)) S in_X4_push_X8 G 5 rfl rfl 7 (by decide) lk_X4_push_39 rfl dX4_push_141 ?_
          refine r_iast S G 9 rfl (vp_in_nI (by omega) (by decide)) dX4_push_144 (fun H locs G => ?_)
          obtain ⟨g_60, G⟩ : ∃ g_60 : Nat → Nat → Int32, wd X (va_A (rcW X hn an v b g) sz) (va_A (rcW X hn an v b g) sz) s (rcW X hn an v b_2 g_60) H locs := ⟨upG g_59 0 _, G⟩
          refine lv_iinc (v := 4) (lv' := [(4, .int 4), (5, .int (nI ((((b_2 1) * 31) + 1) + (3 * 5)))), (3, .int (nI ((b_2 1) * 31))), (0, .ref (an 7)), (1, .int x1), (2, .ref (an 0))]) zx zb dX4_push_145 hl (k := 1) rfl (by decide) (by decide) rfl (fun ls hl => ?_)
          refine lv_goto (tgt := 50) zx zb dX4_push_148 (by decide) ?_
          have hl := lv_sub hl (l' := [(4, .int 4), (3, .int (nI ((b_2 1) * 31))), (0, .ref (an 7)), (1, .int x1), (2, .ref (an 0))]) [0, 2, 3, 4, 5] rfl
          exact ih50 4 g_60 _ _ _ (by omega) (by omega) G hl
        · refine k_it (v := 4) rfl ?_
          refine r_aald (C := RX8) (b := (an 5)) S G 1 3 rfl rfl (k_vp (by decide)) rfl dX4_push_76 ?_
          refine r_get (C := RX8) (T := TX8) (N := 8) (ci := 6) (v := .int (v 45)) S in_X4_push_X8 G 6 rfl rfl 3 (by decide) lk_X4_push_25 rfl dX4_push_77 ?_
          refine r_iast S G 9 rfl (vp_in_nI (by omega) (by decide)) dX4_push_80 (fun H locs G => ?_)
          obtain ⟨g_61, G⟩ : ∃ g_61 : Nat → Nat → Int32, wd X (va_A (rcW X hn an v b g) sz) (va_A (rcW X hn an v b g) sz) s (rcW X hn an v b_2 g_61) H locs := ⟨upG g50_0 0 _, G⟩
          refine lv_aload_n zx zb dX4_push_81 rfl (lv_at hl 3 rfl) ?_
          refine r_get (C := RX4) (T := TX4) (N := 2) (ci := 2) (v := .ref (an 8)) S in_X4_push_X4 G 8 rfl rfl 0 (by decide) lk_X4_push_11 rfl dX4_push_82 ?_
          refine lv_iload zx zb dX4_push_85 (lv_at hl 0 rfl) ?_
          refine lv_iconst (v := 1) zx zb dX4_push_87 (by decide) ?_
          refine r_iadd (v := (nI (((((b_2 1) * 31) + 1) + (4 * 5)) + 1))) S (nI_add ((((b_2 1) * 31) + 1) + (4 * 5)) 1) dX4_push_88 ?_
          refine lv_aload_n zx zb dX4_push_89 rfl (lv_at hl 5 rfl) ?_
          refine lv_iload zx zb dX4_push_90 (lv_at hl 1 rfl) ?_
          refine r_aald (C := RX8) (b := (an 5)) S G 1 3 rfl rfl (k_vp (by decide)) rfl dX4_push_92 ?_
          refine r_get (C := RX8) (T := TX8) (N := 8) (ci := 6) (v := .int (v 46)) S in_X4_push_X8 G 6 rfl rfl 4 (by decide) lk_X4_push_30 rfl dX4_push_93 ?_
          refine r_iast S G 9 rfl (vp_in_nI (by omega) (by decide)) dX4_push_96 (fun H locs G => ?_)
          obtain ⟨g_62, G⟩ : ∃ g_62 : Nat → Nat → Int32, wd X (va_A (rcW X hn an v b g) sz) (va_A (rcW X hn an v b g) sz) s (rcW X hn an v b_2 g_62) H locs := ⟨upG g_61 0 _, G⟩
          refine lv_aload_n zx zb dX4_push_97 rfl (lv_at hl 3 rfl) ?_
          refine r_get (C := RX4) (T := TX4) (N := 2) (ci := 2) (v := .ref (an 8)) S in_X4_push_X4 G 8 rfl rfl 0 (by decide) lk_X4_push_11 rfl dX4_push_98 ?_
          refine lv_iload zx zb dX4_push_101 (lv_at hl 0 rfl) ?_
          refine lv_iconst (v := 2) zx zb dX4_push_103 (by decide) ?_
          refine r_iadd (v := (nI (((((b_2 1) * 31) + 1) + (4 * 5)) + 2))) S (nI_add ((((b_2 1) * 31) + 1) + (4 * 5)) 2) dX4_push_104 ?_
          refine lv_aload_n zx zb dX4_push_105 rfl (lv_at hl 5 rfl) ?_
          refine lv_iload zx zb dX4_push_106 (lv_at hl 1 rfl) ?_
          refine r_aald (C := RX8) (b := (an 5)) S G 1 3 rfl rfl (k_vp (by decide)) rfl dX4_push_108 ?_
          refine r_get (C := RX8) (T := TX8) (N := 8) (ci := 6) (v := .int (v 47)) S in_X4_push_X8 G 6 rfl rfl 5 (by decide) lk_X4_push_33 rfl dX4_push_109 ?_
          refine r_iast S G 9 rfl (vp_in_nI (by omega) (by decide)) dX4_push_112 (fun H locs G => ?_)
          obtain ⟨g_63, G⟩ : ∃ g_63 : Nat → Nat → Int32, wd X (va_A (rcW X hn an v b g) sz) (va_A (rcW X hn an v b g) sz) s (rcW X hn an v b_2 g_63) H locs := ⟨upG g_62 0 _, G⟩
          refine lv_aload_n zx zb dX4_push_113 rfl (lv_at hl 3 rfl) ?_
          refine r_get (C := RX4) (T := TX4) (N := 2) (ci := 2) (v := .ref (an 8)) S in_X4_push_X4 G 8 rfl rfl 0 (by decide) lk_X4_push_11 rfl dX4_push_114 ?_
          refine lv_iload zx zb dX4_push_117 (lv_at hl 0 rfl) ?_
          refine lv_iconst (v := 3) zx zb dX4_push_119 (by decide) ?_
          refine r_iadd (v := (nI (((((b_2 1) * 31) + 1) + (4 * 5)) + 3))) S (nI_add ((((b_2 1) * 31) + 1) + (4 * 5)) 3) dX4_push_120 ?_
          refine lv_aload_n zx zb dX4_push_121 rfl (lv_at hl 5 rfl) ?_
          refine lv_iload zx zb dX4_push_122 (lv_at hl 1 rfl) ?_
          refine r_aald (C := RX8) (b := (an 5)) S G 1 3 rfl rfl (k_vp (by decide)) rfl dX4_push_124 ?_
          refine r_get (C := RX8) (T := TX8) (N := 8) (ci := 6) (v := .int (v 48)) S in_X4_push_X8 G 6 rfl rfl 6 (by decide) lk_X4_push_36 rfl dX4_push_125 ?_
          refine r_iast S G 9 rfl (vp_in_nI (by omega) (by decide)) dX4_push_128 (fun H locs G => ?_)
          obtain ⟨g_64, G⟩ : ∃ g_64 : Nat → Nat → Int32, wd X (va_A (rcW X hn an v b g) sz) (va_A (rcW X hn an v b g) sz) s (rcW X hn an v b_2 g_64) H locs := ⟨upG g_63 0 _, G⟩
          refine lv_aload_n zx zb dX4_push_129 rfl (lv_at hl 3 rfl) ?_
          refine r_get (C := RX4) (T := TX4) (N := 2) (ci := 2) (v := .ref (an 8)) S in_X4_push_X4 G 8 rfl rfl 0 (by decide) lk_X4_push_11 rfl dX4_push_130 ?_
          refine lv_iload zx zb dX4_push_133 (lv_at hl 0 rfl) ?_
          refine lv_iconst (v := 4) zx zb dX4_push_135 (by decide) ?_
          refine r_iadd (v := (nI (((((b_2 1) * 31) + 1) + (4 * 5)) + 4))) S (nI_add ((((b_2 1) * 31) + 1) + (4 * 5)) 4) dX4_push_136 ?_
          refine lv_aload_n zx zb dX4_push_137 rfl (lv_at hl 5 rfl) ?_
          refine lv_iload zx zb dX4_push_138 (lv_at hl 1 rfl) ?_
          refine r_aald (C := RX8) (b := (an 5)) S G 1 3 rfl rfl (k_vp (by decide)) rfl dX4_push_140 ?_
          refine r_get (C := RX8) (T := TX8) (N := 8) (ci := 6) (v := .int (v 49)) S in_X4_push_X8 G 6 rfl rfl 7 (by decide) lk_X4_push_39 rfl dX4_push_141 ?_
          refine r_iast S G 9 rfl (vp_in_nI (by omega) (by decide)) dX4_push_144 (fun H locs G => ?_)
          obtain ⟨g_65, G⟩ : ∃ g_65 : Nat → Nat → Int32, wd X (va_A (rcW X hn an v b g) sz) (va_A (rcW X hn an v b g) sz) s (rcW X hn an v b_2 g_65) H locs := ⟨upG g_64 0 _, G⟩
          refine lv_iinc (v := 5) (lv' := [(4, .int 5), (5, .int (nI ((((b_2 1) * 31) + 1) + (4 * 5)))), (3, .int (nI ((b_2 1) * 31))), (0, .ref (an 7)), (1, .int x1), (2, .ref (an 0))]) zx zb dX4_push_145 hl (k := 1) rfl (by decide) (by decide) rfl (fun ls hl => ?_)
          refine lv_goto (tgt := 50) zx zb dX4_push_148 (by decide) ?_
          have hl := lv_sub hl (l' := [(4, .int 5), (3, .int (nI ((b_2 1) * 31))), (0, .ref (an 7)), (1, .int x1), (2, .ref (an 0))]) [0, 2, 3, 4, 5] rfl
          exact ih50 5 g_65 _ _ _ (by omega) (by omega) G hl
        · refine k_it (v := 5) rfl ?_
          refine r_aald (C := RX8) (b := (an 6)) S G 1 3 rfl rfl (k_vp (by decide)) rfl dX4_push_76 ?_
          refine r_get (C := RX8) (T := TX8) (N := 8) (ci := 6) (v := .int (v 53)) S in_X4_push_X8 G 7 rfl rfl 3 (by decide) lk_X4_push_25 rfl dX4_push_77 ?_
          refine r_iast S G 9 rfl (vp_in_nI (by omega) (by decide)) dX4_push_80 (fun H locs G => ?_)
          obtain ⟨g_66, G⟩ : ∃ g_66 : Nat → Nat → Int32, wd X (va_A (rcW X hn an v b g) sz) (va_A (rcW X hn an v b g) sz) s (rcW X hn an v b_2 g_66) H locs := ⟨upG g50_0 0 _, G⟩
          refine lv_aload_n zx zb dX4_push_81 rfl (lv_at hl 3 rfl) ?_
          refine r_get (C := RX4) (T := TX4) (N := 2) (ci := 2) (v := .ref (an 8)) S in_X4_push_X4 G 8 rfl rfl 0 (by decide) lk_X4_push_11 rfl dX4_push_82 ?_
          refine lv_iload zx zb dX4_push_85 (lv_at hl 0 rfl) ?_
          refine lv_iconst (v := 1) zx zb dX4_push_87 (by decide) ?_
          refine r_iadd (v := (nI (((((b_2 1) * 31) + 1) + (5 * 5)) + 1))) S (nI_add ((((b_2 1) * 31) + 1) + (5 * 5)) 1) dX4_push_88 ?_
          refine lv_aload_n zx zb dX4_push_89 rfl (lv_at hl 5 rfl) ?_
          refine lv_iload zx zb dX4_push_90 (lv_at hl 1 rfl) ?_
          refine r_aald (C := RX8) (b := (an 6)) S G 1 3 rfl rfl (k_vp (by decide)) rfl dX4_push_92 ?_
          refine r_get (C := RX8) (T := TX8) (N := 8) (ci := 6) (v := .int (v 54)) S in_X4_push_X8 G 7 rfl rfl 4 (by decide) lk_X4_push_30 rfl dX4_push_93 ?_
          refine r_iast S G 9 rfl (vp_in_nI (by omega) (by decide)) dX4_push_96 (fun H locs G => ?_)
          obtain ⟨g_67, G⟩ : ∃ g_67 : Nat → Nat → Int32, wd X (va_A (rcW X hn an v b g) sz) (va_A (rcW X hn an v b g) sz) s (rcW X hn an v b_2 g_67) H locs := ⟨upG g_66 0 _, G⟩
          refine lv_aload_n zx zb dX4_push_97 rfl (lv_at hl 3 rfl) ?_
          refine r_get (C := RX4) (T := TX4) (N := 2) (ci := 2) (v := .ref (an 8)) S in_X4_push_X4 G 8 rfl rfl 0 (by decide) lk_X4_push_11 rfl dX4_push_98 ?_
          refine lv_iload zx zb dX4_push_101 (lv_at hl 0 rfl) ?_
          refine lv_iconst (v := 2) zx zb dX4_push_103 (by decide) ?_
          refine r_iadd (v := (nI (((((b_2 1) * 31) + 1) + (5 * 5)) + 2))) S (nI_add ((((b_2 1) * 31) + 1) + (5 * 5)) 2) dX4_push_104 ?_
          refine lv_aload_n zx zb dX4_push_105 rfl (lv_at hl 5 rfl) ?_
          refine lv_iload zx zb dX4_push_106 (lv_at hl 1 rfl) ?_
          refine r_aald (C := RX8) (b := (an 6)) S G 1 3 rfl rfl (k_vp (by decide)) rfl dX4_push_108 ?_
          refine r_get (C := RX8) (T := TX8) (N := 8) (ci := 6) (v := .int (v 55)) S in_X4_push_X8 G 7 rfl rfl 5 (by decide) lk_X4_push_33 rfl dX4_push_109 ?_
          refine r_iast S G 9 rfl (vp_in_nI (by omega) (by decide)) dX4_push_112 (fun H locs G => ?_)
          obtain ⟨g_68, G⟩ : ∃ g_68 : Nat → Nat → Int32, wd X (va_A (rcW X hn an v b g) sz) (va_A (rcW X hn an v b g) sz) s (rcW X hn an v b_2 g_68) H locs := ⟨upG g_67 0 _, G⟩
          refine lv_aload_n zx zb dX4_push_113 rfl (lv_at hl 3 rfl) ?_
          refine r_get (C := RX4) (T := TX4) (N := 2) (ci := 2) (v := .ref (an 8)) S in_X4_push_X4 G 8 rfl rfl 0 (by decide) lk_X4_push_11 rfl dX4_push_114 ?_
          refine lv_iload zx zb dX4_push_117 (lv_at hl 0 rfl) ?_
          refine lv_iconst (v := 3) zx zb dX4_push_119 (by decide) ?_
          refine r_iadd (v := (nI (((((b_2 1) * 31) + 1) + (5 * 5)) + 3))) S (nI_add ((((b_2 1) * 31) + 1) + (5 * 5)) 3) dX4_push_120 ?_
          refine lv_aload_n zx zb dX4_push_121 rfl (lv_at hl 5 rfl) ?_
          refine lv_iload zx zb dX4_push_122 (lv_at hl 1 rfl) ?_
          refine r_aald (C := RX8) (b := (an 6)) S G 1 3 rfl rfl (k_vp (by decide)) rfl dX4_push_124 ?_
          refine r_get (C := RX8) (T := TX8) (N := 8) (ci := 6) (v := .int (v 56)) S in_X4_push_X8 G 7 rfl rfl 6 (by decide) lk_X4_push_36 rfl dX4_push_125 ?_
          refine r_iast S G 9 rfl (vp_in_nI (by omega) (by decide)) dX4_push_128 (fun H locs G => ?_)
          obtain ⟨g_69, G⟩ : ∃ g_69 : Nat → Nat → Int32, wd X (va_A (rcW X hn an v b g) sz) (va_A (rcW X hn an v b g) sz) s (rcW X hn an v b_2 g_69) H locs := ⟨upG g_68 0 _, G⟩
          refine lv_aload_n zx zb dX4_push_129 rfl (lv_at hl 3 rfl) ?_
          refine r_get (C := RX4) (T := TX4) (N := 2) (ci := 2) (v := .ref (an 8)) S in_X4_push_X4 G 8 rfl rfl 0 (by decide) lk_X4_push_11 rfl dX4_push_130 ?_
          refine lv_iload zx zb dX4_push_133 (lv_at hl 0 rfl) ?_
          refine lv_iconst (v := 4) zx zb dX4_push_135 (by decide) ?_
          refine r_iadd (v := (nI (((((b_2 1) * 31) + 1) + (5 * 5)) + 4))) S (nI_add ((((b_2 1) * 31) + 1) + (5 * 5)) 4) dX4_push_136 ?_
          refine lv_aload_n zx zb dX4_push_137 rfl (lv_at hl 5 rfl) ?_
          refine lv_iload zx zb dX4_push_138 (lv_at hl 1 rfl) ?_
          refine r_aald (C := RX8) (b := (an 6)) S G 1 3 rfl rfl (k_vp (by decide)) rfl dX4_push_140 ?_
          refine r_get (C := RX8) (T := TX8) (N := 8) (ci := 6) (v := .int (v 57)) S in_X4_push_X8 G 7 rfl rfl 7 (by decide) lk_X4_push_39 rfl dX4_push_141 ?_
          refine r_iast S G 9 rfl (vp_in_nI (by omega) (by decide)) dX4_push_144 (fun H locs G => ?_)
          obtain ⟨g_70, G⟩ : ∃ g_70 : Nat → Nat → Int32, wd X (va_A (rcW X hn an v b g) sz) (va_A (rcW X hn an v b g) sz) s (rcW X hn an v b_2 g_70) H locs := ⟨upG g_69 0 _, G⟩
          refine lv_iinc (v := 6) (lv' := [(4, .int 6), (5, .int (nI ((((b_2 1) * 31) + 1) + (5 * 5)))), (3, .int (nI ((b_2 1) * 31))), (0, .ref (an 7)), (1, .int x1), (2, .ref (an 0))]) zx zb dX4_push_145 hl (k := 1) rfl (by decide) (by decide) rfl (fun ls hl => ?_)
          refine lv_goto (tgt := 50) zx zb dX4_push_148 (by decide) ?_
          have hl := lv_sub hl (l' := [(4, .int 6), (3, .int (nI ((b_2 1) * 31))), (0, .ref (an 7)), (1, .int x1), (2, .ref (an 0))]) [0, 2, 3, 4, 5] rfl
          exact ih50 6 g_70 _ _ _ (by omega) (by omega) G hl
theorem in_X4_pop_X4 : ∀ w ∈ wsX40, w ∈ wsX4_pop := by decide +kernel
theorem lk_X4_pop_15 : Cond.fieldLink RX4 15 "EggSpoons$Past" "size" "I" ∈ wsX4_pop := by decide +kernel
theorem lk_X4_pop_11 : Cond.fieldLink RX4 11 "EggSpoons$Past" "cells" "[I" ∈ wsX4_pop := by decide +kernel
theorem in_X4_pop_X8 : ∀ w ∈ wsX80, w ∈ wsX4_pop := by decide +kernel
theorem lk_X4_pop_25 : Cond.fieldLink RX4 25 "EggSpoons$Runner" "speed" "I" ∈ wsX4_pop := by decide +kernel
theorem lk_X4_pop_30 : Cond.fieldLink RX4 30 "EggSpoons$Runner" "place" "I" ∈ wsX4_pop := by decide +kernel
theorem lk_X4_pop_33 : Cond.fieldLink RX4 33 "EggSpoons$Runner" "drops" "I" ∈ wsX4_pop := by decide +kernel
theorem lk_X4_pop_36 : Cond.fieldLink RX4 36 "EggSpoons$Runner" "waits" "I" ∈ wsX4_pop := by decide +kernel
theorem lk_X4_pop_39 : Cond.fieldLink RX4 39 "EggSpoons$Runner" "homeAt" "I" ∈ wsX4_pop := by decide +kernel
set_option maxHeartbeats 4000000 in
set_option maxRecDepth 100000 in
/-- pop -/
theorem s_pop (l : Launch) (X : EX) (hn : Nat) (an : Nat → Nat) (v : Nat → Int32) (b : Nat → Nat) (g : Nat → Nat → Int32) (hI_b : InR b) (sz : Nat) : Met l yX4_pop wsX4_pop ({ frames := 0, cells := 0, slots := 0, locals := 0 } : Room) (pE X [.ref (an 7), .ref (an 0)] (rcW X hn an v b g) sz) (qI (fun (r : Int32) (u : (Nat → Int32) × (Nat → Nat) × (Nat → Nat → Int32)) => InR u.2.1 ∧ (True)) X (fun (u : (Nat → Int32) × (Nat → Nat) × (Nat → Nat → Int32)) => rcW X hn an u.1 u.2.1 u.2.2) (rcW X hn an v b g) sz) 0 0 (va_A (rcW X hn an v b g) sz) := by
  refine mk_met (B := (va_A (rcW X hn an v b g) sz)) (A := (va_A (rcW X hn an v b g) sz)) (cc := cX4_pop) (maxL := 5) (ret := (some .int)) (by decide) rfl (Nat.le_of_ble_eq_true rfl) k_w k_a (fun p e s m below meth c S zr zlk znm zsz G ls hl => ?_)
  have S : CallFix p m c cX4_pop 5 s _ wsX4_pop RX4 := S
  have zx := S.1
  have zb := S.2.1
  have hl : lv_has ls 5 [(0, .ref (an 7)), (1, .ref (an 0))] := hl
  have hO_b := hI_b
  obtain ⟨hb0_b, hb1_b, hb2_b, hb3_b, hb4_b⟩ := hO_b
  refine lv_aload_n zx zb dX4_pop_0 rfl (lv_at hl 0 rfl) ?_
  refine r_get (C := RX4) (T := TX4) (N := 2) (ci := 2) (v := .int (nI (b 1))) S in_X4_pop_X4 G 8 rfl rfl 1 (by decide) lk_X4_pop_15 rfl dX4_pop_1 ?_
  refine lv_if_gt (tgt := 9) zx zb dX4_pop_4 (by decide) (fun c_1 => ?_) (fun c_1 => ?_)
  · have fc_1 := j_lt (a := 0) (b := (b 1)) (by omega) (by omega) c_1
    refine lv_aload_n zx zb dX4_pop_9 rfl (lv_at hl 0 rfl) ?_
    refine lv_dup zx zb dX4_pop_10 rfl ?_
    refine r_get (C := RX4) (T := TX4) (N := 2) (ci := 2) (v := .int (nI (b 1))) S in_X4_pop_X4 G 8 rfl rfl 1 (by decide) lk_X4_pop_15 rfl dX4_pop_11 ?_
    refine lv_iconst (v := 1) zx zb dX4_pop_14 (by decide) ?_
    refine r_isub (v := (nI ((b 1) - 1))) S (pk_sub (by omega)) dX4_pop_15 ?_
    refine r_put (C := RX4) (T := TX4) (N := 2) (ci := 2) (v := .int (nI ((b 1) - 1))) S in_X4_pop_X4 tyX4_ok nmX4 G 8 rfl rfl 1 (by decide) lk_X4_pop_15 rfl (vp_nar_int _) rfl (Nat.le_of_ble_eq_true rfl) dX4_pop_16 (fun H locs G => ?_)
    obtain ⟨b_2, hI_b_2, ⟨hE_b_2_1, hE_b_2_0, hE_b_2_2, hE_b_2_3, hE_b_2_4⟩, G⟩ : ∃ b_2 : Nat → Nat, InR b_2 ∧ (b_2 1 = ((b 1) - 1) ∧ b_2 0 = b 0 ∧ b_2 2 = b 2 ∧ b_2 3 = b 3 ∧ b_2 4 = b 4) ∧ wd X (va_A (rcW X hn an v b g) sz) (va_A (rcW X hn an v b g) sz) s (rcW X hn an v b_2 g) H locs := ⟨upN b 1 ((b 1) - 1), ⟨hI_b.1, (by show ((b 1) - 1) ≤ 8; omega), hI_b.2.2.1, hI_b.2.2.2.1, hI_b.2.2.2.2⟩, ⟨rfl, rfl, rfl, rfl, rfl⟩, G⟩
    have hO_b_2 := hI_b_2
    obtain ⟨hb0_b_2, hb1_b_2, hb2_b_2, hb3_b_2, hb4_b_2⟩ := hO_b_2
    refine lv_aload_n zx zb dX4_pop_19 rfl (lv_at hl 0 rfl) ?_
    refine r_get (C := RX4) (T := TX4) (N := 2) (ci := 2) (v := .int (nI (b_2 1))) S in_X4_pop_X4 G 8 rfl rfl 1 (by decide) lk_X4_pop_15 rfl dX4_pop_20 ?_
    refine lv_bipush (v := 31) zx zb dX4_pop_23 (by decide) ?_
    refine r_imul (v := (nI ((b_2 1) * 31))) S (pk_mul (b_2 1) 31) dX4_pop_25 ?_
    refine lv_istore_n (lv' := [(2, .int (nI ((b_2 1) * 31))), (0, .ref (an 7)), (1, .ref (an 0))]) zx zb dX4_pop_26 rfl hl (by decide) rfl (fun ls hl => ?_)
    refine lv_iconst (v := 0) zx zb dX4_pop_27 (by decide) ?_
    refine lv_istore_n (lv' := [(3, .int 0), (2, .int (nI ((b_2 1) * 31))), (0, .ref (an 7)), (1, .ref (an 0))]) zx zb dX4_pop_28 rfl hl (by decide) rfl (fun ls hl => ?_)
    refine k_loop (P := ∀ (zm : Nat) (k29 : Nat) (v29_0 : Nat → Int32) (H : Heap) (locs : List Loc) (ls : Array Slot), 6 + 1 ≤ k29 + zm → (k29 ≤ 6) → wd X (va_A (rcW X hn an v b g) sz) (va_A (rcW X hn an v b g) sz) s (rcW X hn an v29_0 b_2 g) H locs → lv_has ls 5 [(3, .int (nI k29)), (2, .int (nI ((b_2 1) * 31))), (0, .ref (an 7)), (1, .ref (an 0))] → W p l e _ s m _ below meth c H locs _ _ _ (F0 m 29 ls [])) (fun loop => loop (6 + 1) 0 v _ _ _ (by omega) (by omega) G hl) ?_
    intro zm
    induction zm with
    | zero => intro k29 v29_0 H locs ls zz q_hk_k29 _ _; exact absurd zz (by omega)
    | succ zm ih29 =>
      intro k29 v29_0 H locs ls zm_29 hk_k29 G hl
      refine lv_iload_n zx zb dX4_pop_29 rfl (lv_at hl 0 rfl) ?_
      refine lv_bipush (v := 6) zx zb dX4_pop_30 (by decide) ?_
      refine lv_icmp_ge (tgt := 123) zx zb dX4_pop_32 (by decide) (fun c_3 => ?_) (fun c_3 => ?_)
      · have fc_3 := j_le (a := 6) (b := k29) (by omega) (by omega) c_3
        refine lv_aload_n zx zb dX4_pop_123 rfl (lv_at hl 2 rfl) ?_
        refine r_get (C := RX4) (T := TX4) (N := 2) (ci := 2) (v := .ref (an 8)) S in_X4_pop_X4 G 8 rfl rfl 0 (by decide) lk_X4_pop_11 rfl dX4_pop_124 ?_
        refine lv_iload_n zx zb dX4_pop_127 rfl (lv_at hl 1 rfl) ?_
        refine r_iald S G 9 rfl (vp_in_nI (by omega) (by decide)) rfl dX4_pop_128 ?_
        refine k_itE (fun y_65 => ?_)
        exact e_int S zr zlk (vp_nar_int _) G (v29_0, b_2, g) [0, 1, 2, 3, 4, 5, 6, 7, 8, 9, 10, 11, 12, 13, 14, 15] rfl rfl (Or.inr rfl) (⟨hI_b_2, trivial⟩) dX4_pop_129
      · have fc_3 := j_nle (a := 6) (b := k29) (by omega) (by omega) c_3
        refine lv_iload_n zx zb dX4_pop_35 rfl (lv_at hl 1 rfl) ?_
        refine lv_iconst (v := 1) zx zb dX4_pop_36 (by decide) ?_
        refine r_iadd (v := (nI (((b_2 1) * 31) + 1))) S (nI_add ((b_2 1) * 31) 1) dX4_pop_37 ?_
        refine lv_iload_n zx zb dX4_pop_38 rfl (lv_at hl 0 rfl) ?_
        refine lv_iconst (v := 5) zx zb dX4_pop_39 (by decide) ?_
        refine r_imul (v := (nI (k29 * 5))) S (pk_mul k29 5) dX4_pop_40 ?_
        refine r_iadd (v := (nI ((((b_2 1) * 31) + 1) + (k29 * 5)))) S (nI_add (((b_2 1) * 31) + 1) (k29 * 5)) dX4_pop_41 ?_
        refine lv_istore (lv' := [(4, .int (nI ((((b_2 1) * 31) + 1) + (k29 * 5)))), (3, .int (nI k29)), (2, .int (nI ((b_2 1) * 31))), (0, .ref (an 7)), (1, .ref (an 0))]) zx zb dX4_pop_42 hl (by decide) rfl (fun ls hl => ?_)
        refine lv_aload_n zx zb dX4_pop_44 rfl (lv_at hl 4 rfl) ?_
        refine lv_iload_n zx zb dX4_pop_45 rfl (lv_at hl 1 rfl) ?_
        rcases k_6c (show k29 < 6 by omega) with rfl | rfl | rfl | rfl | rfl | rfl
        · refine k_it (v := 0) rfl ?_
          refine r_aald (C := RX8) (b := (an 1)) S G 1 3 rfl rfl (k_vp (by decide)) rfl dX4_pop_46 ?_
          refine lv_aload_n zx zb dX4_pop_47 rfl (lv_at hl 3 rfl) ?_
          refine r_get (C := RX4) (T := TX4) (N := 2) (ci := 2) (v := .ref (an 8)) S in_X4_pop_X4 G 8 rfl rfl 0 (by decide) lk_X4_pop_11 rfl dX4_pop_48 ?_
          refine lv_iload zx zb dX4_pop_51 (lv_at hl 0 rfl) ?_
          refine r_iald S G 9 rfl (vp_in_nI (by omega) (by decide)) rfl dX4_pop_53 ?_
          refine k_itE (fun y_67 => ?_)
          refine r_put (C := RX8) (T := TX8) (N := 8) (ci := 6) (v := .int y_67) S in_X4_pop_X8 tyX8_ok nmX8 G 2 rfl rfl 3 (by decide) lk_X4_pop_25 rfl (vp_nar_int _) rfl (Nat.le_of_ble_eq_true rfl) dX4_pop_54 (fun H locs G => ?_)
          obtain ⟨v_68, G⟩ : ∃ v_68 : Nat → Int32, wd X (va_A (rcW X hn an v b g) sz) (va_A (rcW X hn an v b g) sz) s (rcW X hn an v_68 b_2 g) H locs := ⟨upd v29_0 13 y_67, G⟩
          refine lv_aload_n zx zb dX4_pop_57 rfl (lv_at hl 4 rfl) ?_
          refine lv_iload_n zx zb dX4_pop_58 rfl (lv_at hl 1 rfl) ?_
          refine r_aald (C := RX8) (b := (an 1)) S G 1 3 rfl rfl (k_vp (by decide)) rfl dX4_pop_59 ?_
          refine lv_aload_n zx zb dX4_pop_60 rfl (lv_at hl 3 rfl) ?_
          refine r_get (C := RX4) (T := TX4) (N := 2) (ci := 2) (v := .ref (an 8)) S in_X4_pop_X4 G 8 rfl rfl 0 (by decide) lk_X4_pop_11 rfl dX4_pop_61 ?_
          refine lv_iload zx zb dX4_pop_64 (lv_at hl 0 rfl) ?_
          refine lv_iconst (v := 1) zx zb dX4_pop_66 (by decide) ?_
          refine r_iadd (v := (nI (((((b_2 1) * 31) + 1) + (0 * 5)) + 1))) S (nI_add ((((b_2 1) * 31) + 1) + (0 * 5)) 1) dX4_pop_67 ?_
          refine r_iald S G 9 rfl (vp_in_nI (by omega) (by decide)) rfl dX4_pop_68 ?_
          refine k_itE (fun y_69 => ?_)
          refine r_put (C := RX8) (T := TX8) (N := 8) (ci := 6) (v := .int y_69) S in_X4_pop_X8 tyX8_ok nmX8 G 2 rfl rfl 4 (by decide) lk_X4_pop_30 rfl (vp_nar_int _) rfl (Nat.le_of_ble_eq_true rfl) dX4_pop_69 (fun H locs G => ?_)
          obtain ⟨v_70, G⟩ : ∃ v_70 : Nat → Int32, wd X (va_A (rcW X hn an v b g) sz) (va_A (rcW X hn an v b g) sz) s (rcW X hn an v_70 b_2 g) H locs := ⟨upd v_68 14 y_69, G⟩
          refine lv_aload_n zx zb dX4_pop_72 rfl (lv_at hl 4 rfl) ?_
          refine lv_iload_n zx zb dX4_pop_73 rfl (lv_at hl 1 rfl) ?_
          refine r_aald (C := RX8) (b := (an 1)) S G 1 3 rfl rfl (k_vp (by decide)) rfl dX4_pop_74 ?_
          refine lv_aload_n zx zb dX4_pop_75 rfl (lv_at hl 3 rfl) ?_
          refine r_get (C := RX4) (T := TX4) (N := 2) (ci := 2) (v := .ref (an 8)) S in_X4_pop_X4 G 8 rfl rfl 0 (by decide) lk_X4_pop_11 rfl dX4_pop_76 ?_
          refine lv_iload zx zb dX4_pop_79 (lv_at hl 0 rfl) ?_
          refine lv_iconst (v := 2) zx zb dX4_pop_81 (by decide) ?_
          refine r_iadd (v := (nI (((((b_2 1) * 31) + 1) + (0 * 5)) + 2))) S (nI_add ((((b_2 1) * 31) + 1) + (0 * 5)) 2) dX4_pop_82 ?_
          refine r_iald S G 9 rfl (vp_in_nI (by omega) (by decide)) rfl dX4_pop_83 ?_
          refine k_itE (fun y_71 => ?_)
          refine r_put (C := RX8) (T := TX8) (N := 8) (ci := 6) (v := .int y_71) S in_X4_pop_X8 tyX8_ok nmX8 G 2 rfl rfl 5 (by decide) lk_X4_pop_33 rfl (vp_nar_int _) rfl (Nat.le_of_ble_eq_true rfl) dX4_pop_84 (fun H locs G => ?_)
          obtain ⟨v_72, G⟩ : ∃ v_72 : Nat → Int32, wd X (va_A (rcW X hn an v b g) sz) (va_A (rcW X hn an v b g) sz) s (rcW X hn an v_72 b_2 g) H locs := ⟨upd v_70 15 y_71, G⟩
          refine lv_aload_n zx zb dX4_pop_87 rfl (lv_at hl 4 rfl) ?_
          refine lv_iload_n zx zb dX4_pop_88 rfl (lv_at hl 1 rfl) ?_
          refine r_aald (C := RX8) (b := (an 1)) S G 1 3 rfl rfl (k_vp (by decide)) rfl dX4_pop_89 ?_
          refine lv_aload_n zx zb dX4_pop_90 rfl (lv_at hl 3 rfl) ?_
          refine r_get (C := RX4) (T := TX4) (N := 2) (ci := 2) (v := .ref (an 8)) S in_X4_pop_X4 G 8 rfl rfl 0 (by decide) lk_X4_pop_11 rfl dX4_pop_91 ?_
          refine lv_iload zx zb dX4_pop_94 (lv_at hl 0 rfl) ?_
          refine lv_iconst (v := 3) zx zb dX4_pop_96 (by decide) ?_
          refine r_iadd (v := (nI (((((b_2 1) * 31) + 1) + (0 * 5)) + 3))) S (nI_add ((((b_2 1) * 31) + 1) + (0 * 5)) 3) dX4_pop_97 ?_
          refine r_iald S G 9 rfl (vp_in_nI (by omega) (by decide)) rfl dX4_pop_98 ?_
          refine k_itE (fun y_73 => ?_)
          refine r_put (C := RX8) (T := TX8) (N := 8) (ci := 6) (v := .int y_73) S in_X4_pop_X8 tyX8_ok nmX8 G 2 rfl rfl 6 (by decide) lk_X4_pop_36 rfl (vp_nar_int _) rfl (Nat.le_of_ble_eq_true rfl) dX4_pop_99 (fun H locs G => ?_)
          obtain ⟨v_74, G⟩ : ∃ v_74 : Nat → Int32, wd X (va_A (rcW X hn an v b g) sz) (va_A (rcW X hn an v b g) sz) s (rcW X hn an v_74 b_2 g) H locs := ⟨upd v_72 16 y_73, G⟩
          refine lv_aload_n zx zb dX4_pop_102 rfl (lv_at hl 4 rfl) ?_
          refine lv_iload_n zx zb dX4_pop_103 rfl (lv_at hl 1 rfl) ?_
          refine r_aald (C := RX8) (b := (an 1)) S G 1 3 rfl rfl (k_vp (by decide)) rfl dX4_pop_104 ?_
          refine lv_aload_n zx zb dX4_pop_105 rfl (lv_at hl 3 rfl) ?_
          refine r_get (C := RX4) (T := TX4) (N := 2) (ci := 2) (v := .ref (an 8)) S in_X4_pop_X4 G 8 rfl rfl 0 (by decide) lk_X4_pop_11 rfl dX4_pop_106 ?_
          refine lv_iload zx zb dX4_pop_109 (lv_at hl 0 rfl) ?_
          refine lv_iconst (v := 4) zx zb dX4_pop_111 (by decide) ?_
          refine r_iadd (v := (nI (((((b_2 1) * 31) + 1) + (0 * 5)) + 4))) S (nI_add ((((b_2 1) * 31) + 1) + (0 * 5)) 4) dX4_pop_112 ?_
          refine r_iald S G 9 rfl (vp_in_nI (by omega) (by decide)) rfl dX4_pop_113 ?_
          refine k_itE (fun y_75 => ?_)
          refine r_put (C := RX8) (T := TX8) (N := 8) (ci := 6) (v := .int y_75) S in_X4_pop_X8 tyX8_ok nmX8 G 2 rfl rfl 7 (by decide) lk_X4_pop_39 rfl (vp_nar_int _) rfl (Nat.le_of_ble_eq_true rfl) dX4_pop_114 (fun H locs G => ?_)
          obtain ⟨v_76, G⟩ : ∃ v_76 : Nat → Int32, wd X (va_A (rcW X hn an v b g) sz) (va_A (rcW X hn an v b g) sz) s (rcW X hn an v_76 b_2 g) H locs := ⟨upd v_74 17 y_75, G⟩
          refine lv_iinc (v := 1) (lv' := [(3, .int 1), (4, .int (nI ((((b_2 1) * 31) + 1) + (0 * 5)))), (2, .int (nI ((b_2 1) * 31))), (0, .ref (an 7)), (1, .ref (an 0))]) zx zb dX4_pop_117 hl (k := 1) rfl (by decide) (by decide) rfl (fun ls hl => ?_)
          refine lv_goto (tgt := 29) zx zb dX4_pop_120 (by decide) ?_
          have hl := lv_sub hl (l' := [(3, .int 1), (2, .int (nI ((b_2 1) * 31))), (0, .ref (an 7)), (1, .ref (an 0))]) [0, 2, 3, 4] rfl
          exact ih29 1 v_76 _ _ _ (by omega) (by omega) G hl
        · refine k_it (v := 1) rfl ?_
          refine r_aald (C := RX8) (b := (an 2)) S G 1 3 rfl rfl (k_vp (by decide)) rfl dX4_pop_46 ?_
          refine lv_aload_n zx zb dX4_pop_47 rfl (lv_at hl 3 rfl) ?_
          refine r_get (C := RX4) (T := TX4) (N := 2) (ci := 2) (v := .ref (an 8)) S in_X4_pop_X4 G 8 rfl rfl 0 (by decide) lk_X4_pop_11 rfl dX4_pop_48 ?_
          refine lv_iload zx zb dX4_pop_51 (lv_at hl 0 rfl) ?_
          refine r_iald S G 9 rfl (vp_in_nI (by omega) (by decide)) rfl dX4_pop_53 ?_
          refine k_itE (fun y_77 => ?_)
          refine r_put (C := RX8) (T := TX8) (N := 8) (ci := 6) (v := .int y_77) S in_X4_pop_X8 tyX8_ok nmX8 G 3 rfl rfl 3 (by decide) lk_X4_pop_25 rfl (vp_nar_int _) rfl (Nat.le_of_ble_eq_true rfl) dX4_pop_54 (fun H locs G => ?_)
          obtain ⟨v_78, G⟩ : ∃ v_78 : Nat → Int32, wd X (va_A (rcW X hn an v b g) sz) (va_A (rcW X hn an v b g) sz) s (rcW X hn an v_78 b_2 g) H locs := ⟨upd v29_0 21 y_77, G⟩
          refine lv_aload_n zx zb dX4_pop_57 rfl (lv_at hl 4 rfl) ?_
          refine lv_iload_n zx zb dX4_pop_58 rfl (lv_at hl 1 rfl) ?_
          refine r_aald (C := RX8) (b := (an 2)) S G 1 3 rfl rfl (k_vp (by decide)) rfl dX4_pop_59 ?_
          refine lv_aload_n zx zb dX4_pop_60 rfl (lv_at hl 3 rfl) ?_
          refine r_get (C := RX4) (T := TX4) (N := 2) (ci := 2) (v := .ref (an 8)) S in_X4_pop_X4 G 8 rfl rfl 0 (by decide) lk_X4_pop_11 rfl dX4_pop_61 ?_
          refine lv_iload zx zb dX4_pop_64 (lv_at hl 0 rfl) ?_
          refine lv_iconst (v := 1) zx zb dX4_pop_66 (by decide) ?_
          refine r_iadd (v := (nI (((((b_2 1) * 31) + 1) + (1 * 5)) + 1))) S (nI_add ((((b_2 1) * 31) + 1) + (1 * 5)) 1) dX4_pop_67 ?_
          refine r_iald S G 9 rfl (vp_in_nI (by omega) (by decide)) rfl dX4_pop_68 ?_
          refine k_itE (fun y_79 => ?_)
          refine r_put (C := RX8) (T := TX8) (N := 8) (ci := 6) (v := .int y_79) S in_X4_pop_X8 tyX8_ok nmX8 G 3 rfl rfl 4 (by decide) lk_X4_pop_30 rfl (vp_nar_int _) rfl (Nat.le_of_ble_eq_true rfl) dX4_pop_69 (fun H locs G => ?_)
          obtain ⟨v_80, G⟩ : ∃ v_80 : Nat → Int32, wd X (va_A (rcW X hn an v b g) sz) (va_A (rcW X hn an v b g) sz) s (rcW X hn an v_80 b_2 g) H locs := ⟨upd v_78 22 y_79, G⟩
          refine lv_aload_n zx zb dX4_pop_72 rfl (lv_at hl 4 rfl) ?_
          refine lv_iload_n zx zb dX4_pop_73 rfl (lv_at hl 1 rfl) ?_
          refine r_aald (C := RX8) (b := (an 2)) S G 1 3 rfl rfl (k_vp (by decide)) rfl dX4_pop_74 ?_
          refine lv_aload_n zx zb dX4_pop_75 rfl (lv_at hl 3 rfl) ?_
          refine r_get (C := RX4) (T := TX4) (N := 2) (ci := 2) (v := .ref (an 8)) S in_X4_pop_X4 G 8 rfl rfl 0 (by decide) lk_X4_pop_11 rfl dX4_pop_76 ?_
          refine lv_iload zx zb dX4_pop_79 (lv_at hl 0 rfl) ?_
          refine lv_iconst (v := 2) zx zb dX4_pop_81 (by decide) ?_
          refine r_iadd (v := (nI (((((b_2 1) * 31) + 1) + (1 * 5)) + 2))) S (nI_add ((((b_2 1) * 31) + 1) + (1 * 5)) 2) dX4_pop_82 ?_
          refine r_iald S G 9 rfl (vp_in_nI (by omega) (by decide)) rfl dX4_pop_83 ?_
          refine k_itE (fun y_81 => ?_)
          refine r_put (C := RX8) (T := TX8) (N := 8) (ci := 6) (v := .int y_81) S in_X4_pop_X8 tyX8_ok nmX8 G 3 rfl rfl 5 (by decide) lk_X4_pop_33 rfl (vp_nar_int _) rfl (Nat.le_of_ble_eq_true rfl) dX4_pop_84 (fun H locs G => ?_)
          obtain ⟨v_82, G⟩ : ∃ v_82 : Nat → Int32, wd X (va_A (rcW X hn an v b g) sz) (va_A (rcW X hn an v b g) sz) s (rcW X hn an v_82 b_2 g) H locs := ⟨upd v_80 23 y_81, G⟩
          refine lv_aload_n zx zb dX4_pop_87 rfl (lv_at hl 4 rfl) ?_
          refine lv_iload_n zx zb dX4_pop_88 rfl (lv_at hl 1 rfl) ?_
          refine r_aald (C := RX8) (b := (an 2)) S G 1 3 rfl rfl (k_vp (by decide)) rfl dX4_pop_89 ?_
          refine lv_aload_n zx zb dX4_pop_90 rfl (lv_at hl 3 rfl) ?_
          refine r_get (C := RX4) (T := TX4) (N := 2) (ci := 2) (v := .ref (an 8)) S in_X4_pop_X4 G 8 rfl rfl 0 (by decide) lk_X4_pop_11 rfl dX4_pop_91 ?_
          refine lv_iload zx zb dX4_pop_94 (lv_at hl 0 rfl) ?_
          refine lv_iconst (v := 3) zx zb dX4_pop_96 (by decide) ?_
          refine r_iadd (v := (nI (((((b_2 1) * 31) + 1) + (1 * 5)) + 3))) S (nI_add ((((b_2 1) * 31) + 1) + (1 * 5)) 3) dX4_pop_97 ?_
          refine r_iald S G 9 rfl (vp_in_nI (by omega) (by decide)) rfl dX4_pop_98 ?_
          refine k_itE (fun y_83 => ?_)
          refine r_put (C := RX8) (T := TX8) (N := 8) (ci := 6) (v := .int y_83) S in_X4_pop_X8 tyX8_ok nmX8 G 3 rfl rfl 6 (by decide) lk_X4_pop_36 rfl (vp_nar_int _) rfl (Nat.le_of_ble_eq_true rfl) dX4_pop_99 (fun H locs G => ?_)
          obtain ⟨v_84, G⟩ : ∃ v_84 : Nat → Int32, wd X (va_A (rcW X hn an v b g) sz) (va_A (rcW X hn an v b g) sz) s (rcW X hn an v_84 b_2 g) H locs := ⟨upd v_82 24 y_83, G⟩
          refine lv_aload_n zx zb dX4_pop_102 rfl (lv_at hl 4 rfl) ?_
          refine lv_iload_n zx zb dX4_pop_103 rfl (lv_at hl 1 rfl) ?_
          refine r_aald (C := RX8) (b := (an 2)) S G 1 3 rfl rfl (k_vp (by decide)) rfl dX4_pop_104 ?_
          refine lv_aload_n zx zb dX4_pop_105 rfl (lv_at hl 3 rfl) ?_
          refine r_get (C := RX4) (T := TX4) (N := 2) (ci := 2) (v := .ref (an 8)) S in_X4_pop_X4 G 8 rfl rfl 0 (by decide) lk_X4_pop_11 rfl dX4_pop_106 ?_
          refine lv_iload zx zb dX4_pop_109 (lv_at hl 0 rfl) ?_
          refine lv_iconst (v := 4) zx zb dX4_pop_111 (by decide) ?_
          refine r_iadd (v := (nI (((((b_2 1) * 31) + 1) + (1 * 5)) + 4))) S (nI_add ((((b_2 1) * 31) + 1) + (1 * 5)) 4) dX4_pop_112 ?_
          refine r_iald S G 9 rfl (vp_in_nI (by omega) (by decide)) rfl dX4_pop_113 ?_
          refine k_itE (fun y_85 => ?_)
          refine r_put (C := RX8) (T := TX8) (N := 8) (ci := 6) (v := .int y_85) S in_X4_pop_X8 tyX8_ok nmX8 G 3 rfl rfl 7 (by decide) lk_X4_pop_39 rfl (vp_nar_int _) rfl (Nat.le_of_ble_eq_true rfl) dX4_pop_114 (fun H locs G => ?_)
          obtain ⟨v_86, G⟩ : ∃ v_86 : Nat → Int32, wd X (va_A (rcW X hn an v b g) sz) (va_A (rcW X hn an v b g) sz) s (rcW X hn an v_86 b_2 g) H locs := ⟨upd v_84 25 y_85, G⟩
          refine lv_iinc (v := 2) (lv' := [(3, .int 2), (4, .int (nI ((((b_2 1) * 31) + 1) + (1 * 5)))), (2, .int (nI ((b_2 1) * 31))), (0, .ref (an 7)), (1, .ref (an 0))]) zx zb dX4_pop_117 hl (k := 1) rfl (by decide) (by decide) rfl (fun ls hl => ?_)
          refine lv_goto (tgt := 29) zx zb dX4_pop_120 (by decide) ?_
          have hl := lv_sub hl (l' := [(3, .int 2), (2, .int (nI ((b_2 1) * 31))), (0, .ref (an 7)), (1, .ref (an 0))]) [0, 2, 3, 4] rfl
          exact ih29 2 v_86 _ _ _ (by omega) (by omega) G hl
        · refine k_it (v := 2) rfl ?_
          refine r_aald (C := RX8) (b := (an 3)) S G 1 3 rfl rfl (k_vp (by decide)) rfl dX4_pop_46 ?_
          refine lv_aload_n zx zb dX4_pop_47 rfl (lv_at hl 3 rfl) ?_
          refine r_get (C := RX4) (T := TX4) (N := 2) (ci := 2) (v := .ref (an 8)) S in_X4_pop_X4 G 8 rfl rfl 0 (by decide) lk_X4_pop_11 rfl dX4_pop_48 ?_
          refine lv_iload zx zb dX4_pop_51 (lv_at hl 0 rfl) ?_
          refine r_iald S G 9 rfl (vp_in_nI (by omega) (by decide)) rfl dX4_pop_53 ?_
          refine k_itE (fun y_87 => ?_)
          refine r_put (C := RX8) (T := TX8) (N := 8) (ci := 6) (v := .int y_87) S in_X4_pop_X8 tyX8_ok nmX8 G 4 rfl rfl 3 (by decide) lk_X4_pop_25 rfl (vp_nar_int _) rfl (Nat.le_of_ble_eq_true rfl) dX4_pop_54 (fun H locs G => ?_)
          obtain ⟨v_88, G⟩ : ∃ v_88 : Nat → Int32, wd X (va_A (rcW X hn an v b g) sz) (va_A (rcW X hn an v b g) sz) s (rcW X hn an v_88 b_2 g) H locs := ⟨upd v29_0 29 y_87, G⟩
          refine lv_aload_n zx zb dX4_pop_57 rfl (lv_at hl 4 rfl) ?_
          refine lv_iload_n zx zb dX4_pop_58 rfl (lv_at hl 1 rfl) ?_
          refine r_aald (C := RX8) (b := (an 3)) S G 1 3 rfl rfl (k_vp (by decide)) rfl dX4_pop_59 ?_
          refine lv_aload_n zx zb dX4_pop_60 rfl (lv_at hl 3 rfl) ?_
          refine r_get (C := RX4) (T := TX4) (N := 2) (ci := 2) (v := .ref (an 8)) S in_X4_pop_X4 G 8 rfl rfl 0 (by decide) lk_X4_pop_11 rfl dX4_pop_61 ?_
          refine lv_iload zx zb dX4_pop_64 (lv_at hl 0 rfl) ?_
          refine lv_iconst (v := 1) zx zb dX4_pop_66 (by decide) ?_
          refine r_iadd (v := (nI (((((b_2 1) * 31) + 1) + (2 * 5)) + 1))) S (nI_add ((((b_2 1) * 31) + 1) + (2 * 5)) 1) dX4_pop_67 ?_
          refine r_iald S G 9 rfl (vp_in_nI (by omega) (by decide)) rfl dX4_pop_68 ?_
          refine k_itE (fun y_89 => ?_)
          refine r_put (C := RX8) (T := TX8) (N := 8) (ci := 6) (v := .int y_89) S in_X4_pop_X8 tyX8_ok nmX8 G 4 rfl rfl 4 (by decide) lk_X4_pop_30 rfl (vp_nar_int _) rfl (Nat.le_of_ble_eq_true rfl) dX4_pop_69 (fun H locs G => ?_)
          obtain ⟨v_90, G⟩ : ∃ v_90 : Nat → Int32, wd X (va_A (rcW X hn an v b g) sz) (va_A (rcW X hn an v b g) sz) s (rcW X hn an v_90 b_2 g) H locs := ⟨upd v_88 30 y_89, G⟩
          refine lv_aload_n zx zb dX4_pop_72 rfl (lv_at hl 4 rfl) ?_
          refine lv_iload_n zx zb dX4_pop_73 rfl (lv_at hl 1 rfl) ?_
          refine r_aald (C := RX8) (b := (an 3)) S G 1 3 rfl rfl (k_vp (by decide)) rfl dX4_pop_74 ?_
          refine lv_aload_n zx zb dX4_pop_75 rfl (lv_at hl 3 rfl) ?_
          refine r_get (C := RX4) (T := TX4) (N := 2) (ci := 2) (v := .ref (an 8)) S in_X4_pop_X4 G 8 rfl rfl 0 (by decide) lk_X4_pop_11 rfl dX4_pop_76 ?_
          refine lv_iload zx zb dX4_pop_79 (lv_at hl 0 rfl) ?_
          refine lv_iconst (v := 2) zx zb dX4_pop_81 (by decide) ?_
          refine r_iadd (v := (nI (((((b_2 1) * 31) + 1) + (2 * 5)) + 2))) S (nI_add ((((b_2 1) * 31) + 1) + (2 * 5)) 2) dX4_pop_82 ?_
          refine r_iald S G 9 rfl (vp_in_nI (by omega) (by decide)) rfl dX4_pop_83 ?_
          refine k_itE (fun y_91 => ?_)
          refine r_put (C := RX8) (T := TX8) (N := 8) (ci := 6) (v := .int y_91) S in_X4_pop_X8 tyX8_ok nmX8 G 4 rfl rfl 5 (by decide) lk_X4_pop_33 rfl (vp_nar_int _) rfl (Nat.le_of_ble_eq_true rfl) dX4_pop_84 (fun H locs G => ?_)
          obtain ⟨v_92, G⟩ : ∃ v_92 : Nat → Int32, wd X (va_A (rcW X hn an v b g) sz) (va_A (rcW X hn an v b g) sz) s (rcW X hn an v_92 b_2 g) H locs := ⟨upd v_90 31 y_91, G⟩
          refine lv_aload_n zx zb dX4_pop_87 rfl (lv_at hl 4 rfl) ?_
          refine lv_iload_n zx zb dX4_pop_88 rfl (lv_at hl 1 rfl) ?_
          refine r_aald (C := RX8) (b := (an 3)) S G 1 3 rfl rfl (k_vp (by decide)) rfl dX4_pop_89 ?_
          refine lv_aload_n zx zb dX4_pop_90 rfl (lv_at hl 3 rfl) ?_
          refine r_get (C := RX4) (T := TX4) (N := 2) (ci := 2) (v := .ref (an 8)) S in_X4_pop_X4 G 8 rfl rfl 0 (by decide) lk_X4_pop_11 rfl dX4_pop_91 ?_
          refine lv_iload zx zb dX4_pop_94 (lv_at hl 0 rfl) ?_
          refine lv_iconst (v := 3) zx zb dX4_pop_96 (by decide) ?_
          refine r_iadd (v := (nI (((((b_2 1) * 31) + 1) + (2 * 5)) + 3))) S (nI_add ((((b_2 1) * 31) + 1) + (2 * 5)) 3) dX4_pop_97 ?_
          refine r_iald S G 9 rfl (vp_in_nI (by omega) (by decide)) rfl dX4_pop_98 ?_
          refine k_itE (fun y_93 => ?_)
          refine r_put (C := RX8) (T := TX8) (N := 8) (ci := 6) (v := .int y_93) S in_X4_pop_X8 tyX8_ok nmX8 G 4 rfl rfl 6 (by decide) lk_X4_pop_36 rfl (vp_nar_int _) rfl (Nat.le_of_ble_eq_true rfl) dX4_pop_99 (fun H locs G => ?_)
          obtain ⟨v_94, G⟩ : ∃ v_94 : Nat → Int32, wd X (va_A (rcW X hn an v b g) sz) (va_A (rcW X hn an v b g) sz) s (rcW X hn an v_94 b_2 g) H locs := ⟨upd v_92 32 y_93, G⟩
          refine lv_aload_n zx zb dX4_pop_102 rfl (lv_at hl 4 rfl) ?_
          refine lv_iload_n zx zb dX4_pop_103 rfl (lv_at hl 1 rfl) ?_
          refine r_aald (C := RX8) (b := (an 3)) S G 1 3 rfl rfl (k_vp (by decide)) rfl dX4_pop_104 ?_
          refine lv_aload_n zx zb dX4_pop_105 rfl (lv_at hl 3 rfl) ?_
          refine r_get (C := RX4) (T := TX4) (N := 2) (ci := 2) (v := .ref (an 8)) S in_X4_pop_X4 G 8 rfl rfl 0 (by decide) lk_X4_pop_11 rfl dX4_pop_106 ?_
          refine lv_iload zx zb dX4_pop_109 (lv_at hl 0 rfl) ?_
          refine lv_iconst (v := 4) zx zb dX4_pop_111 (by decide) ?_
          refine r_iadd (v := (nI (((((b_2 1) * 31) + 1) + (2 * 5)) + 4))) S (nI_add ((((b_2 1) * 31) + 1) + (2 * 5)) 4) dX4_pop_112 ?_
          refine r_iald S G 9 rfl (vp_in_nI (by omega) (by decide)) rfl dX4_pop_113 ?_
          refine k_itE (fun y_95 => ?_)
          refine r_put (C := RX8) (T := TX8) (N := 8) (ci := 6) (v := .int y_95) S in_X4_pop_X8 tyX8_ok nmX8 G 4 rfl rfl 7 (by decide) lk_X4_pop_39 rfl (vp_nar_int _) rfl (Nat.le_of_ble_eq_true rfl) dX4_pop_114 (fun H locs G => ?_)
          obtain ⟨v_96, G⟩ : ∃ v_96 : Nat → Int32, wd X (va_A (rcW X hn an v b g) sz) (va_A (rcW X hn an v b g) sz) s (rcW X hn an v_96 b_2 g) H locs := ⟨upd v_94 33 y_95, G⟩
          refine lv_iinc (v := 3) (lv' := [(3, .int 3), (4, .int (nI ((((b_2 1) * 31) + 1) + (2 * 5)))), (2, .int (nI ((b_2 1) * 31))), (0, .ref (an 7)), (1, .ref (an 0))]) zx zb dX4_pop_117 hl (k := 1) rfl (by decide) (by decide) rfl (fun ls hl => ?_)
          refine lv_goto (tgt := 29) zx zb dX4_pop_120 (by decide) ?_
          have hl := lv_sub hl (l' := [(3, .int 3), (2, .int (nI ((b_2 1) * 31))), (0, .ref (an 7)), (1, .ref (an 0))]) [0, 2, 3, 4] rfl
          exact ih29 3 v_96 _ _ _ (by omega) (by omega) G hl
        · refine k_it (v := 3) rfl ?_
          refine r_aald (C := RX8) (b := (an 4)) S G 1 3 rfl rfl (k_vp (by decide)) rfl dX4_pop_46 ?_
          refine lv_aload_n zx zb dX4_pop_47 rfl (lv_at hl 3 rfl) ?_
          refine r_get (C := RX4) (T := TX4) (N := 2) (ci := 2) (v := .ref (an 8)) S in_X4_pop_X4 G 8 rfl rfl 0 (by decide) lk_X4_pop_11 rfl dX4_pop_48 ?_
          refine lv_iload zx zb dX4_pop_51 (lv_at hl 0 rfl) ?_
          refine r_iald S G 9 rfl (vp_in_nI (by omega) (by decide)) rfl dX4_pop_53 ?_
          refine k_itE (fun y_97 => ?_)
          refine r_put (C := RX8) (T := TX8) (N := 8) (ci := 6) (v := .int y_97) S in_X4_pop_X8 tyX8_ok nmX8 G 5 rfl rfl 3 (by decide) lk_X4_pop_25 rfl (vp_nar_int _) rfl (Nat.le_of_ble_eq_true rfl) dX4_pop_54 (fun H locs G => ?_)
          obtain ⟨v_98, G⟩ : ∃ v_98 : Nat → Int32, wd X (va_A (rcW X hn an v b g) sz) (va_A (rcW X hn an v b g) sz) s (rcW X hn an v_98 b_2 g) H locs := ⟨upd v29_0 37 y_97, G⟩
          refine lv_aload_n zx zb dX4_pop_57 rfl (lv_at hl 4 rfl) ?_
          refine lv_iload_n zx zb dX4_pop_58 rfl (lv_at hl 1 rfl) ?_
          refine r_aald (C := RX8) (b := (an 4)) S G 1 3 rfl rfl (k_vp (by decide)) rfl dX4_pop_59 ?_
          refine lv_aload_n zx zb dX4_pop_60 rfl (lv_at hl 3 rfl) ?_
          refine r_get (C := RX4) (T := TX4) (N := 2) (ci := 2) (v := .ref (an 8)) S in_X4_pop_X4 G 8 rfl rfl 0 (by decide) lk_X4_pop_11 rfl dX4_pop_61 ?_
          refine lv_iload zx zb dX4_pop_64 (lv_at hl 0 rfl) ?_
          refine lv_iconst (v := 1) zx zb dX4_pop_66 (by decide) ?_
          refine r_iadd (v := (nI (((((b_2 1) * 31) + 1) + (3 * 5)) + 1))) S (nI_add ((((b_2 1) * 31) + 1) + (3 * 5)) 1) dX4_pop_67 ?_
          refine r_iald S G 9 rfl (vp_in_nI (by omega) (by decide)) rfl dX4_pop_68 ?_
          refine k_itE (fun y_99 => ?_)
          refine r_put (C := RX8) (T := TX8) (N := 8) (ci := 6) (v := .int y_99) S in_X4_pop_X8 tyX8_ok nmX8 G 5 rfl rfl 4 (by decide) lk_X4_pop_30 rfl (vp_nar_int _) rfl (Nat.le_of_ble_eq_true rfl) dX4_pop_69 (fun H locs G => ?_)
          obtain ⟨v_100, G⟩ : ∃ v_100 : Nat → Int32, wd X (va_A (rcW X hn an v b g) sz) (va_A (rcW X hn an v b g) sz) s (rcW X hn an v_100 b_2 g) H locs := ⟨upd v_98 38 y_99, G⟩
          refine lv_aload_n zx zb dX4_pop_72 rfl (lv_at hl 4 rfl) ?_
          refine lv_iload_n zx zb dX4_pop_73 rfl (lv_at hl 1 rfl) ?_
          refine r_aald (C := RX8) (b := (an 4)) S G 1 3 rfl rfl (k_vp (by decide)) rfl dX4_pop_74 ?_
          refine lv_aload_n zx zb dX4_pop_75 rfl (lv_at hl 3 rfl) ?_
          refine r_get (C := RX4) (T := TX4) (N := 2) (ci := 2) (v := .ref (an 8)) S in_X4_pop_X4 G 8 rfl rfl 0 (by decide) lk_X4_pop_11 rfl dX4_pop_76 ?_
          refine lv_iload zx zb dX4_pop_79 (lv_at hl 0 rfl) ?_
          refine lv_iconst (v := 2) zx zb dX4_pop_81 (by decide) ?_
          refine r_iadd (v := (nI (((((b_2 1) * 31) + 1) + (3 * 5)) + 2))) S (nI_add ((((b_2 1) * 31) + 1) + (3 * 5)) 2) dX4_pop_82 ?_
          refine r_iald S G 9 rfl (vp_in_nI (by omega) (by decide)) rfl dX4_pop_83 ?_
          refine k_itE (fun y_101 => ?_)
          refine r_put (C := RX8) (T := TX8) (N := 8) (ci := 6) (v := .int y_101) S in_X4_pop_X8 tyX8_ok nmX8 G 5 rfl rfl 5 (by decide) lk_X4_pop_33 rfl (vp_nar_int _) rfl (Nat.le_of_ble_eq_true rfl) dX4_pop_84 (fun H locs G => ?_)
          obtain ⟨v_102, G⟩ : ∃ v_102 : Nat → Int32, wd X (va_A (rcW X hn an v b g) sz) (va_A (rcW X hn an v b g) sz) s (rcW X hn an v_102 b_2 g) H locs := ⟨upd v_100 39 y_101, G⟩
          refine lv_aload_n zx zb dX4_pop_87 rfl (lv_at hl 4 rfl) ?_
          refine lv_iload_n zx zb dX4_pop_88 rfl (lv_at hl 1 rfl) ?_
          refine r_aald (C := RX8) (b := (an 4)) S G 1 3 rfl rfl (k_vp (by decide)) rfl dX4_pop_89 ?_
          refine lv_aload_n zx zb dX4_pop_90 rfl (lv_at hl 3 rfl) ?_
          refine r_get (C := RX4) (T := TX4) (N := 2) (ci := 2) (v := .ref (an 8)) S in_X4_pop_X4 G 8 rfl rfl 0 (by decide) lk_X4_pop_11 rfl dX4_pop_91 ?_
          refine lv_iload zx zb dX4_pop_94 (lv_at hl 0 rfl) ?_
          refine lv_iconst (v := 3) zx zb dX4_pop_96 (by decide) ?_
          refine r_iadd (v := (nI (((((b_2 1) * 31) + 1) + (3 * 5)) + 3))) S (nI_add ((((b_2 1) * 31) + 1) + (3 * 5)) 3) dX4_pop_97 ?_
          refine r_iald S G 9 rfl (vp_in_nI (by omega) (by decide)) rfl dX4_pop_98 ?_
          refine k_itE (fun y_103 => ?_)
          refine r_put (C := RX8) (T := TX8) (N := 8) (ci := 6) (v := .int y_103) S in_X4_pop_X8 tyX8_ok nmX8 G 5 rfl rfl 6 (by decide) lk_X4_pop_36 rfl (vp_nar_int _) rfl (Nat.le_of_ble_eq_true rfl) dX4_pop_99 (fun H locs G => ?_)
          obtain ⟨v_104, G⟩ : ∃ v_104 : Nat → Int32, wd X (va_A (rcW X hn an v b g) sz) (va_A (rcW X hn an v b g) sz) s (rcW X hn an v_104 b_2 g) H locs := ⟨upd v_102 40 y_103, G⟩
          refine lv_aload_n zx zb dX4_pop_102 rfl (lv_at hl 4 rfl) ?_
          refine lv_iload_n zx zb dX4_pop_103 rfl (lv_at hl 1 rfl) ?_
          refine r_aald (C := RX8) (b := (an 4)) S G 1 3 rfl rfl (k_vp (by decide)) rfl dX4_pop_104 ?_
          refine lv_aload_n zx zb dX4_pop_105 rfl (lv_at hl 3 rfl) ?_
          refine r_get (C := RX4) (T := TX4) (N := 2) (ci := 2) (v := .ref (an 8)) S in_X4_pop_X4 G 8 rfl rfl 0 (by decide) lk_X4_pop_11 rfl dX4_pop_106 ?_
          refine lv_iload zx zb dX4_pop_109 (lv_at hl 0 rfl) ?_
          refine lv_iconst (v := 4) zx zb dX4_pop_111 (by decide) ?_
          refine r_iadd (v := (nI (((((b_2 1) * 31) + 1) + (3 * 5)) + 4))) S (nI_add ((((b_2 1) * 31) + 1) + (3 * 5)) 4) dX4_pop_112 ?_
          refine r_iald S G 9 rfl (vp_in_nI (by omega) (by decide)) rfl dX4_pop_113 ?_
          refine k_itE (fun y_105 => ?_)
          refine r_put (C := RX8) (T := TX8) (N := 8) (ci := 6) (v := .int y_105) S in_X4_pop_X8 tyX8_ok nmX8 G 5 rfl rfl 7 (by decide) lk_X4_pop_39 rfl (vp_nar_int _) rfl (Nat.le_of_ble_eq_true rfl) dX4_pop_114 (fun H locs G => ?_)
          obtain ⟨v_106, G⟩ : ∃ v_106 : Nat → Int32, wd X (va_A (rcW X hn an v b g) sz) (va_A (rcW X hn an v b g) sz) s (rcW X hn an v_106 b_2 g) H locs := ⟨upd v_104 41 y_105, G⟩
          refine lv_iinc (v := 4) (lv' := [(3, .int 4), (4, .int (nI ((((b_2 1) * 31) + 1) + (3 * 5)))), (2, .int (nI ((b_2 1) * 31))), (0, .ref (an 7)), (1, .ref (an 0))]) zx zb dX4_pop_117 hl (k := 1) rfl (by decide) (by decide) rfl (fun ls hl => ?_)
          refine lv_goto (tgt := 29) zx zb dX4_pop_120 (by decide) ?_
          have hl := lv_sub hl (l' := [(3, .int 4), (2, .int (nI ((b_2 1) * 31))), (0, .ref (an 7)), (1, .ref (an 0))]) [0, 2, 3, 4] rfl
          exact ih29 4 v_106 _ _ _ (by omega) (by omega) G hl
        · refine k_it (v := 4) rfl ?_
          refine r_aald (C := RX8) (b := (an 5)) S G 1 3 rfl rfl (k_vp (by decide)) rfl dX4_pop_46 ?_
          refine lv_aload_n zx zb dX4_pop_47 rfl (lv_at hl 3 rfl) ?_
          refine r_get (C := RX4) (T := TX4) (N := 2) (ci := 2) (v := .ref (an 8)) S in_X4_pop_X4 G 8 rfl rfl 0 (by decide) lk_X4_pop_11 rfl dX4_pop_48 ?_
          refine lv_iload zx zb dX4_pop_51 (lv_at hl 0 rfl) ?_
          refine r_iald S G 9 rfl (vp_in_nI (by omega) (by decide)) rfl dX4_pop_53 ?_
          refine k_itE (fun y_107 => ?_)
          refine r_put (C := RX8) (T := TX8) (N := 8) (ci := 6) (v := .int y_107) S in_X4_pop_X8 tyX8_ok nmX8 G 6 rfl rfl 3 (by decide) lk_X4_pop_25 rfl (vp_nar_int _) rfl (Nat.le_of_ble_eq_true rfl) dX4_pop_54 (fun H locs G => ?_)
          obtain ⟨v_108, G⟩ : ∃ v_108 : Nat → Int32, wd X (va_A (rcW X hn an v b g) sz) (va_A (rcW X hn an v b g) sz) s (rcW X hn an v_108 b_2 g) H locs := ⟨upd v29_0 45 y_107, G⟩
          refine lv_aload_n zx zb dX4_pop_57 rfl (lv_at hl 4 rfl) ?_
          refine lv_iload_n zx zb dX4_pop_58 rfl (lv_at hl 1 rfl) ?_
          refine r_aald (C := RX8) (b := (an 5)) S G 1 3 rfl rfl (k_vp (by decide)) rfl dX4_pop_59 ?_
          refine lv_aload_n zx zb dX4_pop_60 rfl (lv_at hl 3 rfl) ?_
          refine r_get (C := RX4) (T := TX4) (N := 2) (ci := 2) (v := .ref (an 8)) S in_X4_pop_X4 G 8 rfl rfl 0 (by decide) lk_X4_pop_11 rfl dX4_pop_61 ?_
          refine lv_iload zx zb dX4_pop_64 (lv_at hl 0 rfl) ?_
          refine lv_iconst (v := 1) zx zb dX4_pop_66 (by decide) ?_
          refine r_iadd (v := (nI (((((b_2 1) * 31) + 1) + (4 * 5)) + 1))) S (nI_add ((((b_2 1) * 31) + 1) + (4 * 5)) 1) dX4_pop_67 ?_
          refine r_iald S G 9 rfl (vp_in_nI (by omega) (by decide)) rfl dX4_pop_68 ?_
          refine k_itE (fun y_109 => ?_)
          refine r_put (C := RX8) (T := TX8) (N := 8) (ci := 6) (v := .int y_109) S in_X4_pop_X8 tyX8_ok nmX8 G 6 rfl rfl 4 (by decide) lk_X4_pop_30 rfl (vp_nar_int _) rfl (Nat.le_of_ble_eq_true rfl) dX4_pop_69 (fun H locs G => ?_)
          obtain ⟨v_110, G⟩ : ∃ v_110 : Nat → Int32, wd X (va_A (rcW X hn an v b g) sz) (va_A (rcW X hn an v b g) sz) s (rcW X hn an v_110 b_2 g) H locs := ⟨upd v_108 46 y_109, G⟩
          refine lv_aload_n zx zb dX4_pop_72 rfl (lv_at hl 4 rfl) ?_
          refine lv_iload_n zx zb dX4_pop_73 rfl (lv_at hl 1 rfl) ?_
          refine r_aald (C := RX8) (b := (an 5)) S G 1 3 rfl rfl (k_vp (by decide)) rfl dX4_pop_74 ?_
          refine lv_aload_n zx zb dX4_pop_75 rfl (lv_at hl 3 rfl) ?_
          refine r_get (C := RX4) (T := TX4) (N := 2) (ci := 2) (v := .ref (an 8)) S in_X4_pop_X4 G 8 rfl rfl 0 (by decide) lk_X4_pop_11 rfl dX4_pop_76 ?_
          refine lv_iload zx zb dX4_pop_79 (lv_at hl 0 rfl) ?_
          refine lv_iconst (v := 2) zx zb dX4_pop_81 (by decide) ?_
          refine r_iadd (v := (nI (((((b_2 1) * 31) + 1) + (4 * 5)) + 2))) S (nI_add ((((b_2 1) * 31) + 1) + (4 * 5)) 2) dX4_pop_82 ?_
          refine r_iald S G 9 rfl (vp_in_nI (by omega) (by decide)) rfl dX4_pop_83 ?_
          refine k_itE (fun y_111 => ?_)
          refine r_put (C := RX8) (T := TX8) (N := 8) (ci := 6) (v := .int y_111) S in_X4_pop_X8 tyX8_ok nmX8 G 6 rfl rfl 5 (by decide) lk_X4_pop_33 rfl (vp_nar_int _) rfl (Nat.le_of_ble_eq_true rfl) dX4_pop_84 (fun H locs G => ?_)
          obtain ⟨v_112, G⟩ : ∃ v_112 : Nat → Int32, wd X (va_A (rcW X hn an v b g) sz) (va_A (rcW X hn an v b g) sz) s (rcW X hn an v_112 b_2 g) H locs := ⟨upd v_110 47 y_111, G⟩
          refine lv_aload_n zx zb dX4_pop_87 rfl (lv_at hl 4 rfl) ?_
          refine lv_iload_n zx zb dX4_pop_88 rfl (lv_at hl 1 rfl) ?_
          refine r_aald (C := RX8) (b := (an 5)) S G 1 3 rfl rfl (k_vp (by decide)) rfl dX4_pop_89 ?_
          refine lv_aload_n zx zb dX4_pop_90 rfl (lv_at hl 3 rfl) ?_
          refine r_get (C := RX4) (T := TX4) (N := 2) (ci := 2) (v := .ref (an 8)) S in_X4_pop_X4 G 8 rfl rfl 0 (by decide) lk_X4_pop_11 rfl dX4_pop_91 ?_
          refine lv_iload zx zb dX4_pop_94 (lv_at hl 0 rfl) ?_
          refine lv_iconst (v := 3) zx zb dX4_pop_96 (by decide) ?_
          refine r_iadd (v := (nI (((((b_2 1) * 31) + 1) + (4 * 5)) + 3))) S (nI_add ((((b_2 1) * 31) + 1) + (4 * 5)) 3) dX4_pop_97 ?_
          refine r_iald S G 9 rfl (vp_in_nI (by omega) (by decide)) rfl dX4_pop_98 ?_
          refine k_itE (fun y_113 => ?_)
          refine r_put (C := RX8) (T := TX8) (N := 8) (ci := 6) (v := .int y_113) S in_X4_pop_X8 tyX8_ok nmX8 G 6 rfl rfl 6 (by decide) lk_X4_pop_36 rfl (vp_nar_int _) rfl (Nat.le_of_ble_eq_true rfl) dX4_pop_99 (fun H locs G => ?_)
          obtain ⟨v_114, G⟩ : ∃ v_114 : Nat → Int32, wd X (va_A (rcW X hn an v b g) sz) (va_A (rcW X hn an v b g) sz) s (rcW X hn an v_114 b_2 g) H locs := ⟨upd v_112 48 y_113, G⟩
          refine lv_aload_n zx zb dX4_pop_102 rfl (lv_at hl 4 rfl) ?_
          refine lv_iload_n zx zb dX4_pop_103 rfl (lv_at hl 1 rfl) ?_
          refine r_aald (C := RX8) (b := (an 5)) S G 1 3 rfl rfl (k_vp (by decide)) rfl dX4_pop_104 ?_
          refine lv_aload_n zx zb dX4_pop_105 rfl (lv_at hl 3 rfl) ?_
          refine r_get (C := RX4) (T := TX4) (N := 2) (ci := 2) (v := .ref (an 8)) S in_X4_pop_X4 G 8 rfl rfl 0 (by decide) lk_X4_pop_11 rfl dX4_pop_106 ?_
          refine lv_iload zx zb dX4_pop_109 (lv_at hl 0 rfl) ?_
          refine lv_iconst (v := 4) zx zb dX4_pop_111 (by decide) ?_
          refine r_iadd (v := (nI (((((b_2 1) * 31) + 1) + (4 * 5)) + 4))) S (nI_add ((((b_2 1) * 31) + 1) + (4 * 5)) 4) dX4_pop_112 ?_
          refine r_iald S G 9 rfl (vp_in_nI (by omega) (by decide)) rfl dX4_pop_113 ?_
          refine k_itE (fun y_115 => ?_)
          refine r_put (C := RX8) (T := TX8) (N := 8) (ci := 6) (v := .int y_115) S in_X4_pop_X8 tyX8_ok nmX8 G 6 rfl rfl 7 (by decide) lk_X4_pop_39 rfl (vp_nar_int _) rfl (Nat.le_of_ble_eq_true rfl) dX4_pop_114 (fun H locs G => ?_)
          obtain ⟨v_116, G⟩ : ∃ v_116 : Nat → Int32, wd X (va_A (rcW X hn an v b g) sz) (va_A (rcW X hn an v b g) sz) s (rcW X hn an v_116 b_2 g) H locs := ⟨upd v_114 49 y_115, G⟩
          refine lv_iinc (v := 5) (lv' := [(3, .int 5), (4, .int (nI ((((b_2 1) * 31) + 1) + (4 * 5)))), (2, .int (nI ((b_2 1) * 31))), (0, .ref (an 7)), (1, .ref (an 0))]) zx zb dX4_pop_117 hl (k := 1) rfl (by decide) (by decide) rfl (fun ls hl => ?_)
          refine lv_goto (tgt := 29) zx zb dX4_pop_120 (by decide) ?_
          have hl := lv_sub hl (l' := [(3, .int 5), (2, .int (nI ((b_2 1) * 31))), (0, .ref (an 7)), (1, .ref (an 0))]) [0, 2, 3, 4] rfl
          exact ih29 5 v_116 _ _ _ (by omega) (by omega) G hl
        · refine k_it (v := 5) rfl ?_
          refine r_aald (C := RX8) (b := (an 6)) S G 1 3 rfl rfl (k_vp (by decide)) rfl dX4_pop_46 ?_
          refine lv_aload_n zx zb dX4_pop_47 rfl (lv_at hl 3 rfl) ?_
          refine r_get (C := RX4) (T := TX4) (N := 2) (ci := 2) (v := .ref (an 8)) S in_X4_pop_X4 G 8 rfl rfl 0 (by decide) lk_X4_pop_11 rfl dX4_pop_48 ?_
          refine lv_iload zx zb dX4_pop_51 (lv_at hl 0 rfl) ?_
          refine r_iald S G 9 rfl (vp_in_nI (by omega) (by decide)) rfl dX4_pop_53 ?_
          refine k_itE (fun y_117 => ?_)
          refine r_put (C := RX8) (T := TX8) (N := 8) (ci := 6) (v := .int y_117) S in_X4_pop_X8 tyX8_ok nmX8 G 7 rfl rfl 3 (by decide) lk_X4_pop_25 rfl (vp_nar_int _) rfl (Nat.le_of_ble_eq_true rfl) dX4_pop_54 (fun H locs G => ?_)
          obtain ⟨v_118, G⟩ : ∃ v_118 : Nat → Int32, wd X (va_A (rcW X hn an v b g) sz) (va_A (rcW X hn an v b g) sz) s (rcW X hn an v_118 b_2 g) H locs := ⟨upd v29_0 53 y_117, G⟩
          refine lv_aload_n zx zb dX4_pop_57 rfl (lv_at hl 4 rfl) ?_
          refine lv_iload_n zx zb dX4_pop_58 rfl (lv_at hl 1 rfl) ?_
          refine r_aald (C := RX8) (b := (an 6)) S G 1 3 rfl rfl (k_vp (by decide)) rfl dX4_pop_59 ?_
          refine lv_aload_n zx zb dX4_pop_60 rfl (lv_at hl 3 rfl) ?_
          refine r_get (C := RX4) (T := TX4) (N := 2) (ci := 2) (v := .ref (an 8)) S in_X4_pop_X4 G 8 rfl rfl 0 (by decide) lk_X4_pop_11 rfl dX4_pop_61 ?_
          refine lv_iload zx zb dX4_pop_64 (lv_at hl 0 rfl) ?_
          refine lv_iconst (v := 1) zx zb dX4_pop_66 (by decide) ?_
          refine r_iadd (v := (nI (((((b_2 1) * 31) + 1) + (5 * 5)) + 1))) S (nI_add ((((b_2 1) * 31) + 1) + (5 * 5)) 1) dX4_pop_67 ?_
          refine r_iald S G 9 rfl (vp_in_nI (by omega) (by decide)) rfl dX4_pop_68 ?_
          refine k_itE (fun y_119 => ?_)
          refine r_put (C := RX8) (T := TX8) (N := 8) (ci := 6) (v := .int y_119) S in_X4_pop_X8 tyX8_ok nmX8 G 7 rfl rfl 4 (by decide) lk_X4_pop_30 rfl (vp_nar_int _) rfl (Nat.le_of_ble_eq_true rfl) dX4_pop_69 (fun H locs G => ?_)
          obtain ⟨v_120, G⟩ : ∃ v_120 : Nat → Int32, wd X (va_A (rcW X hn an v b g) sz) (va_A (rcW X hn an v b g) sz) s (rcW X hn an v_120 b_2 g) H locs := ⟨upd v_118 54 y_119, G⟩
          refine lv_aload_n zx zb dX4_pop_72 rfl (lv_at hl 4 rfl) ?_
          refine lv_iload_n zx zb dX4_pop_73 rfl (lv_at hl 1 rfl) ?_
          refine r_aald (C := RX8) (b := (an 6)) S G 1 3 rfl rfl (k_vp (by decide)) rfl dX4_pop_74 ?_
          refine lv_aload_n zx zb dX4_pop_75 rfl (lv_at hl 3 rfl) ?_
          refine r_get (C := RX4) (T := TX4) (N := 2) (ci := 2) (v := .ref (an 8)) S in_X4_pop_X4 G 8 rfl rfl 0 (by decide) lk_X4_pop_11 rfl dX4_pop_76 ?_
          refine lv_iload zx zb dX4_pop_79 (lv_at hl 0 rfl) ?_
          refine lv_iconst (v := 2) zx zb dX4_pop_81 (by decide) ?_
          refine r_iadd (v := (nI (((((b_2 1) * 31) + 1) + (5 * 5)) + 2))) S (nI_add ((((b_2 1) * 31) + 1) + (5 * 5)) 2) dX4_pop_82 ?_
          refine r_iald S G 9 rfl (vp_in_nI (by omega) (by decide)) rfl dX4_pop_83 ?_
          refine k_itE (fun y_121 => ?_)
          refine r_put (C := RX8) (T := TX8) (N := 8) (ci := 6) (v := .int y_121) S in_X4_pop_X8 tyX8_ok nmX8 G 7 rfl rfl 5 (by decide) lk_X4_pop_33 rfl (vp_nar_int _) rfl (Nat.le_of_ble_eq_true rfl) dX4_pop_84 (fun H locs G => ?_)
          obtain ⟨v_122, G⟩ : ∃ v_122 : Nat → Int32, wd X (va_A (rcW X hn an v b g) sz) (va_A (rcW X hn an v b g) sz) s (rcW X hn an v_122 b_2 g) H locs := ⟨upd v_120 55 y_121, G⟩
          refine lv_aload_n zx zb dX4_pop_87 rfl (lv_at hl 4 rfl) ?_
          refine lv_iload_n zx zb dX4_pop_88 rfl (lv_at hl 1 rfl) ?_
          refine r_aald (C := RX8) (b := (an 6)) S G 1 3 rfl rfl (k_vp (by decide)) rfl dX4_pop_89 ?_
          refine lv_aload_n zx zb dX4_pop_90 rfl (lv_at hl 3 rfl) ?_
          refine r_get (C := RX4) (T := TX4) (N := 2) (ci := 2) (v := .ref (an 8)) S in_X4_pop_X4 G 8 rfl rfl 0 (by decide) lk_X4_pop_11 rfl dX4_pop_91 ?_
          refine lv_iload zx zb dX4_pop_94 (lv_at hl 0 rfl) ?_
          refine lv_iconst (v := 3) zx zb dX4_pop_96 (by decide) ?_
          refine r_iadd (v := (nI (((((b_2 1) * 31) + 1) + (5 * 5)) + 3))) S (nI_add ((((b_2 1) * 31) + 1) + (5 * 5)) 3) dX4_pop_97 ?_
          refine r_iald S G 9 rfl (vp_in_nI (by omega) (by decide)) rfl dX4_pop_98 ?_
          refine k_itE (fun y_123 => ?_)
          refine r_put (C := RX8) (T := TX8) (N := 8) (ci := 6) (v := .int y_123) S in_X4_pop_X8 tyX8_ok nmX8 G 7 rfl rfl 6 (by decide) lk_X4_pop_36 rfl (vp_nar_int _) rfl (Nat.le_of_ble_eq_true rfl) dX4_pop_99 (fun H locs G => ?_)
          obtain ⟨v_124, G⟩ : ∃ v_124 : Nat → Int32, wd X (va_A (rcW X hn an v b g) sz) (va_A (rcW X hn an v b g) sz) s (rcW X hn an v_124 b_2 g) H locs := ⟨upd v_122 56 y_123, G⟩
          refine lv_aload_n zx zb dX4_pop_102 rfl (lv_at hl 4 rfl) ?_
          refine lv_iload_n zx zb dX4_pop_103 rfl (lv_at hl 1 rfl) ?_
          refine r_aald (C := RX8) (b := (an 6)) S G 1 3 rfl rfl (k_vp (by decide)) rfl dX4_pop_104 ?_
          refine lv_aload_n zx zb dX4_pop_105 rfl (lv_at hl 3 rfl) ?_
          refine r_get (C := RX4) (T := TX4) (N := 2) (ci := 2) (v := .ref (an 8)) S in_X4_pop_X4 G 8 rfl rfl 0 (by decide) lk_X4_pop_11 rfl dX4_pop_106 ?_
          refine lv_iload zx zb dX4_pop_109 (lv_at hl 0 rfl) ?_
          refine lv_iconst (v := 4) zx zb dX4_pop_111 (by decide) ?_
          refine r_iadd (v := (nI (((((b_2 1) * 31) + 1) + (5 * 5)) + 4))) S (nI_add ((((b_2 1) * 31) + 1) + (5 * 5)) 4) dX4_pop_112 ?_
          refine r_iald S G 9 rfl (vp_in_nI (by omega) (by decide)) rfl dX4_pop_113 ?_
          refine k_itE (fun y_125 => ?_)
          refine r_put (C := RX8) (T := TX8) (N := 8) (ci := 6) (v := .int y_125) S in_X4_pop_X8 tyX8_ok nmX8 G 7 rfl rfl 7 (by decide) lk_X4_pop_39 rfl (vp_nar_int _) rfl (Nat.le_of_ble_eq_true rfl) dX4_pop_114 (fun H locs G => ?_)
          obtain ⟨v_126, G⟩ : ∃ v_126 : Nat → Int32, wd X (va_A (rcW X hn an v b g) sz) (va_A (rcW X hn an v b g) sz) s (rcW X hn an v_126 b_2 g) H locs := ⟨upd v_124 57 y_125, G⟩
          refine lv_iinc (v := 6) (lv' := [(3, .int 6), (4, .int (nI ((((b_2 1) * 31) + 1) + (5 * 5)))), (2, .int (nI ((b_2 1) * 31))), (0, .ref (an 7)), (1, .ref (an 0))]) zx zb dX4_pop_117 hl (k := 1) rfl (by decide) (by decide) rfl (fun ls hl => ?_)
          refine lv_goto (tgt := 29) zx zb dX4_pop_120 (by decide) ?_
          have hl := lv_sub hl (l' := [(3, .int 6), (2, .int (nI ((b_2 1) * 31))), (0, .ref (an 7)), (1, .ref (an 0))]) [0, 2, 3, 4] rfl
          exact ih29 6 v_126 _ _ _ (by omega) (by omega) G hl
  · have fc_1 := j_nlt (a := 0) (b := (b 1)) (by omega) (by omega) c_1
    refine lv_iconst (v := (-1)) zx zb dX4_pop_7 (by decide) ?_
    exact e_int S zr zlk (vp_nar_int _) G (v, b, g) [0, 1, 2, 3, 4, 5, 6, 7, 8, 9, 10, 11, 12, 13, 14, 15] rfl rfl (Or.inr rfl) (⟨hI_b, trivial⟩) dX4_pop_8
theorem in_X5_keep_X5 : ∀ w ∈ wsX50, w ∈ wsX5_keep := by decide +kernel
theorem lk_X5_keep_30 : Cond.fieldLink RX5 30 "EggSpoons$Race" "past" "LEggSpoons$Past;" ∈ wsX5_keep := by decide +kernel
theorem lk_X5_keep_15 : Cond.fieldLink RX5 15 "EggSpoons$Race" "tick" "I" ∈ wsX5_keep := by decide +kernel
theorem lk_X5_keep_23 : Cond.fieldLink RX5 23 "EggSpoons$Race" "row" "[LEggSpoons$Runner;" ∈ wsX5_keep := by decide +kernel
theorem hdV_X4_push : yX4_push.cls = RX4 ∧ yX4_push.cls ≠ "java/lang/invoke/MethodHandle" ∧ yX4_push.cls ≠ "java/lang/invoke/VarHandle" ∧ (parseMethodDescriptor yX4_push.desc).map (fun d => d.parameters.length) = some 2 := by decide +kernel
set_option maxHeartbeats 4000000 in
set_option maxRecDepth 100000 in
/-- keep -/
theorem s_keep (l : Launch) (X : EX) (hn : Nat) (an : Nat → Nat) (v : Nat → Int32) (b : Nat → Nat) (g : Nat → Nat → Int32) (hI_b : InR b) (sz : Nat) : Met l yX5_keep wsX5_keep ({ frames := 2, cells := 0, slots := 0, locals := 85 } : Room) (pE X [.ref hn] (rcW X hn an v b g) sz) (qV (fun (u : (Nat → Int32) × (Nat → Nat) × (Nat → Nat → Int32)) => InR u.2.1 ∧ (True)) X (fun (u : (Nat → Int32) × (Nat → Nat) × (Nat → Nat → Int32)) => rcW X hn an u.1 u.2.1 u.2.2) (rcW X hn an v b g) sz) 0 0 (va_A (rcW X hn an v b g) sz) := by
  refine mk_met (B := (va_A (rcW X hn an v b g) sz)) (A := (va_A (rcW X hn an v b g) sz)) (cc := cX5_keep) (maxL := 1) (ret := none) (by decide) rfl (Nat.le_of_ble_eq_true rfl) k_w k_a (fun p e s m below meth c S zr zlk znm zsz G ls hl => ?_)
  have S : CallFix p m c cX5_keep 1 s _ wsX5_keep RX5 := S
  have zx := S.1
  have zb := S.2.1
  have hl : lv_has ls 1 [(0, .ref hn)] := hl
  have hO_b := hI_b
  obtain ⟨hb0_b, hb1_b, hb2_b, hb3_b, hb4_b⟩ := hO_b
  refine lv_aload_n zx zb dX5_keep_0 rfl (lv_at hl 0 rfl) ?_
  refine r_get (C := RX5) (T := TX5) (N := 8) (ci := 3) (v := .ref (an 7)) S in_X5_keep_X5 G 0 rfl rfl 4 (by decide) lk_X5_keep_30 rfl dX5_keep_1 ?_
  refine lv_aload_n zx zb dX5_keep_4 rfl (lv_at hl 0 rfl) ?_
  refine r_get (C := RX5) (T := TX5) (N := 8) (ci := 3) (v := .int (v 1)) S in_X5_keep_X5 G 0 rfl rfl 1 (by decide) lk_X5_keep_15 rfl dX5_keep_5 ?_
  refine lv_aload_n zx zb dX5_keep_8 rfl (lv_at hl 0 rfl) ?_
  refine r_get (C := RX5) (T := TX5) (N := 8) (ci := 3) (v := .ref (an 0)) S in_X5_keep_X5 G 0 rfl rfl 3 (by decide) lk_X5_keep_23 rfl dX5_keep_9 ?_
  refine b_wv (cells' := 0) (slots' := 0) (wr := []) G rfl rfl [0, 1, 2, 3, 4, 5, 6, 7, 8, 9, 10, 11, 12, 13, 14, 15] [] rfl rfl rfl rfl (n_V (As := [.int (v 1), .ref (an 0)]) (rest := []) (C := RX4) (T := TX4) (N := 2) (ci := 2) S G (s_push l X hn an v b g (v 1) hI_b s.heap.size) gX5_keep_X4_push rfl rfl rfl hdV_X4_push ⟨Nat.le_of_ble_eq_true rfl, Nat.le_of_ble_eq_true rfl⟩ [0, 1, 2, 3, 4, 5, 6, 7, 8, 9, 10, 11, 12, 13, 14, 15] rfl rfl 8 rfl rfl rfl hl.1 (Nat.le_of_ble_eq_true rfl) dX5_keep_12 ⟨Nat.le_of_ble_eq_true rfl, Nat.le_of_ble_eq_true rfl⟩) (fun u_1 H locs hp_1 G => ?_)
  obtain ⟨v_1a, b_1b, g_1c⟩ := u_1
  obtain ⟨hI_b_1b, hq_1⟩ := hp_1
  have hO_b_1b := hI_b_1b
  obtain ⟨hb0_b_1b, hb1_b_1b, hb2_b_1b, hb3_b_1b, hb4_b_1b⟩ := hO_b_1b
  have G : wd X (va_A (rcW X hn an v b g) sz) (va_A (rcW X hn an v b g) sz) s (rcW X hn an v_1a b_1b g_1c) H locs := G
  exact e_void S zr zlk G (v_1a, b_1b, g_1c) [0, 1, 2, 3, 4, 5, 6, 7, 8, 9, 10, 11, 12, 13, 14, 15] rfl rfl (Or.inr rfl) (⟨hI_b_1b, trivial⟩) dX5_keep_15
theorem in_X5_takeBack_X5 : ∀ w ∈ wsX50, w ∈ wsX5_takeBack := by decide +kernel
theorem lk_X5_takeBack_30 : Cond.fieldLink RX5 30 "EggSpoons$Race" "past" "LEggSpoons$Past;" ∈ wsX5_takeBack := by decide +kernel
theorem lk_X5_takeBack_23 : Cond.fieldLink RX5 23 "EggSpoons$Race" "row" "[LEggSpoons$Runner;" ∈ wsX5_takeBack := by decide +kernel
theorem hdV_X4_pop : yX4_pop.cls = RX4 ∧ yX4_pop.cls ≠ "java/lang/invoke/MethodHandle" ∧ yX4_pop.cls ≠ "java/lang/invoke/VarHandle" ∧ (parseMethodDescriptor yX4_pop.desc).map (fun d => d.parameters.length) = some 1 := by decide +kernel
theorem lk_X5_takeBack_15 : Cond.fieldLink RX5 15 "EggSpoons$Race" "tick" "I" ∈ wsX5_takeBack := by decide +kernel
set_option maxHeartbeats 4000000 in
set_option maxRecDepth 100000 in
/-- takeBack -/
theorem s_takeBack (l : Launch) (X : EX) (hn : Nat) (an : Nat → Nat) (v : Nat → Int32) (b : Nat → Nat) (g : Nat → Nat → Int32) (hI_b : InR b) (sz : Nat) : Met l yX5_takeBack wsX5_takeBack ({ frames := 1, cells := 0, slots := 0, locals := 24 } : Room) (pE X [.ref hn] (rcW X hn an v b g) sz) (qI (fun (r : Int32) (u : (Nat → Int32) × (Nat → Nat) × (Nat → Nat → Int32)) => InR u.2.1 ∧ (r = 0 ∨ r = 1)) X (fun (u : (Nat → Int32) × (Nat → Nat) × (Nat → Nat → Int32)) => rcW X hn an u.1 u.2.1 u.2.2) (rcW X hn an v b g) sz) 0 0 (va_A (rcW X hn an v b g) sz) := by
  refine mk_met (B := (va_A (rcW X hn an v b g) sz)) (A := (va_A (rcW X hn an v b g) sz)) (cc := cX5_takeBack) (maxL := 2) (ret := (some .boolean)) (by decide) rfl (Nat.le_of_ble_eq_true rfl) k_w k_a (fun p e s m below meth c S zr zlk znm zsz G ls hl => ?_)
  have S : CallFix p m c cX5_takeBack 2 s _ wsX5_takeBack RX5 := S
  have zx := S.1
  have zb := S.2.1
  have hl : lv_has ls 2 [(0, .ref hn)] := hl
  have hO_b := hI_b
  obtain ⟨hb0_b, hb1_b, hb2_b, hb3_b, hb4_b⟩ := hO_b
  refine lv_aload_n zx zb dX5_takeBack_0 rfl (lv_at hl 0 rfl) ?_
  refine r_get (C := RX5) (T := TX5) (N := 8) (ci := 3) (v := .ref (an 7)) S in_X5_takeBack_X5 G 0 rfl rfl 4 (by decide) lk_X5_takeBack_30 rfl dX5_takeBack_1 ?_
  refine lv_aload_n zx zb dX5_takeBack_4 rfl (lv_at hl 0 rfl) ?_
  refine r_get (C := RX5) (T := TX5) (N := 8) (ci := 3) (v := .ref (an 0)) S in_X5_takeBack_X5 G 0 rfl rfl 3 (by decide) lk_X5_takeBack_23 rfl dX5_takeBack_5 ?_
  refine b_wi (cells' := 0) (slots' := 0) (wr := []) G rfl rfl [0, 1, 2, 3, 4, 5, 6, 7, 8, 9, 10, 11, 12, 13, 14, 15] [] rfl rfl rfl rfl (n_V (As := [.ref (an 0)]) (rest := []) (C := RX4) (T := TX4) (N := 2) (ci := 2) S G (s_pop l X hn an v b g hI_b s.heap.size) gX5_takeBack_X4_pop rfl rfl rfl hdV_X4_pop ⟨Nat.le_of_ble_eq_true rfl, Nat.le_of_ble_eq_true rfl⟩ [0, 1, 2, 3, 4, 5, 6, 7, 8, 9, 10, 11, 12, 13, 14, 15] rfl rfl 8 rfl rfl rfl hl.1 (Nat.le_of_ble_eq_true rfl) dX5_takeBack_8 ⟨Nat.le_of_ble_eq_true rfl, Nat.le_of_ble_eq_true rfl⟩) (fun r_1 u_1 H locs hp_1 G => ?_)
  obtain ⟨v_1a, b_1b, g_1c⟩ := u_1
  obtain ⟨hI_b_1b, hq_1⟩ := hp_1
  have hO_b_1b := hI_b_1b
  obtain ⟨hb0_b_1b, hb1_b_1b, hb2_b_1b, hb3_b_1b, hb4_b_1b⟩ := hO_b_1b
  have G : wd X (va_A (rcW X hn an v b g) sz) (va_A (rcW X hn an v b g) sz) s (rcW X hn an v_1a b_1b g_1c) H locs := G
  refine lv_istore_n (lv' := [(1, .int r_1), (0, .ref hn)]) zx zb dX5_takeBack_11 rfl hl (by decide) rfl (fun ls hl => ?_)
  refine lv_iload_n zx zb dX5_takeBack_12 rfl (lv_at hl 0 rfl) ?_
  refine lv_iconst (v := (-1)) zx zb dX5_takeBack_13 (by decide) ?_
  refine lv_icmp_ne (tgt := 19) zx zb dX5_takeBack_14 (by decide) (fun c_2 => ?_) (fun c_2 => ?_)
  · refine lv_aload_n zx zb dX5_takeBack_19 rfl (lv_at hl 1 rfl) ?_
    refine lv_iload_n zx zb dX5_takeBack_20 rfl (lv_at hl 0 rfl) ?_
    refine r_put (C := RX5) (T := TX5) (N := 8) (ci := 3) (v := .int r_1) S in_X5_takeBack_X5 tyX5_ok nmX5 G 0 rfl rfl 1 (by decide) lk_X5_takeBack_15 rfl (vp_nar_int _) rfl (Nat.le_of_ble_eq_true rfl) dX5_takeBack_21 (fun H locs G => ?_)
    obtain ⟨v_3, G⟩ : ∃ v_3 : Nat → Int32, wd X (va_A (rcW X hn an v b g) sz) (va_A (rcW X hn an v b g) sz) s (rcW X hn an v_3 b_1b g_1c) H locs := ⟨upd v_1a 1 r_1, G⟩
    refine lv_iconst (v := 1) zx zb dX5_takeBack_24 (by decide) ?_
    exact e_int S zr zlk (by decide) G (v_3, b_1b, g_1c) [0, 1, 2, 3, 4, 5, 6, 7, 8, 9, 10, 11, 12, 13, 14, 15] rfl rfl (Or.inr rfl) (⟨hI_b_1b, by first | exact Or.inl rfl | exact Or.inr rfl⟩) dX5_takeBack_25
  · refine lv_iconst (v := 0) zx zb dX5_takeBack_17 (by decide) ?_
    exact e_int S zr zlk (by decide) G (v_1a, b_1b, g_1c) [0, 1, 2, 3, 4, 5, 6, 7, 8, 9, 10, 11, 12, 13, 14, 15] rfl rfl (Or.inr rfl) (⟨hI_b_1b, by first | exact Or.inl rfl | exact Or.inr rfl⟩) dX5_takeBack_18
theorem in_X5_restart_X5 : ∀ w ∈ wsX50, w ∈ wsX5_restart := by decide +kernel
theorem lk_X5_restart_9 : Cond.fieldLink RX5 9 "EggSpoons$Race" "length" "I" ∈ wsX5_restart := by decide +kernel
theorem lk_X5_restart_15 : Cond.fieldLink RX5 15 "EggSpoons$Race" "tick" "I" ∈ wsX5_restart := by decide +kernel
theorem lk_X5_restart_18 : Cond.fieldLink RX5 18 "EggSpoons$Race" "runners" "I" ∈ wsX5_restart := by decide +kernel
theorem lk_X5_restart_30 : Cond.fieldLink RX5 30 "EggSpoons$Race" "past" "LEggSpoons$Past;" ∈ wsX5_restart := by decide +kernel
theorem in_X5_restart_X4 : ∀ w ∈ wsX40, w ∈ wsX5_restart := by decide +kernel
theorem lk_X5_restart_50 : Cond.fieldLink RX5 50 "EggSpoons$Past" "size" "I" ∈ wsX5_restart := by decide +kernel
theorem lk_X5_restart_39 : Cond.fieldLink RX5 39 "EggSpoons$Race" "seenRows" "LEggSpoons$Rows;" ∈ wsX5_restart := by decide +kernel
theorem in_X5_restart_X7 : ∀ w ∈ wsX70, w ∈ wsX5_restart := by decide +kernel
theorem lk_X5_restart_53 : Cond.fieldLink RX5 53 "EggSpoons$Rows" "size" "I" ∈ wsX5_restart := by decide +kernel
theorem lk_X5_restart_43 : Cond.fieldLink RX5 43 "EggSpoons$Race" "noteRows" "LEggSpoons$Rows;" ∈ wsX5_restart := by decide +kernel
theorem lk_X5_restart_46 : Cond.fieldLink RX5 46 "EggSpoons$Race" "markRows" "LEggSpoons$Rows;" ∈ wsX5_restart := by decide +kernel
set_option maxHeartbeats 4000000 in
set_option maxRecDepth 100000 in
/-- restart -/
theorem s_restart (l : Launch) (X : EX) (hn : Nat) (an : Nat → Nat) (v : Nat → Int32) (b : Nat → Nat) (g : Nat → Nat → Int32) (x1 : Int32) (hI_b : InR b) (sz : Nat) : Met l yX5_restart wsX5_restart ({ frames := 0, cells := 0, slots := 0, locals := 0 } : Room) (pE X [.ref hn, .int x1] (rcW X hn an v b g) sz) (qV (fun (u : (Nat → Int32) × (Nat → Nat) × (Nat → Nat → Int32)) => InR u.2.1 ∧ (True)) X (fun (u : (Nat → Int32) × (Nat → Nat) × (Nat → Nat → Int32)) => rcW X hn an u.1 u.2.1 u.2.2) (rcW X hn an v b g) sz) 0 0 (va_A (rcW X hn an v b g) sz) := by
  refine mk_met (B := (va_A (rcW X hn an v b g) sz)) (A := (va_A (rcW X hn an v b g) sz)) (cc := cX5_restart) (maxL := 2) (ret := none) (by decide) rfl (Nat.le_of_ble_eq_true rfl) k_w k_a (fun p e s m below meth c S zr zlk znm zsz G ls hl => ?_)
  have S : CallFix p m c cX5_restart 2 s _ wsX5_restart RX5 := S
  have zx := S.1
  have zb := S.2.1
  have hl : lv_has ls 2 [(0, .ref hn), (1, .int x1)] := hl
  have hO_b := hI_b
  obtain ⟨hb0_b, hb1_b, hb2_b, hb3_b, hb4_b⟩ := hO_b
  refine lv_aload_n zx zb dX5_restart_0 rfl (lv_at hl 0 rfl) ?_
  refine lv_iload_n zx zb dX5_restart_1 rfl (lv_at hl 1 rfl) ?_
  refine r_put (C := RX5) (T := TX5) (N := 8) (ci := 3) (v := .int x1) S in_X5_restart_X5 tyX5_ok nmX5 G 0 rfl rfl 0 (by decide) lk_X5_restart_9 rfl (vp_nar_int _) rfl (Nat.le_of_ble_eq_true rfl) dX5_restart_2 (fun H locs G => ?_)
  obtain ⟨v_1, G⟩ : ∃ v_1 : Nat → Int32, wd X (va_A (rcW X hn an v b g) sz) (va_A (rcW X hn an v b g) sz) s (rcW X hn an v_1 b g) H locs := ⟨upd v 0 x1, G⟩
  refine lv_aload_n zx zb dX5_restart_5 rfl (lv_at hl 0 rfl) ?_
  refine lv_iconst (v := 0) zx zb dX5_restart_6 (by decide) ?_
  refine r_put (C := RX5) (T := TX5) (N := 8) (ci := 3) (v := .int 0) S in_X5_restart_X5 tyX5_ok nmX5 G 0 rfl rfl 1 (by decide) lk_X5_restart_15 rfl (vp_nar_int _) rfl (Nat.le_of_ble_eq_true rfl) dX5_restart_7 (fun H locs G => ?_)
  obtain ⟨v_2, G⟩ : ∃ v_2 : Nat → Int32, wd X (va_A (rcW X hn an v b g) sz) (va_A (rcW X hn an v b g) sz) s (rcW X hn an v_2 b g) H locs := ⟨upd v_1 1 0, G⟩
  refine lv_aload_n zx zb dX5_restart_10 rfl (lv_at hl 0 rfl) ?_
  refine lv_iconst (v := 0) zx zb dX5_restart_11 (by decide) ?_
  refine r_put (C := RX5) (T := TX5) (N := 8) (ci := 3) (v := .int 0) S in_X5_restart_X5 tyX5_ok nmX5 G 0 rfl rfl 2 (by decide) lk_X5_restart_18 rfl (vp_nar_int _) rfl (Nat.le_of_ble_eq_true rfl) dX5_restart_12 (fun H locs G => ?_)
  obtain ⟨b_3, hI_b_3, ⟨hE_b_3_0, hE_b_3_1, hE_b_3_2, hE_b_3_3, hE_b_3_4⟩, G⟩ : ∃ b_3 : Nat → Nat, InR b_3 ∧ (b_3 0 = 0 ∧ b_3 1 = b 1 ∧ b_3 2 = b 2 ∧ b_3 3 = b 3 ∧ b_3 4 = b 4) ∧ wd X (va_A (rcW X hn an v b g) sz) (va_A (rcW X hn an v b g) sz) s (rcW X hn an v_2 b_3 g) H locs := ⟨upN b 0 0, ⟨(by show 0 ≤ 6; omega), hI_b.2.1, hI_b.2.2.1, hI_b.2.2.2.1, hI_b.2.2.2.2⟩, ⟨rfl, rfl, rfl, rfl, rfl⟩, G⟩
  have hO_b_3 := hI_b_3
  obtain ⟨hb0_b_3, hb1_b_3, hb2_b_3, hb3_b_3, hb4_b_3⟩ := hO_b_3
  refine lv_aload_n zx zb dX5_restart_15 rfl (lv_at hl 0 rfl) ?_
  refine r_get (C := RX5) (T := TX5) (N := 8) (ci := 3) (v := .ref (an 7)) S in_X5_restart_X5 G 0 rfl rfl 4 (by decide) lk_X5_restart_30 rfl dX5_restart_16 ?_
  refine lv_iconst (v := 0) zx zb dX5_restart_19 (by decide) ?_
  refine r_put (C := RX4) (T := TX4) (N := 2) (ci := 2) (v := .int 0) S in_X5_restart_X4 tyX4_ok nmX4 G 8 rfl rfl 1 (by decide) lk_X5_restart_50 rfl (vp_nar_int _) rfl (Nat.le_of_ble_eq_true rfl) dX5_restart_20 (fun H locs G => ?_)
  obtain ⟨b_4, hI_b_4, ⟨hE_b_4_1, hE_b_4_0, hE_b_4_2, hE_b_4_3, hE_b_4_4⟩, G⟩ : ∃ b_4 : Nat → Nat, InR b_4 ∧ (b_4 1 = 0 ∧ b_4 0 = b_3 0 ∧ b_4 2 = b_3 2 ∧ b_4 3 = b_3 3 ∧ b_4 4 = b_3 4) ∧ wd X (va_A (rcW X hn an v b g) sz) (va_A (rcW X hn an v b g) sz) s (rcW X hn an v_2 b_4 g) H locs := ⟨upN b_3 1 0, ⟨hI_b_3.1, (by show 0 ≤ 8; omega), hI_b_3.2.2.1, hI_b_3.2.2.2.1, hI_b_3.2.2.2.2⟩, ⟨rfl, rfl, rfl, rfl, rfl⟩, G⟩
  have hO_b_4 := hI_b_4
  obtain ⟨hb0_b_4, hb1_b_4, hb2_b_4, hb3_b_4, hb4_b_4⟩ := hO_b_4
  refine lv_aload_n zx zb dX5_restart_23 rfl (lv_at hl 0 rfl) ?_
  refine r_get (C := RX5) (T := TX5) (N := 8) (ci := 3) (v := .ref (an 9)) S in_X5_restart_X5 G 0 rfl rfl 5 (by decide) lk_X5_restart_39 rfl dX5_restart_24 ?_
  refine lv_iconst (v := 0) zx zb dX5_restart_27 (by decide) ?_
  refine r_put (C := RX7) (T := TX7) (N := 5) (ci := 5) (v := .int 0) S in_X5_restart_X7 tyX7_ok nmX7 G 10 rfl rfl 4 (by decide) lk_X5_restart_53 rfl (vp_nar_int _) rfl (Nat.le_of_ble_eq_true rfl) dX5_restart_28 (fun H locs G => ?_)
  obtain ⟨b_5, hI_b_5, ⟨hE_b_5_2, hE_b_5_0, hE_b_5_1, hE_b_5_3, hE_b_5_4⟩, G⟩ : ∃ b_5 : Nat → Nat, InR b_5 ∧ (b_5 2 = 0 ∧ b_5 0 = b_4 0 ∧ b_5 1 = b_4 1 ∧ b_5 3 = b_4 3 ∧ b_5 4 = b_4 4) ∧ wd X (va_A (rcW X hn an v b g) sz) (va_A (rcW X hn an v b g) sz) s (rcW X hn an v_2 b_5 g) H locs := ⟨upN b_4 2 0, ⟨hI_b_4.1, hI_b_4.2.1, (by show 0 ≤ 5; omega), hI_b_4.2.2.2.1, hI_b_4.2.2.2.2⟩, ⟨rfl, rfl, rfl, rfl, rfl⟩, G⟩
  have hO_b_5 := hI_b_5
  obtain ⟨hb0_b_5, hb1_b_5, hb2_b_5, hb3_b_5, hb4_b_5⟩ := hO_b_5
  refine lv_aload_n zx zb dX5_restart_31 rfl (lv_at hl 0 rfl) ?_
  refine r_get (C := RX5) (T := TX5) (N := 8) (ci := 3) (v := .ref (an 11)) S in_X5_restart_X5 G 0 rfl rfl 6 (by decide) lk_X5_restart_43 rfl dX5_restart_32 ?_
  refine lv_iconst (v := 0) zx zb dX5_restart_35 (by decide) ?_
  refine r_put (C := RX7) (T := TX7) (N := 5) (ci := 5) (v := .int 0) S in_X5_restart_X7 tyX7_ok nmX7 G 12 rfl rfl 4 (by decide) lk_X5_restart_53 rfl (vp_nar_int _) rfl (Nat.le_of_ble_eq_true rfl) dX5_restart_36 (fun H locs G => ?_)
  obtain ⟨b_6, hI_b_6, ⟨hE_b_6_3, hE_b_6_0, hE_b_6_1, hE_b_6_2, hE_b_6_4⟩, G⟩ : ∃ b_6 : Nat → Nat, InR b_6 ∧ (b_6 3 = 0 ∧ b_6 0 = b_5 0 ∧ b_6 1 = b_5 1 ∧ b_6 2 = b_5 2 ∧ b_6 4 = b_5 4) ∧ wd X (va_A (rcW X hn an v b g) sz) (va_A (rcW X hn an v b g) sz) s (rcW X hn an v_2 b_6 g) H locs := ⟨upN b_5 3 0, ⟨hI_b_5.1, hI_b_5.2.1, hI_b_5.2.2.1, (by show 0 ≤ 6; omega), hI_b_5.2.2.2.2⟩, ⟨rfl, rfl, rfl, rfl, rfl⟩, G⟩
  have hO_b_6 := hI_b_6
  obtain ⟨hb0_b_6, hb1_b_6, hb2_b_6, hb3_b_6, hb4_b_6⟩ := hO_b_6
  refine lv_aload_n zx zb dX5_restart_39 rfl (lv_at hl 0 rfl) ?_
  refine r_get (C := RX5) (T := TX5) (N := 8) (ci := 3) (v := .ref (an 13)) S in_X5_restart_X5 G 0 rfl rfl 7 (by decide) lk_X5_restart_46 rfl dX5_restart_40 ?_
  refine lv_iconst (v := 0) zx zb dX5_restart_43 (by decide) ?_
  refine r_put (C := RX7) (T := TX7) (N := 5) (ci := 5) (v := .int 0) S in_X5_restart_X7 tyX7_ok nmX7 G 14 rfl rfl 4 (by decide) lk_X5_restart_53 rfl (vp_nar_int _) rfl (Nat.le_of_ble_eq_true rfl) dX5_restart_44 (fun H locs G => ?_)
  obtain ⟨b_7, hI_b_7, ⟨hE_b_7_4, hE_b_7_0, hE_b_7_1, hE_b_7_2, hE_b_7_3⟩, G⟩ : ∃ b_7 : Nat → Nat, InR b_7 ∧ (b_7 4 = 0 ∧ b_7 0 = b_6 0 ∧ b_7 1 = b_6 1 ∧ b_7 2 = b_6 2 ∧ b_7 3 = b_6 3) ∧ wd X (va_A (rcW X hn an v b g) sz) (va_A (rcW X hn an v b g) sz) s (rcW X hn an v_2 b_7 g) H locs := ⟨upN b_6 4 0, ⟨hI_b_6.1, hI_b_6.2.1, hI_b_6.2.2.1, hI_b_6.2.2.2.1, (by show 0 ≤ 6; omega)⟩, ⟨rfl, rfl, rfl, rfl, rfl⟩, G⟩
  have hO_b_7 := hI_b_7
  obtain ⟨hb0_b_7, hb1_b_7, hb2_b_7, hb3_b_7, hb4_b_7⟩ := hO_b_7
  exact e_void S zr zlk G (v_2, b_7, g) [0, 1, 2, 3, 4, 5, 6, 7, 8, 9, 10, 11, 12, 13, 14, 15] rfl rfl (Or.inr rfl) (⟨hI_b_7, trivial⟩) dX5_restart_47
theorem in_X5_welcome_X5 : ∀ w ∈ wsX50, w ∈ wsX5_welcome := by decide +kernel
theorem lk_X5_welcome_18 : Cond.fieldLink RX5 18 "EggSpoons$Race" "runners" "I" ∈ wsX5_welcome := by decide +kernel
theorem lk_X5_welcome_23 : Cond.fieldLink RX5 23 "EggSpoons$Race" "row" "[LEggSpoons$Runner;" ∈ wsX5_welcome := by decide +kernel
theorem hdV_X8_begin : yX8_begin.cls = RX8 ∧ yX8_begin.cls ≠ "java/lang/invoke/MethodHandle" ∧ yX8_begin.cls ≠ "java/lang/invoke/VarHandle" ∧ (parseMethodDescriptor yX8_begin.desc).map (fun d => d.parameters.length) = some 3 := by decide +kernel
theorem lk_X5_welcome_30 : Cond.fieldLink RX5 30 "EggSpoons$Race" "past" "LEggSpoons$Past;" ∈ wsX5_welcome := by decide +kernel
theorem in_X5_welcome_X4 : ∀ w ∈ wsX40, w ∈ wsX5_welcome := by decide +kernel
theorem lk_X5_welcome_50 : Cond.fieldLink RX5 50 "EggSpoons$Past" "size" "I" ∈ wsX5_welcome := by decide +kernel
set_option maxHeartbeats 4000000 in
set_option maxRecDepth 100000 in
/-- welcome -/
theorem s_welcome (l : Launch) (X : EX) (hn : Nat) (an : Nat → Nat) (v : Nat → Int32) (b : Nat → Nat) (g : Nat → Nat → Int32) (x1 : Int32) (x2 : Int32) (x3 : Int32) (hI_b : InR b) (sz : Nat) : Met l yX5_welcome wsX5_welcome ({ frames := 1, cells := 0, slots := 0, locals := 23 } : Room) (pE X [.ref hn, .int x1, .int x2, .int x3] (rcW X hn an v b g) sz) (qV (fun (u : (Nat → Int32) × (Nat → Nat) × (Nat → Nat → Int32)) => InR u.2.1 ∧ (True)) X (fun (u : (Nat → Int32) × (Nat → Nat) × (Nat → Nat → Int32)) => rcW X hn an u.1 u.2.1 u.2.2) (rcW X hn an v b g) sz) 0 0 (va_A (rcW X hn an v b g) sz) := by
  refine mk_met (B := (va_A (rcW X hn an v b g) sz)) (A := (va_A (rcW X hn an v b g) sz)) (cc := cX5_welcome) (maxL := 4) (ret := none) (by decide) rfl (Nat.le_of_ble_eq_true rfl) k_w k_a (fun p e s m below meth c S zr zlk znm zsz G ls hl => ?_)
  have S : CallFix p m c cX5_welcome 4 s _ wsX5_welcome RX5 := S
  have zx := S.1
  have zb := S.2.1
  have hl : lv_has ls 4 [(0, .ref hn), (1, .int x1), (2, .int x2), (3, .int x3)] := hl
  have hO_b := hI_b
  obtain ⟨hb0_b, hb1_b, hb2_b, hb3_b, hb4_b⟩ := hO_b
  refine lv_aload_n zx zb dX5_welcome_0 rfl (lv_at hl 0 rfl) ?_
  refine r_get (C := RX5) (T := TX5) (N := 8) (ci := 3) (v := .int (nI (b 0))) S in_X5_welcome_X5 G 0 rfl rfl 2 (by decide) lk_X5_welcome_18 rfl dX5_welcome_1 ?_
  refine lv_bipush (v := 6) zx zb dX5_welcome_4 (by decide) ?_
  refine k_cutW (PP := fun Wx => ∀ (v_2 : Nat → Int32) (b_3 : Nat → Nat) (H : Heap) (locs : List Loc) (ls : Array Slot), InR b_3 → wd X (va_A (rcW X hn an v b g) sz) (va_A (rcW X hn an v b g) sz) s (rcW X hn an v_2 b_3 g) H locs → lv_has ls 4 [(0, .ref hn), (1, .int x1), (2, .int x2), (3, .int x3)] → Wx (F0 m 42 ls []) H locs) ?_ ?_
  · intro join_6
    refine lv_icmp_ge (tgt := 42) zx zb dX5_welcome_6 (by decide) (fun c_1 => ?_) (fun c_1 => ?_)
    · have fc_1 := j_le (a := 6) (b := (b 0)) (by omega) (by omega) c_1
      exact join_6 v b _ _ _ hI_b G hl
    · have fc_1 := j_nle (a := 6) (b := (b 0)) (by omega) (by omega) c_1
      refine lv_aload_n zx zb dX5_welcome_9 rfl (lv_at hl 0 rfl) ?_
      refine r_get (C := RX5) (T := TX5) (N := 8) (ci := 3) (v := .ref (an 0)) S in_X5_welcome_X5 G 0 rfl rfl 3 (by decide) lk_X5_welcome_23 rfl dX5_welcome_10 ?_
      refine lv_aload_n zx zb dX5_welcome_13 rfl (lv_at hl 0 rfl) ?_
      refine r_get (C := RX5) (T := TX5) (N := 8) (ci := 3) (v := .int (nI (b 0))) S in_X5_welcome_X5 G 0 rfl rfl 2 (by decide) lk_X5_welcome_18 rfl dX5_welcome_14 ?_
      rcases k_6c (show (b 0) < 6 by omega) with q_4 | q_4 | q_4 | q_4 | q_4 | q_4
      · refine k_it (v := 0) (by rw [q_4]; rfl) ?_
        refine r_aald (C := RX8) (b := (an 1)) S G 1 3 rfl rfl (k_vp (by decide)) rfl dX5_welcome_17 ?_
        refine lv_iload_n zx zb dX5_welcome_18 rfl (lv_at hl 1 rfl) ?_
        refine lv_iload_n zx zb dX5_welcome_19 rfl (lv_at hl 2 rfl) ?_
        refine lv_iload_n zx zb dX5_welcome_20 rfl (lv_at hl 3 rfl) ?_
        refine b_wv (cells' := 0) (slots' := 0) (wr := [(hn, .inr (3, [.int (v 0), .int (v 1), .int (nI (b 0)), .ref (an 0), .ref (an 7), .ref (an 9), .ref (an 11), .ref (an 13)])), ((an 0), .inl (X.2.2.2.2, 6, .inr (.inr (.inr (.inr (rowQ an)))))), ((an 2), .inr (6, [.int (v 18), .int (v 19), .int (v 20), .int (v 21), .int (v 22), .int (v 23), .int (v 24), .int (v 25)])), ((an 3), .inr (6, [.int (v 26), .int (v 27), .int (v 28), .int (v 29), .int (v 30), .int (v 31), .int (v 32), .int (v 33)])), ((an 4), .inr (6, [.int (v 34), .int (v 35), .int (v 36), .int (v 37), .int (v 38), .int (v 39), .int (v 40), .int (v 41)])), ((an 5), .inr (6, [.int (v 42), .int (v 43), .int (v 44), .int (v 45), .int (v 46), .int (v 47), .int (v 48), .int (v 49)])), ((an 6), .inr (6, [.int (v 50), .int (v 51), .int (v 52), .int (v 53), .int (v 54), .int (v 55), .int (v 56), .int (v 57)])), ((an 7), .inr (2, [.ref (an 8), .int (nI (b 1))])), ((an 8), .inl (X.2.1, 248, .inl (g 0))), ((an 9), .inr (5, [.int 5, .int 0, .int 1, .ref (an 10), .int (nI (b 2))])), ((an 10), .inl (X.2.1, 25, .inl (g 1))), ((an 11), .inr (5, [.int 6, .int 1, .int 1, .ref (an 12), .int (nI (b 3))])), ((an 12), .inl (X.2.1, 30, .inl (g 2))), ((an 13), .inr (5, [.int 6, .int 0, .int 0, .ref (an 14), .int (nI (b 4))])), ((an 14), .inl (X.2.1, 30, .inl (g 3)))]) G rfl rfl [2] [0, 1, 3, 4, 5, 6, 7, 8, 9, 10, 11, 12, 13, 14, 15] rfl rfl rfl rfl (n_V (As := [.int x1, .int x2, .int x3]) (rest := []) (C := RX8) (T := TX8) (N := 8) (ci := 6) S G (s_begin l X (an 1) (fun k => v (10 + k)) x1 x2 x3 s.heap.size) gX5_welcome_X8_begin rfl rfl rfl hdV_X8_begin ⟨Nat.le_of_ble_eq_true rfl, Nat.le_of_ble_eq_true rfl⟩ [2] rfl rfl 2 rfl rfl rfl hl.1 (Nat.le_of_ble_eq_true rfl) dX5_welcome_21 ⟨Nat.le_of_ble_eq_true rfl, Nat.le_of_ble_eq_true rfl⟩) (fun u_5 H locs hp_5 G => ?_)
        obtain ⟨v_5, rfl⟩ : ∃ z, z = u_5 := ⟨_, rfl⟩
        have hq_5 := hp_5
        obtain ⟨v_6, G⟩ : ∃ (v_6 : Nat → Int32), wd X (va_A (rcW X hn an v b g) sz) (va_A (rcW X hn an v b g) sz) s (rcW X hn an v_6 b g) H locs := ⟨(ovr v 10 8 v_5), wd_sub G [0, 1, 15, 2, 3, 4, 5, 6, 7, 8, 9, 10, 11, 12, 13, 14] rfl rfl⟩
        refine lv_aload_n zx zb dX5_welcome_24 rfl (lv_at hl 0 rfl) ?_
        refine lv_dup zx zb dX5_welcome_25 rfl ?_
        refine r_get (C := RX5) (T := TX5) (N := 8) (ci := 3) (v := .int (nI (b 0))) S in_X5_welcome_X5 G 0 rfl rfl 2 (by decide) lk_X5_welcome_18 rfl dX5_welcome_26 ?_
        refine lv_iconst (v := 1) zx zb dX5_welcome_29 (by decide) ?_
        refine r_iadd (v := (nI ((b 0) + 1))) S (nI_add (b 0) 1) dX5_welcome_30 ?_
        refine r_put (C := RX5) (T := TX5) (N := 8) (ci := 3) (v := .int (nI ((b 0) + 1))) S in_X5_welcome_X5 tyX5_ok nmX5 G 0 rfl rfl 2 (by decide) lk_X5_welcome_18 rfl (vp_nar_int _) rfl (Nat.le_of_ble_eq_true rfl) dX5_welcome_31 (fun H locs G => ?_)
        obtain ⟨b_7, hI_b_7, ⟨hE_b_7_0, hE_b_7_1, hE_b_7_2, hE_b_7_3, hE_b_7_4⟩, G⟩ : ∃ b_7 : Nat → Nat, InR b_7 ∧ (b_7 0 = ((b 0) + 1) ∧ b_7 1 = b 1 ∧ b_7 2 = b 2 ∧ b_7 3 = b 3 ∧ b_7 4 = b 4) ∧ wd X (va_A (rcW X hn an v b g) sz) (va_A (rcW X hn an v b g) sz) s (rcW X hn an v_6 b_7 g) H locs := ⟨upN b 0 ((b 0) + 1), ⟨(by show ((b 0) + 1) ≤ 6; omega), hI_b.2.1, hI_b.2.2.1, hI_b.2.2.2.1, hI_b.2.2.2.2⟩, ⟨rfl, rfl, rfl, rfl, rfl⟩, G⟩
        have hO_b_7 := hI_b_7
        obtain ⟨hb0_b_7, hb1_b_7, hb2_b_7, hb3_b_7, hb4_b_7⟩ := hO_b_7
        refine lv_aload_n zx zb dX5_welcome_34 rfl (lv_at hl 0 rfl) ?_
        refine r_get (C := RX5) (T := TX5) (N := 8) (ci := 3) (v := .ref (an 7)) S in_X5_welcome_X5 G 0 rfl rfl 4 (by decide) lk_X5_welcome_30 rfl dX5_welcome_35 ?_
        refine lv_iconst (v := 0) zx zb dX5_welcome_38 (by decide) ?_
        refine r_put (C := RX4) (T := TX4) (N := 2) (ci := 2) (v := .int 0) S in_X5_welcome_X4 tyX4_ok nmX4 G 8 rfl rfl 1 (by decide) lk_X5_welcome_50 rfl (vp_nar_int _) rfl (Nat.le_of_ble_eq_true rfl) dX5_welcome_39 (fun H locs G => ?_)
        obtain ⟨b_8, hI_b_8, ⟨hE_b_8_1, hE_b_8_0, hE_b_8_2, hE_b_8_3, hE_b_8_4⟩, G⟩ : ∃ b_8 : Nat → Nat, InR b_8 ∧ (b_8 1 = 0 ∧ b_8 0 = b_7 0 ∧ b_8 2 = b_7 2 ∧ b_8 3 = b_7 3 ∧ b_8 4 = b_7 4) ∧ wd X (va_A (rcW X hn an v b g) sz) (va_A (rcW X hn an v b g) sz) s (rcW X hn an v_6 b_8 g) H locs := ⟨upN b_7 1 0, ⟨hI_b_7.1, (by show 0 ≤ 8; omega), hI_b_7.2.2.1, hI_b_7.2.2.2.1, hI_b_7.2.2.2.2⟩, ⟨rfl, rfl, rfl, rfl, rfl⟩, G⟩
        have hO_b_8 := hI_b_8
        obtain ⟨hb0_b_8, hb1_b_8, hb2_b_8, hb3_b_8, hb4_b_8⟩ := hO_b_8
        exact join_6 v_6 b_8 _ _ _ hI_b_8 G hl
      · refine k_it (v := 1) (by rw [q_4]; rfl) ?_
        refine r_aald (C := RX8) (b := (an 2)) S G 1 3 rfl rfl (k_vp (by decide)) rfl dX5_welcome_17 ?_
        refine lv_iload_n zx zb dX5_welcome_18 rfl (lv_at hl 1 rfl) ?_
        refine lv_iload_n zx zb dX5_welcome_19 rfl (lv_at hl 2 rfl) ?_
        refine lv_iload_n zx zb dX5_welcome_20 rfl (lv_at hl 3 rfl) ?_
        refine b_wv (cells' := 0) (slots' := 0) (wr := [(hn, .inr (3, [.int (v 0), .int (v 1), .int (nI (b 0)), .ref (an 0), .ref (an 7), .ref (an 9), .ref (an 11), .ref (an 13)])), ((an 0), .inl (X.2.2.2.2, 6, .inr (.inr (.inr (.inr (rowQ an)))))), ((an 1), .inr (6, [.int (v 10), .int (v 11), .int (v 12), .int (v 13), .int (v 14), .int (v 15), .int (v 16), .int (v 17)])), ((an 3), .inr (6, [.int (v 26), .int (v 27), .int (v 28), .int (v 29), .int (v 30), .int (v 31), .int (v 32), .int (v 33)])), ((an 4), .inr (6, [.int (v 34), .int (v 35), .int (v 36), .int (v 37), .int (v 38), .int (v 39), .int (v 40), .int (v 41)])), ((an 5), .inr (6, [.int (v 42), .int (v 43), .int (v 44), .int (v 45), .int (v 46), .int (v 47), .int (v 48), .int (v 49)])), ((an 6), .inr (6, [.int (v 50), .int (v 51), .int (v 52), .int (v 53), .int (v 54), .int (v 55), .int (v 56), .int (v 57)])), ((an 7), .inr (2, [.ref (an 8), .int (nI (b 1))])), ((an 8), .inl (X.2.1, 248, .inl (g 0))), ((an 9), .inr (5, [.int 5, .int 0, .int 1, .ref (an 10), .int (nI (b 2))])), ((an 10), .inl (X.2.1, 25, .inl (g 1))), ((an 11), .inr (5, [.int 6, .int 1, .int 1, .ref (an 12), .int (nI (b 3))])), ((an 12), .inl (X.2.1, 30, .inl (g 2))), ((an 13), .inr (5, [.int 6, .int 0, .int 0, .ref (an 14), .int (nI (b 4))])), ((an 14), .inl (X.2.1, 30, .inl (g 3)))]) G rfl rfl [3] [0, 1, 2, 4, 5, 6, 7, 8, 9, 10, 11, 12, 13, 14, 15] rfl rfl rfl rfl (n_V (As := [.int x1, .int x2, .int x3]) (rest := []) (C := RX8) (T := TX8) (N := 8) (ci := 6) S G (s_begin l X (an 2) (fun k => v (18 + k)) x1 x2 x3 s.heap.size) gX5_welcome_X8_begin rfl rfl rfl hdV_X8_begin ⟨Nat.le_of_ble_eq_true rfl, Nat.le_of_ble_eq_true rfl⟩ [3] rfl rfl 3 rfl rfl rfl hl.1 (Nat.le_of_ble_eq_true rfl) dX5_welcome_21 ⟨Nat.le_of_ble_eq_true rfl, Nat.le_of_ble_eq_true rfl⟩) (fun u_9 H locs hp_9 G => ?_)
        obtain ⟨v_9, rfl⟩ : ∃ z, z = u_9 := ⟨_, rfl⟩
        have hq_9 := hp_9
        obtain ⟨v_10, G⟩ : ∃ (v_10 : Nat → Int32), wd X (va_A (rcW X hn an v b g) sz) (va_A (rcW X hn an v b g) sz) s (rcW X hn an v_10 b g) H locs := ⟨(ovr v 18 8 v_9), wd_sub G [0, 1, 2, 15, 3, 4, 5, 6, 7, 8, 9, 10, 11, 12, 13, 14] rfl rfl⟩
        refine lv_aload_n zx zb dX5_welcome_24 rfl (lv_at hl 0 rfl) ?_
        refine lv_dup zx zb dX5_welcome_25 rfl ?_
        refine r_get (C := RX5) (T := TX5) (N := 8) (ci := 3) (v := .int (nI (b 0))) S in_X5_welcome_X5 G 0 rfl rfl 2 (by decide) lk_X5_welcome_18 rfl dX5_welcome_26 ?_
        refine lv_iconst (v := 1) zx zb dX5_welcome_29 (by decide) ?_
        refine r_iadd (v := (nI ((b 0) + 1))) S (nI_add (b 0) 1) dX5_welcome_30 ?_
        refine r_put (C := RX5) (T := TX5) (N := 8) (ci := 3) (v := .int (nI ((b 0) + 1))) S in_X5_welcome_X5 tyX5_ok nmX5 G 0 rfl rfl 2 (by decide) lk_X5_welcome_18 rfl (vp_nar_int _) rfl (Nat.le_of_ble_eq_true rfl) dX5_welcome_31 (fun H locs G => ?_)
        obtain ⟨b_11, hI_b_11, ⟨hE_b_11_0, hE_b_11_1, hE_b_11_2, hE_b_11_3, hE_b_11_4⟩, G⟩ : ∃ b_11 : Nat → Nat, InR b_11 ∧ (b_11 0 = ((b 0) + 1) ∧ b_11 1 = b 1 ∧ b_11 2 = b 2 ∧ b_11 3 = b 3 ∧ b_11 4 = b 4) ∧ wd X (va_A (rcW X hn an v b g) sz) (va_A (rcW X hn an v b g) sz) s (rcW X hn an v_10 b_11 g) H locs := ⟨upN b 0 ((b 0) + 1), ⟨(by show ((b 0) + 1) ≤ 6; omega), hI_b.2.1, hI_b.2.2.1, hI_b.2.2.2.1, hI_b.2.2.2.2⟩, ⟨rfl, rfl, rfl, rfl, rfl⟩, G⟩
        have hO_b_11 := hI_b_11
        obtain ⟨hb0_b_11, hb1_b_11, hb2_b_11, hb3_b_11, hb4_b_11⟩ := hO_b_11
        refine lv_aload_n zx zb dX5_welcome_34 rfl (lv_at hl 0 rfl) ?_
        refine r_get (C := RX5) (T := TX5) (N := 8) (ci := 3) (v := .ref (an 7)) S in_X5_welcome_X5 G 0 rfl rfl 4 (by decide) lk_X5_welcome_30 rfl dX5_welcome_35 ?_
        refine lv_iconst (v := 0) zx zb dX5_welcome_38 (by decide) ?_
        refine r_put (C := RX4) (T := TX4) (N := 2) (ci := 2) (v := .int 0) S in_X5_welcome_X4 tyX4_ok nmX4 G 8 rfl rfl 1 (by decide) lk_X5_welcome_50 rfl (vp_nar_int _) rfl (Nat.le_of_ble_eq_true rfl) dX5_welcome_39 (fun H locs G => ?_)
        obtain ⟨b_12, hI_b_12, ⟨hE_b_12_1, hE_b_12_0, hE_b_12_2, hE_b_12_3, hE_b_12_4⟩, G⟩ : ∃ b_12 : Nat → Nat, InR b_12 ∧ (b_12 1 = 0 ∧ b_12 0 = b_11 0 ∧ b_12 2 = b_11 2 ∧ b_12 3 = b_11 3 ∧ b_12 4 = b_11 4) ∧ wd X (va_A (rcW X hn an v b g) sz) (va_A (rcW X hn an v b g) sz) s (rcW X hn an v_10 b_12 g) H locs := ⟨upN b_11 1 0, ⟨hI_b_11.1, (by show 0 ≤ 8; omega), hI_b_11.2.2.1, hI_b_11.2.2.2.1, hI_b_11.2.2.2.2⟩, ⟨rfl, rfl, rfl, rfl, rfl⟩, G⟩
        have hO_b_12 := hI_b_12
        obtain ⟨hb0_b_12, hb1_b_12, hb2_b_12, hb3_b_12, hb4_b_12⟩ := hO_b_12
        exact join_6 v_10 b_12 _ _ _ hI_b_12 G hl
      · refine k_it (v := 2) (by rw [q_4]; rfl) ?_
        refine r_aald (C := RX8) (b := (an 3)) S G 1 3 rfl rfl (k_vp (by decide)) rfl dX5_welcome_17 ?_
        refine lv_iload_n zx zb dX5_welcome_18 rfl (lv_at hl 1 rfl) ?_
        refine lv_iload_n zx zb dX5_welcome_19 rfl (lv_at hl 2 rfl) ?_
        refine lv_iload_n zx zb dX5_welcome_20 rfl (lv_at hl 3 rfl) ?_
        refine b_wv (cells' := 0) (slots' := 0) (wr := [(hn, .inr (3, [.int (v 0), .int (v 1), .int (nI (b 0)), .ref (an 0), .ref (an 7), .ref (an 9), .ref (an 11), .ref (an 13)])), ((an 0), .inl (X.2.2.2.2, 6, .inr (.inr (.inr (.inr (rowQ an)))))), ((an 1), .inr (6, [.int (v 10), .int (v 11), .int (v 12), .int (v 13), .int (v 14), .int (v 15), .int (v 16), .int (v 17)])), ((an 2), .inr (6, [.int (v 18), .int (v 19), .int (v 20), .int (v 21), .int (v 22), .int (v 23), .int (v 24), .int (v 25)])), ((an 4), .inr (6, [.int (v 34), .int (v 35), .int (v 36), .int (v 37), .int (v 38), .int (v 39), .int (v 40), .int (v 41)])), ((an 5), .inr (6, [.int (v 42), .int (v 43), .int (v 44), .int (v 45), .int (v 46), .int (v 47), .int (v 48), .int (v 49)])), ((an 6), .inr (6, [.int (v 50), .int (v 51), .int (v 52), .int (v 53), .int (v 54), .int (v 55), .int (v 56), .int (v 57)])), ((an 7), .inr (2, [.ref (an 8), .int (nI (b 1))])), ((an 8), .inl (X.2.1, 248, .inl (g 0))), ((an 9), .inr (5, [.int 5, .int 0, .int 1, .ref (an 10), .int (nI (b 2))])), ((an 10), .inl (X.2.1, 25, .inl (g 1))), ((an 11), .inr (5, [.int 6, .int 1, .int 1, .ref (an 12), .int (nI (b 3))])), ((an 12), .inl (X.2.1, 30, .inl (g 2))), ((an 13), .inr (5, [.int 6, .int 0, .int 0, .ref (an 14), .int (nI (b 4))])), ((an 14), .inl (X.2.1, 30, .inl (g 3)))]) G rfl rfl [4] [0, 1, 2, 3, 5, 6, 7, 8, 9, 10, 11, 12, 13, 14, 15] rfl rfl rfl rfl (n_V (As := [.int x1, .int x2, .int x3]) (rest := []) (C := RX8) (T := TX8) (N := 8) (ci := 6) S G (s_begin l X (an 3) (fun k => v (26 + k)) x1 x2 x3 s.heap.size) gX5_welcome_X8_begin rfl rfl rfl hdV_X8_begin ⟨Nat.le_of_ble_eq_true rfl, Nat.le_of_ble_eq_true rfl⟩ [4] rfl rfl 4 rfl rfl rfl hl.1 (Nat.le_of_ble_eq_true rfl) dX5_welcome_21 ⟨Nat.le_of_ble_eq_true rfl, Nat.le_of_ble_eq_true rfl⟩) (fun u_13 H locs hp_13 G => ?_)
        obtain ⟨v_13, rfl⟩ : ∃ z, z = u_13 := ⟨_, rfl⟩
        have hq_13 := hp_13
        obtain ⟨v_14, G⟩ : ∃ (v_14 : Nat → Int32), wd X (va_A (rcW X hn an v b g) sz) (va_A (rcW X hn an v b g) sz) s (rcW X hn an v_14 b g) H locs := ⟨(ovr v 26 8 v_13), wd_sub G [0, 1, 2, 3, 15, 4, 5, 6, 7, 8, 9, 10, 11, 12, 13, 14] rfl rfl⟩
        refine lv_aload_n zx zb dX5_welcome_24 rfl (lv_at hl 0 rfl) ?_
        refine lv_dup zx zb dX5_welcome_25 rfl ?_
        refine r_get (C := RX5) (T := TX5) (N := 8) (ci := 3) (v := .int (nI (b 0))) S in_X5_welcome_X5 G 0 rfl rfl 2 (by decide) lk_X5_welcome_18 rfl dX5_welcome_26 ?_
        refine lv_iconst (v := 1) zx zb dX5_welcome_29 (by decide) ?_
        refine r_iadd (v := (nI ((b 0) + 1))) S (nI_add (b 0) 1) dX5_welcome_30 ?_
        refine r_put (C := RX5) (T := TX5) (N := 8) (ci := 3) (v := .int (nI ((b 0) + 1))) S in_X5_welcome_X5 tyX5_ok nmX5 G 0 rfl rfl 2 (by decide) lk_X5_welcome_18 rfl (vp_nar_int _) rfl (Nat.le_of_ble_eq_true rfl) dX5_welcome_31 (fun H locs G => ?_)
        obtain ⟨b_15, hI_b_15, ⟨hE_b_15_0, hE_b_15_1, hE_b_15_2, hE_b_15_3, hE_b_15_4⟩, G⟩ : ∃ b_15 : Nat → Nat, InR b_15 ∧ (b_15 0 = ((b 0) + 1) ∧ b_15 1 = b 1 ∧ b_15 2 = b 2 ∧ b_15 3 = b 3 ∧ b_15 4 = b 4) ∧ wd X (va_A (rcW X hn an v b g) sz) (va_A (rcW X hn an v b g) sz) s (rcW X hn an v_14 b_15 g) H locs := ⟨upN b 0 ((b 0) + 1), ⟨(by show ((b 0) + 1) ≤ 6; omega), hI_b.2.1, hI_b.2.2.1, hI_b.2.2.2.1, hI_b.2.2.2.2⟩, ⟨rfl, rfl, rfl, rfl, rfl⟩, G⟩
        have hO_b_15 := hI_b_15
        obtain ⟨hb0_b_15, hb1_b_15, hb2_b_15, hb3_b_15, hb4_b_15⟩ := hO_b_15
        refine lv_aload_n zx zb dX5_welcome_34 rfl (lv_at hl 0 rfl) ?_
        refine r_get (C := RX5) (T := TX5) (N := 8) (ci := 3) (v := .ref (an 7)) S in_X5_welcome_X5 G 0 rfl rfl 4 (by decide) lk_X5_welcome_30 rfl dX5_welcome_35 ?_
        refine lv_iconst (v := 0) zx zb dX5_welcome_38 (by decide) ?_
        refine r_put (C := RX4) (T := TX4) (N := 2) (ci := 2) (v := .int 0) S in_X5_welcome_X4 tyX4_ok nmX4 G 8 rfl rfl 1 (by decide) lk_X5_welcome_50 rfl (vp_nar_int _) rfl (Nat.le_of_ble_eq_true rfl) dX5_welcome_39 (fun H locs G => ?_)
        obtain ⟨b_16, hI_b_16, ⟨hE_b_16_1, hE_b_16_0, hE_b_16_2, hE_b_16_3, hE_b_16_4⟩, G⟩ : ∃ b_16 : Nat → Nat, InR b_16 ∧ (b_16 1 = 0 ∧ b_16 0 = b_15 0 ∧ b_16 2 = b_15 2 ∧ b_16 3 = b_15 3 ∧ b_16 4 = b_15 4) ∧ wd X (va_A (rcW X hn an v b g) sz) (va_A (rcW X hn an v b g) sz) s (rcW X hn an v_14 b_16 g) H locs := ⟨upN b_15 1 0, ⟨hI_b_15.1, (by show 0 ≤ 8; omega), hI_b_15.2.2.1, hI_b_15.2.2.2.1, hI_b_15.2.2.2.2⟩, ⟨rfl, rfl, rfl, rfl, rfl⟩, G⟩
        have hO_b_16 := hI_b_16
        obtain ⟨hb0_b_16, hb1_b_16, hb2_b_16, hb3_b_16, hb4_b_16⟩ := hO_b_16
        exact join_6 v_14 b_16 _ _ _ hI_b_16 G hl
      · refine k_it (v := 3) (by rw [q_4]; rfl) ?_
        refine r_aald (C := RX8) (b := (an 4)) S G 1 3 rfl rfl (k_vp (by decide)) rfl dX5_welcome_17 ?_
        refine lv_iload_n zx zb dX5_welcome_18 rfl (lv_at hl 1 rfl) ?_
        refine lv_iload_n zx zb dX5_welcome_19 rfl (lv_at hl 2 rfl) ?_
        refine lv_iload_n zx zb dX5_welcome_20 rfl (lv_at hl 3 rfl) ?_
        refine b_wv (cells' := 0) (slots' := 0) (wr := [(hn, .inr (3, [.int (v 0), .int (v 1), .int (nI (b 0)), .ref (an 0), .ref (an 7), .ref (an 9), .ref (an 11), .ref (an 13)])), ((an 0), .inl (X.2.2.2.2, 6, .inr (.inr (.inr (.inr (rowQ an)))))), ((an 1), .inr (6, [.int (v 10), .int (v 11), .int (v 12), .int (v 13), .int (v 14), .int (v 15), .int (v 16), .int (v 17)])), ((an 2), .inr (6, [.int (v 18), .int (v 19), .int (v 20), .int (v 21), .int (v 22), .int (v 23), .int (v 24), .int (v 25)])), ((an 3), .inr (6, [.int (v 26), .int (v 27), .int (v 28), .int (v 29), .int (v 30), .int (v 31), .int (v 32), .int (v 33)])), ((an 5), .inr (6, [.int (v 42), .int (v 43), .int (v 44), .int (v 45), .int (v 46), .int (v 47), .int (v 48), .int (v 49)])), ((an 6), .inr (6, [.int (v 50), .int (v 51), .int (v 52), .int (v 53), .int (v 54), .int (v 55), .int (v 56), .int (v 57)])), ((an 7), .inr (2, [.ref (an 8), .int (nI (b 1))])), ((an 8), .inl (X.2.1, 248, .inl (g 0))), ((an 9), .inr (5, [.int 5, .int 0, .int 1, .ref (an 10), .int (nI (b 2))])), ((an 10), .inl (X.2.1, 25, .inl (g 1))), ((an 11), .inr (5, [.int 6, .int 1, .int 1, .ref (an 12), .int (nI (b 3))])), ((an 12), .inl (X.2.1, 30, .inl (g 2))), ((an 13), .inr (5, [.int 6, .int 0, .int 0, .ref (an 14), .int (nI (b 4))])), ((an 14), .inl (X.2.1, 30, .inl (g 3)))]) G rfl rfl [5] [0, 1, 2, 3, 4, 6, 7, 8, 9, 10, 11, 12, 13, 14, 15] rfl rfl rfl rfl (n_V (As := [.int x1, .int x2, .int x3]) (rest := []) (C := RX8) (T := TX8) (N := 8) (ci := 6) S G (s_begin l X (an 4) (fun k => v (34 + k)) x1 x2 x3 s.heap.size) gX5_welcome_X8_begin rfl rfl rfl hdV_X8_begin ⟨Nat.le_of_ble_eq_true rfl, Nat.le_of_ble_eq_true rfl⟩ [5] rfl rfl 5 rfl rfl rfl hl.1 (Nat.le_of_ble_eq_true rfl) dX5_welcome_21 ⟨Nat.le_of_ble_eq_true rfl, Nat.le_of_ble_eq_true rfl⟩) (fun u_17 H locs hp_17 G => ?_)
        obtain ⟨v_17, rfl⟩ : ∃ z, z = u_17 := ⟨_, rfl⟩
        have hq_17 := hp_17
        obtain ⟨v_18, G⟩ : ∃ (v_18 : Nat → Int32), wd X (va_A (rcW X hn an v b g) sz) (va_A (rcW X hn an v b g) sz) s (rcW X hn an v_18 b g) H locs := ⟨(ovr v 34 8 v_17), wd_sub G [0, 1, 2, 3, 4, 15, 5, 6, 7, 8, 9, 10, 11, 12, 13, 14] rfl rfl⟩
        refine lv_aload_n zx zb dX5_welcome_24 rfl (lv_at hl 0 rfl) ?_
        refine lv_dup zx zb dX5_welcome_25 rfl ?_
        refine r_get (C := RX5) (T := TX5) (N := 8) (ci := 3) (v := .int (nI (b 0))) S in_X5_welcome_X5 G 0 rfl rfl 2 (by decide) lk_X5_welcome_18 rfl dX5_welcome_26 ?_
        refine lv_iconst (v := 1) zx zb dX5_welcome_29 (by decide) ?_
        refine r_iadd (v := (nI ((b 0) + 1))) S (nI_add (b 0) 1) dX5_welcome_30 ?_
        refine r_put (C := RX5) (T := TX5) (N := 8) (ci := 3) (v := .int (nI ((b 0) + 1))) S in_X5_welcome_X5 tyX5_ok nmX5 G 0 rfl rfl 2 (by decide) lk_X5_welcome_18 rfl (vp_nar_int _) rfl (Nat.le_of_ble_eq_true rfl) dX5_welcome_31 (fun H locs G => ?_)
        obtain ⟨b_19, hI_b_19, ⟨hE_b_19_0, hE_b_19_1, hE_b_19_2, hE_b_19_3, hE_b_19_4⟩, G⟩ : ∃ b_19 : Nat → Nat, InR b_19 ∧ (b_19 0 = ((b 0) + 1) ∧ b_19 1 = b 1 ∧ b_19 2 = b 2 ∧ b_19 3 = b 3 ∧ b_19 4 = b 4) ∧ wd X (va_A (rcW X hn an v b g) sz) (va_A (rcW X hn an v b g) sz) s (rcW X hn an v_18 b_19 g) H locs := ⟨upN b 0 ((b 0) + 1), ⟨(by show ((b 0) + 1) ≤ 6; omega), hI_b.2.1, hI_b.2.2.1, hI_b.2.2.2.1, hI_b.2.2.2.2⟩, ⟨rfl, rfl, rfl, rfl, rfl⟩, G⟩
        have hO_b_19 := hI_b_19
        obtain ⟨hb0_b_19, hb1_b_19, hb2_b_19, hb3_b_19, hb4_b_19⟩ := hO_b_19
        refine lv_aload_n zx zb dX5_welcome_34 rfl (lv_at hl 0 rfl) ?_
        refine r_get (C := RX5) (T := TX5) (N := 8) (ci := 3) (v := .ref (an 7)) S in_X5_welcome_X5 G 0 rfl rfl 4 (by decide) lk_X5_welcome_30 rfl dX5_welcome_35 ?_
        refine lv_iconst (v := 0) zx zb dX5_welcome_38 (by decide) ?_
        refine r_put (C := RX4) (T := TX4) (N := 2) (ci := 2) (v := .int 0) S in_X5_welcome_X4 tyX4_ok nmX4 G 8 rfl rfl 1 (by decide) lk_X5_welcome_50 rfl (vp_nar_int _) rfl (Nat.le_of_ble_eq_true rfl) dX5_welcome_39 (fun H locs G => ?_)
        obtain ⟨b_20, hI_b_20, ⟨hE_b_20_1, hE_b_20_0, hE_b_20_2, hE_b_20_3, hE_b_20_4⟩, G⟩ : ∃ b_20 : Nat → Nat, InR b_20 ∧ (b_20 1 = 0 ∧ b_20 0 = b_19 0 ∧ b_20 2 = b_19 2 ∧ b_20 3 = b_19 3 ∧ b_20 4 = b_19 4) ∧ wd X (va_A (rcW X hn an v b g) sz) (va_A (rcW X hn an v b g) sz) s (rcW X hn an v_18 b_20 g) H locs := ⟨upN b_19 1 0, ⟨hI_b_19.1, (by show 0 ≤ 8; omega), hI_b_19.2.2.1, hI_b_19.2.2.2.1, hI_b_19.2.2.2.2⟩, ⟨rfl, rfl, rfl, rfl, rfl⟩, G⟩
        have hO_b_20 := hI_b_20
        obtain ⟨hb0_b_20, hb1_b_20, hb2_b_20, hb3_b_20, hb4_b_20⟩ := hO_b_20
        exact join_6 v_18 b_20 _ _ _ hI_b_20 G hl
      · refine k_it (v := 4) (by rw [q_4]; rfl) ?_
        refine r_aald (C := RX8) (b := (an 5)) S G 1 3 rfl rfl (k_vp (by decide)) rfl dX5_welcome_17 ?_
        refine lv_iload_n zx zb dX5_welcome_18 rfl (lv_at hl 1 rfl) ?_
        refine lv_iload_n zx zb dX5_welcome_19 rfl (lv_at hl 2 rfl) ?_
        refine lv_iload_n zx zb dX5_welcome_20 rfl (lv_at hl 3 rfl) ?_
        refine b_wv (cells' := 0) (slots' := 0) (wr := [(hn, .inr (3, [.int (v 0), .int (v 1), .int (nI (b 0)), .ref (an 0), .ref (an 7), .ref (an 9), .ref (an 11), .ref (an 13)])), ((an 0), .inl (X.2.2.2.2, 6, .inr (.inr (.inr (.inr (rowQ an)))))), ((an 1), .inr (6, [.int (v 10), .int (v 11), .int (v 12), .int (v 13), .int (v 14), .int (v 15), .int (v 16), .int (v 17)])), ((an 2), .inr (6, [.int (v 18), .int (v 19), .int (v 20), .int (v 21), .int (v 22), .int (v 23), .int (v 24), .int (v 25)])), ((an 3), .inr (6, [.int (v 26), .int (v 27), .int (v 28), .int (v 29), .int (v 30), .int (v 31), .int (v 32), .int (v 33)])), ((an 4), .inr (6, [.int (v 34), .int (v 35), .int (v 36), .int (v 37), .int (v 38), .int (v 39), .int (v 40), .int (v 41)])), ((an 6), .inr (6, [.int (v 50), .int (v 51), .int (v 52), .int (v 53), .int (v 54), .int (v 55), .int (v 56), .int (v 57)])), ((an 7), .inr (2, [.ref (an 8), .int (nI (b 1))])), ((an 8), .inl (X.2.1, 248, .inl (g 0))), ((an 9), .inr (5, [.int 5, .int 0, .int 1, .ref (an 10), .int (nI (b 2))])), ((an 10), .inl (X.2.1, 25, .inl (g 1))), ((an 11), .inr (5, [.int 6, .int 1, .int 1, .ref (an 12), .int (nI (b 3))])), ((an 12), .inl (X.2.1, 30, .inl (g 2))), ((an 13), .inr (5, [.int 6, .int 0, .int 0, .ref (an 14), .int (nI (b 4))])), ((an 14), .inl (X.2.1, 30, .inl (g 3)))]) G rfl rfl [6] [0, 1, 2, 3, 4, 5, 7, 8, 9, 10, 11, 12, 13, 14, 15] rfl rfl rfl rfl (n_V (As := [.int x1, .int x2, .int x3]) (rest := []) (C := RX8) (T := TX8) (N := 8) (ci := 6) S G (s_begin l X (an 5) (fun k => v (42 + k)) x1 x2 x3 s.heap.size) gX5_welcome_X8_begin rfl rfl rfl hdV_X8_begin ⟨Nat.le_of_ble_eq_true rfl, Nat.le_of_ble_eq_true rfl⟩ [6] rfl rfl 6 rfl rfl rfl hl.1 (Nat.le_of_ble_eq_true rfl) dX5_welcome_21 ⟨Nat.le_of_ble_eq_true rfl, Nat.le_of_ble_eq_true rfl⟩) (fun u_21 H locs hp_21 G => ?_)
        obtain ⟨v_21, rfl⟩ : ∃ z, z = u_21 := ⟨_, rfl⟩
        have hq_21 := hp_21
        obtain ⟨v_22, G⟩ : ∃ (v_22 : Nat → Int32), wd X (va_A (rcW X hn an v b g) sz) (va_A (rcW X hn an v b g) sz) s (rcW X hn an v_22 b g) H locs := ⟨(ovr v 42 8 v_21), wd_sub G [0, 1, 2, 3, 4, 5, 15, 6, 7, 8, 9, 10, 11, 12, 13, 14] rfl rfl⟩
        refine lv_aload_n zx zb dX5_welcome_24 rfl (lv_at hl 0 rfl) ?_
        refine lv_dup zx zb dX5_welcome_25 rfl ?_
        refine r_get (C := RX5) (T := TX5) (N := 8) (ci := 3) (v := .int (nI (b 0))) S in_X5_welcome_X5 G 0 rfl rfl 2 (by decide) lk_X5_welcome_18 rfl dX5_welcome_26 ?_
        refine lv_iconst (v := 1) zx zb dX5_welcome_29 (by decide) ?_
        refine r_iadd (v := (nI ((b 0) + 1))) S (nI_add (b 0) 1) dX5_welcome_30 ?_
        refine r_put (C := RX5) (T := TX5) (N := 8) (ci := 3) (v := .int (nI ((b 0) + 1))) S in_X5_welcome_X5 tyX5_ok nmX5 G 0 rfl rfl 2 (by decide) lk_X5_welcome_18 rfl (vp_nar_int _) rfl (Nat.le_of_ble_eq_true rfl) dX5_welcome_31 (fun H locs G => ?_)
        obtain ⟨b_23, hI_b_23, ⟨hE_b_23_0, hE_b_23_1, hE_b_23_2, hE_b_23_3, hE_b_23_4⟩, G⟩ : ∃ b_23 : Nat → Nat, InR b_23 ∧ (b_23 0 = ((b 0) + 1) ∧ b_23 1 = b 1 ∧ b_23 2 = b 2 ∧ b_23 3 = b 3 ∧ b_23 4 = b 4) ∧ wd X (va_A (rcW X hn an v b g) sz) (va_A (rcW X hn an v b g) sz) s (rcW X hn an v_22 b_23 g) H locs := ⟨upN b 0 ((b 0) + 1), ⟨(by show ((b 0) + 1) ≤ 6; omega), hI_b.2.1, hI_b.2.2.1, hI_b.2.2.2.1, hI_b.2.2.2.2⟩, ⟨rfl, rfl, rfl, rfl, rfl⟩, G⟩
        have hO_b_23 := hI_b_23
        obtain ⟨hb0_b_23, hb1_b_23, hb2_b_23, hb3_b_23, hb4_b_23⟩ := hO_b_23
        refine lv_aload_n zx zb dX5_welcome_34 rfl (lv_at hl 0 rfl) ?_
        refine r_get (C := RX5) (T := TX5) (N := 8) (ci := 3) (v := .ref (an 7)) S in_X5_welcome_X5 G 0 rfl rfl 4 (by decide) lk_X5_welcome_30 rfl dX5_welcome_35 ?_
        refine lv_iconst (v := 0) zx zb dX5_welcome_38 (by decide) ?_
        refine r_put (C := RX4) (T := TX4) (N := 2) (ci := 2) (v := .int 0) S in_X5_welcome_X4 tyX4_ok nmX4 G 8 rfl rfl 1 (by decide) lk_X5_welcome_50 rfl (vp_nar_int _) rfl (Nat.le_of_ble_eq_true rfl) dX5_welcome_39 (fun H locs G => ?_)
        obtain ⟨b_24, hI_b_24, ⟨hE_b_24_1, hE_b_24_0, hE_b_24_2, hE_b_24_3, hE_b_24_4⟩, G⟩ : ∃ b_24 : Nat → Nat, InR b_24 ∧ (b_24 1 = 0 ∧ b_24 0 = b_23 0 ∧ b_24 2 = b_23 2 ∧ b_24 3 = b_23 3 ∧ b_24 4 = b_23 4) ∧ wd X (va_A (rcW X hn an v b g) sz) (va_A (rcW X hn an v b g) sz) s (rcW X hn an v_22 b_24 g) H locs := ⟨upN b_23 1 0, ⟨hI_b_23.1, (by show 0 ≤ 8; omega), hI_b_23.2.2.1, hI_b_23.2.2.2.1, hI_b_23.2.2.2.2⟩, ⟨rfl, rfl, rfl, rfl, rfl⟩, G⟩
        have hO_b_24 := hI_b_24
        obtain ⟨hb0_b_24, hb1_b_24, hb2_b_24, hb3_b_24, hb4_b_24⟩ := hO_b_24
        exact join_6 v_22 b_24 _ _ _ hI_b_24 G hl
      · refine k_it (v := 5) (by rw [q_4]; rfl) ?_
        refine r_aald (C := RX8) (b := (an 6)) S G 1 3 rfl rfl (k_vp (by decide)) rfl dX5_welcome_17 ?_
        refine lv_iload_n zx zb dX5_welcome_18 rfl (lv_at hl 1 rfl) ?_
        refine lv_iload_n zx zb dX5_welcome_19 rfl (lv_at hl 2 rfl) ?_
        refine lv_iload_n zx zb dX5_welcome_20 rfl (lv_at hl 3 rfl) ?_
        refine b_wv (cells' := 0) (slots' := 0) (wr := [(hn, .inr (3, [.int (v 0), .int (v 1), .int (nI (b 0)), .ref (an 0), .ref (an 7), .ref (an 9), .ref (an 11), .ref (an 13)])), ((an 0), .inl (X.2.2.2.2, 6, .inr (.inr (.inr (.inr (rowQ an)))))), ((an 1), .inr (6, [.int (v 10), .int (v 11), .int (v 12), .int (v 13), .int (v 14), .int (v 15), .int (v 16), .int (v 17)])), ((an 2), .inr (6, [.int (v 18), .int (v 19), .int (v 20), .int (v 21), .int (v 22), .int (v 23), .int (v 24), .int (v 25)])), ((an 3), .inr (6, [.int (v 26), .int (v 27), .int (v 28), .int (v 29), .int (v 30), .int (v 31), .int (v 32), .int (v 33)])), ((an 4), .inr (6, [.int (v 34), .int (v 35), .int (v 36), .int (v 37), .int (v 38), .int (v 39), .int (v 40), .int (v 41)])), ((an 5), .inr (6, [.int (v 42), .int (v 43), .int (v 44), .int (v 45), .int (v 46), .int (v 47), .int (v 48), .int (v 49)])), ((an 7), .inr (2, [.ref (an 8), .int (nI (b 1))])), ((an 8), .inl (X.2.1, 248, .inl (g 0))), ((an 9), .inr (5, [.int 5, .int 0, .int 1, .ref (an 10), .int (nI (b 2))])), ((an 10), .inl (X.2.1, 25, .inl (g 1))), ((an 11), .inr (5, [.int 6, .int 1, .int 1, .ref (an 12), .int (nI (b 3))])), ((an 12), .inl (X.2.1, 30, .inl (g 2))), ((an 13), .inr (5, [.int 6, .int 0, .int 0, .ref (an 14), .int (nI (b 4))])), ((an 14), .inl (X.2.1, 30, .inl (g 3)))]) G rfl rfl [7] [0, 1, 2, 3, 4, 5, 6, 8, 9, 10, 11, 12, 13, 14, 15] rfl rfl rfl rfl (n_V (As := [.int x1, .int x2, .int x3]) (rest := []) (C := RX8) (T := TX8) (N := 8) (ci := 6) S G (s_begin l X (an 6) (fun k => v (50 + k)) x1 x2 x3 s.heap.size) gX5_welcome_X8_begin rfl rfl rfl hdV_X8_begin ⟨Nat.le_of_ble_eq_true rfl, Nat.le_of_ble_eq_true rfl⟩ [7] rfl rfl 7 rfl rfl rfl hl.1 (Nat.le_of_ble_eq_true rfl) dX5_welcome_21 ⟨Nat.le_of_ble_eq_true rfl, Nat.le_of_ble_eq_true rfl⟩) (fun u_25 H locs hp_25 G => ?_)
        obtain ⟨v_25, rfl⟩ : ∃ z, z = u_25 := ⟨_, rfl⟩
        have hq_25 := hp_25
        obtain ⟨v_26, G⟩ : ∃ (v_26 : Nat → Int32), wd X (va_A (rcW X hn an v b g) sz) (va_A (rcW X hn an v b g) sz) s (rcW X hn an v_26 b g) H locs := ⟨(ovr v 50 8 v_25), wd_sub G [0, 1, 2, 3, 4, 5, 6, 15, 7, 8, 9, 10, 11, 12, 13, 14] rfl rfl⟩
        refine lv_aload_n zx zb dX5_welcome_24 rfl (lv_at hl 0 rfl) ?_
        refine lv_dup zx zb dX5_welcome_25 rfl ?_
        refine r_get (C := RX5) (T := TX5) (N := 8) (ci := 3) (v := .int (nI (b 0))) S in_X5_welcome_X5 G 0 rfl rfl 2 (by decide) lk_X5_welcome_18 rfl dX5_welcome_26 ?_
        refine lv_iconst (v := 1) zx zb dX5_welcome_29 (by decide) ?_
        refine r_iadd (v := (nI ((b 0) + 1))) S (nI_add (b 0) 1) dX5_welcome_30 ?_
        refine r_put (C := RX5) (T := TX5) (N := 8) (ci := 3) (v := .int (nI ((b 0) + 1))) S in_X5_welcome_X5 tyX5_ok nmX5 G 0 rfl rfl 2 (by decide) lk_X5_welcome_18 rfl (vp_nar_int _) rfl (Nat.le_of_ble_eq_true rfl) dX5_welcome_31 (fun H locs G => ?_)
        obtain ⟨b_27, hI_b_27, ⟨hE_b_27_0, hE_b_27_1, hE_b_27_2, hE_b_27_3, hE_b_27_4⟩, G⟩ : ∃ b_27 : Nat → Nat, InR b_27 ∧ (b_27 0 = ((b 0) + 1) ∧ b_27 1 = b 1 ∧ b_27 2 = b 2 ∧ b_27 3 = b 3 ∧ b_27 4 = b 4) ∧ wd X (va_A (rcW X hn an v b g) sz) (va_A (rcW X hn an v b g) sz) s (rcW X hn an v_26 b_27 g) H locs := ⟨upN b 0 ((b 0) + 1), ⟨(by show ((b 0) + 1) ≤ 6; omega), hI_b.2.1, hI_b.2.2.1, hI_b.2.2.2.1, hI_b.2.2.2.2⟩, ⟨rfl, rfl, rfl, rfl, rfl⟩, G⟩
        have hO_b_27 := hI_b_27
        obtain ⟨hb0_b_27, hb1_b_27, hb2_b_27, hb3_b_27, hb4_b_27⟩ := hO_b_27
        refine lv_aload_n zx zb dX5_welcome_34 rfl (lv_at hl 0 rfl) ?_
        refine r_get (C := RX5) (T := TX5) (N := 8) (ci := 3) (v := .ref (an 7)) S in_X5_welcome_X5 G 0 rfl rfl 4 (by decide) lk_X5_welcome_30 rfl dX5_welcome_35 ?_
        refine lv_iconst (v := 0) zx zb dX5_welcome_38 (by decide) ?_
        refine r_put (C := RX4) (T := TX4) (N := 2) (ci := 2) (v := .int 0) S in_X5_welcome_X4 tyX4_ok nmX4 G 8 rfl rfl 1 (by decide) lk_X5_welcome_50 rfl (vp_nar_int _) rfl (Nat.le_of_ble_eq_true rfl) dX5_welcome_39 (fun H locs G => ?_)
        obtain ⟨b_28, hI_b_28, ⟨hE_b_28_1, hE_b_28_0, hE_b_28_2, hE_b_28_3, hE_b_28_4⟩, G⟩ : ∃ b_28 : Nat → Nat, InR b_28 ∧ (b_28 1 = 0 ∧ b_28 0 = b_27 0 ∧ b_28 2 = b_27 2 ∧ b_28 3 = b_27 3 ∧ b_28 4 = b_27 4) ∧ wd X (va_A (rcW X hn an v b g) sz) (va_A (rcW X hn an v b g) sz) s (rcW X hn an v_26 b_28 g) H locs := ⟨upN b_27 1 0, ⟨hI_b_27.1, (by show 0 ≤ 8; omega), hI_b_27.2.2.1, hI_b_27.2.2.2.1, hI_b_27.2.2.2.2⟩, ⟨rfl, rfl, rfl, rfl, rfl⟩, G⟩
        have hO_b_28 := hI_b_28
        obtain ⟨hb0_b_28, hb1_b_28, hb2_b_28, hb3_b_28, hb4_b_28⟩ := hO_b_28
        exact join_6 v_26 b_28 _ _ _ hI_b_28 G hl
  · intro v_2 b_3 H locs ls hI_b_3 G hl
    have hO_b_3 := hI_b_3
    obtain ⟨hb0_b_3, hb1_b_3, hb2_b_3, hb3_b_3, hb4_b_3⟩ := hO_b_3
    exact e_void S zr zlk G (v_2, b_3, g) [0, 1, 2, 3, 4, 5, 6, 7, 8, 9, 10, 11, 12, 13, 14, 15] rfl rfl (Or.inr rfl) (⟨hI_b_3, trivial⟩) dX5_welcome_42
