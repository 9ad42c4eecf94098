set_option maxRecDepth 20000 in
theorem ggX11_takes_X11_goBehind : GoodIn wsX11_takes wsX11_goBehind := goodIn_r _ [11, 12, 13, 14, 15, 16, 6, 17, 18, 19, 1, 2, 20, 21, 22, 23, 24, 4, 5, 7, 25, 26, 27, 28, 29, 30, 31, 32, 33, 34, 35, 36, 37, 38, 39, 40, 41, 42, 43, 44, 45, 46, 47] rfl (by decide +kernel)
set_option maxRecDepth 20000 in
theorem gX11_takes_X11_goBehind : GoodIn wsX11_takes (wsV RX11 238 RX11 yX11_goBehind wsX11_goBehind) := goodIn_app (goodIn_of _ (by decide +kernel)) ggX11_takes_X11_goBehind
set_option maxRecDepth 20000 in
theorem ggX11_takes_X11_in : GoodIn wsX11_takes wsX11_in := goodIn_r _ [7] rfl (by decide +kernel)
set_option maxRecDepth 20000 in
theorem gX11_takes_X11_in : GoodIn wsX11_takes (va_wsS RX11 56 yX11_in wsX11_in) := goodIn_app (goodIn_of _ (by decide +kernel)) ggX11_takes_X11_in
theorem dX11_spells_0 : decode cX11_spells 0 = .ok (.aload_n 0, 1) := by decide +kernel
theorem dX11_spells_1 : decode cX11_spells 1 = .ok (.getfield 223, 3) := by decide +kernel
theorem dX11_spells_101 : decode cX11_spells 101 = .ok (.iload 7, 2) := by decide +kernel
theorem dX11_spells_103 : decode cX11_spells 103 = .ok (.if_icmp .ne 7, 3) := by decide +kernel
theorem dX11_spells_106 : decode cX11_spells 106 = .ok (.iconst 1, 1) := by decide +kernel
theorem dX11_spells_107 : decode cX11_spells 107 = .ok (.goto 4, 3) := by decide +kernel
theorem dX11_spells_110 : decode cX11_spells 110 = .ok (.iconst 0, 1) := by decide +kernel
theorem dX11_spells_111 : decode cX11_spells 111 = .ok (.istore 8, 2) := by decide +kernel
theorem dX11_spells_113 : decode cX11_spells 113 = .ok (.iinc 9 1, 3) := by decide +kernel
theorem dX11_spells_116 : decode cX11_spells 116 = .ok (.goto (-90), 3) := by decide +kernel
theorem dX11_spells_119 : decode cX11_spells 119 = .ok (.iload 8, 2) := by decide +kernel
theorem dX11_spells_12 : decode cX11_spells 12 = .ok (.iload_n 1, 1) := by decide +kernel
theorem dX11_spells_121 : decode cX11_spells 121 = .ok (.ireturn, 1) := by decide +kernel
theorem dX11_spells_13 : decode cX11_spells 13 = .ok (.if_icmp .ne 7, 3) := by decide +kernel
theorem dX11_spells_16 : decode cX11_spells 16 = .ok (.iconst 1, 1) := by decide +kernel
theorem dX11_spells_17 : decode cX11_spells 17 = .ok (.goto 4, 3) := by decide +kernel
theorem dX11_spells_20 : decode cX11_spells 20 = .ok (.iconst 0, 1) := by decide +kernel
theorem dX11_spells_21 : decode cX11_spells 21 = .ok (.istore 8, 2) := by decide +kernel
theorem dX11_spells_23 : decode cX11_spells 23 = .ok (.iconst 0, 1) := by decide +kernel
theorem dX11_spells_24 : decode cX11_spells 24 = .ok (.istore 9, 2) := by decide +kernel
theorem dX11_spells_26 : decode cX11_spells 26 = .ok (.iload 9, 2) := by decide +kernel
theorem dX11_spells_28 : decode cX11_spells 28 = .ok (.iload_n 1, 1) := by decide +kernel
theorem dX11_spells_29 : decode cX11_spells 29 = .ok (.if_icmp .ge 90, 3) := by decide +kernel
theorem dX11_spells_32 : decode cX11_spells 32 = .ok (.iload 8, 2) := by decide +kernel
theorem dX11_spells_34 : decode cX11_spells 34 = .ok (.ifCond .eq 85, 3) := by decide +kernel
theorem dX11_spells_37 : decode cX11_spells 37 = .ok (.aload_n 0, 1) := by decide +kernel
theorem dX11_spells_38 : decode cX11_spells 38 = .ok (.getfield 39, 3) := by decide +kernel
theorem dX11_spells_4 : decode cX11_spells 4 = .ok (.iconst 1, 1) := by decide +kernel
theorem dX11_spells_41 : decode cX11_spells 41 = .ok (.aload_n 0, 1) := by decide +kernel
theorem dX11_spells_42 : decode cX11_spells 42 = .ok (.getfield 217, 3) := by decide +kernel
theorem dX11_spells_45 : decode cX11_spells 45 = .ok (.iload 9, 2) := by decide +kernel
theorem dX11_spells_47 : decode cX11_spells 47 = .ok (.iadd, 1) := by decide +kernel
theorem dX11_spells_48 : decode cX11_spells 48 = .ok (.iaload, 1) := by decide +kernel
theorem dX11_spells_49 : decode cX11_spells 49 = .ok (.iload 9, 2) := by decide +kernel
theorem dX11_spells_5 : decode cX11_spells 5 = .ok (.if_icmp .ne 15, 3) := by decide +kernel
theorem dX11_spells_51 : decode cX11_spells 51 = .ok (.ifCond .ne 7, 3) := by decide +kernel
theorem dX11_spells_54 : decode cX11_spells 54 = .ok (.iload_n 2, 1) := by decide +kernel
theorem dX11_spells_55 : decode cX11_spells 55 = .ok (.goto 48, 3) := by decide +kernel
theorem dX11_spells_58 : decode cX11_spells 58 = .ok (.iload 9, 2) := by decide +kernel
theorem dX11_spells_60 : decode cX11_spells 60 = .ok (.iconst 1, 1) := by decide +kernel
theorem dX11_spells_61 : decode cX11_spells 61 = .ok (.if_icmp .ne 7, 3) := by decide +kernel
theorem dX11_spells_64 : decode cX11_spells 64 = .ok (.iload_n 3, 1) := by decide +kernel
theorem dX11_spells_65 : decode cX11_spells 65 = .ok (.goto 38, 3) := by decide +kernel
theorem dX11_spells_68 : decode cX11_spells 68 = .ok (.iload 9, 2) := by decide +kernel
theorem dX11_spells_70 : decode cX11_spells 70 = .ok (.iconst 2, 1) := by decide +kernel
theorem dX11_spells_71 : decode cX11_spells 71 = .ok (.if_icmp .ne 8, 3) := by decide +kernel
theorem dX11_spells_74 : decode cX11_spells 74 = .ok (.iload 4, 2) := by decide +kernel
theorem dX11_spells_76 : decode cX11_spells 76 = .ok (.goto 27, 3) := by decide +kernel
theorem dX11_spells_79 : decode cX11_spells 79 = .ok (.iload 9, 2) := by decide +kernel
theorem dX11_spells_8 : decode cX11_spells 8 = .ok (.aload_n 0, 1) := by decide +kernel
theorem dX11_spells_81 : decode cX11_spells 81 = .ok (.iconst 3, 1) := by decide +kernel
theorem dX11_spells_82 : decode cX11_spells 82 = .ok (.if_icmp .ne 8, 3) := by decide +kernel
theorem dX11_spells_85 : decode cX11_spells 85 = .ok (.iload 5, 2) := by decide +kernel
theorem dX11_spells_87 : decode cX11_spells 87 = .ok (.goto 16, 3) := by decide +kernel
theorem dX11_spells_9 : decode cX11_spells 9 = .ok (.getfield 220, 3) := by decide +kernel
theorem dX11_spells_90 : decode cX11_spells 90 = .ok (.iload 9, 2) := by decide +kernel
theorem dX11_spells_92 : decode cX11_spells 92 = .ok (.iconst 4, 1) := by decide +kernel
theorem dX11_spells_93 : decode cX11_spells 93 = .ok (.if_icmp .ne 8, 3) := by decide +kernel
theorem dX11_spells_96 : decode cX11_spells 96 = .ok (.iload 6, 2) := by decide +kernel
theorem dX11_spells_98 : decode cX11_spells 98 = .ok (.goto 5, 3) := by decide +kernel
theorem dX11_takes_0 : decode cX11_takes 0 = .ok (.aload_n 0, 1) := by decide +kernel
theorem dX11_takes_1 : decode cX11_takes 1 = .ok (.getfield 223, 3) := by decide +kernel
theorem dX11_takes_12 : decode cX11_takes 12 = .ok (.i2l, 1) := by decide +kernel
theorem dX11_takes_13 : decode cX11_takes 13 = .ok (.iload_n 2, 1) := by decide +kernel
theorem dX11_takes_14 : decode cX11_takes 14 = .ok (.i2l, 1) := by decide +kernel
theorem dX11_takes_15 : decode cX11_takes 15 = .ok (.iload_n 3, 1) := by decide +kernel
theorem dX11_takes_16 : decode cX11_takes 16 = .ok (.i2l, 1) := by decide +kernel
theorem dX11_takes_17 : decode cX11_takes 17 = .ok (.invokestatic 56, 3) := by decide +kernel
theorem dX11_takes_20 : decode cX11_takes 20 = .ok (.ifCond .ne 5, 3) := by decide +kernel
theorem dX11_takes_23 : decode cX11_takes 23 = .ok (.iconst 0, 1) := by decide +kernel
theorem dX11_takes_24 : decode cX11_takes 24 = .ok (.ireturn, 1) := by decide +kernel
theorem dX11_takes_25 : decode cX11_takes 25 = .ok (.aload_n 0, 1) := by decide +kernel
theorem dX11_takes_26 : decode cX11_takes 26 = .ok (.getfield 45, 3) := by decide +kernel
theorem dX11_takes_29 : decode cX11_takes 29 = .ok (.iload_n 1, 1) := by decide +kernel
theorem dX11_takes_30 : decode cX11_takes 30 = .ok (.aload_n 0, 1) := by decide +kernel
theorem dX11_takes_31 : decode cX11_takes 31 = .ok (.getfield 226, 3) := by decide +kernel
theorem dX11_takes_34 : decode cX11_takes 34 = .ok (.iastore, 1) := by decide +kernel
theorem dX11_takes_35 : decode cX11_takes 35 = .ok (.aload_n 0, 1) := by decide +kernel
theorem dX11_takes_36 : decode cX11_takes 36 = .ok (.invokevirtual 238, 3) := by decide +kernel
theorem dX11_takes_39 : decode cX11_takes 39 = .ok (.iconst 1, 1) := by decide +kernel
theorem dX11_takes_4 : decode cX11_takes 4 = .ok (.iconst 2, 1) := by decide +kernel
theorem dX11_takes_40 : decode cX11_takes 40 = .ok (.ireturn, 1) := by decide +kernel
theorem dX11_takes_5 : decode cX11_takes 5 = .ok (.if_icmp .ne 18, 3) := by decide +kernel
theorem dX11_takes_8 : decode cX11_takes 8 = .ok (.aload_n 0, 1) := by decide +kernel
theorem dX11_takes_9 : decode cX11_takes 9 = .ok (.getfield 226, 3) := by decide +kernel
theorem in_X11_spells_X11 : ∀ w ∈ wsX110, w ∈ wsX11_spells := by decide +kernel
theorem lk_X11_spells_223 : Cond.fieldLink RX11 223 "EggSpoonsModel" "token" "I" ∈ wsX11_spells := by decide +kernel
theorem lk_X11_spells_220 : Cond.fieldLink RX11 220 "EggSpoonsModel" "tokenLong" "I" ∈ wsX11_spells := by decide +kernel
theorem lk_X11_spells_39 : Cond.fieldLink RX11 39 "EggSpoonsModel" "bytes" "[I" ∈ wsX11_spells := by decide +kernel
theorem lk_X11_spells_217 : Cond.fieldLink RX11 217 "EggSpoonsModel" "tokenAt" "I" ∈ wsX11_spells := by decide +kernel
set_option maxHeartbeats 4000000 in
set_option maxRecDepth 100000 in
/-- spells -/
theorem m_spells (l : Launch) (X : EX) (m0 : Nat) (ma : Nat → Nat) (la : Int64) (lb : Int64) (n : Nat) (t : Nat → Nat) (v : Nat → Int32) (fd : Nat → Int32) (z : Nat) (x2 : Int32) (x3 : Int32) (x4 : Int32) (x5 : Int32) (x6 : Int32) (x7 : Int32) (hI_n : n ≤ 150) (hI_t : InT t) (hT : t 0 + t 1 ≤ n ∧ (v 0 = 0 ∨ 1 ≤ t 1)) (hz : z ≤ 6) (sz : Nat) : Met l yX11_spells wsX11_spells ({ frames := 0, cells := 0, slots := 0, locals := 0 } : Room) (pE X [.ref m0, .int (nI z), .int x2, .int x3, .int x4, .int x5, .int x6, .int x7] (@HAppend.hAppend va_W va_W va_W _ (mW m0 ma la lb n t v) ([((ma 10), .inl (X.2.1, 150, .inl fd))])) sz) (qI (fun (r : Int32) (u : Unit) => r = 0 ∨ r = 1) X (fun (u : Unit) => []) [] sz) 0 0 (va_A [] sz) := by
  refine mk_met (B := (fun _ => True)) (A := (va_A [] sz)) (cc := cX11_spells) (maxL := 10) (ret := (some .boolean)) (by decide) rfl (Nat.le_of_ble_eq_true rfl) k_ro k_a (fun p e s m below meth c S zr zlk znm zsz G ls hl => ?_)
  have S : CallFix p m c cX11_spells 10 s _ wsX11_spells RX11 := S
  have zx := S.1
  have zb := S.2.1
  have hl : lv_has ls 10 [(0, .ref m0), (1, .int (nI z)), (2, .int x2), (3, .int x3), (4, .int x4), (5, .int x5), (6, .int x6), (7, .int x7)] := hl
  have hO_t := hI_t
  obtain ⟨ht0_t, ht1_t⟩ := hO_t
  obtain ⟨hT1, hT2⟩ := hT
  refine lv_aload_n zx zb dX11_spells_0 rfl (lv_at hl 0 rfl) ?_
  refine r_get (C := RX11) (T := TX11) (N := 18) (ci := 9) (v := .int (v 0)) S in_X11_spells_X11 G 0 rfl rfl 14 (by decide) lk_X11_spells_223 rfl dX11_spells_1 ?_
  refine lv_iconst (v := 1) zx zb dX11_spells_4 (by decide) ?_
  refine lv_icmp_ne (tgt := 20) zx zb dX11_spells_5 (by decide) (fun c_1 => ?_) (fun c_1 => ?_)
  · refine lv_iconst (v := 0) zx zb dX11_spells_20 (by decide) ?_
    refine lv_istore (lv' := [(8, .int 0), (0, .ref m0), (1, .int (nI z)), (2, .int x2), (3, .int x3), (4, .int x4), (5, .int x5), (6, .int x6), (7, .int x7)]) zx zb dX11_spells_21 hl (by decide) rfl (fun ls hl => ?_)
    refine lv_iconst (v := 0) zx zb dX11_spells_23 (by decide) ?_
    refine lv_istore (lv' := [(9, .int 0), (8, .int 0), (0, .ref m0), (1, .int (nI z)), (2, .int x2), (3, .int x3), (4, .int x4), (5, .int x5), (6, .int x6), (7, .int x7)]) zx zb dX11_spells_24 hl (by decide) rfl (fun ls hl => ?_)
    refine lv_iload zx zb dX11_spells_26 (lv_at hl 0 rfl) ?_
    refine lv_iload_n zx zb dX11_spells_28 rfl (lv_at hl 3 rfl) ?_
    refine k_cutW (PP := fun Wx => ∀ (H : Heap) (locs : List Loc) (ls : Array Slot), wd X (fun _ => True) (va_A [] sz) s (@HAppend.hAppend va_W va_W va_W _ (mW m0 ma la lb n t v) ([((ma 10), .inl (X.2.1, 150, .inl fd))])) H locs → lv_has ls 10 [(9, .int 0), (8, .int 0), (0, .ref m0), (1, .int (nI z)), (2, .int x2), (3, .int x3), (4, .int x4), (5, .int x5), (6, .int x6), (7, .int x7)] → Wx (F0 m 119 ls []) H locs) ?_ ?_
    · intro join_29
      refine lv_icmp_ge (tgt := 119) zx zb dX11_spells_29 (by decide) (fun c_2 => ?_) (fun c_2 => ?_)
      · have fc_2 := j_le (a := z) (b := 0) (by omega) (by omega) c_2
        exact join_29  _ _ _  G hl
      · have fc_2 := j_nle (a := z) (b := 0) (by omega) (by omega) c_2
        refine lv_iload zx zb dX11_spells_32 (lv_at hl 1 rfl) ?_
        refine lv_if_eq (tgt := 119) zx zb dX11_spells_34 (by decide) (fun c_3 => ?_) (fun c_3 => absurd (by decide) c_3)
        exact join_29  _ _ _  G hl
    · intro  H locs ls  G hl
      refine lv_iload zx zb dX11_spells_119 (lv_at hl 1 rfl) ?_
      exact e_int S zr zlk (by decide) G () [] rfl rfl (Or.inl rfl) ((Or.inl rfl)) dX11_spells_121
  · refine lv_aload_n zx zb dX11_spells_8 rfl (lv_at hl 0 rfl) ?_
    refine r_get (C := RX11) (T := TX11) (N := 18) (ci := 9) (v := .int (nI (t 1))) S in_X11_spells_X11 G 0 rfl rfl 13 (by decide) lk_X11_spells_220 rfl dX11_spells_9 ?_
    refine lv_iload_n zx zb dX11_spells_12 rfl (lv_at hl 1 rfl) ?_
    refine lv_icmp_ne (tgt := 20) zx zb dX11_spells_13 (by decide) (fun c_4 => ?_) (fun c_4 => ?_)
    · have fc_4 := j_ne (a := (t 1)) (b := z) c_4
      refine lv_iconst (v := 0) zx zb dX11_spells_20 (by decide) ?_
      refine lv_istore (lv' := [(8, .int 0), (0, .ref m0), (1, .int (nI z)), (2, .int x2), (3, .int x3), (4, .int x4), (5, .int x5), (6, .int x6), (7, .int x7)]) zx zb dX11_spells_21 hl (by decide) rfl (fun ls hl => ?_)
      refine lv_iconst (v := 0) zx zb dX11_spells_23 (by decide) ?_
      refine lv_istore (lv' := [(9, .int 0), (8, .int 0), (0, .ref m0), (1, .int (nI z)), (2, .int x2), (3, .int x3), (4, .int x4), (5, .int x5), (6, .int x6), (7, .int x7)]) zx zb dX11_spells_24 hl (by decide) rfl (fun ls hl => ?_)
      refine lv_iload zx zb dX11_spells_26 (lv_at hl 0 rfl) ?_
      refine lv_iload_n zx zb dX11_spells_28 rfl (lv_at hl 3 rfl) ?_
      refine k_cutW (PP := fun Wx => ∀ (H : Heap) (locs : List Loc) (ls : Array Slot), wd X (fun _ => True) (va_A [] sz) s (@HAppend.hAppend va_W va_W va_W _ (mW m0 ma la lb n t v) ([((ma 10), .inl (X.2.1, 150, .inl fd))])) H locs → lv_has ls 10 [(9, .int 0), (8, .int 0), (0, .ref m0), (1, .int (nI z)), (2, .int x2), (3, .int x3), (4, .int x4), (5, .int x5), (6, .int x6), (7, .int x7)] → Wx (F0 m 119 ls []) H locs) ?_ ?_
      · intro join_29
        refine lv_icmp_ge (tgt := 119) zx zb dX11_spells_29 (by decide) (fun c_5 => ?_) (fun c_5 => ?_)
        · have fc_5 := j_le (a := z) (b := 0) (by omega) (by omega) c_5
          exact join_29  _ _ _  G hl
        · have fc_5 := j_nle (a := z) (b := 0) (by omega) (by omega) c_5
          refine lv_iload zx zb dX11_spells_32 (lv_at hl 1 rfl) ?_
          refine lv_if_eq (tgt := 119) zx zb dX11_spells_34 (by decide) (fun c_6 => ?_) (fun c_6 => absurd (by decide) c_6)
          exact join_29  _ _ _  G hl
      · intro  H locs ls  G hl
        refine lv_iload zx zb dX11_spells_119 (lv_at hl 1 rfl) ?_
        exact e_int S zr zlk (by decide) G () [] rfl rfl (Or.inl rfl) ((Or.inl rfl)) dX11_spells_121
    · have fc_4 := j_eq (a := (t 1)) (b := z) (by omega) (by omega) c_4
      refine lv_iconst (v := 1) zx zb dX11_spells_16 (by decide) ?_
      refine lv_goto (tgt := 21) zx zb dX11_spells_17 (by decide) ?_
      refine lv_istore (lv' := [(8, .int 1), (0, .ref m0), (1, .int (nI z)), (2, .int x2), (3, .int x3), (4, .int x4), (5, .int x5), (6, .int x6), (7, .int x7)]) zx zb dX11_spells_21 hl (by decide) rfl (fun ls hl => ?_)
      refine lv_iconst (v := 0) zx zb dX11_spells_23 (by decide) ?_
      refine lv_istore (lv' := [(9, .int 0), (8, .int 1), (0, .ref m0), (1, .int (nI z)), (2, .int x2), (3, .int x3), (4, .int x4), (5, .int x5), (6, .int x6), (7, .int x7)]) zx zb dX11_spells_24 hl (by decide) rfl (fun ls hl => ?_)
      refine k_loop (P := ∀ (zm : Nat) (n26_9 : Nat) (x26_8 : Int32) (H : Heap) (locs : List Loc) (ls : Array Slot), ((z - n26_9) < zm) → (n26_9 ≤ z) → (x26_8 = 0 ∨ x26_8 = 1) → wd X (fun _ => True) (va_A [] sz) s (@HAppend.hAppend va_W va_W va_W _ (mW m0 ma la lb n t v) ([((ma 10), .inl (X.2.1, 150, .inl fd))])) H locs → lv_has ls 10 [(9, .int (nI n26_9)), (8, .int x26_8), (0, .ref m0), (1, .int (nI z)), (2, .int x2), (3, .int x3), (4, .int x4), (5, .int x5), (6, .int x6), (7, .int x7)] → W p l e _ s m _ below meth c H locs _ _ _ (F0 m 26 ls [])) (fun loop => loop ((z - 0) + 1) 0 1 _ _ _ (by omega)  (by omega) (by first | assumption | exact Or.inl rfl | exact Or.inr rfl) G hl) ?_
      intro zm
      induction zm with
      | zero => intro n26_9 x26_8 H locs ls zz q_hk_n26_9 q_hk_x26_8 _ _; exact absurd zz (by omega)
      | succ zm ih26 =>
        intro n26_9 x26_8 H locs ls zm_26 hk_n26_9 hk_x26_8 G hl
        refine lv_iload zx zb dX11_spells_26 (lv_at hl 0 rfl) ?_
        refine lv_iload_n zx zb dX11_spells_28 rfl (lv_at hl 3 rfl) ?_
        refine k_cutW (PP := fun Wx => ∀ (H : Heap) (locs : List Loc) (ls : Array Slot), wd X (fun _ => True) (va_A [] sz) s (@HAppend.hAppend va_W va_W va_W _ (mW m0 ma la lb n t v) ([((ma 10), .inl (X.2.1, 150, .inl fd))])) H locs → lv_has ls 10 [(9, .int (nI n26_9)), (8, .int x26_8), (0, .ref m0), (1, .int (nI z)), (2, .int x2), (3, .int x3), (4, .int x4), (5, .int x5), (6, .int x6), (7, .int x7)] → Wx (F0 m 119 ls []) H locs) ?_ ?_
        · intro join_29
          refine lv_icmp_ge (tgt := 119) zx zb dX11_spells_29 (by decide) (fun c_7 => ?_) (fun c_7 => ?_)
          · have fc_7 := j_le (a := z) (b := n26_9) (by omega) (by omega) c_7
            exact join_29  _ _ _  G hl
          · have fc_7 := j_nle (a := z) (b := n26_9) (by omega) (by omega) c_7
            refine lv_iload zx zb dX11_spells_32 (lv_at hl 1 rfl) ?_
            refine lv_if_eq (tgt := 119) zx zb dX11_spells_34 (by decide) (fun c_8 => ?_) (fun c_8 => ?_)
            · exact join_29  _ _ _  G hl
            · refine lv_aload_n zx zb dX11_spells_37 rfl (lv_at hl 2 rfl) ?_
              refine r_get (C := RX11) (T := TX11) (N := 18) (ci := 9) (v := .ref (ma 10)) S in_X11_spells_X11 G 0 rfl rfl 10 (by decide) lk_X11_spells_39 rfl dX11_spells_38 ?_
              refine lv_aload_n zx zb dX11_spells_41 rfl (lv_at hl 2 rfl) ?_
              refine r_get (C := RX11) (T := TX11) (N := 18) (ci := 9) (v := .int (nI (t 0))) S in_X11_spells_X11 G 0 rfl rfl 12 (by decide) lk_X11_spells_217 rfl dX11_spells_42 ?_
              refine lv_iload zx zb dX11_spells_45 (lv_at hl 0 rfl) ?_
              refine r_iadd (v := (nI ((t 0) + n26_9))) S (nI_add (t 0) n26_9) dX11_spells_47 ?_
              refine r_iald S G 1 rfl (vp_in_nI (by omega) (by decide)) rfl dX11_spells_48 ?_
              refine k_itE (fun y_9 => ?_)
              refine lv_iload zx zb dX11_spells_49 (lv_at hl 0 rfl) ?_
              refine k_cutW (PP := fun Wx => ∀ (x_11 : Int32) (H : Heap) (locs : List Loc) (ls : Array Slot), wd X (fun _ => True) (va_A [] sz) s (@HAppend.hAppend va_W va_W va_W _ (mW m0 ma la lb n t v) ([((ma 10), .inl (X.2.1, 150, .inl fd))])) H locs → lv_has ls 10 [(9, .int (nI n26_9)), (8, .int x26_8), (0, .ref m0), (1, .int (nI z)), (2, .int x2), (3, .int x3), (4, .int x4), (5, .int x5), (6, .int x6), (7, .int x7)] → Wx (F0 m 103 ls [.int x_11, .int y_9]) H locs) ?_ ?_
              · intro join_51
                refine lv_if_ne (tgt := 58) zx zb dX11_spells_51 (by decide) (fun c_10 => ?_) (fun c_10 => ?_)
                · have fc_10 := j_ne (a := n26_9) (b := 0) c_10
                  refine lv_iload zx zb dX11_spells_58 (lv_at hl 0 rfl) ?_
                  refine lv_iconst (v := 1) zx zb dX11_spells_60 (by decide) ?_
                  refine lv_icmp_ne (tgt := 68) zx zb dX11_spells_61 (by decide) (fun c_12 => ?_) (fun c_12 => ?_)
                  · have fc_12 := j_ne (a := n26_9) (b := 1) c_12
                    refine lv_iload zx zb dX11_spells_68 (lv_at hl 0 rfl) ?_
                    refine lv_iconst (v := 2) zx zb dX11_spells_70 (by decide) ?_
                    refine lv_icmp_ne (tgt := 79) zx zb dX11_spells_71 (by decide) (fun c_13 => ?_) (fun c_13 => ?_)
                    · have fc_13 := j_ne (a := n26_9) (b := 2) c_13
                      refine lv_iload zx zb dX11_spells_79 (lv_at hl 0 rfl) ?_
                      refine lv_iconst (v := 3) zx zb dX11_spells_81 (by decide) ?_
                      refine lv_icmp_ne (tgt := 90) zx zb dX11_spells_82 (by decide) (fun c_14 => ?_) (fun c_14 => ?_)
                      · have fc_14 := j_ne (a := n26_9) (b := 3) c_14
                        refine lv_iload zx zb dX11_spells_90 (lv_at hl 0 rfl) ?_
                        refine lv_iconst (v := 4) zx zb dX11_spells_92 (by decide) ?_
                        refine lv_icmp_ne (tgt := 101) zx zb dX11_spells_93 (by decide) (fun c_15 => ?_) (fun c_15 => ?_)
                        · have fc_15 := j_ne (a := n26_9) (b := 4) c_15
                          refine lv_iload zx zb dX11_spells_101 (lv_at hl 9 rfl) ?_
                          exact join_51 x7 _ _ _  G hl
                        · have fc_15 := j_eq (a := n26_9) (b := 4) (by omega) (by omega) c_15
                          refine lv_iload zx zb dX11_spells_96 (lv_at hl 8 rfl) ?_
                          refine lv_goto (tgt := 103) zx zb dX11_spells_98 (by decide) ?_
                          exact join_51 x6 _ _ _  G hl
                      · have fc_14 := j_eq (a := n26_9) (b := 3) (by omega) (by omega) c_14
                        refine lv_iload zx zb dX11_spells_85 (lv_at hl 7 rfl) ?_
                        refine lv_goto (tgt := 103) zx zb dX11_spells_87 (by decide) ?_
                        exact join_51 x5 _ _ _  G hl
                    · have fc_13 := j_eq (a := n26_9) (b := 2) (by omega) (by omega) c_13
                      refine lv_iload zx zb dX11_spells_74 (lv_at hl 6 rfl) ?_
                      refine lv_goto (tgt := 103) zx zb dX11_spells_76 (by decide) ?_
                      exact join_51 x4 _ _ _  G hl
                  · have fc_12 := j_eq (a := n26_9) (b := 1) (by omega) (by omega) c_12
                    refine lv_iload_n zx zb dX11_spells_64 rfl (lv_at hl 5 rfl) ?_
                    refine lv_goto (tgt := 103) zx zb dX11_spells_65 (by decide) ?_
                    exact join_51 x3 _ _ _  G hl
                · have fc_10 := j_eq (a := n26_9) (b := 0) (by omega) (by omega) c_10
                  refine lv_iload_n zx zb dX11_spells_54 rfl (lv_at hl 4 rfl) ?_
                  refine lv_goto (tgt := 103) zx zb dX11_spells_55 (by decide) ?_
                  exact join_51 x2 _ _ _  G hl
              · intro x_11 H locs ls  G hl
                refine k_cutW (PP := fun Wx => ∀ (x_17 : Int32) (H : Heap) (locs : List Loc) (ls : Array Slot), (x_17 = 0 ∨ x_17 = 1) → wd X (fun _ => True) (va_A [] sz) s (@HAppend.hAppend va_W va_W va_W _ (mW m0 ma la lb n t v) ([((ma 10), .inl (X.2.1, 150, .inl fd))])) H locs → lv_has ls 10 [(9, .int (nI n26_9)), (8, .int x26_8), (0, .ref m0), (1, .int (nI z)), (2, .int x2), (3, .int x3), (4, .int x4), (5, .int x5), (6, .int x6), (7, .int x7)] → Wx (F0 m 111 ls [.int x_17]) H locs) ?_ ?_
                · intro join_103
                  refine lv_icmp_ne (tgt := 110) zx zb dX11_spells_103 (by decide) (fun c_16 => ?_) (fun c_16 => ?_)
                  · refine lv_iconst (v := 0) zx zb dX11_spells_110 (by decide) ?_
                    exact join_103 0 _ _ _ (by first | assumption | exact Or.inl rfl | exact Or.inr rfl) G hl
                  · refine lv_iconst (v := 1) zx zb dX11_spells_106 (by decide) ?_
                    refine lv_goto (tgt := 111) zx zb dX11_spells_107 (by decide) ?_
                    exact join_103 1 _ _ _ (by first | assumption | exact Or.inl rfl | exact Or.inr rfl) G hl
                · intro x_17 H locs ls hk_x_17 G hl
                  refine lv_istore (lv' := [(8, .int x_17), (9, .int (nI n26_9)), (0, .ref m0), (1, .int (nI z)), (2, .int x2), (3, .int x3), (4, .int x4), (5, .int x5), (6, .int x6), (7, .int x7)]) zx zb dX11_spells_111 hl (by decide) rfl (fun ls hl => ?_)
                  refine lv_iinc (v := (nI (n26_9 + 1))) (lv' := [(9, .int (nI (n26_9 + 1))), (8, .int x_17), (0, .ref m0), (1, .int (nI z)), (2, .int x2), (3, .int x3), (4, .int x4), (5, .int x5), (6, .int x6), (7, .int x7)]) zx zb dX11_spells_113 hl (k := 1) rfl (nI_add n26_9 1) (by decide) rfl (fun ls hl => ?_)
                  refine lv_goto (tgt := 26) zx zb dX11_spells_116 (by decide) ?_
                  exact ih26 (n26_9 + 1) x_17 _ _ _ (by omega)  (by omega) (by first | assumption | exact Or.inl rfl | exact Or.inr rfl) G hl
        · intro  H locs ls  G hl
          refine lv_iload zx zb dX11_spells_119 (lv_at hl 1 rfl) ?_
          exact e_int S zr zlk (k_nb (by assumption)) G () [] rfl rfl (Or.inl rfl) (by assumption) dX11_spells_121
theorem in_X11_takes_X11 : ∀ w ∈ wsX110, w ∈ wsX11_takes := by decide +kernel
theorem lk_X11_takes_223 : Cond.fieldLink RX11 223 "EggSpoonsModel" "token" "I" ∈ wsX11_takes := by decide +kernel
theorem lk_X11_takes_226 : Cond.fieldLink RX11 226 "EggSpoonsModel" "value" "I" ∈ wsX11_takes := by decide +kernel
theorem lk_X11_takes_45 : Cond.fieldLink RX11 45 "EggSpoonsModel" "values" "[I" ∈ wsX11_takes := by decide +kernel
theorem hdV_X11_goBehind : yX11_goBehind.cls = RX11 ∧ yX11_goBehind.cls ≠ "java/lang/invoke/MethodHandle" ∧ yX11_goBehind.cls ≠ "java/lang/invoke/VarHandle" ∧ (parseMethodDescriptor yX11_goBehind.desc).map (fun d => d.parameters.length) = some 0 := by decide +kernel
set_option maxHeartbeats 4000000 in
set_option maxRecDepth 100000 in
/-- takes -/
theorem m_takes0 (l : Launch) (X : EX) (m0 : Nat) (ma : Nat → Nat) (la : Int64) (lb : Int64) (n : Nat) (t : Nat → Nat) (v : Nat → Int32) (fd : Nat → Int32) (fv : Nat → Int32) (lo : Int32) (hi : Int32) (hI_n : n ≤ 150) (hI_t : InT t) (hT : t 0 + t 1 ≤ n ∧ (v 0 = 0 ∨ 1 ≤ t 1)) (sz : Nat) : Met l yX11_takes wsX11_takes ({ frames := 4, cells := 0, slots := 0, locals := 89 } : Room) (pE X [.ref m0, .int 0, .int lo, .int hi] (@HAppend.hAppend va_W va_W va_W _ (mW m0 ma la lb n t v) (@HAppend.hAppend va_W va_W va_W _ ([((ma 10), .inl (X.2.1, 150, .inl fd))]) ([((ma 17), .inl (X.2.1, 3, .inl fv))]))) sz) (qI (fun (r : Int32) (u : (Nat → Nat) × (Nat → Int32) × (Nat → Int32)) => InT u.1 ∧ ((t 0 ≤ u.1 0 ∧ u.1 0 + u.1 1 ≤ n ∧ (u.2.1 0 = 0 ∨ 1 ≤ u.1 1)) ∧ (r = 0 ∨ (r = 1 ∧ (lo ≤ u.2.2 0 ∧ u.2.2 0 ≤ hi) ∧ u.2.2 1 = fv 1 ∧ u.2.2 2 = fv 2)))) X (fun (u : (Nat → Nat) × (Nat → Int32) × (Nat → Int32)) => @HAppend.hAppend va_W va_W va_W _ (mW m0 ma la lb n u.1 u.2.1) (@HAppend.hAppend va_W va_W va_W _ ([((ma 10), .inl (X.2.1, 150, .inl fd))]) ([((ma 17), .inl (X.2.1, 3, .inl u.2.2))]))) (@HAppend.hAppend va_W va_W va_W _ (mW m0 ma la lb n t v) (@HAppend.hAppend va_W va_W va_W _ ([((ma 10), .inl (X.2.1, 150, .inl fd))]) ([((ma 17), .inl (X.2.1, 3, .inl fv))]))) sz) 0 0 (va_A (@HAppend.hAppend va_W va_W va_W _ (mW m0 ma la lb n t v) (@HAppend.hAppend va_W va_W va_W _ ([((ma 10), .inl (X.2.1, 150, .inl fd))]) ([((ma 17), .inl (X.2.1, 3, .inl fv))]))) sz) := by
  refine mk_met (B := (va_A (@HAppend.hAppend va_W va_W va_W _ (mW m0 ma la lb n t v) (@HAppend.hAppend va_W va_W va_W _ ([((ma 10), .inl (X.2.1, 150, .inl fd))]) ([((ma 17), .inl (X.2.1, 3, .inl fv))]))) sz)) (A := (va_A (@HAppend.hAppend va_W va_W va_W _ (mW m0 ma la lb n t v) (@HAppend.hAppend va_W va_W va_W _ ([((ma 10), .inl (X.2.1, 150, .inl fd))]) ([((ma 17), .inl (X.2.1, 3, .inl fv))]))) sz)) (cc := cX11_takes) (maxL := 4) (ret := (some .boolean)) (by decide) rfl (Nat.le_of_ble_eq_true rfl) k_w k_a (fun p e s m below meth c S zr zlk znm zsz G ls hl => ?_)
  have S : CallFix p m c cX11_takes 4 s _ wsX11_takes RX11 := S
  have zx := S.1
  have zb := S.2.1
  have hl : lv_has ls 4 [(0, .ref m0), (1, .int 0), (2, .int lo), (3, .int hi)] := hl
  have hO_t := hI_t
  obtain ⟨ht0_t, ht1_t⟩ := hO_t
  obtain ⟨hT1, hT2⟩ := hT
  refine lv_aload_n zx zb dX11_takes_0 rfl (lv_at hl 0 rfl) ?_
  refine r_get (C := RX11) (T := TX11) (N := 18) (ci := 9) (v := .int (v 0)) S in_X11_takes_X11 G 0 rfl rfl 14 (by decide) lk_X11_takes_223 rfl dX11_takes_1 ?_
  refine lv_iconst (v := 2) zx zb dX11_takes_4 (by decide) ?_
  refine lv_icmp_ne (tgt := 23) zx zb dX11_takes_5 (by decide) (fun c_1 => ?_) (fun c_1 => ?_)
  · refine lv_iconst (v := 0) zx zb dX11_takes_23 (by decide) ?_
    exact e_int S zr zlk (by decide) G (t, v, fv) [0, 1, 2] rfl rfl (Or.inr rfl) (⟨hI_t, ⟨⟨Nat.le_refl _, hT1, hT2⟩, Or.inl rfl⟩⟩) dX11_takes_24
  · refine lv_aload_n zx zb dX11_takes_8 rfl (lv_at hl 0 rfl) ?_
    refine r_get (C := RX11) (T := TX11) (N := 18) (ci := 9) (v := .int (v 1)) S in_X11_takes_X11 G 0 rfl rfl 15 (by decide) lk_X11_takes_226 rfl dX11_takes_9 ?_
    refine lv_i2l (v := (Int32.toInt64 (v 1))) zx zb dX11_takes_12 rfl ?_
    refine lv_iload_n zx zb dX11_takes_13 rfl (lv_at hl 2 rfl) ?_
    refine lv_i2l (v := (Int32.toInt64 lo)) zx zb dX11_takes_14 rfl ?_
    refine lv_iload_n zx zb dX11_takes_15 rfl (lv_at hl 3 rfl) ?_
    refine lv_i2l (v := (Int32.toInt64 hi)) zx zb dX11_takes_16 rfl ?_
    refine o_ri (cells' := 0) (slots' := 0) G rfl rfl (n_S (As := [.long (Int32.toInt64 (v 1)), .long (Int32.toInt64 lo), .long (Int32.toInt64 hi)]) (rest := []) S G (m_in l X (v 1) lo hi s.heap.size) gX11_takes_X11_in rfl rfl rfl hdS_X11_in ⟨Nat.le_of_ble_eq_true rfl, Nat.le_of_ble_eq_true rfl⟩ [] rfl rfl rfl hl.1 (Nat.le_of_ble_eq_true rfl) dX11_takes_17 ⟨Nat.le_of_ble_eq_true rfl, Nat.le_of_ble_eq_true rfl⟩) (fun r_2 u_2 H locs hp_2 G => ?_)
    have G : wd X (va_A (@HAppend.hAppend va_W va_W va_W _ (mW m0 ma la lb n t v) (@HAppend.hAppend va_W va_W va_W _ ([((ma 10), .inl (X.2.1, 150, .inl fd))]) ([((ma 17), .inl (X.2.1, 3, .inl fv))]))) sz) (va_A (@HAppend.hAppend va_W va_W va_W _ (mW m0 ma la lb n t v) (@HAppend.hAppend va_W va_W va_W _ ([((ma 10), .inl (X.2.1, 150, .inl fd))]) ([((ma 17), .inl (X.2.1, 3, .inl fv))]))) sz) s (@HAppend.hAppend va_W va_W va_W _ (mW m0 ma la lb n t v) (@HAppend.hAppend va_W va_W va_W _ ([((ma 10), .inl (X.2.1, 150, .inl fd))]) ([((ma 17), .inl (X.2.1, 3, .inl fv))]))) H locs := G
    rcases hp_2 with ⟨rfl, hw_2⟩ | ⟨rfl, hw_2⟩
    · refine lv_if_ne (tgt := 25) zx zb dX11_takes_20 (by decide) (fun c_3 => ?_) (fun c_3 => absurd c_3 (by decide))
      refine lv_aload_n zx zb dX11_takes_25 rfl (lv_at hl 0 rfl) ?_
      refine r_get (C := RX11) (T := TX11) (N := 18) (ci := 9) (v := .ref (ma 17)) S in_X11_takes_X11 G 0 rfl rfl 17 (by decide) lk_X11_takes_45 rfl dX11_takes_26 ?_
      refine lv_iload_n zx zb dX11_takes_29 rfl (lv_at hl 1 rfl) ?_
      refine lv_aload_n zx zb dX11_takes_30 rfl (lv_at hl 0 rfl) ?_
      refine r_get (C := RX11) (T := TX11) (N := 18) (ci := 9) (v := .int (v 1)) S in_X11_takes_X11 G 0 rfl rfl 15 (by decide) lk_X11_takes_226 rfl dX11_takes_31 ?_
      refine r_iast S G 2 rfl (k_vp (by decide)) dX11_takes_34 (fun H locs G => ?_)
      obtain ⟨f_4, hE_f_4, G⟩ : ∃ f_4 : Nat → Int32, f_4 = upd fv 0 (v 1) ∧ wd X (va_A (@HAppend.hAppend va_W va_W va_W _ (mW m0 ma la lb n t v) (@HAppend.hAppend va_W va_W va_W _ ([((ma 10), .inl (X.2.1, 150, .inl fd))]) ([((ma 17), .inl (X.2.1, 3, .inl fv))]))) sz) (va_A (@HAppend.hAppend va_W va_W va_W _ (mW m0 ma la lb n t v) (@HAppend.hAppend va_W va_W va_W _ ([((ma 10), .inl (X.2.1, 150, .inl fd))]) ([((ma 17), .inl (X.2.1, 3, .inl fv))]))) sz) s (@HAppend.hAppend va_W va_W va_W _ (mW m0 ma la lb n t v) (@HAppend.hAppend va_W va_W va_W _ ([((ma 10), .inl (X.2.1, 150, .inl fd))]) ([((ma 17), .inl (X.2.1, 3, .inl f_4))]))) H locs := ⟨_, rfl, G⟩
      refine lv_aload_n zx zb dX11_takes_35 rfl (lv_at hl 0 rfl) ?_
      refine b_wv (cells' := 0) (slots' := 0) (wr := [((ma 17), .inl (X.2.1, 3, .inl f_4))]) G rfl rfl [0, 1] [2] rfl rfl rfl rfl (n_V (As := []) (rest := []) (C := RX11) (T := TX11) (N := 18) (ci := 9) S G (m_goBehind l X m0 ma la lb n t v fd hI_n hI_t ⟨by omega, by first | assumption | omega⟩ H.size) gX11_takes_X11_goBehind rfl rfl rfl hdV_X11_goBehind ⟨Nat.le_of_ble_eq_true rfl, Nat.le_of_ble_eq_true rfl⟩ [0, 1] rfl rfl 0 rfl rfl rfl hl.1 (Nat.le_of_ble_eq_true rfl) dX11_takes_36 ⟨Nat.le_of_ble_eq_true rfl, Nat.le_of_ble_eq_true rfl⟩) (fun u_5 H locs hp_5 G => ?_)
      obtain ⟨t_5a, v_5b⟩ := u_5
      try dsimp only at hp_5
      obtain ⟨hI_t_5a, hq_5⟩ := hp_5
      have hO_t_5a := hI_t_5a
      obtain ⟨ht0_t_5a, ht1_t_5a⟩ := hO_t_5a
      have G : wd X (va_A (@HAppend.hAppend va_W va_W va_W _ (mW m0 ma la lb n t v) (@HAppend.hAppend va_W va_W va_W _ ([((ma 10), .inl (X.2.1, 150, .inl fd))]) ([((ma 17), .inl (X.2.1, 3, .inl fv))]))) sz) (va_A (@HAppend.hAppend va_W va_W va_W _ (mW m0 ma la lb n t v) (@HAppend.hAppend va_W va_W va_W _ ([((ma 10), .inl (X.2.1, 150, .inl fd))]) ([((ma 17), .inl (X.2.1, 3, .inl fv))]))) sz) s (@HAppend.hAppend va_W va_W va_W _ ([((ma 17), .inl (X.2.1, 3, .inl f_4))]) (@HAppend.hAppend va_W va_W va_W _ (mW m0 ma la lb n t_5a v_5b) ([((ma 10), .inl (X.2.1, 150, .inl fd))]))) H locs := G
      obtain ⟨hz0_5, hz1_5, hz2_5⟩ := hq_5
      refine lv_iconst (v := 1) zx zb dX11_takes_39 (by decide) ?_
      exact e_int S zr zlk (by decide) G (t_5a, v_5b, f_4) [1, 2, 0] rfl rfl (Or.inr rfl) (⟨hI_t_5a, ⟨⟨by first | omega | (dsimp only; omega), by first | omega | (dsimp only; omega), by assumption⟩, Or.inr ⟨rfl, (by rw [hE_f_4]; exact hw_2), (by rw [hE_f_4]; rfl), (by rw [hE_f_4]; rfl)⟩⟩⟩) dX11_takes_40
    · refine lv_if_ne (tgt := 25) zx zb dX11_takes_20 (by decide) (fun c_6 => absurd (by decide) c_6) (fun c_6 => ?_)
      refine lv_iconst (v := 0) zx zb dX11_takes_23 (by decide) ?_
      exact e_int S zr zlk (by decide) G (t, v, fv) [0, 1, 2] rfl rfl (Or.inr rfl) (⟨hI_t, ⟨⟨Nat.le_refl _, hT1, hT2⟩, Or.inl rfl⟩⟩) dX11_takes_24
set_option maxHeartbeats 4000000 in
set_option maxRecDepth 100000 in
/-- takes -/
theorem m_takes1 (l : Launch) (X : EX) (m0 : Nat) (ma : Nat → Nat) (la : Int64) (lb : Int64) (n : Nat) (t : Nat → Nat) (v : Nat → Int32) (fd : Nat → Int32) (fv : Nat → Int32) (lo : Int32) (hi : Int32) (hI_n : n ≤ 150) (hI_t : InT t) (hT : t 0 + t 1 ≤ n ∧ (v 0 = 0 ∨ 1 ≤ t 1)) (sz : Nat) : Met l yX11_takes wsX11_takes ({ frames := 4, cells := 0, slots := 0, locals := 89 } : Room) (pE X [.ref m0, .int 1, .int lo, .int hi] (@HAppend.hAppend va_W va_W va_W _ (mW m0 ma la lb n t v) (@HAppend.hAppend va_W va_W va_W _ ([((ma 10), .inl (X.2.1, 150, .inl fd))]) ([((ma 17), .inl (X.2.1, 3, .inl fv))]))) sz) (qI (fun (r : Int32) (u : (Nat → Nat) × (Nat → Int32) × (Nat → Int32)) => InT u.1 ∧ ((t 0 ≤ u.1 0 ∧ u.1 0 + u.1 1 ≤ n ∧ (u.2.1 0 = 0 ∨ 1 ≤ u.1 1)) ∧ (r = 0 ∨ (r = 1 ∧ (lo ≤ u.2.2 1 ∧ u.2.2 1 ≤ hi) ∧ u.2.2 0 = fv 0 ∧ u.2.2 2 = fv 2)))) X (fun (u : (Nat → Nat) × (Nat → Int32) × (Nat → Int32)) => @HAppend.hAppend va_W va_W va_W _ (mW m0 ma la lb n u.1 u.2.1) (@HAppend.hAppend va_W va_W va_W _ ([((ma 10), .inl (X.2.1, 150, .inl fd))]) ([((ma 17), .inl (X.2.1, 3, .inl u.2.2))]))) (@HAppend.hAppend va_W va_W va_W _ (mW m0 ma la lb n t v) (@HAppend.hAppend va_W va_W va_W _ ([((ma 10), .inl (X.2.1, 150, .inl fd))]) ([((ma 17), .inl (X.2.1, 3, .inl fv))]))) sz) 0 0 (va_A (@HAppend.hAppend va_W va_W va_W _ (mW m0 ma la lb n t v) (@HAppend.hAppend va_W va_W va_W _ ([((ma 10), .inl (X.2.1, 150, .inl fd))]) ([((ma 17), .inl (X.2.1, 3, .inl fv))]))) sz) := by
  refine mk_met (B := (va_A (@HAppend.hAppend va_W va_W va_W _ (mW m0 ma la lb n t v) (@HAppend.hAppend va_W va_W va_W _ ([((ma 10), .inl (X.2.1, 150, .inl fd))]) ([((ma 17), .inl (X.2.1, 3, .inl fv))]))) sz)) (A := (va_A (@HAppend.hAppend va_W va_W va_W _ (mW m0 ma la lb n t v) (@HAppend.hAppend va_W va_W va_W _ ([((ma 10), .inl (X.2.1, 150, .inl fd))]) ([((ma 17), .inl (X.2.1, 3, .inl fv))]))) sz)) (cc := cX11_takes) (maxL := 4) (ret := (some .boolean)) (by decide) rfl (Nat.le_of_ble_eq_true rfl) k_w k_a (fun p e s m below meth c S zr zlk znm zsz G ls hl => ?_)
  have S : CallFix p m c cX11_takes 4 s _ wsX11_takes RX11 := S
  have zx := S.1
  have zb := S.2.1
  have hl : lv_has ls 4 [(0, .ref m0), (1, .int 1), (2, .int lo), (3, .int hi)] := hl
  have hO_t := hI_t
  obtain ⟨ht0_t, ht1_t⟩ := hO_t
  obtain ⟨hT1, hT2⟩ := hT
  refine lv_aload_n zx zb dX11_takes_0 rfl (lv_at hl 0 rfl) ?_
  refine r_get (C := RX11) (T := TX11) (N := 18) (ci := 9) (v := .int (v 0)) S in_X11_takes_X11 G 0 rfl rfl 14 (by decide) lk_X11_takes_223 rfl dX11_takes_1 ?_
  refine lv_iconst (v := 2) zx zb dX11_takes_4 (by decide) ?_
  refine lv_icmp_ne (tgt := 23) zx zb dX11_takes_5 (by decide) (fun c_1 => ?_) (fun c_1 => ?_)
  · refine lv_iconst (v := 0) zx zb dX11_takes_23 (by decide) ?_
    exact e_int S zr zlk (by decide) G (t, v, fv) [0, 1, 2] rfl rfl (Or.inr rfl) (⟨hI_t, ⟨⟨Nat.le_refl _, hT1, hT2⟩, Or.inl rfl⟩⟩) dX11_takes_24
  · refine lv_aload_n zx zb dX11_takes_8 rfl (lv_at hl 0 rfl) ?_
    refine r_get (C := RX11) (T := TX11) (N := 18) (ci := 9) (v := .int (v 1)) S in_X11_takes_X11 G 0 rfl rfl 15 (by decide) lk_X11_takes_226 rfl dX11_takes_9 ?_
    refine lv_i2l (v := (Int32.toInt64 (v 1))) zx zb dX11_takes_12 rfl ?_
    refine lv_iload_n zx zb dX11_takes_13 rfl (lv_at hl 2 rfl) ?_
    refine lv_i2l (v := (Int32.toInt64 lo)) zx zb dX11_takes_14 rfl ?_
    refine lv_iload_n zx zb dX11_takes_15 rfl (lv_at hl 3 rfl) ?_
    refine lv_i2l (v := (Int32.toInt64 hi)) zx zb dX11_takes_16 rfl ?_
    refine o_ri (cells' := 0) (slots' := 0) G rfl rfl (n_S (As := [.long (Int32.toInt64 (v 1)), .long (Int32.toInt64 lo), .long (Int32.toInt64 hi)]) (rest := []) S G (m_in l X (v 1) lo hi s.heap.size) gX11_takes_X11_in rfl rfl rfl hdS_X11_in ⟨Nat.le_of_ble_eq_true rfl, Nat.le_of_ble_eq_true rfl⟩ [] rfl rfl rfl hl.1 (Nat.le_of_ble_eq_true rfl) dX11_takes_17 ⟨Nat.le_of_ble_eq_true rfl, Nat.le_of_ble_eq_true rfl⟩) (fun r_2 u_2 H locs hp_2 G => ?_)
    have G : wd X (va_A (@HAppend.hAppend va_W va_W va_W _ (mW m0 ma la lb n t v) (@HAppend.hAppend va_W va_W va_W _ ([((ma 10), .inl (X.2.1, 150, .inl fd))]) ([((ma 17), .inl (X.2.1, 3, .inl fv))]))) sz) (va_A (@HAppend.hAppend va_W va_W va_W _ (mW m0 ma la lb n t v) (@HAppend.hAppend va_W va_W va_W _ ([((ma 10), .inl (X.2.1, 150, .inl fd))]) ([((ma 17), .inl (X.2.1, 3, .inl fv))]))) sz) s (@HAppend.hAppend va_W va_W va_W _ (mW m0 ma la lb n t v) (@HAppend.hAppend va_W va_W va_W _ ([((ma 10), .inl (X.2.1, 150, .inl fd))]) ([((ma 17), .inl (X.2.1, 3, .inl fv))]))) H locs := G
    rcases hp_2 with ⟨rfl, hw_2⟩ | ⟨rfl, hw_2⟩
    · refine lv_if_ne (tgt := 25) zx zb dX11_takes_20 (by decide) (fun c_3 => ?_) (fun c_3 => absurd c_3 (by decide))
      refine lv_aload_n zx zb dX11_takes_25 rfl (lv_at hl 0 rfl) ?_
      refine r_get (C := RX11) (T := TX11) (N := 18) (ci := 9) (v := .ref (ma 17)) S in_X11_takes_X11 G 0 rfl rfl 17 (by decide) lk_X11_takes_45 rfl dX11_takes_26 ?_
      refine lv_iload_n zx zb dX11_takes_29 rfl (lv_at hl 1 rfl) ?_
      refine lv_aload_n zx zb dX11_takes_30 rfl (lv_at hl 0 rfl) ?_
      refine r_get (C := RX11) (T := TX11) (N := 18) (ci := 9) (v := .int (v 1)) S in_X11_takes_X11 G 0 rfl rfl 15 (by decide) lk_X11_takes_226 rfl dX11_takes_31 ?_
      refine r_iast S G 2 rfl (k_vp (by decide)) dX11_takes_34 (fun H locs G => ?_)
      obtain ⟨f_4, hE_f_4, G⟩ : ∃ f_4 : Nat → Int32, f_4 = upd fv 1 (v 1) ∧ wd X (va_A (@HAppend.hAppend va_W va_W va_W _ (mW m0 ma la lb n t v) (@HAppend.hAppend va_W va_W va_W _ ([((ma 10), .inl (X.2.1, 150, .inl fd))]) ([((ma 17), .inl (X.2.1, 3, .inl fv))]))) sz) (va_A (@HAppend.hAppend va_W va_W va_W _ (mW m0 ma la lb n t v) (@HAppend.hAppend va_W va_W va_W _ ([((ma 10), .inl (X.2.1, 150, .inl fd))]) ([((ma 17), .inl (X.2.1, 3, .inl fv))]))) sz) s (@HAppend.hAppend va_W va_W va_W _ (mW m0 ma la lb n t v) (@HAppend.hAppend va_W va_W va_W _ ([((ma 10), .inl (X.2.1, 150, .inl fd))]) ([((ma 17), .inl (X.2.1, 3, .inl f_4))]))) H locs := ⟨_, rfl, G⟩
      refine lv_aload_n zx zb dX11_takes_35 rfl (lv_at hl 0 rfl) ?_
      refine b_wv (cells' := 0) (slots' := 0) (wr := [((ma 17), .inl (X.2.1, 3, .inl f_4))]) G rfl rfl [0, 1] [2] rfl rfl rfl rfl (n_V (As := []) (rest := []) (C := RX11) (T := TX11) (N := 18) (ci := 9) S G (m_goBehind l X m0 ma la lb n t v fd hI_n hI_t ⟨by omega, by first | assumption | omega⟩ H.size) gX11_takes_X11_goBehind rfl rfl rfl hdV_X11_goBehind ⟨Nat.le_of_ble_eq_true rfl, Nat.le_of_ble_eq_true rfl⟩ [0, 1] rfl rfl 0 rfl rfl rfl hl.1 (Nat.le_of_ble_eq_true rfl) dX11_takes_36 ⟨Nat.le_of_ble_eq_true rfl, Nat.le_of_ble_eq_true rfl⟩) (fun u_5 H locs hp_5 G => ?_)
      obtain ⟨t_5a, v_5b⟩ := u_5
      try dsimp only at hp_5
      obtain ⟨hI_t_5a, hq_5⟩ := hp_5
      have hO_t_5a := hI_t_5a
      obtain ⟨ht0_t_5a, ht1_t_5a⟩ := hO_t_5a
      have G : wd X (va_A (@HAppend.hAppend va_W va_W va_W _ (mW m0 ma la lb n t v) (@HAppend.hAppend va_W va_W va_W _ ([((ma 10), .inl (X.2.1, 150, .inl fd))]) ([((ma 17), .inl (X.2.1, 3, .inl fv))]))) sz) (va_A (@HAppend.hAppend va_W va_W va_W _ (mW m0 ma la lb n t v) (@HAppend.hAppend va_W va_W va_W _ ([((ma 10), .inl (X.2.1, 150, .inl fd))]) ([((ma 17), .inl (X.2.1, 3, .inl fv))]))) sz) s (@HAppend.hAppend va_W va_W va_W _ ([((ma 17), .inl (X.2.1, 3, .inl f_4))]) (@HAppend.hAppend va_W va_W va_W _ (mW m0 ma la lb n t_5a v_5b) ([((ma 10), .inl (X.2.1, 150, .inl fd))]))) H locs := G
      obtain ⟨hz0_5, hz1_5, hz2_5⟩ := hq_5
      refine lv_iconst (v := 1) zx zb dX11_takes_39 (by decide) ?_
      exact e_int S zr zlk (by decide) G (t_5a, v_5b, f_4) [1, 2, 0] rfl rfl (Or.inr rfl) (⟨hI_t_5a, ⟨⟨by first | omega | (dsimp only; omega), by first | omega | (dsimp only; omega), by assumption⟩, Or.inr ⟨rfl, (by rw [hE_f_4]; exact hw_2), (by rw [hE_f_4]; rfl), (by rw [hE_f_4]; rfl)⟩⟩⟩) dX11_takes_40
    · refine lv_if_ne (tgt := 25) zx zb dX11_takes_20 (by decide) (fun c_6 => absurd (by decide) c_6) (fun c_6 => ?_)
      refine lv_iconst (v := 0) zx zb dX11_takes_23 (by decide) ?_
      exact e_int S zr zlk (by decide) G (t, v, fv) [0, 1, 2] rfl rfl (Or.inr rfl) (⟨hI_t, ⟨⟨Nat.le_refl _, hT1, hT2⟩, Or.inl rfl⟩⟩) dX11_takes_24
set_option maxHeartbeats 4000000 in
set_option maxRecDepth 100000 in
/-- takes -/
theorem m_takes2 (l : Launch) (X : EX) (m0 : Nat) (ma : Nat → Nat) (la : Int64) (lb : Int64) (n : Nat) (t : Nat → Nat) (v : Nat → Int32) (fd : Nat → Int32) (fv : Nat → Int32) (lo : Int32) (hi : Int32) (hI_n : n ≤ 150) (hI_t : InT t) (hT : t 0 + t 1 ≤ n ∧ (v 0 = 0 ∨ 1 ≤ t 1)) (sz : Nat) : Met l yX11_takes wsX11_takes ({ frames := 4, cells := 0, slots := 0, locals := 89 } : Room) (pE X [.ref m0, .int 2, .int lo, .int hi] (@HAppend.hAppend va_W va_W va_W _ (mW m0 ma la lb n t v) (@HAppend.hAppend va_W va_W va_W _ ([((ma 10), .inl (X.2.1, 150, .inl fd))]) ([((ma 17), .inl (X.2.1, 3, .inl fv))]))) sz) (qI (fun (r : Int32) (u : (Nat → Nat) × (Nat → Int32) × (Nat → Int32)) => InT u.1 ∧ ((t 0 ≤ u.1 0 ∧ u.1 0 + u.1 1 ≤ n ∧ (u.2.1 0 = 0 ∨ 1 ≤ u.1 1)) ∧ (r = 0 ∨ (r = 1 ∧ (lo ≤ u.2.2 2 ∧ u.2.2 2 ≤ hi) ∧ u.2.2 0 = fv 0 ∧ u.2.2 1 = fv 1)))) X (fun (u : (Nat → Nat) × (Nat → Int32) × (Nat → Int32)) => @HAppend.hAppend va_W va_W va_W _ (mW m0 ma la lb n u.1 u.2.1) (@HAppend.hAppend va_W va_W va_W _ ([((ma 10), .inl (X.2.1, 150, .inl fd))]) ([((ma 17), .inl (X.2.1, 3, .inl u.2.2))]))) (@HAppend.hAppend va_W va_W va_W _ (mW m0 ma la lb n t v) (@HAppend.hAppend va_W va_W va_W _ ([((ma 10), .inl (X.2.1, 150, .inl fd))]) ([((ma 17), .inl (X.2.1, 3, .inl fv))]))) sz) 0 0 (va_A (@HAppend.hAppend va_W va_W va_W _ (mW m0 ma la lb n t v) (@HAppend.hAppend va_W va_W va_W _ ([((ma 10), .inl (X.2.1, 150, .inl fd))]) ([((ma 17), .inl (X.2.1, 3, .inl fv))]))) sz) := by
  refine mk_met (B := (va_A (@HAppend.hAppend va_W va_W va_W _ (mW m0 ma la lb n t v) (@HAppend.hAppend va_W va_W va_W _ ([((ma 10), .inl (X.2.1, 150, .inl fd))]) ([((ma 17), .inl (X.2.1, 3, .inl fv))]))) sz)) (A := (va_A (@HAppend.hAppend va_W va_W va_W _ (mW m0 ma la lb n t v) (@HAppend.hAppend va_W va_W va_W _ ([((ma 10), .inl (X.2.1, 150, .inl fd))]) ([((ma 17), .inl (X.2.1, 3, .inl fv))]))) sz)) (cc := cX11_takes) (maxL := 4) (ret := (some .boolean)) (by decide) rfl (Nat.le_of_ble_eq_true rfl) k_w k_a (fun p e s m below meth c S zr zlk znm zsz G ls hl => ?_)
  have S : CallFix p m c cX11_takes 4 s _ wsX11_takes RX11 := S
  have zx := S.1
  have zb := S.2.1
  have hl : lv_has ls 4 [(0, .ref m0), (1, .int 2), (2, .int lo), (3, .int hi)] := hl
  have hO_t := hI_t
  obtain ⟨ht0_t, ht1_t⟩ := hO_t
  obtain ⟨hT1, hT2⟩ := hT
  refine lv_aload_n zx zb dX11_takes_0 rfl (lv_at hl 0 rfl) ?_
  refine r_get (C := RX11) (T := TX11) (N := 18) (ci := 9) (v := .int (v 0)) S in_X11_takes_X11 G 0 rfl rfl 14 (by decide) lk_X11_takes_223 rfl dX11_takes_1 ?_
  refine lv_iconst (v := 2) zx zb dX11_takes_4 (by decide) ?_
  refine lv_icmp_ne (tgt := 23) zx zb dX11_takes_5 (by decide) (fun c_1 => ?_) (fun c_1 => ?_)
  · refine lv_iconst (v := 0) zx zb dX11_takes_23 (by decide) ?_
    exact e_int S zr zlk (by decide) G (t, v, fv) [0, 1, 2] rfl rfl (Or.inr rfl) (⟨hI_t, ⟨⟨Nat.le_refl _, hT1, hT2⟩, Or.inl rfl⟩⟩) dX11_takes_24
  · refine lv_aload_n zx zb dX11_takes_8 rfl (lv_at hl 0 rfl) ?_
    refine r_get (C := RX11) (T := TX11) (N := 18) (ci := 9) (v := .int (v 1)) S in_X11_takes_X11 G 0 rfl rfl 15 (by decide) lk_X11_takes_226 rfl dX11_takes_9 ?_
    refine lv_i2l (v := (Int32.toInt64 (v 1))) zx zb dX11_takes_12 rfl ?_
    refine lv_iload_n zx zb dX11_takes_13 rfl (lv_at hl 2 rfl) ?_
    refine lv_i2l (v := (Int32.toInt64 lo)) zx zb dX11_takes_14 rfl ?_
    refine lv_iload_n zx zb dX11_takes_15 rfl (lv_at hl 3 rfl) ?_
    refine lv_i2l (v := (Int32.toInt64 hi)) zx zb dX11_takes_16 rfl ?_
    refine o_ri (cells' := 0) (slots' := 0) G rfl rfl (n_S (As := [.long (Int32.toInt64 (v 1)), .long (Int32.toInt64 lo), .long (Int32.toInt64 hi)]) (rest := []) S G (m_in l X (v 1) lo hi s.heap.size) gX11_takes_X11_in rfl rfl rfl hdS_X11_in ⟨Nat.le_of_ble_eq_true rfl, Nat.le_of_ble_eq_true rfl⟩ [] rfl rfl rfl hl.1 (Nat.le_of_ble_eq_true rfl) dX11_takes_17 ⟨Nat.le_of_ble_eq_true rfl, Nat.le_of_ble_eq_true rfl⟩) (fun r_2 u_2 H locs hp_2 G => ?_)
    have G : wd X (va_A (@HAppend.hAppend va_W va_W va_W _ (mW m0 ma la lb n t v) (@HAppend.hAppend va_W va_W va_W _ ([((ma 10), .inl (X.2.1, 150, .inl fd))]) ([((ma 17), .inl (X.2.1, 3, .inl fv))]))) sz) (va_A (@HAppend.hAppend va_W va_W va_W _ (mW m0 ma la lb n t v) (@HAppend.hAppend va_W va_W va_W _ ([((ma 10), .inl (X.2.1, 150, .inl fd))]) ([((ma 17), .inl (X.2.1, 3, .inl fv))]))) sz) s (@HAppend.hAppend va_W va_W va_W _ (mW m0 ma la lb n t v) (@HAppend.hAppend va_W va_W va_W _ ([((ma 10), .inl (X.2.1, 150, .inl fd))]) ([((ma 17), .inl (X.2.1, 3, .inl fv))]))) H locs := G
    rcases hp_2 with ⟨rfl, hw_2⟩ | ⟨rfl, hw_2⟩
    · refine lv_if_ne (tgt := 25) zx zb dX11_takes_20 (by decide) (fun c_3 => ?_) (fun c_3 => absurd c_3 (by decide))
      refine lv_aload_n zx zb dX11_takes_25 rfl (lv_at hl 0 rfl) ?_
      refine r_get (C := RX11) (T := TX11) (N := 18) (ci := 9) (v := .ref (ma 17)) S in_X11_takes_X11 G 0 rfl rfl 17 (by decide) lk_X11_takes_45 rfl dX11_takes_26 ?_
      refine lv_iload_n zx zb dX11_takes_29 rfl (lv_at hl 1 rfl) ?_
      refine lv_aload_n zx zb dX11_takes_30 rfl (lv_at hl 0 rfl) ?_
      refine r_get (C := RX11) (T := TX11) (N := 18) (ci := 9) (v := .int (v 1)) S in_X11_takes_X11 G 0 rfl rfl 15 (by decide) lk_X11_takes_226 rfl dX11_takes_31 ?_
      refine r_iast S G 2 rfl (k_vp (by decide)) dX11_takes_34 (fun H locs G => ?_)
      obtain ⟨f_4, hE_f_4, G⟩ : ∃ f_4 : Nat → Int32, f_4 = upd fv 2 (v 1) ∧ wd X (va_A (@HAppend.hAppend va_W va_W va_W _ (mW m0 ma la lb n t v) (@HAppend.hAppend va_W va_W va_W _ ([((ma 10), .inl (X.2.1, 150, .inl fd))]) ([((ma 17), .inl (X.2.1, 3, .inl fv))]))) sz) (va_A (@HAppend.hAppend va_W va_W va_W _ (mW m0 ma la lb n t v) (@HAppend.hAppend va_W va_W va_W _ ([((ma 10), .inl (X.2.1, 150, .inl fd))]) ([((ma 17), .inl (X.2.1, 3, .inl fv))]))) sz) s (@HAppend.hAppend va_W va_W va_W _ (mW m0 ma la lb n t v) (@HAppend.hAppend va_W va_W va_W _ ([((ma 10), .inl (X.2.1, 150, .inl fd))]) ([((ma 17), .inl (X.2.1, 3, .inl f_4))]))) H locs := ⟨_, rfl, G⟩
      refine lv_aload_n zx zb dX11_takes_35 rfl (lv_at hl 0 rfl) ?_
      refine b_wv (cells' := 0) (slots' := 0) (wr := [((ma 17), .inl (X.2.1, 3, .inl f_4))]) G rfl rfl [0, 1] [2] rfl rfl rfl rfl (n_V (As := []) (rest := []) (C := RX11) (T := TX11) (N := 18) (ci := 9) S G (m_goBehind l X m0 ma la lb n t v fd hI_n hI_t ⟨by omega, by first | assumption | omega⟩ H.size) gX11_takes_X11_goBehind rfl rfl rfl hdV_X11_goBehind ⟨Nat.le_of_ble_eq_true rfl, Nat.le_of_ble_eq_true rfl⟩ [0, 1] rfl rfl 0 rfl rfl rfl hl.1 (Nat.le_of_ble_eq_true rfl) dX11_takes_36 ⟨Nat.le_of_ble_eq_true rfl, Nat.le_of_ble_eq_true rfl⟩) (fun u_5 H locs hp_5 G => ?_)
      obtain ⟨t_5a, v_5b⟩ := u_5
      try dsimp only at hp_5
      obtain ⟨hI_t_5a, hq_5⟩ := hp_5
      have hO_t_5a := hI_t_5a
      obtain ⟨ht0_t_5a, ht1_t_5a⟩ := hO_t_5a
      have G : wd X (va_A (@HAppend.hAppend va_W va_W va_W _ (mW m0 ma la lb n t v) (@HAppend.hAppend va_W va_W va_W _ ([((ma 10), .inl (X.2.1, 150, .inl fd))]) ([((ma 17), .inl (X.2.1, 3, .inl fv))]))) sz) (va_A (@HAppend.hAppend va_W va_W va_W _ (mW m0 ma la lb n t v) (@HAppend.hAppend va_W va_W va_W _ ([((ma 10), .inl (X.2.1, 150, .inl fd))]) ([((ma 17), .inl (X.2.1, 3, .inl fv))]))) sz) s (@HAppend.hAppend va_W va_W va_W _ ([((ma 17), .inl (X.2.1, 3, .inl f_4))]) (@HAppend.hAppend va_W va_W va_W _ (mW m0 ma la lb n t_5a v_5b) ([((ma 10), .inl (X.2.1, 150, .inl fd))]))) H locs := G
      obtain ⟨hz0_5, hz1_5, hz2_5⟩ := hq_5
      refine lv_iconst (v := 1) zx zb dX11_takes_39 (by decide) ?_
      exact e_int S zr zlk (by decide) G (t_5a, v_5b, f_4) [1, 2, 0] rfl rfl (Or.inr rfl) (⟨hI_t_5a, ⟨⟨by first | omega | (dsimp only; omega), by first | omega | (dsimp only; omega), by assumption⟩, Or.inr ⟨rfl, (by rw [hE_f_4]; exact hw_2), (by rw [hE_f_4]; rfl), (by rw [hE_f_4]; rfl)⟩⟩⟩) dX11_takes_40
    · refine lv_if_ne (tgt := 25) zx zb dX11_takes_20 (by decide) (fun c_6 => absurd (by decide) c_6) (fun c_6 => ?_)
      refine lv_iconst (v := 0) zx zb dX11_takes_23 (by decide) ?_
      exact e_int S zr zlk (by decide) G (t, v, fv) [0, 1, 2] rfl rfl (Or.inr rfl) (⟨hI_t, ⟨⟨Nat.le_refl _, hT1, hT2⟩, Or.inl rfl⟩⟩) dX11_takes_24
