set_option maxRecDepth 20000 in
theorem ggX11_goBehind_X11_lookAt : GoodIn wsX11_goBehind wsX11_lookAt := goodIn_r _ [7, 1, 8, 9, 2, 10, 11, 12, 13, 6, 14, 15, 16, 17, 18, 19, 20, 21, 22, 23, 24, 25, 26, 27, 28, 29, 30, 31, 32, 33, 34, 35, 36, 37, 38, 39, 40, 41, 42] rfl (by decide +kernel)
set_option maxRecDepth 20000 in
theorem gX11_goBehind_X11_lookAt : GoodIn wsX11_goBehind (wsV RX11 235 RX11 yX11_lookAt wsX11_lookAt) := goodIn_app (goodIn_of _ (by decide +kernel)) ggX11_goBehind_X11_lookAt
set_option maxRecDepth 20000 in
theorem ggX11_takesOne_X11_goBehind : GoodIn wsX11_takesOne wsX11_goBehind := goodIn_r _ [7, 8, 9, 10, 11, 12, 6, 13, 14, 15, 16, 17, 18, 19, 20, 21, 22, 23, 24, 25, 26, 27, 28, 29, 30, 38, 39, 40, 41, 42, 43, 44, 45, 46, 47, 48, 49, 50, 51, 52, 53, 54, 55] rfl (by decide +kernel)
set_option maxRecDepth 20000 in
theorem gX11_takesOne_X11_goBehind : GoodIn wsX11_takesOne (wsV RX11 238 RX11 yX11_goBehind wsX11_goBehind) := goodIn_app (goodIn_of _ (by decide +kernel)) ggX11_takesOne_X11_goBehind
set_option maxRecDepth 20000 in
theorem ggX11_takesOne_X11_layOne : GoodIn wsX11_takesOne wsX11_layOne := goodIn_r _ [37] rfl (by decide +kernel)
set_option maxRecDepth 20000 in
theorem gX11_takesOne_X11_layOne : GoodIn wsX11_takesOne (va_wsS RX11 82 yX11_layOne wsX11_layOne) := goodIn_app (goodIn_of _ (by decide +kernel)) ggX11_takesOne_X11_layOne
set_option maxRecDepth 20000 in
theorem ggX11_takesOne_X11_takes : GoodIn wsX11_takesOne wsX11_takes := goodIn_r _ [34, 16, 17, 2, 23, 24, 6, 25, 3, 4, 5, 7, 8, 9, 10, 11, 12, 13, 14, 15, 18, 19, 20, 21, 22, 26, 27, 28, 29, 30, 38, 39, 40, 41, 42, 43, 44, 45, 46, 47, 48, 49, 50, 51, 52, 53, 54, 55] rfl (by decide +kernel)
set_option maxRecDepth 20000 in
theorem gX11_takesOne_X11_takes : GoodIn wsX11_takesOne (wsV RX11 241 RX11 yX11_takes wsX11_takes) := goodIn_app (goodIn_of _ (by decide +kernel)) ggX11_takesOne_X11_takes
set_option maxRecDepth 20000 in
theorem ggX11_takes_X11_goBehind : GoodIn wsX11_takes wsX11_goBehind := goodIn_r _ [11, 12, 13, 14, 15, 16, 6, 17, 18, 19, 1, 2, 20, 21, 22, 23, 24, 4, 5, 7, 25, 26, 27, 28, 29, 30, 31, 32, 33, 34, 35, 36, 37, 38, 39, 40, 41, 42, 43, 44, 45, 46, 47] rfl (by decide +kernel)
set_option maxRecDepth 20000 in
theorem gX11_takes_X11_goBehind : GoodIn wsX11_takes (wsV RX11 238 RX11 yX11_goBehind wsX11_goBehind) := goodIn_app (goodIn_of _ (by decide +kernel)) ggX11_takes_X11_goBehind
set_option maxRecDepth 20000 in
theorem ggX11_takes_X11_in : GoodIn wsX11_takes wsX11_in := goodIn_r _ [7] rfl (by decide +kernel)
set_option maxRecDepth 20000 in
theorem gX11_takes_X11_in : GoodIn wsX11_takes (va_wsS RX11 56 yX11_in wsX11_in) := goodIn_app (goodIn_of _ (by decide +kernel)) ggX11_takes_X11_in
theorem dX11_goBehind_0 : decode cX11_goBehind 0 = .ok (.aload_n 0, 1) := by decide +kernel
theorem dX11_goBehind_1 : decode cX11_goBehind 1 = .ok (.aload_n 0, 1) := by decide +kernel
theorem dX11_goBehind_10 : decode cX11_goBehind 10 = .ok (.invokevirtual 235, 3) := by decide +kernel
theorem dX11_goBehind_13 : decode cX11_goBehind 13 = .ok (.return_, 1) := by decide +kernel
theorem dX11_goBehind_2 : decode cX11_goBehind 2 = .ok (.getfield 217, 3) := by decide +kernel
theorem dX11_goBehind_5 : decode cX11_goBehind 5 = .ok (.aload_n 0, 1) := by decide +kernel
theorem dX11_goBehind_6 : decode cX11_goBehind 6 = .ok (.getfield 220, 3) := by decide +kernel
theorem dX11_goBehind_9 : decode cX11_goBehind 9 = .ok (.iadd, 1) := by decide +kernel
theorem dX11_spells_0 : decode cX11_spells 0 = .ok (.aload_n 0, 1) := by decide +kernel
theorem dX11_spells_1 : decode cX11_spells 1 = .ok (.getfield 223, 3) := by decide +kernel
theorem dX11_spells_103 : decode cX11_spells 103 = .ok (.if_icmp .ne 7, 3) := by decide +kernel
theorem dX11_spells_106 : decode cX11_spells 106 = .ok (.iconst 1, 1) := by decide +kernel
theorem dX11_spells_107 : decode cX11_spells 107 = .ok (.goto 4, 3) := by decide +kernel
theorem dX11_spells_110 : decode cX11_spells 110 = .ok (.iconst 0, 1) := by decide +kernel
theorem dX11_spells_111 : decode cX11_spells 111 = .ok (.istore 8, 2) := by decide +kernel
theorem dX11_spells_113 : decode cX11_spells 113 = .ok (.iinc 9 1, 3) := by decide +kernel
theorem dX11_spells_116 : decode cX11_spells 116 = .ok (.goto (-90), 3) := by decide +kernel
theorem dX11_spells_119 : decode cX11_spells 119 = .ok (.iload 8, 2) := by decide +kernel
theorem dX11_spells_12 : decode cX11_spells 12 = .ok (.iload_n 1, 1) := by decide +kernel
theorem dX11_spells_121 : decode cX11_spells 121 = .ok (.ireturn, 1) := by decide +kernel
theorem dX11_spells_13 : decode cX11_spells 13 = .ok (.if_icmp .ne 7, 3) := by decide +kernel
theorem dX11_spells_16 : decode cX11_spells 16 = .ok (.iconst 1, 1) := by decide +kernel
theorem dX11_spells_17 : decode cX11_spells 17 = .ok (.goto 4, 3) := by decide +kernel
theorem dX11_spells_20 : decode cX11_spells 20 = .ok (.iconst 0, 1) := by decide +kernel
theorem dX11_spells_21 : decode cX11_spells 21 = .ok (.istore 8, 2) := by decide +kernel
theorem dX11_spells_23 : decode cX11_spells 23 = .ok (.iconst 0, 1) := by decide +kernel
theorem dX11_spells_24 : decode cX11_spells 24 = .ok (.istore 9, 2) := by decide +kernel
theorem dX11_spells_26 : decode cX11_spells 26 = .ok (.iload 9, 2) := by decide +kernel
theorem dX11_spells_28 : decode cX11_spells 28 = .ok (.iload_n 1, 1) := by decide +kernel
theorem dX11_spells_29 : decode cX11_spells 29 = .ok (.if_icmp .ge 90, 3) := by decide +kernel
theorem dX11_spells_32 : decode cX11_spells 32 = .ok (.iload 8, 2) := by decide +kernel
theorem dX11_spells_34 : decode cX11_spells 34 = .ok (.ifCond .eq 85, 3) := by decide +kernel
theorem dX11_spells_37 : decode cX11_spells 37 = .ok (.aload_n 0, 1) := by decide +kernel
theorem dX11_spells_38 : decode cX11_spells 38 = .ok (.getfield 39, 3) := by decide +kernel
theorem dX11_spells_4 : decode cX11_spells 4 = .ok (.iconst 1, 1) := by decide +kernel
theorem dX11_spells_41 : decode cX11_spells 41 = .ok (.aload_n 0, 1) := by decide +kernel
theorem dX11_spells_42 : decode cX11_spells 42 = .ok (.getfield 217, 3) := by decide +kernel
theorem dX11_spells_45 : decode cX11_spells 45 = .ok (.iload 9, 2) := by decide +kernel
theorem dX11_spells_47 : decode cX11_spells 47 = .ok (.iadd, 1) := by decide +kernel
theorem dX11_spells_48 : decode cX11_spells 48 = .ok (.iaload, 1) := by decide +kernel
theorem dX11_spells_49 : decode cX11_spells 49 = .ok (.iload 9, 2) := by decide +kernel
theorem dX11_spells_5 : decode cX11_spells 5 = .ok (.if_icmp .ne 15, 3) := by decide +kernel
theorem dX11_spells_51 : decode cX11_spells 51 = .ok (.ifCond .ne 7, 3) := by decide +kernel
theorem dX11_spells_54 : decode cX11_spells 54 = .ok (.iload_n 2, 1) := by decide +kernel
theorem dX11_spells_55 : decode cX11_spells 55 = .ok (.goto 48, 3) := by decide +kernel
theorem dX11_spells_58 : decode cX11_spells 58 = .ok (.iload 9, 2) := by decide +kernel
theorem dX11_spells_60 : decode cX11_spells 60 = .ok (.iconst 1, 1) := by decide +kernel
theorem dX11_spells_61 : decode cX11_spells 61 = .ok (.if_icmp .ne 7, 3) := by decide +kernel
theorem dX11_spells_64 : decode cX11_spells 64 = .ok (.iload_n 3, 1) := by decide +kernel
theorem dX11_spells_65 : decode cX11_spells 65 = .ok (.goto 38, 3) := by decide +kernel
theorem dX11_spells_68 : decode cX11_spells 68 = .ok (.iload 9, 2) := by decide +kernel
theorem dX11_spells_70 : decode cX11_spells 70 = .ok (.iconst 2, 1) := by decide +kernel
theorem dX11_spells_71 : decode cX11_spells 71 = .ok (.if_icmp .ne 8, 3) := by decide +kernel
theorem dX11_spells_74 : decode cX11_spells 74 = .ok (.iload 4, 2) := by decide +kernel
theorem dX11_spells_76 : decode cX11_spells 76 = .ok (.goto 27, 3) := by decide +kernel
theorem dX11_spells_79 : decode cX11_spells 79 = .ok (.iload 9, 2) := by decide +kernel
theorem dX11_spells_8 : decode cX11_spells 8 = .ok (.aload_n 0, 1) := by decide +kernel
theorem dX11_spells_81 : decode cX11_spells 81 = .ok (.iconst 3, 1) := by decide +kernel
theorem dX11_spells_82 : decode cX11_spells 82 = .ok (.if_icmp .ne 8, 3) := by decide +kernel
theorem dX11_spells_85 : decode cX11_spells 85 = .ok (.iload 5, 2) := by decide +kernel
theorem dX11_spells_87 : decode cX11_spells 87 = .ok (.goto 16, 3) := by decide +kernel
theorem dX11_spells_9 : decode cX11_spells 9 = .ok (.getfield 220, 3) := by decide +kernel
theorem dX11_spells_90 : decode cX11_spells 90 = .ok (.iload 9, 2) := by decide +kernel
theorem dX11_spells_92 : decode cX11_spells 92 = .ok (.iconst 4, 1) := by decide +kernel
theorem dX11_spells_93 : decode cX11_spells 93 = .ok (.if_icmp .ne 8, 3) := by decide +kernel
theorem dX11_spells_96 : decode cX11_spells 96 = .ok (.iload 6, 2) := by decide +kernel
theorem dX11_spells_98 : decode cX11_spells 98 = .ok (.goto 5, 3) := by decide +kernel
theorem dX11_takesOne_0 : decode cX11_takesOne 0 = .ok (.aload_n 0, 1) := by decide +kernel
theorem dX11_takesOne_1 : decode cX11_takesOne 1 = .ok (.getfield 42, 3) := by decide +kernel
theorem dX11_takesOne_11 : decode cX11_takesOne 11 = .ok (.iconst 0, 1) := by decide +kernel
theorem dX11_takesOne_12 : decode cX11_takesOne 12 = .ok (.ireturn, 1) := by decide +kernel
theorem dX11_takesOne_13 : decode cX11_takesOne 13 = .ok (.aload_n 0, 1) := by decide +kernel
theorem dX11_takesOne_14 : decode cX11_takesOne 14 = .ok (.invokevirtual 238, 3) := by decide +kernel
theorem dX11_takesOne_17 : decode cX11_takesOne 17 = .ok (.aload_n 0, 1) := by decide +kernel
theorem dX11_takesOne_18 : decode cX11_takesOne 18 = .ok (.iconst 0, 1) := by decide +kernel
theorem dX11_takesOne_19 : decode cX11_takesOne 19 = .ok (.iconst 0, 1) := by decide +kernel
theorem dX11_takesOne_20 : decode cX11_takesOne 20 = .ok (.iconst 5, 1) := by decide +kernel
theorem dX11_takesOne_21 : decode cX11_takesOne 21 = .ok (.invokevirtual 241, 3) := by decide +kernel
theorem dX11_takesOne_24 : decode cX11_takesOne 24 = .ok (.ifCond .eq 24, 3) := by decide +kernel
theorem dX11_takesOne_27 : decode cX11_takesOne 27 = .ok (.aload_n 0, 1) := by decide +kernel
theorem dX11_takesOne_28 : decode cX11_takesOne 28 = .ok (.iconst 1, 1) := by decide +kernel
theorem dX11_takesOne_29 : decode cX11_takesOne 29 = .ok (.iconst 1, 1) := by decide +kernel
theorem dX11_takesOne_30 : decode cX11_takesOne 30 = .ok (.bipush 9, 2) := by decide +kernel
theorem dX11_takesOne_32 : decode cX11_takesOne 32 = .ok (.invokevirtual 241, 3) := by decide +kernel
theorem dX11_takesOne_35 : decode cX11_takesOne 35 = .ok (.ifCond .eq 13, 3) := by decide +kernel
theorem dX11_takesOne_38 : decode cX11_takesOne 38 = .ok (.aload_n 0, 1) := by decide +kernel
theorem dX11_takesOne_39 : decode cX11_takesOne 39 = .ok (.iconst 2, 1) := by decide +kernel
theorem dX11_takesOne_4 : decode cX11_takesOne 4 = .ok (.iconst 0, 1) := by decide +kernel
theorem dX11_takesOne_40 : decode cX11_takesOne 40 = .ok (.iconst 0, 1) := by decide +kernel
theorem dX11_takesOne_41 : decode cX11_takesOne 41 = .ok (.iconst 5, 1) := by decide +kernel
theorem dX11_takesOne_42 : decode cX11_takesOne 42 = .ok (.invokevirtual 241, 3) := by decide +kernel
theorem dX11_takesOne_45 : decode cX11_takesOne 45 = .ok (.ifCond .ne 5, 3) := by decide +kernel
theorem dX11_takesOne_48 : decode cX11_takesOne 48 = .ok (.iconst 0, 1) := by decide +kernel
theorem dX11_takesOne_49 : decode cX11_takesOne 49 = .ok (.ireturn, 1) := by decide +kernel
theorem dX11_takesOne_5 : decode cX11_takesOne 5 = .ok (.iaload, 1) := by decide +kernel
theorem dX11_takesOne_50 : decode cX11_takesOne 50 = .ok (.aload_n 0, 1) := by decide +kernel
theorem dX11_takesOne_51 : decode cX11_takesOne 51 = .ok (.getfield 42, 3) := by decide +kernel
theorem dX11_takesOne_54 : decode cX11_takesOne 54 = .ok (.aload_n 0, 1) := by decide +kernel
theorem dX11_takesOne_55 : decode cX11_takesOne 55 = .ok (.getfield 45, 3) := by decide +kernel
theorem dX11_takesOne_58 : decode cX11_takesOne 58 = .ok (.iconst 0, 1) := by decide +kernel
theorem dX11_takesOne_59 : decode cX11_takesOne 59 = .ok (.iaload, 1) := by decide +kernel
theorem dX11_takesOne_6 : decode cX11_takesOne 6 = .ok (.bipush 6, 2) := by decide +kernel
theorem dX11_takesOne_60 : decode cX11_takesOne 60 = .ok (.aload_n 0, 1) := by decide +kernel
theorem dX11_takesOne_61 : decode cX11_takesOne 61 = .ok (.getfield 45, 3) := by decide +kernel
theorem dX11_takesOne_64 : decode cX11_takesOne 64 = .ok (.iconst 1, 1) := by decide +kernel
theorem dX11_takesOne_65 : decode cX11_takesOne 65 = .ok (.iaload, 1) := by decide +kernel
theorem dX11_takesOne_66 : decode cX11_takesOne 66 = .ok (.aload_n 0, 1) := by decide +kernel
theorem dX11_takesOne_67 : decode cX11_takesOne 67 = .ok (.getfield 45, 3) := by decide +kernel
theorem dX11_takesOne_70 : decode cX11_takesOne 70 = .ok (.iconst 2, 1) := by decide +kernel
theorem dX11_takesOne_71 : decode cX11_takesOne 71 = .ok (.iaload, 1) := by decide +kernel
theorem dX11_takesOne_72 : decode cX11_takesOne 72 = .ok (.invokestatic 82, 3) := by decide +kernel
theorem dX11_takesOne_75 : decode cX11_takesOne 75 = .ok (.iconst 1, 1) := by decide +kernel
theorem dX11_takesOne_76 : decode cX11_takesOne 76 = .ok (.ireturn, 1) := by decide +kernel
theorem dX11_takesOne_8 : decode cX11_takesOne 8 = .ok (.if_icmp .ne 5, 3) := by decide +kernel
theorem dX11_takes_0 : decode cX11_takes 0 = .ok (.aload_n 0, 1) := by decide +kernel
theorem dX11_takes_1 : decode cX11_takes 1 = .ok (.getfield 223, 3) := by decide +kernel
theorem dX11_takes_12 : decode cX11_takes 12 = .ok (.i2l, 1) := by decide +kernel
theorem dX11_takes_13 : decode cX11_takes 13 = .ok (.iload_n 2, 1) := by decide +kernel
theorem dX11_takes_14 : decode cX11_takes 14 = .ok (.i2l, 1) := by decide +kernel
theorem dX11_takes_15 : decode cX11_takes 15 = .ok (.iload_n 3, 1) := by decide +kernel
theorem dX11_takes_16 : decode cX11_takes 16 = .ok (.i2l, 1) := by decide +kernel
theorem dX11_takes_17 : decode cX11_takes 17 = .ok (.invokestatic 56, 3) := by decide +kernel
theorem dX11_takes_20 : decode cX11_takes 20 = .ok (.ifCond .ne 5, 3) := by decide +kernel
theorem dX11_takes_23 : decode cX11_takes 23 = .ok (.iconst 0, 1) := by decide +kernel
theorem dX11_takes_24 : decode cX11_takes 24 = .ok (.ireturn, 1) := by decide +kernel
theorem dX11_takes_25 : decode cX11_takes 25 = .ok (.aload_n 0, 1) := by decide +kernel
theorem dX11_takes_26 : decode cX11_takes 26 = .ok (.getfield 45, 3) := by decide +kernel
theorem dX11_takes_29 : decode cX11_takes 29 = .ok (.iload_n 1, 1) := by decide +kernel
theorem dX11_takes_30 : decode cX11_takes 30 = .ok (.aload_n 0, 1) := by decide +kernel
theorem dX11_takes_31 : decode cX11_takes 31 = .ok (.getfield 226, 3) := by decide +kernel
theorem dX11_takes_34 : decode cX11_takes 34 = .ok (.iastore, 1) := by decide +kernel
theorem dX11_takes_35 : decode cX11_takes 35 = .ok (.aload_n 0, 1) := by decide +kernel
theorem dX11_takes_36 : decode cX11_takes 36 = .ok (.invokevirtual 238, 3) := by decide +kernel
theorem dX11_takes_39 : decode cX11_takes 39 = .ok (.iconst 1, 1) := by decide +kernel
theorem dX11_takes_4 : decode cX11_takes 4 = .ok (.iconst 2, 1) := by decide +kernel
theorem dX11_takes_40 : decode cX11_takes 40 = .ok (.ireturn, 1) := by decide +kernel
theorem dX11_takes_5 : decode cX11_takes 5 = .ok (.if_icmp .ne 18, 3) := by decide +kernel
theorem dX11_takes_8 : decode cX11_takes 8 = .ok (.aload_n 0, 1) := by decide +kernel
theorem dX11_takes_9 : decode cX11_takes 9 = .ok (.getfield 226, 3) := by decide +kernel
set_option maxHeartbeats 4000000 in
set_option maxRecDepth 100000 in
theorem y_goBehind (l : Launch) (X : EX) (m0 : Nat) (ma : Nat → Nat) (la : Int64) (lb : Int64) (n : Nat) (t : Nat → Nat) (v : Nat → Int32) (fd : Nat → Int32) (s0 : Nat) (hI_n : n ≤ 150) (hI_t : InT t) (hK : tkM fd n t v s0) (sz : Nat) : Met l yX11_goBehind wsX11_goBehind ({ frames := 3, cells := 0, slots := 0, locals := 69 } : Room) (pE X [.ref m0] (@HAppend.hAppend va_W va_W va_W _ (mW m0 ma la lb n t v) ([((ma 10), .inl (X.2.1, 150, .inl fd))])) sz) (qV (fun (u : (Nat → Nat) × (Nat → Int32)) => InT u.1 ∧ (tkM fd n u.1 u.2 (tN fd n s0))) X (fun (u : (Nat → Nat) × (Nat → Int32)) => @HAppend.hAppend va_W va_W va_W _ (mW m0 ma la lb n u.1 u.2) ([((ma 10), .inl (X.2.1, 150, .inl fd))])) (@HAppend.hAppend va_W va_W va_W _ (mW m0 ma la lb n t v) ([((ma 10), .inl (X.2.1, 150, .inl fd))])) sz) 0 0 (va_A (@HAppend.hAppend va_W va_W va_W _ (mW m0 ma la lb n t v) ([((ma 10), .inl (X.2.1, 150, .inl fd))])) sz) := by
  refine mk_met (B := (va_A (@HAppend.hAppend va_W va_W va_W _ (mW m0 ma la lb n t v) ([((ma 10), .inl (X.2.1, 150, .inl fd))])) sz)) (A := (va_A (@HAppend.hAppend va_W va_W va_W _ (mW m0 ma la lb n t v) ([((ma 10), .inl (X.2.1, 150, .inl fd))])) sz)) (cc := cX11_goBehind) (maxL := 1) (ret := none) (by decide) rfl (Nat.le_of_ble_eq_true rfl) k_w k_a (fun p e s m below meth c S zr zlk znm zsz G ls hl => ?_)
  have S : CallFix p m c cX11_goBehind 1 s _ wsX11_goBehind RX11 := S
  have zx := S.1
  have zb := S.2.1
  have hl : lv_has ls 1 [(0, .ref m0)] := hl
  have hO_t := hI_t
  obtain ⟨ht0_t, ht1_t⟩ := hO_t
  obtain ⟨hK0, hK1, hK2, hK3, hK4⟩ := hK
  have hTe := tE_le (T := fd) (n := n) (s := s0) hK4
  refine lv_aload_n zx zb dX11_goBehind_0 rfl (lv_at hl 0 rfl) ?_
  refine lv_aload_n zx zb dX11_goBehind_1 rfl (lv_at hl 0 rfl) ?_
  refine r_get (C := RX11) (T := TX11) (N := 18) (ci := 9) (v := .int (nI (t 0))) S in_X11_goBehind_X11 G 0 rfl rfl 12 (by decide) lk_X11_goBehind_217 rfl dX11_goBehind_2 ?_
  refine lv_aload_n zx zb dX11_goBehind_5 rfl (lv_at hl 0 rfl) ?_
  refine r_get (C := RX11) (T := TX11) (N := 18) (ci := 9) (v := .int (nI (t 1))) S in_X11_goBehind_X11 G 0 rfl rfl 13 (by decide) lk_X11_goBehind_220 rfl dX11_goBehind_6 ?_
  refine r_iadd (v := (nI ((t 0) + (t 1)))) S (nI_add (t 0) (t 1)) dX11_goBehind_9 ?_
  refine b_wv (cells' := 0) (slots' := 0) (wr := []) G rfl rfl [0, 1] [] rfl rfl rfl rfl (n_V (As := [.int (nI ((t 0) + (t 1)))]) (rest := []) (C := RX11) (T := TX11) (N := 18) (ci := 9) S G (y_lookAt l X m0 ma la lb n t v fd ((t 0) + (t 1)) hI_n hI_t (by omega) s.heap.size) gX11_goBehind_X11_lookAt rfl rfl rfl hdV_X11_lookAt ⟨Nat.le_of_ble_eq_true rfl, Nat.le_of_ble_eq_true rfl⟩ [0, 1] rfl rfl 0 rfl rfl rfl hl.1 (Nat.le_of_ble_eq_true rfl) dX11_goBehind_10 ⟨Nat.le_of_ble_eq_true rfl, Nat.le_of_ble_eq_true rfl⟩) (fun u_1 H locs hp_1 G => ?_)
  obtain ⟨t_1a, v_1b⟩ := u_1
  try dsimp only at hp_1
  obtain ⟨hI_t_1a, hq_1⟩ := hp_1
  have hO_t_1a := hI_t_1a
  obtain ⟨ht0_t_1a, ht1_t_1a⟩ := hO_t_1a
  have G : wd X (va_A (@HAppend.hAppend va_W va_W va_W _ (mW m0 ma la lb n t v) ([((ma 10), .inl (X.2.1, 150, .inl fd))])) sz) (va_A (@HAppend.hAppend va_W va_W va_W _ (mW m0 ma la lb n t v) ([((ma 10), .inl (X.2.1, 150, .inl fd))])) sz) s (@HAppend.hAppend va_W va_W va_W _ (mW m0 ma la lb n t_1a v_1b) ([((ma 10), .inl (X.2.1, 150, .inl fd))])) H locs := G
  exact e_void S zr zlk G (t_1a, v_1b) [0, 1] rfl rfl (Or.inr rfl) (⟨hI_t_1a, by have e : scanP qB fd n (t 0 + t 1) = tN fd n s0 := (by rw [hK1]; rfl); rw [← e]; exact hq_1⟩) dX11_goBehind_13
set_option maxHeartbeats 4000000 in
set_option maxRecDepth 100000 in
theorem y_spells0 (l : Launch) (X : EX) (m0 : Nat) (ma : Nat → Nat) (la : Int64) (lb : Int64) (n : Nat) (t : Nat → Nat) (v : Nat → Int32) (fd : Nat → Int32) (s0 : Nat) (hI_n : n ≤ 150) (hI_t : InT t) (hK : tkM fd n t v s0) (sz : Nat) : Met l yX11_spells wsX11_spells ({ frames := 0, cells := 0, slots := 0, locals := 0 } : Room) (pE X [.ref m0, .int 4, .int 114, .int 97, .int 99, .int 101, .int 0, .int 0] (@HAppend.hAppend va_W va_W va_W _ (mW m0 ma la lb n t v) ([((ma 10), .inl (X.2.1, 150, .inl fd))])) sz) (qI (fun (r : Int32) (u : Unit) => (r = 1 ∧ tK fd n s0 = 1 ∧ wrdB fd n s0 0 = true) ∨ (r = 0 ∧ ¬ (tK fd n s0 = 1 ∧ wrdB fd n s0 0 = true))) X (fun (u : Unit) => []) [] sz) 0 0 (va_A [] sz) := by
  refine mk_met (B := (fun _ => True)) (A := (va_A [] sz)) (cc := cX11_spells) (maxL := 10) (ret := (some .boolean)) (by decide) rfl (Nat.le_of_ble_eq_true rfl) k_ro k_a (fun p e s m below meth c S zr zlk znm zsz G ls hl => ?_)
  have S : CallFix p m c cX11_spells 10 s _ wsX11_spells RX11 := S
  have zx := S.1
  have zb := S.2.1
  have hl : lv_has ls 10 [(0, .ref m0), (1, .int 4), (2, .int 114), (3, .int 97), (4, .int 99), (5, .int 101), (6, .int 0), (7, .int 0)] := hl
  have hO_t := hI_t
  obtain ⟨ht0_t, ht1_t⟩ := hO_t
  obtain ⟨hK0, hK1, hK2, hK3, hK4⟩ := hK
  have hTe := tE_le (T := fd) (n := n) (s := s0) hK4
  refine lv_aload_n zx zb dX11_spells_0 rfl (lv_at hl 0 rfl) ?_
  refine r_get (C := RX11) (T := TX11) (N := 18) (ci := 9) (v := .int (v 0)) S in_X11_spells_X11 G 0 rfl rfl 14 (by decide) lk_X11_spells_223 rfl dX11_spells_1 ?_
  refine lv_iconst (v := 1) zx zb dX11_spells_4 (by decide) ?_
  refine lv_icmp_ne (tgt := 20) zx zb dX11_spells_5 (by decide) (fun c_1 => ?_) (fun c_1 => ?_)
  · refine lv_iconst (v := 0) zx zb dX11_spells_20 (by decide) ?_
    refine lv_istore (lv' := [(8, .int 0), (0, .ref m0), (1, .int 4), (2, .int 114), (3, .int 97), (4, .int 99), (5, .int 101), (6, .int 0), (7, .int 0)]) zx zb dX11_spells_21 hl (by decide) rfl (fun ls hl => ?_)
    refine lv_iconst (v := 0) zx zb dX11_spells_23 (by decide) ?_
    refine lv_istore (lv' := [(9, .int 0), (8, .int 0), (0, .ref m0), (1, .int 4), (2, .int 114), (3, .int 97), (4, .int 99), (5, .int 101), (6, .int 0), (7, .int 0)]) zx zb dX11_spells_24 hl (by decide) rfl (fun ls hl => ?_)
    refine lv_iload zx zb dX11_spells_26 (lv_at hl 0 rfl) ?_
    refine lv_iload_n zx zb dX11_spells_28 rfl (lv_at hl 3 rfl) ?_
    refine lv_icmp_ge (tgt := 119) zx zb dX11_spells_29 (by decide) (fun c_2 => absurd c_2 (by decide)) (fun c_2 => ?_)
    refine lv_iload zx zb dX11_spells_32 (lv_at hl 1 rfl) ?_
    refine lv_if_eq (tgt := 119) zx zb dX11_spells_34 (by decide) (fun c_3 => ?_) (fun c_3 => absurd (by decide) c_3)
    refine lv_iload zx zb dX11_spells_119 (lv_at hl 1 rfl) ?_
    exact e_int S zr zlk (by decide) G () [] rfl rfl (Or.inl rfl) (Or.inr ⟨rfl, fun h => c_1 (hK2.trans h.1)⟩) dX11_spells_121
  · refine lv_aload_n zx zb dX11_spells_8 rfl (lv_at hl 0 rfl) ?_
    refine r_get (C := RX11) (T := TX11) (N := 18) (ci := 9) (v := .int (nI (t 1))) S in_X11_spells_X11 G 0 rfl rfl 13 (by decide) lk_X11_spells_220 rfl dX11_spells_9 ?_
    refine lv_iload_n zx zb dX11_spells_12 rfl (lv_at hl 1 rfl) ?_
    refine lv_icmp_ne (tgt := 20) zx zb dX11_spells_13 (by decide) (fun c_4 => ?_) (fun c_4 => ?_)
    · have fc_4 := j_ne (a := (t 1)) (b := 4) c_4
      refine lv_iconst (v := 0) zx zb dX11_spells_20 (by decide) ?_
      refine lv_istore (lv' := [(8, .int 0), (0, .ref m0), (1, .int 4), (2, .int 114), (3, .int 97), (4, .int 99), (5, .int 101), (6, .int 0), (7, .int 0)]) zx zb dX11_spells_21 hl (by decide) rfl (fun ls hl => ?_)
      refine lv_iconst (v := 0) zx zb dX11_spells_23 (by decide) ?_
      refine lv_istore (lv' := [(9, .int 0), (8, .int 0), (0, .ref m0), (1, .int 4), (2, .int 114), (3, .int 97), (4, .int 99), (5, .int 101), (6, .int 0), (7, .int 0)]) zx zb dX11_spells_24 hl (by decide) rfl (fun ls hl => ?_)
      refine lv_iload zx zb dX11_spells_26 (lv_at hl 0 rfl) ?_
      refine lv_iload_n zx zb dX11_spells_28 rfl (lv_at hl 3 rfl) ?_
      refine lv_icmp_ge (tgt := 119) zx zb dX11_spells_29 (by decide) (fun c_5 => absurd c_5 (by decide)) (fun c_5 => ?_)
      refine lv_iload zx zb dX11_spells_32 (lv_at hl 1 rfl) ?_
      refine lv_if_eq (tgt := 119) zx zb dX11_spells_34 (by decide) (fun c_6 => ?_) (fun c_6 => absurd (by decide) c_6)
      refine lv_iload zx zb dX11_spells_119 (lv_at hl 1 rfl) ?_
      exact e_int S zr zlk (by decide) G () [] rfl rfl (Or.inl rfl) (Or.inr ⟨rfl, fun h => absurd (wrdB_t.mp h.2).1 (show ¬ tE fd n s0 - s0 = 4 from by omega)⟩) dX11_spells_121
    · have fc_4 := j_eq (a := (t 1)) (b := 4) (by omega) (by omega) c_4
      refine lv_iconst (v := 1) zx zb dX11_spells_16 (by decide) ?_
      refine lv_goto (tgt := 21) zx zb dX11_spells_17 (by decide) ?_
      refine lv_istore (lv' := [(8, .int 1), (0, .ref m0), (1, .int 4), (2, .int 114), (3, .int 97), (4, .int 99), (5, .int 101), (6, .int 0), (7, .int 0)]) zx zb dX11_spells_21 hl (by decide) rfl (fun ls hl => ?_)
      refine lv_iconst (v := 0) zx zb dX11_spells_23 (by decide) ?_
      refine lv_istore (lv' := [(9, .int 0), (8, .int 1), (0, .ref m0), (1, .int 4), (2, .int 114), (3, .int 97), (4, .int 99), (5, .int 101), (6, .int 0), (7, .int 0)]) zx zb dX11_spells_24 hl (by decide) rfl (fun ls hl => ?_)
      refine lv_iload zx zb dX11_spells_26 (lv_at hl 0 rfl) ?_
      refine lv_iload_n zx zb dX11_spells_28 rfl (lv_at hl 3 rfl) ?_
      refine lv_icmp_ge (tgt := 119) zx zb dX11_spells_29 (by decide) (fun c_7 => absurd c_7 (by decide)) (fun c_7 => ?_)
      refine lv_iload zx zb dX11_spells_32 (lv_at hl 1 rfl) ?_
      refine lv_if_eq (tgt := 119) zx zb dX11_spells_34 (by decide) (fun c_8 => absurd c_8 (by decide)) (fun c_8 => ?_)
      refine lv_aload_n zx zb dX11_spells_37 rfl (lv_at hl 2 rfl) ?_
      refine r_get (C := RX11) (T := TX11) (N := 18) (ci := 9) (v := .ref (ma 10)) S in_X11_spells_X11 G 0 rfl rfl 10 (by decide) lk_X11_spells_39 rfl dX11_spells_38 ?_
      refine lv_aload_n zx zb dX11_spells_41 rfl (lv_at hl 2 rfl) ?_
      refine r_get (C := RX11) (T := TX11) (N := 18) (ci := 9) (v := .int (nI (t 0))) S in_X11_spells_X11 G 0 rfl rfl 12 (by decide) lk_X11_spells_217 rfl dX11_spells_42 ?_
      refine lv_iload zx zb dX11_spells_45 (lv_at hl 0 rfl) ?_
      refine r_iadd (v := (nI ((t 0) + 0))) S (nI_add (t 0) 0) dX11_spells_47 ?_
      refine r_iald (v := (fd ((t 0) + 0))) S G 1 rfl (vp_in_nI (by omega) (by decide)) (congrArg fd (nI_clamp (by omega))) dX11_spells_48 ?_
      refine lv_iload zx zb dX11_spells_49 (lv_at hl 0 rfl) ?_
      refine lv_if_ne (tgt := 58) zx zb dX11_spells_51 (by decide) (fun c_10 => absurd (by decide) c_10) (fun c_10 => ?_)
      refine lv_iload_n zx zb dX11_spells_54 rfl (lv_at hl 4 rfl) ?_
      refine lv_goto (tgt := 103) zx zb dX11_spells_55 (by decide) ?_
      refine lv_icmp_ne (tgt := 110) zx zb dX11_spells_103 (by decide) (fun c_11 => ?_) (fun c_11 => ?_)
      · refine lv_iconst (v := 0) zx zb dX11_spells_110 (by decide) ?_
        refine lv_istore (lv' := [(8, .int 0), (9, .int 0), (0, .ref m0), (1, .int 4), (2, .int 114), (3, .int 97), (4, .int 99), (5, .int 101), (6, .int 0), (7, .int 0)]) zx zb dX11_spells_111 hl (by decide) rfl (fun ls hl => ?_)
        refine lv_iinc (v := 1) (lv' := [(9, .int 1), (8, .int 0), (0, .ref m0), (1, .int 4), (2, .int 114), (3, .int 97), (4, .int 99), (5, .int 101), (6, .int 0), (7, .int 0)]) zx zb dX11_spells_113 hl (k := 1) rfl (by decide) (by decide) rfl (fun ls hl => ?_)
        refine lv_goto (tgt := 26) zx zb dX11_spells_116 (by decide) ?_
        refine lv_iload zx zb dX11_spells_26 (lv_at hl 0 rfl) ?_
        refine lv_iload_n zx zb dX11_spells_28 rfl (lv_at hl 3 rfl) ?_
        refine lv_icmp_ge (tgt := 119) zx zb dX11_spells_29 (by decide) (fun c_12 => absurd c_12 (by decide)) (fun c_12 => ?_)
        refine lv_iload zx zb dX11_spells_32 (lv_at hl 1 rfl) ?_
        refine lv_if_eq (tgt := 119) zx zb dX11_spells_34 (by decide) (fun c_13 => ?_) (fun c_13 => absurd (by decide) c_13)
        refine lv_iload zx zb dX11_spells_119 (lv_at hl 1 rfl) ?_
        exact e_int S zr zlk (by decide) G () [] rfl rfl (Or.inl rfl) (Or.inr ⟨rfl, fun h => c_11 (by rw [hK0]; exact (wrdB_t.mp h.2).2 0 (by decide))⟩) dX11_spells_121
      · refine lv_iconst (v := 1) zx zb dX11_spells_106 (by decide) ?_
        refine lv_goto (tgt := 111) zx zb dX11_spells_107 (by decide) ?_
        refine lv_istore (lv' := [(8, .int 1), (9, .int 0), (0, .ref m0), (1, .int 4), (2, .int 114), (3, .int 97), (4, .int 99), (5, .int 101), (6, .int 0), (7, .int 0)]) zx zb dX11_spells_111 hl (by decide) rfl (fun ls hl => ?_)
        refine lv_iinc (v := 1) (lv' := [(9, .int 1), (8, .int 1), (0, .ref m0), (1, .int 4), (2, .int 114), (3, .int 97), (4, .int 99), (5, .int 101), (6, .int 0), (7, .int 0)]) zx zb dX11_spells_113 hl (k := 1) rfl (by decide) (by decide) rfl (fun ls hl => ?_)
        refine lv_goto (tgt := 26) zx zb dX11_spells_116 (by decide) ?_
        refine lv_iload zx zb dX11_spells_26 (lv_at hl 0 rfl) ?_
        refine lv_iload_n zx zb dX11_spells_28 rfl (lv_at hl 3 rfl) ?_
        refine lv_icmp_ge (tgt := 119) zx zb dX11_spells_29 (by decide) (fun c_14 => absurd c_14 (by decide)) (fun c_14 => ?_)
        refine lv_iload zx zb dX11_spells_32 (lv_at hl 1 rfl) ?_
        refine lv_if_eq (tgt := 119) zx zb dX11_spells_34 (by decide) (fun c_15 => absurd c_15 (by decide)) (fun c_15 => ?_)
        refine lv_aload_n zx zb dX11_spells_37 rfl (lv_at hl 2 rfl) ?_
        refine r_get (C := RX11) (T := TX11) (N := 18) (ci := 9) (v := .ref (ma 10)) S in_X11_spells_X11 G 0 rfl rfl 10 (by decide) lk_X11_spells_39 rfl dX11_spells_38 ?_
        refine lv_aload_n zx zb dX11_spells_41 rfl (lv_at hl 2 rfl) ?_
        refine r_get (C := RX11) (T := TX11) (N := 18) (ci := 9) (v := .int (nI (t 0))) S in_X11_spells_X11 G 0 rfl rfl 12 (by decide) lk_X11_spells_217 rfl dX11_spells_42 ?_
        refine lv_iload zx zb dX11_spells_45 (lv_at hl 0 rfl) ?_
        refine r_iadd (v := (nI ((t 0) + 1))) S (nI_add (t 0) 1) dX11_spells_47 ?_
        refine r_iald (v := (fd ((t 0) + 1))) S G 1 rfl (vp_in_nI (by omega) (by decide)) (congrArg fd (nI_clamp (by omega))) dX11_spells_48 ?_
        refine lv_iload zx zb dX11_spells_49 (lv_at hl 0 rfl) ?_
        refine lv_if_ne (tgt := 58) zx zb dX11_spells_51 (by decide) (fun c_17 => ?_) (fun c_17 => absurd c_17 (by decide))
        refine lv_iload zx zb dX11_spells_58 (lv_at hl 0 rfl) ?_
        refine lv_iconst (v := 1) zx zb dX11_spells_60 (by decide) ?_
        refine lv_icmp_ne (tgt := 68) zx zb dX11_spells_61 (by decide) (fun c_18 => absurd (by decide) c_18) (fun c_18 => ?_)
        refine lv_iload_n zx zb dX11_spells_64 rfl (lv_at hl 5 rfl) ?_
        refine lv_goto (tgt := 103) zx zb dX11_spells_65 (by decide) ?_
        refine lv_icmp_ne (tgt := 110) zx zb dX11_spells_103 (by decide) (fun c_19 => ?_) (fun c_19 => ?_)
        · refine lv_iconst (v := 0) zx zb dX11_spells_110 (by decide) ?_
          refine lv_istore (lv' := [(8, .int 0), (9, .int 1), (0, .ref m0), (1, .int 4), (2, .int 114), (3, .int 97), (4, .int 99), (5, .int 101), (6, .int 0), (7, .int 0)]) zx zb dX11_spells_111 hl (by decide) rfl (fun ls hl => ?_)
          refine lv_iinc (v := 2) (lv' := [(9, .int 2), (8, .int 0), (0, .ref m0), (1, .int 4), (2, .int 114), (3, .int 97), (4, .int 99), (5, .int 101), (6, .int 0), (7, .int 0)]) zx zb dX11_spells_113 hl (k := 1) rfl (by decide) (by decide) rfl (fun ls hl => ?_)
          refine lv_goto (tgt := 26) zx zb dX11_spells_116 (by decide) ?_
          refine lv_iload zx zb dX11_spells_26 (lv_at hl 0 rfl) ?_
          refine lv_iload_n zx zb dX11_spells_28 rfl (lv_at hl 3 rfl) ?_
          refine lv_icmp_ge (tgt := 119) zx zb dX11_spells_29 (by decide) (fun c_20 => absurd c_20 (by decide)) (fun c_20 => ?_)
          refine lv_iload zx zb dX11_spells_32 (lv_at hl 1 rfl) ?_
          refine lv_if_eq (tgt := 119) zx zb dX11_spells_34 (by decide) (fun c_21 => ?_) (fun c_21 => absurd (by decide) c_21)
          refine lv_iload zx zb dX11_spells_119 (lv_at hl 1 rfl) ?_
          exact e_int S zr zlk (by decide) G () [] rfl rfl (Or.inl rfl) (Or.inr ⟨rfl, fun h => c_19 (by rw [hK0]; exact (wrdB_t.mp h.2).2 1 (by decide))⟩) dX11_spells_121
        · refine lv_iconst (v := 1) zx zb dX11_spells_106 (by decide) ?_
          refine lv_goto (tgt := 111) zx zb dX11_spells_107 (by decide) ?_
          refine lv_istore (lv' := [(8, .int 1), (9, .int 1), (0, .ref m0), (1, .int 4), (2, .int 114), (3, .int 97), (4, .int 99), (5, .int 101), (6, .int 0), (7, .int 0)]) zx zb dX11_spells_111 hl (by decide) rfl (fun ls hl => ?_)
          refine lv_iinc (v := 2) (lv' := [(9, .int 2), (8, .int 1), (0, .ref m0), (1, .int 4), (2, .int 114), (3, .int 97), (4, .int 99), (5, .int 101), (6, .int 0), (7, .int 0)]) zx zb dX11_spells_113 hl (k := 1) rfl (by decide) (by decide) rfl (fun ls hl => ?_)
          refine lv_goto (tgt := 26) zx zb dX11_spells_116 (by decide) ?_
          refine lv_iload zx zb dX11_spells_26 (lv_at hl 0 rfl) ?_
          refine lv_iload_n zx zb dX11_spells_28 rfl (lv_at hl 3 rfl) ?_
          refine lv_icmp_ge (tgt := 119) zx zb dX11_spells_29 (by decide) (fun c_22 => absurd c_22 (by decide)) (fun c_22 => ?_)
          refine lv_iload zx zb dX11_spells_32 (lv_at hl 1 rfl) ?_
          refine lv_if_eq (tgt := 119) zx zb dX11_spells_34 (by decide) (fun c_23 => absurd c_23 (by decide)) (fun c_23 => ?_)
          refine lv_aload_n zx zb dX11_spells_37 rfl (lv_at hl 2 rfl) ?_
          refine r_get (C := RX11) (T := TX11) (N := 18) (ci := 9) (v := .ref (ma 10)) S in_X11_spells_X11 G 0 rfl rfl 10 (by decide) lk_X11_spells_39 rfl dX11_spells_38 ?_
          refine lv_aload_n zx zb dX11_spells_41 rfl (lv_at hl 2 rfl) ?_
          refine r_get (C := RX11) (T := TX11) (N := 18) (ci := 9) (v := .int (nI (t 0))) S in_X11_spells_X11 G 0 rfl rfl 12 (by decide) lk_X11_spells_217 rfl dX11_spells_42 ?_
          refine lv_iload zx zb dX11_spells_45 (lv_at hl 0 rfl) ?_
          refine r_iadd (v := (nI ((t 0) + 2))) S (nI_add (t 0) 2) dX11_spells_47 ?_
          refine r_iald (v := (fd ((t 0) + 2))) S G 1 rfl (vp_in_nI (by omega) (by decide)) (congrArg fd (nI_clamp (by omega))) dX11_spells_48 ?_
          refine lv_iload zx zb dX11_spells_49 (lv_at hl 0 rfl) ?_
          refine lv_if_ne (tgt := 58) zx zb dX11_spells_51 (by decide) (fun c_25 => ?_) (fun c_25 => absurd c_25 (by decide))
          refine lv_iload zx zb dX11_spells_58 (lv_at hl 0 rfl) ?_
          refine lv_iconst (v := 1) zx zb dX11_spells_60 (by decide) ?_
          refine lv_icmp_ne (tgt := 68) zx zb dX11_spells_61 (by decide) (fun c_26 => ?_) (fun c_26 => absurd c_26 (by decide))
          refine lv_iload zx zb dX11_spells_68 (lv_at hl 0 rfl) ?_
          refine lv_iconst (v := 2) zx zb dX11_spells_70 (by decide) ?_
          refine lv_icmp_ne (tgt := 79) zx zb dX11_spells_71 (by decide) (fun c_27 => absurd (by decide) c_27) (fun c_27 => ?_)
          refine lv_iload zx zb dX11_spells_74 (lv_at hl 6 rfl) ?_
          refine lv_goto (tgt := 103) zx zb dX11_spells_76 (by decide) ?_
          refine lv_icmp_ne (tgt := 110) zx zb dX11_spells_103 (by decide) (fun c_28 => ?_) (fun c_28 => ?_)
          · refine lv_iconst (v := 0) zx zb dX11_spells_110 (by decide) ?_
            refine lv_istore (lv' := [(8, .int 0), (9, .int 2), (0, .ref m0), (1, .int 4), (2, .int 114), (3, .int 97), (4, .int 99), (5, .int 101), (6, .int 0), (7, .int 0)]) zx zb dX11_spells_111 hl (by decide) rfl (fun ls hl => ?_)
            refine lv_iinc (v := 3) (lv' := [(9, .int 3), (8, .int 0), (0, .ref m0), (1, .int 4), (2, .int 114), (3, .int 97), (4, .int 99), (5, .int 101), (6, .int 0), (7, .int 0)]) zx zb dX11_spells_113 hl (k := 1) rfl (by decide) (by decide) rfl (fun ls hl => ?_)
            refine lv_goto (tgt := 26) zx zb dX11_spells_116 (by decide) ?_
            refine lv_iload zx zb dX11_spells_26 (lv_at hl 0 rfl) ?_
            refine lv_iload_n zx zb dX11_spells_28 rfl (lv_at hl 3 rfl) ?_
            refine lv_icmp_ge (tgt := 119) zx zb dX11_spells_29 (by decide) (fun c_29 => absurd c_29 (by decide)) (fun c_29 => ?_)
            refine lv_iload zx zb dX11_spells_32 (lv_at hl 1 rfl) ?_
            refine lv_if_eq (tgt := 119) zx zb dX11_spells_34 (by decide) (fun c_30 => ?_) (fun c_30 => absurd (by decide) c_30)
            refine lv_iload zx zb dX11_spells_119 (lv_at hl 1 rfl) ?_
            exact e_int S zr zlk (by decide) G () [] rfl rfl (Or.inl rfl) (Or.inr ⟨rfl, fun h => c_28 (by rw [hK0]; exact (wrdB_t.mp h.2).2 2 (by decide))⟩) dX11_spells_121
          · refine lv_iconst (v := 1) zx zb dX11_spells_106 (by decide) ?_
            refine lv_goto (tgt := 111) zx zb dX11_spells_107 (by decide) ?_
            refine lv_istore (lv' := [(8, .int 1), (9, .int 2), (0, .ref m0), (1, .int 4), (2, .int 114), (3, .int 97), (4, .int 99), (5, .int 101), (6, .int 0), (7, .int 0)]) zx zb dX11_spells_111 hl (by decide) rfl (fun ls hl => ?_)
            refine lv_iinc (v := 3) (lv' := [(9, .int 3), (8, .int 1), (0, .ref m0), (1, .int 4), (2, .int 114), (3, .int 97), (4, .int 99), (5, .int 101), (6, .int 0), (7, .int 0)]) zx zb dX11_spells_113 hl (k := 1) rfl (by decide) (by decide) rfl (fun ls hl => ?_)
            refine lv_goto (tgt := 26) zx zb dX11_spells_116 (by decide) ?_
            refine lv_iload zx zb dX11_spells_26 (lv_at hl 0 rfl) ?_
            refine lv_iload_n zx zb dX11_spells_28 rfl (lv_at hl 3 rfl) ?_
            refine lv_icmp_ge (tgt := 119) zx zb dX11_spells_29 (by decide) (fun c_31 => absurd c_31 (by decide)) (fun c_31 => ?_)
            refine lv_iload zx zb dX11_spells_32 (lv_at hl 1 rfl) ?_
            refine lv_if_eq (tgt := 119) zx zb dX11_spells_34 (by decide) (fun c_32 => absurd c_32 (by decide)) (fun c_32 => ?_)
            refine lv_aload_n zx zb dX11_spells_37 rfl (lv_at hl 2 rfl) ?_
            refine r_get (C := RX11) (T := TX11) (N := 18) (ci := 9) (v := .ref (ma 10)) S in_X11_spells_X11 G 0 rfl rfl 10 (by decide) lk_X11_spells_39 rfl dX11_spells_38 ?_
            refine lv_aload_n zx zb dX11_spells_41 rfl (lv_at hl 2 rfl) ?_
            refine r_get (C := RX11) (T := TX11) (N := 18) (ci := 9) (v := .int (nI (t 0))) S in_X11_spells_X11 G 0 rfl rfl 12 (by decide) lk_X11_spells_217 rfl dX11_spells_42 ?_
            refine lv_iload zx zb dX11_spells_45 (lv_at hl 0 rfl) ?_
            refine r_iadd (v := (nI ((t 0) + 3))) S (nI_add (t 0) 3) dX11_spells_47 ?_
            refine r_iald (v := (fd ((t 0) + 3))) S G 1 rfl (vp_in_nI (by omega) (by decide)) (congrArg fd (nI_clamp (by omega))) dX11_spells_48 ?_
            refine lv_iload zx zb dX11_spells_49 (lv_at hl 0 rfl) ?_
            refine lv_if_ne (tgt := 58) zx zb dX11_spells_51 (by decide) (fun c_34 => ?_) (fun c_34 => absurd c_34 (by decide))
            refine lv_iload zx zb dX11_spells_58 (lv_at hl 0 rfl) ?_
            refine lv_iconst (v := 1) zx zb dX11_spells_60 (by decide) ?_
            refine lv_icmp_ne (tgt := 68) zx zb dX11_spells_61 (by decide) (fun c_35 => ?_) (fun c_35 => absurd c_35 (by decide))
            refine lv_iload zx zb dX11_spells_68 (lv_at hl 0 rfl) ?_
            refine lv_iconst (v := 2) zx zb dX11_spells_70 (by decide) ?_
            refine lv_icmp_ne (tgt := 79) zx zb dX11_spells_71 (by decide) (fun c_36 => ?_) (fun c_36 => absurd c_36 (by decide))
            refine lv_iload zx zb dX11_spells_79 (lv_at hl 0 rfl) ?_
            refine lv_iconst (v := 3) zx zb dX11_spells_81 (by decide) ?_
            refine lv_icmp_ne (tgt := 90) zx zb dX11_spells_82 (by decide) (fun c_37 => absurd (by decide) c_37) (fun c_37 => ?_)
            refine lv_iload zx zb dX11_spells_85 (lv_at hl 7 rfl) ?_
            refine lv_goto (tgt := 103) zx zb dX11_spells_87 (by decide) ?_
            refine lv_icmp_ne (tgt := 110) zx zb dX11_spells_103 (by decide) (fun c_38 => ?_) (fun c_38 => ?_)
            · refine lv_iconst (v := 0) zx zb dX11_spells_110 (by decide) ?_
              refine lv_istore (lv' := [(8, .int 0), (9, .int 3), (0, .ref m0), (1, .int 4), (2, .int 114), (3, .int 97), (4, .int 99), (5, .int 101), (6, .int 0), (7, .int 0)]) zx zb dX11_spells_111 hl (by decide) rfl (fun ls hl => ?_)
              refine lv_iinc (v := 4) (lv' := [(9, .int 4), (8, .int 0), (0, .ref m0), (1, .int 4), (2, .int 114), (3, .int 97), (4, .int 99), (5, .int 101), (6, .int 0), (7, .int 0)]) zx zb dX11_spells_113 hl (k := 1) rfl (by decide) (by decide) rfl (fun ls hl => ?_)
              refine lv_goto (tgt := 26) zx zb dX11_spells_116 (by decide) ?_
              refine lv_iload zx zb dX11_spells_26 (lv_at hl 0 rfl) ?_
              refine lv_iload_n zx zb dX11_spells_28 rfl (lv_at hl 3 rfl) ?_
              refine lv_icmp_ge (tgt := 119) zx zb dX11_spells_29 (by decide) (fun c_39 => ?_) (fun c_39 => absurd (by decide) c_39)
              refine lv_iload zx zb dX11_spells_119 (lv_at hl 1 rfl) ?_
              exact e_int S zr zlk (by decide) G () [] rfl rfl (Or.inl rfl) (Or.inr ⟨rfl, fun h => c_38 (by rw [hK0]; exact (wrdB_t.mp h.2).2 3 (by decide))⟩) dX11_spells_121
            · refine lv_iconst (v := 1) zx zb dX11_spells_106 (by decide) ?_
              refine lv_goto (tgt := 111) zx zb dX11_spells_107 (by decide) ?_
              refine lv_istore (lv' := [(8, .int 1), (9, .int 3), (0, .ref m0), (1, .int 4), (2, .int 114), (3, .int 97), (4, .int 99), (5, .int 101), (6, .int 0), (7, .int 0)]) zx zb dX11_spells_111 hl (by decide) rfl (fun ls hl => ?_)
              refine lv_iinc (v := 4) (lv' := [(9, .int 4), (8, .int 1), (0, .ref m0), (1, .int 4), (2, .int 114), (3, .int 97), (4, .int 99), (5, .int 101), (6, .int 0), (7, .int 0)]) zx zb dX11_spells_113 hl (k := 1) rfl (by decide) (by decide) rfl (fun ls hl => ?_)
              refine lv_goto (tgt := 26) zx zb dX11_spells_116 (by decide) ?_
              refine lv_iload zx zb dX11_spells_26 (lv_at hl 0 rfl) ?_
              refine lv_iload_n zx zb dX11_spells_28 rfl (lv_at hl 3 rfl) ?_
              refine lv_icmp_ge (tgt := 119) zx zb dX11_spells_29 (by decide) (fun c_40 => ?_) (fun c_40 => absurd (by decide) c_40)
              refine lv_iload zx zb dX11_spells_119 (lv_at hl 1 rfl) ?_
              exact e_int S zr zlk (by decide) G () [] rfl rfl (Or.inl rfl) (Or.inl ⟨rfl, hK2.symm.trans c_1, wrdB_t.mpr ⟨(show tE fd n s0 - s0 = 4 from by omega), k_al4 (by rw [← hK0]; exact c_11) (by rw [← hK0]; exact c_19) (by rw [← hK0]; exact c_28) (by rw [← hK0]; exact c_38)⟩⟩) dX11_spells_121
set_option maxHeartbeats 4000000 in
set_option maxRecDepth 100000 in
theorem y_spells1 (l : Launch) (X : EX) (m0 : Nat) (ma : Nat → Nat) (la : Int64) (lb : Int64) (n : Nat) (t : Nat → Nat) (v : Nat → Int32) (fd : Nat → Int32) (s0 : Nat) (hI_n : n ≤ 150) (hI_t : InT t) (hK : tkM fd n t v s0) (sz : Nat) : Met l yX11_spells wsX11_spells ({ frames := 0, cells := 0, slots := 0, locals := 0 } : Room) (pE X [.ref m0, .int 3, .int 111, .int 110, .int 101, .int 0, .int 0, .int 0] (@HAppend.hAppend va_W va_W va_W _ (mW m0 ma la lb n t v) ([((ma 10), .inl (X.2.1, 150, .inl fd))])) sz) (qI (fun (r : Int32) (u : Unit) => (r = 1 ∧ tK fd n s0 = 1 ∧ wrdB fd n s0 1 = true) ∨ (r = 0 ∧ ¬ (tK fd n s0 = 1 ∧ wrdB fd n s0 1 = true))) X (fun (u : Unit) => []) [] sz) 0 0 (va_A [] sz) := by
  refine mk_met (B := (fun _ => True)) (A := (va_A [] sz)) (cc := cX11_spells) (maxL := 10) (ret := (some .boolean)) (by decide) rfl (Nat.le_of_ble_eq_true rfl) k_ro k_a (fun p e s m below meth c S zr zlk znm zsz G ls hl => ?_)
  have S : CallFix p m c cX11_spells 10 s _ wsX11_spells RX11 := S
  have zx := S.1
  have zb := S.2.1
  have hl : lv_has ls 10 [(0, .ref m0), (1, .int 3), (2, .int 111), (3, .int 110), (4, .int 101), (5, .int 0), (6, .int 0), (7, .int 0)] := hl
  have hO_t := hI_t
  obtain ⟨ht0_t, ht1_t⟩ := hO_t
  obtain ⟨hK0, hK1, hK2, hK3, hK4⟩ := hK
  have hTe := tE_le (T := fd) (n := n) (s := s0) hK4
  refine lv_aload_n zx zb dX11_spells_0 rfl (lv_at hl 0 rfl) ?_
  refine r_get (C := RX11) (T := TX11) (N := 18) (ci := 9) (v := .int (v 0)) S in_X11_spells_X11 G 0 rfl rfl 14 (by decide) lk_X11_spells_223 rfl dX11_spells_1 ?_
  refine lv_iconst (v := 1) zx zb dX11_spells_4 (by decide) ?_
  refine lv_icmp_ne (tgt := 20) zx zb dX11_spells_5 (by decide) (fun c_1 => ?_) (fun c_1 => ?_)
  · refine lv_iconst (v := 0) zx zb dX11_spells_20 (by decide) ?_
    refine lv_istore (lv' := [(8, .int 0), (0, .ref m0), (1, .int 3), (2, .int 111), (3, .int 110), (4, .int 101), (5, .int 0), (6, .int 0), (7, .int 0)]) zx zb dX11_spells_21 hl (by decide) rfl (fun ls hl => ?_)
    refine lv_iconst (v := 0) zx zb dX11_spells_23 (by decide) ?_
    refine lv_istore (lv' := [(9, .int 0), (8, .int 0), (0, .ref m0), (1, .int 3), (2, .int 111), (3, .int 110), (4, .int 101), (5, .int 0), (6, .int 0), (7, .int 0)]) zx zb dX11_spells_24 hl (by decide) rfl (fun ls hl => ?_)
    refine lv_iload zx zb dX11_spells_26 (lv_at hl 0 rfl) ?_
    refine lv_iload_n zx zb dX11_spells_28 rfl (lv_at hl 3 rfl) ?_
    refine lv_icmp_ge (tgt := 119) zx zb dX11_spells_29 (by decide) (fun c_2 => absurd c_2 (by decide)) (fun c_2 => ?_)
    refine lv_iload zx zb dX11_spells_32 (lv_at hl 1 rfl) ?_
    refine lv_if_eq (tgt := 119) zx zb dX11_spells_34 (by decide) (fun c_3 => ?_) (fun c_3 => absurd (by decide) c_3)
    refine lv_iload zx zb dX11_spells_119 (lv_at hl 1 rfl) ?_
    exact e_int S zr zlk (by decide) G () [] rfl rfl (Or.inl rfl) (Or.inr ⟨rfl, fun h => c_1 (hK2.trans h.1)⟩) dX11_spells_121
  · refine lv_aload_n zx zb dX11_spells_8 rfl (lv_at hl 0 rfl) ?_
    refine r_get (C := RX11) (T := TX11) (N := 18) (ci := 9) (v := .int (nI (t 1))) S in_X11_spells_X11 G 0 rfl rfl 13 (by decide) lk_X11_spells_220 rfl dX11_spells_9 ?_
    refine lv_iload_n zx zb dX11_spells_12 rfl (lv_at hl 1 rfl) ?_
    refine lv_icmp_ne (tgt := 20) zx zb dX11_spells_13 (by decide) (fun c_4 => ?_) (fun c_4 => ?_)
    · have fc_4 := j_ne (a := (t 1)) (b := 3) c_4
      refine lv_iconst (v := 0) zx zb dX11_spells_20 (by decide) ?_
      refine lv_istore (lv' := [(8, .int 0), (0, .ref m0), (1, .int 3), (2, .int 111), (3, .int 110), (4, .int 101), (5, .int 0), (6, .int 0), (7, .int 0)]) zx zb dX11_spells_21 hl (by decide) rfl (fun ls hl => ?_)
      refine lv_iconst (v := 0) zx zb dX11_spells_23 (by decide) ?_
      refine lv_istore (lv' := [(9, .int 0), (8, .int 0), (0, .ref m0), (1, .int 3), (2, .int 111), (3, .int 110), (4, .int 101), (5, .int 0), (6, .int 0), (7, .int 0)]) zx zb dX11_spells_24 hl (by decide) rfl (fun ls hl => ?_)
      refine lv_iload zx zb dX11_spells_26 (lv_at hl 0 rfl) ?_
      refine lv_iload_n zx zb dX11_spells_28 rfl (lv_at hl 3 rfl) ?_
      refine lv_icmp_ge (tgt := 119) zx zb dX11_spells_29 (by decide) (fun c_5 => absurd c_5 (by decide)) (fun c_5 => ?_)
      refine lv_iload zx zb dX11_spells_32 (lv_at hl 1 rfl) ?_
      refine lv_if_eq (tgt := 119) zx zb dX11_spells_34 (by decide) (fun c_6 => ?_) (fun c_6 => absurd (by decide) c_6)
      refine lv_iload zx zb dX11_spells_119 (lv_at hl 1 rfl) ?_
      exact e_int S zr zlk (by decide) G () [] rfl rfl (Or.inl rfl) (Or.inr ⟨rfl, fun h => absurd (wrdB_t.mp h.2).1 (show ¬ tE fd n s0 - s0 = 3 from by omega)⟩) dX11_spells_121
    · have fc_4 := j_eq (a := (t 1)) (b := 3) (by omega) (by omega) c_4
      refine lv_iconst (v := 1) zx zb dX11_spells_16 (by decide) ?_
      refine lv_goto (tgt := 21) zx zb dX11_spells_17 (by decide) ?_
      refine lv_istore (lv' := [(8, .int 1), (0, .ref m0), (1, .int 3), (2, .int 111), (3, .int 110), (4, .int 101), (5, .int 0), (6, .int 0), (7, .int 0)]) zx zb dX11_spells_21 hl (by decide) rfl (fun ls hl => ?_)
      refine lv_iconst (v := 0) zx zb dX11_spells_23 (by decide) ?_
      refine lv_istore (lv' := [(9, .int 0), (8, .int 1), (0, .ref m0), (1, .int 3), (2, .int 111), (3, .int 110), (4, .int 101), (5, .int 0), (6, .int 0), (7, .int 0)]) zx zb dX11_spells_24 hl (by decide) rfl (fun ls hl => ?_)
      refine lv_iload zx zb dX11_spells_26 (lv_at hl 0 rfl) ?_
      refine lv_iload_n zx zb dX11_spells_28 rfl (lv_at hl 3 rfl) ?_
      refine lv_icmp_ge (tgt := 119) zx zb dX11_spells_29 (by decide) (fun c_7 => absurd c_7 (by decide)) (fun c_7 => ?_)
      refine lv_iload zx zb dX11_spells_32 (lv_at hl 1 rfl) ?_
      refine lv_if_eq (tgt := 119) zx zb dX11_spells_34 (by decide) (fun c_8 => absurd c_8 (by decide)) (fun c_8 => ?_)
      refine lv_aload_n zx zb dX11_spells_37 rfl (lv_at hl 2 rfl) ?_
      refine r_get (C := RX11) (T := TX11) (N := 18) (ci := 9) (v := .ref (ma 10)) S in_X11_spells_X11 G 0 rfl rfl 10 (by decide) lk_X11_spells_39 rfl dX11_spells_38 ?_
      refine lv_aload_n zx zb dX11_spells_41 rfl (lv_at hl 2 rfl) ?_
      refine r_get (C := RX11) (T := TX11) (N := 18) (ci := 9) (v := .int (nI (t 0))) S in_X11_spells_X11 G 0 rfl rfl 12 (by decide) lk_X11_spells_217 rfl dX11_spells_42 ?_
      refine lv_iload zx zb dX11_spells_45 (lv_at hl 0 rfl) ?_
      refine r_iadd (v := (nI ((t 0) + 0))) S (nI_add (t 0) 0) dX11_spells_47 ?_
      refine r_iald (v := (fd ((t 0) + 0))) S G 1 rfl (vp_in_nI (by omega) (by decide)) (congrArg fd (nI_clamp (by omega))) dX11_spells_48 ?_
      refine lv_iload zx zb dX11_spells_49 (lv_at hl 0 rfl) ?_
      refine lv_if_ne (tgt := 58) zx zb dX11_spells_51 (by decide) (fun c_10 => absurd (by decide) c_10) (fun c_10 => ?_)
      refine lv_iload_n zx zb dX11_spells_54 rfl (lv_at hl 4 rfl) ?_
      refine lv_goto (tgt := 103) zx zb dX11_spells_55 (by decide) ?_
      refine lv_icmp_ne (tgt := 110) zx zb dX11_spells_103 (by decide) (fun c_11 => ?_) (fun c_11 => ?_)
      · refine lv_iconst (v := 0) zx zb dX11_spells_110 (by decide) ?_
        refine lv_istore (lv' := [(8, .int 0), (9, .int 0), (0, .ref m0), (1, .int 3), (2, .int 111), (3, .int 110), (4, .int 101), (5, .int 0), (6, .int 0), (7, .int 0)]) zx zb dX11_spells_111 hl (by decide) rfl (fun ls hl => ?_)
        refine lv_iinc (v := 1) (lv' := [(9, .int 1), (8, .int 0), (0, .ref m0), (1, .int 3), (2, .int 111), (3, .int 110), (4, .int 101), (5, .int 0), (6, .int 0), (7, .int 0)]) zx zb dX11_spells_113 hl (k := 1) rfl (by decide) (by decide) rfl (fun ls hl => ?_)
        refine lv_goto (tgt := 26) zx zb dX11_spells_116 (by decide) ?_
        refine lv_iload zx zb dX11_spells_26 (lv_at hl 0 rfl) ?_
        refine lv_iload_n zx zb dX11_spells_28 rfl (lv_at hl 3 rfl) ?_
        refine lv_icmp_ge (tgt := 119) zx zb dX11_spells_29 (by decide) (fun c_12 => absurd c_12 (by decide)) (fun c_12 => ?_)
        refine lv_iload zx zb dX11_spells_32 (lv_at hl 1 rfl) ?_
        refine lv_if_eq (tgt := 119) zx zb dX11_spells_34 (by decide) (fun c_13 => ?_) (fun c_13 => absurd (by decide) c_13)
        refine lv_iload zx zb dX11_spells_119 (lv_at hl 1 rfl) ?_
        exact e_int S zr zlk (by decide) G () [] rfl rfl (Or.inl rfl) (Or.inr ⟨rfl, fun h => c_11 (by rw [hK0]; exact (wrdB_t.mp h.2).2 0 (by decide))⟩) dX11_spells_121
      · refine lv_iconst (v := 1) zx zb dX11_spells_106 (by decide) ?_
        refine lv_goto (tgt := 111) zx zb dX11_spells_107 (by decide) ?_
        refine lv_istore (lv' := [(8, .int 1), (9, .int 0), (0, .ref m0), (1, .int 3), (2, .int 111), (3, .int 110), (4, .int 101), (5, .int 0), (6, .int 0), (7, .int 0)]) zx zb dX11_spells_111 hl (by decide) rfl (fun ls hl => ?_)
        refine lv_iinc (v := 1) (lv' := [(9, .int 1), (8, .int 1), (0, .ref m0), (1, .int 3), (2, .int 111), (3, .int 110), (4, .int 101), (5, .int 0), (6, .int 0), (7, .int 0)]) zx zb dX11_spells_113 hl (k := 1) rfl (by decide) (by decide) rfl (fun ls hl => ?_)
        refine lv_goto (tgt := 26) zx zb dX11_spells_116 (by decide) ?_
        refine lv_iload zx zb dX11_spells_26 (lv_at hl 0 rfl) ?_
        refine lv_iload_n zx zb dX11_spells_28 rfl (lv_at hl 3 rfl) ?_
        refine lv_icmp_ge (tgt := 119) zx zb dX11_spells_29 (by decide) (fun c_14 => absurd c_14 (by decide)) (fun c_14 => ?_)
        refine lv_iload zx zb dX11_spells_32 (lv_at hl 1 rfl) ?_
        refine lv_if_eq (tgt := 119) zx zb dX11_spells_34 (by decide) (fun c_15 => absurd c_15 (by decide)) (fun c_15 => ?_)
        refine lv_aload_n zx zb dX11_spells_37 rfl (lv_at hl 2 rfl) ?_
        refine r_get (C := RX11) (T := TX11) (N := 18) (ci := 9) (v := .ref (ma 10)) S in_X11_spells_X11 G 0 rfl rfl 10 (by decide) lk_X11_spells_39 rfl dX11_spells_38 ?_
        refine lv_aload_n zx zb dX11_spells_41 rfl (lv_at hl 2 rfl) ?_
        refine r_get (C := RX11) (T := TX11) (N := 18) (ci := 9) (v := .int (nI (t 0))) S in_X11_spells_X11 G 0 rfl rfl 12 (by decide) lk_X11_spells_217 rfl dX11_spells_42 ?_
        refine lv_iload zx zb dX11_spells_45 (lv_at hl 0 rfl) ?_
        refine r_iadd (v := (nI ((t 0) + 1))) S (nI_add (t 0) 1) dX11_spells_47 ?_
        refine r_iald (v := (fd ((t 0) + 1))) S G 1 rfl (vp_in_nI (by omega) (by decide)) (congrArg fd (nI_clamp (by omega))) dX11_spells_48 ?_
        refine lv_iload zx zb dX11_spells_49 (lv_at hl 0 rfl) ?_
        refine lv_if_ne (tgt := 58) zx zb dX11_spells_51 (by decide) (fun c_17 => ?_) (fun c_17 => absurd c_17 (by decide))
        refine lv_iload zx zb dX11_spells_58 (lv_at hl 0 rfl) ?_
        refine lv_iconst (v := 1) zx zb dX11_spells_60 (by decide) ?_
        refine lv_icmp_ne (tgt := 68) zx zb dX11_spells_61 (by decide) (fun c_18 => absurd (by decide) c_18) (fun c_18 => ?_)
        refine lv_iload_n zx zb dX11_spells_64 rfl (lv_at hl 5 rfl) ?_
        refine lv_goto (tgt := 103) zx zb dX11_spells_65 (by decide) ?_
        refine lv_icmp_ne (tgt := 110) zx zb dX11_spells_103 (by decide) (fun c_19 => ?_) (fun c_19 => ?_)
        · refine lv_iconst (v := 0) zx zb dX11_spells_110 (by decide) ?_
          refine lv_istore (lv' := [(8, .int 0), (9, .int 1), (0, .ref m0), (1, .int 3), (2, .int 111), (3, .int 110), (4, .int 101), (5, .int 0), (6, .int 0), (7, .int 0)]) zx zb dX11_spells_111 hl (by decide) rfl (fun ls hl => ?_)
          refine lv_iinc (v := 2) (lv' := [(9, .int 2), (8, .int 0), (0, .ref m0), (1, .int 3), (2, .int 111), (3, .int 110), (4, .int 101), (5, .int 0), (6, .int 0), (7, .int 0)]) zx zb dX11_spells_113 hl (k := 1) rfl (by decide) (by decide) rfl (fun ls hl => ?_)
          refine lv_goto (tgt := 26) zx zb dX11_spells_116 (by decide) ?_
          refine lv_iload zx zb dX11_spells_26 (lv_at hl 0 rfl) ?_
          refine lv_iload_n zx zb dX11_spells_28 rfl (lv_at hl 3 rfl) ?_
          refine lv_icmp_ge (tgt := 119) zx zb dX11_spells_29 (by decide) (fun c_20 => absurd c_20 (by decide)) (fun c_20 => ?_)
          refine lv_iload zx zb dX11_spells_32 (lv_at hl 1 rfl) ?_
          refine lv_if_eq (tgt := 119) zx zb dX11_spells_34 (by decide) (fun c_21 => ?_) (fun c_21 => absurd (by decide) c_21)
          refine lv_iload zx zb dX11_spells_119 (lv_at hl 1 rfl) ?_
          exact e_int S zr zlk (by decide) G () [] rfl rfl (Or.inl rfl) (Or.inr ⟨rfl, fun h => c_19 (by rw [hK0]; exact (wrdB_t.mp h.2).2 1 (by decide))⟩) dX11_spells_121
        · refine lv_iconst (v := 1) zx zb dX11_spells_106 (by decide) ?_
          refine lv_goto (tgt := 111) zx zb dX11_spells_107 (by decide) ?_
          refine lv_istore (lv' := [(8, .int 1), (9, .int 1), (0, .ref m0), (1, .int 3), (2, .int 111), (3, .int 110), (4, .int 101), (5, .int 0), (6, .int 0), (7, .int 0)]) zx zb dX11_spells_111 hl (by decide) rfl (fun ls hl => ?_)
          refine lv_iinc (v := 2) (lv' := [(9, .int 2), (8, .int 1), (0, .ref m0), (1, .int 3), (2, .int 111), (3, .int 110), (4, .int 101), (5, .int 0), (6, .int 0), (7, .int 0)]) zx zb dX11_spells_113 hl (k := 1) rfl (by decide) (by decide) rfl (fun ls hl => ?_)
          refine lv_goto (tgt := 26) zx zb dX11_spells_116 (by decide) ?_
          refine lv_iload zx zb dX11_spells_26 (lv_at hl 0 rfl) ?_
          refine lv_iload_n zx zb dX11_spells_28 rfl (lv_at hl 3 rfl) ?_
          refine lv_icmp_ge (tgt := 119) zx zb dX11_spells_29 (by decide) (fun c_22 => absurd c_22 (by decide)) (fun c_22 => ?_)
          refine lv_iload zx zb dX11_spells_32 (lv_at hl 1 rfl) ?_
          refine lv_if_eq (tgt := 119) zx zb dX11_spells_34 (by decide) (fun c_23 => absurd c_23 (by decide)) (fun c_23 => ?_)
          refine lv_aload_n zx zb dX11_spells_37 rfl (lv_at hl 2 rfl) ?_
          refine r_get (C := RX11) (T := TX11) (N := 18) (ci := 9) (v := .ref (ma 10)) S in_X11_spells_X11 G 0 rfl rfl 10 (by decide) lk_X11_spells_39 rfl dX11_spells_38 ?_
          refine lv_aload_n zx zb dX11_spells_41 rfl (lv_at hl 2 rfl) ?_
          refine r_get (C := RX11) (T := TX11) (N := 18) (ci := 9) (v := .int (nI (t 0))) S in_X11_spells_X11 G 0 rfl rfl 12 (by decide) lk_X11_spells_217 rfl dX11_spells_42 ?_
          refine lv_iload zx zb dX11_spells_45 (lv_at hl 0 rfl) ?_
          refine r_iadd (v := (nI ((t 0) + 2))) S (nI_add (t 0) 2) dX11_spells_47 ?_
          refine r_iald (v := (fd ((t 0) + 2))) S G 1 rfl (vp_in_nI (by omega) (by decide)) (congrArg fd (nI_clamp (by omega))) dX11_spells_48 ?_
          refine lv_iload zx zb dX11_spells_49 (lv_at hl 0 rfl) ?_
          refine lv_if_ne (tgt := 58) zx zb dX11_spells_51 (by decide) (fun c_25 => ?_) (fun c_25 => absurd c_25 (by decide))
          refine lv_iload zx zb dX11_spells_58 (lv_at hl 0 rfl) ?_
          refine lv_iconst (v := 1) zx zb dX11_spells_60 (by decide) ?_
          refine lv_icmp_ne (tgt := 68) zx zb dX11_spells_61 (by decide) (fun c_26 => ?_) (fun c_26 => absurd c_26 (by decide))
          refine lv_iload zx zb dX11_spells_68 (lv_at hl 0 rfl) ?_
          refine lv_iconst (v := 2) zx zb dX11_spells_70 (by decide) ?_
          refine lv_icmp_ne (tgt := 79) zx zb dX11_spells_71 (by decide) (fun c_27 => absurd (by decide) c_27) (fun c_27 => ?_)
          refine lv_iload zx zb dX11_spells_74 (lv_at hl 6 rfl) ?_
          refine lv_goto (tgt := 103) zx zb dX11_spells_76 (by decide) ?_
          refine lv_icmp_ne (tgt := 110) zx zb dX11_spells_103 (by decide) (fun c_28 => ?_) (fun c_28 => ?_)
          · refine lv_iconst (v := 0) zx zb dX11_spells_110 (by decide) ?_
            refine lv_istore (lv' := [(8, .int 0), (9, .int 2), (0, .ref m0), (1, .int 3), (2, .int 111), (3, .int 110), (4, .int 101), (5, .int 0), (6, .int 0), (7, .int 0)]) zx zb dX11_spells_111 hl (by decide) rfl (fun ls hl => ?_)
            refine lv_iinc (v := 3) (lv' := [(9, .int 3), (8, .int 0), (0, .ref m0), (1, .int 3), (2, .int 111), (3, .int 110), (4, .int 101), (5, .int 0), (6, .int 0), (7, .int 0)]) zx zb dX11_spells_113 hl (k := 1) rfl (by decide) (by decide) rfl (fun ls hl => ?_)
            refine lv_goto (tgt := 26) zx zb dX11_spells_116 (by decide) ?_
            refine lv_iload zx zb dX11_spells_26 (lv_at hl 0 rfl) ?_
            refine lv_iload_n zx zb dX11_spells_28 rfl (lv_at hl 3 rfl) ?_
            refine lv_icmp_ge (tgt := 119) zx zb dX11_spells_29 (by decide) (fun c_29 => ?_) (fun c_29 => absurd (by decide) c_29)
            refine lv_iload zx zb dX11_spells_119 (lv_at hl 1 rfl) ?_
            exact e_int S zr zlk (by decide) G () [] rfl rfl (Or.inl rfl) (Or.inr ⟨rfl, fun h => c_28 (by rw [hK0]; exact (wrdB_t.mp h.2).2 2 (by decide))⟩) dX11_spells_121
          · refine lv_iconst (v := 1) zx zb dX11_spells_106 (by decide) ?_
            refine lv_goto (tgt := 111) zx zb dX11_spells_107 (by decide) ?_
            refine lv_istore (lv' := [(8, .int 1), (9, .int 2), (0, .ref m0), (1, .int 3), (2, .int 111), (3, .int 110), (4, .int 101), (5, .int 0), (6, .int 0), (7, .int 0)]) zx zb dX11_spells_111 hl (by decide) rfl (fun ls hl => ?_)
            refine lv_iinc (v := 3) (lv' := [(9, .int 3), (8, .int 1), (0, .ref m0), (1, .int 3), (2, .int 111), (3, .int 110), (4, .int 101), (5, .int 0), (6, .int 0), (7, .int 0)]) zx zb dX11_spells_113 hl (k := 1) rfl (by decide) (by decide) rfl (fun ls hl => ?_)
            refine lv_goto (tgt := 26) zx zb dX11_spells_116 (by decide) ?_
            refine lv_iload zx zb dX11_spells_26 (lv_at hl 0 rfl) ?_
            refine lv_iload_n zx zb dX11_spells_28 rfl (lv_at hl 3 rfl) ?_
            refine lv_icmp_ge (tgt := 119) zx zb dX11_spells_29 (by decide) (fun c_30 => ?_) (fun c_30 => absurd (by decide) c_30)
            refine lv_iload zx zb dX11_spells_119 (lv_at hl 1 rfl) ?_
            exact e_int S zr zlk (by decide) G () [] rfl rfl (Or.inl rfl) (Or.inl ⟨rfl, hK2.symm.trans c_1, wrdB_t.mpr ⟨(show tE fd n s0 - s0 = 3 from by omega), k_al3 (by rw [← hK0]; exact c_11) (by rw [← hK0]; exact c_19) (by rw [← hK0]; exact c_28)⟩⟩) dX11_spells_121
set_option maxHeartbeats 4000000 in
set_option maxRecDepth 100000 in
theorem y_spells2 (l : Launch) (X : EX) (m0 : Nat) (ma : Nat → Nat) (la : Int64) (lb : Int64) (n : Nat) (t : Nat → Nat) (v : Nat → Int32) (fd : Nat → Int32) (s0 : Nat) (hI_n : n ≤ 150) (hI_t : InT t) (hK : tkM fd n t v s0) (sz : Nat) : Met l yX11_spells wsX11_spells ({ frames := 0, cells := 0, slots := 0, locals := 0 } : Room) (pE X [.ref m0, .int 5, .int 115, .int 112, .int 101, .int 101, .int 100, .int 0] (@HAppend.hAppend va_W va_W va_W _ (mW m0 ma la lb n t v) ([((ma 10), .inl (X.2.1, 150, .inl fd))])) sz) (qI (fun (r : Int32) (u : Unit) => (r = 1 ∧ tK fd n s0 = 1 ∧ wrdB fd n s0 2 = true) ∨ (r = 0 ∧ ¬ (tK fd n s0 = 1 ∧ wrdB fd n s0 2 = true))) X (fun (u : Unit) => []) [] sz) 0 0 (va_A [] sz) := by
  refine mk_met (B := (fun _ => True)) (A := (va_A [] sz)) (cc := cX11_spells) (maxL := 10) (ret := (some .boolean)) (by decide) rfl (Nat.le_of_ble_eq_true rfl) k_ro k_a (fun p e s m below meth c S zr zlk znm zsz G ls hl => ?_)
  have S : CallFix p m c cX11_spells 10 s _ wsX11_spells RX11 := S
  have zx := S.1
  have zb := S.2.1
  have hl : lv_has ls 10 [(0, .ref m0), (1, .int 5), (2, .int 115), (3, .int 112), (4, .int 101), (5, .int 101), (6, .int 100), (7, .int 0)] := hl
  have hO_t := hI_t
  obtain ⟨ht0_t, ht1_t⟩ := hO_t
  obtain ⟨hK0, hK1, hK2, hK3, hK4⟩ := hK
  have hTe := tE_le (T := fd) (n := n) (s := s0) hK4
  refine lv_aload_n zx zb dX11_spells_0 rfl (lv_at hl 0 rfl) ?_
  refine r_get (C := RX11) (T := TX11) (N := 18) (ci := 9) (v := .int (v 0)) S in_X11_spells_X11 G 0 rfl rfl 14 (by decide) lk_X11_spells_223 rfl dX11_spells_1 ?_
  refine lv_iconst (v := 1) zx zb dX11_spells_4 (by decide) ?_
  refine lv_icmp_ne (tgt := 20) zx zb dX11_spells_5 (by decide) (fun c_1 => ?_) (fun c_1 => ?_)
  · refine lv_iconst (v := 0) zx zb dX11_spells_20 (by decide) ?_
    refine lv_istore (lv' := [(8, .int 0), (0, .ref m0), (1, .int 5), (2, .int 115), (3, .int 112), (4, .int 101), (5, .int 101), (6, .int 100), (7, .int 0)]) zx zb dX11_spells_21 hl (by decide) rfl (fun ls hl => ?_)
    refine lv_iconst (v := 0) zx zb dX11_spells_23 (by decide) ?_
    refine lv_istore (lv' := [(9, .int 0), (8, .int 0), (0, .ref m0), (1, .int 5), (2, .int 115), (3, .int 112), (4, .int 101), (5, .int 101), (6, .int 100), (7, .int 0)]) zx zb dX11_spells_24 hl (by decide) rfl (fun ls hl => ?_)
    refine lv_iload zx zb dX11_spells_26 (lv_at hl 0 rfl) ?_
    refine lv_iload_n zx zb dX11_spells_28 rfl (lv_at hl 3 rfl) ?_
    refine lv_icmp_ge (tgt := 119) zx zb dX11_spells_29 (by decide) (fun c_2 => absurd c_2 (by decide)) (fun c_2 => ?_)
    refine lv_iload zx zb dX11_spells_32 (lv_at hl 1 rfl) ?_
    refine lv_if_eq (tgt := 119) zx zb dX11_spells_34 (by decide) (fun c_3 => ?_) (fun c_3 => absurd (by decide) c_3)
    refine lv_iload zx zb dX11_spells_119 (lv_at hl 1 rfl) ?_
    exact e_int S zr zlk (by decide) G () [] rfl rfl (Or.inl rfl) (Or.inr ⟨rfl, fun h => c_1 (hK2.trans h.1)⟩) dX11_spells_121
  · refine lv_aload_n zx zb dX11_spells_8 rfl (lv_at hl 0 rfl) ?_
    refine r_get (C := RX11) (T := TX11) (N := 18) (ci := 9) (v := .int (nI (t 1))) S in_X11_spells_X11 G 0 rfl rfl 13 (by decide) lk_X11_spells_220 rfl dX11_spells_9 ?_
    refine lv_iload_n zx zb dX11_spells_12 rfl (lv_at hl 1 rfl) ?_
    refine lv_icmp_ne (tgt := 20) zx zb dX11_spells_13 (by decide) (fun c_4 => ?_) (fun c_4 => ?_)
    · have fc_4 := j_ne (a := (t 1)) (b := 5) c_4
      refine lv_iconst (v := 0) zx zb dX11_spells_20 (by decide) ?_
      refine lv_istore (lv' := [(8, .int 0), (0, .ref m0), (1, .int 5), (2, .int 115), (3, .int 112), (4, .int 101), (5, .int 101), (6, .int 100), (7, .int 0)]) zx zb dX11_spells_21 hl (by decide) rfl (fun ls hl => ?_)
      refine lv_iconst (v := 0) zx zb dX11_spells_23 (by decide) ?_
      refine lv_istore (lv' := [(9, .int 0), (8, .int 0), (0, .ref m0), (1, .int 5), (2, .int 115), (3, .int 112), (4, .int 101), (5, .int 101), (6, .int 100), (7, .int 0)]) zx zb dX11_spells_24 hl (by decide) rfl (fun ls hl => ?_)
      refine lv_iload zx zb dX11_spells_26 (lv_at hl 0 rfl) ?_
      refine lv_iload_n zx zb dX11_spells_28 rfl (lv_at hl 3 rfl) ?_
      refine lv_icmp_ge (tgt := 119) zx zb dX11_spells_29 (by decide) (fun c_5 => absurd c_5 (by decide)) (fun c_5 => ?_)
      refine lv_iload zx zb dX11_spells_32 (lv_at hl 1 rfl) ?_
      refine lv_if_eq (tgt := 119) zx zb dX11_spells_34 (by decide) (fun c_6 => ?_) (fun c_6 => absurd (by decide) c_6)
      refine lv_iload zx zb dX11_spells_119 (lv_at hl 1 rfl) ?_
      exact e_int S zr zlk (by decide) G () [] rfl rfl (Or.inl rfl) (Or.inr ⟨rfl, fun h => absurd (wrdB_t.mp h.2).1 (show ¬ tE fd n s0 - s0 = 5 from by omega)⟩) dX11_spells_121
    · have fc_4 := j_eq (a := (t 1)) (b := 5) (by omega) (by omega) c_4
      refine lv_iconst (v := 1) zx zb dX11_spells_16 (by decide) ?_
      refine lv_goto (tgt := 21) zx zb dX11_spells_17 (by decide) ?_
      refine lv_istore (lv' := [(8, .int 1), (0, .ref m0), (1, .int 5), (2, .int 115), (3, .int 112), (4, .int 101), (5, .int 101), (6, .int 100), (7, .int 0)]) zx zb dX11_spells_21 hl (by decide) rfl (fun ls hl => ?_)
      refine lv_iconst (v := 0) zx zb dX11_spells_23 (by decide) ?_
      refine lv_istore (lv' := [(9, .int 0), (8, .int 1), (0, .ref m0), (1, .int 5), (2, .int 115), (3, .int 112), (4, .int 101), (5, .int 101), (6, .int 100), (7, .int 0)]) zx zb dX11_spells_24 hl (by decide) rfl (fun ls hl => ?_)
      refine lv_iload zx zb dX11_spells_26 (lv_at hl 0 rfl) ?_
      refine lv_iload_n zx zb dX11_spells_28 rfl (lv_at hl 3 rfl) ?_
      refine lv_icmp_ge (tgt := 119) zx zb dX11_spells_29 (by decide) (fun c_7 => absurd c_7 (by decide)) (fun c_7 => ?_)
      refine lv_iload zx zb dX11_spells_32 (lv_at hl 1 rfl) ?_
      refine lv_if_eq (tgt := 119) zx zb dX11_spells_34 (by decide) (fun c_8 => absurd c_8 (by decide)) (fun c_8 => ?_)
      refine lv_aload_n zx zb dX11_spells_37 rfl (lv_at hl 2 rfl) ?_
      refine r_get (C := RX11) (T := TX11) (N := 18) (ci := 9) (v := .ref (ma 10)) S in_X11_spells_X11 G 0 rfl rfl 10 (by decide) lk_X11_spells_39 rfl dX11_spells_38 ?_
      refine lv_aload_n zx zb dX11_spells_41 rfl (lv_at hl 2 rfl) ?_
      refine r_get (C := RX11) (T := TX11) (N := 18) (ci := 9) (v := .int (nI (t 0))) S in_X11_spells_X11 G 0 rfl rfl 12 (by decide) lk_X11_spells_217 rfl dX11_spells_42 ?_
      refine lv_iload zx zb dX11_spells_45 (lv_at hl 0 rfl) ?_
      refine r_iadd (v := (nI ((t 0) + 0))) S (nI_add (t 0) 0) dX11_spells_47 ?_
      refine r_iald (v := (fd ((t 0) + 0))) S G 1 rfl (vp_in_nI (by omega) (by decide)) (congrArg fd (nI_clamp (by omega))) dX11_spells_48 ?_
      refine lv_iload zx zb dX11_spells_49 (lv_at hl 0 rfl) ?_
      refine lv_if_ne (tgt := 58) zx zb dX11_spells_51 (by decide) (fun c_10 => absurd (by decide) c_10) (fun c_10 => ?_)
      refine lv_iload_n zx zb dX11_spells_54 rfl (lv_at hl 4 rfl) ?_
      refine lv_goto (tgt := 103) zx zb dX11_spells_55 (by decide) ?_
      refine lv_icmp_ne (tgt := 110) zx zb dX11_spells_103 (by decide) (fun c_11 => ?_) (fun c_11 => ?_)
      · refine lv_iconst (v := 0) zx zb dX11_spells_110 (by decide) ?_
        refine lv_istore (lv' := [(8, .int 0), (9, .int 0), (0, .ref m0), (1, .int 5), (2, .int 115), (3, .int 112), (4, .int 101), (5, .int 101), (6, .int 100), (7, .int 0)]) zx zb dX11_spells_111 hl (by decide) rfl (fun ls hl => ?_)
        refine lv_iinc (v := 1) (lv' := [(9, .int 1), (8, .int 0), (0, .ref m0), (1, .int 5), (2, .int 115), (3, .int 112), (4, .int 101), (5, .int 101), (6, .int 100), (7, .int 0)]) zx zb dX11_spells_113 hl (k := 1) rfl (by decide) (by decide) rfl (fun ls hl => ?_)
        refine lv_goto (tgt := 26) zx zb dX11_spells_116 (by decide) ?_
        refine lv_iload zx zb dX11_spells_26 (lv_at hl 0 rfl) ?_
        refine lv_iload_n zx zb dX11_spells_28 rfl (lv_at hl 3 rfl) ?_
        refine lv_icmp_ge (tgt := 119) zx zb dX11_spells_29 (by decide) (fun c_12 => absurd c_12 (by decide)) (fun c_12 => ?_)
        refine lv_iload zx zb dX11_spells_32 (lv_at hl 1 rfl) ?_
        refine lv_if_eq (tgt := 119) zx zb dX11_spells_34 (by decide) (fun c_13 => ?_) (fun c_13 => absurd (by decide) c_13)
        refine lv_iload zx zb dX11_spells_119 (lv_at hl 1 rfl) ?_
        exact e_int S zr zlk (by decide) G () [] rfl rfl (Or.inl rfl) (Or.inr ⟨rfl, fun h => c_11 (by rw [hK0]; exact (wrdB_t.mp h.2).2 0 (by decide))⟩) dX11_spells_121
      · refine lv_iconst (v := 1) zx zb dX11_spells_106 (by decide) ?_
        refine lv_goto (tgt := 111) zx zb dX11_spells_107 (by decide) ?_
        refine lv_istore (lv' := [(8, .int 1), (9, .int 0), (0, .ref m0), (1, .int 5), (2, .int 115), (3, .int 112), (4, .int 101), (5, .int 101), (6, .int 100), (7, .int 0)]) zx zb dX11_spells_111 hl (by decide) rfl (fun ls hl => ?_)
        refine lv_iinc (v := 1) (lv' := [(9, .int 1), (8, .int 1), (0, .ref m0), (1, .int 5), (2, .int 115), (3, .int 112), (4, .int 101), (5, .int 101), (6, .int 100), (7, .int 0)]) zx zb dX11_spells_113 hl (k := 1) rfl (by decide) (by decide) rfl (fun ls hl => ?_)
        refine lv_goto (tgt := 26) zx zb dX11_spells_116 (by decide) ?_
        refine lv_iload zx zb dX11_spells_26 (lv_at hl 0 rfl) ?_
        refine lv_iload_n zx zb dX11_spells_28 rfl (lv_at hl 3 rfl) ?_
        refine lv_icmp_ge (tgt := 119) zx zb dX11_spells_29 (by decide) (fun c_14 => absurd c_14 (by decide)) (fun c_14 => ?_)
        refine lv_iload zx zb dX11_spells_32 (lv_at hl 1 rfl) ?_
        refine lv_if_eq (tgt := 119) zx zb dX11_spells_34 (by decide) (fun c_15 => absurd c_15 (by decide)) (fun c_15 => ?_)
        refine lv_aload_n zx zb dX11_spells_37 rfl (lv_at hl 2 rfl) ?_
        refine r_get (C := RX11) (T := TX11) (N := 18) (ci := 9) (v := .ref (ma 10)) S in_X11_spells_X11 G 0 rfl rfl 10 (by decide) lk_X11_spells_39 rfl dX11_spells_38 ?_
        refine lv_aload_n zx zb dX11_spells_41 rfl (lv_at hl 2 rfl) ?_
        refine r_get (C := RX11) (T := TX11) (N := 18) (ci := 9) (v := .int (nI (t 0))) S in_X11_spells_X11 G 0 rfl rfl 12 (by decide) lk_X11_spells_217 rfl dX11_spells_42 ?_
        refine lv_iload zx zb dX11_spells_45 (lv_at hl 0 rfl) ?_
        refine r_iadd (v := (nI ((t 0) + 1))) S (nI_add (t 0) 1) dX11_spells_47 ?_
        refine r_iald (v := (fd ((t 0) + 1))) S G 1 rfl (vp_in_nI (by omega) (by decide)) (congrArg fd (nI_clamp (by omega))) dX11_spells_48 ?_
        refine lv_iload zx zb dX11_spells_49 (lv_at hl 0 rfl) ?_
        refine lv_if_ne (tgt := 58) zx zb dX11_spells_51 (by decide) (fun c_17 => ?_) (fun c_17 => absurd c_17 (by decide))
        refine lv_iload zx zb dX11_spells_58 (lv_at hl 0 rfl) ?_
        refine lv_iconst (v := 1) zx zb dX11_spells_60 (by decide) ?_
        refine lv_icmp_ne (tgt := 68) zx zb dX11_spells_61 (by decide) (fun c_18 => absurd (by decide) c_18) (fun c_18 => ?_)
        refine lv_iload_n zx zb dX11_spells_64 rfl (lv_at hl 5 rfl) ?_
        refine lv_goto (tgt := 103) zx zb dX11_spells_65 (by decide) ?_
        refine lv_icmp_ne (tgt := 110) zx zb dX11_spells_103 (by decide) (fun c_19 => ?_) (fun c_19 => ?_)
        · refine lv_iconst (v := 0) zx zb dX11_spells_110 (by decide) ?_
          refine lv_istore (lv' := [(8, .int 0), (9, .int 1), (0, .ref m0), (1, .int 5), (2, .int 115), (3, .int 112), (4, .int 101), (5, .int 101), (6, .int 100), (7, .int 0)]) zx zb dX11_spells_111 hl (by decide) rfl (fun ls hl => ?_)
          refine lv_iinc (v := 2) (lv' := [(9, .int 2), (8, .int 0), (0, .ref m0), (1, .int 5), (2, .int 115), (3, .int 112), (4, .int 101), (5, .int 101), (6, .int 100), (7, .int 0)]) zx zb dX11_spells_113 hl (k := 1) rfl (by decide) (by decide) rfl (fun ls hl => ?_)
          refine lv_goto (tgt := 26) zx zb dX11_spells_116 (by decide) ?_
          refine lv_iload zx zb dX11_spells_26 (lv_at hl 0 rfl) ?_
          refine lv_iload_n zx zb dX11_spells_28 rfl (lv_at hl 3 rfl) ?_
          refine lv_icmp_ge (tgt := 119) zx zb dX11_spells_29 (by decide) (fun c_20 => absurd c_20 (by decide)) (fun c_20 => ?_)
          refine lv_iload zx zb dX11_spells_32 (lv_at hl 1 rfl) ?_
          refine lv_if_eq (tgt := 119) zx zb dX11_spells_34 (by decide) (fun c_21 => ?_) (fun c_21 => absurd (by decide) c_21)
          refine lv_iload zx zb dX11_spells_119 (lv_at hl 1 rfl) ?_
          exact e_int S zr zlk (by decide) G () [] rfl rfl (Or.inl rfl) (Or.inr ⟨rfl, fun h => c_19 (by rw [hK0]; exact (wrdB_t.mp h.2).2 1 (by decide))⟩) dX11_spells_121
        · refine lv_iconst (v := 1) zx zb dX11_spells_106 (by decide) ?_
          refine lv_goto (tgt := 111) zx zb dX11_spells_107 (by decide) ?_
          refine lv_istore (lv' := [(8, .int 1), (9, .int 1), (0, .ref m0), (1, .int 5), (2, .int 115), (3, .int 112), (4, .int 101), (5, .int 101), (6, .int 100), (7, .int 0)]) zx zb dX11_spells_111 hl (by decide) rfl (fun ls hl => ?_)
          refine lv_iinc (v := 2) (lv' := [(9, .int 2), (8, .int 1), (0, .ref m0), (1, .int 5), (2, .int 115), (3, .int 112), (4, .int 101), (5, .int 101), (6, .int 100), (7, .int 0)]) zx zb dX11_spells_113 hl (k := 1) rfl (by decide) (by decide) rfl (fun ls hl => ?_)
          refine lv_goto (tgt := 26) zx zb dX11_spells_116 (by decide) ?_
          refine lv_iload zx zb dX11_spells_26 (lv_at hl 0 rfl) ?_
          refine lv_iload_n zx zb dX11_spells_28 rfl (lv_at hl 3 rfl) ?_
          refine lv_icmp_ge (tgt := 119) zx zb dX11_spells_29 (by decide) (fun c_22 => absurd c_22 (by decide)) (fun c_22 => ?_)
          refine lv_iload zx zb dX11_spells_32 (lv_at hl 1 rfl) ?_
          refine lv_if_eq (tgt := 119) zx zb dX11_spells_34 (by decide) (fun c_23 => absurd c_23 (by decide)) (fun c_23 => ?_)
          refine lv_aload_n zx zb dX11_spells_37 rfl (lv_at hl 2 rfl) ?_
          refine r_get (C := RX11) (T := TX11) (N := 18) (ci := 9) (v := .ref (ma 10)) S in_X11_spells_X11 G 0 rfl rfl 10 (by decide) lk_X11_spells_39 rfl dX11_spells_38 ?_
          refine lv_aload_n zx zb dX11_spells_41 rfl (lv_at hl 2 rfl) ?_
          refine r_get (C := RX11) (T := TX11) (N := 18) (ci := 9) (v := .int (nI (t 0))) S in_X11_spells_X11 G 0 rfl rfl 12 (by decide) lk_X11_spells_217 rfl dX11_spells_42 ?_
          refine lv_iload zx zb dX11_spells_45 (lv_at hl 0 rfl) ?_
          refine r_iadd (v := (nI ((t 0) + 2))) S (nI_add (t 0) 2) dX11_spells_47 ?_
          refine r_iald (v := (fd ((t 0) + 2))) S G 1 rfl (vp_in_nI (by omega) (by decide)) (congrArg fd (nI_clamp (by omega))) dX11_spells_48 ?_
          refine lv_iload zx zb dX11_spells_49 (lv_at hl 0 rfl) ?_
          refine lv_if_ne (tgt := 58) zx zb dX11_spells_51 (by decide) (fun c_25 => ?_) (fun c_25 => absurd c_25 (by decide))
          refine lv_iload zx zb dX11_spells_58 (lv_at hl 0 rfl) ?_
          refine lv_iconst (v := 1) zx zb dX11_spells_60 (by decide) ?_
          refine lv_icmp_ne (tgt := 68) zx zb dX11_spells_61 (by decide) (fun c_26 => ?_) (fun c_26 => absurd c_26 (by decide))
          refine lv_iload zx zb dX11_spells_68 (lv_at hl 0 rfl) ?_
          refine lv_iconst (v := 2) zx zb dX11_spells_70 (by decide) ?_
          refine lv_icmp_ne (tgt := 79) zx zb dX11_spells_71 (by decide) (fun c_27 => absurd (by decide) c_27) (fun c_27 => ?_)
          refine lv_iload zx zb dX11_spells_74 (lv_at hl 6 rfl) ?_
          refine lv_goto (tgt := 103) zx zb dX11_spells_76 (by decide) ?_
          refine lv_icmp_ne (tgt := 110) zx zb dX11_spells_103 (by decide) (fun c_28 => ?_) (fun c_28 => ?_)
          · refine lv_iconst (v := 0) zx zb dX11_spells_110 (by decide) ?_
            refine lv_istore (lv' := [(8, .int 0), (9, .int 2), (0, .ref m0), (1, .int 5), (2, .int 115), (3, .int 112), (4, .int 101), (5, .int 101), (6, .int 100), (7, .int 0)]) zx zb dX11_spells_111 hl (by decide) rfl (fun ls hl => ?_)
            refine lv_iinc (v := 3) (lv' := [(9, .int 3), (8, .int 0), (0, .ref m0), (1, .int 5), (2, .int 115), (3, .int 112), (4, .int 101), (5, .int 101), (6, .int 100), (7, .int 0)]) zx zb dX11_spells_113 hl (k := 1) rfl (by decide) (by decide) rfl (fun ls hl => ?_)
            refine lv_goto (tgt := 26) zx zb dX11_spells_116 (by decide) ?_
            refine lv_iload zx zb dX11_spells_26 (lv_at hl 0 rfl) ?_
            refine lv_iload_n zx zb dX11_spells_28 rfl (lv_at hl 3 rfl) ?_
            refine lv_icmp_ge (tgt := 119) zx zb dX11_spells_29 (by decide) (fun c_29 => absurd c_29 (by decide)) (fun c_29 => ?_)
            refine lv_iload zx zb dX11_spells_32 (lv_at hl 1 rfl) ?_
            refine lv_if_eq (tgt := 119) zx zb dX11_spells_34 (by decide) (fun c_30 => ?_) (fun c_30 => absurd (by decide) c_30)
            refine lv_iload zx zb dX11_spells_119 (lv_at hl 1 rfl) ?_
            exact e_int S zr zlk (by decide) G () [] rfl rfl (Or.inl rfl) (Or.inr ⟨rfl, fun h => c_28 (by rw [hK0]; exact (wrdB_t.mp h.2).2 2 (by decide))⟩) dX11_spells_121
          · refine lv_iconst (v := 1) zx zb dX11_spells_106 (by decide) ?_
            refine lv_goto (tgt := 111) zx zb dX11_spells_107 (by decide) ?_
            refine lv_istore (lv' := [(8, .int 1), (9, .int 2), (0, .ref m0), (1, .int 5), (2, .int 115), (3, .int 112), (4, .int 101), (5, .int 101), (6, .int 100), (7, .int 0)]) zx zb dX11_spells_111 hl (by decide) rfl (fun ls hl => ?_)
            refine lv_iinc (v := 3) (lv' := [(9, .int 3), (8, .int 1), (0, .ref m0), (1, .int 5), (2, .int 115), (3, .int 112), (4, .int 101), (5, .int 101), (6, .int 100), (7, .int 0)]) zx zb dX11_spells_113 hl (k := 1) rfl (by decide) (by decide) rfl (fun ls hl => ?_)
            refine lv_goto (tgt := 26) zx zb dX11_spells_116 (by decide) ?_
            refine lv_iload zx zb dX11_spells_26 (lv_at hl 0 rfl) ?_
            refine lv_iload_n zx zb dX11_spells_28 rfl (lv_at hl 3 rfl) ?_
            refine lv_icmp_ge (tgt := 119) zx zb dX11_spells_29 (by decide) (fun c_31 => absurd c_31 (by decide)) (fun c_31 => ?_)
            refine lv_iload zx zb dX11_spells_32 (lv_at hl 1 rfl) ?_
            refine lv_if_eq (tgt := 119) zx zb dX11_spells_34 (by decide) (fun c_32 => absurd c_32 (by decide)) (fun c_32 => ?_)
            refine lv_aload_n zx zb dX11_spells_37 rfl (lv_at hl 2 rfl) ?_
            refine r_get (C := RX11) (T := TX11) (N := 18) (ci := 9) (v := .ref (ma 10)) S in_X11_spells_X11 G 0 rfl rfl 10 (by decide) lk_X11_spells_39 rfl dX11_spells_38 ?_
            refine lv_aload_n zx zb dX11_spells_41 rfl (lv_at hl 2 rfl) ?_
            refine r_get (C := RX11) (T := TX11) (N := 18) (ci := 9) (v := .int (nI (t 0))) S in_X11_spells_X11 G 0 rfl rfl 12 (by decide) lk_X11_spells_217 rfl dX11_spells_42 ?_
            refine lv_iload zx zb dX11_spells_45 (lv_at hl 0 rfl) ?_
            refine r_iadd (v := (nI ((t 0) + 3))) S (nI_add (t 0) 3) dX11_spells_47 ?_
            refine r_iald (v := (fd ((t 0) + 3))) S G 1 rfl (vp_in_nI (by omega) (by decide)) (congrArg fd (nI_clamp (by omega))) dX11_spells_48 ?_
            refine lv_iload zx zb dX11_spells_49 (lv_at hl 0 rfl) ?_
            refine lv_if_ne (tgt := 58) zx zb dX11_spells_51 (by decide) (fun c_34 => ?_) (fun c_34 => absurd c_34 (by decide))
            refine lv_iload zx zb dX11_spells_58 (lv_at hl 0 rfl) ?_
            refine lv_iconst (v := 1) zx zb dX11_spells_60 (by decide) ?_
            refine lv_icmp_ne (tgt := 68) zx zb dX11_spells_61 (by decide) (fun c_35 => ?_) (fun c_35 => absurd c_35 (by decide))
            refine lv_iload zx zb dX11_spells_68 (lv_at hl 0 rfl) ?_
            refine lv_iconst (v := 2) zx zb dX11_spells_70 (by decide) ?_
            refine lv_icmp_ne (tgt := 79) zx zb dX11_spells_71 (by decide) (fun c_36 => ?_) (fun c_36 => absurd c_36 (by decide))
            refine lv_iload zx zb dX11_spells_79 (lv_at hl 0 rfl) ?_
            refine lv_iconst (v := 3) zx zb dX11_spells_81 (by decide) ?_
            refine lv_icmp_ne (tgt := 90) zx zb dX11_spells_82 (by decide) (fun c_37 => absurd (by decide) c_37) (fun c_37 => ?_)
            refine lv_iload zx zb dX11_spells_85 (lv_at hl 7 rfl) ?_
            refine lv_goto (tgt := 103) zx zb dX11_spells_87 (by decide) ?_
            refine lv_icmp_ne (tgt := 110) zx zb dX11_spells_103 (by decide) (fun c_38 => ?_) (fun c_38 => ?_)
            · refine lv_iconst (v := 0) zx zb dX11_spells_110 (by decide) ?_
              refine lv_istore (lv' := [(8, .int 0), (9, .int 3), (0, .ref m0), (1, .int 5), (2, .int 115), (3, .int 112), (4, .int 101), (5, .int 101), (6, .int 100), (7, .int 0)]) zx zb dX11_spells_111 hl (by decide) rfl (fun ls hl => ?_)
              refine lv_iinc (v := 4) (lv' := [(9, .int 4), (8, .int 0), (0, .ref m0), (1, .int 5), (2, .int 115), (3, .int 112), (4, .int 101), (5, .int 101), (6, .int 100), (7, .int 0)]) zx zb dX11_spells_113 hl (k := 1) rfl (by decide) (by decide) rfl (fun ls hl => ?_)
              refine lv_goto (tgt := 26) zx zb dX11_spells_116 (by decide) ?_
              refine lv_iload zx zb dX11_spells_26 (lv_at hl 0 rfl) ?_
              refine lv_iload_n zx zb dX11_spells_28 rfl (lv_at hl 3 rfl) ?_
              refine lv_icmp_ge (tgt := 119) zx zb dX11_spells_29 (by decide) (fun c_39 => absurd c_39 (by decide)) (fun c_39 => ?_)
              refine lv_iload zx zb dX11_spells_32 (lv_at hl 1 rfl) ?_
              refine lv_if_eq (tgt := 119) zx zb dX11_spells_34 (by decide) (fun c_40 => ?_) (fun c_40 => absurd (by decide) c_40)
              refine lv_iload zx zb dX11_spells_119 (lv_at hl 1 rfl) ?_
              exact e_int S zr zlk (by decide) G () [] rfl rfl (Or.inl rfl) (Or.inr ⟨rfl, fun h => c_38 (by rw [hK0]; exact (wrdB_t.mp h.2).2 3 (by decide))⟩) dX11_spells_121
            · refine lv_iconst (v := 1) zx zb dX11_spells_106 (by decide) ?_
              refine lv_goto (tgt := 111) zx zb dX11_spells_107 (by decide) ?_
              refine lv_istore (lv' := [(8, .int 1), (9, .int 3), (0, .ref m0), (1, .int 5), (2, .int 115), (3, .int 112), (4, .int 101), (5, .int 101), (6, .int 100), (7, .int 0)]) zx zb dX11_spells_111 hl (by decide) rfl (fun ls hl => ?_)
              refine lv_iinc (v := 4) (lv' := [(9, .int 4), (8, .int 1), (0, .ref m0), (1, .int 5), (2, .int 115), (3, .int 112), (4, .int 101), (5, .int 101), (6, .int 100), (7, .int 0)]) zx zb dX11_spells_113 hl (k := 1) rfl (by decide) (by decide) rfl (fun ls hl => ?_)
              refine lv_goto (tgt := 26) zx zb dX11_spells_116 (by decide) ?_
              refine lv_iload zx zb dX11_spells_26 (lv_at hl 0 rfl) ?_
              refine lv_iload_n zx zb dX11_spells_28 rfl (lv_at hl 3 rfl) ?_
              refine lv_icmp_ge (tgt := 119) zx zb dX11_spells_29 (by decide) (fun c_41 => absurd c_41 (by decide)) (fun c_41 => ?_)
              refine lv_iload zx zb dX11_spells_32 (lv_at hl 1 rfl) ?_
              refine lv_if_eq (tgt := 119) zx zb dX11_spells_34 (by decide) (fun c_42 => absurd c_42 (by decide)) (fun c_42 => ?_)
              refine lv_aload_n zx zb dX11_spells_37 rfl (lv_at hl 2 rfl) ?_
              refine r_get (C := RX11) (T := TX11) (N := 18) (ci := 9) (v := .ref (ma 10)) S in_X11_spells_X11 G 0 rfl rfl 10 (by decide) lk_X11_spells_39 rfl dX11_spells_38 ?_
              refine lv_aload_n zx zb dX11_spells_41 rfl (lv_at hl 2 rfl) ?_
              refine r_get (C := RX11) (T := TX11) (N := 18) (ci := 9) (v := .int (nI (t 0))) S in_X11_spells_X11 G 0 rfl rfl 12 (by decide) lk_X11_spells_217 rfl dX11_spells_42 ?_
              refine lv_iload zx zb dX11_spells_45 (lv_at hl 0 rfl) ?_
              refine r_iadd (v := (nI ((t 0) + 4))) S (nI_add (t 0) 4) dX11_spells_47 ?_
              refine r_iald (v := (fd ((t 0) + 4))) S G 1 rfl (vp_in_nI (by omega) (by decide)) (congrArg fd (nI_clamp (by omega))) dX11_spells_48 ?_
              refine lv_iload zx zb dX11_spells_49 (lv_at hl 0 rfl) ?_
              refine lv_if_ne (tgt := 58) zx zb dX11_spells_51 (by decide) (fun c_44 => ?_) (fun c_44 => absurd c_44 (by decide))
              refine lv_iload zx zb dX11_spells_58 (lv_at hl 0 rfl) ?_
              refine lv_iconst (v := 1) zx zb dX11_spells_60 (by decide) ?_
              refine lv_icmp_ne (tgt := 68) zx zb dX11_spells_61 (by decide) (fun c_45 => ?_) (fun c_45 => absurd c_45 (by decide))
              refine lv_iload zx zb dX11_spells_68 (lv_at hl 0 rfl) ?_
              refine lv_iconst (v := 2) zx zb dX11_spells_70 (by decide) ?_
              refine lv_icmp_ne (tgt := 79) zx zb dX11_spells_71 (by decide) (fun c_46 => ?_) (fun c_46 => absurd c_46 (by decide))
              refine lv_iload zx zb dX11_spells_79 (lv_at hl 0 rfl) ?_
              refine lv_iconst (v := 3) zx zb dX11_spells_81 (by decide) ?_
              refine lv_icmp_ne (tgt := 90) zx zb dX11_spells_82 (by decide) (fun c_47 => ?_) (fun c_47 => absurd c_47 (by decide))
              refine lv_iload zx zb dX11_spells_90 (lv_at hl 0 rfl) ?_
              refine lv_iconst (v := 4) zx zb dX11_spells_92 (by decide) ?_
              refine lv_icmp_ne (tgt := 101) zx zb dX11_spells_93 (by decide) (fun c_48 => absurd (by decide) c_48) (fun c_48 => ?_)
              refine lv_iload zx zb dX11_spells_96 (lv_at hl 8 rfl) ?_
              refine lv_goto (tgt := 103) zx zb dX11_spells_98 (by decide) ?_
              refine lv_icmp_ne (tgt := 110) zx zb dX11_spells_103 (by decide) (fun c_49 => ?_) (fun c_49 => ?_)
              · refine lv_iconst (v := 0) zx zb dX11_spells_110 (by decide) ?_
                refine lv_istore (lv' := [(8, .int 0), (9, .int 4), (0, .ref m0), (1, .int 5), (2, .int 115), (3, .int 112), (4, .int 101), (5, .int 101), (6, .int 100), (7, .int 0)]) zx zb dX11_spells_111 hl (by decide) rfl (fun ls hl => ?_)
                refine lv_iinc (v := 5) (lv' := [(9, .int 5), (8, .int 0), (0, .ref m0), (1, .int 5), (2, .int 115), (3, .int 112), (4, .int 101), (5, .int 101), (6, .int 100), (7, .int 0)]) zx zb dX11_spells_113 hl (k := 1) rfl (by decide) (by decide) rfl (fun ls hl => ?_)
                refine lv_goto (tgt := 26) zx zb dX11_spells_116 (by decide) ?_
                refine lv_iload zx zb dX11_spells_26 (lv_at hl 0 rfl) ?_
                refine lv_iload_n zx zb dX11_spells_28 rfl (lv_at hl 3 rfl) ?_
                refine lv_icmp_ge (tgt := 119) zx zb dX11_spells_29 (by decide) (fun c_50 => ?_) (fun c_50 => absurd (by decide) c_50)
                refine lv_iload zx zb dX11_spells_119 (lv_at hl 1 rfl) ?_
                exact e_int S zr zlk (by decide) G () [] rfl rfl (Or.inl rfl) (Or.inr ⟨rfl, fun h => c_49 (by rw [hK0]; exact (wrdB_t.mp h.2).2 4 (by decide))⟩) dX11_spells_121
              · refine lv_iconst (v := 1) zx zb dX11_spells_106 (by decide) ?_
                refine lv_goto (tgt := 111) zx zb dX11_spells_107 (by decide) ?_
                refine lv_istore (lv' := [(8, .int 1), (9, .int 4), (0, .ref m0), (1, .int 5), (2, .int 115), (3, .int 112), (4, .int 101), (5, .int 101), (6, .int 100), (7, .int 0)]) zx zb dX11_spells_111 hl (by decide) rfl (fun ls hl => ?_)
                refine lv_iinc (v := 5) (lv' := [(9, .int 5), (8, .int 1), (0, .ref m0), (1, .int 5), (2, .int 115), (3, .int 112), (4, .int 101), (5, .int 101), (6, .int 100), (7, .int 0)]) zx zb dX11_spells_113 hl (k := 1) rfl (by decide) (by decide) rfl (fun ls hl => ?_)
                refine lv_goto (tgt := 26) zx zb dX11_spells_116 (by decide) ?_
                refine lv_iload zx zb dX11_spells_26 (lv_at hl 0 rfl) ?_
                refine lv_iload_n zx zb dX11_spells_28 rfl (lv_at hl 3 rfl) ?_
                refine lv_icmp_ge (tgt := 119) zx zb dX11_spells_29 (by decide) (fun c_51 => ?_) (fun c_51 => absurd (by decide) c_51)
                refine lv_iload zx zb dX11_spells_119 (lv_at hl 1 rfl) ?_
                exact e_int S zr zlk (by decide) G () [] rfl rfl (Or.inl rfl) (Or.inl ⟨rfl, hK2.symm.trans c_1, wrdB_t.mpr ⟨(show tE fd n s0 - s0 = 5 from by omega), k_al5 (by rw [← hK0]; exact c_11) (by rw [← hK0]; exact c_19) (by rw [← hK0]; exact c_28) (by rw [← hK0]; exact c_38) (by rw [← hK0]; exact c_49)⟩⟩) dX11_spells_121
set_option maxHeartbeats 4000000 in
set_option maxRecDepth 100000 in
theorem y_spells3 (l : Launch) (X : EX) (m0 : Nat) (ma : Nat → Nat) (la : Int64) (lb : Int64) (n : Nat) (t : Nat → Nat) (v : Nat → Int32) (fd : Nat → Int32) (s0 : Nat) (hI_n : n ≤ 150) (hI_t : InT t) (hK : tkM fd n t v s0) (sz : Nat) : Met l yX11_spells wsX11_spells ({ frames := 0, cells := 0, slots := 0, locals := 0 } : Room) (pE X [.ref m0, .int 5, .int 115, .int 116, .int 97, .int 114, .int 116, .int 0] (@HAppend.hAppend va_W va_W va_W _ (mW m0 ma la lb n t v) ([((ma 10), .inl (X.2.1, 150, .inl fd))])) sz) (qI (fun (r : Int32) (u : Unit) => (r = 1 ∧ tK fd n s0 = 1 ∧ wrdB fd n s0 3 = true) ∨ (r = 0 ∧ ¬ (tK fd n s0 = 1 ∧ wrdB fd n s0 3 = true))) X (fun (u : Unit) => []) [] sz) 0 0 (va_A [] sz) := by
  refine mk_met (B := (fun _ => True)) (A := (va_A [] sz)) (cc := cX11_spells) (maxL := 10) (ret := (some .boolean)) (by decide) rfl (Nat.le_of_ble_eq_true rfl) k_ro k_a (fun p e s m below meth c S zr zlk znm zsz G ls hl => ?_)
  have S : CallFix p m c cX11_spells 10 s _ wsX11_spells RX11 := S
  have zx := S.1
  have zb := S.2.1
  have hl : lv_has ls 10 [(0, .ref m0), (1, .int 5), (2, .int 115), (3, .int 116), (4, .int 97), (5, .int 114), (6, .int 116), (7, .int 0)] := hl
  have hO_t := hI_t
  obtain ⟨ht0_t, ht1_t⟩ := hO_t
  obtain ⟨hK0, hK1, hK2, hK3, hK4⟩ := hK
  have hTe := tE_le (T := fd) (n := n) (s := s0) hK4
  refine lv_aload_n zx zb dX11_spells_0 rfl (lv_at hl 0 rfl) ?_
  refine r_get (C := RX11) (T := TX11) (N := 18) (ci := 9) (v := .int (v 0)) S in_X11_spells_X11 G 0 rfl rfl 14 (by decide) lk_X11_spells_223 rfl dX11_spells_1 ?_
  refine lv_iconst (v := 1) zx zb dX11_spells_4 (by decide) ?_
  refine lv_icmp_ne (tgt := 20) zx zb dX11_spells_5 (by decide) (fun c_1 => ?_) (fun c_1 => ?_)
  · refine lv_iconst (v := 0) zx zb dX11_spells_20 (by decide) ?_
    refine lv_istore (lv' := [(8, .int 0), (0, .ref m0), (1, .int 5), (2, .int 115), (3, .int 116), (4, .int 97), (5, .int 114), (6, .int 116), (7, .int 0)]) zx zb dX11_spells_21 hl (by decide) rfl (fun ls hl => ?_)
    refine lv_iconst (v := 0) zx zb dX11_spells_23 (by decide) ?_
    refine lv_istore (lv' := [(9, .int 0), (8, .int 0), (0, .ref m0), (1, .int 5), (2, .int 115), (3, .int 116), (4, .int 97), (5, .int 114), (6, .int 116), (7, .int 0)]) zx zb dX11_spells_24 hl (by decide) rfl (fun ls hl => ?_)
    refine lv_iload zx zb dX11_spells_26 (lv_at hl 0 rfl) ?_
    refine lv_iload_n zx zb dX11_spells_28 rfl (lv_at hl 3 rfl) ?_
    refine lv_icmp_ge (tgt := 119) zx zb dX11_spells_29 (by decide) (fun c_2 => absurd c_2 (by decide)) (fun c_2 => ?_)
    refine lv_iload zx zb dX11_spells_32 (lv_at hl 1 rfl) ?_
    refine lv_if_eq (tgt := 119) zx zb dX11_spells_34 (by decide) (fun c_3 => ?_) (fun c_3 => absurd (by decide) c_3)
    refine lv_iload zx zb dX11_spells_119 (lv_at hl 1 rfl) ?_
    exact e_int S zr zlk (by decide) G () [] rfl rfl (Or.inl rfl) (Or.inr ⟨rfl, fun h => c_1 (hK2.trans h.1)⟩) dX11_spells_121
  · refine lv_aload_n zx zb dX11_spells_8 rfl (lv_at hl 0 rfl) ?_
    refine r_get (C := RX11) (T := TX11) (N := 18) (ci := 9) (v := .int (nI (t 1))) S in_X11_spells_X11 G 0 rfl rfl 13 (by decide) lk_X11_spells_220 rfl dX11_spells_9 ?_
    refine lv_iload_n zx zb dX11_spells_12 rfl (lv_at hl 1 rfl) ?_
    refine lv_icmp_ne (tgt := 20) zx zb dX11_spells_13 (by decide) (fun c_4 => ?_) (fun c_4 => ?_)
    · have fc_4 := j_ne (a := (t 1)) (b := 5) c_4
      refine lv_iconst (v := 0) zx zb dX11_spells_20 (by decide) ?_
      refine lv_istore (lv' := [(8, .int 0), (0, .ref m0), (1, .int 5), (2, .int 115), (3, .int 116), (4, .int 97), (5, .int 114), (6, .int 116), (7, .int 0)]) zx zb dX11_spells_21 hl (by decide) rfl (fun ls hl => ?_)
      refine lv_iconst (v := 0) zx zb dX11_spells_23 (by decide) ?_
      refine lv_istore (lv' := [(9, .int 0), (8, .int 0), (0, .ref m0), (1, .int 5), (2, .int 115), (3, .int 116), (4, .int 97), (5, .int 114), (6, .int 116), (7, .int 0)]) zx zb dX11_spells_24 hl (by decide) rfl (fun ls hl => ?_)
      refine lv_iload zx zb dX11_spells_26 (lv_at hl 0 rfl) ?_
      refine lv_iload_n zx zb dX11_spells_28 rfl (lv_at hl 3 rfl) ?_
      refine lv_icmp_ge (tgt := 119) zx zb dX11_spells_29 (by decide) (fun c_5 => absurd c_5 (by decide)) (fun c_5 => ?_)
      refine lv_iload zx zb dX11_spells_32 (lv_at hl 1 rfl) ?_
      refine lv_if_eq (tgt := 119) zx zb dX11_spells_34 (by decide) (fun c_6 => ?_) (fun c_6 => absurd (by decide) c_6)
      refine lv_iload zx zb dX11_spells_119 (lv_at hl 1 rfl) ?_
      exact e_int S zr zlk (by decide) G () [] rfl rfl (Or.inl rfl) (Or.inr ⟨rfl, fun h => absurd (wrdB_t.mp h.2).1 (show ¬ tE fd n s0 - s0 = 5 from by omega)⟩) dX11_spells_121
    · have fc_4 := j_eq (a := (t 1)) (b := 5) (by omega) (by omega) c_4
      refine lv_iconst (v := 1) zx zb dX11_spells_16 (by decide) ?_
      refine lv_goto (tgt := 21) zx zb dX11_spells_17 (by decide) ?_
      refine lv_istore (lv' := [(8, .int 1), (0, .ref m0), (1, .int 5), (2, .int 115), (3, .int 116), (4, .int 97), (5, .int 114), (6, .int 116), (7, .int 0)]) zx zb dX11_spells_21 hl (by decide) rfl (fun ls hl => ?_)
      refine lv_iconst (v := 0) zx zb dX11_spells_23 (by decide) ?_
      refine lv_istore (lv' := [(9, .int 0), (8, .int 1), (0, .ref m0), (1, .int 5), (2, .int 115), (3, .int 116), (4, .int 97), (5, .int 114), (6, .int 116), (7, .int 0)]) zx zb dX11_spells_24 hl (by decide) rfl (fun ls hl => ?_)
      refine lv_iload zx zb dX11_spells_26 (lv_at hl 0 rfl) ?_
      refine lv_iload_n zx zb dX11_spells_28 rfl (lv_at hl 3 rfl) ?_
      refine lv_icmp_ge (tgt := 119) zx zb dX11_spells_29 (by decide) (fun c_7 => absurd c_7 (by decide)) (fun c_7 => ?_)
      refine lv_iload zx zb dX11_spells_32 (lv_at hl 1 rfl) ?_
      refine lv_if_eq (tgt := 119) zx zb dX11_spells_34 (by decide) (fun c_8 => absurd c_8 (by decide)) (fun c_8 => ?_)
      refine lv_aload_n zx zb dX11_spells_37 rfl (lv_at hl 2 rfl) ?_
      refine r_get (C := RX11) (T := TX11) (N := 18) (ci := 9) (v := .ref (ma 10)) S in_X11_spells_X11 G 0 rfl rfl 10 (by decide) lk_X11_spells_39 rfl dX11_spells_38 ?_
      refine lv_aload_n zx zb dX11_spells_41 rfl (lv_at hl 2 rfl) ?_
      refine r_get (C := RX11) (T := TX11) (N := 18) (ci := 9) (v := .int (nI (t 0))) S in_X11_spells_X11 G 0 rfl rfl 12 (by decide) lk_X11_spells_217 rfl dX11_spells_42 ?_
      refine lv_iload zx zb dX11_spells_45 (lv_at hl 0 rfl) ?_
      refine r_iadd (v := (nI ((t 0) + 0))) S (nI_add (t 0) 0) dX11_spells_47 ?_
      refine r_iald (v := (fd ((t 0) + 0))) S G 1 rfl (vp_in_nI (by omega) (by decide)) (congrArg fd (nI_clamp (by omega))) dX11_spells_48 ?_
      refine lv_iload zx zb dX11_spells_49 (lv_at hl 0 rfl) ?_
      refine lv_if_ne (tgt := 58) zx zb dX11_spells_51 (by decide) (fun c_10 => absurd (by decide) c_10) (fun c_10 => ?_)
      refine lv_iload_n zx zb dX11_spells_54 rfl (lv_at hl 4 rfl) ?_
      refine lv_goto (tgt := 103) zx zb dX11_spells_55 (by decide) ?_
      refine lv_icmp_ne (tgt := 110) zx zb dX11_spells_103 (by decide) (fun c_11 => ?_) (fun c_11 => ?_)
      · refine lv_iconst (v := 0) zx zb dX11_spells_110 (by decide) ?_
        refine lv_istore (lv' := [(8, .int 0), (9, .int 0), (0, .ref m0), (1, .int 5), (2, .int 115), (3, .int 116), (4, .int 97), (5, .int 114), (6, .int 116), (7, .int 0)]) zx zb dX11_spells_111 hl (by decide) rfl (fun ls hl => ?_)
        refine lv_iinc (v := 1) (lv' := [(9, .int 1), (8, .int 0), (0, .ref m0), (1, .int 5), (2, .int 115), (3, .int 116), (4, .int 97), (5, .int 114), (6, .int 116), (7, .int 0)]) zx zb dX11_spells_113 hl (k := 1) rfl (by decide) (by decide) rfl (fun ls hl => ?_)
        refine lv_goto (tgt := 26) zx zb dX11_spells_116 (by decide) ?_
        refine lv_iload zx zb dX11_spells_26 (lv_at hl 0 rfl) ?_
        refine lv_iload_n zx zb dX11_spells_28 rfl (lv_at hl 3 rfl) ?_
        refine lv_icmp_ge (tgt := 119) zx zb dX11_spells_29 (by decide) (fun c_12 => absurd c_12 (by decide)) (fun c_12 => ?_)
        refine lv_iload zx zb dX11_spells_32 (lv_at hl 1 rfl) ?_
        refine lv_if_eq (tgt := 119) zx zb dX11_spells_34 (by decide) (fun c_13 => ?_) (fun c_13 => absurd (by decide) c_13)
        refine lv_iload zx zb dX11_spells_119 (lv_at hl 1 rfl) ?_
        exact e_int S zr zlk (by decide) G () [] rfl rfl (Or.inl rfl) (Or.inr ⟨rfl, fun h => c_11 (by rw [hK0]; exact (wrdB_t.mp h.2).2 0 (by decide))⟩) dX11_spells_121
      · refine lv_iconst (v := 1) zx zb dX11_spells_106 (by decide) ?_
        refine lv_goto (tgt := 111) zx zb dX11_spells_107 (by decide) ?_
        refine lv_istore (lv' := [(8, .int 1), (9, .int 0), (0, .ref m0), (1, .int 5), (2, .int 115), (3, .int 116), (4, .int 97), (5, .int 114), (6, .int 116), (7, .int 0)]) zx zb dX11_spells_111 hl (by decide) rfl (fun ls hl => ?_)
        refine lv_iinc (v := 1) (lv' := [(9, .int 1), (8, .int 1), (0, .ref m0), (1, .int 5), (2, .int 115), (3, .int 116), (4, .int 97), (5, .int 114), (6, .int 116), (7, .int 0)]) zx zb dX11_spells_113 hl (k := 1) rfl (by decide) (by decide) rfl (fun ls hl => ?_)
        refine lv_goto (tgt := 26) zx zb dX11_spells_116 (by decide) ?_
        refine lv_iload zx zb dX11_spells_26 (lv_at hl 0 rfl) ?_
        refine lv_iload_n zx zb dX11_spells_28 rfl (lv_at hl 3 rfl) ?_
        refine lv_icmp_ge (tgt := 119) zx zb dX11_spells_29 (by decide) (fun c_14 => absurd c_14 (by decide)) (fun c_14 => ?_)
        refine lv_iload zx zb dX11_spells_32 (lv_at hl 1 rfl) ?_
        refine lv_if_eq (tgt := 119) zx zb dX11_spells_34 (by decide) (fun c_15 => absurd c_15 (by decide)) (fun c_15 => ?_)
        refine lv_aload_n zx zb dX11_spells_37 rfl (lv_at hl 2 rfl) ?_
        refine r_get (C := RX11) (T := TX11) (N := 18) (ci := 9) (v := .ref (ma 10)) S in_X11_spells_X11 G 0 rfl rfl 10 (by decide) lk_X11_spells_39 rfl dX11_spells_38 ?_
        refine lv_aload_n zx zb dX11_spells_41 rfl (lv_at hl 2 rfl) ?_
        refine r_get (C := RX11) (T := TX11) (N := 18) (ci := 9) (v := .int (nI (t 0))) S in_X11_spells_X11 G 0 rfl rfl 12 (by decide) lk_X11_spells_217 rfl dX11_spells_42 ?_
        refine lv_iload zx zb dX11_spells_45 (lv_at hl 0 rfl) ?_
        refine r_iadd (v := (nI ((t 0) + 1))) S (nI_add (t 0) 1) dX11_spells_47 ?_
        refine r_iald (v := (fd ((t 0) + 1))) S G 1 rfl (vp_in_nI (by omega) (by decide)) (congrArg fd (nI_clamp (by omega))) dX11_spells_48 ?_
        refine lv_iload zx zb dX11_spells_49 (lv_at hl 0 rfl) ?_
        refine lv_if_ne (tgt := 58) zx zb dX11_spells_51 (by decide) (fun c_17 => ?_) (fun c_17 => absurd c_17 (by decide))
        refine lv_iload zx zb dX11_spells_58 (lv_at hl 0 rfl) ?_
        refine lv_iconst (v := 1) zx zb dX11_spells_60 (by decide) ?_
        refine lv_icmp_ne (tgt := 68) zx zb dX11_spells_61 (by decide) (fun c_18 => absurd (by decide) c_18) (fun c_18 => ?_)
        refine lv_iload_n zx zb dX11_spells_64 rfl (lv_at hl 5 rfl) ?_
        refine lv_goto (tgt := 103) zx zb dX11_spells_65 (by decide) ?_
        refine lv_icmp_ne (tgt := 110) zx zb dX11_spells_103 (by decide) (fun c_19 => ?_) (fun c_19 => ?_)
        · refine lv_iconst (v := 0) zx zb dX11_spells_110 (by decide) ?_
          refine lv_istore (lv' := [(8, .int 0), (9, .int 1), (0, .ref m0), (1, .int 5), (2, .int 115), (3, .int 116), (4, .int 97), (5, .int 114), (6, .int 116), (7, .int 0)]) zx zb dX11_spells_111 hl (by decide) rfl (fun ls hl => ?_)
          refine lv_iinc (v := 2) (lv' := [(9, .int 2), (8, .int 0), (0, .ref m0), (1, .int 5), (2, .int 115), (3, .int 116), (4, .int 97), (5, .int 114), (6, .int 116), (7, .int 0)]) zx zb dX11_spells_113 hl (k := 1) rfl (by decide) (by decide) rfl (fun ls hl => ?_)
          refine lv_goto (tgt := 26) zx zb dX11_spells_116 (by decide) ?_
          refine lv_iload zx zb dX11_spells_26 (lv_at hl 0 rfl) ?_
          refine lv_iload_n zx zb dX11_spells_28 rfl (lv_at hl 3 rfl) ?_
          refine lv_icmp_ge (tgt := 119) zx zb dX11_spells_29 (by decide) (fun c_20 => absurd c_20 (by decide)) (fun c_20 => ?_)
          refine lv_iload zx zb dX11_spells_32 (lv_at hl 1 rfl) ?_
          refine lv_if_eq (tgt := 119) zx zb dX11_spells_34 (by decide) (fun c_21 => ?_) (fun c_21 => absurd (by decide) c_21)
          refine lv_iload zx zb dX11_spells_119 (lv_at hl 1 rfl) ?_
          exact e_int S zr zlk (by decide) G () [] rfl rfl (Or.inl rfl) (Or.inr ⟨rfl, fun h => c_19 (by rw [hK0]; exact (wrdB_t.mp h.2).2 1 (by decide))⟩) dX11_spells_121
        · refine lv_iconst (v := 1) zx zb dX11_spells_106 (by decide) ?_
          refine lv_goto (tgt := 111) zx zb dX11_spells_107 (by decide) ?_
          refine lv_istore (lv' := [(8, .int 1), (9, .int 1), (0, .ref m0), (1, .int 5), (2, .int 115), (3, .int 116), (4, .int 97), (5, .int 114), (6, .int 116), (7, .int 0)]) zx zb dX11_spells_111 hl (by decide) rfl (fun ls hl => ?_)
          refine lv_iinc (v := 2) (lv' := [(9, .int 2), (8, .int 1), (0, .ref m0), (1, .int 5), (2, .int 115), (3, .int 116), (4, .int 97), (5, .int 114), (6, .int 116), (7, .int 0)]) zx zb dX11_spells_113 hl (k := 1) rfl (by decide) (by decide) rfl (fun ls hl => ?_)
          refine lv_goto (tgt := 26) zx zb dX11_spells_116 (by decide) ?_
          refine lv_iload zx zb dX11_spells_26 (lv_at hl 0 rfl) ?_
          refine lv_iload_n zx zb dX11_spells_28 rfl (lv_at hl 3 rfl) ?_
          refine lv_icmp_ge (tgt := 119) zx zb dX11_spells_29 (by decide) (fun c_22 => absurd c_22 (by decide)) (fun c_22 => ?_)
          refine lv_iload zx zb dX11_spells_32 (lv_at hl 1 rfl) ?_
          refine lv_if_eq (tgt := 119) zx zb dX11_spells_34 (by decide) (fun c_23 => absurd c_23 (by decide)) (fun c_23 => ?_)
          refine lv_aload_n zx zb dX11_spells_37 rfl (lv_at hl 2 rfl) ?_
          refine r_get (C := RX11) (T := TX11) (N := 18) (ci := 9) (v := .ref (ma 10)) S in_X11_spells_X11 G 0 rfl rfl 10 (by decide) lk_X11_spells_39 rfl dX11_spells_38 ?_
          refine lv_aload_n zx zb dX11_spells_41 rfl (lv_at hl 2 rfl) ?_
          refine r_get (C := RX11) (T := TX11) (N := 18) (ci := 9) (v := .int (nI (t 0))) S in_X11_spells_X11 G 0 rfl rfl 12 (by decide) lk_X11_spells_217 rfl dX11_spells_42 ?_
          refine lv_iload zx zb dX11_spells_45 (lv_at hl 0 rfl) ?_
          refine r_iadd (v := (nI ((t 0) + 2))) S (nI_add (t 0) 2) dX11_spells_47 ?_
          refine r_iald (v := (fd ((t 0) + 2))) S G 1 rfl (vp_in_nI (by omega) (by decide)) (congrArg fd (nI_clamp (by omega))) dX11_spells_48 ?_
          refine lv_iload zx zb dX11_spells_49 (lv_at hl 0 rfl) ?_
          refine lv_if_ne (tgt := 58) zx zb dX11_spells_51 (by decide) (fun c_25 => ?_) (fun c_25 => absurd c_25 (by decide))
          refine lv_iload zx zb dX11_spells_58 (lv_at hl 0 rfl) ?_
          refine lv_iconst (v := 1) zx zb dX11_spells_60 (by decide) ?_
          refine lv_icmp_ne (tgt := 68) zx zb dX11_spells_61 (by decide) (fun c_26 => ?_) (fun c_26 => absurd c_26 (by decide))
          refine lv_iload zx zb dX11_spells_68 (lv_at hl 0 rfl) ?_
          refine lv_iconst (v := 2) zx zb dX11_spells_70 (by decide) ?_
          refine lv_icmp_ne (tgt := 79) zx zb dX11_spells_71 (by decide) (fun c_27 => absurd (by decide) c_27) (fun c_27 => ?_)
          refine lv_iload zx zb dX11_spells_74 (lv_at hl 6 rfl) ?_
          refine lv_goto (tgt := 103) zx zb dX11_spells_76 (by decide) ?_
          refine lv_icmp_ne (tgt := 110) zx zb dX11_spells_103 (by decide) (fun c_28 => ?_) (fun c_28 => ?_)
          · refine lv_iconst (v := 0) zx zb dX11_spells_110 (by decide) ?_
            refine lv_istore (lv' := [(8, .int 0), (9, .int 2), (0, .ref m0), (1, .int 5), (2, .int 115), (3, .int 116), (4, .int 97), (5, .int 114), (6, .int 116), (7, .int 0)]) zx zb dX11_spells_111 hl (by decide) rfl (fun ls hl => ?_)
            refine lv_iinc (v := 3) (lv' := [(9, .int 3), (8, .int 0), (0, .ref m0), (1, .int 5), (2, .int 115), (3, .int 116), (4, .int 97), (5, .int 114), (6, .int 116), (7, .int 0)]) zx zb dX11_spells_113 hl (k := 1) rfl (by decide) (by decide) rfl (fun ls hl => ?_)
            refine lv_goto (tgt := 26) zx zb dX11_spells_116 (by decide) ?_
            refine lv_iload zx zb dX11_spells_26 (lv_at hl 0 rfl) ?_
            refine lv_iload_n zx zb dX11_spells_28 rfl (lv_at hl 3 rfl) ?_
            refine lv_icmp_ge (tgt := 119) zx zb dX11_spells_29 (by decide) (fun c_29 => absurd c_29 (by decide)) (fun c_29 => ?_)
            refine lv_iload zx zb dX11_spells_32 (lv_at hl 1 rfl) ?_
            refine lv_if_eq (tgt := 119) zx zb dX11_spells_34 (by decide) (fun c_30 => ?_) (fun c_30 => absurd (by decide) c_30)
            refine lv_iload zx zb dX11_spells_119 (lv_at hl 1 rfl) ?_
            exact e_int S zr zlk (by decide) G () [] rfl rfl (Or.inl rfl) (Or.inr ⟨rfl, fun h => c_28 (by rw [hK0]; exact (wrdB_t.mp h.2).2 2 (by decide))⟩) dX11_spells_121
          · refine lv_iconst (v := 1) zx zb dX11_spells_106 (by decide) ?_
            refine lv_goto (tgt := 111) zx zb dX11_spells_107 (by decide) ?_
            refine lv_istore (lv' := [(8, .int 1), (9, .int 2), (0, .ref m0), (1, .int 5), (2, .int 115), (3, .int 116), (4, .int 97), (5, .int 114), (6, .int 116), (7, .int 0)]) zx zb dX11_spells_111 hl (by decide) rfl (fun ls hl => ?_)
            refine lv_iinc (v := 3) (lv' := [(9, .int 3), (8, .int 1), (0, .ref m0), (1, .int 5), (2, .int 115), (3, .int 116), (4, .int 97), (5, .int 114), (6, .int 116), (7, .int 0)]) zx zb dX11_spells_113 hl (k := 1) rfl (by decide) (by decide) rfl (fun ls hl => ?_)
            refine lv_goto (tgt := 26) zx zb dX11_spells_116 (by decide) ?_
            refine lv_iload zx zb dX11_spells_26 (lv_at hl 0 rfl) ?_
            refine lv_iload_n zx zb dX11_spells_28 rfl (lv_at hl 3 rfl) ?_
            refine lv_icmp_ge (tgt := 119) zx zb dX11_spells_29 (by decide) (fun c_31 => absurd c_31 (by decide)) (fun c_31 => ?_)
            refine lv_iload zx zb dX11_spells_32 (lv_at hl 1 rfl) ?_
            refine lv_if_eq (tgt := 119) zx zb dX11_spells_34 (by decide) (fun c_32 => absurd c_32 (by decide)) (fun c_32 => ?_)
            refine lv_aload_n zx zb dX11_spells_37 rfl (lv_at hl 2 rfl) ?_
            refine r_get (C := RX11) (T := TX11) (N := 18) (ci := 9) (v := .ref (ma 10)) S in_X11_spells_X11 G 0 rfl rfl 10 (by decide) lk_X11_spells_39 rfl dX11_spells_38 ?_
            refine lv_aload_n zx zb dX11_spells_41 rfl (lv_at hl 2 rfl) ?_
            refine r_get (C := RX11) (T := TX11) (N := 18) (ci := 9) (v := .int (nI (t 0))) S in_X11_spells_X11 G 0 rfl rfl 12 (by decide) lk_X11_spells_217 rfl dX11_spells_42 ?_
            refine lv_iload zx zb dX11_spells_45 (lv_at hl 0 rfl) ?_
            refine r_iadd (v := (nI ((t 0) + 3))) S (nI_add (t 0) 3) dX11_spells_47 ?_
            refine r_iald (v := (fd ((t 0) + 3))) S G 1 rfl (vp_in_nI (by omega) (by decide)) (congrArg fd (nI_clamp (by omega))) dX11_spells_48 ?_
            refine lv_iload zx zb dX11_spells_49 (lv_at hl 0 rfl) ?_
            refine lv_if_ne (tgt := 58) zx zb dX11_spells_51 (by decide) (fun c_34 => ?_) (fun c_34 => absurd c_34 (by decide))
            refine lv_iload zx zb dX11_spells_58 (lv_at hl 0 rfl) ?_
            refine lv_iconst (v := 1) zx zb dX11_spells_60 (by decide) ?_
            refine lv_icmp_ne (tgt := 68) zx zb dX11_spells_61 (by decide) (fun c_35 => ?_) (fun c_35 => absurd c_35 (by decide))
            refine lv_iload zx zb dX11_spells_68 (lv_at hl 0 rfl) ?_
            refine lv_iconst (v := 2) zx zb dX11_spells_70 (by decide) ?_
            refine lv_icmp_ne (tgt := 79) zx zb dX11_spells_71 (by decide) (fun c_36 => ?_) (fun c_36 => absurd c_36 (by decide))
            refine lv_iload zx zb dX11_spells_79 (lv_at hl 0 rfl) ?_
            refine lv_iconst (v := 3) zx zb dX11_spells_81 (by decide) ?_
            refine lv_icmp_ne (tgt := 90) zx zb dX11_spells_82 (by decide) (fun c_37 => absurd (by decide) c_37) (fun c_37 => ?_)
            refine lv_iload zx zb dX11_spells_85 (lv_at hl 7 rfl) ?_
            refine lv_goto (tgt := 103) zx zb dX11_spells_87 (by decide) ?_
            refine lv_icmp_ne (tgt := 110) zx zb dX11_spells_103 (by decide) (fun c_38 => ?_) (fun c_38 => ?_)
            · refine lv_iconst (v := 0) zx zb dX11_spells_110 (by decide) ?_
              refine lv_istore (lv' := [(8, .int 0), (9, .int 3), (0, .ref m0), (1, .int 5), (2, .int 115), (3, .int 116), (4, .int 97), (5, .int 114), (6, .int 116), (7, .int 0)]) zx zb dX11_spells_111 hl (by decide) rfl (fun ls hl => ?_)
              refine lv_iinc (v := 4) (lv' := [(9, .int 4), (8, .int 0), (0, .ref m0), (1, .int 5), (2, .int 115), (3, .int 116), (4, .int 97), (5, .int 114), (6, .int 116), (7, .int 0)]) zx zb dX11_spells_113 hl (k := 1) rfl (by decide) (by decide) rfl (fun ls hl => ?_)
              refine lv_goto (tgt := 26) zx zb dX11_spells_116 (by decide) ?_
              refine lv_iload zx zb dX11_spells_26 (lv_at hl 0 rfl) ?_
              refine lv_iload_n zx zb dX11_spells_28 rfl (lv_at hl 3 rfl) ?_
              refine lv_icmp_ge (tgt := 119) zx zb dX11_spells_29 (by decide) (fun c_39 => absurd c_39 (by decide)) (fun c_39 => ?_)
              refine lv_iload zx zb dX11_spells_32 (lv_at hl 1 rfl) ?_
              refine lv_if_eq (tgt := 119) zx zb dX11_spells_34 (by decide) (fun c_40 => ?_) (fun c_40 => absurd (by decide) c_40)
              refine lv_iload zx zb dX11_spells_119 (lv_at hl 1 rfl) ?_
              exact e_int S zr zlk (by decide) G () [] rfl rfl (Or.inl rfl) (Or.inr ⟨rfl, fun h => c_38 (by rw [hK0]; exact (wrdB_t.mp h.2).2 3 (by decide))⟩) dX11_spells_121
            · refine lv_iconst (v := 1) zx zb dX11_spells_106 (by decide) ?_
              refine lv_goto (tgt := 111) zx zb dX11_spells_107 (by decide) ?_
              refine lv_istore (lv' := [(8, .int 1), (9, .int 3), (0, .ref m0), (1, .int 5), (2, .int 115), (3, .int 116), (4, .int 97), (5, .int 114), (6, .int 116), (7, .int 0)]) zx zb dX11_spells_111 hl (by decide) rfl (fun ls hl => ?_)
              refine lv_iinc (v := 4) (lv' := [(9, .int 4), (8, .int 1), (0, .ref m0), (1, .int 5), (2, .int 115), (3, .int 116), (4, .int 97), (5, .int 114), (6, .int 116), (7, .int 0)]) zx zb dX11_spells_113 hl (k := 1) rfl (by decide) (by decide) rfl (fun ls hl => ?_)
              refine lv_goto (tgt := 26) zx zb dX11_spells_116 (by decide) ?_
              refine lv_iload zx zb dX11_spells_26 (lv_at hl 0 rfl) ?_
              refine lv_iload_n zx zb dX11_spells_28 rfl (lv_at hl 3 rfl) ?_
              refine lv_icmp_ge (tgt := 119) zx zb dX11_spells_29 (by decide) (fun c_41 => absurd c_41 (by decide)) (fun c_41 => ?_)
              refine lv_iload zx zb dX11_spells_32 (lv_at hl 1 rfl) ?_
              refine lv_if_eq (tgt := 119) zx zb dX11_spells_34 (by decide) (fun c_42 => absurd c_42 (by decide)) (fun c_42 => ?_)
              refine lv_aload_n zx zb dX11_spells_37 rfl (lv_at hl 2 rfl) ?_
              refine r_get (C := RX11) (T := TX11) (N := 18) (ci := 9) (v := .ref (ma 10)) S in_X11_spells_X11 G 0 rfl rfl 10 (by decide) lk_X11_spells_39 rfl dX11_spells_38 ?_
              refine lv_aload_n zx zb dX11_spells_41 rfl (lv_at hl 2 rfl) ?_
              refine r_get (C := RX11) (T := TX11) (N := 18) (ci := 9) (v := .int (nI (t 0))) S in_X11_spells_X11 G 0 rfl rfl 12 (by decide) lk_X11_spells_217 rfl dX11_spells_42 ?_
              refine lv_iload zx zb dX11_spells_45 (lv_at hl 0 rfl) ?_
              refine r_iadd (v := (nI ((t 0) + 4))) S (nI_add (t 0) 4) dX11_spells_47 ?_
              refine r_iald (v := (fd ((t 0) + 4))) S G 1 rfl (vp_in_nI (by omega) (by decide)) (congrArg fd (nI_clamp (by omega))) dX11_spells_48 ?_
              refine lv_iload zx zb dX11_spells_49 (lv_at hl 0 rfl) ?_
              refine lv_if_ne (tgt := 58) zx zb dX11_spells_51 (by decide) (fun c_44 => ?_) (fun c_44 => absurd c_44 (by decide))
              refine lv_iload zx zb dX11_spells_58 (lv_at hl 0 rfl) ?_
              refine lv_iconst (v := 1) zx zb dX11_spells_60 (by decide) ?_
              refine lv_icmp_ne (tgt := 68) zx zb dX11_spells_61 (by decide) (fun c_45 => ?_) (fun c_45 => absurd c_45 (by decide))
              refine lv_iload zx zb dX11_spells_68 (lv_at hl 0 rfl) ?_
              refine lv_iconst (v := 2) zx zb dX11_spells_70 (by decide) ?_
              refine lv_icmp_ne (tgt := 79) zx zb dX11_spells_71 (by decide) (fun c_46 => ?_) (fun c_46 => absurd c_46 (by decide))
              refine lv_iload zx zb dX11_spells_79 (lv_at hl 0 rfl) ?_
              refine lv_iconst (v := 3) zx zb dX11_spells_81 (by decide) ?_
              refine lv_icmp_ne (tgt := 90) zx zb dX11_spells_82 (by decide) (fun c_47 => ?_) (fun c_47 => absurd c_47 (by decide))
              refine lv_iload zx zb dX11_spells_90 (lv_at hl 0 rfl) ?_
              refine lv_iconst (v := 4) zx zb dX11_spells_92 (by decide) ?_
              refine lv_icmp_ne (tgt := 101) zx zb dX11_spells_93 (by decide) (fun c_48 => absurd (by decide) c_48) (fun c_48 => ?_)
              refine lv_iload zx zb dX11_spells_96 (lv_at hl 8 rfl) ?_
              refine lv_goto (tgt := 103) zx zb dX11_spells_98 (by decide) ?_
              refine lv_icmp_ne (tgt := 110) zx zb dX11_spells_103 (by decide) (fun c_49 => ?_) (fun c_49 => ?_)
              · refine lv_iconst (v := 0) zx zb dX11_spells_110 (by decide) ?_
                refine lv_istore (lv' := [(8, .int 0), (9, .int 4), (0, .ref m0), (1, .int 5), (2, .int 115), (3, .int 116), (4, .int 97), (5, .int 114), (6, .int 116), (7, .int 0)]) zx zb dX11_spells_111 hl (by decide) rfl (fun ls hl => ?_)
                refine lv_iinc (v := 5) (lv' := [(9, .int 5), (8, .int 0), (0, .ref m0), (1, .int 5), (2, .int 115), (3, .int 116), (4, .int 97), (5, .int 114), (6, .int 116), (7, .int 0)]) zx zb dX11_spells_113 hl (k := 1) rfl (by decide) (by decide) rfl (fun ls hl => ?_)
                refine lv_goto (tgt := 26) zx zb dX11_spells_116 (by decide) ?_
                refine lv_iload zx zb dX11_spells_26 (lv_at hl 0 rfl) ?_
                refine lv_iload_n zx zb dX11_spells_28 rfl (lv_at hl 3 rfl) ?_
                refine lv_icmp_ge (tgt := 119) zx zb dX11_spells_29 (by decide) (fun c_50 => ?_) (fun c_50 => absurd (by decide) c_50)
                refine lv_iload zx zb dX11_spells_119 (lv_at hl 1 rfl) ?_
                exact e_int S zr zlk (by decide) G () [] rfl rfl (Or.inl rfl) (Or.inr ⟨rfl, fun h => c_49 (by rw [hK0]; exact (wrdB_t.mp h.2).2 4 (by decide))⟩) dX11_spells_121
              · refine lv_iconst (v := 1) zx zb dX11_spells_106 (by decide) ?_
                refine lv_goto (tgt := 111) zx zb dX11_spells_107 (by decide) ?_
                refine lv_istore (lv' := [(8, .int 1), (9, .int 4), (0, .ref m0), (1, .int 5), (2, .int 115), (3, .int 116), (4, .int 97), (5, .int 114), (6, .int 116), (7, .int 0)]) zx zb dX11_spells_111 hl (by decide) rfl (fun ls hl => ?_)
                refine lv_iinc (v := 5) (lv' := [(9, .int 5), (8, .int 1), (0, .ref m0), (1, .int 5), (2, .int 115), (3, .int 116), (4, .int 97), (5, .int 114), (6, .int 116), (7, .int 0)]) zx zb dX11_spells_113 hl (k := 1) rfl (by decide) (by decide) rfl (fun ls hl => ?_)
                refine lv_goto (tgt := 26) zx zb dX11_spells_116 (by decide) ?_
                refine lv_iload zx zb dX11_spells_26 (lv_at hl 0 rfl) ?_
                refine lv_iload_n zx zb dX11_spells_28 rfl (lv_at hl 3 rfl) ?_
                refine lv_icmp_ge (tgt := 119) zx zb dX11_spells_29 (by decide) (fun c_51 => ?_) (fun c_51 => absurd (by decide) c_51)
                refine lv_iload zx zb dX11_spells_119 (lv_at hl 1 rfl) ?_
                exact e_int S zr zlk (by decide) G () [] rfl rfl (Or.inl rfl) (Or.inl ⟨rfl, hK2.symm.trans c_1, wrdB_t.mpr ⟨(show tE fd n s0 - s0 = 5 from by omega), k_al5 (by rw [← hK0]; exact c_11) (by rw [← hK0]; exact c_19) (by rw [← hK0]; exact c_28) (by rw [← hK0]; exact c_38) (by rw [← hK0]; exact c_49)⟩⟩) dX11_spells_121
set_option maxHeartbeats 4000000 in
set_option maxRecDepth 100000 in
theorem y_spells4 (l : Launch) (X : EX) (m0 : Nat) (ma : Nat → Nat) (la : Int64) (lb : Int64) (n : Nat) (t : Nat → Nat) (v : Nat → Int32) (fd : Nat → Int32) (s0 : Nat) (hI_n : n ≤ 150) (hI_t : InT t) (hK : tkM fd n t v s0) (sz : Nat) : Met l yX11_spells wsX11_spells ({ frames := 0, cells := 0, slots := 0, locals := 0 } : Room) (pE X [.ref m0, .int 2, .int 103, .int 111, .int 0, .int 0, .int 0, .int 0] (@HAppend.hAppend va_W va_W va_W _ (mW m0 ma la lb n t v) ([((ma 10), .inl (X.2.1, 150, .inl fd))])) sz) (qI (fun (r : Int32) (u : Unit) => (r = 1 ∧ tK fd n s0 = 1 ∧ wrdB fd n s0 4 = true) ∨ (r = 0 ∧ ¬ (tK fd n s0 = 1 ∧ wrdB fd n s0 4 = true))) X (fun (u : Unit) => []) [] sz) 0 0 (va_A [] sz) := by
  refine mk_met (B := (fun _ => True)) (A := (va_A [] sz)) (cc := cX11_spells) (maxL := 10) (ret := (some .boolean)) (by decide) rfl (Nat.le_of_ble_eq_true rfl) k_ro k_a (fun p e s m below meth c S zr zlk znm zsz G ls hl => ?_)
  have S : CallFix p m c cX11_spells 10 s _ wsX11_spells RX11 := S
  have zx := S.1
  have zb := S.2.1
  have hl : lv_has ls 10 [(0, .ref m0), (1, .int 2), (2, .int 103), (3, .int 111), (4, .int 0), (5, .int 0), (6, .int 0), (7, .int 0)] := hl
  have hO_t := hI_t
  obtain ⟨ht0_t, ht1_t⟩ := hO_t
  obtain ⟨hK0, hK1, hK2, hK3, hK4⟩ := hK
  have hTe := tE_le (T := fd) (n := n) (s := s0) hK4
  refine lv_aload_n zx zb dX11_spells_0 rfl (lv_at hl 0 rfl) ?_
  refine r_get (C := RX11) (T := TX11) (N := 18) (ci := 9) (v := .int (v 0)) S in_X11_spells_X11 G 0 rfl rfl 14 (by decide) lk_X11_spells_223 rfl dX11_spells_1 ?_
  refine lv_iconst (v := 1) zx zb dX11_spells_4 (by decide) ?_
  refine lv_icmp_ne (tgt := 20) zx zb dX11_spells_5 (by decide) (fun c_1 => ?_) (fun c_1 => ?_)
  · refine lv_iconst (v := 0) zx zb dX11_spells_20 (by decide) ?_
    refine lv_istore (lv' := [(8, .int 0), (0, .ref m0), (1, .int 2), (2, .int 103), (3, .int 111), (4, .int 0), (5, .int 0), (6, .int 0), (7, .int 0)]) zx zb dX11_spells_21 hl (by decide) rfl (fun ls hl => ?_)
    refine lv_iconst (v := 0) zx zb dX11_spells_23 (by decide) ?_
    refine lv_istore (lv' := [(9, .int 0), (8, .int 0), (0, .ref m0), (1, .int 2), (2, .int 103), (3, .int 111), (4, .int 0), (5, .int 0), (6, .int 0), (7, .int 0)]) zx zb dX11_spells_24 hl (by decide) rfl (fun ls hl => ?_)
    refine lv_iload zx zb dX11_spells_26 (lv_at hl 0 rfl) ?_
    refine lv_iload_n zx zb dX11_spells_28 rfl (lv_at hl 3 rfl) ?_
    refine lv_icmp_ge (tgt := 119) zx zb dX11_spells_29 (by decide) (fun c_2 => absurd c_2 (by decide)) (fun c_2 => ?_)
    refine lv_iload zx zb dX11_spells_32 (lv_at hl 1 rfl) ?_
    refine lv_if_eq (tgt := 119) zx zb dX11_spells_34 (by decide) (fun c_3 => ?_) (fun c_3 => absurd (by decide) c_3)
    refine lv_iload zx zb dX11_spells_119 (lv_at hl 1 rfl) ?_
    exact e_int S zr zlk (by decide) G () [] rfl rfl (Or.inl rfl) (Or.inr ⟨rfl, fun h => c_1 (hK2.trans h.1)⟩) dX11_spells_121
  · refine lv_aload_n zx zb dX11_spells_8 rfl (lv_at hl 0 rfl) ?_
    refine r_get (C := RX11) (T := TX11) (N := 18) (ci := 9) (v := .int (nI (t 1))) S in_X11_spells_X11 G 0 rfl rfl 13 (by decide) lk_X11_spells_220 rfl dX11_spells_9 ?_
    refine lv_iload_n zx zb dX11_spells_12 rfl (lv_at hl 1 rfl) ?_
    refine lv_icmp_ne (tgt := 20) zx zb dX11_spells_13 (by decide) (fun c_4 => ?_) (fun c_4 => ?_)
    · have fc_4 := j_ne (a := (t 1)) (b := 2) c_4
      refine lv_iconst (v := 0) zx zb dX11_spells_20 (by decide) ?_
      refine lv_istore (lv' := [(8, .int 0), (0, .ref m0), (1, .int 2), (2, .int 103), (3, .int 111), (4, .int 0), (5, .int 0), (6, .int 0), (7, .int 0)]) zx zb dX11_spells_21 hl (by decide) rfl (fun ls hl => ?_)
      refine lv_iconst (v := 0) zx zb dX11_spells_23 (by decide) ?_
      refine lv_istore (lv' := [(9, .int 0), (8, .int 0), (0, .ref m0), (1, .int 2), (2, .int 103), (3, .int 111), (4, .int 0), (5, .int 0), (6, .int 0), (7, .int 0)]) zx zb dX11_spells_24 hl (by decide) rfl (fun ls hl => ?_)
      refine lv_iload zx zb dX11_spells_26 (lv_at hl 0 rfl) ?_
      refine lv_iload_n zx zb dX11_spells_28 rfl (lv_at hl 3 rfl) ?_
      refine lv_icmp_ge (tgt := 119) zx zb dX11_spells_29 (by decide) (fun c_5 => absurd c_5 (by decide)) (fun c_5 => ?_)
      refine lv_iload zx zb dX11_spells_32 (lv_at hl 1 rfl) ?_
      refine lv_if_eq (tgt := 119) zx zb dX11_spells_34 (by decide) (fun c_6 => ?_) (fun c_6 => absurd (by decide) c_6)
      refine lv_iload zx zb dX11_spells_119 (lv_at hl 1 rfl) ?_
      exact e_int S zr zlk (by decide) G () [] rfl rfl (Or.inl rfl) (Or.inr ⟨rfl, fun h => absurd (wrdB_t.mp h.2).1 (show ¬ tE fd n s0 - s0 = 2 from by omega)⟩) dX11_spells_121
    · have fc_4 := j_eq (a := (t 1)) (b := 2) (by omega) (by omega) c_4
      refine lv_iconst (v := 1) zx zb dX11_spells_16 (by decide) ?_
      refine lv_goto (tgt := 21) zx zb dX11_spells_17 (by decide) ?_
      refine lv_istore (lv' := [(8, .int 1), (0, .ref m0), (1, .int 2), (2, .int 103), (3, .int 111), (4, .int 0), (5, .int 0), (6, .int 0), (7, .int 0)]) zx zb dX11_spells_21 hl (by decide) rfl (fun ls hl => ?_)
      refine lv_iconst (v := 0) zx zb dX11_spells_23 (by decide) ?_
      refine lv_istore (lv' := [(9, .int 0), (8, .int 1), (0, .ref m0), (1, .int 2), (2, .int 103), (3, .int 111), (4, .int 0), (5, .int 0), (6, .int 0), (7, .int 0)]) zx zb dX11_spells_24 hl (by decide) rfl (fun ls hl => ?_)
      refine lv_iload zx zb dX11_spells_26 (lv_at hl 0 rfl) ?_
      refine lv_iload_n zx zb dX11_spells_28 rfl (lv_at hl 3 rfl) ?_
      refine lv_icmp_ge (tgt := 119) zx zb dX11_spells_29 (by decide) (fun c_7 => absurd c_7 (by decide)) (fun c_7 => ?_)
      refine lv_iload zx zb dX11_spells_32 (lv_at hl 1 rfl) ?_
      refine lv_if_eq (tgt := 119) zx zb dX11_spells_34 (by decide) (fun c_8 => absurd c_8 (by decide)) (fun c_8 => ?_)
      refine lv_aload_n zx zb dX11_spells_37 rfl (lv_at hl 2 rfl) ?_
      refine r_get (C := RX11) (T := TX11) (N := 18) (ci := 9) (v := .ref (ma 10)) S in_X11_spells_X11 G 0 rfl rfl 10 (by decide) lk_X11_spells_39 rfl dX11_spells_38 ?_
      refine lv_aload_n zx zb dX11_spells_41 rfl (lv_at hl 2 rfl) ?_
      refine r_get (C := RX11) (T := TX11) (N := 18) (ci := 9) (v := .int (nI (t 0))) S in_X11_spells_X11 G 0 rfl rfl 12 (by decide) lk_X11_spells_217 rfl dX11_spells_42 ?_
      refine lv_iload zx zb dX11_spells_45 (lv_at hl 0 rfl) ?_
      refine r_iadd (v := (nI ((t 0) + 0))) S (nI_add (t 0) 0) dX11_spells_47 ?_
      refine r_iald (v := (fd ((t 0) + 0))) S G 1 rfl (vp_in_nI (by omega) (by decide)) (congrArg fd (nI_clamp (by omega))) dX11_spells_48 ?_
      refine lv_iload zx zb dX11_spells_49 (lv_at hl 0 rfl) ?_
      refine lv_if_ne (tgt := 58) zx zb dX11_spells_51 (by decide) (fun c_10 => absurd (by decide) c_10) (fun c_10 => ?_)
      refine lv_iload_n zx zb dX11_spells_54 rfl (lv_at hl 4 rfl) ?_
      refine lv_goto (tgt := 103) zx zb dX11_spells_55 (by decide) ?_
      refine lv_icmp_ne (tgt := 110) zx zb dX11_spells_103 (by decide) (fun c_11 => ?_) (fun c_11 => ?_)
      · refine lv_iconst (v := 0) zx zb dX11_spells_110 (by decide) ?_
        refine lv_istore (lv' := [(8, .int 0), (9, .int 0), (0, .ref m0), (1, .int 2), (2, .int 103), (3, .int 111), (4, .int 0), (5, .int 0), (6, .int 0), (7, .int 0)]) zx zb dX11_spells_111 hl (by decide) rfl (fun ls hl => ?_)
        refine lv_iinc (v := 1) (lv' := [(9, .int 1), (8, .int 0), (0, .ref m0), (1, .int 2), (2, .int 103), (3, .int 111), (4, .int 0), (5, .int 0), (6, .int 0), (7, .int 0)]) zx zb dX11_spells_113 hl (k := 1) rfl (by decide) (by decide) rfl (fun ls hl => ?_)
        refine lv_goto (tgt := 26) zx zb dX11_spells_116 (by decide) ?_
        refine lv_iload zx zb dX11_spells_26 (lv_at hl 0 rfl) ?_
        refine lv_iload_n zx zb dX11_spells_28 rfl (lv_at hl 3 rfl) ?_
        refine lv_icmp_ge (tgt := 119) zx zb dX11_spells_29 (by decide) (fun c_12 => absurd c_12 (by decide)) (fun c_12 => ?_)
        refine lv_iload zx zb dX11_spells_32 (lv_at hl 1 rfl) ?_
        refine lv_if_eq (tgt := 119) zx zb dX11_spells_34 (by decide) (fun c_13 => ?_) (fun c_13 => absurd (by decide) c_13)
        refine lv_iload zx zb dX11_spells_119 (lv_at hl 1 rfl) ?_
        exact e_int S zr zlk (by decide) G () [] rfl rfl (Or.inl rfl) (Or.inr ⟨rfl, fun h => c_11 (by rw [hK0]; exact (wrdB_t.mp h.2).2 0 (by decide))⟩) dX11_spells_121
      · refine lv_iconst (v := 1) zx zb dX11_spells_106 (by decide) ?_
        refine lv_goto (tgt := 111) zx zb dX11_spells_107 (by decide) ?_
        refine lv_istore (lv' := [(8, .int 1), (9, .int 0), (0, .ref m0), (1, .int 2), (2, .int 103), (3, .int 111), (4, .int 0), (5, .int 0), (6, .int 0), (7, .int 0)]) zx zb dX11_spells_111 hl (by decide) rfl (fun ls hl => ?_)
        refine lv_iinc (v := 1) (lv' := [(9, .int 1), (8, .int 1), (0, .ref m0), (1, .int 2), (2, .int 103), (3, .int 111), (4, .int 0), (5, .int 0), (6, .int 0), (7, .int 0)]) zx zb dX11_spells_113 hl (k := 1) rfl (by decide) (by decide) rfl (fun ls hl => ?_)
        refine lv_goto (tgt := 26) zx zb dX11_spells_116 (by decide) ?_
        refine lv_iload zx zb dX11_spells_26 (lv_at hl 0 rfl) ?_
        refine lv_iload_n zx zb dX11_spells_28 rfl (lv_at hl 3 rfl) ?_
        refine lv_icmp_ge (tgt := 119) zx zb dX11_spells_29 (by decide) (fun c_14 => absurd c_14 (by decide)) (fun c_14 => ?_)
        refine lv_iload zx zb dX11_spells_32 (lv_at hl 1 rfl) ?_
        refine lv_if_eq (tgt := 119) zx zb dX11_spells_34 (by decide) (fun c_15 => absurd c_15 (by decide)) (fun c_15 => ?_)
        refine lv_aload_n zx zb dX11_spells_37 rfl (lv_at hl 2 rfl) ?_
        refine r_get (C := RX11) (T := TX11) (N := 18) (ci := 9) (v := .ref (ma 10)) S in_X11_spells_X11 G 0 rfl rfl 10 (by decide) lk_X11_spells_39 rfl dX11_spells_38 ?_
        refine lv_aload_n zx zb dX11_spells_41 rfl (lv_at hl 2 rfl) ?_
        refine r_get (C := RX11) (T := TX11) (N := 18) (ci := 9) (v := .int (nI (t 0))) S in_X11_spells_X11 G 0 rfl rfl 12 (by decide) lk_X11_spells_217 rfl dX11_spells_42 ?_
        refine lv_iload zx zb dX11_spells_45 (lv_at hl 0 rfl) ?_
        refine r_iadd (v := (nI ((t 0) + 1))) S (nI_add (t 0) 1) dX11_spells_47 ?_
        refine r_iald (v := (fd ((t 0) + 1))) S G 1 rfl (vp_in_nI (by omega) (by decide)) (congrArg fd (nI_clamp (by omega))) dX11_spells_48 ?_
        refine lv_iload zx zb dX11_spells_49 (lv_at hl 0 rfl) ?_
        refine lv_if_ne (tgt := 58) zx zb dX11_spells_51 (by decide) (fun c_17 => ?_) (fun c_17 => absurd c_17 (by decide))
        refine lv_iload zx zb dX11_spells_58 (lv_at hl 0 rfl) ?_
        refine lv_iconst (v := 1) zx zb dX11_spells_60 (by decide) ?_
        refine lv_icmp_ne (tgt := 68) zx zb dX11_spells_61 (by decide) (fun c_18 => absurd (by decide) c_18) (fun c_18 => ?_)
        refine lv_iload_n zx zb dX11_spells_64 rfl (lv_at hl 5 rfl) ?_
        refine lv_goto (tgt := 103) zx zb dX11_spells_65 (by decide) ?_
        refine lv_icmp_ne (tgt := 110) zx zb dX11_spells_103 (by decide) (fun c_19 => ?_) (fun c_19 => ?_)
        · refine lv_iconst (v := 0) zx zb dX11_spells_110 (by decide) ?_
          refine lv_istore (lv' := [(8, .int 0), (9, .int 1), (0, .ref m0), (1, .int 2), (2, .int 103), (3, .int 111), (4, .int 0), (5, .int 0), (6, .int 0), (7, .int 0)]) zx zb dX11_spells_111 hl (by decide) rfl (fun ls hl => ?_)
          refine lv_iinc (v := 2) (lv' := [(9, .int 2), (8, .int 0), (0, .ref m0), (1, .int 2), (2, .int 103), (3, .int 111), (4, .int 0), (5, .int 0), (6, .int 0), (7, .int 0)]) zx zb dX11_spells_113 hl (k := 1) rfl (by decide) (by decide) rfl (fun ls hl => ?_)
          refine lv_goto (tgt := 26) zx zb dX11_spells_116 (by decide) ?_
          refine lv_iload zx zb dX11_spells_26 (lv_at hl 0 rfl) ?_
          refine lv_iload_n zx zb dX11_spells_28 rfl (lv_at hl 3 rfl) ?_
          refine lv_icmp_ge (tgt := 119) zx zb dX11_spells_29 (by decide) (fun c_20 => ?_) (fun c_20 => absurd (by decide) c_20)
          refine lv_iload zx zb dX11_spells_119 (lv_at hl 1 rfl) ?_
          exact e_int S zr zlk (by decide) G () [] rfl rfl (Or.inl rfl) (Or.inr ⟨rfl, fun h => c_19 (by rw [hK0]; exact (wrdB_t.mp h.2).2 1 (by decide))⟩) dX11_spells_121
        · refine lv_iconst (v := 1) zx zb dX11_spells_106 (by decide) ?_
          refine lv_goto (tgt := 111) zx zb dX11_spells_107 (by decide) ?_
          refine lv_istore (lv' := [(8, .int 1), (9, .int 1), (0, .ref m0), (1, .int 2), (2, .int 103), (3, .int 111), (4, .int 0), (5, .int 0), (6, .int 0), (7, .int 0)]) zx zb dX11_spells_111 hl (by decide) rfl (fun ls hl => ?_)
          refine lv_iinc (v := 2) (lv' := [(9, .int 2), (8, .int 1), (0, .ref m0), (1, .int 2), (2, .int 103), (3, .int 111), (4, .int 0), (5, .int 0), (6, .int 0), (7, .int 0)]) zx zb dX11_spells_113 hl (k := 1) rfl (by decide) (by decide) rfl (fun ls hl => ?_)
          refine lv_goto (tgt := 26) zx zb dX11_spells_116 (by decide) ?_
          refine lv_iload zx zb dX11_spells_26 (lv_at hl 0 rfl) ?_
          refine lv_iload_n zx zb dX11_spells_28 rfl (lv_at hl 3 rfl) ?_
          refine lv_icmp_ge (tgt := 119) zx zb dX11_spells_29 (by decide) (fun c_21 => ?_) (fun c_21 => absurd (by decide) c_21)
          refine lv_iload zx zb dX11_spells_119 (lv_at hl 1 rfl) ?_
          exact e_int S zr zlk (by decide) G () [] rfl rfl (Or.inl rfl) (Or.inl ⟨rfl, hK2.symm.trans c_1, wrdB_t.mpr ⟨(show tE fd n s0 - s0 = 2 from by omega), k_al2 (by rw [← hK0]; exact c_11) (by rw [← hK0]; exact c_19)⟩⟩) dX11_spells_121
set_option maxHeartbeats 4000000 in
set_option maxRecDepth 100000 in
theorem y_takes0 (l : Launch) (X : EX) (m0 : Nat) (ma : Nat → Nat) (la : Int64) (lb : Int64) (n : Nat) (t : Nat → Nat) (v : Nat → Int32) (fd : Nat → Int32) (fv : Nat → Int32) (lo : Int32) (hi : Int32) (s0 : Nat) (hI_n : n ≤ 150) (hI_t : InT t) (hK : tkM fd n t v s0) (sz : Nat) : Met l yX11_takes wsX11_takes ({ frames := 4, cells := 0, slots := 0, locals := 89 } : Room) (pE X [.ref m0, .int 0, .int lo, .int hi] (@HAppend.hAppend va_W va_W va_W _ (mW m0 ma la lb n t v) (@HAppend.hAppend va_W va_W va_W _ ([((ma 10), .inl (X.2.1, 150, .inl fd))]) ([((ma 17), .inl (X.2.1, 3, .inl fv))]))) sz) (qI (fun (r : Int32) (u : (Nat → Nat) × (Nat → Int32) × (Nat → Int32)) => InT u.1 ∧ ((r = 1 ∧ numP fd n s0 lo hi ∧ tkM fd n u.1 u.2.1 (tN fd n s0) ∧ u.2.2 = upd fv 0 (tV fd n s0)) ∨ (r = 0 ∧ ¬ numP fd n s0 lo hi ∧ u.1 0 = s0))) X (fun (u : (Nat → Nat) × (Nat → Int32) × (Nat → Int32)) => @HAppend.hAppend va_W va_W va_W _ (mW m0 ma la lb n u.1 u.2.1) (@HAppend.hAppend va_W va_W va_W _ ([((ma 10), .inl (X.2.1, 150, .inl fd))]) ([((ma 17), .inl (X.2.1, 3, .inl u.2.2))]))) (@HAppend.hAppend va_W va_W va_W _ (mW m0 ma la lb n t v) (@HAppend.hAppend va_W va_W va_W _ ([((ma 10), .inl (X.2.1, 150, .inl fd))]) ([((ma 17), .inl (X.2.1, 3, .inl fv))]))) sz) 0 0 (va_A (@HAppend.hAppend va_W va_W va_W _ (mW m0 ma la lb n t v) (@HAppend.hAppend va_W va_W va_W _ ([((ma 10), .inl (X.2.1, 150, .inl fd))]) ([((ma 17), .inl (X.2.1, 3, .inl fv))]))) sz) := by
  refine mk_met (B := (va_A (@HAppend.hAppend va_W va_W va_W _ (mW m0 ma la lb n t v) (@HAppend.hAppend va_W va_W va_W _ ([((ma 10), .inl (X.2.1, 150, .inl fd))]) ([((ma 17), .inl (X.2.1, 3, .inl fv))]))) sz)) (A := (va_A (@HAppend.hAppend va_W va_W va_W _ (mW m0 ma la lb n t v) (@HAppend.hAppend va_W va_W va_W _ ([((ma 10), .inl (X.2.1, 150, .inl fd))]) ([((ma 17), .inl (X.2.1, 3, .inl fv))]))) sz)) (cc := cX11_takes) (maxL := 4) (ret := (some .boolean)) (by decide) rfl (Nat.le_of_ble_eq_true rfl) k_w k_a (fun p e s m below meth c S zr zlk znm zsz G ls hl => ?_)
  have S : CallFix p m c cX11_takes 4 s _ wsX11_takes RX11 := S
  have zx := S.1
  have zb := S.2.1
  have hl : lv_has ls 4 [(0, .ref m0), (1, .int 0), (2, .int lo), (3, .int hi)] := hl
  have hO_t := hI_t
  obtain ⟨ht0_t, ht1_t⟩ := hO_t
  obtain ⟨hK0, hK1, hK2, hK3, hK4⟩ := hK
  have hTe := tE_le (T := fd) (n := n) (s := s0) hK4
  refine lv_aload_n zx zb dX11_takes_0 rfl (lv_at hl 0 rfl) ?_
  refine r_get (C := RX11) (T := TX11) (N := 18) (ci := 9) (v := .int (v 0)) S in_X11_takes_X11 G 0 rfl rfl 14 (by decide) lk_X11_takes_223 rfl dX11_takes_1 ?_
  refine lv_iconst (v := 2) zx zb dX11_takes_4 (by decide) ?_
  refine lv_icmp_ne (tgt := 23) zx zb dX11_takes_5 (by decide) (fun c_1 => ?_) (fun c_1 => ?_)
  · refine lv_iconst (v := 0) zx zb dX11_takes_23 (by decide) ?_
    exact e_int S zr zlk (by decide) G (t, v, fv) [0, 1, 2] rfl rfl (Or.inr rfl) (⟨hI_t, Or.inr ⟨rfl, fun h => c_1 (hK2.trans h.1), hK0⟩⟩) dX11_takes_24
  · refine lv_aload_n zx zb dX11_takes_8 rfl (lv_at hl 0 rfl) ?_
    refine r_get (C := RX11) (T := TX11) (N := 18) (ci := 9) (v := .int (v 1)) S in_X11_takes_X11 G 0 rfl rfl 15 (by decide) lk_X11_takes_226 rfl dX11_takes_9 ?_
    refine lv_i2l (v := (Int32.toInt64 (v 1))) zx zb dX11_takes_12 rfl ?_
    refine lv_iload_n zx zb dX11_takes_13 rfl (lv_at hl 2 rfl) ?_
    refine lv_i2l (v := (Int32.toInt64 lo)) zx zb dX11_takes_14 rfl ?_
    refine lv_iload_n zx zb dX11_takes_15 rfl (lv_at hl 3 rfl) ?_
    refine lv_i2l (v := (Int32.toInt64 hi)) zx zb dX11_takes_16 rfl ?_
    refine o_ri (cells' := 0) (slots' := 0) G rfl rfl (n_S (As := [.long (Int32.toInt64 (v 1)), .long (Int32.toInt64 lo), .long (Int32.toInt64 hi)]) (rest := []) S G (m_in l X (v 1) lo hi s.heap.size) gX11_takes_X11_in rfl rfl rfl hdS_X11_in ⟨Nat.le_of_ble_eq_true rfl, Nat.le_of_ble_eq_true rfl⟩ [] rfl rfl rfl hl.1 (Nat.le_of_ble_eq_true rfl) dX11_takes_17 ⟨Nat.le_of_ble_eq_true rfl, Nat.le_of_ble_eq_true rfl⟩) (fun r_2 u_2 H locs hp_2 G => ?_)
    have G : wd X (va_A (@HAppend.hAppend va_W va_W va_W _ (mW m0 ma la lb n t v) (@HAppend.hAppend va_W va_W va_W _ ([((ma 10), .inl (X.2.1, 150, .inl fd))]) ([((ma 17), .inl (X.2.1, 3, .inl fv))]))) sz) (va_A (@HAppend.hAppend va_W va_W va_W _ (mW m0 ma la lb n t v) (@HAppend.hAppend va_W va_W va_W _ ([((ma 10), .inl (X.2.1, 150, .inl fd))]) ([((ma 17), .inl (X.2.1, 3, .inl fv))]))) sz) s (@HAppend.hAppend va_W va_W va_W _ (mW m0 ma la lb n t v) (@HAppend.hAppend va_W va_W va_W _ ([((ma 10), .inl (X.2.1, 150, .inl fd))]) ([((ma 17), .inl (X.2.1, 3, .inl fv))]))) H locs := G
    rcases hp_2 with ⟨rfl, hw_2⟩ | ⟨rfl, hw_2⟩
    · refine lv_if_ne (tgt := 25) zx zb dX11_takes_20 (by decide) (fun c_3 => ?_) (fun c_3 => absurd c_3 (by decide))
      refine lv_aload_n zx zb dX11_takes_25 rfl (lv_at hl 0 rfl) ?_
      refine r_get (C := RX11) (T := TX11) (N := 18) (ci := 9) (v := .ref (ma 17)) S in_X11_takes_X11 G 0 rfl rfl 17 (by decide) lk_X11_takes_45 rfl dX11_takes_26 ?_
      refine lv_iload_n zx zb dX11_takes_29 rfl (lv_at hl 1 rfl) ?_
      refine lv_aload_n zx zb dX11_takes_30 rfl (lv_at hl 0 rfl) ?_
      refine r_get (C := RX11) (T := TX11) (N := 18) (ci := 9) (v := .int (v 1)) S in_X11_takes_X11 G 0 rfl rfl 15 (by decide) lk_X11_takes_226 rfl dX11_takes_31 ?_
      refine r_iast S G 2 rfl (k_vp (by decide)) dX11_takes_34 (fun H locs G => ?_)
      obtain ⟨f_4, hE_f_4, G⟩ : ∃ f_4 : Nat → Int32, f_4 = upd fv 0 (v 1) ∧ wd X (va_A (@HAppend.hAppend va_W va_W va_W _ (mW m0 ma la lb n t v) (@HAppend.hAppend va_W va_W va_W _ ([((ma 10), .inl (X.2.1, 150, .inl fd))]) ([((ma 17), .inl (X.2.1, 3, .inl fv))]))) sz) (va_A (@HAppend.hAppend va_W va_W va_W _ (mW m0 ma la lb n t v) (@HAppend.hAppend va_W va_W va_W _ ([((ma 10), .inl (X.2.1, 150, .inl fd))]) ([((ma 17), .inl (X.2.1, 3, .inl fv))]))) sz) s (@HAppend.hAppend va_W va_W va_W _ (mW m0 ma la lb n t v) (@HAppend.hAppend va_W va_W va_W _ ([((ma 10), .inl (X.2.1, 150, .inl fd))]) ([((ma 17), .inl (X.2.1, 3, .inl f_4))]))) H locs := ⟨_, rfl, G⟩
      refine lv_aload_n zx zb dX11_takes_35 rfl (lv_at hl 0 rfl) ?_
      refine b_wv (cells' := 0) (slots' := 0) (wr := [((ma 17), .inl (X.2.1, 3, .inl f_4))]) G rfl rfl [0, 1] [2] rfl rfl rfl rfl (n_V (As := []) (rest := []) (C := RX11) (T := TX11) (N := 18) (ci := 9) S G (y_goBehind l X m0 ma la lb n t v fd s0 hI_n hI_t ⟨hK0, hK1, hK2, hK3, hK4⟩ H.size) gX11_takes_X11_goBehind rfl rfl rfl hdV_X11_goBehind ⟨Nat.le_of_ble_eq_true rfl, Nat.le_of_ble_eq_true rfl⟩ [0, 1] rfl rfl 0 rfl rfl rfl hl.1 (Nat.le_of_ble_eq_true rfl) dX11_takes_36 ⟨Nat.le_of_ble_eq_true rfl, Nat.le_of_ble_eq_true rfl⟩) (fun u_5 H locs hp_5 G => ?_)
      obtain ⟨t_5a, v_5b⟩ := u_5
      try dsimp only at hp_5
      obtain ⟨hI_t_5a, hq_5⟩ := hp_5
      have hO_t_5a := hI_t_5a
      obtain ⟨ht0_t_5a, ht1_t_5a⟩ := hO_t_5a
      have G : wd X (va_A (@HAppend.hAppend va_W va_W va_W _ (mW m0 ma la lb n t v) (@HAppend.hAppend va_W va_W va_W _ ([((ma 10), .inl (X.2.1, 150, .inl fd))]) ([((ma 17), .inl (X.2.1, 3, .inl fv))]))) sz) (va_A (@HAppend.hAppend va_W va_W va_W _ (mW m0 ma la lb n t v) (@HAppend.hAppend va_W va_W va_W _ ([((ma 10), .inl (X.2.1, 150, .inl fd))]) ([((ma 17), .inl (X.2.1, 3, .inl fv))]))) sz) s (@HAppend.hAppend va_W va_W va_W _ ([((ma 17), .inl (X.2.1, 3, .inl f_4))]) (@HAppend.hAppend va_W va_W va_W _ (mW m0 ma la lb n t_5a v_5b) ([((ma 10), .inl (X.2.1, 150, .inl fd))]))) H locs := G
      have hk_5 : tkM fd n t_5a v_5b (tN fd n s0) := hq_5
      refine lv_iconst (v := 1) zx zb dX11_takes_39 (by decide) ?_
      have hv := hK3 (hK2.symm.trans c_1)
      exact e_int S zr zlk (by decide) G (t_5a, v_5b, f_4) [1, 2, 0] rfl rfl (Or.inr rfl) (⟨hI_t_5a, Or.inl ⟨rfl, ⟨hK2.symm.trans c_1, by rw [← hv]; exact hw_2.1, by rw [← hv]; exact hw_2.2⟩, hk_5, hE_f_4.trans (congrArg (upd fv 0) hv)⟩⟩) dX11_takes_40
    · refine lv_if_ne (tgt := 25) zx zb dX11_takes_20 (by decide) (fun c_6 => absurd (by decide) c_6) (fun c_6 => ?_)
      refine lv_iconst (v := 0) zx zb dX11_takes_23 (by decide) ?_
      exact e_int S zr zlk (by decide) G (t, v, fv) [0, 1, 2] rfl rfl (Or.inr rfl) (⟨hI_t, Or.inr ⟨rfl, fun h => hw_2 ⟨by rw [hK3 h.1]; exact h.2.1, by rw [hK3 h.1]; exact h.2.2⟩, hK0⟩⟩) dX11_takes_24
set_option maxHeartbeats 4000000 in
set_option maxRecDepth 100000 in
theorem y_takes1 (l : Launch) (X : EX) (m0 : Nat) (ma : Nat → Nat) (la : Int64) (lb : Int64) (n : Nat) (t : Nat → Nat) (v : Nat → Int32) (fd : Nat → Int32) (fv : Nat → Int32) (lo : Int32) (hi : Int32) (s0 : Nat) (hI_n : n ≤ 150) (hI_t : InT t) (hK : tkM fd n t v s0) (sz : Nat) : Met l yX11_takes wsX11_takes ({ frames := 4, cells := 0, slots := 0, locals := 89 } : Room) (pE X [.ref m0, .int 1, .int lo, .int hi] (@HAppend.hAppend va_W va_W va_W _ (mW m0 ma la lb n t v) (@HAppend.hAppend va_W va_W va_W _ ([((ma 10), .inl (X.2.1, 150, .inl fd))]) ([((ma 17), .inl (X.2.1, 3, .inl fv))]))) sz) (qI (fun (r : Int32) (u : (Nat → Nat) × (Nat → Int32) × (Nat → Int32)) => InT u.1 ∧ ((r = 1 ∧ numP fd n s0 lo hi ∧ tkM fd n u.1 u.2.1 (tN fd n s0) ∧ u.2.2 = upd fv 1 (tV fd n s0)) ∨ (r = 0 ∧ ¬ numP fd n s0 lo hi ∧ u.1 0 = s0))) X (fun (u : (Nat → Nat) × (Nat → Int32) × (Nat → Int32)) => @HAppend.hAppend va_W va_W va_W _ (mW m0 ma la lb n u.1 u.2.1) (@HAppend.hAppend va_W va_W va_W _ ([((ma 10), .inl (X.2.1, 150, .inl fd))]) ([((ma 17), .inl (X.2.1, 3, .inl u.2.2))]))) (@HAppend.hAppend va_W va_W va_W _ (mW m0 ma la lb n t v) (@HAppend.hAppend va_W va_W va_W _ ([((ma 10), .inl (X.2.1, 150, .inl fd))]) ([((ma 17), .inl (X.2.1, 3, .inl fv))]))) sz) 0 0 (va_A (@HAppend.hAppend va_W va_W va_W _ (mW m0 ma la lb n t v) (@HAppend.hAppend va_W va_W va_W _ ([((ma 10), .inl (X.2.1, 150, .inl fd))]) ([((ma 17), .inl (X.2.1, 3, .inl fv))]))) sz) := by
  refine mk_met (B := (va_A (@HAppend.hAppend va_W va_W va_W _ (mW m0 ma la lb n t v) (@HAppend.hAppend va_W va_W va_W _ ([((ma 10), .inl (X.2.1, 150, .inl fd))]) ([((ma 17), .inl (X.2.1, 3, .inl fv))]))) sz)) (A := (va_A (@HAppend.hAppend va_W va_W va_W _ (mW m0 ma la lb n t v) (@HAppend.hAppend va_W va_W va_W _ ([((ma 10), .inl (X.2.1, 150, .inl fd))]) ([((ma 17), .inl (X.2.1, 3, .inl fv))]))) sz)) (cc := cX11_takes) (maxL := 4) (ret := (some .boolean)) (by decide) rfl (Nat.le_of_ble_eq_true rfl) k_w k_a (fun p e s m below meth c S zr zlk znm zsz G ls hl => ?_)
  have S : CallFix p m c cX11_takes 4 s _ wsX11_takes RX11 := S
  have zx := S.1
  have zb := S.2.1
  have hl : lv_has ls 4 [(0, .ref m0), (1, .int 1), (2, .int lo), (3, .int hi)] := hl
  have hO_t := hI_t
  obtain ⟨ht0_t, ht1_t⟩ := hO_t
  obtain ⟨hK0, hK1, hK2, hK3, hK4⟩ := hK
  have hTe := tE_le (T := fd) (n := n) (s := s0) hK4
  refine lv_aload_n zx zb dX11_takes_0 rfl (lv_at hl 0 rfl) ?_
  refine r_get (C := RX11) (T := TX11) (N := 18) (ci := 9) (v := .int (v 0)) S in_X11_takes_X11 G 0 rfl rfl 14 (by decide) lk_X11_takes_223 rfl dX11_takes_1 ?_
  refine lv_iconst (v := 2) zx zb dX11_takes_4 (by decide) ?_
  refine lv_icmp_ne (tgt := 23) zx zb dX11_takes_5 (by decide) (fun c_1 => ?_) (fun c_1 => ?_)
  · refine lv_iconst (v := 0) zx zb dX11_takes_23 (by decide) ?_
    exact e_int S zr zlk (by decide) G (t, v, fv) [0, 1, 2] rfl rfl (Or.inr rfl) (⟨hI_t, Or.inr ⟨rfl, fun h => c_1 (hK2.trans h.1), hK0⟩⟩) dX11_takes_24
  · refine lv_aload_n zx zb dX11_takes_8 rfl (lv_at hl 0 rfl) ?_
    refine r_get (C := RX11) (T := TX11) (N := 18) (ci := 9) (v := .int (v 1)) S in_X11_takes_X11 G 0 rfl rfl 15 (by decide) lk_X11_takes_226 rfl dX11_takes_9 ?_
    refine lv_i2l (v := (Int32.toInt64 (v 1))) zx zb dX11_takes_12 rfl ?_
    refine lv_iload_n zx zb dX11_takes_13 rfl (lv_at hl 2 rfl) ?_
    refine lv_i2l (v := (Int32.toInt64 lo)) zx zb dX11_takes_14 rfl ?_
    refine lv_iload_n zx zb dX11_takes_15 rfl (lv_at hl 3 rfl) ?_
    refine lv_i2l (v := (Int32.toInt64 hi)) zx zb dX11_takes_16 rfl ?_
    refine o_ri (cells' := 0) (slots' := 0) G rfl rfl (n_S (As := [.long (Int32.toInt64 (v 1)), .long (Int32.toInt64 lo), .long (Int32.toInt64 hi)]) (rest := []) S G (m_in l X (v 1) lo hi s.heap.size) gX11_takes_X11_in rfl rfl rfl hdS_X11_in ⟨Nat.le_of_ble_eq_true rfl, Nat.le_of_ble_eq_true rfl⟩ [] rfl rfl rfl hl.1 (Nat.le_of_ble_eq_true rfl) dX11_takes_17 ⟨Nat.le_of_ble_eq_true rfl, Nat.le_of_ble_eq_true rfl⟩) (fun r_2 u_2 H locs hp_2 G => ?_)
    have G : wd X (va_A (@HAppend.hAppend va_W va_W va_W _ (mW m0 ma la lb n t v) (@HAppend.hAppend va_W va_W va_W _ ([((ma 10), .inl (X.2.1, 150, .inl fd))]) ([((ma 17), .inl (X.2.1, 3, .inl fv))]))) sz) (va_A (@HAppend.hAppend va_W va_W va_W _ (mW m0 ma la lb n t v) (@HAppend.hAppend va_W va_W va_W _ ([((ma 10), .inl (X.2.1, 150, .inl fd))]) ([((ma 17), .inl (X.2.1, 3, .inl fv))]))) sz) s (@HAppend.hAppend va_W va_W va_W _ (mW m0 ma la lb n t v) (@HAppend.hAppend va_W va_W va_W _ ([((ma 10), .inl (X.2.1, 150, .inl fd))]) ([((ma 17), .inl (X.2.1, 3, .inl fv))]))) H locs := G
    rcases hp_2 with ⟨rfl, hw_2⟩ | ⟨rfl, hw_2⟩
    · refine lv_if_ne (tgt := 25) zx zb dX11_takes_20 (by decide) (fun c_3 => ?_) (fun c_3 => absurd c_3 (by decide))
      refine lv_aload_n zx zb dX11_takes_25 rfl (lv_at hl 0 rfl) ?_
      refine r_get (C := RX11) (T := TX11) (N := 18) (ci := 9) (v := .ref (ma 17)) S in_X11_takes_X11 G 0 rfl rfl 17 (by decide) lk_X11_takes_45 rfl dX11_takes_26 ?_
      refine lv_iload_n zx zb dX11_takes_29 rfl (lv_at hl 1 rfl) ?_
      refine lv_aload_n zx zb dX11_takes_30 rfl (lv_at hl 0 rfl) ?_
      refine r_get (C := RX11) (T := TX11) (N := 18) (ci := 9) (v := .int (v 1)) S in_X11_takes_X11 G 0 rfl rfl 15 (by decide) lk_X11_takes_226 rfl dX11_takes_31 ?_
      refine r_iast S G 2 rfl (k_vp (by decide)) dX11_takes_34 (fun H locs G => ?_)
      obtain ⟨f_4, hE_f_4, G⟩ : ∃ f_4 : Nat → Int32, f_4 = upd fv 1 (v 1) ∧ wd X (va_A (@HAppend.hAppend va_W va_W va_W _ (mW m0 ma la lb n t v) (@HAppend.hAppend va_W va_W va_W _ ([((ma 10), .inl (X.2.1, 150, .inl fd))]) ([((ma 17), .inl (X.2.1, 3, .inl fv))]))) sz) (va_A (@HAppend.hAppend va_W va_W va_W _ (mW m0 ma la lb n t v) (@HAppend.hAppend va_W va_W va_W _ ([((ma 10), .inl (X.2.1, 150, .inl fd))]) ([((ma 17), .inl (X.2.1, 3, .inl fv))]))) sz) s (@HAppend.hAppend va_W va_W va_W _ (mW m0 ma la lb n t v) (@HAppend.hAppend va_W va_W va_W _ ([((ma 10), .inl (X.2.1, 150, .inl fd))]) ([((ma 17), .inl (X.2.1, 3, .inl f_4))]))) H locs := ⟨_, rfl, G⟩
      refine lv_aload_n zx zb dX11_takes_35 rfl (lv_at hl 0 rfl) ?_
      refine b_wv (cells' := 0) (slots' := 0) (wr := [((ma 17), .inl (X.2.1, 3, .inl f_4))]) G rfl rfl [0, 1] [2] rfl rfl rfl rfl (n_V (As := []) (rest := []) (C := RX11) (T := TX11) (N := 18) (ci := 9) S G (y_goBehind l X m0 ma la lb n t v fd s0 hI_n hI_t ⟨hK0, hK1, hK2, hK3, hK4⟩ H.size) gX11_takes_X11_goBehind rfl rfl rfl hdV_X11_goBehind ⟨Nat.le_of_ble_eq_true rfl, Nat.le_of_ble_eq_true rfl⟩ [0, 1] rfl rfl 0 rfl rfl rfl hl.1 (Nat.le_of_ble_eq_true rfl) dX11_takes_36 ⟨Nat.le_of_ble_eq_true rfl, Nat.le_of_ble_eq_true rfl⟩) (fun u_5 H locs hp_5 G => ?_)
      obtain ⟨t_5a, v_5b⟩ := u_5
      try dsimp only at hp_5
      obtain ⟨hI_t_5a, hq_5⟩ := hp_5
      have hO_t_5a := hI_t_5a
      obtain ⟨ht0_t_5a, ht1_t_5a⟩ := hO_t_5a
      have G : wd X (va_A (@HAppend.hAppend va_W va_W va_W _ (mW m0 ma la lb n t v) (@HAppend.hAppend va_W va_W va_W _ ([((ma 10), .inl (X.2.1, 150, .inl fd))]) ([((ma 17), .inl (X.2.1, 3, .inl fv))]))) sz) (va_A (@HAppend.hAppend va_W va_W va_W _ (mW m0 ma la lb n t v) (@HAppend.hAppend va_W va_W va_W _ ([((ma 10), .inl (X.2.1, 150, .inl fd))]) ([((ma 17), .inl (X.2.1, 3, .inl fv))]))) sz) s (@HAppend.hAppend va_W va_W va_W _ ([((ma 17), .inl (X.2.1, 3, .inl f_4))]) (@HAppend.hAppend va_W va_W va_W _ (mW m0 ma la lb n t_5a v_5b) ([((ma 10), .inl (X.2.1, 150, .inl fd))]))) H locs := G
      have hk_5 : tkM fd n t_5a v_5b (tN fd n s0) := hq_5
      refine lv_iconst (v := 1) zx zb dX11_takes_39 (by decide) ?_
      have hv := hK3 (hK2.symm.trans c_1)
      exact e_int S zr zlk (by decide) G (t_5a, v_5b, f_4) [1, 2, 0] rfl rfl (Or.inr rfl) (⟨hI_t_5a, Or.inl ⟨rfl, ⟨hK2.symm.trans c_1, by rw [← hv]; exact hw_2.1, by rw [← hv]; exact hw_2.2⟩, hk_5, hE_f_4.trans (congrArg (upd fv 1) hv)⟩⟩) dX11_takes_40
    · refine lv_if_ne (tgt := 25) zx zb dX11_takes_20 (by decide) (fun c_6 => absurd (by decide) c_6) (fun c_6 => ?_)
      refine lv_iconst (v := 0) zx zb dX11_takes_23 (by decide) ?_
      exact e_int S zr zlk (by decide) G (t, v, fv) [0, 1, 2] rfl rfl (Or.inr rfl) (⟨hI_t, Or.inr ⟨rfl, fun h => hw_2 ⟨by rw [hK3 h.1]; exact h.2.1, by rw [hK3 h.1]; exact h.2.2⟩, hK0⟩⟩) dX11_takes_24
set_option maxHeartbeats 4000000 in
set_option maxRecDepth 100000 in
theorem y_takes2 (l : Launch) (X : EX) (m0 : Nat) (ma : Nat → Nat) (la : Int64) (lb : Int64) (n : Nat) (t : Nat → Nat) (v : Nat → Int32) (fd : Nat → Int32) (fv : Nat → Int32) (lo : Int32) (hi : Int32) (s0 : Nat) (hI_n : n ≤ 150) (hI_t : InT t) (hK : tkM fd n t v s0) (sz : Nat) : Met l yX11_takes wsX11_takes ({ frames := 4, cells := 0, slots := 0, locals := 89 } : Room) (pE X [.ref m0, .int 2, .int lo, .int hi] (@HAppend.hAppend va_W va_W va_W _ (mW m0 ma la lb n t v) (@HAppend.hAppend va_W va_W va_W _ ([((ma 10), .inl (X.2.1, 150, .inl fd))]) ([((ma 17), .inl (X.2.1, 3, .inl fv))]))) sz) (qI (fun (r : Int32) (u : (Nat → Nat) × (Nat → Int32) × (Nat → Int32)) => InT u.1 ∧ ((r = 1 ∧ numP fd n s0 lo hi ∧ tkM fd n u.1 u.2.1 (tN fd n s0) ∧ u.2.2 = upd fv 2 (tV fd n s0)) ∨ (r = 0 ∧ ¬ numP fd n s0 lo hi ∧ u.1 0 = s0))) X (fun (u : (Nat → Nat) × (Nat → Int32) × (Nat → Int32)) => @HAppend.hAppend va_W va_W va_W _ (mW m0 ma la lb n u.1 u.2.1) (@HAppend.hAppend va_W va_W va_W _ ([((ma 10), .inl (X.2.1, 150, .inl fd))]) ([((ma 17), .inl (X.2.1, 3, .inl u.2.2))]))) (@HAppend.hAppend va_W va_W va_W _ (mW m0 ma la lb n t v) (@HAppend.hAppend va_W va_W va_W _ ([((ma 10), .inl (X.2.1, 150, .inl fd))]) ([((ma 17), .inl (X.2.1, 3, .inl fv))]))) sz) 0 0 (va_A (@HAppend.hAppend va_W va_W va_W _ (mW m0 ma la lb n t v) (@HAppend.hAppend va_W va_W va_W _ ([((ma 10), .inl (X.2.1, 150, .inl fd))]) ([((ma 17), .inl (X.2.1, 3, .inl fv))]))) sz) := by
  refine mk_met (B := (va_A (@HAppend.hAppend va_W va_W va_W _ (mW m0 ma la lb n t v) (@HAppend.hAppend va_W va_W va_W _ ([((ma 10), .inl (X.2.1, 150, .inl fd))]) ([((ma 17), .inl (X.2.1, 3, .inl fv))]))) sz)) (A := (va_A (@HAppend.hAppend va_W va_W va_W _ (mW m0 ma la lb n t v) (@HAppend.hAppend va_W va_W va_W _ ([((ma 10), .inl (X.2.1, 150, .inl fd))]) ([((ma 17), .inl (X.2.1, 3, .inl fv))]))) sz)) (cc := cX11_takes) (maxL := 4) (ret := (some .boolean)) (by decide) rfl (Nat.le_of_ble_eq_true rfl) k_w k_a (fun p e s m below meth c S zr zlk znm zsz G ls hl => ?_)
  have S : CallFix p m c cX11_takes 4 s _ wsX11_takes RX11 := S
  have zx := S.1
  have zb := S.2.1
  have hl : lv_has ls 4 [(0, .ref m0), (1, .int 2), (2, .int lo), (3, .int hi)] := hl
  have hO_t := hI_t
  obtain ⟨ht0_t, ht1_t⟩ := hO_t
  obtain ⟨hK0, hK1, hK2, hK3, hK4⟩ := hK
  have hTe := tE_le (T := fd) (n := n) (s := s0) hK4
  refine lv_aload_n zx zb dX11_takes_0 rfl (lv_at hl 0 rfl) ?_
  refine r_get (C := RX11) (T := TX11) (N := 18) (ci := 9) (v := .int (v 0)) S in_X11_takes_X11 G 0 rfl rfl 14 (by decide) lk_X11_takes_223 rfl dX11_takes_1 ?_
  refine lv_iconst (v := 2) zx zb dX11_takes_4 (by decide) ?_
  refine lv_icmp_ne (tgt := 23) zx zb dX11_takes_5 (by decide) (fun c_1 => ?_) (fun c_1 => ?_)
  · refine lv_iconst (v := 0) zx zb dX11_takes_23 (by decide) ?_
    exact e_int S zr zlk (by decide) G (t, v, fv) [0, 1, 2] rfl rfl (Or.inr rfl) (⟨hI_t, Or.inr ⟨rfl, fun h => c_1 (hK2.trans h.1), hK0⟩⟩) dX11_takes_24
  · refine lv_aload_n zx zb dX11_takes_8 rfl (lv_at hl 0 rfl) ?_
    refine r_get (C := RX11) (T := TX11) (N := 18) (ci := 9) (v := .int (v 1)) S in_X11_takes_X11 G 0 rfl rfl 15 (by decide) lk_X11_takes_226 rfl dX11_takes_9 ?_
    refine lv_i2l (v := (Int32.toInt64 (v 1))) zx zb dX11_takes_12 rfl ?_
    refine lv_iload_n zx zb dX11_takes_13 rfl (lv_at hl 2 rfl) ?_
    refine lv_i2l (v := (Int32.toInt64 lo)) zx zb dX11_takes_14 rfl ?_
    refine lv_iload_n zx zb dX11_takes_15 rfl (lv_at hl 3 rfl) ?_
    refine lv_i2l (v := (Int32.toInt64 hi)) zx zb dX11_takes_16 rfl ?_
    refine o_ri (cells' := 0) (slots' := 0) G rfl rfl (n_S (As := [.long (Int32.toInt64 (v 1)), .long (Int32.toInt64 lo), .long (Int32.toInt64 hi)]) (rest := []) S G (m_in l X (v 1) lo hi s.heap.size) gX11_takes_X11_in rfl rfl rfl hdS_X11_in ⟨Nat.le_of_ble_eq_true rfl, Nat.le_of_ble_eq_true rfl⟩ [] rfl rfl rfl hl.1 (Nat.le_of_ble_eq_true rfl) dX11_takes_17 ⟨Nat.le_of_ble_eq_true rfl, Nat.le_of_ble_eq_true rfl⟩) (fun r_2 u_2 H locs hp_2 G => ?_)
    have G : wd X (va_A (@HAppend.hAppend va_W va_W va_W _ (mW m0 ma la lb n t v) (@HAppend.hAppend va_W va_W va_W _ ([((ma 10), .inl (X.2.1, 150, .inl fd))]) ([((ma 17), .inl (X.2.1, 3, .inl fv))]))) sz) (va_A (@HAppend.hAppend va_W va_W va_W _ (mW m0 ma la lb n t v) (@HAppend.hAppend va_W va_W va_W _ ([((ma 10), .inl (X.2.1, 150, .inl fd))]) ([((ma 17), .inl (X.2.1, 3, .inl fv))]))) sz) s (@HAppend.hAppend va_W va_W va_W _ (mW m0 ma la lb n t v) (@HAppend.hAppend va_W va_W va_W _ ([((ma 10), .inl (X.2.1, 150, .inl fd))]) ([((ma 17), .inl (X.2.1, 3, .inl fv))]))) H locs := G
    rcases hp_2 with ⟨rfl, hw_2⟩ | ⟨rfl, hw_2⟩
    · refine lv_if_ne (tgt := 25) zx zb dX11_takes_20 (by decide) (fun c_3 => ?_) (fun c_3 => absurd c_3 (by decide))
      refine lv_aload_n zx zb dX11_takes_25 rfl (lv_at hl 0 rfl) ?_
      refine r_get (C := RX11) (T := TX11) (N := 18) (ci := 9) (v := .ref (ma 17)) S in_X11_takes_X11 G 0 rfl rfl 17 (by decide) lk_X11_takes_45 rfl dX11_takes_26 ?_
      refine lv_iload_n zx zb dX11_takes_29 rfl (lv_at hl 1 rfl) ?_
      refine lv_aload_n zx zb dX11_takes_30 rfl (lv_at hl 0 rfl) ?_
      refine r_get (C := RX11) (T := TX11) (N := 18) (ci := 9) (v := .int (v 1)) S in_X11_takes_X11 G 0 rfl rfl 15 (by decide) lk_X11_takes_226 rfl dX11_takes_31 ?_
      refine r_iast S G 2 rfl (k_vp (by decide)) dX11_takes_34 (fun H locs G => ?_)
      obtain ⟨f_4, hE_f_4, G⟩ : ∃ f_4 : Nat → Int32, f_4 = upd fv 2 (v 1) ∧ wd X (va_A (@HAppend.hAppend va_W va_W va_W _ (mW m0 ma la lb n t v) (@HAppend.hAppend va_W va_W va_W _ ([((ma 10), .inl (X.2.1, 150, .inl fd))]) ([((ma 17), .inl (X.2.1, 3, .inl fv))]))) sz) (va_A (@HAppend.hAppend va_W va_W va_W _ (mW m0 ma la lb n t v) (@HAppend.hAppend va_W va_W va_W _ ([((ma 10), .inl (X.2.1, 150, .inl fd))]) ([((ma 17), .inl (X.2.1, 3, .inl fv))]))) sz) s (@HAppend.hAppend va_W va_W va_W _ (mW m0 ma la lb n t v) (@HAppend.hAppend va_W va_W va_W _ ([((ma 10), .inl (X.2.1, 150, .inl fd))]) ([((ma 17), .inl (X.2.1, 3, .inl f_4))]))) H locs := ⟨_, rfl, G⟩
      refine lv_aload_n zx zb dX11_takes_35 rfl (lv_at hl 0 rfl) ?_
      refine b_wv (cells' := 0) (slots' := 0) (wr := [((ma 17), .inl (X.2.1, 3, .inl f_4))]) G rfl rfl [0, 1] [2] rfl rfl rfl rfl (n_V (As := []) (rest := []) (C := RX11) (T := TX11) (N := 18) (ci := 9) S G (y_goBehind l X m0 ma la lb n t v fd s0 hI_n hI_t ⟨hK0, hK1, hK2, hK3, hK4⟩ H.size) gX11_takes_X11_goBehind rfl rfl rfl hdV_X11_goBehind ⟨Nat.le_of_ble_eq_true rfl, Nat.le_of_ble_eq_true rfl⟩ [0, 1] rfl rfl 0 rfl rfl rfl hl.1 (Nat.le_of_ble_eq_true rfl) dX11_takes_36 ⟨Nat.le_of_ble_eq_true rfl, Nat.le_of_ble_eq_true rfl⟩) (fun u_5 H locs hp_5 G => ?_)
      obtain ⟨t_5a, v_5b⟩ := u_5
      try dsimp only at hp_5
      obtain ⟨hI_t_5a, hq_5⟩ := hp_5
      have hO_t_5a := hI_t_5a
      obtain ⟨ht0_t_5a, ht1_t_5a⟩ := hO_t_5a
      have G : wd X (va_A (@HAppend.hAppend va_W va_W va_W _ (mW m0 ma la lb n t v) (@HAppend.hAppend va_W va_W va_W _ ([((ma 10), .inl (X.2.1, 150, .inl fd))]) ([((ma 17), .inl (X.2.1, 3, .inl fv))]))) sz) (va_A (@HAppend.hAppend va_W va_W va_W _ (mW m0 ma la lb n t v) (@HAppend.hAppend va_W va_W va_W _ ([((ma 10), .inl (X.2.1, 150, .inl fd))]) ([((ma 17), .inl (X.2.1, 3, .inl fv))]))) sz) s (@HAppend.hAppend va_W va_W va_W _ ([((ma 17), .inl (X.2.1, 3, .inl f_4))]) (@HAppend.hAppend va_W va_W va_W _ (mW m0 ma la lb n t_5a v_5b) ([((ma 10), .inl (X.2.1, 150, .inl fd))]))) H locs := G
      have hk_5 : tkM fd n t_5a v_5b (tN fd n s0) := hq_5
      refine lv_iconst (v := 1) zx zb dX11_takes_39 (by decide) ?_
      have hv := hK3 (hK2.symm.trans c_1)
      exact e_int S zr zlk (by decide) G (t_5a, v_5b, f_4) [1, 2, 0] rfl rfl (Or.inr rfl) (⟨hI_t_5a, Or.inl ⟨rfl, ⟨hK2.symm.trans c_1, by rw [← hv]; exact hw_2.1, by rw [← hv]; exact hw_2.2⟩, hk_5, hE_f_4.trans (congrArg (upd fv 2) hv)⟩⟩) dX11_takes_40
    · refine lv_if_ne (tgt := 25) zx zb dX11_takes_20 (by decide) (fun c_6 => absurd (by decide) c_6) (fun c_6 => ?_)
      refine lv_iconst (v := 0) zx zb dX11_takes_23 (by decide) ?_
      exact e_int S zr zlk (by decide) G (t, v, fv) [0, 1, 2] rfl rfl (Or.inr rfl) (⟨hI_t, Or.inr ⟨rfl, fun h => hw_2 ⟨by rw [hK3 h.1]; exact h.2.1, by rw [hK3 h.1]; exact h.2.2⟩, hK0⟩⟩) dX11_takes_24
set_option maxHeartbeats 4000000 in
set_option maxRecDepth 100000 in
theorem y_takesOne (l : Launch) (X : EX) (m0 : Nat) (ma : Nat → Nat) (la : Int64) (lb : Int64) (n : Nat) (t : Nat → Nat) (v : Nat → Int32) (fd : Nat → Int32) (fv : Nat → Int32) (fw : Nat → Int32) (w0 : Nat) (w1 : Nat) (w2 : Nat) (w3 : Nat) (w4 : Nat) (sv : Nat → Int32) (dv : Nat → Int32) (s0 : Nat) (hI_n : n ≤ 150) (hI_t : InT t) (hI_fw : InA fw w0 w1 w2 w3 w4) (hK : tkM fd n t v s0) (hR : RepM sv dv w0 fw) (sz : Nat) : Met l yX11_takesOne wsX11_takesOne ({ frames := 5, cells := 0, slots := 0, locals := 112 } : Room) (pE X [.ref m0] (@HAppend.hAppend va_W va_W va_W _ (mW m0 ma la lb n t v) (@HAppend.hAppend va_W va_W va_W _ ([((ma 10), .inl (X.2.1, 150, .inl fd))]) (@HAppend.hAppend va_W va_W va_W _ ([((ma 17), .inl (X.2.1, 3, .inl fv))]) ([((ma 16), .inl (X.2.1, 123, .inl fw))])))) sz) (qI (fun (r : Int32) (u : (Nat → Nat) × (Nat → Int32) × (Nat → Int32) × (Nat → Int32) × (Nat)) => InT u.1 ∧ InA u.2.2.2.1 u.2.2.2.2 w1 w2 w3 w4 ∧ ((r = 1 ∧ w0 < 6 ∧ oneC fd n s0 = chk [(stpB fd n (t4 fd n s0), t4 fd n s0)] ∧ tkM fd n u.1 u.2.1 (t4 fd n s0) ∧ u.2.2.2.2 = w0 + 1 ∧ RepM (addS sv w0 (tV fd n (tN fd n s0)) (tV fd n (t2 fd n s0)) (tV fd n (t3 fd n s0))) (addD dv w0) (w0 + 1) u.2.2.2.1) ∨ (r = 0 ∧ w0 < 6 ∧ ∃ p : Nat, oneC fd n s0 = some p ∧ u.1 0 = p) ∨ (r = 0 ∧ ¬ w0 < 6 ∧ u.1 0 = s0))) X (fun (u : (Nat → Nat) × (Nat → Int32) × (Nat → Int32) × (Nat → Int32) × (Nat)) => @HAppend.hAppend va_W va_W va_W _ (mW m0 ma la lb n u.1 u.2.1) (@HAppend.hAppend va_W va_W va_W _ ([((ma 10), .inl (X.2.1, 150, .inl fd))]) (@HAppend.hAppend va_W va_W va_W _ ([((ma 17), .inl (X.2.1, 3, .inl u.2.2.1))]) ([((ma 16), .inl (X.2.1, 123, .inl u.2.2.2.1))])))) (@HAppend.hAppend va_W va_W va_W _ (mW m0 ma la lb n t v) (@HAppend.hAppend va_W va_W va_W _ ([((ma 10), .inl (X.2.1, 150, .inl fd))]) (@HAppend.hAppend va_W va_W va_W _ ([((ma 17), .inl (X.2.1, 3, .inl fv))]) ([((ma 16), .inl (X.2.1, 123, .inl fw))])))) sz) 0 0 (va_A (@HAppend.hAppend va_W va_W va_W _ (mW m0 ma la lb n t v) (@HAppend.hAppend va_W va_W va_W _ ([((ma 10), .inl (X.2.1, 150, .inl fd))]) (@HAppend.hAppend va_W va_W va_W _ ([((ma 17), .inl (X.2.1, 3, .inl fv))]) ([((ma 16), .inl (X.2.1, 123, .inl fw))])))) sz) := by
  refine mk_met (B := (va_A (@HAppend.hAppend va_W va_W va_W _ (mW m0 ma la lb n t v) (@HAppend.hAppend va_W va_W va_W _ ([((ma 10), .inl (X.2.1, 150, .inl fd))]) (@HAppend.hAppend va_W va_W va_W _ ([((ma 17), .inl (X.2.1, 3, .inl fv))]) ([((ma 16), .inl (X.2.1, 123, .inl fw))])))) sz)) (A := (va_A (@HAppend.hAppend va_W va_W va_W _ (mW m0 ma la lb n t v) (@HAppend.hAppend va_W va_W va_W _ ([((ma 10), .inl (X.2.1, 150, .inl fd))]) (@HAppend.hAppend va_W va_W va_W _ ([((ma 17), .inl (X.2.1, 3, .inl fv))]) ([((ma 16), .inl (X.2.1, 123, .inl fw))])))) sz)) (cc := cX11_takesOne) (maxL := 1) (ret := (some .boolean)) (by decide) rfl (Nat.le_of_ble_eq_true rfl) k_w k_a (fun p e s m below meth c S zr zlk znm zsz G ls hl => ?_)
  have S : CallFix p m c cX11_takesOne 1 s _ wsX11_takesOne RX11 := S
  have zx := S.1
  have zb := S.2.1
  have hl : lv_has ls 1 [(0, .ref m0)] := hl
  have hO_t := hI_t
  obtain ⟨ht0_t, ht1_t⟩ := hO_t
  have hO_fw := hI_fw.2
  obtain ⟨hm0_fw, hm1_fw, hm2_fw, hm3_fw, hm4_fw⟩ := hO_fw
  obtain ⟨hK0, hK1, hK2, hK3, hK4⟩ := hK
  have hTe := tE_le (T := fd) (n := n) (s := s0) hK4
  have hT0 : tE fd n s0 ≤ tN fd n s0 ∧ tN fd n s0 ≤ n := tN_le hK4
  have hT1 : tE fd n (tN fd n s0) ≤ t2 fd n s0 ∧ t2 fd n s0 ≤ n := tN_le hT0.2
  have hT2 : tE fd n (t2 fd n s0) ≤ t3 fd n s0 ∧ t3 fd n s0 ≤ n := tN_le hT1.2
  have hT3 : tE fd n (t3 fd n s0) ≤ t4 fd n s0 ∧ t4 fd n s0 ≤ n := tN_le hT2.2
  refine lv_aload_n zx zb dX11_takesOne_0 rfl (lv_at hl 0 rfl) ?_
  refine r_get (C := RX11) (T := TX11) (N := 18) (ci := 9) (v := .ref (ma 16)) S in_X11_takesOne_X11 G 0 rfl rfl 16 (by decide) lk_X11_takesOne_42 rfl dX11_takesOne_1 ?_
  refine lv_iconst (v := 0) zx zb dX11_takesOne_4 (by decide) ?_
  refine r_iald (v := (nI w0)) S G 3 rfl (k_vp (by decide)) hI_fw.1.1 dX11_takesOne_5 ?_
  refine lv_bipush (v := 6) zx zb dX11_takesOne_6 (by decide) ?_
  refine lv_icmp_ne (tgt := 13) zx zb dX11_takesOne_8 (by decide) (fun c_2 => ?_) (fun c_2 => ?_)
  · have fc_2 := j_ne (a := w0) (b := 6) c_2
    refine lv_aload_n zx zb dX11_takesOne_13 rfl (lv_at hl 0 rfl) ?_
    refine b_wv (cells' := 0) (slots' := 0) (wr := @HAppend.hAppend va_W va_W va_W _ ([((ma 17), .inl (X.2.1, 3, .inl fv))]) ([((ma 16), .inl (X.2.1, 123, .inl fw))])) G rfl rfl [0, 1] [2, 3] rfl rfl rfl rfl (n_V (As := []) (rest := []) (C := RX11) (T := TX11) (N := 18) (ci := 9) S G (y_goBehind l X m0 ma la lb n t v fd s0 hI_n hI_t ⟨hK0, hK1, hK2, hK3, hK4⟩ s.heap.size) gX11_takesOne_X11_goBehind rfl rfl rfl hdV_X11_goBehind ⟨Nat.le_of_ble_eq_true rfl, Nat.le_of_ble_eq_true rfl⟩ [0, 1] rfl rfl 0 rfl rfl rfl hl.1 (Nat.le_of_ble_eq_true rfl) dX11_takesOne_14 ⟨Nat.le_of_ble_eq_true rfl, Nat.le_of_ble_eq_true rfl⟩) (fun u_3 H locs hp_3 G => ?_)
    obtain ⟨t_3a, v_3b⟩ := u_3
    try dsimp only at hp_3
    obtain ⟨hI_t_3a, hq_3⟩ := hp_3
    have hO_t_3a := hI_t_3a
    obtain ⟨ht0_t_3a, ht1_t_3a⟩ := hO_t_3a
    have G : wd X (va_A (@HAppend.hAppend va_W va_W va_W _ (mW m0 ma la lb n t v) (@HAppend.hAppend va_W va_W va_W _ ([((ma 10), .inl (X.2.1, 150, .inl fd))]) (@HAppend.hAppend va_W va_W va_W _ ([((ma 17), .inl (X.2.1, 3, .inl fv))]) ([((ma 16), .inl (X.2.1, 123, .inl fw))])))) sz) (va_A (@HAppend.hAppend va_W va_W va_W _ (mW m0 ma la lb n t v) (@HAppend.hAppend va_W va_W va_W _ ([((ma 10), .inl (X.2.1, 150, .inl fd))]) (@HAppend.hAppend va_W va_W va_W _ ([((ma 17), .inl (X.2.1, 3, .inl fv))]) ([((ma 16), .inl (X.2.1, 123, .inl fw))])))) sz) s (@HAppend.hAppend va_W va_W va_W _ ([((ma 17), .inl (X.2.1, 3, .inl fv))]) (@HAppend.hAppend va_W va_W va_W _ ([((ma 16), .inl (X.2.1, 123, .inl fw))]) (@HAppend.hAppend va_W va_W va_W _ (mW m0 ma la lb n t_3a v_3b) ([((ma 10), .inl (X.2.1, 150, .inl fd))])))) H locs := G
    have hk_3 : tkM fd n t_3a v_3b (tN fd n s0) := hq_3
    refine lv_aload_n zx zb dX11_takesOne_17 rfl (lv_at hl 0 rfl) ?_
    refine lv_iconst (v := 0) zx zb dX11_takesOne_18 (by decide) ?_
    refine lv_iconst (v := 0) zx zb dX11_takesOne_19 (by decide) ?_
    refine lv_iconst (v := 5) zx zb dX11_takesOne_20 (by decide) ?_
    refine b_wi (cells' := 0) (slots' := 0) (wr := [((ma 16), .inl (X.2.1, 123, .inl fw))]) G rfl rfl [2, 3, 0] [1] rfl rfl rfl rfl (n_V (As := [.int 0, .int 0, .int 5]) (rest := []) (C := RX11) (T := TX11) (N := 18) (ci := 9) S G (y_takes0 l X m0 ma la lb n t_3a v_3b fd fv 0 5 (tN fd n s0) hI_n hI_t_3a hk_3 H.size) gX11_takesOne_X11_takes rfl rfl rfl hdV_X11_takes ⟨Nat.le_of_ble_eq_true rfl, Nat.le_of_ble_eq_true rfl⟩ [2, 3, 0] rfl rfl 2 rfl rfl rfl hl.1 (Nat.le_of_ble_eq_true rfl) dX11_takesOne_21 ⟨Nat.le_of_ble_eq_true rfl, Nat.le_of_ble_eq_true rfl⟩) (fun r_4 u_4 H locs hp_4 G => ?_)
    obtain ⟨t_4a, v_4b, f_4c⟩ := u_4
    try dsimp only at hp_4
    obtain ⟨hI_t_4a, hq_4⟩ := hp_4
    have hO_t_4a := hI_t_4a
    obtain ⟨ht0_t_4a, ht1_t_4a⟩ := hO_t_4a
    have G : wd X (va_A (@HAppend.hAppend va_W va_W va_W _ (mW m0 ma la lb n t v) (@HAppend.hAppend va_W va_W va_W _ ([((ma 10), .inl (X.2.1, 150, .inl fd))]) (@HAppend.hAppend va_W va_W va_W _ ([((ma 17), .inl (X.2.1, 3, .inl fv))]) ([((ma 16), .inl (X.2.1, 123, .inl fw))])))) sz) (va_A (@HAppend.hAppend va_W va_W va_W _ (mW m0 ma la lb n t v) (@HAppend.hAppend va_W va_W va_W _ ([((ma 10), .inl (X.2.1, 150, .inl fd))]) (@HAppend.hAppend va_W va_W va_W _ ([((ma 17), .inl (X.2.1, 3, .inl fv))]) ([((ma 16), .inl (X.2.1, 123, .inl fw))])))) sz) s (@HAppend.hAppend va_W va_W va_W _ ([((ma 16), .inl (X.2.1, 123, .inl fw))]) (@HAppend.hAppend va_W va_W va_W _ (mW m0 ma la lb n t_4a v_4b) (@HAppend.hAppend va_W va_W va_W _ ([((ma 10), .inl (X.2.1, 150, .inl fd))]) ([((ma 17), .inl (X.2.1, 3, .inl f_4c))])))) H locs := G
    rcases hq_4 with ⟨rfl, hn_4, hk_4, hv_4⟩ | ⟨rfl, hn_4, hf_4⟩
    · have hn_4 : numP fd n (tN fd n s0) 0 5 := hn_4
      have hk_4 : tkM fd n t_4a v_4b (t2 fd n s0) := hk_4
      refine lv_if_eq (tgt := 48) zx zb dX11_takesOne_24 (by decide) (fun c_5 => absurd c_5 (by decide)) (fun c_5 => ?_)
      refine lv_aload_n zx zb dX11_takesOne_27 rfl (lv_at hl 0 rfl) ?_
      refine lv_iconst (v := 1) zx zb dX11_takesOne_28 (by decide) ?_
      refine lv_iconst (v := 1) zx zb dX11_takesOne_29 (by decide) ?_
      refine lv_bipush (v := 9) zx zb dX11_takesOne_30 (by decide) ?_
      refine b_wi (cells' := 0) (slots' := 0) (wr := [((ma 16), .inl (X.2.1, 123, .inl fw))]) G rfl rfl [1, 2, 3] [0] rfl rfl rfl rfl (n_V (As := [.int 1, .int 1, .int 9]) (rest := []) (C := RX11) (T := TX11) (N := 18) (ci := 9) S G (y_takes1 l X m0 ma la lb n t_4a v_4b fd f_4c 1 9 (t2 fd n s0) hI_n hI_t_4a hk_4 H.size) gX11_takesOne_X11_takes rfl rfl rfl hdV_X11_takes ⟨Nat.le_of_ble_eq_true rfl, Nat.le_of_ble_eq_true rfl⟩ [1, 2, 3] rfl rfl 1 rfl rfl rfl hl.1 (Nat.le_of_ble_eq_true rfl) dX11_takesOne_32 ⟨Nat.le_of_ble_eq_true rfl, Nat.le_of_ble_eq_true rfl⟩) (fun r_6 u_6 H locs hp_6 G => ?_)
      obtain ⟨t_6a, v_6b, f_6c⟩ := u_6
      try dsimp only at hp_6
      obtain ⟨hI_t_6a, hq_6⟩ := hp_6
      have hO_t_6a := hI_t_6a
      obtain ⟨ht0_t_6a, ht1_t_6a⟩ := hO_t_6a
      have G : wd X (va_A (@HAppend.hAppend va_W va_W va_W _ (mW m0 ma la lb n t v) (@HAppend.hAppend va_W va_W va_W _ ([((ma 10), .inl (X.2.1, 150, .inl fd))]) (@HAppend.hAppend va_W va_W va_W _ ([((ma 17), .inl (X.2.1, 3, .inl fv))]) ([((ma 16), .inl (X.2.1, 123, .inl fw))])))) sz) (va_A (@HAppend.hAppend va_W va_W va_W _ (mW m0 ma la lb n t v) (@HAppend.hAppend va_W va_W va_W _ ([((ma 10), .inl (X.2.1, 150, .inl fd))]) (@HAppend.hAppend va_W va_W va_W _ ([((ma 17), .inl (X.2.1, 3, .inl fv))]) ([((ma 16), .inl (X.2.1, 123, .inl fw))])))) sz) s (@HAppend.hAppend va_W va_W va_W _ ([((ma 16), .inl (X.2.1, 123, .inl fw))]) (@HAppend.hAppend va_W va_W va_W _ (mW m0 ma la lb n t_6a v_6b) (@HAppend.hAppend va_W va_W va_W _ ([((ma 10), .inl (X.2.1, 150, .inl fd))]) ([((ma 17), .inl (X.2.1, 3, .inl f_6c))])))) H locs := G
      rcases hq_6 with ⟨rfl, hn_6, hk_6, hv_6⟩ | ⟨rfl, hn_6, hf_6⟩
      · have hn_6 : numP fd n (t2 fd n s0) 1 9 := hn_6
        have hk_6 : tkM fd n t_6a v_6b (t3 fd n s0) := hk_6
        refine lv_if_eq (tgt := 48) zx zb dX11_takesOne_35 (by decide) (fun c_7 => absurd c_7 (by decide)) (fun c_7 => ?_)
        refine lv_aload_n zx zb dX11_takesOne_38 rfl (lv_at hl 0 rfl) ?_
        refine lv_iconst (v := 2) zx zb dX11_takesOne_39 (by decide) ?_
        refine lv_iconst (v := 0) zx zb dX11_takesOne_40 (by decide) ?_
        refine lv_iconst (v := 5) zx zb dX11_takesOne_41 (by decide) ?_
        refine b_wi (cells' := 0) (slots' := 0) (wr := [((ma 16), .inl (X.2.1, 123, .inl fw))]) G rfl rfl [1, 2, 3] [0] rfl rfl rfl rfl (n_V (As := [.int 2, .int 0, .int 5]) (rest := []) (C := RX11) (T := TX11) (N := 18) (ci := 9) S G (y_takes2 l X m0 ma la lb n t_6a v_6b fd f_6c 0 5 (t3 fd n s0) hI_n hI_t_6a hk_6 H.size) gX11_takesOne_X11_takes rfl rfl rfl hdV_X11_takes ⟨Nat.le_of_ble_eq_true rfl, Nat.le_of_ble_eq_true rfl⟩ [1, 2, 3] rfl rfl 1 rfl rfl rfl hl.1 (Nat.le_of_ble_eq_true rfl) dX11_takesOne_42 ⟨Nat.le_of_ble_eq_true rfl, Nat.le_of_ble_eq_true rfl⟩) (fun r_8 u_8 H locs hp_8 G => ?_)
        obtain ⟨t_8a, v_8b, f_8c⟩ := u_8
        try dsimp only at hp_8
        obtain ⟨hI_t_8a, hq_8⟩ := hp_8
        have hO_t_8a := hI_t_8a
        obtain ⟨ht0_t_8a, ht1_t_8a⟩ := hO_t_8a
        have G : wd X (va_A (@HAppend.hAppend va_W va_W va_W _ (mW m0 ma la lb n t v) (@HAppend.hAppend va_W va_W va_W _ ([((ma 10), .inl (X.2.1, 150, .inl fd))]) (@HAppend.hAppend va_W va_W va_W _ ([((ma 17), .inl (X.2.1, 3, .inl fv))]) ([((ma 16), .inl (X.2.1, 123, .inl fw))])))) sz) (va_A (@HAppend.hAppend va_W va_W va_W _ (mW m0 ma la lb n t v) (@HAppend.hAppend va_W va_W va_W _ ([((ma 10), .inl (X.2.1, 150, .inl fd))]) (@HAppend.hAppend va_W va_W va_W _ ([((ma 17), .inl (X.2.1, 3, .inl fv))]) ([((ma 16), .inl (X.2.1, 123, .inl fw))])))) sz) s (@HAppend.hAppend va_W va_W va_W _ ([((ma 16), .inl (X.2.1, 123, .inl fw))]) (@HAppend.hAppend va_W va_W va_W _ (mW m0 ma la lb n t_8a v_8b) (@HAppend.hAppend va_W va_W va_W _ ([((ma 10), .inl (X.2.1, 150, .inl fd))]) ([((ma 17), .inl (X.2.1, 3, .inl f_8c))])))) H locs := G
        rcases hq_8 with ⟨rfl, hn_8, hk_8, hv_8⟩ | ⟨rfl, hn_8, hf_8⟩
        · have hn_8 : numP fd n (t3 fd n s0) 0 5 := hn_8
          have hk_8 : tkM fd n t_8a v_8b (t4 fd n s0) := hk_8
          refine lv_if_ne (tgt := 50) zx zb dX11_takesOne_45 (by decide) (fun c_9 => ?_) (fun c_9 => absurd c_9 (by decide))
          have vl0 : f_8c 0 = tV fd n (tN fd n s0) := by rw [hv_8, upd_ne (by decide), hv_6, upd_ne (by decide), hv_4, upd_eq]
          have vl1 : f_8c 1 = tV fd n (t2 fd n s0) := by rw [hv_8, upd_ne (by decide), hv_6, upd_eq]
          have vl2 : f_8c 2 = tV fd n (t3 fd n s0) := by rw [hv_8, upd_eq]
          refine lv_aload_n zx zb dX11_takesOne_50 rfl (lv_at hl 0 rfl) ?_
          refine r_get (C := RX11) (T := TX11) (N := 18) (ci := 9) (v := .ref (ma 16)) S in_X11_takesOne_X11 G 1 rfl rfl 16 (by decide) lk_X11_takesOne_42 rfl dX11_takesOne_51 ?_
          refine lv_aload_n zx zb dX11_takesOne_54 rfl (lv_at hl 0 rfl) ?_
          refine r_get (C := RX11) (T := TX11) (N := 18) (ci := 9) (v := .ref (ma 17)) S in_X11_takesOne_X11 G 1 rfl rfl 17 (by decide) lk_X11_takesOne_45 rfl dX11_takesOne_55 ?_
          refine lv_iconst (v := 0) zx zb dX11_takesOne_58 (by decide) ?_
          refine r_iald (v := (f_8c 0)) S G 3 rfl (k_vp (by decide)) rfl dX11_takesOne_59 ?_
          refine lv_aload_n zx zb dX11_takesOne_60 rfl (lv_at hl 0 rfl) ?_
          refine r_get (C := RX11) (T := TX11) (N := 18) (ci := 9) (v := .ref (ma 17)) S in_X11_takesOne_X11 G 1 rfl rfl 17 (by decide) lk_X11_takesOne_45 rfl dX11_takesOne_61 ?_
          refine lv_iconst (v := 1) zx zb dX11_takesOne_64 (by decide) ?_
          refine r_iald (v := (f_8c 1)) S G 3 rfl (k_vp (by decide)) rfl dX11_takesOne_65 ?_
          refine lv_aload_n zx zb dX11_takesOne_66 rfl (lv_at hl 0 rfl) ?_
          refine r_get (C := RX11) (T := TX11) (N := 18) (ci := 9) (v := .ref (ma 17)) S in_X11_takesOne_X11 G 1 rfl rfl 17 (by decide) lk_X11_takesOne_45 rfl dX11_takesOne_67 ?_
          refine lv_iconst (v := 2) zx zb dX11_takesOne_70 (by decide) ?_
          refine r_iald (v := (f_8c 2)) S G 3 rfl (k_vp (by decide)) rfl dX11_takesOne_71 ?_
          refine b_wv (cells' := 0) (slots' := 0) (wr := @HAppend.hAppend va_W va_W va_W _ (mW m0 ma la lb n t_8a v_8b) (@HAppend.hAppend va_W va_W va_W _ ([((ma 10), .inl (X.2.1, 150, .inl fd))]) ([((ma 17), .inl (X.2.1, 3, .inl f_8c))]))) G rfl rfl [0] [1, 2, 3] rfl rfl rfl rfl (n_S (As := [.ref (ma 16), .int (f_8c 0), .int (f_8c 1), .int (f_8c 2)]) (rest := []) S G (y_layOne l X (ma 16) 123 fw w0 w1 w2 w3 w4 (f_8c 0) (f_8c 1) (f_8c 2) hI_fw (by omega) (by omega) (by omega) H.size) gX11_takesOne_X11_layOne rfl rfl rfl hdS_X11_layOne ⟨Nat.le_of_ble_eq_true rfl, Nat.le_of_ble_eq_true rfl⟩ [0] rfl rfl rfl hl.1 (Nat.le_of_ble_eq_true rfl) dX11_takesOne_72 ⟨Nat.le_of_ble_eq_true rfl, Nat.le_of_ble_eq_true rfl⟩) (fun u_13 H locs hp_13 G => ?_)
          obtain ⟨f_13a, c0_13b⟩ := u_13
          try dsimp only at hp_13
          obtain ⟨hI_f_13a, hq_13⟩ := hp_13
          have hO_f_13a := hI_f_13a.2
          obtain ⟨hm0_f_13a, hm1_f_13a, hm2_f_13a, hm3_f_13a, hm4_f_13a⟩ := hO_f_13a
          have G : wd X (va_A (@HAppend.hAppend va_W va_W va_W _ (mW m0 ma la lb n t v) (@HAppend.hAppend va_W va_W va_W _ ([((ma 10), .inl (X.2.1, 150, .inl fd))]) (@HAppend.hAppend va_W va_W va_W _ ([((ma 17), .inl (X.2.1, 3, .inl fv))]) ([((ma 16), .inl (X.2.1, 123, .inl fw))])))) sz) (va_A (@HAppend.hAppend va_W va_W va_W _ (mW m0 ma la lb n t v) (@HAppend.hAppend va_W va_W va_W _ ([((ma 10), .inl (X.2.1, 150, .inl fd))]) (@HAppend.hAppend va_W va_W va_W _ ([((ma 17), .inl (X.2.1, 3, .inl fv))]) ([((ma 16), .inl (X.2.1, 123, .inl fw))])))) sz) s (@HAppend.hAppend va_W va_W va_W _ (mW m0 ma la lb n t_8a v_8b) (@HAppend.hAppend va_W va_W va_W _ ([((ma 10), .inl (X.2.1, 150, .inl fd))]) (@HAppend.hAppend va_W va_W va_W _ ([((ma 17), .inl (X.2.1, 3, .inl f_8c))]) ([((ma 16), .inl (X.2.1, 123, .inl f_13a))])))) H locs := G
          obtain ⟨hy0_13, hy1_13⟩ := hq_13
          refine lv_iconst (v := 1) zx zb dX11_takesOne_75 (by decide) ?_
          have hz : RepM (addS sv w0 (tV fd n (tN fd n s0)) (tV fd n (t2 fd n s0)) (tV fd n (t3 fd n s0))) (addD dv w0) (w0 + 1) f_13a := by rw [hy0_13, vl0, vl1, vl2]; exact RepM_l (by omega) hR
          exact e_int S zr zlk (by decide) G (t_8a, v_8b, f_8c, f_13a, c0_13b) [0, 1, 2, 3] rfl rfl (Or.inr rfl) (⟨hI_t_8a, hI_f_13a, Or.inl ⟨rfl, by first | omega | (dsimp only; omega), by rw [oneC, chk_t (numB_t.mpr hn_4), chk_t (numB_t.mpr hn_6), chk_t (numB_t.mpr hn_8)], hk_8, hy1_13, hz⟩⟩) dX11_takesOne_76
        · have hn_8 : ¬ numP fd n (t3 fd n s0) 0 5 := hn_8
          refine lv_if_ne (tgt := 50) zx zb dX11_takesOne_45 (by decide) (fun c_14 => absurd (by decide) c_14) (fun c_14 => ?_)
          refine lv_iconst (v := 0) zx zb dX11_takesOne_48 (by decide) ?_
          exact e_int S zr zlk (by decide) G (t_8a, v_8b, f_8c, fw, w0) [1, 2, 3, 0] rfl rfl (Or.inr rfl) (⟨hI_t_8a, hI_fw, Or.inr (Or.inl ⟨rfl, by first | omega | (dsimp only; omega), _, by rw [oneC, chk_t (numB_t.mpr hn_4), chk_t (numB_t.mpr hn_6), chk_f (numB_f hn_8)], hf_8⟩)⟩) dX11_takesOne_49
      · have hn_6 : ¬ numP fd n (t2 fd n s0) 1 9 := hn_6
        refine lv_if_eq (tgt := 48) zx zb dX11_takesOne_35 (by decide) (fun c_15 => ?_) (fun c_15 => absurd (by decide) c_15)
        refine lv_iconst (v := 0) zx zb dX11_takesOne_48 (by decide) ?_
        exact e_int S zr zlk (by decide) G (t_6a, v_6b, f_6c, fw, w0) [1, 2, 3, 0] rfl rfl (Or.inr rfl) (⟨hI_t_6a, hI_fw, Or.inr (Or.inl ⟨rfl, by first | omega | (dsimp only; omega), _, by rw [oneC, chk_t (numB_t.mpr hn_4), chk_f (numB_f hn_6)], hf_6⟩)⟩) dX11_takesOne_49
    · have hn_4 : ¬ numP fd n (tN fd n s0) 0 5 := hn_4
      refine lv_if_eq (tgt := 48) zx zb dX11_takesOne_24 (by decide) (fun c_16 => ?_) (fun c_16 => absurd (by decide) c_16)
      refine lv_iconst (v := 0) zx zb dX11_takesOne_48 (by decide) ?_
      exact e_int S zr zlk (by decide) G (t_4a, v_4b, f_4c, fw, w0) [1, 2, 3, 0] rfl rfl (Or.inr rfl) (⟨hI_t_4a, hI_fw, Or.inr (Or.inl ⟨rfl, by first | omega | (dsimp only; omega), _, by rw [oneC, chk_f (numB_f hn_4)], hf_4⟩)⟩) dX11_takesOne_49
  · have fc_2 := j_eq (a := w0) (b := 6) (by omega) (by omega) c_2
    refine lv_iconst (v := 0) zx zb dX11_takesOne_11 (by decide) ?_
    exact e_int S zr zlk (by decide) G (t, v, fv, fw, w0) [0, 1, 2, 3] rfl rfl (Or.inr rfl) (⟨hI_t, hI_fw, Or.inr (Or.inr ⟨rfl, by first | omega | (dsimp only; omega), hK0⟩)⟩) dX11_takesOne_12
