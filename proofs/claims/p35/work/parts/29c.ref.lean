set_option maxRecDepth 20000 in
theorem ggX11_read_X11_begin : GoodIn wsX11_read wsX11_begin := goodIn_r _ [42] rfl (by decide +kernel)
set_option maxRecDepth 20000 in
theorem gX11_read_X11_begin : GoodIn wsX11_read (va_wsS RX11 48 yX11_begin wsX11_begin) := goodIn_app (goodIn_of _ (by decide +kernel)) ggX11_read_X11_begin
set_option maxRecDepth 20000 in
theorem ggX11_read_X11_goBehind : GoodIn wsX11_read wsX11_goBehind := goodIn_r _ [35, 1, 13, 6, 7, 8, 9, 10, 11, 12, 2, 14, 15, 16, 17, 18, 19, 20, 21, 22, 23, 24, 25, 26, 27, 90, 91, 92, 93, 94, 95, 96, 97, 98, 99, 100, 101, 102, 103, 104, 105, 106, 107] rfl (by decide +kernel)
set_option maxRecDepth 20000 in
theorem gX11_read_X11_goBehind : GoodIn wsX11_read (wsV RX11 238 RX11 yX11_goBehind wsX11_goBehind) := goodIn_app (goodIn_of _ (by decide +kernel)) ggX11_read_X11_goBehind
set_option maxRecDepth 20000 in
theorem ggX11_read_X11_lookAt : GoodIn wsX11_read wsX11_lookAt := goodIn_r _ [10, 1, 11, 12, 13, 2, 14, 15, 16, 9, 17, 18, 19, 20, 21, 22, 23, 24, 25, 26, 27, 90, 91, 92, 93, 94, 95, 96, 97, 98, 99, 100, 101, 102, 103, 104, 105, 106, 107] rfl (by decide +kernel)
set_option maxRecDepth 20000 in
theorem gX11_read_X11_lookAt : GoodIn wsX11_read (wsV RX11 235 RX11 yX11_lookAt wsX11_lookAt) := goodIn_app (goodIn_of _ (by decide +kernel)) ggX11_read_X11_lookAt
set_option maxRecDepth 20000 in
theorem ggX11_read_X11_spells : GoodIn wsX11_read wsX11_spells := goodIn_r _ [31, 2, 13, 12, 1, 90, 91, 92, 93, 94, 95, 96, 97, 98, 99, 100, 101, 102, 103, 104, 105, 106, 107] rfl (by decide +kernel)
set_option maxRecDepth 20000 in
theorem gX11_read_X11_spells : GoodIn wsX11_read (wsV RX11 245 RX11 yX11_spells wsX11_spells) := goodIn_app (goodIn_of _ (by decide +kernel)) ggX11_read_X11_spells
set_option maxRecDepth 20000 in
theorem ggX11_read_X11_takes : GoodIn wsX11_read wsX11_takes := goodIn_r _ [39, 2, 14, 4, 20, 21, 9, 22, 32, 33, 34, 35, 1, 13, 6, 7, 8, 10, 11, 12, 15, 16, 17, 18, 19, 23, 24, 25, 26, 27, 90, 91, 92, 93, 94, 95, 96, 97, 98, 99, 100, 101, 102, 103, 104, 105, 106, 107] rfl (by decide +kernel)
set_option maxRecDepth 20000 in
theorem gX11_read_X11_takes : GoodIn wsX11_read (wsV RX11 241 RX11 yX11_takes wsX11_takes) := goodIn_app (goodIn_of _ (by decide +kernel)) ggX11_read_X11_takes
set_option maxRecDepth 20000 in
theorem ggX11_read_X11_takesItem : GoodIn wsX11_read wsX11_takesItem := goodIn_r _ [46, 28, 29, 30, 9, 31, 2, 13, 12, 1, 47, 48, 49, 50, 3, 4, 32, 33, 34, 35, 6, 7, 8, 10, 11, 14, 15, 16, 17, 18, 19, 20, 21, 22, 23, 24, 25, 26, 27, 36, 37, 38, 39, 51, 52, 53, 54, 55, 56, 57, 58, 59, 60, 61, 62, 63, 64, 65, 66, 67, 68, 69, 70, 71, 72, 73, 74, 75, 76, 77, 78, 79, 80, 81, 82, 83, 84, 85, 86, 87, 88, 89, 90, 91, 92, 93, 94, 95, 96, 97, 98, 99, 100, 101, 102, 103, 104, 105, 106, 107] rfl (by decide +kernel)
set_option maxRecDepth 20000 in
theorem gX11_read_X11_takesItem : GoodIn wsX11_read (wsV RX11 262 RX11 yX11_takesItem wsX11_takesItem) := goodIn_app (goodIn_of _ (by decide +kernel)) ggX11_read_X11_takesItem
theorem dX11_fraction_0 : decode cX11_fraction 0 = .ok (.lload_n 1, 1) := by decide +kernel
theorem dX11_fraction_1 : decode cX11_fraction 1 = .ok (.lstore 5, 2) := by decide +kernel
theorem dX11_fraction_10 : decode cX11_fraction 10 = .ok (.ifCond .eq 21, 3) := by decide +kernel
theorem dX11_fraction_13 : decode cX11_fraction 13 = .ok (.lload 5, 2) := by decide +kernel
theorem dX11_fraction_15 : decode cX11_fraction 15 = .ok (.lload 7, 2) := by decide +kernel
theorem dX11_fraction_17 : decode cX11_fraction 17 = .ok (.lrem, 1) := by decide +kernel
theorem dX11_fraction_18 : decode cX11_fraction 18 = .ok (.lstore 9, 2) := by decide +kernel
theorem dX11_fraction_20 : decode cX11_fraction 20 = .ok (.lload 7, 2) := by decide +kernel
theorem dX11_fraction_22 : decode cX11_fraction 22 = .ok (.lstore 5, 2) := by decide +kernel
theorem dX11_fraction_24 : decode cX11_fraction 24 = .ok (.lload 9, 2) := by decide +kernel
theorem dX11_fraction_26 : decode cX11_fraction 26 = .ok (.lstore 7, 2) := by decide +kernel
theorem dX11_fraction_28 : decode cX11_fraction 28 = .ok (.goto (-22), 3) := by decide +kernel
theorem dX11_fraction_3 : decode cX11_fraction 3 = .ok (.lload_n 3, 1) := by decide +kernel
theorem dX11_fraction_31 : decode cX11_fraction 31 = .ok (.aload_n 0, 1) := by decide +kernel
theorem dX11_fraction_32 : decode cX11_fraction 32 = .ok (.lload_n 1, 1) := by decide +kernel
theorem dX11_fraction_33 : decode cX11_fraction 33 = .ok (.lload 5, 2) := by decide +kernel
theorem dX11_fraction_35 : decode cX11_fraction 35 = .ok (.ldiv, 1) := by decide +kernel
theorem dX11_fraction_36 : decode cX11_fraction 36 = .ok (.putfield 182, 3) := by decide +kernel
theorem dX11_fraction_39 : decode cX11_fraction 39 = .ok (.aload_n 0, 1) := by decide +kernel
theorem dX11_fraction_4 : decode cX11_fraction 4 = .ok (.lstore 7, 2) := by decide +kernel
theorem dX11_fraction_40 : decode cX11_fraction 40 = .ok (.lload_n 3, 1) := by decide +kernel
theorem dX11_fraction_41 : decode cX11_fraction 41 = .ok (.lload 5, 2) := by decide +kernel
theorem dX11_fraction_43 : decode cX11_fraction 43 = .ok (.ldiv, 1) := by decide +kernel
theorem dX11_fraction_44 : decode cX11_fraction 44 = .ok (.putfield 23, 3) := by decide +kernel
theorem dX11_fraction_47 : decode cX11_fraction 47 = .ok (.return_, 1) := by decide +kernel
theorem dX11_fraction_6 : decode cX11_fraction 6 = .ok (.lload 7, 2) := by decide +kernel
theorem dX11_fraction_8 : decode cX11_fraction 8 = .ok (.lconst 0, 1) := by decide +kernel
theorem dX11_fraction_9 : decode cX11_fraction 9 = .ok (.lcmp, 1) := by decide +kernel
theorem dX11_read_0 : decode cX11_read 0 = .ok (.aload_n 0, 1) := by decide +kernel
theorem dX11_read_1 : decode cX11_read 1 = .ok (.iconst 0, 1) := by decide +kernel
theorem dX11_read_100 : decode cX11_read 100 = .ok (.iconst 3, 1) := by decide +kernel
theorem dX11_read_101 : decode cX11_read 101 = .ok (.if_icmp .eq 11, 3) := by decide +kernel
theorem dX11_read_104 : decode cX11_read 104 = .ok (.bipush (-10), 2) := by decide +kernel
theorem dX11_read_106 : decode cX11_read 106 = .ok (.aload_n 0, 1) := by decide +kernel
theorem dX11_read_107 : decode cX11_read 107 = .ok (.getfield 217, 3) := by decide +kernel
theorem dX11_read_11 : decode cX11_read 11 = .ok (.bipush 99, 2) := by decide +kernel
theorem dX11_read_110 : decode cX11_read 110 = .ok (.isub, 1) := by decide +kernel
theorem dX11_read_111 : decode cX11_read 111 = .ok (.ireturn, 1) := by decide +kernel
theorem dX11_read_112 : decode cX11_read 112 = .ok (.aload_n 0, 1) := by decide +kernel
theorem dX11_read_113 : decode cX11_read 113 = .ok (.invokevirtual 238, 3) := by decide +kernel
theorem dX11_read_116 : decode cX11_read 116 = .ok (.iinc 1 1, 3) := by decide +kernel
theorem dX11_read_119 : decode cX11_read 119 = .ok (.goto (-37), 3) := by decide +kernel
theorem dX11_read_122 : decode cX11_read 122 = .ok (.iconst 0, 1) := by decide +kernel
theorem dX11_read_123 : decode cX11_read 123 = .ok (.istore_n 2, 1) := by decide +kernel
theorem dX11_read_124 : decode cX11_read 124 = .ok (.iload_n 2, 1) := by decide +kernel
theorem dX11_read_125 : decode cX11_read 125 = .ok (.bipush 123, 2) := by decide +kernel
theorem dX11_read_127 : decode cX11_read 127 = .ok (.if_icmp .ge 21, 3) := by decide +kernel
theorem dX11_read_13 : decode cX11_read 13 = .ok (.bipush 101, 2) := by decide +kernel
theorem dX11_read_130 : decode cX11_read 130 = .ok (.aload_n 0, 1) := by decide +kernel
theorem dX11_read_131 : decode cX11_read 131 = .ok (.getfield 7, 3) := by decide +kernel
theorem dX11_read_134 : decode cX11_read 134 = .ok (.iload_n 2, 1) := by decide +kernel
theorem dX11_read_135 : decode cX11_read 135 = .ok (.aload_n 0, 1) := by decide +kernel
theorem dX11_read_136 : decode cX11_read 136 = .ok (.getfield 42, 3) := by decide +kernel
theorem dX11_read_139 : decode cX11_read 139 = .ok (.iload_n 2, 1) := by decide +kernel
theorem dX11_read_140 : decode cX11_read 140 = .ok (.iaload, 1) := by decide +kernel
theorem dX11_read_141 : decode cX11_read 141 = .ok (.iastore, 1) := by decide +kernel
theorem dX11_read_142 : decode cX11_read 142 = .ok (.iinc 2 1, 3) := by decide +kernel
theorem dX11_read_145 : decode cX11_read 145 = .ok (.goto (-21), 3) := by decide +kernel
theorem dX11_read_148 : decode cX11_read 148 = .ok (.iload_n 1, 1) := by decide +kernel
theorem dX11_read_149 : decode cX11_read 149 = .ok (.ireturn, 1) := by decide +kernel
theorem dX11_read_15 : decode cX11_read 15 = .ok (.iconst 0, 1) := by decide +kernel
theorem dX11_read_16 : decode cX11_read 16 = .ok (.iconst 0, 1) := by decide +kernel
theorem dX11_read_17 : decode cX11_read 17 = .ok (.invokevirtual 245, 3) := by decide +kernel
theorem dX11_read_2 : decode cX11_read 2 = .ok (.invokevirtual 235, 3) := by decide +kernel
theorem dX11_read_20 : decode cX11_read 20 = .ok (.ifCond .ne 11, 3) := by decide +kernel
theorem dX11_read_23 : decode cX11_read 23 = .ok (.bipush (-10), 2) := by decide +kernel
theorem dX11_read_25 : decode cX11_read 25 = .ok (.aload_n 0, 1) := by decide +kernel
theorem dX11_read_26 : decode cX11_read 26 = .ok (.getfield 217, 3) := by decide +kernel
theorem dX11_read_29 : decode cX11_read 29 = .ok (.isub, 1) := by decide +kernel
theorem dX11_read_30 : decode cX11_read 30 = .ok (.ireturn, 1) := by decide +kernel
theorem dX11_read_31 : decode cX11_read 31 = .ok (.aload_n 0, 1) := by decide +kernel
theorem dX11_read_32 : decode cX11_read 32 = .ok (.invokevirtual 238, 3) := by decide +kernel
theorem dX11_read_35 : decode cX11_read 35 = .ok (.aload_n 0, 1) := by decide +kernel
theorem dX11_read_36 : decode cX11_read 36 = .ok (.iconst 0, 1) := by decide +kernel
theorem dX11_read_37 : decode cX11_read 37 = .ok (.bipush 10, 2) := by decide +kernel
theorem dX11_read_39 : decode cX11_read 39 = .ok (.bipush 60, 2) := by decide +kernel
theorem dX11_read_41 : decode cX11_read 41 = .ok (.invokevirtual 241, 3) := by decide +kernel
theorem dX11_read_44 : decode cX11_read 44 = .ok (.ifCond .eq 11, 3) := by decide +kernel
theorem dX11_read_47 : decode cX11_read 47 = .ok (.aload_n 0, 1) := by decide +kernel
theorem dX11_read_48 : decode cX11_read 48 = .ok (.getfield 223, 3) := by decide +kernel
theorem dX11_read_5 : decode cX11_read 5 = .ok (.aload_n 0, 1) := by decide +kernel
theorem dX11_read_51 : decode cX11_read 51 = .ok (.iconst 3, 1) := by decide +kernel
theorem dX11_read_52 : decode cX11_read 52 = .ok (.if_icmp .eq 11, 3) := by decide +kernel
theorem dX11_read_55 : decode cX11_read 55 = .ok (.bipush (-10), 2) := by decide +kernel
theorem dX11_read_57 : decode cX11_read 57 = .ok (.aload_n 0, 1) := by decide +kernel
theorem dX11_read_58 : decode cX11_read 58 = .ok (.getfield 217, 3) := by decide +kernel
theorem dX11_read_6 : decode cX11_read 6 = .ok (.iconst 4, 1) := by decide +kernel
theorem dX11_read_61 : decode cX11_read 61 = .ok (.isub, 1) := by decide +kernel
theorem dX11_read_62 : decode cX11_read 62 = .ok (.ireturn, 1) := by decide +kernel
theorem dX11_read_63 : decode cX11_read 63 = .ok (.aload_n 0, 1) := by decide +kernel
theorem dX11_read_64 : decode cX11_read 64 = .ok (.invokevirtual 238, 3) := by decide +kernel
theorem dX11_read_67 : decode cX11_read 67 = .ok (.aload_n 0, 1) := by decide +kernel
theorem dX11_read_68 : decode cX11_read 68 = .ok (.getfield 42, 3) := by decide +kernel
theorem dX11_read_7 : decode cX11_read 7 = .ok (.bipush 114, 2) := by decide +kernel
theorem dX11_read_71 : decode cX11_read 71 = .ok (.aload_n 0, 1) := by decide +kernel
theorem dX11_read_72 : decode cX11_read 72 = .ok (.getfield 45, 3) := by decide +kernel
theorem dX11_read_75 : decode cX11_read 75 = .ok (.iconst 0, 1) := by decide +kernel
theorem dX11_read_76 : decode cX11_read 76 = .ok (.iaload, 1) := by decide +kernel
theorem dX11_read_77 : decode cX11_read 77 = .ok (.invokestatic 48, 3) := by decide +kernel
theorem dX11_read_80 : decode cX11_read 80 = .ok (.iconst 1, 1) := by decide +kernel
theorem dX11_read_81 : decode cX11_read 81 = .ok (.istore_n 1, 1) := by decide +kernel
theorem dX11_read_82 : decode cX11_read 82 = .ok (.aload_n 0, 1) := by decide +kernel
theorem dX11_read_83 : decode cX11_read 83 = .ok (.getfield 223, 3) := by decide +kernel
theorem dX11_read_86 : decode cX11_read 86 = .ok (.ifCond .eq 36, 3) := by decide +kernel
theorem dX11_read_89 : decode cX11_read 89 = .ok (.aload_n 0, 1) := by decide +kernel
theorem dX11_read_9 : decode cX11_read 9 = .ok (.bipush 97, 2) := by decide +kernel
theorem dX11_read_90 : decode cX11_read 90 = .ok (.invokevirtual 262, 3) := by decide +kernel
theorem dX11_read_93 : decode cX11_read 93 = .ok (.ifCond .eq 11, 3) := by decide +kernel
theorem dX11_read_96 : decode cX11_read 96 = .ok (.aload_n 0, 1) := by decide +kernel
theorem dX11_read_97 : decode cX11_read 97 = .ok (.getfield 223, 3) := by decide +kernel
theorem in_X11_read_X11 : ∀ w ∈ wsX110, w ∈ wsX11_read := by decide +kernel
theorem lk_X11_read_217 : Cond.fieldLink RX11 217 "EggSpoonsModel" "tokenAt" "I" ∈ wsX11_read := by decide +kernel
theorem lk_X11_read_223 : Cond.fieldLink RX11 223 "EggSpoonsModel" "token" "I" ∈ wsX11_read := by decide +kernel
theorem lk_X11_read_42 : Cond.fieldLink RX11 42 "EggSpoonsModel" "anew" "[I" ∈ wsX11_read := by decide +kernel
theorem lk_X11_read_45 : Cond.fieldLink RX11 45 "EggSpoonsModel" "values" "[I" ∈ wsX11_read := by decide +kernel
theorem lk_X11_read_7 : Cond.fieldLink RX11 7 "EggSpoonsModel" "all" "[I" ∈ wsX11_read := by decide +kernel
theorem hdV_X11_takesItem : yX11_takesItem.cls = RX11 ∧ yX11_takesItem.cls ≠ "java/lang/invoke/MethodHandle" ∧ yX11_takesItem.cls ≠ "java/lang/invoke/VarHandle" ∧ (parseMethodDescriptor yX11_takesItem.desc).map (fun d => d.parameters.length) = some 0 := by decide +kernel
set_option maxHeartbeats 4000000 in
set_option maxRecDepth 100000 in
/-- read -/
theorem m_read (l : Launch) (X : EX) (m0 : Nat) (ma : Nat → Nat) (la : Int64) (lb : Int64) (n : Nat) (t : Nat → Nat) (v : Nat → Int32) (fa : Nat → Int32) (ba : Nat → Nat) (fd : Nat → Int32) (fv : Nat → Int32) (fw : Nat → Int32) (bw : Nat → Nat) (hI_n : n ≤ 150) (hI_t : InT t) (hI_fa : InM fa ba) (hI_fw : InM fw bw) (sz : Nat) : Met l yX11_read wsX11_read ({ frames := 7, cells := 0, slots := 0, locals := 155 } : Room) (pE X [.ref m0] (@HAppend.hAppend va_W va_W va_W _ (mW m0 ma la lb n t v) (@HAppend.hAppend va_W va_W va_W _ ([((ma 0), .inl (X.2.1, 371, .inl fa))]) (@HAppend.hAppend va_W va_W va_W _ ([((ma 10), .inl (X.2.1, 150, .inl fd))]) (@HAppend.hAppend va_W va_W va_W _ ([((ma 17), .inl (X.2.1, 3, .inl fv))]) ([((ma 16), .inl (X.2.1, 123, .inl fw))]))))) sz) (qI (fun (r : Int32) (u : (Nat → Nat) × (Nat → Int32) × (Nat → Int32) × (Nat → Nat) × (Nat → Int32) × (Nat → Int32) × (Nat → Nat)) => InT u.1 ∧ InM u.2.2.1 u.2.2.2.1 ∧ InM u.2.2.2.2.2.1 u.2.2.2.2.2.2 ∧ (True)) X (fun (u : (Nat → Nat) × (Nat → Int32) × (Nat → Int32) × (Nat → Nat) × (Nat → Int32) × (Nat → Int32) × (Nat → Nat)) => @HAppend.hAppend va_W va_W va_W _ (mW m0 ma la lb n u.1 u.2.1) (@HAppend.hAppend va_W va_W va_W _ ([((ma 0), .inl (X.2.1, 371, .inl u.2.2.1))]) (@HAppend.hAppend va_W va_W va_W _ ([((ma 10), .inl (X.2.1, 150, .inl fd))]) (@HAppend.hAppend va_W va_W va_W _ ([((ma 17), .inl (X.2.1, 3, .inl u.2.2.2.2.1))]) ([((ma 16), .inl (X.2.1, 123, .inl u.2.2.2.2.2.1))]))))) (@HAppend.hAppend va_W va_W va_W _ (mW m0 ma la lb n t v) (@HAppend.hAppend va_W va_W va_W _ ([((ma 0), .inl (X.2.1, 371, .inl fa))]) (@HAppend.hAppend va_W va_W va_W _ ([((ma 10), .inl (X.2.1, 150, .inl fd))]) (@HAppend.hAppend va_W va_W va_W _ ([((ma 17), .inl (X.2.1, 3, .inl fv))]) ([((ma 16), .inl (X.2.1, 123, .inl fw))]))))) sz) 0 0 (va_A (@HAppend.hAppend va_W va_W va_W _ (mW m0 ma la lb n t v) (@HAppend.hAppend va_W va_W va_W _ ([((ma 0), .inl (X.2.1, 371, .inl fa))]) (@HAppend.hAppend va_W va_W va_W _ ([((ma 10), .inl (X.2.1, 150, .inl fd))]) (@HAppend.hAppend va_W va_W va_W _ ([((ma 17), .inl (X.2.1, 3, .inl fv))]) ([((ma 16), .inl (X.2.1, 123, .inl fw))]))))) sz) := by
  refine mk_met (B := (va_A (@HAppend.hAppend va_W va_W va_W _ (mW m0 ma la lb n t v) (@HAppend.hAppend va_W va_W va_W _ ([((ma 0), .inl (X.2.1, 371, .inl fa))]) (@HAppend.hAppend va_W va_W va_W _ ([((ma 10), .inl (X.2.1, 150, .inl fd))]) (@HAppend.hAppend va_W va_W va_W _ ([((ma 17), .inl (X.2.1, 3, .inl fv))]) ([((ma 16), .inl (X.2.1, 123, .inl fw))]))))) sz)) (A := (va_A (@HAppend.hAppend va_W va_W va_W _ (mW m0 ma la lb n t v) (@HAppend.hAppend va_W va_W va_W _ ([((ma 0), .inl (X.2.1, 371, .inl fa))]) (@HAppend.hAppend va_W va_W va_W _ ([((ma 10), .inl (X.2.1, 150, .inl fd))]) (@HAppend.hAppend va_W va_W va_W _ ([((ma 17), .inl (X.2.1, 3, .inl fv))]) ([((ma 16), .inl (X.2.1, 123, .inl fw))]))))) sz)) (cc := cX11_read) (maxL := 3) (ret := (some .int)) (by decide) rfl (Nat.le_of_ble_eq_true rfl) k_w k_a (fun p e s m below meth c S zr zlk znm zsz G ls hl => ?_)
  have S : CallFix p m c cX11_read 3 s _ wsX11_read RX11 := S
  have zx := S.1
  have zb := S.2.1
  have hl : lv_has ls 3 [(0, .ref m0)] := hl
  have hO_t := hI_t
  obtain ⟨ht0_t, ht1_t⟩ := hO_t
  have hO_fa := hI_fa.2
  obtain ⟨hm0_fa, hm1_fa, hm2_fa, hm3_fa, hm4_fa⟩ := hO_fa
  have hO_fw := hI_fw.2
  obtain ⟨hm0_fw, hm1_fw, hm2_fw, hm3_fw, hm4_fw⟩ := hO_fw
  refine lv_aload_n zx zb dX11_read_0 rfl (lv_at hl 0 rfl) ?_
  refine lv_iconst (v := 0) zx zb dX11_read_1 (by decide) ?_
  refine b_wv (cells' := 0) (slots' := 0) (wr := @HAppend.hAppend va_W va_W va_W _ ([((ma 0), .inl (X.2.1, 371, .inl fa))]) (@HAppend.hAppend va_W va_W va_W _ ([((ma 17), .inl (X.2.1, 3, .inl fv))]) ([((ma 16), .inl (X.2.1, 123, .inl fw))]))) G rfl rfl [0, 2] [1, 3, 4] rfl rfl rfl rfl (n_V (As := [.int 0]) (rest := []) (C := RX11) (T := TX11) (N := 18) (ci := 9) S G (m_lookAt l X m0 ma la lb n t v fd 0 hI_n hI_t (by omega) s.heap.size) gX11_read_X11_lookAt rfl rfl rfl hdV_X11_lookAt ⟨Nat.le_of_ble_eq_true rfl, Nat.le_of_ble_eq_true rfl⟩ [0, 2] rfl rfl 0 rfl rfl rfl hl.1 (Nat.le_of_ble_eq_true rfl) dX11_read_2 ⟨Nat.le_of_ble_eq_true rfl, Nat.le_of_ble_eq_true rfl⟩) (fun u_1 H locs hp_1 G => ?_)
  obtain ⟨t_1a, v_1b⟩ := u_1
  try dsimp only at hp_1
  obtain ⟨hI_t_1a, hq_1⟩ := hp_1
  have hO_t_1a := hI_t_1a
  obtain ⟨ht0_t_1a, ht1_t_1a⟩ := hO_t_1a
  have G : wd X (va_A (@HAppend.hAppend va_W va_W va_W _ (mW m0 ma la lb n t v) (@HAppend.hAppend va_W va_W va_W _ ([((ma 0), .inl (X.2.1, 371, .inl fa))]) (@HAppend.hAppend va_W va_W va_W _ ([((ma 10), .inl (X.2.1, 150, .inl fd))]) (@HAppend.hAppend va_W va_W va_W _ ([((ma 17), .inl (X.2.1, 3, .inl fv))]) ([((ma 16), .inl (X.2.1, 123, .inl fw))]))))) sz) (va_A (@HAppend.hAppend va_W va_W va_W _ (mW m0 ma la lb n t v) (@HAppend.hAppend va_W va_W va_W _ ([((ma 0), .inl (X.2.1, 371, .inl fa))]) (@HAppend.hAppend va_W va_W va_W _ ([((ma 10), .inl (X.2.1, 150, .inl fd))]) (@HAppend.hAppend va_W va_W va_W _ ([((ma 17), .inl (X.2.1, 3, .inl fv))]) ([((ma 16), .inl (X.2.1, 123, .inl fw))]))))) sz) s (@HAppend.hAppend va_W va_W va_W _ ([((ma 0), .inl (X.2.1, 371, .inl fa))]) (@HAppend.hAppend va_W va_W va_W _ ([((ma 17), .inl (X.2.1, 3, .inl fv))]) (@HAppend.hAppend va_W va_W va_W _ ([((ma 16), .inl (X.2.1, 123, .inl fw))]) (@HAppend.hAppend va_W va_W va_W _ (mW m0 ma la lb n t_1a v_1b) ([((ma 10), .inl (X.2.1, 150, .inl fd))]))))) H locs := G
  obtain ⟨hz0_1, hz1_1, hz2_1⟩ := hq_1
  refine lv_aload_n zx zb dX11_read_5 rfl (lv_at hl 0 rfl) ?_
  refine lv_iconst (v := 4) zx zb dX11_read_6 (by decide) ?_
  refine lv_bipush (v := 114) zx zb dX11_read_7 (by decide) ?_
  refine lv_bipush (v := 97) zx zb dX11_read_9 (by decide) ?_
  refine lv_bipush (v := 99) zx zb dX11_read_11 (by decide) ?_
  refine lv_bipush (v := 101) zx zb dX11_read_13 (by decide) ?_
  refine lv_iconst (v := 0) zx zb dX11_read_15 (by decide) ?_
  refine lv_iconst (v := 0) zx zb dX11_read_16 (by decide) ?_
  refine o_ri (cells' := 0) (slots' := 0) G rfl rfl (n_V (As := [.int 4, .int 114, .int 97, .int 99, .int 101, .int 0, .int 0]) (rest := []) (C := RX11) (T := TX11) (N := 18) (ci := 9) S G (m_spells l X m0 ma la lb n t_1a v_1b fd 4 114 97 99 101 0 0 hI_n hI_t_1a ⟨by omega, by first | assumption | omega⟩ (by omega) H.size) gX11_read_X11_spells rfl rfl rfl hdV_X11_spells ⟨Nat.le_of_ble_eq_true rfl, Nat.le_of_ble_eq_true rfl⟩ [3, 4] rfl rfl 3 rfl rfl rfl hl.1 (Nat.le_of_ble_eq_true rfl) dX11_read_17 ⟨Nat.le_of_ble_eq_true rfl, Nat.le_of_ble_eq_true rfl⟩) (fun r_2 u_2 H locs hp_2 G => ?_)
  have G : wd X (va_A (@HAppend.hAppend va_W va_W va_W _ (mW m0 ma la lb n t v) (@HAppend.hAppend va_W va_W va_W _ ([((ma 0), .inl (X.2.1, 371, .inl fa))]) (@HAppend.hAppend va_W va_W va_W _ ([((ma 10), .inl (X.2.1, 150, .inl fd))]) (@HAppend.hAppend va_W va_W va_W _ ([((ma 17), .inl (X.2.1, 3, .inl fv))]) ([((ma 16), .inl (X.2.1, 123, .inl fw))]))))) sz) (va_A (@HAppend.hAppend va_W va_W va_W _ (mW m0 ma la lb n t v) (@HAppend.hAppend va_W va_W va_W _ ([((ma 0), .inl (X.2.1, 371, .inl fa))]) (@HAppend.hAppend va_W va_W va_W _ ([((ma 10), .inl (X.2.1, 150, .inl fd))]) (@HAppend.hAppend va_W va_W va_W _ ([((ma 17), .inl (X.2.1, 3, .inl fv))]) ([((ma 16), .inl (X.2.1, 123, .inl fw))]))))) sz) s (@HAppend.hAppend va_W va_W va_W _ ([((ma 0), .inl (X.2.1, 371, .inl fa))]) (@HAppend.hAppend va_W va_W va_W _ ([((ma 17), .inl (X.2.1, 3, .inl fv))]) (@HAppend.hAppend va_W va_W va_W _ ([((ma 16), .inl (X.2.1, 123, .inl fw))]) (@HAppend.hAppend va_W va_W va_W _ (mW m0 ma la lb n t_1a v_1b) ([((ma 10), .inl (X.2.1, 150, .inl fd))]))))) H locs := G
  rcases hp_2 with rfl | rfl
  · refine lv_if_ne (tgt := 31) zx zb dX11_read_20 (by decide) (fun c_3 => absurd (by decide) c_3) (fun c_3 => ?_)
    refine lv_bipush (v := (-10)) zx zb dX11_read_23 (by decide) ?_
    refine lv_aload_n zx zb dX11_read_25 rfl (lv_at hl 0 rfl) ?_
    refine r_get (C := RX11) (T := TX11) (N := 18) (ci := 9) (v := .int (nI (t_1a 0))) S in_X11_read_X11 G 3 rfl rfl 12 (by decide) lk_X11_read_217 rfl dX11_read_26 ?_
    refine r_isub (v := ((-10) - (nI (t_1a 0)))) S rfl dX11_read_29 ?_
    exact e_int S zr zlk (vp_nar_int _) G (t_1a, v_1b, fa, ba, fv, fw, bw) [3, 0, 4, 1, 2] rfl rfl (Or.inr rfl) (⟨hI_t_1a, hI_fa, hI_fw, trivial⟩) dX11_read_30
  · refine lv_if_ne (tgt := 31) zx zb dX11_read_20 (by decide) (fun c_4 => ?_) (fun c_4 => absurd c_4 (by decide))
    refine lv_aload_n zx zb dX11_read_31 rfl (lv_at hl 0 rfl) ?_
    refine b_wv (cells' := 0) (slots' := 0) (wr := @HAppend.hAppend va_W va_W va_W _ ([((ma 0), .inl (X.2.1, 371, .inl fa))]) (@HAppend.hAppend va_W va_W va_W _ ([((ma 17), .inl (X.2.1, 3, .inl fv))]) ([((ma 16), .inl (X.2.1, 123, .inl fw))]))) G rfl rfl [3, 4] [0, 1, 2] rfl rfl rfl rfl (n_V (As := []) (rest := []) (C := RX11) (T := TX11) (N := 18) (ci := 9) S G (m_goBehind l X m0 ma la lb n t_1a v_1b fd hI_n hI_t_1a ⟨by omega, by first | assumption | omega⟩ H.size) gX11_read_X11_goBehind rfl rfl rfl hdV_X11_goBehind ⟨Nat.le_of_ble_eq_true rfl, Nat.le_of_ble_eq_true rfl⟩ [3, 4] rfl rfl 3 rfl rfl rfl hl.1 (Nat.le_of_ble_eq_true rfl) dX11_read_32 ⟨Nat.le_of_ble_eq_true rfl, Nat.le_of_ble_eq_true rfl⟩) (fun u_5 H locs hp_5 G => ?_)
    obtain ⟨t_5a, v_5b⟩ := u_5
    try dsimp only at hp_5
    obtain ⟨hI_t_5a, hq_5⟩ := hp_5
    have hO_t_5a := hI_t_5a
    obtain ⟨ht0_t_5a, ht1_t_5a⟩ := hO_t_5a
    have G : wd X (va_A (@HAppend.hAppend va_W va_W va_W _ (mW m0 ma la lb n t v) (@HAppend.hAppend va_W va_W va_W _ ([((ma 0), .inl (X.2.1, 371, .inl fa))]) (@HAppend.hAppend va_W va_W va_W _ ([((ma 10), .inl (X.2.1, 150, .inl fd))]) (@HAppend.hAppend va_W va_W va_W _ ([((ma 17), .inl (X.2.1, 3, .inl fv))]) ([((ma 16), .inl (X.2.1, 123, .inl fw))]))))) sz) (va_A (@HAppend.hAppend va_W va_W va_W _ (mW m0 ma la lb n t v) (@HAppend.hAppend va_W va_W va_W _ ([((ma 0), .inl (X.2.1, 371, .inl fa))]) (@HAppend.hAppend va_W va_W va_W _ ([((ma 10), .inl (X.2.1, 150, .inl fd))]) (@HAppend.hAppend va_W va_W va_W _ ([((ma 17), .inl (X.2.1, 3, .inl fv))]) ([((ma 16), .inl (X.2.1, 123, .inl fw))]))))) sz) s (@HAppend.hAppend va_W va_W va_W _ ([((ma 0), .inl (X.2.1, 371, .inl fa))]) (@HAppend.hAppend va_W va_W va_W _ ([((ma 17), .inl (X.2.1, 3, .inl fv))]) (@HAppend.hAppend va_W va_W va_W _ ([((ma 16), .inl (X.2.1, 123, .inl fw))]) (@HAppend.hAppend va_W va_W va_W _ (mW m0 ma la lb n t_5a v_5b) ([((ma 10), .inl (X.2.1, 150, .inl fd))]))))) H locs := G
    obtain ⟨hz0_5, hz1_5, hz2_5⟩ := hq_5
    refine lv_aload_n zx zb dX11_read_35 rfl (lv_at hl 0 rfl) ?_
    refine lv_iconst (v := 0) zx zb dX11_read_36 (by decide) ?_
    refine lv_bipush (v := 10) zx zb dX11_read_37 (by decide) ?_
    refine lv_bipush (v := 60) zx zb dX11_read_39 (by decide) ?_
    refine b_wi (cells' := 0) (slots' := 0) (wr := @HAppend.hAppend va_W va_W va_W _ ([((ma 0), .inl (X.2.1, 371, .inl fa))]) ([((ma 16), .inl (X.2.1, 123, .inl fw))])) G rfl rfl [3, 4, 1] [0, 2] rfl rfl rfl rfl (n_V (As := [.int 0, .int 10, .int 60]) (rest := []) (C := RX11) (T := TX11) (N := 18) (ci := 9) S G (m_takes0 l X m0 ma la lb n t_5a v_5b fd fv 10 60 hI_n hI_t_5a ⟨by omega, by first | assumption | omega⟩ H.size) gX11_read_X11_takes rfl rfl rfl hdV_X11_takes ⟨Nat.le_of_ble_eq_true rfl, Nat.le_of_ble_eq_true rfl⟩ [3, 4, 1] rfl rfl 3 rfl rfl rfl hl.1 (Nat.le_of_ble_eq_true rfl) dX11_read_41 ⟨Nat.le_of_ble_eq_true rfl, Nat.le_of_ble_eq_true rfl⟩) (fun r_6 u_6 H locs hp_6 G => ?_)
    obtain ⟨t_6a, v_6b, f_6c⟩ := u_6
    try dsimp only at hp_6
    obtain ⟨hI_t_6a, hq_6⟩ := hp_6
    have hO_t_6a := hI_t_6a
    obtain ⟨ht0_t_6a, ht1_t_6a⟩ := hO_t_6a
    have G : wd X (va_A (@HAppend.hAppend va_W va_W va_W _ (mW m0 ma la lb n t v) (@HAppend.hAppend va_W va_W va_W _ ([((ma 0), .inl (X.2.1, 371, .inl fa))]) (@HAppend.hAppend va_W va_W va_W _ ([((ma 10), .inl (X.2.1, 150, .inl fd))]) (@HAppend.hAppend va_W va_W va_W _ ([((ma 17), .inl (X.2.1, 3, .inl fv))]) ([((ma 16), .inl (X.2.1, 123, .inl fw))]))))) sz) (va_A (@HAppend.hAppend va_W va_W va_W _ (mW m0 ma la lb n t v) (@HAppend.hAppend va_W va_W va_W _ ([((ma 0), .inl (X.2.1, 371, .inl fa))]) (@HAppend.hAppend va_W va_W va_W _ ([((ma 10), .inl (X.2.1, 150, .inl fd))]) (@HAppend.hAppend va_W va_W va_W _ ([((ma 17), .inl (X.2.1, 3, .inl fv))]) ([((ma 16), .inl (X.2.1, 123, .inl fw))]))))) sz) s (@HAppend.hAppend va_W va_W va_W _ ([((ma 0), .inl (X.2.1, 371, .inl fa))]) (@HAppend.hAppend va_W va_W va_W _ ([((ma 16), .inl (X.2.1, 123, .inl fw))]) (@HAppend.hAppend va_W va_W va_W _ (mW m0 ma la lb n t_6a v_6b) (@HAppend.hAppend va_W va_W va_W _ ([((ma 10), .inl (X.2.1, 150, .inl fd))]) ([((ma 17), .inl (X.2.1, 3, .inl f_6c))]))))) H locs := G
    obtain ⟨⟨hz0_6, hz1_6, hz2_6⟩, hr_6⟩ := hq_6
    rcases hr_6 with rfl | ⟨rfl, hv_6, ha_6, hb_6⟩
    · refine lv_if_eq (tgt := 55) zx zb dX11_read_44 (by decide) (fun c_7 => ?_) (fun c_7 => absurd (by decide) c_7)
      refine lv_bipush (v := (-10)) zx zb dX11_read_55 (by decide) ?_
      refine lv_aload_n zx zb dX11_read_57 rfl (lv_at hl 0 rfl) ?_
      refine r_get (C := RX11) (T := TX11) (N := 18) (ci := 9) (v := .int (nI (t_6a 0))) S in_X11_read_X11 G 2 rfl rfl 12 (by decide) lk_X11_read_217 rfl dX11_read_58 ?_
      refine r_isub (v := ((-10) - (nI (t_6a 0)))) S rfl dX11_read_61 ?_
      exact e_int S zr zlk (vp_nar_int _) G (t_6a, v_6b, fa, ba, f_6c, fw, bw) [2, 0, 3, 4, 1] rfl rfl (Or.inr rfl) (⟨hI_t_6a, hI_fa, hI_fw, trivial⟩) dX11_read_62
    · refine lv_if_eq (tgt := 55) zx zb dX11_read_44 (by decide) (fun c_8 => absurd c_8 (by decide)) (fun c_8 => ?_)
      refine lv_aload_n zx zb dX11_read_47 rfl (lv_at hl 0 rfl) ?_
      refine r_get (C := RX11) (T := TX11) (N := 18) (ci := 9) (v := .int (v_6b 0)) S in_X11_read_X11 G 2 rfl rfl 14 (by decide) lk_X11_read_223 rfl dX11_read_48 ?_
      refine lv_iconst (v := 3) zx zb dX11_read_51 (by decide) ?_
      refine lv_icmp_eq (tgt := 63) zx zb dX11_read_52 (by decide) (fun c_9 => ?_) (fun c_9 => ?_)
      · refine lv_aload_n zx zb dX11_read_63 rfl (lv_at hl 0 rfl) ?_
        refine b_wv (cells' := 0) (slots' := 0) (wr := @HAppend.hAppend va_W va_W va_W _ ([((ma 0), .inl (X.2.1, 371, .inl fa))]) (@HAppend.hAppend va_W va_W va_W _ ([((ma 16), .inl (X.2.1, 123, .inl fw))]) ([((ma 17), .inl (X.2.1, 3, .inl f_6c))]))) G rfl rfl [2, 3] [0, 1, 4] rfl rfl rfl rfl (n_V (As := []) (rest := []) (C := RX11) (T := TX11) (N := 18) (ci := 9) S G (m_goBehind l X m0 ma la lb n t_6a v_6b fd hI_n hI_t_6a ⟨by omega, by first | assumption | omega⟩ H.size) gX11_read_X11_goBehind rfl rfl rfl hdV_X11_goBehind ⟨Nat.le_of_ble_eq_true rfl, Nat.le_of_ble_eq_true rfl⟩ [2, 3] rfl rfl 2 rfl rfl rfl hl.1 (Nat.le_of_ble_eq_true rfl) dX11_read_64 ⟨Nat.le_of_ble_eq_true rfl, Nat.le_of_ble_eq_true rfl⟩) (fun u_10 H locs hp_10 G => ?_)
        obtain ⟨t_10a, v_10b⟩ := u_10
        try dsimp only at hp_10
        obtain ⟨hI_t_10a, hq_10⟩ := hp_10
        have hO_t_10a := hI_t_10a
        obtain ⟨ht0_t_10a, ht1_t_10a⟩ := hO_t_10a
        have G : wd X (va_A (@HAppend.hAppend va_W va_W va_W _ (mW m0 ma la lb n t v) (@HAppend.hAppend va_W va_W va_W _ ([((ma 0), .inl (X.2.1, 371, .inl fa))]) (@HAppend.hAppend va_W va_W va_W _ ([((ma 10), .inl (X.2.1, 150, .inl fd))]) (@HAppend.hAppend va_W va_W va_W _ ([((ma 17), .inl (X.2.1, 3, .inl fv))]) ([((ma 16), .inl (X.2.1, 123, .inl fw))]))))) sz) (va_A (@HAppend.hAppend va_W va_W va_W _ (mW m0 ma la lb n t v) (@HAppend.hAppend va_W va_W va_W _ ([((ma 0), .inl (X.2.1, 371, .inl fa))]) (@HAppend.hAppend va_W va_W va_W _ ([((ma 10), .inl (X.2.1, 150, .inl fd))]) (@HAppend.hAppend va_W va_W va_W _ ([((ma 17), .inl (X.2.1, 3, .inl fv))]) ([((ma 16), .inl (X.2.1, 123, .inl fw))]))))) sz) s (@HAppend.hAppend va_W va_W va_W _ ([((ma 0), .inl (X.2.1, 371, .inl fa))]) (@HAppend.hAppend va_W va_W va_W _ ([((ma 16), .inl (X.2.1, 123, .inl fw))]) (@HAppend.hAppend va_W va_W va_W _ ([((ma 17), .inl (X.2.1, 3, .inl f_6c))]) (@HAppend.hAppend va_W va_W va_W _ (mW m0 ma la lb n t_10a v_10b) ([((ma 10), .inl (X.2.1, 150, .inl fd))]))))) H locs := G
        obtain ⟨hz0_10, hz1_10, hz2_10⟩ := hq_10
        refine lv_aload_n zx zb dX11_read_67 rfl (lv_at hl 0 rfl) ?_
        refine r_get (C := RX11) (T := TX11) (N := 18) (ci := 9) (v := .ref (ma 16)) S in_X11_read_X11 G 3 rfl rfl 16 (by decide) lk_X11_read_42 rfl dX11_read_68 ?_
        refine lv_aload_n zx zb dX11_read_71 rfl (lv_at hl 0 rfl) ?_
        refine r_get (C := RX11) (T := TX11) (N := 18) (ci := 9) (v := .ref (ma 17)) S in_X11_read_X11 G 3 rfl rfl 17 (by decide) lk_X11_read_45 rfl dX11_read_72 ?_
        refine lv_iconst (v := 0) zx zb dX11_read_75 (by decide) ?_
        refine r_iald (v := (f_6c 0)) S G 2 rfl (k_vp (by decide)) rfl dX11_read_76 ?_
        refine b_wv (cells' := 0) (slots' := 0) (wr := @HAppend.hAppend va_W va_W va_W _ ([((ma 0), .inl (X.2.1, 371, .inl fa))]) (@HAppend.hAppend va_W va_W va_W _ ([((ma 17), .inl (X.2.1, 3, .inl f_6c))]) (@HAppend.hAppend va_W va_W va_W _ (mW m0 ma la lb n t_10a v_10b) ([((ma 10), .inl (X.2.1, 150, .inl fd))])))) G rfl rfl [1] [0, 2, 3, 4] rfl rfl rfl rfl (n_S (As := [.ref (ma 16), .int (f_6c 0)]) (rest := []) S G (m_begin l X (ma 16) 123 fw bw (f_6c 0) hI_fw (by omega) (by omega) H.size) gX11_read_X11_begin rfl rfl rfl hdS_X11_begin ⟨Nat.le_of_ble_eq_true rfl, Nat.le_of_ble_eq_true rfl⟩ [1] rfl rfl rfl hl.1 (Nat.le_of_ble_eq_true rfl) dX11_read_77 ⟨Nat.le_of_ble_eq_true rfl, Nat.le_of_ble_eq_true rfl⟩) (fun u_12 H locs hp_12 G => ?_)
        obtain ⟨f_12a, b_12b⟩ := u_12
        obtain ⟨hI_f_12a, hq_12⟩ := hp_12
        have hO_f_12a := hI_f_12a.2
        obtain ⟨hm0_f_12a, hm1_f_12a, hm2_f_12a, hm3_f_12a, hm4_f_12a⟩ := hO_f_12a
        have G : wd X (va_A (@HAppend.hAppend va_W va_W va_W _ (mW m0 ma la lb n t v) (@HAppend.hAppend va_W va_W va_W _ ([((ma 0), .inl (X.2.1, 371, .inl fa))]) (@HAppend.hAppend va_W va_W va_W _ ([((ma 10), .inl (X.2.1, 150, .inl fd))]) (@HAppend.hAppend va_W va_W va_W _ ([((ma 17), .inl (X.2.1, 3, .inl fv))]) ([((ma 16), .inl (X.2.1, 123, .inl fw))]))))) sz) (va_A (@HAppend.hAppend va_W va_W va_W _ (mW m0 ma la lb n t v) (@HAppend.hAppend va_W va_W va_W _ ([((ma 0), .inl (X.2.1, 371, .inl fa))]) (@HAppend.hAppend va_W va_W va_W _ ([((ma 10), .inl (X.2.1, 150, .inl fd))]) (@HAppend.hAppend va_W va_W va_W _ ([((ma 17), .inl (X.2.1, 3, .inl fv))]) ([((ma 16), .inl (X.2.1, 123, .inl fw))]))))) sz) s (@HAppend.hAppend va_W va_W va_W _ ([((ma 0), .inl (X.2.1, 371, .inl fa))]) (@HAppend.hAppend va_W va_W va_W _ ([((ma 17), .inl (X.2.1, 3, .inl f_6c))]) (@HAppend.hAppend va_W va_W va_W _ (mW m0 ma la lb n t_10a v_10b) (@HAppend.hAppend va_W va_W va_W _ ([((ma 10), .inl (X.2.1, 150, .inl fd))]) ([((ma 16), .inl (X.2.1, 123, .inl f_12a))]))))) H locs := G
        refine lv_iconst (v := 1) zx zb dX11_read_80 (by decide) ?_
        refine lv_istore_n (lv' := [(1, .int 1), (0, .ref m0)]) zx zb dX11_read_81 rfl hl (by decide) rfl (fun ls hl => ?_)
        refine k_loop (P := ∀ (zm : Nat) (x82_1 : Int32) (f82_1 : Nat → Int32) (t82_2 : Nat → Nat) (v82_2 : Nat → Int32) (f82_4 : Nat → Int32) (b82_4 : Nat → Nat) (H : Heap) (locs : List Loc) (ls : Array Slot), ((150 - t82_2 0) < zm) → ((t82_2 0 + t82_2 1 ≤ n ∧ (v82_2 0 = 0 ∨ 1 ≤ t82_2 1))) → InT t82_2 → InM f82_4 b82_4 → wd X (va_A (@HAppend.hAppend va_W va_W va_W _ (mW m0 ma la lb n t v) (@HAppend.hAppend va_W va_W va_W _ ([((ma 0), .inl (X.2.1, 371, .inl fa))]) (@HAppend.hAppend va_W va_W va_W _ ([((ma 10), .inl (X.2.1, 150, .inl fd))]) (@HAppend.hAppend va_W va_W va_W _ ([((ma 17), .inl (X.2.1, 3, .inl fv))]) ([((ma 16), .inl (X.2.1, 123, .inl fw))]))))) sz) (va_A (@HAppend.hAppend va_W va_W va_W _ (mW m0 ma la lb n t v) (@HAppend.hAppend va_W va_W va_W _ ([((ma 0), .inl (X.2.1, 371, .inl fa))]) (@HAppend.hAppend va_W va_W va_W _ ([((ma 10), .inl (X.2.1, 150, .inl fd))]) (@HAppend.hAppend va_W va_W va_W _ ([((ma 17), .inl (X.2.1, 3, .inl fv))]) ([((ma 16), .inl (X.2.1, 123, .inl fw))]))))) sz) s (@HAppend.hAppend va_W va_W va_W _ ([((ma 0), .inl (X.2.1, 371, .inl fa))]) (@HAppend.hAppend va_W va_W va_W _ ([((ma 17), .inl (X.2.1, 3, .inl f82_1))]) (@HAppend.hAppend va_W va_W va_W _ (mW m0 ma la lb n t82_2 v82_2) (@HAppend.hAppend va_W va_W va_W _ ([((ma 10), .inl (X.2.1, 150, .inl fd))]) ([((ma 16), .inl (X.2.1, 123, .inl f82_4))]))))) H locs → lv_has ls 3 [(1, .int x82_1), (0, .ref m0)] → W p l e _ s m _ below meth c H locs _ _ _ (F0 m 82 ls [])) (fun loop => loop ((150 - t_10a 0) + 1) 1 f_6c t_10a v_10b f_12a b_12b _ _ _ (by omega) ⟨by omega, by assumption⟩ hI_t_10a hI_f_12a G hl) ?_
        intro zm
        induction zm with
        | zero => intro x82_1 f82_1 t82_2 v82_2 f82_4 b82_4 H locs ls zz q_x0 q_hI_t82_2 q_hI_f82_4 _ _; exact absurd zz (by omega)
        | succ zm ih82 =>
          intro x82_1 f82_1 t82_2 v82_2 f82_4 b82_4 H locs ls zm_82 hx82_0 hI_t82_2 hI_f82_4 G hl
          have hO_t82_2 := hI_t82_2
          obtain ⟨ht0_t82_2, ht1_t82_2⟩ := hO_t82_2
          have hO_f82_4 := hI_f82_4.2
          obtain ⟨hm0_f82_4, hm1_f82_4, hm2_f82_4, hm3_f82_4, hm4_f82_4⟩ := hO_f82_4
          have hxx := hx82_0
          obtain ⟨hx1, hx2⟩ := hxx
          refine lv_aload_n zx zb dX11_read_82 rfl (lv_at hl 1 rfl) ?_
          refine r_get (C := RX11) (T := TX11) (N := 18) (ci := 9) (v := .int (v82_2 0)) S in_X11_read_X11 G 2 rfl rfl 14 (by decide) lk_X11_read_223 rfl dX11_read_83 ?_
          refine lv_if_eq (tgt := 122) zx zb dX11_read_86 (by decide) (fun c_13 => ?_) (fun c_13 => ?_)
          · refine lv_iconst (v := 0) zx zb dX11_read_122 (by decide) ?_
            refine lv_istore_n (lv' := [(2, .int 0), (1, .int x82_1), (0, .ref m0)]) zx zb dX11_read_123 rfl hl (by decide) rfl (fun ls hl => ?_)
            refine k_loop (P := ∀ (zm : Nat) (k124 : Nat) (f124_0 : Nat → Int32) (b124_0 : Nat → Nat) (H : Heap) (locs : List Loc) (ls : Array Slot), 123 + 1 ≤ k124 + zm → InM f124_0 b124_0 → (k124 ≤ 123) → wd X (va_A (@HAppend.hAppend va_W va_W va_W _ (mW m0 ma la lb n t v) (@HAppend.hAppend va_W va_W va_W _ ([((ma 0), .inl (X.2.1, 371, .inl fa))]) (@HAppend.hAppend va_W va_W va_W _ ([((ma 10), .inl (X.2.1, 150, .inl fd))]) (@HAppend.hAppend va_W va_W va_W _ ([((ma 17), .inl (X.2.1, 3, .inl fv))]) ([((ma 16), .inl (X.2.1, 123, .inl fw))]))))) sz) (va_A (@HAppend.hAppend va_W va_W va_W _ (mW m0 ma la lb n t v) (@HAppend.hAppend va_W va_W va_W _ ([((ma 0), .inl (X.2.1, 371, .inl fa))]) (@HAppend.hAppend va_W va_W va_W _ ([((ma 10), .inl (X.2.1, 150, .inl fd))]) (@HAppend.hAppend va_W va_W va_W _ ([((ma 17), .inl (X.2.1, 3, .inl fv))]) ([((ma 16), .inl (X.2.1, 123, .inl fw))]))))) sz) s (@HAppend.hAppend va_W va_W va_W _ ([((ma 0), .inl (X.2.1, 371, .inl f124_0))]) (@HAppend.hAppend va_W va_W va_W _ ([((ma 17), .inl (X.2.1, 3, .inl f82_1))]) (@HAppend.hAppend va_W va_W va_W _ (mW m0 ma la lb n t82_2 v82_2) (@HAppend.hAppend va_W va_W va_W _ ([((ma 10), .inl (X.2.1, 150, .inl fd))]) ([((ma 16), .inl (X.2.1, 123, .inl f82_4))]))))) H locs → lv_has ls 3 [(2, .int (nI k124)), (1, .int x82_1), (0, .ref m0)] → W p l e _ s m _ below meth c H locs _ _ _ (F0 m 124 ls [])) (fun loop => loop (123 + 1) 0 fa ba _ _ _ (by omega) hI_fa (by omega) G hl) ?_
            intro zm
            induction zm with
            | zero => intro k124 f124_0 b124_0 H locs ls zz q_hI_f124_0 q_hk_k124 _ _; exact absurd zz (by omega)
            | succ zm ih124 =>
              intro k124 f124_0 b124_0 H locs ls zm_124 hI_f124_0 hk_k124 G hl
              have hO_f124_0 := hI_f124_0.2
              obtain ⟨hm0_f124_0, hm1_f124_0, hm2_f124_0, hm3_f124_0, hm4_f124_0⟩ := hO_f124_0
              refine lv_iload_n zx zb dX11_read_124 rfl (lv_at hl 0 rfl) ?_
              refine lv_bipush (v := 123) zx zb dX11_read_125 (by decide) ?_
              refine lv_icmp_ge (tgt := 148) zx zb dX11_read_127 (by decide) (fun c_14 => ?_) (fun c_14 => ?_)
              · have fc_14 := j_le (a := 123) (b := k124) (by omega) (by omega) c_14
                refine lv_iload_n zx zb dX11_read_148 rfl (lv_at hl 1 rfl) ?_
                exact e_int S zr zlk (vp_nar_int _) G (t82_2, v82_2, f124_0, b124_0, f82_1, f82_4, b82_4) [2, 0, 3, 1, 4] rfl rfl (Or.inr rfl) (⟨hI_t82_2, hI_f124_0, hI_f82_4, trivial⟩) dX11_read_149
              · have fc_14 := j_nle (a := 123) (b := k124) (by omega) (by omega) c_14
                refine lv_aload_n zx zb dX11_read_130 rfl (lv_at hl 2 rfl) ?_
                refine r_get (C := RX11) (T := TX11) (N := 18) (ci := 9) (v := .ref (ma 0)) S in_X11_read_X11 G 2 rfl rfl 0 (by decide) lk_X11_read_7 rfl dX11_read_131 ?_
                refine lv_iload_n zx zb dX11_read_134 rfl (lv_at hl 0 rfl) ?_
                refine lv_aload_n zx zb dX11_read_135 rfl (lv_at hl 2 rfl) ?_
                refine r_get (C := RX11) (T := TX11) (N := 18) (ci := 9) (v := .ref (ma 16)) S in_X11_read_X11 G 2 rfl rfl 16 (by decide) lk_X11_read_42 rfl dX11_read_136 ?_
                refine lv_iload_n zx zb dX11_read_139 rfl (lv_at hl 0 rfl) ?_
                refine r_iald (v := (f82_4 k124)) S G 4 rfl (vp_in_nI (by omega) (by decide)) (congrArg f82_4 (nI_clamp (by omega))) dX11_read_140 ?_
                refine r_iast S G 0 rfl (vp_in_nI (by omega) (by decide)) dX11_read_141 (fun H locs G => ?_)
                obtain ⟨b_17, hI_f_16⟩ := InM_c (j := (nI k124).toNatClampNeg) (k := k124) hI_f124_0 hI_f82_4 (nI_clamp (by omega))
                obtain ⟨f_16, hI_f_16, G⟩ : ∃ f_16 : Nat → Int32, InM f_16 b_17 ∧ wd X (va_A (@HAppend.hAppend va_W va_W va_W _ (mW m0 ma la lb n t v) (@HAppend.hAppend va_W va_W va_W _ ([((ma 0), .inl (X.2.1, 371, .inl fa))]) (@HAppend.hAppend va_W va_W va_W _ ([((ma 10), .inl (X.2.1, 150, .inl fd))]) (@HAppend.hAppend va_W va_W va_W _ ([((ma 17), .inl (X.2.1, 3, .inl fv))]) ([((ma 16), .inl (X.2.1, 123, .inl fw))]))))) sz) (va_A (@HAppend.hAppend va_W va_W va_W _ (mW m0 ma la lb n t v) (@HAppend.hAppend va_W va_W va_W _ ([((ma 0), .inl (X.2.1, 371, .inl fa))]) (@HAppend.hAppend va_W va_W va_W _ ([((ma 10), .inl (X.2.1, 150, .inl fd))]) (@HAppend.hAppend va_W va_W va_W _ ([((ma 17), .inl (X.2.1, 3, .inl fv))]) ([((ma 16), .inl (X.2.1, 123, .inl fw))]))))) sz) s (@HAppend.hAppend va_W va_W va_W _ ([((ma 0), .inl (X.2.1, 371, .inl f_16))]) (@HAppend.hAppend va_W va_W va_W _ ([((ma 17), .inl (X.2.1, 3, .inl f82_1))]) (@HAppend.hAppend va_W va_W va_W _ (mW m0 ma la lb n t82_2 v82_2) (@HAppend.hAppend va_W va_W va_W _ ([((ma 10), .inl (X.2.1, 150, .inl fd))]) ([((ma 16), .inl (X.2.1, 123, .inl f82_4))]))))) H locs := ⟨_, hI_f_16, G⟩
                have hO_f_16 := hI_f_16.2
                obtain ⟨hm0_f_16, hm1_f_16, hm2_f_16, hm3_f_16, hm4_f_16⟩ := hO_f_16
                refine lv_iinc (v := (nI (k124 + 1))) (lv' := [(2, .int (nI (k124 + 1))), (1, .int x82_1), (0, .ref m0)]) zx zb dX11_read_142 hl (k := 0) rfl (nI_add k124 1) (by decide) rfl (fun ls hl => ?_)
                refine lv_goto (tgt := 124) zx zb dX11_read_145 (by decide) ?_
                exact ih124 (k124 + 1) f_16 b_17 _ _ _ (by omega) hI_f_16 (by omega) G hl
          · refine lv_aload_n zx zb dX11_read_89 rfl (lv_at hl 1 rfl) ?_
            refine b_wi (cells' := 0) (slots' := 0) (wr := [((ma 0), .inl (X.2.1, 371, .inl fa))]) G rfl rfl [2, 3, 1, 4] [0] rfl rfl rfl rfl (n_V (As := []) (rest := []) (C := RX11) (T := TX11) (N := 18) (ci := 9) S G (m_takesItem l X m0 ma la lb n t82_2 v82_2 fd f82_1 f82_4 b82_4 hI_n hI_t82_2 hI_f82_4 ⟨by omega, by first | assumption | omega⟩ H.size) gX11_read_X11_takesItem rfl rfl rfl hdV_X11_takesItem ⟨Nat.le_of_ble_eq_true rfl, Nat.le_of_ble_eq_true rfl⟩ [2, 3, 1, 4] rfl rfl 2 rfl rfl rfl hl.1 (Nat.le_of_ble_eq_true rfl) dX11_read_90 ⟨Nat.le_of_ble_eq_true rfl, Nat.le_of_ble_eq_true rfl⟩) (fun r_18 u_18 H locs hp_18 G => ?_)
            obtain ⟨t_18a, v_18b, f_18c, f_18d, b_18e⟩ := u_18
            try dsimp only at hp_18
            obtain ⟨hI_t_18a, hI_f_18d, hq_18⟩ := hp_18
            have hO_t_18a := hI_t_18a
            obtain ⟨ht0_t_18a, ht1_t_18a⟩ := hO_t_18a
            have hO_f_18d := hI_f_18d.2
            obtain ⟨hm0_f_18d, hm1_f_18d, hm2_f_18d, hm3_f_18d, hm4_f_18d⟩ := hO_f_18d
            have G : wd X (va_A (@HAppend.hAppend va_W va_W va_W _ (mW m0 ma la lb n t v) (@HAppend.hAppend va_W va_W va_W _ ([((ma 0), .inl (X.2.1, 371, .inl fa))]) (@HAppend.hAppend va_W va_W va_W _ ([((ma 10), .inl (X.2.1, 150, .inl fd))]) (@HAppend.hAppend va_W va_W va_W _ ([((ma 17), .inl (X.2.1, 3, .inl fv))]) ([((ma 16), .inl (X.2.1, 123, .inl fw))]))))) sz) (va_A (@HAppend.hAppend va_W va_W va_W _ (mW m0 ma la lb n t v) (@HAppend.hAppend va_W va_W va_W _ ([((ma 0), .inl (X.2.1, 371, .inl fa))]) (@HAppend.hAppend va_W va_W va_W _ ([((ma 10), .inl (X.2.1, 150, .inl fd))]) (@HAppend.hAppend va_W va_W va_W _ ([((ma 17), .inl (X.2.1, 3, .inl fv))]) ([((ma 16), .inl (X.2.1, 123, .inl fw))]))))) sz) s (@HAppend.hAppend va_W va_W va_W _ ([((ma 0), .inl (X.2.1, 371, .inl fa))]) (@HAppend.hAppend va_W va_W va_W _ (mW m0 ma la lb n t_18a v_18b) (@HAppend.hAppend va_W va_W va_W _ ([((ma 10), .inl (X.2.1, 150, .inl fd))]) (@HAppend.hAppend va_W va_W va_W _ ([((ma 17), .inl (X.2.1, 3, .inl f_18c))]) ([((ma 16), .inl (X.2.1, 123, .inl f_18d))]))))) H locs := G
            obtain ⟨⟨hz0_18, hz1_18, hz2_18⟩, hr_18⟩ := hq_18
            rcases hr_18 with rfl | rfl
            · refine lv_if_eq (tgt := 104) zx zb dX11_read_93 (by decide) (fun c_19 => ?_) (fun c_19 => absurd (by decide) c_19)
              refine lv_bipush (v := (-10)) zx zb dX11_read_104 (by decide) ?_
              refine lv_aload_n zx zb dX11_read_106 rfl (lv_at hl 1 rfl) ?_
              refine r_get (C := RX11) (T := TX11) (N := 18) (ci := 9) (v := .int (nI (t_18a 0))) S in_X11_read_X11 G 1 rfl rfl 12 (by decide) lk_X11_read_217 rfl dX11_read_107 ?_
              refine r_isub (v := ((-10) - (nI (t_18a 0)))) S rfl dX11_read_110 ?_
              exact e_int S zr zlk (vp_nar_int _) G (t_18a, v_18b, fa, ba, f_18c, f_18d, b_18e) [1, 0, 2, 3, 4] rfl rfl (Or.inr rfl) (⟨hI_t_18a, hI_fa, hI_f_18d, trivial⟩) dX11_read_111
            · refine lv_if_eq (tgt := 104) zx zb dX11_read_93 (by decide) (fun c_20 => absurd c_20 (by decide)) (fun c_20 => ?_)
              refine lv_aload_n zx zb dX11_read_96 rfl (lv_at hl 1 rfl) ?_
              refine r_get (C := RX11) (T := TX11) (N := 18) (ci := 9) (v := .int (v_18b 0)) S in_X11_read_X11 G 1 rfl rfl 14 (by decide) lk_X11_read_223 rfl dX11_read_97 ?_
              refine lv_iconst (v := 3) zx zb dX11_read_100 (by decide) ?_
              refine lv_icmp_eq (tgt := 112) zx zb dX11_read_101 (by decide) (fun c_21 => ?_) (fun c_21 => ?_)
              · have h3_c_21 := k_tok3 hz2_18 c_21
                refine lv_aload_n zx zb dX11_read_112 rfl (lv_at hl 1 rfl) ?_
                refine b_wv (cells' := 0) (slots' := 0) (wr := @HAppend.hAppend va_W va_W va_W _ ([((ma 0), .inl (X.2.1, 371, .inl fa))]) (@HAppend.hAppend va_W va_W va_W _ ([((ma 17), .inl (X.2.1, 3, .inl f_18c))]) ([((ma 16), .inl (X.2.1, 123, .inl f_18d))]))) G rfl rfl [1, 2] [0, 3, 4] rfl rfl rfl rfl (n_V (As := []) (rest := []) (C := RX11) (T := TX11) (N := 18) (ci := 9) S G (m_goBehind l X m0 ma la lb n t_18a v_18b fd hI_n hI_t_18a ⟨by omega, by first | assumption | omega⟩ H.size) gX11_read_X11_goBehind rfl rfl rfl hdV_X11_goBehind ⟨Nat.le_of_ble_eq_true rfl, Nat.le_of_ble_eq_true rfl⟩ [1, 2] rfl rfl 1 rfl rfl rfl hl.1 (Nat.le_of_ble_eq_true rfl) dX11_read_113 ⟨Nat.le_of_ble_eq_true rfl, Nat.le_of_ble_eq_true rfl⟩) (fun u_22 H locs hp_22 G => ?_)
                obtain ⟨t_22a, v_22b⟩ := u_22
                try dsimp only at hp_22
                obtain ⟨hI_t_22a, hq_22⟩ := hp_22
                have hO_t_22a := hI_t_22a
                obtain ⟨ht0_t_22a, ht1_t_22a⟩ := hO_t_22a
                have G : wd X (va_A (@HAppend.hAppend va_W va_W va_W _ (mW m0 ma la lb n t v) (@HAppend.hAppend va_W va_W va_W _ ([((ma 0), .inl (X.2.1, 371, .inl fa))]) (@HAppend.hAppend va_W va_W va_W _ ([((ma 10), .inl (X.2.1, 150, .inl fd))]) (@HAppend.hAppend va_W va_W va_W _ ([((ma 17), .inl (X.2.1, 3, .inl fv))]) ([((ma 16), .inl (X.2.1, 123, .inl fw))]))))) sz) (va_A (@HAppend.hAppend va_W va_W va_W _ (mW m0 ma la lb n t v) (@HAppend.hAppend va_W va_W va_W _ ([((ma 0), .inl (X.2.1, 371, .inl fa))]) (@HAppend.hAppend va_W va_W va_W _ ([((ma 10), .inl (X.2.1, 150, .inl fd))]) (@HAppend.hAppend va_W va_W va_W _ ([((ma 17), .inl (X.2.1, 3, .inl fv))]) ([((ma 16), .inl (X.2.1, 123, .inl fw))]))))) sz) s (@HAppend.hAppend va_W va_W va_W _ ([((ma 0), .inl (X.2.1, 371, .inl fa))]) (@HAppend.hAppend va_W va_W va_W _ ([((ma 17), .inl (X.2.1, 3, .inl f_18c))]) (@HAppend.hAppend va_W va_W va_W _ ([((ma 16), .inl (X.2.1, 123, .inl f_18d))]) (@HAppend.hAppend va_W va_W va_W _ (mW m0 ma la lb n t_22a v_22b) ([((ma 10), .inl (X.2.1, 150, .inl fd))]))))) H locs := G
                obtain ⟨hz0_22, hz1_22, hz2_22⟩ := hq_22
                refine lv_iinc (v := (x82_1 + 1)) (lv' := [(1, .int (x82_1 + 1)), (0, .ref m0)]) zx zb dX11_read_116 hl (k := 0) rfl rfl (by decide) rfl (fun ls hl => ?_)
                refine lv_goto (tgt := 82) zx zb dX11_read_119 (by decide) ?_
                have G : wd X (va_A (@HAppend.hAppend va_W va_W va_W _ (mW m0 ma la lb n t v) (@HAppend.hAppend va_W va_W va_W _ ([((ma 0), .inl (X.2.1, 371, .inl fa))]) (@HAppend.hAppend va_W va_W va_W _ ([((ma 10), .inl (X.2.1, 150, .inl fd))]) (@HAppend.hAppend va_W va_W va_W _ ([((ma 17), .inl (X.2.1, 3, .inl fv))]) ([((ma 16), .inl (X.2.1, 123, .inl fw))]))))) sz) (va_A (@HAppend.hAppend va_W va_W va_W _ (mW m0 ma la lb n t v) (@HAppend.hAppend va_W va_W va_W _ ([((ma 0), .inl (X.2.1, 371, .inl fa))]) (@HAppend.hAppend va_W va_W va_W _ ([((ma 10), .inl (X.2.1, 150, .inl fd))]) (@HAppend.hAppend va_W va_W va_W _ ([((ma 17), .inl (X.2.1, 3, .inl fv))]) ([((ma 16), .inl (X.2.1, 123, .inl fw))]))))) sz) s (@HAppend.hAppend va_W va_W va_W _ ([((ma 0), .inl (X.2.1, 371, .inl fa))]) (@HAppend.hAppend va_W va_W va_W _ ([((ma 17), .inl (X.2.1, 3, .inl f_18c))]) (@HAppend.hAppend va_W va_W va_W _ (mW m0 ma la lb n t_22a v_22b) (@HAppend.hAppend va_W va_W va_W _ ([((ma 10), .inl (X.2.1, 150, .inl fd))]) ([((ma 16), .inl (X.2.1, 123, .inl f_18d))]))))) H locs := wd_sub G [0, 1, 3, 4, 2] rfl rfl
                exact ih82 (x82_1 + 1) f_18c t_22a v_22b f_18d b_18e _ _ _ (by omega) ⟨by omega, by assumption⟩ hI_t_22a hI_f_18d G hl
              · refine lv_bipush (v := (-10)) zx zb dX11_read_104 (by decide) ?_
                refine lv_aload_n zx zb dX11_read_106 rfl (lv_at hl 1 rfl) ?_
                refine r_get (C := RX11) (T := TX11) (N := 18) (ci := 9) (v := .int (nI (t_18a 0))) S in_X11_read_X11 G 1 rfl rfl 12 (by decide) lk_X11_read_217 rfl dX11_read_107 ?_
                refine r_isub (v := ((-10) - (nI (t_18a 0)))) S rfl dX11_read_110 ?_
                exact e_int S zr zlk (vp_nar_int _) G (t_18a, v_18b, fa, ba, f_18c, f_18d, b_18e) [1, 0, 2, 3, 4] rfl rfl (Or.inr rfl) (⟨hI_t_18a, hI_fa, hI_f_18d, trivial⟩) dX11_read_111
      · refine lv_bipush (v := (-10)) zx zb dX11_read_55 (by decide) ?_
        refine lv_aload_n zx zb dX11_read_57 rfl (lv_at hl 0 rfl) ?_
        refine r_get (C := RX11) (T := TX11) (N := 18) (ci := 9) (v := .int (nI (t_6a 0))) S in_X11_read_X11 G 2 rfl rfl 12 (by decide) lk_X11_read_217 rfl dX11_read_58 ?_
        refine r_isub (v := ((-10) - (nI (t_6a 0)))) S rfl dX11_read_61 ?_
        exact e_int S zr zlk (vp_nar_int _) G (t_6a, v_6b, fa, ba, f_6c, fw, bw) [2, 0, 3, 4, 1] rfl rfl (Or.inr rfl) (⟨hI_t_6a, hI_fa, hI_fw, trivial⟩) dX11_read_62
theorem in_X11_fraction_X11 : ∀ w ∈ wsX110, w ∈ wsX11_fraction := by decide +kernel
theorem lk_X11_fraction_182 : Cond.fieldLink RX11 182 "EggSpoonsModel" "above" "J" ∈ wsX11_fraction := by decide +kernel
theorem lk_X11_fraction_23 : Cond.fieldLink RX11 23 "EggSpoonsModel" "below" "J" ∈ wsX11_fraction := by decide +kernel
set_option maxHeartbeats 4000000 in
set_option maxRecDepth 100000 in
/-- fraction -/
theorem m_fraction (l : Launch) (X : EX) (m0 : Nat) (ma : Nat → Nat) (la : Int64) (lb : Int64) (n : Nat) (t : Nat → Nat) (v : Nat → Int32) (x1 : Int64) (x2 : Int64) (hI_n : n ≤ 150) (hI_t : InT t) (h2 : ¬ x2 = 0) (sz : Nat) : Met l yX11_fraction wsX11_fraction ({ frames := 0, cells := 0, slots := 0, locals := 0 } : Room) (pE X [.ref m0, .long x1, .long x2] (mW m0 ma la lb n t v) sz) (qV (fun (u : (Int64) × (Int64)) => (True)) X (fun (u : (Int64) × (Int64)) => mW m0 ma u.1 u.2 n t v) (mW m0 ma la lb n t v) sz) 0 0 (va_A (mW m0 ma la lb n t v) sz) := by
  refine mk_met (B := (va_A (mW m0 ma la lb n t v) sz)) (A := (va_A (mW m0 ma la lb n t v) sz)) (cc := cX11_fraction) (maxL := 11) (ret := none) (by decide) rfl (Nat.le_of_ble_eq_true rfl) k_w k_a (fun p e s m below meth c S zr zlk znm zsz G ls hl => ?_)
  have S : CallFix p m c cX11_fraction 11 s _ wsX11_fraction RX11 := S
  have zx := S.1
  have zb := S.2.1
  have hl : lv_has ls 11 [(0, .ref m0), (1, .long x1), (3, .long x2)] := hl
  have hO_t := hI_t
  obtain ⟨ht0_t, ht1_t⟩ := hO_t
  refine lv_lload_n zx zb dX11_fraction_0 rfl (lv_at hl 1 rfl) ?_
  refine lv_lstore (lv' := [(5, .long x1), (0, .ref m0), (1, .long x1), (3, .long x2)]) zx zb dX11_fraction_1 hl (by decide) rfl (fun ls hl => ?_)
  refine lv_lload_n zx zb dX11_fraction_3 rfl (lv_at hl 3 rfl) ?_
  refine lv_lstore (lv' := [(7, .long x2), (5, .long x1), (0, .ref m0), (1, .long x1), (3, .long x2)]) zx zb dX11_fraction_4 hl (by decide) rfl (fun ls hl => ?_)
  refine k_loop (P := ∀ (zm : Nat) (x6_7 : Int64) (x6_5 : Int64) (H : Heap) (locs : List Loc) (ls : Array Slot), ((x6_7).toInt.natAbs < zm) → (¬ (x6_5 = 0 ∧ x6_7 = 0)) → wd X (va_A (mW m0 ma la lb n t v) sz) (va_A (mW m0 ma la lb n t v) sz) s (mW m0 ma la lb n t v) H locs → lv_has ls 11 [(7, .long x6_7), (5, .long x6_5), (0, .ref m0), (1, .long x1), (3, .long x2)] → W p l e _ s m _ below meth c H locs _ _ _ (F0 m 6 ls [])) (fun loop => loop ((x2).toInt.natAbs + 1) x2 x1 _ _ _ (by omega) (by first | exact fun q => h2 q.2 | exact fun q => hb q.1)  G hl) ?_
  intro zm
  induction zm with
  | zero => intro x6_7 x6_5 H locs ls zz q_x0 _ _; exact absurd zz (by omega)
  | succ zm ih6 =>
    intro x6_7 x6_5 H locs ls zm_6 hx6_0 G hl
    refine lv_lload zx zb dX11_fraction_6 (lv_at hl 0 rfl) ?_
    refine lv_lconst (v := (Int32.toInt64 0)) zx zb dX11_fraction_8 (by decide) ?_
    refine W.lcmp zx zb dX11_fraction_9 ?_
    refine lv_if_eq (tgt := 31) zx zb dX11_fraction_10 (by decide) (fun c_1 => ?_) (fun c_1 => ?_)
    · refine lv_aload_n zx zb dX11_fraction_31 rfl (lv_at hl 2 rfl) ?_
      refine lv_lload_n zx zb dX11_fraction_32 rfl (lv_at hl 3 rfl) ?_
      refine lv_lload zx zb dX11_fraction_33 (lv_at hl 1 rfl) ?_
      refine lv_ldiv zx zb dX11_fraction_35 (k_a0 hx6_0 c_1) ?_
      refine k_ldE (fun y_2 => ?_)
      refine r_put (C := RX11) (T := TX11) (N := 18) (ci := 9) (v := .long y_2) S in_X11_fraction_X11 tyX11_ok nmX11 G 0 rfl rfl 4 (by decide) lk_X11_fraction_182 rfl rfl rfl (Nat.le_of_ble_eq_true rfl) dX11_fraction_36 (fun H locs G => ?_)
      obtain ⟨l_3, G⟩ : ∃ l_3 : Int64, wd X (va_A (mW m0 ma la lb n t v) sz) (va_A (mW m0 ma la lb n t v) sz) s (mW m0 ma l_3 lb n t v) H locs := ⟨_, G⟩
      refine lv_aload_n zx zb dX11_fraction_39 rfl (lv_at hl 2 rfl) ?_
      refine lv_lload_n zx zb dX11_fraction_40 rfl (lv_at hl 4 rfl) ?_
      refine lv_lload zx zb dX11_fraction_41 (lv_at hl 1 rfl) ?_
      refine lv_ldiv zx zb dX11_fraction_43 (k_a0 hx6_0 c_1) ?_
      refine k_ldE (fun y_4 => ?_)
      refine r_put (C := RX11) (T := TX11) (N := 18) (ci := 9) (v := .long y_4) S in_X11_fraction_X11 tyX11_ok nmX11 G 0 rfl rfl 5 (by decide) lk_X11_fraction_23 rfl rfl rfl (Nat.le_of_ble_eq_true rfl) dX11_fraction_44 (fun H locs G => ?_)
      obtain ⟨l_5, G⟩ : ∃ l_5 : Int64, wd X (va_A (mW m0 ma la lb n t v) sz) (va_A (mW m0 ma la lb n t v) sz) s (mW m0 ma l_3 l_5 n t v) H locs := ⟨_, G⟩
      exact e_void S zr zlk G (l_3, l_5) [0] rfl rfl (Or.inr rfl) (trivial) dX11_fraction_47
    · refine lv_lload zx zb dX11_fraction_13 (lv_at hl 1 rfl) ?_
      refine lv_lload zx zb dX11_fraction_15 (lv_at hl 0 rfl) ?_
      have hb := k_lnz c_1
      refine lv_lrem zx zb dX11_fraction_17 hb ?_
      obtain ⟨zr0, hzr0, ezr0⟩ : ∃ z : Int64, z.toInt.natAbs < (x6_7).toInt.natAbs ∧ x6_5 - x6_5 / x6_7 * x6_7 = z := ⟨_, k_rem hb, rfl⟩
      refine k_ld ezr0 ?_
      refine lv_lstore (lv' := [(9, .long zr0), (7, .long x6_7), (5, .long x6_5), (0, .ref m0), (1, .long x1), (3, .long x2)]) zx zb dX11_fraction_18 hl (by decide) rfl (fun ls hl => ?_)
      refine lv_lload zx zb dX11_fraction_20 (lv_at hl 1 rfl) ?_
      refine lv_lstore (lv' := [(5, .long x6_7), (9, .long zr0), (7, .long x6_7), (0, .ref m0), (1, .long x1), (3, .long x2)]) zx zb dX11_fraction_22 hl (by decide) rfl (fun ls hl => ?_)
      refine lv_lload zx zb dX11_fraction_24 (lv_at hl 1 rfl) ?_
      refine lv_lstore (lv' := [(7, .long zr0), (5, .long x6_7), (9, .long zr0), (0, .ref m0), (1, .long x1), (3, .long x2)]) zx zb dX11_fraction_26 hl (by decide) rfl (fun ls hl => ?_)
      refine lv_goto (tgt := 6) zx zb dX11_fraction_28 (by decide) ?_
      have hl := lv_sub hl (l' := [(7, .long zr0), (5, .long x6_7), (0, .ref m0), (1, .long x1), (3, .long x2)]) [0, 1, 3, 4, 5] rfl
      exact ih6 zr0 x6_7 _ _ _ (by omega) (by first | exact fun q => h2 q.2 | exact fun q => hb q.1)  G hl
