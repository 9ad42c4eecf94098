theorem dL_law_1000 : decode cL_law 1000 = .ok (.iconst 1, 1) := by decide +kernel
theorem dL_law_1001 : decode cL_law 1001 = .ok (.iadd, 1) := by decide +kernel
theorem dL_law_1002 : decode cL_law 1002 = .ok (.iaload, 1) := by decide +kernel
theorem dL_law_1003 : decode cL_law 1003 = .ok (.invokevirtual 127, 3) := by decide +kernel
theorem dL_law_1006 : decode cL_law 1006 = .ok (.aload_n 2, 1) := by decide +kernel
theorem dL_law_1007 : decode cL_law 1007 = .ok (.aload_n 0, 1) := by decide +kernel
theorem dL_law_1008 : decode cL_law 1008 = .ok (.iload_n 3, 1) := by decide +kernel
theorem dL_law_1009 : decode cL_law 1009 = .ok (.iconst 1, 1) := by decide +kernel
theorem dL_law_1010 : decode cL_law 1010 = .ok (.iadd, 1) := by decide +kernel
theorem dL_law_1011 : decode cL_law 1011 = .ok (.iaload, 1) := by decide +kernel
theorem dL_law_1012 : decode cL_law 1012 = .ok (.invokevirtual 130, 3) := by decide +kernel
theorem dL_law_1015 : decode cL_law 1015 = .ok (.if_icmp .eq 262, 3) := by decide +kernel
theorem dL_law_1020 : decode cL_law 1020 = .ok (.aload_n 1, 1) := by decide +kernel
theorem dL_law_1021 : decode cL_law 1021 = .ok (.aload_n 0, 1) := by decide +kernel
theorem dL_law_1022 : decode cL_law 1022 = .ok (.iload_n 3, 1) := by decide +kernel
theorem dL_law_1023 : decode cL_law 1023 = .ok (.iconst 1, 1) := by decide +kernel
theorem dL_law_1024 : decode cL_law 1024 = .ok (.iadd, 1) := by decide +kernel
theorem dL_law_1025 : decode cL_law 1025 = .ok (.iaload, 1) := by decide +kernel
theorem dL_law_1026 : decode cL_law 1026 = .ok (.aload_n 0, 1) := by decide +kernel
theorem dL_law_1027 : decode cL_law 1027 = .ok (.iload_n 3, 1) := by decide +kernel
theorem dL_law_1028 : decode cL_law 1028 = .ok (.iconst 2, 1) := by decide +kernel
theorem dL_law_1029 : decode cL_law 1029 = .ok (.iadd, 1) := by decide +kernel
theorem dL_law_1030 : decode cL_law 1030 = .ok (.iaload, 1) := by decide +kernel
theorem dL_law_1031 : decode cL_law 1031 = .ok (.aload_n 0, 1) := by decide +kernel
theorem dL_law_1032 : decode cL_law 1032 = .ok (.iload_n 3, 1) := by decide +kernel
theorem dL_law_1033 : decode cL_law 1033 = .ok (.iconst 3, 1) := by decide +kernel
theorem dL_law_1034 : decode cL_law 1034 = .ok (.iadd, 1) := by decide +kernel
theorem dL_law_1035 : decode cL_law 1035 = .ok (.iaload, 1) := by decide +kernel
theorem dL_law_1036 : decode cL_law 1036 = .ok (.invokevirtual 131, 3) := by decide +kernel
theorem dL_law_1039 : decode cL_law 1039 = .ok (.pop, 1) := by decide +kernel
theorem dL_law_1040 : decode cL_law 1040 = .ok (.aload_n 2, 1) := by decide +kernel
theorem dL_law_1041 : decode cL_law 1041 = .ok (.aload_n 0, 1) := by decide +kernel
theorem dL_law_1042 : decode cL_law 1042 = .ok (.iload_n 3, 1) := by decide +kernel
theorem dL_law_1043 : decode cL_law 1043 = .ok (.iconst 1, 1) := by decide +kernel
theorem dL_law_1044 : decode cL_law 1044 = .ok (.iadd, 1) := by decide +kernel
theorem dL_law_1045 : decode cL_law 1045 = .ok (.iaload, 1) := by decide +kernel
theorem dL_law_1046 : decode cL_law 1046 = .ok (.aload_n 0, 1) := by decide +kernel
theorem dL_law_1047 : decode cL_law 1047 = .ok (.iload_n 3, 1) := by decide +kernel
theorem dL_law_1048 : decode cL_law 1048 = .ok (.iconst 2, 1) := by decide +kernel
theorem dL_law_1049 : decode cL_law 1049 = .ok (.iadd, 1) := by decide +kernel
theorem dL_law_1050 : decode cL_law 1050 = .ok (.iaload, 1) := by decide +kernel
theorem dL_law_1051 : decode cL_law 1051 = .ok (.aload_n 0, 1) := by decide +kernel
theorem dL_law_1052 : decode cL_law 1052 = .ok (.iload_n 3, 1) := by decide +kernel
theorem dL_law_1053 : decode cL_law 1053 = .ok (.iconst 3, 1) := by decide +kernel
theorem dL_law_1054 : decode cL_law 1054 = .ok (.iadd, 1) := by decide +kernel
theorem dL_law_1055 : decode cL_law 1055 = .ok (.iaload, 1) := by decide +kernel
theorem dL_law_1056 : decode cL_law 1056 = .ok (.invokevirtual 134, 3) := by decide +kernel
theorem dL_law_1059 : decode cL_law 1059 = .ok (.pop, 1) := by decide +kernel
theorem dL_law_1060 : decode cL_law 1060 = .ok (.goto 217, 3) := by decide +kernel
theorem dL_law_1063 : decode cL_law 1063 = .ok (.aload_n 1, 1) := by decide +kernel
theorem dL_law_1064 : decode cL_law 1064 = .ok (.aload_n 0, 1) := by decide +kernel
theorem dL_law_1065 : decode cL_law 1065 = .ok (.iload_n 3, 1) := by decide +kernel
theorem dL_law_1066 : decode cL_law 1066 = .ok (.iconst 1, 1) := by decide +kernel
theorem dL_law_1067 : decode cL_law 1067 = .ok (.iadd, 1) := by decide +kernel
theorem dL_law_1068 : decode cL_law 1068 = .ok (.iaload, 1) := by decide +kernel
theorem dL_law_1069 : decode cL_law 1069 = .ok (.aload_n 0, 1) := by decide +kernel
theorem dL_law_1070 : decode cL_law 1070 = .ok (.iload_n 3, 1) := by decide +kernel
theorem dL_law_1071 : decode cL_law 1071 = .ok (.iconst 2, 1) := by decide +kernel
theorem dL_law_1072 : decode cL_law 1072 = .ok (.iadd, 1) := by decide +kernel
theorem dL_law_1073 : decode cL_law 1073 = .ok (.iaload, 1) := by decide +kernel
theorem dL_law_1074 : decode cL_law 1074 = .ok (.aload_n 0, 1) := by decide +kernel
theorem dL_law_1075 : decode cL_law 1075 = .ok (.iload_n 3, 1) := by decide +kernel
theorem dL_law_1076 : decode cL_law 1076 = .ok (.iconst 3, 1) := by decide +kernel
theorem dL_law_1077 : decode cL_law 1077 = .ok (.iadd, 1) := by decide +kernel
theorem dL_law_1078 : decode cL_law 1078 = .ok (.iaload, 1) := by decide +kernel
theorem dL_law_1079 : decode cL_law 1079 = .ok (.aload_n 0, 1) := by decide +kernel
theorem dL_law_1080 : decode cL_law 1080 = .ok (.iload_n 3, 1) := by decide +kernel
theorem dL_law_1081 : decode cL_law 1081 = .ok (.iconst 4, 1) := by decide +kernel
theorem dL_law_1082 : decode cL_law 1082 = .ok (.iadd, 1) := by decide +kernel
theorem dL_law_1083 : decode cL_law 1083 = .ok (.iaload, 1) := by decide +kernel
theorem dL_law_1084 : decode cL_law 1084 = .ok (.invokevirtual 135, 3) := by decide +kernel
theorem dL_law_1087 : decode cL_law 1087 = .ok (.pop, 1) := by decide +kernel
theorem dL_law_1088 : decode cL_law 1088 = .ok (.aload_n 2, 1) := by decide +kernel
theorem dL_law_1089 : decode cL_law 1089 = .ok (.aload_n 0, 1) := by decide +kernel
theorem dL_law_1090 : decode cL_law 1090 = .ok (.iload_n 3, 1) := by decide +kernel
theorem dL_law_1091 : decode cL_law 1091 = .ok (.iconst 1, 1) := by decide +kernel
theorem dL_law_1092 : decode cL_law 1092 = .ok (.iadd, 1) := by decide +kernel
theorem dL_law_1093 : decode cL_law 1093 = .ok (.iaload, 1) := by decide +kernel
theorem dL_law_1094 : decode cL_law 1094 = .ok (.aload_n 0, 1) := by decide +kernel
theorem dL_law_1095 : decode cL_law 1095 = .ok (.iload_n 3, 1) := by decide +kernel
theorem dL_law_1096 : decode cL_law 1096 = .ok (.iconst 2, 1) := by decide +kernel
theorem dL_law_1097 : decode cL_law 1097 = .ok (.iadd, 1) := by decide +kernel
theorem dL_law_1098 : decode cL_law 1098 = .ok (.iaload, 1) := by decide +kernel
theorem dL_law_1099 : decode cL_law 1099 = .ok (.aload_n 0, 1) := by decide +kernel
theorem dL_law_1100 : decode cL_law 1100 = .ok (.iload_n 3, 1) := by decide +kernel
theorem dL_law_1101 : decode cL_law 1101 = .ok (.iconst 3, 1) := by decide +kernel
theorem dL_law_1102 : decode cL_law 1102 = .ok (.iadd, 1) := by decide +kernel
theorem dL_law_1103 : decode cL_law 1103 = .ok (.iaload, 1) := by decide +kernel
theorem dL_law_1104 : decode cL_law 1104 = .ok (.aload_n 0, 1) := by decide +kernel
theorem dL_law_1105 : decode cL_law 1105 = .ok (.iload_n 3, 1) := by decide +kernel
theorem dL_law_1106 : decode cL_law 1106 = .ok (.iconst 4, 1) := by decide +kernel
theorem dL_law_1107 : decode cL_law 1107 = .ok (.iadd, 1) := by decide +kernel
theorem dL_law_1108 : decode cL_law 1108 = .ok (.iaload, 1) := by decide +kernel
theorem dL_law_1109 : decode cL_law 1109 = .ok (.invokevirtual 138, 3) := by decide +kernel
theorem dL_law_1112 : decode cL_law 1112 = .ok (.pop, 1) := by decide +kernel
theorem dL_law_1113 : decode cL_law 1113 = .ok (.goto 164, 3) := by decide +kernel
theorem dL_law_1116 : decode cL_law 1116 = .ok (.aload_n 1, 1) := by decide +kernel
theorem dL_law_1117 : decode cL_law 1117 = .ok (.aload_n 0, 1) := by decide +kernel
theorem dL_law_1118 : decode cL_law 1118 = .ok (.iload_n 3, 1) := by decide +kernel
theorem dL_law_1119 : decode cL_law 1119 = .ok (.iconst 1, 1) := by decide +kernel
theorem dL_law_1120 : decode cL_law 1120 = .ok (.iadd, 1) := by decide +kernel
theorem dL_law_1121 : decode cL_law 1121 = .ok (.iaload, 1) := by decide +kernel
theorem dL_law_1122 : decode cL_law 1122 = .ok (.aload_n 0, 1) := by decide +kernel
theorem dL_law_1123 : decode cL_law 1123 = .ok (.iload_n 3, 1) := by decide +kernel
theorem dL_law_1124 : decode cL_law 1124 = .ok (.iconst 2, 1) := by decide +kernel
theorem dL_law_1125 : decode cL_law 1125 = .ok (.iadd, 1) := by decide +kernel
theorem dL_law_1126 : decode cL_law 1126 = .ok (.iaload, 1) := by decide +kernel
theorem dL_law_1127 : decode cL_law 1127 = .ok (.invokevirtual 139, 3) := by decide +kernel
theorem dL_law_1130 : decode cL_law 1130 = .ok (.pop, 1) := by decide +kernel
theorem dL_law_1131 : decode cL_law 1131 = .ok (.aload_n 2, 1) := by decide +kernel
theorem dL_law_1132 : decode cL_law 1132 = .ok (.aload_n 0, 1) := by decide +kernel
theorem dL_law_1133 : decode cL_law 1133 = .ok (.iload_n 3, 1) := by decide +kernel
theorem dL_law_1134 : decode cL_law 1134 = .ok (.iconst 1, 1) := by decide +kernel
theorem dL_law_1135 : decode cL_law 1135 = .ok (.iadd, 1) := by decide +kernel
theorem dL_law_1136 : decode cL_law 1136 = .ok (.iaload, 1) := by decide +kernel
theorem dL_law_1137 : decode cL_law 1137 = .ok (.aload_n 0, 1) := by decide +kernel
theorem dL_law_1138 : decode cL_law 1138 = .ok (.iload_n 3, 1) := by decide +kernel
theorem dL_law_1139 : decode cL_law 1139 = .ok (.iconst 2, 1) := by decide +kernel
theorem dL_law_1140 : decode cL_law 1140 = .ok (.iadd, 1) := by decide +kernel
theorem dL_law_1141 : decode cL_law 1141 = .ok (.iaload, 1) := by decide +kernel
theorem dL_law_1142 : decode cL_law 1142 = .ok (.invokevirtual 142, 3) := by decide +kernel
theorem dL_law_1145 : decode cL_law 1145 = .ok (.pop, 1) := by decide +kernel
theorem dL_law_1146 : decode cL_law 1146 = .ok (.goto 131, 3) := by decide +kernel
theorem dL_law_1149 : decode cL_law 1149 = .ok (.aload_n 1, 1) := by decide +kernel
theorem dL_law_1150 : decode cL_law 1150 = .ok (.aload_n 0, 1) := by decide +kernel
theorem dL_law_1151 : decode cL_law 1151 = .ok (.iload_n 3, 1) := by decide +kernel
theorem dL_law_1152 : decode cL_law 1152 = .ok (.iconst 1, 1) := by decide +kernel
theorem dL_law_1153 : decode cL_law 1153 = .ok (.iadd, 1) := by decide +kernel
theorem dL_law_1154 : decode cL_law 1154 = .ok (.iaload, 1) := by decide +kernel
theorem dL_law_1155 : decode cL_law 1155 = .ok (.invokevirtual 143, 3) := by decide +kernel
theorem dL_law_1158 : decode cL_law 1158 = .ok (.pop2, 1) := by decide +kernel
theorem dL_law_1159 : decode cL_law 1159 = .ok (.aload_n 2, 1) := by decide +kernel
theorem dL_law_1160 : decode cL_law 1160 = .ok (.aload_n 0, 1) := by decide +kernel
theorem dL_law_1161 : decode cL_law 1161 = .ok (.iload_n 3, 1) := by decide +kernel
theorem dL_law_1162 : decode cL_law 1162 = .ok (.iconst 1, 1) := by decide +kernel
theorem dL_law_1163 : decode cL_law 1163 = .ok (.iadd, 1) := by decide +kernel
theorem dL_law_1164 : decode cL_law 1164 = .ok (.iaload, 1) := by decide +kernel
theorem dL_law_1165 : decode cL_law 1165 = .ok (.invokevirtual 147, 3) := by decide +kernel
theorem dL_law_1168 : decode cL_law 1168 = .ok (.pop2, 1) := by decide +kernel
theorem dL_law_1169 : decode cL_law 1169 = .ok (.goto 108, 3) := by decide +kernel
theorem dL_law_997 : decode cL_law 997 = .ok (.aload_n 1, 1) := by decide +kernel
theorem dL_law_998 : decode cL_law 998 = .ok (.aload_n 0, 1) := by decide +kernel
theorem dL_law_999 : decode cL_law 999 = .ok (.iload_n 3, 1) := by decide +kernel
section LC
variable {p : Program} {l : Launch} {e : Env} {s : State} {m : MethodId} {below : List Frame} {meth : Method} {c : Code} {b L : Nat} {xs : Nat → Int32} {X : EX} {K : SK} {h0 m0 zi : Nat} {H : Heap} {locs : List Loc} {ls : Array Slot} {Q : State → Prop}
theorem hdV_X10_ask : yX10_ask.cls = RX10 ∧ yX10_ask.cls ≠ "java/lang/invoke/MethodHandle" ∧ yX10_ask.cls ≠ "java/lang/invoke/VarHandle" ∧ (parseMethodDescriptor yX10_ask.desc).map (fun d => d.parameters.length) = some 1 := by decide +kernel
theorem hdV_X11_ask : yX11_ask.cls = RX11 ∧ yX11_ask.cls ≠ "java/lang/invoke/MethodHandle" ∧ yX11_ask.cls ≠ "java/lang/invoke/VarHandle" ∧ (parseMethodDescriptor yX11_ask.desc).map (fun d => d.parameters.length) = some 1 := by decide +kernel
set_option maxRecDepth 100000 in
set_option maxHeartbeats 8000000 in
theorem lc_27 (S : CallFix p m c cL_law 4 s #[Value.ref b] wsL_law RL) (hX : va_X b L xs s s.heap) (hbl : b < s.heap.size) (hL : L ≤ 3072) (hzi : zi + 6 ≤ L) (hZ : sE K (fun q : Nat => s.heap.size ≤ q) s s.heap) (hW : LW X h0 m0 s H locs) (hl : lv_has ls 4 [(3, .int (nI zi)), (2, .ref m0), (1, .ref h0), (0, .ref b)]) (kk : ∀ (H : Heap) (locs : List Loc) (ls : Array Slot), LW X h0 m0 s H locs → lv_has ls 4 [(3, .int (nI zi)), (2, .ref m0), (1, .ref h0), (0, .ref b)] → W p l e room_1 s m #[Value.ref b] below meth c H locs 94 3522 Q (F0 m 1277 ls [])) : W p l e room_1 s m #[Value.ref b] below meth c H locs 94 3522 Q (F0 m 997 ls []) := by
  have zx := S.1
  have zb := S.2.1
  have hbA : ¬ (fun q : Nat => s.heap.size ≤ q) b := Nat.not_le.mpr hbl
  refine LW_e hW (fun nw sp xa la lb an sv dv n0 n1 n2 n3 n4 g0 gs gn gm ap svp dvp n0p n1p n2p n3p n4p g0p gsp gnp gmp i0 i1 ai svi dvi n0i n1i n2i n3i n4i g0i gsi gni gmi aj svj dvj n0j n1j n2j n3j n4j g0j gsj gnj gmj fz hb n bd vd fd fr ag dg ar dr hc tm tf vo da gd fk ma lc ld t vt fa u4 fK u5 u6 fR fh d0 d1 d2 d3 d4 fg ft fb fw w0 w1 w2 w3 w4 fv hIV hRL G => ?_)
  obtain ⟨hR0, hR1, hR2⟩ := hRL
  obtain ⟨hI_n0, hI_n1, hI_n2, hI_n3, hI_n4, hI_n0p, hI_n1p, hI_n2p, hI_n3p, hI_n4p, hI_n0i, hI_n1i, hI_n2i, hI_n3i, hI_n4i, hI_n0j, hI_n1j, hI_n2j, hI_n3j, hI_n4j, hI_n, hI_bd, hI_t, hI_fa, hI_fK, hI_fh, hI_fw⟩ := hIV
  have hO_bd := hI_bd
  obtain ⟨hd0_bd, hd1_bd⟩ := hO_bd
  have hO_t := hI_t
  obtain ⟨ht0_t, ht1_t⟩ := hO_t
  have hO_fa := hI_fa.2
  obtain ⟨hm0_fa, hm1_fa, hm2_fa, hm3_fa, hm4_fa⟩ := hO_fa
  have hO_fh := hI_fh.2
  obtain ⟨hm0_fh, hm1_fh, hm2_fh, hm3_fh, hm4_fh⟩ := hO_fh
  have hO_fw := hI_fw.2
  obtain ⟨hm0_fw, hm1_fw, hm2_fw, hm3_fw, hm4_fw⟩ := hO_fw
  refine lv_aload_n zx zb dL_law_997 rfl (lv_at hl 2 rfl) ?_
  refine lv_aload_n zx zb dL_law_998 rfl (lv_at hl 3 rfl) ?_
  refine lv_iload_n zx zb dL_law_999 rfl (lv_at hl 0 rfl) ?_
  refine lv_iconst (v := 1) zx zb dL_law_1000 (by decide) ?_
  refine r_iadd (v := (nI (zi + 1))) S (nI_add zi 1) dL_law_1001 ?_
  refine va_sld zx zb hX hbl hbA G.2.2.2.1 (vp_in_nI (by omega) (by omega)) dL_law_1002 ?_
  refine k_it (v := xs (zi + 1)) (congrArg xs (nI_clamp (by omega))) ?_
  refine b_wi (cells' := 94) (slots' := 3522) (wr := @HAppend.hAppend va_W va_W va_W _ (rcV X sp ap svp dvp n0p n1p n2p n3p n4p g0p gsp gnp gmp) (@HAppend.hAppend va_W va_W va_W _ ([((xa 2), .inl (X.2.2.2.1, 2, .inr (.inr (.inr (.inr (imQ i0 i1))))))]) (@HAppend.hAppend va_W va_W va_W _ (rcV X i0 ai svi dvi n0i n1i n2i n3i n4i g0i gsi gni gmi) (@HAppend.hAppend va_W va_W va_W _ (rcV X i1 aj svj dvj n0j n1j n2j n3j n4j g0j gsj gnj gmj) (@HAppend.hAppend va_W va_W va_W _ ([((xa 3), .inl (X.2.2.1, 2, .inl fz))]) (@HAppend.hAppend va_W va_W va_W _ (rdV X (xa 4) hb n bd vd fd) (@HAppend.hAppend va_W va_W va_W _ (rnV (xa 8) ag dg) (@HAppend.hAppend va_W va_W va_W _ (rnV (xa 9) ar dr) (@HAppend.hAppend va_W va_W va_W _ (odW (xa 11) vo) (@HAppend.hAppend va_W va_W va_W _ (duW X (xa 12) da gd) (@HAppend.hAppend va_W va_W va_W _ ([((xa 13), .inl (X.2.1, 6, .inl fk))]) (@HAppend.hAppend va_W va_W va_W _ (mW m0 ma lc ld n t vt) (@HAppend.hAppend va_W va_W va_W _ ([((ma 0), .inl (X.2.1, 371, .inl fa))]) (@HAppend.hAppend va_W va_W va_W _ ([((ma 1), .inl (X.2.1, 742, .inl fK))]) (@HAppend.hAppend va_W va_W va_W _ ([((ma 2), .inl (X.2.2.1, 2, .inl fz))]) (@HAppend.hAppend va_W va_W va_W _ ([((ma 3), .inl (X.2.1, 3, .inl fR))]) (@HAppend.hAppend va_W va_W va_W _ ([((ma 6), .inl (X.2.1, 55, .inl fh))]) (@HAppend.hAppend va_W va_W va_W _ ([((ma 7), .inl (X.2.1, 6, .inl fg))]) (@HAppend.hAppend va_W va_W va_W _ ([((ma 8), .inl (X.2.1, 10, .inl ft))]) (@HAppend.hAppend va_W va_W va_W _ ([((ma 9), .inl (X.2.1, 20, .inl fb))]) (@HAppend.hAppend va_W va_W va_W _ ([((ma 10), .inl (X.2.1, 150, .inl fd))]) (@HAppend.hAppend va_W va_W va_W _ ([((ma 16), .inl (X.2.1, 123, .inl fw))]) ([((ma 17), .inl (X.2.1, 3, .inl fv))]))))))))))))))))))))))) G rfl rfl [0, 1, 2, 3, 4, 5, 6, 7, 8, 9, 10, 11, 12, 13, 14, 15, 16, 72, 73, 69] [17, 18, 19, 20, 21, 22, 23, 24, 25, 26, 27, 28, 29, 30, 31, 32, 33, 34, 35, 36, 37, 38, 39, 40, 41, 42, 43, 44, 45, 46, 47, 48, 49, 50, 51, 52, 53, 54, 55, 56, 57, 58, 59, 60, 61, 62, 63, 64, 65, 66, 67, 68, 70, 71, 74, 75, 76, 77, 78, 79, 80, 81, 82, 83, 84, 85, 86, 87, 88, 89, 90, 91, 92, 93] rfl rfl rfl rfl (n_V (As := [.int (xs (zi + 1))]) (rest := []) (C := RX10) (T := TX10) (N := 14) (ci := 8) S G (x_ask l X h0 nw sp xa la lb an sv dv n0 n1 n2 n3 n4 g0 gs gn gm hc tm tf fr (xs (zi + 1)) hI_n0 hI_n1 hI_n2 hI_n3 hI_n4 H.size) gL_law_X10_ask rfl rfl rfl hdV_X10_ask ⟨Nat.le_of_ble_eq_true rfl, Nat.le_of_ble_eq_true rfl⟩ [0, 1, 2, 3, 4, 5, 6, 7, 8, 9, 10, 11, 12, 13, 14, 15, 16, 72, 73, 69] rfl rfl 0 rfl rfl rfl hl.1 (Nat.le_of_ble_eq_true rfl) dL_law_1003 ⟨Nat.le_of_ble_eq_true rfl, Nat.le_of_ble_eq_true rfl⟩) (fun r_1 u_1 H locs hp_1 G => ?_)
  obtain ⟨m_1a, f_1b, f_1c⟩ := u_1
  have hq_1 := hp_1
  refine lv_aload_n zx zb dL_law_1006 rfl (lv_at hl 1 rfl) ?_
  refine lv_aload_n zx zb dL_law_1007 rfl (lv_at hl 3 rfl) ?_
  refine lv_iload_n zx zb dL_law_1008 rfl (lv_at hl 0 rfl) ?_
  refine lv_iconst (v := 1) zx zb dL_law_1009 (by decide) ?_
  refine r_iadd (v := (nI (zi + 1))) S (nI_add zi 1) dL_law_1010 ?_
  refine va_sld zx zb hX hbl hbA G.2.2.2.1 (vp_in_nI (by omega) (by omega)) dL_law_1011 ?_
  refine k_it (v := xs (zi + 1)) (congrArg xs (nI_clamp (by omega))) ?_
  refine b_wi (cells' := 94) (slots' := 3522) (wr := @HAppend.hAppend va_W va_W va_W _ (rcV X sp ap svp dvp n0p n1p n2p n3p n4p g0p gsp gnp gmp) (@HAppend.hAppend va_W va_W va_W _ ([((xa 2), .inl (X.2.2.2.1, 2, .inr (.inr (.inr (.inr (imQ i0 i1))))))]) (@HAppend.hAppend va_W va_W va_W _ (rcV X i0 ai svi dvi n0i n1i n2i n3i n4i g0i gsi gni gmi) (@HAppend.hAppend va_W va_W va_W _ (rcV X i1 aj svj dvj n0j n1j n2j n3j n4j g0j gsj gnj gmj) (@HAppend.hAppend va_W va_W va_W _ ([((xa 3), .inl (X.2.2.1, 2, .inl fz))]) (@HAppend.hAppend va_W va_W va_W _ (rdV X (xa 4) hb n bd vd fd) (@HAppend.hAppend va_W va_W va_W _ (rnV (xa 8) ag dg) (@HAppend.hAppend va_W va_W va_W _ (rnV (xa 9) ar dr) (@HAppend.hAppend va_W va_W va_W _ (odW (xa 11) vo) (@HAppend.hAppend va_W va_W va_W _ (duW X (xa 12) da gd) (@HAppend.hAppend va_W va_W va_W _ ([((xa 13), .inl (X.2.1, 6, .inl fk))]) (@HAppend.hAppend va_W va_W va_W _ ([((ma 1), .inl (X.2.1, 742, .inl fK))]) (@HAppend.hAppend va_W va_W va_W _ ([((ma 2), .inl (X.2.2.1, 2, .inl fz))]) (@HAppend.hAppend va_W va_W va_W _ ([((ma 6), .inl (X.2.1, 55, .inl fh))]) (@HAppend.hAppend va_W va_W va_W _ ([((ma 7), .inl (X.2.1, 6, .inl fg))]) (@HAppend.hAppend va_W va_W va_W _ ([((ma 9), .inl (X.2.1, 20, .inl fb))]) (@HAppend.hAppend va_W va_W va_W _ ([((ma 10), .inl (X.2.1, 150, .inl fd))]) (@HAppend.hAppend va_W va_W va_W _ ([((ma 16), .inl (X.2.1, 123, .inl fw))]) (@HAppend.hAppend va_W va_W va_W _ ([((ma 17), .inl (X.2.1, 3, .inl fv))]) (@HAppend.hAppend va_W va_W va_W _ (xW h0 nw sp xa la lb) (@HAppend.hAppend va_W va_W va_W _ (rcV X nw an sv dv n0 n1 n2 n3 n4 g0 gs gn gm) (@HAppend.hAppend va_W va_W va_W _ ([((xa 10), .inr (7, [.ref hc, .int m_1a])), (hc, .inl (X.2.1, 16, .inl f_1b))]) ([((xa 5), .inl (X.2.1, 3, .inl f_1c))]))))))))))))))))))))))) G rfl rfl [62, 63, 69, 66] [0, 1, 2, 3, 4, 5, 6, 7, 8, 9, 10, 11, 12, 13, 14, 15, 16, 17, 18, 19, 20, 21, 22, 23, 24, 25, 26, 27, 28, 29, 30, 31, 32, 33, 34, 35, 36, 37, 38, 39, 40, 41, 42, 43, 44, 45, 46, 47, 48, 49, 50, 51, 52, 53, 54, 55, 56, 57, 58, 59, 60, 61, 64, 65, 67, 68, 70, 71, 72, 73, 74, 75, 76, 77, 78, 79, 80, 81, 82, 83, 84, 85, 86, 87, 88, 89, 90, 91, 92, 93] rfl rfl rfl rfl (n_V (As := [.int (xs (zi + 1))]) (rest := [.int r_1]) (C := RX11) (T := TX11) (N := 18) (ci := 9) S G (y_ask l X m0 ma lc ld n t vt fa n0 n2 n3 n4 u4 ft fR (xs (zi + 1)) hI_n hI_t hI_fa H.size) gL_law_X11_ask rfl rfl rfl hdV_X11_ask ⟨Nat.le_of_ble_eq_true rfl, Nat.le_of_ble_eq_true rfl⟩ [62, 63, 69, 66] rfl rfl 62 rfl rfl rfl hl.1 (Nat.le_of_ble_eq_true rfl) dL_law_1012 ⟨Nat.le_of_ble_eq_true rfl, Nat.le_of_ble_eq_true rfl⟩) (fun r_2 u_2 H locs hp_2 G => ?_)
  obtain ⟨f_2a, f_2b⟩ := u_2
  have hq_2 := hp_2
  have hEA : r_1 = r_2 := hq_1.trans ((REL_ask hR0).trans hq_2.symm)
  refine lv_icmp_eq (tgt := 1277) zx zb dL_law_1015 (by decide) (fun c_3 => ?_) (fun c_3 => absurd (hEA) c_3)
  have G : wd X (fun q : Nat => s.heap.size ≤ q) (fun q : Nat => s.heap.size ≤ q) s (@HAppend.hAppend va_W va_W va_W _ (xW h0 nw sp xa la lb) (@HAppend.hAppend va_W va_W va_W _ (rcV X nw an sv dv n0 n1 n2 n3 n4 g0 gs gn gm) (@HAppend.hAppend va_W va_W va_W _ (rcV X sp ap svp dvp n0p n1p n2p n3p n4p g0p gsp gnp gmp) (@HAppend.hAppend va_W va_W va_W _ ([((xa 2), .inl (X.2.2.2.1, 2, .inr (.inr (.inr (.inr (imQ i0 i1))))))]) (@HAppend.hAppend va_W va_W va_W _ (rcV X i0 ai svi dvi n0i n1i n2i n3i n4i g0i gsi gni gmi) (@HAppend.hAppend va_W va_W va_W _ (rcV X i1 aj svj dvj n0j n1j n2j n3j n4j g0j gsj gnj gmj) (@HAppend.hAppend va_W va_W va_W _ ([((xa 3), .inl (X.2.2.1, 2, .inl fz))]) (@HAppend.hAppend va_W va_W va_W _ (rdV X (xa 4) hb n bd vd fd) (@HAppend.hAppend va_W va_W va_W _ ([((xa 5), .inl (X.2.1, 3, .inl f_1c))]) (@HAppend.hAppend va_W va_W va_W _ (rnV (xa 8) ag dg) (@HAppend.hAppend va_W va_W va_W _ (rnV (xa 9) ar dr) (@HAppend.hAppend va_W va_W va_W _ ([((xa 10), .inr (7, [.ref hc, .int m_1a])), (hc, .inl (X.2.1, 16, .inl f_1b))]) (@HAppend.hAppend va_W va_W va_W _ (odW (xa 11) vo) (@HAppend.hAppend va_W va_W va_W _ (duW X (xa 12) da gd) (@HAppend.hAppend va_W va_W va_W _ ([((xa 13), .inl (X.2.1, 6, .inl fk))]) (@HAppend.hAppend va_W va_W va_W _ (mW m0 ma lc ld n t vt) (@HAppend.hAppend va_W va_W va_W _ ([((ma 0), .inl (X.2.1, 371, .inl fa))]) (@HAppend.hAppend va_W va_W va_W _ ([((ma 1), .inl (X.2.1, 742, .inl fK))]) (@HAppend.hAppend va_W va_W va_W _ ([((ma 2), .inl (X.2.2.1, 2, .inl fz))]) (@HAppend.hAppend va_W va_W va_W _ ([((ma 3), .inl (X.2.1, 3, .inl f_2b))]) (@HAppend.hAppend va_W va_W va_W _ ([((ma 6), .inl (X.2.1, 55, .inl fh))]) (@HAppend.hAppend va_W va_W va_W _ ([((ma 7), .inl (X.2.1, 6, .inl fg))]) (@HAppend.hAppend va_W va_W va_W _ ([((ma 8), .inl (X.2.1, 10, .inl f_2a))]) (@HAppend.hAppend va_W va_W va_W _ ([((ma 9), .inl (X.2.1, 20, .inl fb))]) (@HAppend.hAppend va_W va_W va_W _ ([((ma 10), .inl (X.2.1, 150, .inl fd))]) (@HAppend.hAppend va_W va_W va_W _ ([((ma 16), .inl (X.2.1, 123, .inl fw))]) ([((ma 17), .inl (X.2.1, 3, .inl fv))]))))))))))))))))))))))))))) H locs := wd_sub G [70, 71, 72, 73, 74, 75, 76, 77, 78, 79, 80, 81, 82, 83, 84, 85, 86, 0, 1, 2, 3, 4, 5, 6, 7, 8, 9, 10, 11, 12, 13, 14, 15, 16, 17, 18, 19, 20, 21, 22, 23, 24, 25, 26, 27, 28, 29, 30, 31, 32, 33, 34, 35, 36, 37, 38, 39, 40, 41, 42, 43, 44, 45, 46, 47, 48, 49, 50, 51, 89, 52, 53, 87, 88, 54, 55, 56, 57, 58, 59, 60, 61, 90, 91, 62, 63, 93, 64, 65, 92, 66, 67, 68, 69] rfl rfl
  exact kk _ _ _ (LW_i nw sp xa la lb an sv dv n0 n1 n2 n3 n4 g0 gs gn gm ap svp dvp n0p n1p n2p n3p n4p g0p gsp gnp gmp i0 i1 ai svi dvi n0i n1i n2i n3i n4i g0i gsi gni gmi aj svj dvj n0j n1j n2j n3j n4j g0j gsj gnj gmj fz hb n bd vd fd f_1c ag dg ar dr hc m_1a f_1b vo da gd fk ma lc ld t vt fa u4 fK u5 u6 f_2b fh d0 d1 d2 d3 d4 fg f_2a fb fw w0 w1 w2 w3 w4 fv ⟨hI_n0, hI_n1, hI_n2, hI_n3, hI_n4, hI_n0p, hI_n1p, hI_n2p, hI_n3p, hI_n4p, hI_n0i, hI_n1i, hI_n2i, hI_n3i, hI_n4i, hI_n0j, hI_n1j, hI_n2j, hI_n3j, hI_n4j, hI_n, hI_bd, hI_t, hI_fa, hI_fK, hI_fh, hI_fw⟩ ⟨hR0, hR1, hR2⟩ G) hl
theorem hdV_X10_pair : yX10_pair.cls = RX10 ∧ yX10_pair.cls ≠ "java/lang/invoke/MethodHandle" ∧ yX10_pair.cls ≠ "java/lang/invoke/VarHandle" ∧ (parseMethodDescriptor yX10_pair.desc).map (fun d => d.parameters.length) = some 3 := by decide +kernel
theorem hdV_X11_pair : yX11_pair.cls = RX11 ∧ yX11_pair.cls ≠ "java/lang/invoke/MethodHandle" ∧ yX11_pair.cls ≠ "java/lang/invoke/VarHandle" ∧ (parseMethodDescriptor yX11_pair.desc).map (fun d => d.parameters.length) = some 3 := by decide +kernel
set_option maxRecDepth 100000 in
set_option maxHeartbeats 8000000 in
theorem lc_28 (S : CallFix p m c cL_law 4 s #[Value.ref b] wsL_law RL) (hX : va_X b L xs s s.heap) (hbl : b < s.heap.size) (hL : L ≤ 3072) (hzi : zi + 6 ≤ L) (hZ : sE K (fun q : Nat => s.heap.size ≤ q) s s.heap) (hW : LW X h0 m0 s H locs) (hl : lv_has ls 4 [(3, .int (nI zi)), (2, .ref m0), (1, .ref h0), (0, .ref b)]) (kk : ∀ (H : Heap) (locs : List Loc) (ls : Array Slot), LW X h0 m0 s H locs → lv_has ls 4 [(3, .int (nI zi)), (2, .ref m0), (1, .ref h0), (0, .ref b)] → W p l e room_1 s m #[Value.ref b] below meth c H locs 94 3522 Q (F0 m 1277 ls [])) : W p l e room_1 s m #[Value.ref b] below meth c H locs 94 3522 Q (F0 m 1020 ls []) := by
  have zx := S.1
  have zb := S.2.1
  have hbA : ¬ (fun q : Nat => s.heap.size ≤ q) b := Nat.not_le.mpr hbl
  refine LW_e hW (fun nw sp xa la lb an sv dv n0 n1 n2 n3 n4 g0 gs gn gm ap svp dvp n0p n1p n2p n3p n4p g0p gsp gnp gmp i0 i1 ai svi dvi n0i n1i n2i n3i n4i g0i gsi gni gmi aj svj dvj n0j n1j n2j n3j n4j g0j gsj gnj gmj fz hb n bd vd fd fr ag dg ar dr hc tm tf vo da gd fk ma lc ld t vt fa u4 fK u5 u6 fR fh d0 d1 d2 d3 d4 fg ft fb fw w0 w1 w2 w3 w4 fv hIV hRL G => ?_)
  obtain ⟨hR0, hR1, hR2⟩ := hRL
  obtain ⟨hI_n0, hI_n1, hI_n2, hI_n3, hI_n4, hI_n0p, hI_n1p, hI_n2p, hI_n3p, hI_n4p, hI_n0i, hI_n1i, hI_n2i, hI_n3i, hI_n4i, hI_n0j, hI_n1j, hI_n2j, hI_n3j, hI_n4j, hI_n, hI_bd, hI_t, hI_fa, hI_fK, hI_fh, hI_fw⟩ := hIV
  have hO_bd := hI_bd
  obtain ⟨hd0_bd, hd1_bd⟩ := hO_bd
  have hO_t := hI_t
  obtain ⟨ht0_t, ht1_t⟩ := hO_t
  have hO_fa := hI_fa.2
  obtain ⟨hm0_fa, hm1_fa, hm2_fa, hm3_fa, hm4_fa⟩ := hO_fa
  have hO_fh := hI_fh.2
  obtain ⟨hm0_fh, hm1_fh, hm2_fh, hm3_fh, hm4_fh⟩ := hO_fh
  have hO_fw := hI_fw.2
  obtain ⟨hm0_fw, hm1_fw, hm2_fw, hm3_fw, hm4_fw⟩ := hO_fw
  refine lv_aload_n zx zb dL_law_1020 rfl (lv_at hl 2 rfl) ?_
  refine lv_aload_n zx zb dL_law_1021 rfl (lv_at hl 3 rfl) ?_
  refine lv_iload_n zx zb dL_law_1022 rfl (lv_at hl 0 rfl) ?_
  refine lv_iconst (v := 1) zx zb dL_law_1023 (by decide) ?_
  refine r_iadd (v := (nI (zi + 1))) S (nI_add zi 1) dL_law_1024 ?_
  refine va_sld zx zb hX hbl hbA G.2.2.2.1 (vp_in_nI (by omega) (by omega)) dL_law_1025 ?_
  refine k_it (v := xs (zi + 1)) (congrArg xs (nI_clamp (by omega))) ?_
  refine lv_aload_n zx zb dL_law_1026 rfl (lv_at hl 3 rfl) ?_
  refine lv_iload_n zx zb dL_law_1027 rfl (lv_at hl 0 rfl) ?_
  refine lv_iconst (v := 2) zx zb dL_law_1028 (by decide) ?_
  refine r_iadd (v := (nI (zi + 2))) S (nI_add zi 2) dL_law_1029 ?_
  refine va_sld zx zb hX hbl hbA G.2.2.2.1 (vp_in_nI (by omega) (by omega)) dL_law_1030 ?_
  refine k_it (v := xs (zi + 2)) (congrArg xs (nI_clamp (by omega))) ?_
  refine lv_aload_n zx zb dL_law_1031 rfl (lv_at hl 3 rfl) ?_
  refine lv_iload_n zx zb dL_law_1032 rfl (lv_at hl 0 rfl) ?_
  refine lv_iconst (v := 3) zx zb dL_law_1033 (by decide) ?_
  refine r_iadd (v := (nI (zi + 3))) S (nI_add zi 3) dL_law_1034 ?_
  refine va_sld zx zb hX hbl hbA G.2.2.2.1 (vp_in_nI (by omega) (by omega)) dL_law_1035 ?_
  refine k_it (v := xs (zi + 3)) (congrArg xs (nI_clamp (by omega))) ?_
  refine b_wi (cells' := 94) (slots' := 3522) (wr := @HAppend.hAppend va_W va_W va_W _ (rcV X sp ap svp dvp n0p n1p n2p n3p n4p g0p gsp gnp gmp) (@HAppend.hAppend va_W va_W va_W _ ([((xa 2), .inl (X.2.2.2.1, 2, .inr (.inr (.inr (.inr (imQ i0 i1))))))]) (@HAppend.hAppend va_W va_W va_W _ (rcV X i0 ai svi dvi n0i n1i n2i n3i n4i g0i gsi gni gmi) (@HAppend.hAppend va_W va_W va_W _ (rcV X i1 aj svj dvj n0j n1j n2j n3j n4j g0j gsj gnj gmj) (@HAppend.hAppend va_W va_W va_W _ ([((xa 3), .inl (X.2.2.1, 2, .inl fz))]) (@HAppend.hAppend va_W va_W va_W _ (rdV X (xa 4) hb n bd vd fd) (@HAppend.hAppend va_W va_W va_W _ (rnV (xa 9) ar dr) (@HAppend.hAppend va_W va_W va_W _ ([((xa 10), .inr (7, [.ref hc, .int tm])), (hc, .inl (X.2.1, 16, .inl tf))]) (@HAppend.hAppend va_W va_W va_W _ (odW (xa 11) vo) (@HAppend.hAppend va_W va_W va_W _ ([((xa 13), .inl (X.2.1, 6, .inl fk))]) (@HAppend.hAppend va_W va_W va_W _ (mW m0 ma lc ld n t vt) (@HAppend.hAppend va_W va_W va_W _ ([((ma 0), .inl (X.2.1, 371, .inl fa))]) (@HAppend.hAppend va_W va_W va_W _ ([((ma 1), .inl (X.2.1, 742, .inl fK))]) (@HAppend.hAppend va_W va_W va_W _ ([((ma 2), .inl (X.2.2.1, 2, .inl fz))]) (@HAppend.hAppend va_W va_W va_W _ ([((ma 3), .inl (X.2.1, 3, .inl fR))]) (@HAppend.hAppend va_W va_W va_W _ ([((ma 6), .inl (X.2.1, 55, .inl fh))]) (@HAppend.hAppend va_W va_W va_W _ ([((ma 7), .inl (X.2.1, 6, .inl fg))]) (@HAppend.hAppend va_W va_W va_W _ ([((ma 8), .inl (X.2.1, 10, .inl ft))]) (@HAppend.hAppend va_W va_W va_W _ ([((ma 9), .inl (X.2.1, 20, .inl fb))]) (@HAppend.hAppend va_W va_W va_W _ ([((ma 10), .inl (X.2.1, 150, .inl fd))]) (@HAppend.hAppend va_W va_W va_W _ ([((ma 16), .inl (X.2.1, 123, .inl fw))]) ([((ma 17), .inl (X.2.1, 3, .inl fv))])))))))))))))))))))))) G rfl rfl [0, 1, 2, 3, 4, 5, 6, 7, 8, 9, 10, 11, 12, 13, 14, 15, 16, 70, 75, 76, 77, 78, 79, 80, 69] [17, 18, 19, 20, 21, 22, 23, 24, 25, 26, 27, 28, 29, 30, 31, 32, 33, 34, 35, 36, 37, 38, 39, 40, 41, 42, 43, 44, 45, 46, 47, 48, 49, 50, 51, 52, 53, 54, 55, 56, 57, 58, 59, 60, 61, 62, 63, 64, 65, 66, 67, 68, 71, 72, 73, 74, 81, 82, 83, 84, 85, 86, 87, 88, 89, 90, 91, 92, 93] rfl rfl rfl rfl (n_V (As := [.int (xs (zi + 1)), .int (xs (zi + 2)), .int (xs (zi + 3))]) (rest := []) (C := RX10) (T := TX10) (N := 14) (ci := 8) S G (s_pair l X h0 nw sp xa la lb an sv dv n0 n1 n2 n3 n4 g0 gs gn gm ag dg da gd fr (xs (zi + 1)) (xs (zi + 2)) (xs (zi + 3)) hI_n0 hI_n1 hI_n2 hI_n3 hI_n4 H.size) gL_law_X10_pair rfl rfl rfl hdV_X10_pair ⟨Nat.le_of_ble_eq_true rfl, Nat.le_of_ble_eq_true rfl⟩ [0, 1, 2, 3, 4, 5, 6, 7, 8, 9, 10, 11, 12, 13, 14, 15, 16, 70, 75, 76, 77, 78, 79, 80, 69] rfl rfl 0 rfl rfl rfl hl.1 (Nat.le_of_ble_eq_true rfl) dL_law_1036 ⟨Nat.le_of_ble_eq_true rfl, Nat.le_of_ble_eq_true rfl⟩) (fun r_1 u_1 H locs hp_1 G => ?_)
  obtain ⟨a_1a, d_1b, g_1c, f_1d⟩ := u_1
  have hq_1 := hp_1
  refine lv_pop zx zb dL_law_1039 rfl ?_
  refine lv_aload_n zx zb dL_law_1040 rfl (lv_at hl 1 rfl) ?_
  refine lv_aload_n zx zb dL_law_1041 rfl (lv_at hl 3 rfl) ?_
  refine lv_iload_n zx zb dL_law_1042 rfl (lv_at hl 0 rfl) ?_
  refine lv_iconst (v := 1) zx zb dL_law_1043 (by decide) ?_
  refine r_iadd (v := (nI (zi + 1))) S (nI_add zi 1) dL_law_1044 ?_
  refine va_sld zx zb hX hbl hbA G.2.2.2.1 (vp_in_nI (by omega) (by omega)) dL_law_1045 ?_
  refine k_it (v := xs (zi + 1)) (congrArg xs (nI_clamp (by omega))) ?_
  refine lv_aload_n zx zb dL_law_1046 rfl (lv_at hl 3 rfl) ?_
  refine lv_iload_n zx zb dL_law_1047 rfl (lv_at hl 0 rfl) ?_
  refine lv_iconst (v := 2) zx zb dL_law_1048 (by decide) ?_
  refine r_iadd (v := (nI (zi + 2))) S (nI_add zi 2) dL_law_1049 ?_
  refine va_sld zx zb hX hbl hbA G.2.2.2.1 (vp_in_nI (by omega) (by omega)) dL_law_1050 ?_
  refine k_it (v := xs (zi + 2)) (congrArg xs (nI_clamp (by omega))) ?_
  refine lv_aload_n zx zb dL_law_1051 rfl (lv_at hl 3 rfl) ?_
  refine lv_iload_n zx zb dL_law_1052 rfl (lv_at hl 0 rfl) ?_
  refine lv_iconst (v := 3) zx zb dL_law_1053 (by decide) ?_
  refine r_iadd (v := (nI (zi + 3))) S (nI_add zi 3) dL_law_1054 ?_
  refine va_sld zx zb hX hbl hbA G.2.2.2.1 (vp_in_nI (by omega) (by omega)) dL_law_1055 ?_
  refine k_it (v := xs (zi + 3)) (congrArg xs (nI_clamp (by omega))) ?_
  refine b_wi (cells' := 94) (slots' := 3522) (wr := @HAppend.hAppend va_W va_W va_W _ (rcV X sp ap svp dvp n0p n1p n2p n3p n4p g0p gsp gnp gmp) (@HAppend.hAppend va_W va_W va_W _ ([((xa 2), .inl (X.2.2.2.1, 2, .inr (.inr (.inr (.inr (imQ i0 i1))))))]) (@HAppend.hAppend va_W va_W va_W _ (rcV X i0 ai svi dvi n0i n1i n2i n3i n4i g0i gsi gni gmi) (@HAppend.hAppend va_W va_W va_W _ (rcV X i1 aj svj dvj n0j n1j n2j n3j n4j g0j gsj gnj gmj) (@HAppend.hAppend va_W va_W va_W _ ([((xa 3), .inl (X.2.2.1, 2, .inl fz))]) (@HAppend.hAppend va_W va_W va_W _ (rdV X (xa 4) hb n bd vd fd) (@HAppend.hAppend va_W va_W va_W _ (rnV (xa 9) ar dr) (@HAppend.hAppend va_W va_W va_W _ ([((xa 10), .inr (7, [.ref hc, .int tm])), (hc, .inl (X.2.1, 16, .inl tf))]) (@HAppend.hAppend va_W va_W va_W _ (odW (xa 11) vo) (@HAppend.hAppend va_W va_W va_W _ ([((xa 13), .inl (X.2.1, 6, .inl fk))]) (@HAppend.hAppend va_W va_W va_W _ ([((ma 1), .inl (X.2.1, 742, .inl fK))]) (@HAppend.hAppend va_W va_W va_W _ ([((ma 2), .inl (X.2.2.1, 2, .inl fz))]) (@HAppend.hAppend va_W va_W va_W _ ([((ma 7), .inl (X.2.1, 6, .inl fg))]) (@HAppend.hAppend va_W va_W va_W _ ([((ma 8), .inl (X.2.1, 10, .inl ft))]) (@HAppend.hAppend va_W va_W va_W _ ([((ma 10), .inl (X.2.1, 150, .inl fd))]) (@HAppend.hAppend va_W va_W va_W _ ([((ma 16), .inl (X.2.1, 123, .inl fw))]) (@HAppend.hAppend va_W va_W va_W _ ([((ma 17), .inl (X.2.1, 3, .inl fv))]) (@HAppend.hAppend va_W va_W va_W _ (xW h0 nw sp xa la lb) (@HAppend.hAppend va_W va_W va_W _ (rcV X nw an sv dv n0 n1 n2 n3 n4 g0 gs gn gm) (@HAppend.hAppend va_W va_W va_W _ (rnV (xa 8) a_1a d_1b) (@HAppend.hAppend va_W va_W va_W _ (duW X (xa 12) da g_1c) ([((xa 5), .inl (X.2.1, 3, .inl f_1d))])))))))))))))))))))))) G rfl rfl [57, 58, 62, 65, 61] [0, 1, 2, 3, 4, 5, 6, 7, 8, 9, 10, 11, 12, 13, 14, 15, 16, 17, 18, 19, 20, 21, 22, 23, 24, 25, 26, 27, 28, 29, 30, 31, 32, 33, 34, 35, 36, 37, 38, 39, 40, 41, 42, 43, 44, 45, 46, 47, 48, 49, 50, 51, 52, 53, 54, 55, 56, 59, 60, 63, 64, 66, 67, 68, 69, 70, 71, 72, 73, 74, 75, 76, 77, 78, 79, 80, 81, 82, 83, 84, 85, 86, 87, 88, 89, 90, 91, 92, 93] rfl rfl rfl rfl (n_V (As := [.int (xs (zi + 1)), .int (xs (zi + 2)), .int (xs (zi + 3))]) (rest := []) (C := RX11) (T := TX11) (N := 18) (ci := 9) S G (m_pair l X m0 ma lc ld n t vt fa n0 n2 n3 n4 u4 fh d0 d1 d2 d3 d4 fb fR (xs (zi + 1)) (xs (zi + 2)) (xs (zi + 3)) hI_n hI_t hI_fa hI_fh H.size) gL_law_X11_pair rfl rfl rfl hdV_X11_pair ⟨Nat.le_of_ble_eq_true rfl, Nat.le_of_ble_eq_true rfl⟩ [57, 58, 62, 65, 61] rfl rfl 57 rfl rfl rfl hl.1 (Nat.le_of_ble_eq_true rfl) dL_law_1056 ⟨Nat.le_of_ble_eq_true rfl, Nat.le_of_ble_eq_true rfl⟩) (fun r_2 u_2 H locs hp_2 G => ?_)
  obtain ⟨f_2a, c0_2b, c1_2c, c2_2d, c3_2e, c4_2f, f_2g, f_2h⟩ := u_2
  try dsimp only at hp_2
  obtain ⟨hI_f_2a, hq_2⟩ := hp_2
  have hO_f_2a := hI_f_2a.2
  obtain ⟨hm0_f_2a, hm1_f_2a, hm2_f_2a, hm3_f_2a, hm4_f_2a⟩ := hO_f_2a
  refine lv_pop zx zb dL_law_1059 rfl ?_
  refine lv_goto (tgt := 1277) zx zb dL_law_1060 (by decide) ?_
  have G : wd X (fun q : Nat => s.heap.size ≤ q) (fun q : Nat => s.heap.size ≤ q) s (@HAppend.hAppend va_W va_W va_W _ (xW h0 nw sp xa la lb) (@HAppend.hAppend va_W va_W va_W _ (rcV X nw an sv dv n0 n1 n2 n3 n4 g0 gs gn gm) (@HAppend.hAppend va_W va_W va_W _ (rcV X sp ap svp dvp n0p n1p n2p n3p n4p g0p gsp gnp gmp) (@HAppend.hAppend va_W va_W va_W _ ([((xa 2), .inl (X.2.2.2.1, 2, .inr (.inr (.inr (.inr (imQ i0 i1))))))]) (@HAppend.hAppend va_W va_W va_W _ (rcV X i0 ai svi dvi n0i n1i n2i n3i n4i g0i gsi gni gmi) (@HAppend.hAppend va_W va_W va_W _ (rcV X i1 aj svj dvj n0j n1j n2j n3j n4j g0j gsj gnj gmj) (@HAppend.hAppend va_W va_W va_W _ ([((xa 3), .inl (X.2.2.1, 2, .inl fz))]) (@HAppend.hAppend va_W va_W va_W _ (rdV X (xa 4) hb n bd vd fd) (@HAppend.hAppend va_W va_W va_W _ ([((xa 5), .inl (X.2.1, 3, .inl f_1d))]) (@HAppend.hAppend va_W va_W va_W _ (rnV (xa 8) a_1a d_1b) (@HAppend.hAppend va_W va_W va_W _ (rnV (xa 9) ar dr) (@HAppend.hAppend va_W va_W va_W _ ([((xa 10), .inr (7, [.ref hc, .int tm])), (hc, .inl (X.2.1, 16, .inl tf))]) (@HAppend.hAppend va_W va_W va_W _ (odW (xa 11) vo) (@HAppend.hAppend va_W va_W va_W _ (duW X (xa 12) da g_1c) (@HAppend.hAppend va_W va_W va_W _ ([((xa 13), .inl (X.2.1, 6, .inl fk))]) (@HAppend.hAppend va_W va_W va_W _ (mW m0 ma lc ld n t vt) (@HAppend.hAppend va_W va_W va_W _ ([((ma 0), .inl (X.2.1, 371, .inl fa))]) (@HAppend.hAppend va_W va_W va_W _ ([((ma 1), .inl (X.2.1, 742, .inl fK))]) (@HAppend.hAppend va_W va_W va_W _ ([((ma 2), .inl (X.2.2.1, 2, .inl fz))]) (@HAppend.hAppend va_W va_W va_W _ ([((ma 3), .inl (X.2.1, 3, .inl f_2h))]) (@HAppend.hAppend va_W va_W va_W _ ([((ma 6), .inl (X.2.1, 55, .inl f_2a))]) (@HAppend.hAppend va_W va_W va_W _ ([((ma 7), .inl (X.2.1, 6, .inl fg))]) (@HAppend.hAppend va_W va_W va_W _ ([((ma 8), .inl (X.2.1, 10, .inl ft))]) (@HAppend.hAppend va_W va_W va_W _ ([((ma 9), .inl (X.2.1, 20, .inl f_2g))]) (@HAppend.hAppend va_W va_W va_W _ ([((ma 10), .inl (X.2.1, 150, .inl fd))]) (@HAppend.hAppend va_W va_W va_W _ ([((ma 16), .inl (X.2.1, 123, .inl fw))]) ([((ma 17), .inl (X.2.1, 3, .inl fv))]))))))))))))))))))))))))))) H locs := wd_sub G [64, 65, 66, 67, 68, 69, 70, 71, 72, 73, 74, 75, 76, 77, 78, 79, 80, 0, 1, 2, 3, 4, 5, 6, 7, 8, 9, 10, 11, 12, 13, 14, 15, 16, 17, 18, 19, 20, 21, 22, 23, 24, 25, 26, 27, 28, 29, 30, 31, 32, 33, 34, 35, 36, 37, 38, 39, 40, 41, 42, 43, 44, 45, 46, 47, 48, 49, 50, 51, 88, 81, 52, 53, 54, 55, 82, 83, 84, 85, 86, 87, 56, 89, 90, 57, 58, 93, 91, 59, 60, 92, 61, 62, 63] rfl rfl
  exact kk _ _ _ (LW_i nw sp xa la lb an sv dv n0 n1 n2 n3 n4 g0 gs gn gm ap svp dvp n0p n1p n2p n3p n4p g0p gsp gnp gmp i0 i1 ai svi dvi n0i n1i n2i n3i n4i g0i gsi gni gmi aj svj dvj n0j n1j n2j n3j n4j g0j gsj gnj gmj fz hb n bd vd fd f_1d a_1a d_1b ar dr hc tm tf vo da g_1c fk ma lc ld t vt fa u4 fK u5 u6 f_2h f_2a c0_2b c1_2c c2_2d c3_2e c4_2f fg ft f_2g fw w0 w1 w2 w3 w4 fv ⟨hI_n0, hI_n1, hI_n2, hI_n3, hI_n4, hI_n0p, hI_n1p, hI_n2p, hI_n3p, hI_n4p, hI_n0i, hI_n1i, hI_n2i, hI_n3i, hI_n4i, hI_n0j, hI_n1j, hI_n2j, hI_n3j, hI_n4j, hI_n, hI_bd, hI_t, hI_fa, hI_fK, hI_f_2a, hI_fw⟩ ⟨hR0, hR1, hR2⟩ G) hl
theorem hdV_X10_stumble : yX10_stumble.cls = RX10 ∧ yX10_stumble.cls ≠ "java/lang/invoke/MethodHandle" ∧ yX10_stumble.cls ≠ "java/lang/invoke/VarHandle" ∧ (parseMethodDescriptor yX10_stumble.desc).map (fun d => d.parameters.length) = some 4 := by decide +kernel
theorem hdV_X11_stumble : yX11_stumble.cls = RX11 ∧ yX11_stumble.cls ≠ "java/lang/invoke/MethodHandle" ∧ yX11_stumble.cls ≠ "java/lang/invoke/VarHandle" ∧ (parseMethodDescriptor yX11_stumble.desc).map (fun d => d.parameters.length) = some 4 := by decide +kernel
set_option maxRecDepth 100000 in
set_option maxHeartbeats 8000000 in
theorem lc_29 (S : CallFix p m c cL_law 4 s #[Value.ref b] wsL_law RL) (hX : va_X b L xs s s.heap) (hbl : b < s.heap.size) (hL : L ≤ 3072) (hzi : zi + 6 ≤ L) (hZ : sE K (fun q : Nat => s.heap.size ≤ q) s s.heap) (hW : LW X h0 m0 s H locs) (hl : lv_has ls 4 [(3, .int (nI zi)), (2, .ref m0), (1, .ref h0), (0, .ref b)]) (kk : ∀ (H : Heap) (locs : List Loc) (ls : Array Slot), LW X h0 m0 s H locs → lv_has ls 4 [(3, .int (nI zi)), (2, .ref m0), (1, .ref h0), (0, .ref b)] → W p l e room_1 s m #[Value.ref b] below meth c H locs 94 3522 Q (F0 m 1277 ls [])) : W p l e room_1 s m #[Value.ref b] below meth c H locs 94 3522 Q (F0 m 1063 ls []) := by
  have zx := S.1
  have zb := S.2.1
  have hbA : ¬ (fun q : Nat => s.heap.size ≤ q) b := Nat.not_le.mpr hbl
  refine LW_e hW (fun nw sp xa la lb an sv dv n0 n1 n2 n3 n4 g0 gs gn gm ap svp dvp n0p n1p n2p n3p n4p g0p gsp gnp gmp i0 i1 ai svi dvi n0i n1i n2i n3i n4i g0i gsi gni gmi aj svj dvj n0j n1j n2j n3j n4j g0j gsj gnj gmj fz hb n bd vd fd fr ag dg ar dr hc tm tf vo da gd fk ma lc ld t vt fa u4 fK u5 u6 fR fh d0 d1 d2 d3 d4 fg ft fb fw w0 w1 w2 w3 w4 fv hIV hRL G => ?_)
  obtain ⟨hR0, hR1, hR2⟩ := hRL
  obtain ⟨hI_n0, hI_n1, hI_n2, hI_n3, hI_n4, hI_n0p, hI_n1p, hI_n2p, hI_n3p, hI_n4p, hI_n0i, hI_n1i, hI_n2i, hI_n3i, hI_n4i, hI_n0j, hI_n1j, hI_n2j, hI_n3j, hI_n4j, hI_n, hI_bd, hI_t, hI_fa, hI_fK, hI_fh, hI_fw⟩ := hIV
  have hO_bd := hI_bd
  obtain ⟨hd0_bd, hd1_bd⟩ := hO_bd
  have hO_t := hI_t
  obtain ⟨ht0_t, ht1_t⟩ := hO_t
  have hO_fa := hI_fa.2
  obtain ⟨hm0_fa, hm1_fa, hm2_fa, hm3_fa, hm4_fa⟩ := hO_fa
  have hO_fh := hI_fh.2
  obtain ⟨hm0_fh, hm1_fh, hm2_fh, hm3_fh, hm4_fh⟩ := hO_fh
  have hO_fw := hI_fw.2
  obtain ⟨hm0_fw, hm1_fw, hm2_fw, hm3_fw, hm4_fw⟩ := hO_fw
  refine lv_aload_n zx zb dL_law_1063 rfl (lv_at hl 2 rfl) ?_
  refine lv_aload_n zx zb dL_law_1064 rfl (lv_at hl 3 rfl) ?_
  refine lv_iload_n zx zb dL_law_1065 rfl (lv_at hl 0 rfl) ?_
  refine lv_iconst (v := 1) zx zb dL_law_1066 (by decide) ?_
  refine r_iadd (v := (nI (zi + 1))) S (nI_add zi 1) dL_law_1067 ?_
  refine va_sld zx zb hX hbl hbA G.2.2.2.1 (vp_in_nI (by omega) (by omega)) dL_law_1068 ?_
  refine k_it (v := xs (zi + 1)) (congrArg xs (nI_clamp (by omega))) ?_
  refine lv_aload_n zx zb dL_law_1069 rfl (lv_at hl 3 rfl) ?_
  refine lv_iload_n zx zb dL_law_1070 rfl (lv_at hl 0 rfl) ?_
  refine lv_iconst (v := 2) zx zb dL_law_1071 (by decide) ?_
  refine r_iadd (v := (nI (zi + 2))) S (nI_add zi 2) dL_law_1072 ?_
  refine va_sld zx zb hX hbl hbA G.2.2.2.1 (vp_in_nI (by omega) (by omega)) dL_law_1073 ?_
  refine k_it (v := xs (zi + 2)) (congrArg xs (nI_clamp (by omega))) ?_
  refine lv_aload_n zx zb dL_law_1074 rfl (lv_at hl 3 rfl) ?_
  refine lv_iload_n zx zb dL_law_1075 rfl (lv_at hl 0 rfl) ?_
  refine lv_iconst (v := 3) zx zb dL_law_1076 (by decide) ?_
  refine r_iadd (v := (nI (zi + 3))) S (nI_add zi 3) dL_law_1077 ?_
  refine va_sld zx zb hX hbl hbA G.2.2.2.1 (vp_in_nI (by omega) (by omega)) dL_law_1078 ?_
  refine k_it (v := xs (zi + 3)) (congrArg xs (nI_clamp (by omega))) ?_
  refine lv_aload_n zx zb dL_law_1079 rfl (lv_at hl 3 rfl) ?_
  refine lv_iload_n zx zb dL_law_1080 rfl (lv_at hl 0 rfl) ?_
  refine lv_iconst (v := 4) zx zb dL_law_1081 (by decide) ?_
  refine r_iadd (v := (nI (zi + 4))) S (nI_add zi 4) dL_law_1082 ?_
  refine va_sld zx zb hX hbl hbA G.2.2.2.1 (vp_in_nI (by omega) (by omega)) dL_law_1083 ?_
  refine k_it (v := xs (zi + 4)) (congrArg xs (nI_clamp (by omega))) ?_
  refine b_wi (cells' := 94) (slots' := 3522) (wr := @HAppend.hAppend va_W va_W va_W _ (rcV X sp ap svp dvp n0p n1p n2p n3p n4p g0p gsp gnp gmp) (@HAppend.hAppend va_W va_W va_W _ ([((xa 2), .inl (X.2.2.2.1, 2, .inr (.inr (.inr (.inr (imQ i0 i1))))))]) (@HAppend.hAppend va_W va_W va_W _ (rcV X i0 ai svi dvi n0i n1i n2i n3i n4i g0i gsi gni gmi) (@HAppend.hAppend va_W va_W va_W _ (rcV X i1 aj svj dvj n0j n1j n2j n3j n4j g0j gsj gnj gmj) (@HAppend.hAppend va_W va_W va_W _ ([((xa 3), .inl (X.2.2.1, 2, .inl fz))]) (@HAppend.hAppend va_W va_W va_W _ (rdV X (xa 4) hb n bd vd fd) (@HAppend.hAppend va_W va_W va_W _ (rnV (xa 8) ag dg) (@HAppend.hAppend va_W va_W va_W _ (rnV (xa 9) ar dr) (@HAppend.hAppend va_W va_W va_W _ ([((xa 10), .inr (7, [.ref hc, .int tm])), (hc, .inl (X.2.1, 16, .inl tf))]) (@HAppend.hAppend va_W va_W va_W _ (duW X (xa 12) da gd) (@HAppend.hAppend va_W va_W va_W _ ([((xa 13), .inl (X.2.1, 6, .inl fk))]) (@HAppend.hAppend va_W va_W va_W _ (mW m0 ma lc ld n t vt) (@HAppend.hAppend va_W va_W va_W _ ([((ma 0), .inl (X.2.1, 371, .inl fa))]) (@HAppend.hAppend va_W va_W va_W _ ([((ma 1), .inl (X.2.1, 742, .inl fK))]) (@HAppend.hAppend va_W va_W va_W _ ([((ma 2), .inl (X.2.2.1, 2, .inl fz))]) (@HAppend.hAppend va_W va_W va_W _ ([((ma 3), .inl (X.2.1, 3, .inl fR))]) (@HAppend.hAppend va_W va_W va_W _ ([((ma 6), .inl (X.2.1, 55, .inl fh))]) (@HAppend.hAppend va_W va_W va_W _ ([((ma 7), .inl (X.2.1, 6, .inl fg))]) (@HAppend.hAppend va_W va_W va_W _ ([((ma 8), .inl (X.2.1, 10, .inl ft))]) (@HAppend.hAppend va_W va_W va_W _ ([((ma 9), .inl (X.2.1, 20, .inl fb))]) (@HAppend.hAppend va_W va_W va_W _ ([((ma 10), .inl (X.2.1, 150, .inl fd))]) (@HAppend.hAppend va_W va_W va_W _ ([((ma 16), .inl (X.2.1, 123, .inl fw))]) ([((ma 17), .inl (X.2.1, 3, .inl fv))]))))))))))))))))))))))) G rfl rfl [0, 1, 2, 3, 4, 5, 6, 7, 8, 9, 10, 11, 12, 13, 14, 15, 16, 74, 69] [17, 18, 19, 20, 21, 22, 23, 24, 25, 26, 27, 28, 29, 30, 31, 32, 33, 34, 35, 36, 37, 38, 39, 40, 41, 42, 43, 44, 45, 46, 47, 48, 49, 50, 51, 52, 53, 54, 55, 56, 57, 58, 59, 60, 61, 62, 63, 64, 65, 66, 67, 68, 70, 71, 72, 73, 75, 76, 77, 78, 79, 80, 81, 82, 83, 84, 85, 86, 87, 88, 89, 90, 91, 92, 93] rfl rfl rfl rfl (n_V (As := [.int (xs (zi + 1)), .int (xs (zi + 2)), .int (xs (zi + 3)), .int (xs (zi + 4))]) (rest := []) (C := RX10) (T := TX10) (N := 14) (ci := 8) S G (s_stumble l X h0 nw sp xa la lb an sv dv n0 n1 n2 n3 n4 g0 gs gn gm vo fr (xs (zi + 1)) (xs (zi + 2)) (xs (zi + 3)) (xs (zi + 4)) hI_n0 hI_n1 hI_n2 hI_n3 hI_n4 H.size) gL_law_X10_stumble rfl rfl rfl hdV_X10_stumble ⟨Nat.le_of_ble_eq_true rfl, Nat.le_of_ble_eq_true rfl⟩ [0, 1, 2, 3, 4, 5, 6, 7, 8, 9, 10, 11, 12, 13, 14, 15, 16, 74, 69] rfl rfl 0 rfl rfl rfl hl.1 (Nat.le_of_ble_eq_true rfl) dL_law_1084 ⟨Nat.le_of_ble_eq_true rfl, Nat.le_of_ble_eq_true rfl⟩) (fun r_1 u_1 H locs hp_1 G => ?_)
  obtain ⟨la_1a, lb_1b, v_1c, f_1d⟩ := u_1
  have hq_1 := hp_1
  refine lv_pop zx zb dL_law_1087 rfl ?_
  refine lv_aload_n zx zb dL_law_1088 rfl (lv_at hl 1 rfl) ?_
  refine lv_aload_n zx zb dL_law_1089 rfl (lv_at hl 3 rfl) ?_
  refine lv_iload_n zx zb dL_law_1090 rfl (lv_at hl 0 rfl) ?_
  refine lv_iconst (v := 1) zx zb dL_law_1091 (by decide) ?_
  refine r_iadd (v := (nI (zi + 1))) S (nI_add zi 1) dL_law_1092 ?_
  refine va_sld zx zb hX hbl hbA G.2.2.2.1 (vp_in_nI (by omega) (by omega)) dL_law_1093 ?_
  refine k_it (v := xs (zi + 1)) (congrArg xs (nI_clamp (by omega))) ?_
  refine lv_aload_n zx zb dL_law_1094 rfl (lv_at hl 3 rfl) ?_
  refine lv_iload_n zx zb dL_law_1095 rfl (lv_at hl 0 rfl) ?_
  refine lv_iconst (v := 2) zx zb dL_law_1096 (by decide) ?_
  refine r_iadd (v := (nI (zi + 2))) S (nI_add zi 2) dL_law_1097 ?_
  refine va_sld zx zb hX hbl hbA G.2.2.2.1 (vp_in_nI (by omega) (by omega)) dL_law_1098 ?_
  refine k_it (v := xs (zi + 2)) (congrArg xs (nI_clamp (by omega))) ?_
  refine lv_aload_n zx zb dL_law_1099 rfl (lv_at hl 3 rfl) ?_
  refine lv_iload_n zx zb dL_law_1100 rfl (lv_at hl 0 rfl) ?_
  refine lv_iconst (v := 3) zx zb dL_law_1101 (by decide) ?_
  refine r_iadd (v := (nI (zi + 3))) S (nI_add zi 3) dL_law_1102 ?_
  refine va_sld zx zb hX hbl hbA G.2.2.2.1 (vp_in_nI (by omega) (by omega)) dL_law_1103 ?_
  refine k_it (v := xs (zi + 3)) (congrArg xs (nI_clamp (by omega))) ?_
  refine lv_aload_n zx zb dL_law_1104 rfl (lv_at hl 3 rfl) ?_
  refine lv_iload_n zx zb dL_law_1105 rfl (lv_at hl 0 rfl) ?_
  refine lv_iconst (v := 4) zx zb dL_law_1106 (by decide) ?_
  refine r_iadd (v := (nI (zi + 4))) S (nI_add zi 4) dL_law_1107 ?_
  refine va_sld zx zb hX hbl hbA G.2.2.2.1 (vp_in_nI (by omega) (by omega)) dL_law_1108 ?_
  refine k_it (v := xs (zi + 4)) (congrArg xs (nI_clamp (by omega))) ?_
  refine b_wi (cells' := 94) (slots' := 3522) (wr := @HAppend.hAppend va_W va_W va_W _ (rcV X sp ap svp dvp n0p n1p n2p n3p n4p g0p gsp gnp gmp) (@HAppend.hAppend va_W va_W va_W _ ([((xa 2), .inl (X.2.2.2.1, 2, .inr (.inr (.inr (.inr (imQ i0 i1))))))]) (@HAppend.hAppend va_W va_W va_W _ (rcV X i0 ai svi dvi n0i n1i n2i n3i n4i g0i gsi gni gmi) (@HAppend.hAppend va_W va_W va_W _ (rcV X i1 aj svj dvj n0j n1j n2j n3j n4j g0j gsj gnj gmj) (@HAppend.hAppend va_W va_W va_W _ ([((xa 3), .inl (X.2.2.1, 2, .inl fz))]) (@HAppend.hAppend va_W va_W va_W _ (rdV X (xa 4) hb n bd vd fd) (@HAppend.hAppend va_W va_W va_W _ (rnV (xa 8) ag dg) (@HAppend.hAppend va_W va_W va_W _ (rnV (xa 9) ar dr) (@HAppend.hAppend va_W va_W va_W _ ([((xa 10), .inr (7, [.ref hc, .int tm])), (hc, .inl (X.2.1, 16, .inl tf))]) (@HAppend.hAppend va_W va_W va_W _ (duW X (xa 12) da gd) (@HAppend.hAppend va_W va_W va_W _ ([((xa 13), .inl (X.2.1, 6, .inl fk))]) (@HAppend.hAppend va_W va_W va_W _ ([((ma 1), .inl (X.2.1, 742, .inl fK))]) (@HAppend.hAppend va_W va_W va_W _ ([((ma 2), .inl (X.2.2.1, 2, .inl fz))]) (@HAppend.hAppend va_W va_W va_W _ ([((ma 7), .inl (X.2.1, 6, .inl fg))]) (@HAppend.hAppend va_W va_W va_W _ ([((ma 8), .inl (X.2.1, 10, .inl ft))]) (@HAppend.hAppend va_W va_W va_W _ ([((ma 9), .inl (X.2.1, 20, .inl fb))]) (@HAppend.hAppend va_W va_W va_W _ ([((ma 10), .inl (X.2.1, 150, .inl fd))]) (@HAppend.hAppend va_W va_W va_W _ ([((ma 16), .inl (X.2.1, 123, .inl fw))]) (@HAppend.hAppend va_W va_W va_W _ ([((ma 17), .inl (X.2.1, 3, .inl fv))]) (@HAppend.hAppend va_W va_W va_W _ (xW h0 nw sp xa la_1a lb_1b) (@HAppend.hAppend va_W va_W va_W _ (rcV X nw an sv dv n0 n1 n2 n3 n4 g0 gs gn gm) (@HAppend.hAppend va_W va_W va_W _ (odW (xa 11) v_1c) ([((xa 5), .inl (X.2.1, 3, .inl f_1d))]))))))))))))))))))))))) G rfl rfl [63, 64, 68, 67] [0, 1, 2, 3, 4, 5, 6, 7, 8, 9, 10, 11, 12, 13, 14, 15, 16, 17, 18, 19, 20, 21, 22, 23, 24, 25, 26, 27, 28, 29, 30, 31, 32, 33, 34, 35, 36, 37, 38, 39, 40, 41, 42, 43, 44, 45, 46, 47, 48, 49, 50, 51, 52, 53, 54, 55, 56, 57, 58, 59, 60, 61, 62, 65, 66, 69, 70, 71, 72, 73, 74, 75, 76, 77, 78, 79, 80, 81, 82, 83, 84, 85, 86, 87, 88, 89, 90, 91, 92, 93] rfl rfl rfl rfl (n_V (As := [.int (xs (zi + 1)), .int (xs (zi + 2)), .int (xs (zi + 3)), .int (xs (zi + 4))]) (rest := []) (C := RX11) (T := TX11) (N := 18) (ci := 9) S G (m_stumble l X m0 ma lc ld n t vt fa n0 n2 n3 n4 u4 fh d0 d1 d2 d3 d4 fR (xs (zi + 1)) (xs (zi + 2)) (xs (zi + 3)) (xs (zi + 4)) hI_n hI_t hI_fa hI_fh H.size) gL_law_X11_stumble rfl rfl rfl hdV_X11_stumble ⟨Nat.le_of_ble_eq_true rfl, Nat.le_of_ble_eq_true rfl⟩ [63, 64, 68, 67] rfl rfl 63 rfl rfl rfl hl.1 (Nat.le_of_ble_eq_true rfl) dL_law_1109 ⟨Nat.le_of_ble_eq_true rfl, Nat.le_of_ble_eq_true rfl⟩) (fun r_2 u_2 H locs hp_2 G => ?_)
  obtain ⟨la_2a, lb_2b, f_2c, c0_2d, c1_2e, c2_2f, c3_2g, c4_2h, f_2i⟩ := u_2
  try dsimp only at hp_2
  obtain ⟨hI_f_2c, hq_2⟩ := hp_2
  have hO_t := hI_t
  obtain ⟨ht0_t, ht1_t⟩ := hO_t
  have hO_f_2c := hI_f_2c.2
  obtain ⟨hm0_f_2c, hm1_f_2c, hm2_f_2c, hm3_f_2c, hm4_f_2c⟩ := hO_f_2c
  have hEA : r_1 = r_2 := hq_1.trans hq_2.symm
  refine lv_pop zx zb dL_law_1112 rfl ?_
  refine lv_goto (tgt := 1277) zx zb dL_law_1113 (by decide) ?_
  have G : wd X (fun q : Nat => s.heap.size ≤ q) (fun q : Nat => s.heap.size ≤ q) s (@HAppend.hAppend va_W va_W va_W _ (xW h0 nw sp xa la_1a lb_1b) (@HAppend.hAppend va_W va_W va_W _ (rcV X nw an sv dv n0 n1 n2 n3 n4 g0 gs gn gm) (@HAppend.hAppend va_W va_W va_W _ (rcV X sp ap svp dvp n0p n1p n2p n3p n4p g0p gsp gnp gmp) (@HAppend.hAppend va_W va_W va_W _ ([((xa 2), .inl (X.2.2.2.1, 2, .inr (.inr (.inr (.inr (imQ i0 i1))))))]) (@HAppend.hAppend va_W va_W va_W _ (rcV X i0 ai svi dvi n0i n1i n2i n3i n4i g0i gsi gni gmi) (@HAppend.hAppend va_W va_W va_W _ (rcV X i1 aj svj dvj n0j n1j n2j n3j n4j g0j gsj gnj gmj) (@HAppend.hAppend va_W va_W va_W _ ([((xa 3), .inl (X.2.2.1, 2, .inl fz))]) (@HAppend.hAppend va_W va_W va_W _ (rdV X (xa 4) hb n bd vd fd) (@HAppend.hAppend va_W va_W va_W _ ([((xa 5), .inl (X.2.1, 3, .inl f_1d))]) (@HAppend.hAppend va_W va_W va_W _ (rnV (xa 8) ag dg) (@HAppend.hAppend va_W va_W va_W _ (rnV (xa 9) ar dr) (@HAppend.hAppend va_W va_W va_W _ ([((xa 10), .inr (7, [.ref hc, .int tm])), (hc, .inl (X.2.1, 16, .inl tf))]) (@HAppend.hAppend va_W va_W va_W _ (odW (xa 11) v_1c) (@HAppend.hAppend va_W va_W va_W _ (duW X (xa 12) da gd) (@HAppend.hAppend va_W va_W va_W _ ([((xa 13), .inl (X.2.1, 6, .inl fk))]) (@HAppend.hAppend va_W va_W va_W _ (mW m0 ma la_2a lb_2b n t vt) (@HAppend.hAppend va_W va_W va_W _ ([((ma 0), .inl (X.2.1, 371, .inl fa))]) (@HAppend.hAppend va_W va_W va_W _ ([((ma 1), .inl (X.2.1, 742, .inl fK))]) (@HAppend.hAppend va_W va_W va_W _ ([((ma 2), .inl (X.2.2.1, 2, .inl fz))]) (@HAppend.hAppend va_W va_W va_W _ ([((ma 3), .inl (X.2.1, 3, .inl f_2i))]) (@HAppend.hAppend va_W va_W va_W _ ([((ma 6), .inl (X.2.1, 55, .inl f_2c))]) (@HAppend.hAppend va_W va_W va_W _ ([((ma 7), .inl (X.2.1, 6, .inl fg))]) (@HAppend.hAppend va_W va_W va_W _ ([((ma 8), .inl (X.2.1, 10, .inl ft))]) (@HAppend.hAppend va_W va_W va_W _ ([((ma 9), .inl (X.2.1, 20, .inl fb))]) (@HAppend.hAppend va_W va_W va_W _ ([((ma 10), .inl (X.2.1, 150, .inl fd))]) (@HAppend.hAppend va_W va_W va_W _ ([((ma 16), .inl (X.2.1, 123, .inl fw))]) ([((ma 17), .inl (X.2.1, 3, .inl fv))]))))))))))))))))))))))))))) H locs := wd_sub G [71, 72, 73, 74, 75, 76, 77, 78, 79, 80, 81, 82, 83, 84, 85, 86, 87, 0, 1, 2, 3, 4, 5, 6, 7, 8, 9, 10, 11, 12, 13, 14, 15, 16, 17, 18, 19, 20, 21, 22, 23, 24, 25, 26, 27, 28, 29, 30, 31, 32, 33, 34, 35, 36, 37, 38, 39, 40, 41, 42, 43, 44, 45, 46, 47, 48, 49, 50, 51, 89, 52, 53, 54, 55, 88, 56, 57, 58, 59, 60, 61, 62, 90, 91, 63, 64, 93, 92, 65, 66, 67, 68, 69, 70] rfl rfl
  exact kk _ _ _ (LW_i nw sp xa la_1a lb_1b an sv dv n0 n1 n2 n3 n4 g0 gs gn gm ap svp dvp n0p n1p n2p n3p n4p g0p gsp gnp gmp i0 i1 ai svi dvi n0i n1i n2i n3i n4i g0i gsi gni gmi aj svj dvj n0j n1j n2j n3j n4j g0j gsj gnj gmj fz hb n bd vd fd f_1d ag dg ar dr hc tm tf v_1c da gd fk ma la_2a lb_2b t vt fa u4 fK u5 u6 f_2i f_2c c0_2d c1_2e c2_2f c3_2g c4_2h fg ft fb fw w0 w1 w2 w3 w4 fv ⟨hI_n0, hI_n1, hI_n2, hI_n3, hI_n4, hI_n0p, hI_n1p, hI_n2p, hI_n3p, hI_n4p, hI_n0i, hI_n1i, hI_n2i, hI_n3i, hI_n4i, hI_n0j, hI_n1j, hI_n2j, hI_n3j, hI_n4j, hI_n, hI_bd, hI_t, hI_fa, hI_fK, hI_f_2c, hI_fw⟩ ⟨hR0, hR1, hR2⟩ G) hl
theorem hdV_X10_races : yX10_races.cls = RX10 ∧ yX10_races.cls ≠ "java/lang/invoke/MethodHandle" ∧ yX10_races.cls ≠ "java/lang/invoke/VarHandle" ∧ (parseMethodDescriptor yX10_races.desc).map (fun d => d.parameters.length) = some 2 := by decide +kernel
theorem hdV_X11_races : yX11_races.cls = RX11 ∧ yX11_races.cls ≠ "java/lang/invoke/MethodHandle" ∧ yX11_races.cls ≠ "java/lang/invoke/VarHandle" ∧ (parseMethodDescriptor yX11_races.desc).map (fun d => d.parameters.length) = some 2 := by decide +kernel
set_option maxRecDepth 100000 in
set_option maxHeartbeats 8000000 in
theorem lc_30 (S : CallFix p m c cL_law 4 s #[Value.ref b] wsL_law RL) (hX : va_X b L xs s s.heap) (hbl : b < s.heap.size) (hL : L ≤ 3072) (hzi : zi + 6 ≤ L) (hZ : sE K (fun q : Nat => s.heap.size ≤ q) s s.heap) (hW : LW X h0 m0 s H locs) (hl : lv_has ls 4 [(3, .int (nI zi)), (2, .ref m0), (1, .ref h0), (0, .ref b)]) (kk : ∀ (H : Heap) (locs : List Loc) (ls : Array Slot), LW X h0 m0 s H locs → lv_has ls 4 [(3, .int (nI zi)), (2, .ref m0), (1, .ref h0), (0, .ref b)] → W p l e room_1 s m #[Value.ref b] below meth c H locs 94 3522 Q (F0 m 1277 ls [])) : W p l e room_1 s m #[Value.ref b] below meth c H locs 94 3522 Q (F0 m 1116 ls []) := by
  have zx := S.1
  have zb := S.2.1
  have hbA : ¬ (fun q : Nat => s.heap.size ≤ q) b := Nat.not_le.mpr hbl
  refine LW_e hW (fun nw sp xa la lb an sv dv n0 n1 n2 n3 n4 g0 gs gn gm ap svp dvp n0p n1p n2p n3p n4p g0p gsp gnp gmp i0 i1 ai svi dvi n0i n1i n2i n3i n4i g0i gsi gni gmi aj svj dvj n0j n1j n2j n3j n4j g0j gsj gnj gmj fz hb n bd vd fd fr ag dg ar dr hc tm tf vo da gd fk ma lc ld t vt fa u4 fK u5 u6 fR fh d0 d1 d2 d3 d4 fg ft fb fw w0 w1 w2 w3 w4 fv hIV hRL G => ?_)
  obtain ⟨hR0, hR1, hR2⟩ := hRL
  obtain ⟨hI_n0, hI_n1, hI_n2, hI_n3, hI_n4, hI_n0p, hI_n1p, hI_n2p, hI_n3p, hI_n4p, hI_n0i, hI_n1i, hI_n2i, hI_n3i, hI_n4i, hI_n0j, hI_n1j, hI_n2j, hI_n3j, hI_n4j, hI_n, hI_bd, hI_t, hI_fa, hI_fK, hI_fh, hI_fw⟩ := hIV
  have hO_bd := hI_bd
  obtain ⟨hd0_bd, hd1_bd⟩ := hO_bd
  have hO_t := hI_t
  obtain ⟨ht0_t, ht1_t⟩ := hO_t
  have hO_fa := hI_fa.2
  obtain ⟨hm0_fa, hm1_fa, hm2_fa, hm3_fa, hm4_fa⟩ := hO_fa
  have hO_fh := hI_fh.2
  obtain ⟨hm0_fh, hm1_fh, hm2_fh, hm3_fh, hm4_fh⟩ := hO_fh
  have hO_fw := hI_fw.2
  obtain ⟨hm0_fw, hm1_fw, hm2_fw, hm3_fw, hm4_fw⟩ := hO_fw
  refine lv_aload_n zx zb dL_law_1116 rfl (lv_at hl 2 rfl) ?_
  refine lv_aload_n zx zb dL_law_1117 rfl (lv_at hl 3 rfl) ?_
  refine lv_iload_n zx zb dL_law_1118 rfl (lv_at hl 0 rfl) ?_
  refine lv_iconst (v := 1) zx zb dL_law_1119 (by decide) ?_
  refine r_iadd (v := (nI (zi + 1))) S (nI_add zi 1) dL_law_1120 ?_
  refine va_sld zx zb hX hbl hbA G.2.2.2.1 (vp_in_nI (by omega) (by omega)) dL_law_1121 ?_
  refine k_it (v := xs (zi + 1)) (congrArg xs (nI_clamp (by omega))) ?_
  refine lv_aload_n zx zb dL_law_1122 rfl (lv_at hl 3 rfl) ?_
  refine lv_iload_n zx zb dL_law_1123 rfl (lv_at hl 0 rfl) ?_
  refine lv_iconst (v := 2) zx zb dL_law_1124 (by decide) ?_
  refine r_iadd (v := (nI (zi + 2))) S (nI_add zi 2) dL_law_1125 ?_
  refine va_sld zx zb hX hbl hbA G.2.2.2.1 (vp_in_nI (by omega) (by omega)) dL_law_1126 ?_
  refine k_it (v := xs (zi + 2)) (congrArg xs (nI_clamp (by omega))) ?_
  refine b_wi (cells' := 94) (slots' := 3522) (wr := @HAppend.hAppend va_W va_W va_W _ ([((xa 2), .inl (X.2.2.2.1, 2, .inr (.inr (.inr (.inr (imQ i0 i1))))))]) (@HAppend.hAppend va_W va_W va_W _ (rcV X i0 ai svi dvi n0i n1i n2i n3i n4i g0i gsi gni gmi) (@HAppend.hAppend va_W va_W va_W _ (rcV X i1 aj svj dvj n0j n1j n2j n3j n4j g0j gsj gnj gmj) (@HAppend.hAppend va_W va_W va_W _ ([((xa 3), .inl (X.2.2.1, 2, .inl fz))]) (@HAppend.hAppend va_W va_W va_W _ (rdV X (xa 4) hb n bd vd fd) (@HAppend.hAppend va_W va_W va_W _ (rnV (xa 8) ag dg) (@HAppend.hAppend va_W va_W va_W _ (rnV (xa 9) ar dr) (@HAppend.hAppend va_W va_W va_W _ ([((xa 10), .inr (7, [.ref hc, .int tm])), (hc, .inl (X.2.1, 16, .inl tf))]) (@HAppend.hAppend va_W va_W va_W _ (odW (xa 11) vo) (@HAppend.hAppend va_W va_W va_W _ (duW X (xa 12) da gd) (@HAppend.hAppend va_W va_W va_W _ ([((xa 13), .inl (X.2.1, 6, .inl fk))]) (@HAppend.hAppend va_W va_W va_W _ (mW m0 ma lc ld n t vt) (@HAppend.hAppend va_W va_W va_W _ ([((ma 0), .inl (X.2.1, 371, .inl fa))]) (@HAppend.hAppend va_W va_W va_W _ ([((ma 1), .inl (X.2.1, 742, .inl fK))]) (@HAppend.hAppend va_W va_W va_W _ ([((ma 2), .inl (X.2.2.1, 2, .inl fz))]) (@HAppend.hAppend va_W va_W va_W _ ([((ma 3), .inl (X.2.1, 3, .inl fR))]) (@HAppend.hAppend va_W va_W va_W _ ([((ma 6), .inl (X.2.1, 55, .inl fh))]) (@HAppend.hAppend va_W va_W va_W _ ([((ma 7), .inl (X.2.1, 6, .inl fg))]) (@HAppend.hAppend va_W va_W va_W _ ([((ma 8), .inl (X.2.1, 10, .inl ft))]) (@HAppend.hAppend va_W va_W va_W _ ([((ma 9), .inl (X.2.1, 20, .inl fb))]) (@HAppend.hAppend va_W va_W va_W _ ([((ma 10), .inl (X.2.1, 150, .inl fd))]) (@HAppend.hAppend va_W va_W va_W _ ([((ma 16), .inl (X.2.1, 123, .inl fw))]) ([((ma 17), .inl (X.2.1, 3, .inl fv))]))))))))))))))))))))))) G rfl rfl [0, 1, 2, 3, 4, 5, 6, 7, 8, 9, 10, 11, 12, 13, 14, 15, 16, 17, 18, 19, 20, 21, 22, 23, 24, 25, 26, 27, 28, 29, 30, 31, 32, 69] [33, 34, 35, 36, 37, 38, 39, 40, 41, 42, 43, 44, 45, 46, 47, 48, 49, 50, 51, 52, 53, 54, 55, 56, 57, 58, 59, 60, 61, 62, 63, 64, 65, 66, 67, 68, 70, 71, 72, 73, 74, 75, 76, 77, 78, 79, 80, 81, 82, 83, 84, 85, 86, 87, 88, 89, 90, 91, 92, 93] rfl rfl rfl rfl (n_V (As := [.int (xs (zi + 1)), .int (xs (zi + 2))]) (rest := []) (C := RX10) (T := TX10) (N := 14) (ci := 8) S G (s_races l X h0 nw sp xa la lb an sv dv n0 n1 n2 n3 n4 g0 gs gn gm ap svp dvp n0p n1p n2p n3p n4p g0p gsp gnp gmp fr (xs (zi + 1)) (xs (zi + 2)) hI_n0 hI_n1 hI_n2 hI_n3 hI_n4 hI_n0p hI_n1p hI_n2p hI_n3p hI_n4p H.size) gL_law_X10_races rfl rfl rfl hdV_X10_races ⟨Nat.le_of_ble_eq_true rfl, Nat.le_of_ble_eq_true rfl⟩ [0, 1, 2, 3, 4, 5, 6, 7, 8, 9, 10, 11, 12, 13, 14, 15, 16, 17, 18, 19, 20, 21, 22, 23, 24, 25, 26, 27, 28, 29, 30, 31, 32, 69] rfl rfl 0 rfl rfl rfl hl.1 (Nat.le_of_ble_eq_true rfl) dL_law_1127 ⟨Nat.le_of_ble_eq_true rfl, Nat.le_of_ble_eq_true rfl⟩) (fun r_1 u_1 H locs hp_1 G => ?_)
  obtain ⟨sv_1a, dv_1b, n0_1c, f_1d⟩ := u_1
  try dsimp only at hp_1
  obtain ⟨hI_n0_1c, hq_1⟩ := hp_1
  refine lv_pop zx zb dL_law_1130 rfl ?_
  refine lv_aload_n zx zb dL_law_1131 rfl (lv_at hl 1 rfl) ?_
  refine lv_aload_n zx zb dL_law_1132 rfl (lv_at hl 3 rfl) ?_
  refine lv_iload_n zx zb dL_law_1133 rfl (lv_at hl 0 rfl) ?_
  refine lv_iconst (v := 1) zx zb dL_law_1134 (by decide) ?_
  refine r_iadd (v := (nI (zi + 1))) S (nI_add zi 1) dL_law_1135 ?_
  refine va_sld zx zb hX hbl hbA G.2.2.2.1 (vp_in_nI (by omega) (by omega)) dL_law_1136 ?_
  refine k_it (v := xs (zi + 1)) (congrArg xs (nI_clamp (by omega))) ?_
  refine lv_aload_n zx zb dL_law_1137 rfl (lv_at hl 3 rfl) ?_
  refine lv_iload_n zx zb dL_law_1138 rfl (lv_at hl 0 rfl) ?_
  refine lv_iconst (v := 2) zx zb dL_law_1139 (by decide) ?_
  refine r_iadd (v := (nI (zi + 2))) S (nI_add zi 2) dL_law_1140 ?_
  refine va_sld zx zb hX hbl hbA G.2.2.2.1 (vp_in_nI (by omega) (by omega)) dL_law_1141 ?_
  refine k_it (v := xs (zi + 2)) (congrArg xs (nI_clamp (by omega))) ?_
  refine b_wi (cells' := 94) (slots' := 3522) (wr := @HAppend.hAppend va_W va_W va_W _ ([((xa 2), .inl (X.2.2.2.1, 2, .inr (.inr (.inr (.inr (imQ i0 i1))))))]) (@HAppend.hAppend va_W va_W va_W _ (rcV X i0 ai svi dvi n0i n1i n2i n3i n4i g0i gsi gni gmi) (@HAppend.hAppend va_W va_W va_W _ (rcV X i1 aj svj dvj n0j n1j n2j n3j n4j g0j gsj gnj gmj) (@HAppend.hAppend va_W va_W va_W _ ([((xa 3), .inl (X.2.2.1, 2, .inl fz))]) (@HAppend.hAppend va_W va_W va_W _ (rdV X (xa 4) hb n bd vd fd) (@HAppend.hAppend va_W va_W va_W _ (rnV (xa 8) ag dg) (@HAppend.hAppend va_W va_W va_W _ (rnV (xa 9) ar dr) (@HAppend.hAppend va_W va_W va_W _ ([((xa 10), .inr (7, [.ref hc, .int tm])), (hc, .inl (X.2.1, 16, .inl tf))]) (@HAppend.hAppend va_W va_W va_W _ (odW (xa 11) vo) (@HAppend.hAppend va_W va_W va_W _ (duW X (xa 12) da gd) (@HAppend.hAppend va_W va_W va_W _ ([((xa 13), .inl (X.2.1, 6, .inl fk))]) (@HAppend.hAppend va_W va_W va_W _ ([((ma 1), .inl (X.2.1, 742, .inl fK))]) (@HAppend.hAppend va_W va_W va_W _ ([((ma 2), .inl (X.2.2.1, 2, .inl fz))]) (@HAppend.hAppend va_W va_W va_W _ ([((ma 7), .inl (X.2.1, 6, .inl fg))]) (@HAppend.hAppend va_W va_W va_W _ ([((ma 8), .inl (X.2.1, 10, .inl ft))]) (@HAppend.hAppend va_W va_W va_W _ ([((ma 9), .inl (X.2.1, 20, .inl fb))]) (@HAppend.hAppend va_W va_W va_W _ ([((ma 10), .inl (X.2.1, 150, .inl fd))]) (@HAppend.hAppend va_W va_W va_W _ ([((ma 16), .inl (X.2.1, 123, .inl fw))]) (@HAppend.hAppend va_W va_W va_W _ ([((ma 17), .inl (X.2.1, 3, .inl fv))]) (@HAppend.hAppend va_W va_W va_W _ (xW h0 nw sp xa la lb) (@HAppend.hAppend va_W va_W va_W _ (rcV X nw an sv dv n0 n1 n2 n3 n4 g0 gs gn gm) (@HAppend.hAppend va_W va_W va_W _ (rcV X sp ap sv_1a dv_1b n0_1c n1p n2p n3p n4p g0p gsp gnp gmp) ([((xa 5), .inl (X.2.1, 3, .inl f_1d))]))))))))))))))))))))))) G rfl rfl [48, 49, 53, 52] [0, 1, 2, 3, 4, 5, 6, 7, 8, 9, 10, 11, 12, 13, 14, 15, 16, 17, 18, 19, 20, 21, 22, 23, 24, 25, 26, 27, 28, 29, 30, 31, 32, 33, 34, 35, 36, 37, 38, 39, 40, 41, 42, 43, 44, 45, 46, 47, 50, 51, 54, 55, 56, 57, 58, 59, 60, 61, 62, 63, 64, 65, 66, 67, 68, 69, 70, 71, 72, 73, 74, 75, 76, 77, 78, 79, 80, 81, 82, 83, 84, 85, 86, 87, 88, 89, 90, 91, 92, 93] rfl rfl rfl rfl (n_V (As := [.int (xs (zi + 1)), .int (xs (zi + 2))]) (rest := []) (C := RX11) (T := TX11) (N := 18) (ci := 9) S G (m_races l X m0 ma lc ld n t vt fa n0 n2 n3 n4 u4 fh d0 d1 d2 d3 d4 fR (xs (zi + 1)) (xs (zi + 2)) hI_n hI_t hI_fa hI_fh H.size) gL_law_X11_races rfl rfl rfl hdV_X11_races ⟨Nat.le_of_ble_eq_true rfl, Nat.le_of_ble_eq_true rfl⟩ [48, 49, 53, 52] rfl rfl 48 rfl rfl rfl hl.1 (Nat.le_of_ble_eq_true rfl) dL_law_1142 ⟨Nat.le_of_ble_eq_true rfl, Nat.le_of_ble_eq_true rfl⟩) (fun r_2 u_2 H locs hp_2 G => ?_)
  obtain ⟨f_2a, c0_2b, c1_2c, c2_2d, c3_2e, c4_2f, f_2g⟩ := u_2
  try dsimp only at hp_2
  obtain ⟨hI_f_2a, hq_2⟩ := hp_2
  have hO_f_2a := hI_f_2a.2
  obtain ⟨hm0_f_2a, hm1_f_2a, hm2_f_2a, hm3_f_2a, hm4_f_2a⟩ := hO_f_2a
  refine lv_pop zx zb dL_law_1145 rfl ?_
  refine lv_goto (tgt := 1277) zx zb dL_law_1146 (by decide) ?_
  have G : wd X (fun q : Nat => s.heap.size ≤ q) (fun q : Nat => s.heap.size ≤ q) s (@HAppend.hAppend va_W va_W va_W _ (xW h0 nw sp xa la lb) (@HAppend.hAppend va_W va_W va_W _ (rcV X nw an sv dv n0 n1 n2 n3 n4 g0 gs gn gm) (@HAppend.hAppend va_W va_W va_W _ (rcV X sp ap sv_1a dv_1b n0_1c n1p n2p n3p n4p g0p gsp gnp gmp) (@HAppend.hAppend va_W va_W va_W _ ([((xa 2), .inl (X.2.2.2.1, 2, .inr (.inr (.inr (.inr (imQ i0 i1))))))]) (@HAppend.hAppend va_W va_W va_W _ (rcV X i0 ai svi dvi n0i n1i n2i n3i n4i g0i gsi gni gmi) (@HAppend.hAppend va_W va_W va_W _ (rcV X i1 aj svj dvj n0j n1j n2j n3j n4j g0j gsj gnj gmj) (@HAppend.hAppend va_W va_W va_W _ ([((xa 3), .inl (X.2.2.1, 2, .inl fz))]) (@HAppend.hAppend va_W va_W va_W _ (rdV X (xa 4) hb n bd vd fd) (@HAppend.hAppend va_W va_W va_W _ ([((xa 5), .inl (X.2.1, 3, .inl f_1d))]) (@HAppend.hAppend va_W va_W va_W _ (rnV (xa 8) ag dg) (@HAppend.hAppend va_W va_W va_W _ (rnV (xa 9) ar dr) (@HAppend.hAppend va_W va_W va_W _ ([((xa 10), .inr (7, [.ref hc, .int tm])), (hc, .inl (X.2.1, 16, .inl tf))]) (@HAppend.hAppend va_W va_W va_W _ (odW (xa 11) vo) (@HAppend.hAppend va_W va_W va_W _ (duW X (xa 12) da gd) (@HAppend.hAppend va_W va_W va_W _ ([((xa 13), .inl (X.2.1, 6, .inl fk))]) (@HAppend.hAppend va_W va_W va_W _ (mW m0 ma lc ld n t vt) (@HAppend.hAppend va_W va_W va_W _ ([((ma 0), .inl (X.2.1, 371, .inl fa))]) (@HAppend.hAppend va_W va_W va_W _ ([((ma 1), .inl (X.2.1, 742, .inl fK))]) (@HAppend.hAppend va_W va_W va_W _ ([((ma 2), .inl (X.2.2.1, 2, .inl fz))]) (@HAppend.hAppend va_W va_W va_W _ ([((ma 3), .inl (X.2.1, 3, .inl f_2g))]) (@HAppend.hAppend va_W va_W va_W _ ([((ma 6), .inl (X.2.1, 55, .inl f_2a))]) (@HAppend.hAppend va_W va_W va_W _ ([((ma 7), .inl (X.2.1, 6, .inl fg))]) (@HAppend.hAppend va_W va_W va_W _ ([((ma 8), .inl (X.2.1, 10, .inl ft))]) (@HAppend.hAppend va_W va_W va_W _ ([((ma 9), .inl (X.2.1, 20, .inl fb))]) (@HAppend.hAppend va_W va_W va_W _ ([((ma 10), .inl (X.2.1, 150, .inl fd))]) (@HAppend.hAppend va_W va_W va_W _ ([((ma 16), .inl (X.2.1, 123, .inl fw))]) ([((ma 17), .inl (X.2.1, 3, .inl fv))]))))))))))))))))))))))))))) H locs := wd_sub G [56, 57, 58, 59, 60, 61, 62, 63, 64, 65, 66, 67, 68, 69, 70, 71, 72, 73, 74, 75, 76, 77, 78, 79, 80, 81, 82, 83, 84, 85, 86, 87, 88, 0, 1, 2, 3, 4, 5, 6, 7, 8, 9, 10, 11, 12, 13, 14, 15, 16, 17, 18, 19, 20, 21, 22, 23, 24, 25, 26, 27, 28, 29, 30, 31, 32, 33, 34, 35, 89, 36, 37, 38, 39, 40, 41, 42, 43, 44, 45, 46, 47, 90, 91, 48, 49, 93, 92, 50, 51, 52, 53, 54, 55] rfl rfl
  exact kk _ _ _ (LW_i nw sp xa la lb an sv dv n0 n1 n2 n3 n4 g0 gs gn gm ap sv_1a dv_1b n0_1c n1p n2p n3p n4p g0p gsp gnp gmp i0 i1 ai svi dvi n0i n1i n2i n3i n4i g0i gsi gni gmi aj svj dvj n0j n1j n2j n3j n4j g0j gsj gnj gmj fz hb n bd vd fd f_1d ag dg ar dr hc tm tf vo da gd fk ma lc ld t vt fa u4 fK u5 u6 f_2g f_2a c0_2b c1_2c c2_2d c3_2e c4_2f fg ft fb fw w0 w1 w2 w3 w4 fv ⟨hI_n0, hI_n1, hI_n2, hI_n3, hI_n4, hI_n0_1c, hI_n1p, hI_n2p, hI_n3p, hI_n4p, hI_n0i, hI_n1i, hI_n2i, hI_n3i, hI_n4i, hI_n0j, hI_n1j, hI_n2j, hI_n3j, hI_n4j, hI_n, hI_bd, hI_t, hI_fa, hI_fK, hI_f_2a, hI_fw⟩ ⟨hR0, hR1, hR2⟩ G) hl
theorem hdV_X10_part : yX10_part.cls = RX10 ∧ yX10_part.cls ≠ "java/lang/invoke/MethodHandle" ∧ yX10_part.cls ≠ "java/lang/invoke/VarHandle" ∧ (parseMethodDescriptor yX10_part.desc).map (fun d => d.parameters.length) = some 1 := by decide +kernel
theorem hdV_X11_part : yX11_part.cls = RX11 ∧ yX11_part.cls ≠ "java/lang/invoke/MethodHandle" ∧ yX11_part.cls ≠ "java/lang/invoke/VarHandle" ∧ (parseMethodDescriptor yX11_part.desc).map (fun d => d.parameters.length) = some 1 := by decide +kernel
set_option maxRecDepth 100000 in
set_option maxHeartbeats 8000000 in
theorem lc_31 (S : CallFix p m c cL_law 4 s #[Value.ref b] wsL_law RL) (hX : va_X b L xs s s.heap) (hbl : b < s.heap.size) (hL : L ≤ 3072) (hzi : zi + 6 ≤ L) (hZ : sE K (fun q : Nat => s.heap.size ≤ q) s s.heap) (hW : LW X h0 m0 s H locs) (hl : lv_has ls 4 [(3, .int (nI zi)), (2, .ref m0), (1, .ref h0), (0, .ref b)]) (kk : ∀ (H : Heap) (locs : List Loc) (ls : Array Slot), LW X h0 m0 s H locs → lv_has ls 4 [(3, .int (nI zi)), (2, .ref m0), (1, .ref h0), (0, .ref b)] → W p l e room_1 s m #[Value.ref b] below meth c H locs 94 3522 Q (F0 m 1277 ls [])) : W p l e room_1 s m #[Value.ref b] below meth c H locs 94 3522 Q (F0 m 1149 ls []) := by
  have zx := S.1
  have zb := S.2.1
  have hbA : ¬ (fun q : Nat => s.heap.size ≤ q) b := Nat.not_le.mpr hbl
  refine LW_e hW (fun nw sp xa la lb an sv dv n0 n1 n2 n3 n4 g0 gs gn gm ap svp dvp n0p n1p n2p n3p n4p g0p gsp gnp gmp i0 i1 ai svi dvi n0i n1i n2i n3i n4i g0i gsi gni gmi aj svj dvj n0j n1j n2j n3j n4j g0j gsj gnj gmj fz hb n bd vd fd fr ag dg ar dr hc tm tf vo da gd fk ma lc ld t vt fa u4 fK u5 u6 fR fh d0 d1 d2 d3 d4 fg ft fb fw w0 w1 w2 w3 w4 fv hIV hRL G => ?_)
  obtain ⟨hR0, hR1, hR2⟩ := hRL
  obtain ⟨hI_n0, hI_n1, hI_n2, hI_n3, hI_n4, hI_n0p, hI_n1p, hI_n2p, hI_n3p, hI_n4p, hI_n0i, hI_n1i, hI_n2i, hI_n3i, hI_n4i, hI_n0j, hI_n1j, hI_n2j, hI_n3j, hI_n4j, hI_n, hI_bd, hI_t, hI_fa, hI_fK, hI_fh, hI_fw⟩ := hIV
  have hO_bd := hI_bd
  obtain ⟨hd0_bd, hd1_bd⟩ := hO_bd
  have hO_t := hI_t
  obtain ⟨ht0_t, ht1_t⟩ := hO_t
  have hO_fa := hI_fa.2
  obtain ⟨hm0_fa, hm1_fa, hm2_fa, hm3_fa, hm4_fa⟩ := hO_fa
  have hO_fh := hI_fh.2
  obtain ⟨hm0_fh, hm1_fh, hm2_fh, hm3_fh, hm4_fh⟩ := hO_fh
  have hO_fw := hI_fw.2
  obtain ⟨hm0_fw, hm1_fw, hm2_fw, hm3_fw, hm4_fw⟩ := hO_fw
  refine lv_aload_n zx zb dL_law_1149 rfl (lv_at hl 2 rfl) ?_
  refine lv_aload_n zx zb dL_law_1150 rfl (lv_at hl 3 rfl) ?_
  refine lv_iload_n zx zb dL_law_1151 rfl (lv_at hl 0 rfl) ?_
  refine lv_iconst (v := 1) zx zb dL_law_1152 (by decide) ?_
  refine r_iadd (v := (nI (zi + 1))) S (nI_add zi 1) dL_law_1153 ?_
  refine va_sld zx zb hX hbl hbA G.2.2.2.1 (vp_in_nI (by omega) (by omega)) dL_law_1154 ?_
  refine k_it (v := xs (zi + 1)) (congrArg xs (nI_clamp (by omega))) ?_
  refine b_wl (cells' := 94) (slots' := 3522) (wr := @HAppend.hAppend va_W va_W va_W _ (rcV X nw an sv dv n0 n1 n2 n3 n4 g0 gs gn gm) (@HAppend.hAppend va_W va_W va_W _ (rcV X sp ap svp dvp n0p n1p n2p n3p n4p g0p gsp gnp gmp) (@HAppend.hAppend va_W va_W va_W _ ([((xa 2), .inl (X.2.2.2.1, 2, .inr (.inr (.inr (.inr (imQ i0 i1))))))]) (@HAppend.hAppend va_W va_W va_W _ (rcV X i0 ai svi dvi n0i n1i n2i n3i n4i g0i gsi gni gmi) (@HAppend.hAppend va_W va_W va_W _ (rcV X i1 aj svj dvj n0j n1j n2j n3j n4j g0j gsj gnj gmj) (@HAppend.hAppend va_W va_W va_W _ ([((xa 3), .inl (X.2.2.1, 2, .inl fz))]) (@HAppend.hAppend va_W va_W va_W _ (rdV X (xa 4) hb n bd vd fd) (@HAppend.hAppend va_W va_W va_W _ (rnV (xa 8) ag dg) (@HAppend.hAppend va_W va_W va_W _ (rnV (xa 9) ar dr) (@HAppend.hAppend va_W va_W va_W _ ([((xa 10), .inr (7, [.ref hc, .int tm])), (hc, .inl (X.2.1, 16, .inl tf))]) (@HAppend.hAppend va_W va_W va_W _ (odW (xa 11) vo) (@HAppend.hAppend va_W va_W va_W _ (duW X (xa 12) da gd) (@HAppend.hAppend va_W va_W va_W _ ([((xa 13), .inl (X.2.1, 6, .inl fk))]) (@HAppend.hAppend va_W va_W va_W _ (mW m0 ma lc ld n t vt) (@HAppend.hAppend va_W va_W va_W _ ([((ma 0), .inl (X.2.1, 371, .inl fa))]) (@HAppend.hAppend va_W va_W va_W _ ([((ma 1), .inl (X.2.1, 742, .inl fK))]) (@HAppend.hAppend va_W va_W va_W _ ([((ma 2), .inl (X.2.2.1, 2, .inl fz))]) (@HAppend.hAppend va_W va_W va_W _ ([((ma 3), .inl (X.2.1, 3, .inl fR))]) (@HAppend.hAppend va_W va_W va_W _ ([((ma 6), .inl (X.2.1, 55, .inl fh))]) (@HAppend.hAppend va_W va_W va_W _ ([((ma 7), .inl (X.2.1, 6, .inl fg))]) (@HAppend.hAppend va_W va_W va_W _ ([((ma 8), .inl (X.2.1, 10, .inl ft))]) (@HAppend.hAppend va_W va_W va_W _ ([((ma 9), .inl (X.2.1, 20, .inl fb))]) (@HAppend.hAppend va_W va_W va_W _ ([((ma 10), .inl (X.2.1, 150, .inl fd))]) (@HAppend.hAppend va_W va_W va_W _ ([((ma 16), .inl (X.2.1, 123, .inl fw))]) ([((ma 17), .inl (X.2.1, 3, .inl fv))]))))))))))))))))))))))))) G rfl rfl [0, 69] [1, 2, 3, 4, 5, 6, 7, 8, 9, 10, 11, 12, 13, 14, 15, 16, 17, 18, 19, 20, 21, 22, 23, 24, 25, 26, 27, 28, 29, 30, 31, 32, 33, 34, 35, 36, 37, 38, 39, 40, 41, 42, 43, 44, 45, 46, 47, 48, 49, 50, 51, 52, 53, 54, 55, 56, 57, 58, 59, 60, 61, 62, 63, 64, 65, 66, 67, 68, 70, 71, 72, 73, 74, 75, 76, 77, 78, 79, 80, 81, 82, 83, 84, 85, 86, 87, 88, 89, 90, 91, 92, 93] rfl rfl rfl rfl (n_V (As := [.int (xs (zi + 1))]) (rest := []) (C := RX10) (T := TX10) (N := 14) (ci := 8) S G (s_part l X h0 nw sp xa la lb fr (xs (zi + 1)) H.size) gL_law_X10_part rfl rfl rfl hdV_X10_part ⟨Nat.le_of_ble_eq_true rfl, Nat.le_of_ble_eq_true rfl⟩ [0, 69] rfl rfl 0 rfl rfl rfl hl.1 (Nat.le_of_ble_eq_true rfl) dL_law_1155 ⟨Nat.le_of_ble_eq_true rfl, Nat.le_of_ble_eq_true rfl⟩) (fun r_1 u_1 H locs hp_1 G => ?_)
  obtain ⟨f_1, rfl⟩ : ∃ z, z = u_1 := ⟨_, rfl⟩
  have hq_1 := hp_1
  refine lv_pop2_2 zx zb dL_law_1158 rfl ?_
  refine lv_aload_n zx zb dL_law_1159 rfl (lv_at hl 1 rfl) ?_
  refine lv_aload_n zx zb dL_law_1160 rfl (lv_at hl 3 rfl) ?_
  refine lv_iload_n zx zb dL_law_1161 rfl (lv_at hl 0 rfl) ?_
  refine lv_iconst (v := 1) zx zb dL_law_1162 (by decide) ?_
  refine r_iadd (v := (nI (zi + 1))) S (nI_add zi 1) dL_law_1163 ?_
  refine va_sld zx zb hX hbl hbA G.2.2.2.1 (vp_in_nI (by omega) (by omega)) dL_law_1164 ?_
  refine k_it (v := xs (zi + 1)) (congrArg xs (nI_clamp (by omega))) ?_
  refine b_wl (cells' := 94) (slots' := 3522) (wr := @HAppend.hAppend va_W va_W va_W _ (rcV X nw an sv dv n0 n1 n2 n3 n4 g0 gs gn gm) (@HAppend.hAppend va_W va_W va_W _ (rcV X sp ap svp dvp n0p n1p n2p n3p n4p g0p gsp gnp gmp) (@HAppend.hAppend va_W va_W va_W _ ([((xa 2), .inl (X.2.2.2.1, 2, .inr (.inr (.inr (.inr (imQ i0 i1))))))]) (@HAppend.hAppend va_W va_W va_W _ (rcV X i0 ai svi dvi n0i n1i n2i n3i n4i g0i gsi gni gmi) (@HAppend.hAppend va_W va_W va_W _ (rcV X i1 aj svj dvj n0j n1j n2j n3j n4j g0j gsj gnj gmj) (@HAppend.hAppend va_W va_W va_W _ ([((xa 3), .inl (X.2.2.1, 2, .inl fz))]) (@HAppend.hAppend va_W va_W va_W _ (rdV X (xa 4) hb n bd vd fd) (@HAppend.hAppend va_W va_W va_W _ (rnV (xa 8) ag dg) (@HAppend.hAppend va_W va_W va_W _ (rnV (xa 9) ar dr) (@HAppend.hAppend va_W va_W va_W _ ([((xa 10), .inr (7, [.ref hc, .int tm])), (hc, .inl (X.2.1, 16, .inl tf))]) (@HAppend.hAppend va_W va_W va_W _ (odW (xa 11) vo) (@HAppend.hAppend va_W va_W va_W _ (duW X (xa 12) da gd) (@HAppend.hAppend va_W va_W va_W _ ([((xa 13), .inl (X.2.1, 6, .inl fk))]) (@HAppend.hAppend va_W va_W va_W _ ([((ma 0), .inl (X.2.1, 371, .inl fa))]) (@HAppend.hAppend va_W va_W va_W _ ([((ma 1), .inl (X.2.1, 742, .inl fK))]) (@HAppend.hAppend va_W va_W va_W _ ([((ma 2), .inl (X.2.2.1, 2, .inl fz))]) (@HAppend.hAppend va_W va_W va_W _ ([((ma 6), .inl (X.2.1, 55, .inl fh))]) (@HAppend.hAppend va_W va_W va_W _ ([((ma 7), .inl (X.2.1, 6, .inl fg))]) (@HAppend.hAppend va_W va_W va_W _ ([((ma 8), .inl (X.2.1, 10, .inl ft))]) (@HAppend.hAppend va_W va_W va_W _ ([((ma 9), .inl (X.2.1, 20, .inl fb))]) (@HAppend.hAppend va_W va_W va_W _ ([((ma 10), .inl (X.2.1, 150, .inl fd))]) (@HAppend.hAppend va_W va_W va_W _ ([((ma 16), .inl (X.2.1, 123, .inl fw))]) (@HAppend.hAppend va_W va_W va_W _ ([((ma 17), .inl (X.2.1, 3, .inl fv))]) (@HAppend.hAppend va_W va_W va_W _ (xW h0 nw sp xa la lb) ([((xa 5), .inl (X.2.1, 3, .inl f_1))]))))))))))))))))))))))))) G rfl rfl [80, 84] [0, 1, 2, 3, 4, 5, 6, 7, 8, 9, 10, 11, 12, 13, 14, 15, 16, 17, 18, 19, 20, 21, 22, 23, 24, 25, 26, 27, 28, 29, 30, 31, 32, 33, 34, 35, 36, 37, 38, 39, 40, 41, 42, 43, 44, 45, 46, 47, 48, 49, 50, 51, 52, 53, 54, 55, 56, 57, 58, 59, 60, 61, 62, 63, 64, 65, 66, 67, 68, 69, 70, 71, 72, 73, 74, 75, 76, 77, 78, 79, 81, 82, 83, 85, 86, 87, 88, 89, 90, 91, 92, 93] rfl rfl rfl rfl (n_V (As := [.int (xs (zi + 1))]) (rest := []) (C := RX11) (T := TX11) (N := 18) (ci := 9) S G (m_part l X m0 ma lc ld n t vt fR (xs (zi + 1)) hI_n hI_t H.size) gL_law_X11_part rfl rfl rfl hdV_X11_part ⟨Nat.le_of_ble_eq_true rfl, Nat.le_of_ble_eq_true rfl⟩ [80, 84] rfl rfl 80 rfl rfl rfl hl.1 (Nat.le_of_ble_eq_true rfl) dL_law_1165 ⟨Nat.le_of_ble_eq_true rfl, Nat.le_of_ble_eq_true rfl⟩) (fun r_2 u_2 H locs hp_2 G => ?_)
  obtain ⟨f_2, rfl⟩ : ∃ z, z = u_2 := ⟨_, rfl⟩
  have hq_2 := hp_2
  refine lv_pop2_2 zx zb dL_law_1168 rfl ?_
  refine lv_goto (tgt := 1277) zx zb dL_law_1169 (by decide) ?_
  have G : wd X (fun q : Nat => s.heap.size ≤ q) (fun q : Nat => s.heap.size ≤ q) s (@HAppend.hAppend va_W va_W va_W _ (xW h0 nw sp xa la lb) (@HAppend.hAppend va_W va_W va_W _ (rcV X nw an sv dv n0 n1 n2 n3 n4 g0 gs gn gm) (@HAppend.hAppend va_W va_W va_W _ (rcV X sp ap svp dvp n0p n1p n2p n3p n4p g0p gsp gnp gmp) (@HAppend.hAppend va_W va_W va_W _ ([((xa 2), .inl (X.2.2.2.1, 2, .inr (.inr (.inr (.inr (imQ i0 i1))))))]) (@HAppend.hAppend va_W va_W va_W _ (rcV X i0 ai svi dvi n0i n1i n2i n3i n4i g0i gsi gni gmi) (@HAppend.hAppend va_W va_W va_W _ (rcV X i1 aj svj dvj n0j n1j n2j n3j n4j g0j gsj gnj gmj) (@HAppend.hAppend va_W va_W va_W _ ([((xa 3), .inl (X.2.2.1, 2, .inl fz))]) (@HAppend.hAppend va_W va_W va_W _ (rdV X (xa 4) hb n bd vd fd) (@HAppend.hAppend va_W va_W va_W _ ([((xa 5), .inl (X.2.1, 3, .inl f_1))]) (@HAppend.hAppend va_W va_W va_W _ (rnV (xa 8) ag dg) (@HAppend.hAppend va_W va_W va_W _ (rnV (xa 9) ar dr) (@HAppend.hAppend va_W va_W va_W _ ([((xa 10), .inr (7, [.ref hc, .int tm])), (hc, .inl (X.2.1, 16, .inl tf))]) (@HAppend.hAppend va_W va_W va_W _ (odW (xa 11) vo) (@HAppend.hAppend va_W va_W va_W _ (duW X (xa 12) da gd) (@HAppend.hAppend va_W va_W va_W _ ([((xa 13), .inl (X.2.1, 6, .inl fk))]) (@HAppend.hAppend va_W va_W va_W _ (mW m0 ma lc ld n t vt) (@HAppend.hAppend va_W va_W va_W _ ([((ma 0), .inl (X.2.1, 371, .inl fa))]) (@HAppend.hAppend va_W va_W va_W _ ([((ma 1), .inl (X.2.1, 742, .inl fK))]) (@HAppend.hAppend va_W va_W va_W _ ([((ma 2), .inl (X.2.2.1, 2, .inl fz))]) (@HAppend.hAppend va_W va_W va_W _ ([((ma 3), .inl (X.2.1, 3, .inl f_2))]) (@HAppend.hAppend va_W va_W va_W _ ([((ma 6), .inl (X.2.1, 55, .inl fh))]) (@HAppend.hAppend va_W va_W va_W _ ([((ma 7), .inl (X.2.1, 6, .inl fg))]) (@HAppend.hAppend va_W va_W va_W _ ([((ma 8), .inl (X.2.1, 10, .inl ft))]) (@HAppend.hAppend va_W va_W va_W _ ([((ma 9), .inl (X.2.1, 20, .inl fb))]) (@HAppend.hAppend va_W va_W va_W _ ([((ma 10), .inl (X.2.1, 150, .inl fd))]) (@HAppend.hAppend va_W va_W va_W _ ([((ma 16), .inl (X.2.1, 123, .inl fw))]) ([((ma 17), .inl (X.2.1, 3, .inl fv))]))))))))))))))))))))))))))) H locs := wd_sub G [90, 0, 1, 2, 3, 4, 5, 6, 7, 8, 9, 10, 11, 12, 13, 14, 15, 16, 17, 18, 19, 20, 21, 22, 23, 24, 25, 26, 27, 28, 29, 30, 31, 32, 33, 34, 35, 36, 37, 38, 39, 40, 41, 42, 43, 44, 45, 46, 47, 48, 49, 50, 51, 52, 53, 54, 55, 56, 57, 58, 59, 60, 61, 62, 63, 64, 65, 66, 67, 91, 68, 69, 70, 71, 72, 73, 74, 75, 76, 77, 78, 79, 92, 80, 81, 82, 93, 83, 84, 85, 86, 87, 88, 89] rfl rfl
  exact kk _ _ _ (LW_i nw sp xa la lb an sv dv n0 n1 n2 n3 n4 g0 gs gn gm ap svp dvp n0p n1p n2p n3p n4p g0p gsp gnp gmp i0 i1 ai svi dvi n0i n1i n2i n3i n4i g0i gsi gni gmi aj svj dvj n0j n1j n2j n3j n4j g0j gsj gnj gmj fz hb n bd vd fd f_1 ag dg ar dr hc tm tf vo da gd fk ma lc ld t vt fa u4 fK u5 u6 f_2 fh d0 d1 d2 d3 d4 fg ft fb fw w0 w1 w2 w3 w4 fv ⟨hI_n0, hI_n1, hI_n2, hI_n3, hI_n4, hI_n0p, hI_n1p, hI_n2p, hI_n3p, hI_n4p, hI_n0i, hI_n1i, hI_n2i, hI_n3i, hI_n4i, hI_n0j, hI_n1j, hI_n2j, hI_n3j, hI_n4j, hI_n, hI_bd, hI_t, hI_fa, hI_fK, hI_fh, hI_fw⟩ ⟨hR0, hR1, hR2⟩ G) hl
end LC
