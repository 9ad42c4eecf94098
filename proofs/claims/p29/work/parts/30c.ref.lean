set_option maxRecDepth 20000 in
theorem ggX11_count_X11_bad : GoodIn wsX11_count wsX11_bad := goodIn_r _ [29, 30, 31, 32, 33, 34, 35, 36, 37, 38, 39, 40, 41, 42, 43, 44, 45, 46, 47, 48] rfl (by decide +kernel)
set_option maxRecDepth 20000 in
theorem gX11_count_X11_bad : GoodIn wsX11_count (wsV RX11 68 RX11 yX11_bad wsX11_bad) := goodIn_app (goodIn_of _ (by decide +kernel)) ggX11_count_X11_bad
set_option maxRecDepth 20000 in
theorem ggX11_count_X11_counted : GoodIn wsX11_count wsX11_counted := goodIn_r _ [9, 10, 11, 12, 13, 14, 4, 15, 16, 17, 18, 19, 20, 21, 22, 23, 24, 25, 31, 32, 33, 34, 35, 36, 37, 38, 39, 40, 41, 42, 43, 44, 45, 46, 47, 48] rfl (by decide +kernel)
set_option maxRecDepth 20000 in
theorem gX11_count_X11_counted : GoodIn wsX11_count (wsV RX11 268 RX11 yX11_counted wsX11_counted) := goodIn_app (goodIn_of _ (by decide +kernel)) ggX11_count_X11_counted
set_option maxRecDepth 20000 in
theorem ggX11_count_X11_in : GoodIn wsX11_count wsX11_in := goodIn_r _ [5] rfl (by decide +kernel)
set_option maxRecDepth 20000 in
theorem gX11_count_X11_in : GoodIn wsX11_count (va_wsS RX11 56 yX11_in wsX11_in) := goodIn_app (goodIn_of _ (by decide +kernel)) ggX11_count_X11_in
set_option maxRecDepth 20000 in
theorem ggX11_counted_X11_many : GoodIn wsX11_counted wsX11_many := goodIn_r _ [7, 1, 18, 19, 20, 21, 22, 23, 24, 25, 26, 27, 28, 29, 30, 31, 32, 33, 34, 35] rfl (by decide +kernel)
set_option maxRecDepth 20000 in
theorem gX11_counted_X11_many : GoodIn wsX11_counted (wsV RX11 52 RX11 yX11_many wsX11_many) := goodIn_app (goodIn_of _ (by decide +kernel)) ggX11_counted_X11_many
set_option maxRecDepth 20000 in
theorem ggX11_counted_X11_manyHome : GoodIn wsX11_counted wsX11_manyHome := goodIn_r _ [10, 11, 12, 6, 13] rfl (by decide +kernel)
set_option maxRecDepth 20000 in
theorem gX11_counted_X11_manyHome : GoodIn wsX11_counted (va_wsS RX11 119 yX11_manyHome wsX11_manyHome) := goodIn_app (goodIn_of _ (by decide +kernel)) ggX11_counted_X11_manyHome
set_option maxRecDepth 20000 in
theorem ggX11_counted_X11_sumOf : GoodIn wsX11_counted wsX11_sumOf := goodIn_r _ [17, 1, 3, 4, 5, 6, 7, 18, 19, 20, 21, 22, 23, 24, 25, 26, 27, 28, 29, 30, 31, 32, 33, 34, 35] rfl (by decide +kernel)
set_option maxRecDepth 20000 in
theorem gX11_counted_X11_sumOf : GoodIn wsX11_counted (wsV RX11 265 RX11 yX11_sumOf wsX11_sumOf) := goodIn_app (goodIn_of _ (by decide +kernel)) ggX11_counted_X11_sumOf
set_option maxRecDepth 20000 in
theorem ggX11_digest_X11_counted : GoodIn wsX11_digest wsX11_counted := goodIn_r _ [10, 3, 11, 12, 13, 14, 9, 15, 16, 17, 18, 19, 20, 21, 22, 23, 24, 25, 43, 44, 45, 46, 47, 48, 49, 50, 51, 52, 53, 54, 55, 56, 57, 58, 59, 60] rfl (by decide +kernel)
set_option maxRecDepth 20000 in
theorem gX11_digest_X11_counted : GoodIn wsX11_digest (wsV RX11 268 RX11 yX11_counted wsX11_counted) := goodIn_app (goodIn_of _ (by decide +kernel)) ggX11_digest_X11_counted
set_option maxRecDepth 20000 in
theorem ggX11_digest_X11_many : GoodIn wsX11_digest wsX11_many := goodIn_r _ [15, 3, 43, 44, 45, 46, 47, 48, 49, 50, 51, 52, 53, 54, 55, 56, 57, 58, 59, 60] rfl (by decide +kernel)
set_option maxRecDepth 20000 in
theorem gX11_digest_X11_many : GoodIn wsX11_digest (wsV RX11 52 RX11 yX11_many wsX11_many) := goodIn_app (goodIn_of _ (by decide +kernel)) ggX11_digest_X11_many
set_option maxRecDepth 20000 in
theorem ggX11_digest_X11_sums : GoodIn wsX11_digest wsX11_sums := goodIn_r _ [42, 2, 3, 43, 44, 45, 46, 47, 48, 49, 50, 51, 52, 53, 54, 55, 56, 57, 58, 59, 60] rfl (by decide +kernel)
set_option maxRecDepth 20000 in
theorem gX11_digest_X11_sums : GoodIn wsX11_digest (wsV RX11 275 RX11 yX11_sums wsX11_sums) := goodIn_app (goodIn_of _ (by decide +kernel)) ggX11_digest_X11_sums
set_option maxRecDepth 20000 in
theorem ggX11_digest_X11_toldOf : GoodIn wsX11_digest wsX11_toldOf := goodIn_r _ [29, 3, 19, 20, 9, 21, 30, 31, 32, 33, 34, 35, 36, 37, 38, 43, 44, 45, 46, 47, 48, 49, 50, 51, 52, 53, 54, 55, 56, 57, 58, 59, 60] rfl (by decide +kernel)
set_option maxRecDepth 20000 in
theorem gX11_digest_X11_toldOf : GoodIn wsX11_digest (wsV RX11 134 RX11 yX11_toldOf wsX11_toldOf) := goodIn_app (goodIn_of _ (by decide +kernel)) ggX11_digest_X11_toldOf
set_option maxRecDepth 20000 in
theorem ggX11_pair_X11_bad : GoodIn wsX11_pair wsX11_bad := goodIn_r _ [19, 20, 58, 59, 60, 61, 62, 63, 64, 65, 66, 67, 68, 69, 70, 71, 72, 73, 74, 75] rfl (by decide +kernel)
set_option maxRecDepth 20000 in
theorem gX11_pair_X11_bad : GoodIn wsX11_pair (wsV RX11 68 RX11 yX11_bad wsX11_bad) := goodIn_app (goodIn_of _ (by decide +kernel)) ggX11_pair_X11_bad
set_option maxRecDepth 20000 in
theorem ggX11_pair_X11_goAhead : GoodIn wsX11_pair wsX11_goAhead := goodIn_r _ [28, 1, 29, 30, 6, 31, 32, 33, 34, 35, 36, 37, 38, 39, 40, 41, 42, 43, 44, 45, 46, 47, 48, 49, 58, 59, 60, 61, 62, 63, 64, 65, 66, 67, 68, 69, 70, 71, 72, 73, 74, 75] rfl (by decide +kernel)
set_option maxRecDepth 20000 in
theorem gX11_pair_X11_goAhead : GoodIn wsX11_pair (wsV RX11 140 RX11 yX11_goAhead wsX11_goAhead) := goodIn_app (goodIn_of _ (by decide +kernel)) ggX11_pair_X11_goAhead
set_option maxRecDepth 20000 in
theorem ggX11_pair_X11_isOne : GoodIn wsX11_pair wsX11_isOne := goodIn_r _ [7, 8, 9, 10, 6, 11, 12, 13, 14, 15, 58, 59, 60, 61, 62, 63, 64, 65, 66, 67, 68, 69, 70, 71, 72, 73, 74, 75] rfl (by decide +kernel)
set_option maxRecDepth 20000 in
theorem gX11_pair_X11_isOne : GoodIn wsX11_pair (wsV RX11 123 RX11 yX11_isOne wsX11_isOne) := goodIn_app (goodIn_of _ (by decide +kernel)) ggX11_pair_X11_isOne
set_option maxRecDepth 20000 in
theorem ggX11_pair_X11_layHand : GoodIn wsX11_pair wsX11_layHand := goodIn_r _ [24, 1, 12, 58, 59, 60, 61, 62, 63, 64, 65, 66, 67, 68, 69, 70, 71, 72, 73, 74, 75] rfl (by decide +kernel)
set_option maxRecDepth 20000 in
theorem gX11_pair_X11_layHand : GoodIn wsX11_pair (wsV RX11 137 RX11 yX11_layHand wsX11_layHand) := goodIn_app (goodIn_of _ (by decide +kernel)) ggX11_pair_X11_layHand
set_option maxRecDepth 20000 in
theorem ggX11_pair_X11_rests : GoodIn wsX11_pair wsX11_rests := goodIn_r _ [53, 2, 12, 54, 55, 56, 6, 57, 58, 59, 60, 61, 62, 63, 64, 65, 66, 67, 68, 69, 70, 71, 72, 73, 74, 75] rfl (by decide +kernel)
set_option maxRecDepth 20000 in
theorem gX11_pair_X11_rests : GoodIn wsX11_pair (wsV RX11 178 RX11 yX11_rests wsX11_rests) := goodIn_app (goodIn_of _ (by decide +kernel)) ggX11_pair_X11_rests
set_option maxRecDepth 20000 in
theorem ggX11_part_X11_bad : GoodIn wsX11_part wsX11_bad := goodIn_r _ [7, 8, 9, 10, 11, 12, 13, 14, 15, 16, 17, 18, 19, 20, 21, 22, 23, 24, 25, 26] rfl (by decide +kernel)
set_option maxRecDepth 20000 in
theorem gX11_part_X11_bad : GoodIn wsX11_part (wsV RX11 68 RX11 yX11_bad wsX11_bad) := goodIn_app (goodIn_of _ (by decide +kernel)) ggX11_part_X11_bad
set_option maxRecDepth 20000 in
theorem ggX11_rests_X11_getsBy : GoodIn wsX11_rests wsX11_getsBy := goodIn_r _ [7] rfl (by decide +kernel)
set_option maxRecDepth 20000 in
theorem gX11_rests_X11_getsBy : GoodIn wsX11_rests (wsV RX11 174 RX11 yX11_getsBy wsX11_getsBy) := goodIn_app (goodIn_of _ (by decide +kernel)) ggX11_rests_X11_getsBy
set_option maxRecDepth 20000 in
theorem ggX11_status_X11_bad : GoodIn wsX11_status wsX11_bad := goodIn_r _ [10, 2, 11, 12, 13, 14, 15, 16, 17, 18, 19, 20, 21, 22, 23, 24, 25, 26, 27, 28] rfl (by decide +kernel)
set_option maxRecDepth 20000 in
theorem gX11_status_X11_bad : GoodIn wsX11_status (wsV RX11 68 RX11 yX11_bad wsX11_bad) := goodIn_app (goodIn_of _ (by decide +kernel)) ggX11_status_X11_bad
set_option maxRecDepth 20000 in
theorem ggX11_status_X11_in : GoodIn wsX11_status wsX11_in := goodIn_r _ [6] rfl (by decide +kernel)
set_option maxRecDepth 20000 in
theorem gX11_status_X11_in : GoodIn wsX11_status (va_wsS RX11 56 yX11_in wsX11_in) := goodIn_app (goodIn_of _ (by decide +kernel)) ggX11_status_X11_in
set_option maxRecDepth 20000 in
theorem ggX11_stumble_X11_bad : GoodIn wsX11_stumble wsX11_bad := goodIn_r _ [21, 22, 54, 55, 56, 57, 58, 59, 60, 61, 62, 63, 64, 65, 66, 67, 68, 69, 70, 71] rfl (by decide +kernel)
set_option maxRecDepth 20000 in
theorem gX11_stumble_X11_bad : GoodIn wsX11_stumble (wsV RX11 68 RX11 yX11_bad wsX11_bad) := goodIn_app (goodIn_of _ (by decide +kernel)) ggX11_stumble_X11_bad
set_option maxRecDepth 20000 in
theorem ggX11_stumble_X11_fraction : GoodIn wsX11_stumble wsX11_fraction := goodIn_r _ [51, 52, 53, 54, 55, 56, 57, 58, 59, 60, 61, 62, 63, 64, 65, 66, 67, 68, 69, 70, 71] rfl (by decide +kernel)
set_option maxRecDepth 20000 in
theorem gX11_stumble_X11_fraction : GoodIn wsX11_stumble (wsV RX11 187 RX11 yX11_fraction wsX11_fraction) := goodIn_app (goodIn_of _ (by decide +kernel)) ggX11_stumble_X11_fraction
set_option maxRecDepth 20000 in
theorem ggX11_stumble_X11_goOne : GoodIn wsX11_stumble wsX11_goOne := goodIn_r _ [35, 36, 37, 8, 38, 39, 40, 41, 42, 43, 44, 45, 46, 47] rfl (by decide +kernel)
set_option maxRecDepth 20000 in
theorem gX11_stumble_X11_goOne : GoodIn wsX11_stumble (va_wsS RX11 105 yX11_goOne wsX11_goOne) := goodIn_app (goodIn_of _ (by decide +kernel)) ggX11_stumble_X11_goOne
set_option maxRecDepth 20000 in
theorem ggX11_stumble_X11_has : GoodIn wsX11_stumble wsX11_has := goodIn_r _ [29] rfl (by decide +kernel)
set_option maxRecDepth 20000 in
theorem gX11_stumble_X11_has : GoodIn wsX11_stumble (va_wsS RX11 161 yX11_has wsX11_has) := goodIn_app (goodIn_of _ (by decide +kernel)) ggX11_stumble_X11_has
set_option maxRecDepth 20000 in
theorem ggX11_stumble_X11_in : GoodIn wsX11_stumble wsX11_in := goodIn_r _ [17] rfl (by decide +kernel)
set_option maxRecDepth 20000 in
theorem gX11_stumble_X11_in : GoodIn wsX11_stumble (va_wsS RX11 56 yX11_in wsX11_in) := goodIn_app (goodIn_of _ (by decide +kernel)) ggX11_stumble_X11_in
set_option maxRecDepth 20000 in
theorem ggX11_stumble_X11_isHome : GoodIn wsX11_stumble wsX11_isHome := goodIn_r _ [32] rfl (by decide +kernel)
set_option maxRecDepth 20000 in
theorem gX11_stumble_X11_isHome : GoodIn wsX11_stumble (va_wsS RX11 101 yX11_isHome wsX11_isHome) := goodIn_app (goodIn_of _ (by decide +kernel)) ggX11_stumble_X11_isHome
set_option maxRecDepth 20000 in
theorem ggX11_stumble_X11_isOne : GoodIn wsX11_stumble wsX11_isOne := goodIn_r _ [9, 10, 11, 12, 8, 13, 14, 15, 16, 17, 54, 55, 56, 57, 58, 59, 60, 61, 62, 63, 64, 65, 66, 67, 68, 69, 70, 71] rfl (by decide +kernel)
set_option maxRecDepth 20000 in
theorem gX11_stumble_X11_isOne : GoodIn wsX11_stumble (wsV RX11 123 RX11 yX11_isOne wsX11_isOne) := goodIn_app (goodIn_of _ (by decide +kernel)) ggX11_stumble_X11_isOne
set_option maxRecDepth 20000 in
theorem ggX11_stumble_X11_layHand : GoodIn wsX11_stumble wsX11_layHand := goodIn_r _ [26, 4, 14, 54, 55, 56, 57, 58, 59, 60, 61, 62, 63, 64, 65, 66, 67, 68, 69, 70, 71] rfl (by decide +kernel)
set_option maxRecDepth 20000 in
theorem gX11_stumble_X11_layHand : GoodIn wsX11_stumble (wsV RX11 137 RX11 yX11_layHand wsX11_layHand) := goodIn_app (goodIn_of _ (by decide +kernel)) ggX11_stumble_X11_layHand
set_option maxRecDepth 20000 in
theorem ggX11_sumOf_X11_many : GoodIn wsX11_sumOf wsX11_many := goodIn_r _ [6, 1, 7, 8, 9, 10, 11, 12, 13, 14, 15, 16, 17, 18, 19, 20, 21, 22, 23, 24] rfl (by decide +kernel)
set_option maxRecDepth 20000 in
theorem gX11_sumOf_X11_many : GoodIn wsX11_sumOf (wsV RX11 52 RX11 yX11_many wsX11_many) := goodIn_app (goodIn_of _ (by decide +kernel)) ggX11_sumOf_X11_many
set_option maxRecDepth 20000 in
theorem ggX11_type_X11_bad : GoodIn wsX11_type wsX11_bad := goodIn_r _ [11, 12, 17, 18, 19, 20, 21, 22, 23, 24, 25, 26, 27, 28, 29, 30, 31, 32, 33, 34] rfl (by decide +kernel)
set_option maxRecDepth 20000 in
theorem gX11_type_X11_bad : GoodIn wsX11_type (wsV RX11 68 RX11 yX11_bad wsX11_bad) := goodIn_app (goodIn_of _ (by decide +kernel)) ggX11_type_X11_bad
set_option maxRecDepth 20000 in
theorem ggX11_type_X11_full : GoodIn wsX11_type wsX11_full := goodIn_r _ [16, 12, 17, 18, 19, 20, 21, 22, 23, 24, 25, 26, 27, 28, 29, 30, 31, 32, 33, 34] rfl (by decide +kernel)
set_option maxRecDepth 20000 in
theorem gX11_type_X11_full : GoodIn wsX11_type (wsV RX11 79 RX11 yX11_full wsX11_full) := goodIn_app (goodIn_of _ (by decide +kernel)) ggX11_type_X11_full
set_option maxRecDepth 20000 in
theorem ggX11_type_X11_in : GoodIn wsX11_type wsX11_in := goodIn_r _ [7] rfl (by decide +kernel)
set_option maxRecDepth 20000 in
theorem gX11_type_X11_in : GoodIn wsX11_type (va_wsS RX11 56 yX11_in wsX11_in) := goodIn_app (goodIn_of _ (by decide +kernel)) ggX11_type_X11_in
theorem dX11_clear_0 : decode cX11_clear 0 = .ok (.aload_n 0, 1) := by decide +kernel
theorem dX11_clear_1 : decode cX11_clear 1 = .ok (.getfield 205, 3) := by decide +kernel
theorem dX11_clear_10 : decode cX11_clear 10 = .ok (.iload_n 1, 1) := by decide +kernel
theorem dX11_clear_11 : decode cX11_clear 11 = .ok (.ireturn, 1) := by decide +kernel
theorem dX11_clear_4 : decode cX11_clear 4 = .ok (.istore_n 1, 1) := by decide +kernel
theorem dX11_clear_5 : decode cX11_clear 5 = .ok (.aload_n 0, 1) := by decide +kernel
theorem dX11_clear_6 : decode cX11_clear 6 = .ok (.iconst 0, 1) := by decide +kernel
theorem dX11_clear_7 : decode cX11_clear 7 = .ok (.putfield 205, 3) := by decide +kernel
theorem dX11_count_0 : decode cX11_count 0 = .ok (.iload_n 1, 1) := by decide +kernel
theorem dX11_count_1 : decode cX11_count 1 = .ok (.i2l, 1) := by decide +kernel
theorem dX11_count_12 : decode cX11_count 12 = .ok (.aload_n 0, 1) := by decide +kernel
theorem dX11_count_13 : decode cX11_count 13 = .ok (.iload_n 1, 1) := by decide +kernel
theorem dX11_count_14 : decode cX11_count 14 = .ok (.invokevirtual 268, 3) := by decide +kernel
theorem dX11_count_17 : decode cX11_count 17 = .ok (.goto 9, 3) := by decide +kernel
theorem dX11_count_2 : decode cX11_count 2 = .ok (.lconst 0, 1) := by decide +kernel
theorem dX11_count_20 : decode cX11_count 20 = .ok (.aload_n 0, 1) := by decide +kernel
theorem dX11_count_21 : decode cX11_count 21 = .ok (.bipush (-2), 2) := by decide +kernel
theorem dX11_count_23 : decode cX11_count 23 = .ok (.invokevirtual 68, 3) := by decide +kernel
theorem dX11_count_26 : decode cX11_count 26 = .ok (.ireturn, 1) := by decide +kernel
theorem dX11_count_3 : decode cX11_count 3 = .ok (.ldc2_w 64, 3) := by decide +kernel
theorem dX11_count_6 : decode cX11_count 6 = .ok (.invokestatic 56, 3) := by decide +kernel
theorem dX11_count_9 : decode cX11_count 9 = .ok (.ifCond .eq 11, 3) := by decide +kernel
theorem dX11_counted_0 : decode cX11_counted 0 = .ok (.iload_n 1, 1) := by decide +kernel
theorem dX11_counted_1 : decode cX11_counted 1 = .ok (.tableswitch 106 0 10 #[59, 64, 72, 80, 88, 94, 106, 106, 106, 106, 101], 59) := by decide +kernel
theorem dX11_counted_101 : decode cX11_counted 101 = .ok (.ireturn, 1) := by decide +kernel
theorem dX11_counted_102 : decode cX11_counted 102 = .ok (.aload_n 0, 1) := by decide +kernel
theorem dX11_counted_103 : decode cX11_counted 103 = .ok (.getfield 205, 3) := by decide +kernel
theorem dX11_counted_106 : decode cX11_counted 106 = .ok (.ireturn, 1) := by decide +kernel
theorem dX11_counted_107 : decode cX11_counted 107 = .ok (.aload_n 0, 1) := by decide +kernel
theorem dX11_counted_108 : decode cX11_counted 108 = .ok (.getfield 7, 3) := by decide +kernel
theorem dX11_counted_111 : decode cX11_counted 111 = .ok (.iconst 1, 1) := by decide +kernel
theorem dX11_counted_112 : decode cX11_counted 112 = .ok (.iload_n 1, 1) := by decide +kernel
theorem dX11_counted_113 : decode cX11_counted 113 = .ok (.iadd, 1) := by decide +kernel
theorem dX11_counted_114 : decode cX11_counted 114 = .ok (.bipush 6, 2) := by decide +kernel
theorem dX11_counted_116 : decode cX11_counted 116 = .ok (.isub, 1) := by decide +kernel
theorem dX11_counted_117 : decode cX11_counted 117 = .ok (.iaload, 1) := by decide +kernel
theorem dX11_counted_118 : decode cX11_counted 118 = .ok (.ireturn, 1) := by decide +kernel
theorem dX11_counted_60 : decode cX11_counted 60 = .ok (.aload_n 0, 1) := by decide +kernel
theorem dX11_counted_61 : decode cX11_counted 61 = .ok (.invokevirtual 52, 3) := by decide +kernel
theorem dX11_counted_64 : decode cX11_counted 64 = .ok (.ireturn, 1) := by decide +kernel
theorem dX11_counted_65 : decode cX11_counted 65 = .ok (.aload_n 0, 1) := by decide +kernel
theorem dX11_counted_66 : decode cX11_counted 66 = .ok (.getfield 7, 3) := by decide +kernel
theorem dX11_counted_69 : decode cX11_counted 69 = .ok (.invokestatic 119, 3) := by decide +kernel
theorem dX11_counted_72 : decode cX11_counted 72 = .ok (.ireturn, 1) := by decide +kernel
theorem dX11_counted_73 : decode cX11_counted 73 = .ok (.aload_n 0, 1) := by decide +kernel
theorem dX11_counted_74 : decode cX11_counted 74 = .ok (.getfield 7, 3) := by decide +kernel
theorem dX11_counted_77 : decode cX11_counted 77 = .ok (.bipush 36, 2) := by decide +kernel
theorem dX11_counted_79 : decode cX11_counted 79 = .ok (.iaload, 1) := by decide +kernel
theorem dX11_counted_80 : decode cX11_counted 80 = .ok (.ireturn, 1) := by decide +kernel
theorem dX11_counted_81 : decode cX11_counted 81 = .ok (.aload_n 0, 1) := by decide +kernel
theorem dX11_counted_82 : decode cX11_counted 82 = .ok (.getfield 7, 3) := by decide +kernel
theorem dX11_counted_85 : decode cX11_counted 85 = .ok (.bipush 35, 2) := by decide +kernel
theorem dX11_counted_87 : decode cX11_counted 87 = .ok (.iaload, 1) := by decide +kernel
theorem dX11_counted_88 : decode cX11_counted 88 = .ok (.ireturn, 1) := by decide +kernel
theorem dX11_counted_89 : decode cX11_counted 89 = .ok (.aload_n 0, 1) := by decide +kernel
theorem dX11_counted_90 : decode cX11_counted 90 = .ok (.iconst 5, 1) := by decide +kernel
theorem dX11_counted_91 : decode cX11_counted 91 = .ok (.invokevirtual 265, 3) := by decide +kernel
theorem dX11_counted_94 : decode cX11_counted 94 = .ok (.ireturn, 1) := by decide +kernel
theorem dX11_counted_95 : decode cX11_counted 95 = .ok (.aload_n 0, 1) := by decide +kernel
theorem dX11_counted_96 : decode cX11_counted 96 = .ok (.bipush 17, 2) := by decide +kernel
theorem dX11_counted_98 : decode cX11_counted 98 = .ok (.invokevirtual 265, 3) := by decide +kernel
theorem dX11_digest_0 : decode cX11_digest 0 = .ok (.ldc2_w 273, 3) := by decide +kernel
theorem dX11_digest_100 : decode cX11_digest 100 = .ok (.getfield 7, 3) := by decide +kernel
theorem dX11_digest_103 : decode cX11_digest 103 = .ok (.iconst 2, 1) := by decide +kernel
theorem dX11_digest_104 : decode cX11_digest 104 = .ok (.iaload, 1) := by decide +kernel
theorem dX11_digest_105 : decode cX11_digest 105 = .ok (.imul, 1) := by decide +kernel
theorem dX11_digest_106 : decode cX11_digest 106 = .ok (.invokevirtual 275, 3) := by decide +kernel
theorem dX11_digest_109 : decode cX11_digest 109 = .ok (.lstore_n 1, 1) := by decide +kernel
theorem dX11_digest_110 : decode cX11_digest 110 = .ok (.aload_n 0, 1) := by decide +kernel
theorem dX11_digest_111 : decode cX11_digest 111 = .ok (.lload_n 1, 1) := by decide +kernel
theorem dX11_digest_112 : decode cX11_digest 112 = .ok (.bipush 105, 2) := by decide +kernel
theorem dX11_digest_114 : decode cX11_digest 114 = .ok (.iconst 3, 1) := by decide +kernel
theorem dX11_digest_115 : decode cX11_digest 115 = .ok (.aload_n 0, 1) := by decide +kernel
theorem dX11_digest_116 : decode cX11_digest 116 = .ok (.getfield 7, 3) := by decide +kernel
theorem dX11_digest_119 : decode cX11_digest 119 = .ok (.iconst 3, 1) := by decide +kernel
theorem dX11_digest_12 : decode cX11_digest 12 = .ok (.ldc2_w 271, 3) := by decide +kernel
theorem dX11_digest_120 : decode cX11_digest 120 = .ok (.iaload, 1) := by decide +kernel
theorem dX11_digest_121 : decode cX11_digest 121 = .ok (.imul, 1) := by decide +kernel
theorem dX11_digest_122 : decode cX11_digest 122 = .ok (.invokevirtual 275, 3) := by decide +kernel
theorem dX11_digest_125 : decode cX11_digest 125 = .ok (.lstore_n 1, 1) := by decide +kernel
theorem dX11_digest_126 : decode cX11_digest 126 = .ok (.ldc2_w 271, 3) := by decide +kernel
theorem dX11_digest_129 : decode cX11_digest 129 = .ok (.ldc2_w 271, 3) := by decide +kernel
theorem dX11_digest_132 : decode cX11_digest 132 = .ok (.lload_n 1, 1) := by decide +kernel
theorem dX11_digest_133 : decode cX11_digest 133 = .ok (.lmul, 1) := by decide +kernel
theorem dX11_digest_134 : decode cX11_digest 134 = .ok (.aload_n 0, 1) := by decide +kernel
theorem dX11_digest_135 : decode cX11_digest 135 = .ok (.getfield 182, 3) := by decide +kernel
theorem dX11_digest_138 : decode cX11_digest 138 = .ok (.ladd, 1) := by decide +kernel
theorem dX11_digest_139 : decode cX11_digest 139 = .ok (.lmul, 1) := by decide +kernel
theorem dX11_digest_140 : decode cX11_digest 140 = .ok (.aload_n 0, 1) := by decide +kernel
theorem dX11_digest_141 : decode cX11_digest 141 = .ok (.getfield 23, 3) := by decide +kernel
theorem dX11_digest_144 : decode cX11_digest 144 = .ok (.ladd, 1) := by decide +kernel
theorem dX11_digest_145 : decode cX11_digest 145 = .ok (.lreturn, 1) := by decide +kernel
theorem dX11_digest_15 : decode cX11_digest 15 = .ok (.lload_n 1, 1) := by decide +kernel
theorem dX11_digest_16 : decode cX11_digest 16 = .ok (.lmul, 1) := by decide +kernel
theorem dX11_digest_17 : decode cX11_digest 17 = .ok (.aload_n 0, 1) := by decide +kernel
theorem dX11_digest_18 : decode cX11_digest 18 = .ok (.iload_n 3, 1) := by decide +kernel
theorem dX11_digest_19 : decode cX11_digest 19 = .ok (.invokevirtual 268, 3) := by decide +kernel
theorem dX11_digest_22 : decode cX11_digest 22 = .ok (.i2l, 1) := by decide +kernel
theorem dX11_digest_23 : decode cX11_digest 23 = .ok (.ladd, 1) := by decide +kernel
theorem dX11_digest_24 : decode cX11_digest 24 = .ok (.lstore_n 1, 1) := by decide +kernel
theorem dX11_digest_25 : decode cX11_digest 25 = .ok (.iinc 3 1, 3) := by decide +kernel
theorem dX11_digest_28 : decode cX11_digest 28 = .ok (.goto (-22), 3) := by decide +kernel
theorem dX11_digest_3 : decode cX11_digest 3 = .ok (.lstore_n 1, 1) := by decide +kernel
theorem dX11_digest_31 : decode cX11_digest 31 = .ok (.iconst 0, 1) := by decide +kernel
theorem dX11_digest_32 : decode cX11_digest 32 = .ok (.istore_n 3, 1) := by decide +kernel
theorem dX11_digest_33 : decode cX11_digest 33 = .ok (.iload_n 3, 1) := by decide +kernel
theorem dX11_digest_34 : decode cX11_digest 34 = .ok (.aload_n 0, 1) := by decide +kernel
theorem dX11_digest_35 : decode cX11_digest 35 = .ok (.invokevirtual 52, 3) := by decide +kernel
theorem dX11_digest_38 : decode cX11_digest 38 = .ok (.if_icmp .ge 40, 3) := by decide +kernel
theorem dX11_digest_4 : decode cX11_digest 4 = .ok (.iconst 0, 1) := by decide +kernel
theorem dX11_digest_41 : decode cX11_digest 41 = .ok (.iconst 0, 1) := by decide +kernel
theorem dX11_digest_42 : decode cX11_digest 42 = .ok (.istore 4, 2) := by decide +kernel
theorem dX11_digest_44 : decode cX11_digest 44 = .ok (.iload 4, 2) := by decide +kernel
theorem dX11_digest_46 : decode cX11_digest 46 = .ok (.bipush 8, 2) := by decide +kernel
theorem dX11_digest_48 : decode cX11_digest 48 = .ok (.if_icmp .ge 24, 3) := by decide +kernel
theorem dX11_digest_5 : decode cX11_digest 5 = .ok (.istore_n 3, 1) := by decide +kernel
theorem dX11_digest_51 : decode cX11_digest 51 = .ok (.ldc2_w 271, 3) := by decide +kernel
theorem dX11_digest_54 : decode cX11_digest 54 = .ok (.lload_n 1, 1) := by decide +kernel
theorem dX11_digest_55 : decode cX11_digest 55 = .ok (.lmul, 1) := by decide +kernel
theorem dX11_digest_56 : decode cX11_digest 56 = .ok (.aload_n 0, 1) := by decide +kernel
theorem dX11_digest_57 : decode cX11_digest 57 = .ok (.iload_n 3, 1) := by decide +kernel
theorem dX11_digest_58 : decode cX11_digest 58 = .ok (.iload 4, 2) := by decide +kernel
theorem dX11_digest_6 : decode cX11_digest 6 = .ok (.iload_n 3, 1) := by decide +kernel
theorem dX11_digest_60 : decode cX11_digest 60 = .ok (.invokevirtual 134, 3) := by decide +kernel
theorem dX11_digest_63 : decode cX11_digest 63 = .ok (.i2l, 1) := by decide +kernel
theorem dX11_digest_64 : decode cX11_digest 64 = .ok (.ladd, 1) := by decide +kernel
theorem dX11_digest_65 : decode cX11_digest 65 = .ok (.lstore_n 1, 1) := by decide +kernel
theorem dX11_digest_66 : decode cX11_digest 66 = .ok (.iinc 4 1, 3) := by decide +kernel
theorem dX11_digest_69 : decode cX11_digest 69 = .ok (.goto (-25), 3) := by decide +kernel
theorem dX11_digest_7 : decode cX11_digest 7 = .ok (.bipush 11, 2) := by decide +kernel
theorem dX11_digest_72 : decode cX11_digest 72 = .ok (.iinc 3 1, 3) := by decide +kernel
theorem dX11_digest_75 : decode cX11_digest 75 = .ok (.goto (-42), 3) := by decide +kernel
theorem dX11_digest_78 : decode cX11_digest 78 = .ok (.aload_n 0, 1) := by decide +kernel
theorem dX11_digest_79 : decode cX11_digest 79 = .ok (.lload_n 1, 1) := by decide +kernel
theorem dX11_digest_80 : decode cX11_digest 80 = .ok (.bipush 55, 2) := by decide +kernel
theorem dX11_digest_82 : decode cX11_digest 82 = .ok (.iconst 4, 1) := by decide +kernel
theorem dX11_digest_83 : decode cX11_digest 83 = .ok (.aload_n 0, 1) := by decide +kernel
theorem dX11_digest_84 : decode cX11_digest 84 = .ok (.getfield 7, 3) := by decide +kernel
theorem dX11_digest_87 : decode cX11_digest 87 = .ok (.iconst 1, 1) := by decide +kernel
theorem dX11_digest_88 : decode cX11_digest 88 = .ok (.iaload, 1) := by decide +kernel
theorem dX11_digest_89 : decode cX11_digest 89 = .ok (.imul, 1) := by decide +kernel
theorem dX11_digest_9 : decode cX11_digest 9 = .ok (.if_icmp .ge 22, 3) := by decide +kernel
theorem dX11_digest_90 : decode cX11_digest 90 = .ok (.invokevirtual 275, 3) := by decide +kernel
theorem dX11_digest_93 : decode cX11_digest 93 = .ok (.lstore_n 1, 1) := by decide +kernel
theorem dX11_digest_94 : decode cX11_digest 94 = .ok (.aload_n 0, 1) := by decide +kernel
theorem dX11_digest_95 : decode cX11_digest 95 = .ok (.lload_n 1, 1) := by decide +kernel
theorem dX11_digest_96 : decode cX11_digest 96 = .ok (.bipush 75, 2) := by decide +kernel
theorem dX11_digest_98 : decode cX11_digest 98 = .ok (.iconst 5, 1) := by decide +kernel
theorem dX11_digest_99 : decode cX11_digest 99 = .ok (.aload_n 0, 1) := by decide +kernel
theorem dX11_fraction_0 : decode cX11_fraction 0 = .ok (.lload_n 1, 1) := by decide +kernel
theorem dX11_fraction_1 : decode cX11_fraction 1 = .ok (.lstore 5, 2) := by decide +kernel
theorem dX11_fraction_10 : decode cX11_fraction 10 = .ok (.ifCond .eq 21, 3) := by decide +kernel
theorem dX11_fraction_13 : decode cX11_fraction 13 = .ok (.lload 5, 2) := by decide +kernel
theorem dX11_fraction_15 : decode cX11_fraction 15 = .ok (.lload 7, 2) := by decide +kernel
theorem dX11_fraction_17 : decode cX11_fraction 17 = .ok (.lrem, 1) := by decide +kernel
theorem dX11_fraction_18 : decode cX11_fraction 18 = .ok (.lstore 9, 2) := by decide +kernel
theorem dX11_fraction_20 : decode cX11_fraction 20 = .ok (.lload 7, 2) := by decide +kernel
theorem dX11_fraction_22 : decode cX11_fraction 22 = .ok (.lstore 5, 2) := by decide +kernel
theorem dX11_fraction_24 : decode cX11_fraction 24 = .ok (.lload 9, 2) := by decide +kernel
theorem dX11_fraction_26 : decode cX11_fraction 26 = .ok (.lstore 7, 2) := by decide +kernel
theorem dX11_fraction_28 : decode cX11_fraction 28 = .ok (.goto (-22), 3) := by decide +kernel
theorem dX11_fraction_3 : decode cX11_fraction 3 = .ok (.lload_n 3, 1) := by decide +kernel
theorem dX11_fraction_31 : decode cX11_fraction 31 = .ok (.aload_n 0, 1) := by decide +kernel
theorem dX11_fraction_32 : decode cX11_fraction 32 = .ok (.lload_n 1, 1) := by decide +kernel
theorem dX11_fraction_33 : decode cX11_fraction 33 = .ok (.lload 5, 2) := by decide +kernel
theorem dX11_fraction_35 : decode cX11_fraction 35 = .ok (.ldiv, 1) := by decide +kernel
theorem dX11_fraction_36 : decode cX11_fraction 36 = .ok (.putfield 182, 3) := by decide +kernel
theorem dX11_fraction_39 : decode cX11_fraction 39 = .ok (.aload_n 0, 1) := by decide +kernel
theorem dX11_fraction_4 : decode cX11_fraction 4 = .ok (.lstore 7, 2) := by decide +kernel
theorem dX11_fraction_40 : decode cX11_fraction 40 = .ok (.lload_n 3, 1) := by decide +kernel
theorem dX11_fraction_41 : decode cX11_fraction 41 = .ok (.lload 5, 2) := by decide +kernel
theorem dX11_fraction_43 : decode cX11_fraction 43 = .ok (.ldiv, 1) := by decide +kernel
theorem dX11_fraction_44 : decode cX11_fraction 44 = .ok (.putfield 23, 3) := by decide +kernel
theorem dX11_fraction_47 : decode cX11_fraction 47 = .ok (.return_, 1) := by decide +kernel
theorem dX11_fraction_6 : decode cX11_fraction 6 = .ok (.lload 7, 2) := by decide +kernel
theorem dX11_fraction_8 : decode cX11_fraction 8 = .ok (.lconst 0, 1) := by decide +kernel
theorem dX11_fraction_9 : decode cX11_fraction 9 = .ok (.lcmp, 1) := by decide +kernel
theorem dX11_getsBy_0 : decode cX11_getsBy 0 = .ok (.iload_n 2, 1) := by decide +kernel
theorem dX11_getsBy_1 : decode cX11_getsBy 1 = .ok (.iload_n 1, 1) := by decide +kernel
theorem dX11_getsBy_12 : decode cX11_getsBy 12 = .ok (.iconst 0, 1) := by decide +kernel
theorem dX11_getsBy_13 : decode cX11_getsBy 13 = .ok (.iadd, 1) := by decide +kernel
theorem dX11_getsBy_14 : decode cX11_getsBy 14 = .ok (.ireturn, 1) := by decide +kernel
theorem dX11_getsBy_2 : decode cX11_getsBy 2 = .ok (.isub, 1) := by decide +kernel
theorem dX11_getsBy_3 : decode cX11_getsBy 3 = .ok (.iload_n 2, 1) := by decide +kernel
theorem dX11_getsBy_4 : decode cX11_getsBy 4 = .ok (.iload_n 3, 1) := by decide +kernel
theorem dX11_getsBy_5 : decode cX11_getsBy 5 = .ok (.if_icmp .le 7, 3) := by decide +kernel
theorem dX11_getsBy_8 : decode cX11_getsBy 8 = .ok (.iconst 3, 1) := by decide +kernel
theorem dX11_getsBy_9 : decode cX11_getsBy 9 = .ok (.goto 4, 3) := by decide +kernel
theorem dX11_pair_0 : decode cX11_pair 0 = .ok (.aload_n 0, 1) := by decide +kernel
theorem dX11_pair_1 : decode cX11_pair 1 = .ok (.iload_n 1, 1) := by decide +kernel
theorem dX11_pair_10 : decode cX11_pair 10 = .ok (.invokevirtual 123, 3) := by decide +kernel
theorem dX11_pair_102 : decode cX11_pair 102 = .ok (.iconst 5, 1) := by decide +kernel
theorem dX11_pair_103 : decode cX11_pair 103 = .ok (.iload_n 2, 1) := by decide +kernel
theorem dX11_pair_104 : decode cX11_pair 104 = .ok (.iadd, 1) := by decide +kernel
theorem dX11_pair_105 : decode cX11_pair 105 = .ok (.iaload, 1) := by decide +kernel
theorem dX11_pair_106 : decode cX11_pair 106 = .ok (.iastore, 1) := by decide +kernel
theorem dX11_pair_107 : decode cX11_pair 107 = .ok (.iinc 4 1, 3) := by decide +kernel
theorem dX11_pair_110 : decode cX11_pair 110 = .ok (.goto (-74), 3) := by decide +kernel
theorem dX11_pair_113 : decode cX11_pair 113 = .ok (.iconst 0, 1) := by decide +kernel
theorem dX11_pair_114 : decode cX11_pair 114 = .ok (.istore 4, 2) := by decide +kernel
theorem dX11_pair_116 : decode cX11_pair 116 = .ok (.iconst 0, 1) := by decide +kernel
theorem dX11_pair_117 : decode cX11_pair 117 = .ok (.istore 5, 2) := by decide +kernel
theorem dX11_pair_119 : decode cX11_pair 119 = .ok (.iload 5, 2) := by decide +kernel
theorem dX11_pair_121 : decode cX11_pair 121 = .ok (.bipush 100, 2) := by decide +kernel
theorem dX11_pair_123 : decode cX11_pair 123 = .ok (.if_icmp .ge 40, 3) := by decide +kernel
theorem dX11_pair_126 : decode cX11_pair 126 = .ok (.aload_n 0, 1) := by decide +kernel
theorem dX11_pair_127 : decode cX11_pair 127 = .ok (.iload_n 1, 1) := by decide +kernel
theorem dX11_pair_128 : decode cX11_pair 128 = .ok (.iload_n 2, 1) := by decide +kernel
theorem dX11_pair_129 : decode cX11_pair 129 = .ok (.iload 5, 2) := by decide +kernel
theorem dX11_pair_13 : decode cX11_pair 13 = .ok (.ifCond .eq 13, 3) := by decide +kernel
theorem dX11_pair_131 : decode cX11_pair 131 = .ok (.bipush 10, 2) := by decide +kernel
theorem dX11_pair_133 : decode cX11_pair 133 = .ok (.idiv, 1) := by decide +kernel
theorem dX11_pair_134 : decode cX11_pair 134 = .ok (.iload 5, 2) := by decide +kernel
theorem dX11_pair_136 : decode cX11_pair 136 = .ok (.bipush 10, 2) := by decide +kernel
theorem dX11_pair_138 : decode cX11_pair 138 = .ok (.irem, 1) := by decide +kernel
theorem dX11_pair_139 : decode cX11_pair 139 = .ok (.invokevirtual 178, 3) := by decide +kernel
theorem dX11_pair_142 : decode cX11_pair 142 = .ok (.ifCond .eq 15, 3) := by decide +kernel
theorem dX11_pair_145 : decode cX11_pair 145 = .ok (.iload 4, 2) := by decide +kernel
theorem dX11_pair_147 : decode cX11_pair 147 = .ok (.iload_n 3, 1) := by decide +kernel
theorem dX11_pair_148 : decode cX11_pair 148 = .ok (.if_icmp .ne 6, 3) := by decide +kernel
theorem dX11_pair_151 : decode cX11_pair 151 = .ok (.iload 5, 2) := by decide +kernel
theorem dX11_pair_153 : decode cX11_pair 153 = .ok (.ireturn, 1) := by decide +kernel
theorem dX11_pair_154 : decode cX11_pair 154 = .ok (.iinc 4 1, 3) := by decide +kernel
theorem dX11_pair_157 : decode cX11_pair 157 = .ok (.iinc 5 1, 3) := by decide +kernel
theorem dX11_pair_16 : decode cX11_pair 16 = .ok (.iload_n 1, 1) := by decide +kernel
theorem dX11_pair_160 : decode cX11_pair 160 = .ok (.goto (-41), 3) := by decide +kernel
theorem dX11_pair_163 : decode cX11_pair 163 = .ok (.iload_n 3, 1) := by decide +kernel
theorem dX11_pair_164 : decode cX11_pair 164 = .ok (.iconst (-1), 1) := by decide +kernel
theorem dX11_pair_165 : decode cX11_pair 165 = .ok (.if_icmp .ne 8, 3) := by decide +kernel
theorem dX11_pair_168 : decode cX11_pair 168 = .ok (.iload 4, 2) := by decide +kernel
theorem dX11_pair_17 : decode cX11_pair 17 = .ok (.iload_n 2, 1) := by decide +kernel
theorem dX11_pair_170 : decode cX11_pair 170 = .ok (.goto 5, 3) := by decide +kernel
theorem dX11_pair_173 : decode cX11_pair 173 = .ok (.bipush (-5), 2) := by decide +kernel
theorem dX11_pair_175 : decode cX11_pair 175 = .ok (.ireturn, 1) := by decide +kernel
theorem dX11_pair_18 : decode cX11_pair 18 = .ok (.if_icmp .eq 8, 3) := by decide +kernel
theorem dX11_pair_2 : decode cX11_pair 2 = .ok (.invokevirtual 123, 3) := by decide +kernel
theorem dX11_pair_21 : decode cX11_pair 21 = .ok (.iload_n 3, 1) := by decide +kernel
theorem dX11_pair_22 : decode cX11_pair 22 = .ok (.iconst (-1), 1) := by decide +kernel
theorem dX11_pair_23 : decode cX11_pair 23 = .ok (.if_icmp .ge 10, 3) := by decide +kernel
theorem dX11_pair_26 : decode cX11_pair 26 = .ok (.aload_n 0, 1) := by decide +kernel
theorem dX11_pair_27 : decode cX11_pair 27 = .ok (.bipush (-10), 2) := by decide +kernel
theorem dX11_pair_29 : decode cX11_pair 29 = .ok (.invokevirtual 68, 3) := by decide +kernel
theorem dX11_pair_32 : decode cX11_pair 32 = .ok (.ireturn, 1) := by decide +kernel
theorem dX11_pair_33 : decode cX11_pair 33 = .ok (.iconst 0, 1) := by decide +kernel
theorem dX11_pair_34 : decode cX11_pair 34 = .ok (.istore 4, 2) := by decide +kernel
theorem dX11_pair_36 : decode cX11_pair 36 = .ok (.iload 4, 2) := by decide +kernel
theorem dX11_pair_38 : decode cX11_pair 38 = .ok (.bipush 10, 2) := by decide +kernel
theorem dX11_pair_40 : decode cX11_pair 40 = .ok (.if_icmp .ge 73, 3) := by decide +kernel
theorem dX11_pair_43 : decode cX11_pair 43 = .ok (.aload_n 0, 1) := by decide +kernel
theorem dX11_pair_44 : decode cX11_pair 44 = .ok (.invokevirtual 137, 3) := by decide +kernel
theorem dX11_pair_47 : decode cX11_pair 47 = .ok (.aload_n 0, 1) := by decide +kernel
theorem dX11_pair_48 : decode cX11_pair 48 = .ok (.getfield 27, 3) := by decide +kernel
theorem dX11_pair_5 : decode cX11_pair 5 = .ok (.ifCond .eq 21, 3) := by decide +kernel
theorem dX11_pair_51 : decode cX11_pair 51 = .ok (.bipush 11, 2) := by decide +kernel
theorem dX11_pair_53 : decode cX11_pair 53 = .ok (.iload_n 1, 1) := by decide +kernel
theorem dX11_pair_54 : decode cX11_pair 54 = .ok (.iadd, 1) := by decide +kernel
theorem dX11_pair_55 : decode cX11_pair 55 = .ok (.iload 4, 2) := by decide +kernel
theorem dX11_pair_57 : decode cX11_pair 57 = .ok (.iastore, 1) := by decide +kernel
theorem dX11_pair_58 : decode cX11_pair 58 = .ok (.aload_n 0, 1) := by decide +kernel
theorem dX11_pair_59 : decode cX11_pair 59 = .ok (.getfield 27, 3) := by decide +kernel
theorem dX11_pair_62 : decode cX11_pair 62 = .ok (.bipush 11, 2) := by decide +kernel
theorem dX11_pair_64 : decode cX11_pair 64 = .ok (.iload_n 2, 1) := by decide +kernel
theorem dX11_pair_65 : decode cX11_pair 65 = .ok (.iadd, 1) := by decide +kernel
theorem dX11_pair_66 : decode cX11_pair 66 = .ok (.iload 4, 2) := by decide +kernel
theorem dX11_pair_68 : decode cX11_pair 68 = .ok (.iastore, 1) := by decide +kernel
theorem dX11_pair_69 : decode cX11_pair 69 = .ok (.aload_n 0, 1) := by decide +kernel
theorem dX11_pair_70 : decode cX11_pair 70 = .ok (.iconst 5, 1) := by decide +kernel
theorem dX11_pair_71 : decode cX11_pair 71 = .ok (.invokevirtual 140, 3) := by decide +kernel
theorem dX11_pair_74 : decode cX11_pair 74 = .ok (.aload_n 0, 1) := by decide +kernel
theorem dX11_pair_75 : decode cX11_pair 75 = .ok (.getfield 36, 3) := by decide +kernel
theorem dX11_pair_78 : decode cX11_pair 78 = .ok (.iload 4, 2) := by decide +kernel
theorem dX11_pair_8 : decode cX11_pair 8 = .ok (.aload_n 0, 1) := by decide +kernel
theorem dX11_pair_80 : decode cX11_pair 80 = .ok (.aload_n 0, 1) := by decide +kernel
theorem dX11_pair_81 : decode cX11_pair 81 = .ok (.getfield 27, 3) := by decide +kernel
theorem dX11_pair_84 : decode cX11_pair 84 = .ok (.iconst 5, 1) := by decide +kernel
theorem dX11_pair_85 : decode cX11_pair 85 = .ok (.iload_n 1, 1) := by decide +kernel
theorem dX11_pair_86 : decode cX11_pair 86 = .ok (.iadd, 1) := by decide +kernel
theorem dX11_pair_87 : decode cX11_pair 87 = .ok (.iaload, 1) := by decide +kernel
theorem dX11_pair_88 : decode cX11_pair 88 = .ok (.iastore, 1) := by decide +kernel
theorem dX11_pair_89 : decode cX11_pair 89 = .ok (.aload_n 0, 1) := by decide +kernel
theorem dX11_pair_9 : decode cX11_pair 9 = .ok (.iload_n 2, 1) := by decide +kernel
theorem dX11_pair_90 : decode cX11_pair 90 = .ok (.getfield 36, 3) := by decide +kernel
theorem dX11_pair_93 : decode cX11_pair 93 = .ok (.bipush 10, 2) := by decide +kernel
theorem dX11_pair_95 : decode cX11_pair 95 = .ok (.iload 4, 2) := by decide +kernel
theorem dX11_pair_97 : decode cX11_pair 97 = .ok (.iadd, 1) := by decide +kernel
theorem dX11_pair_98 : decode cX11_pair 98 = .ok (.aload_n 0, 1) := by decide +kernel
theorem dX11_pair_99 : decode cX11_pair 99 = .ok (.getfield 27, 3) := by decide +kernel
theorem dX11_part_0 : decode cX11_part 0 = .ok (.iload_n 1, 1) := by decide +kernel
theorem dX11_part_1 : decode cX11_part 1 = .ok (.ifCond .ne 10, 3) := by decide +kernel
theorem dX11_part_11 : decode cX11_part 11 = .ok (.iload_n 1, 1) := by decide +kernel
theorem dX11_part_12 : decode cX11_part 12 = .ok (.iconst 1, 1) := by decide +kernel
theorem dX11_part_13 : decode cX11_part 13 = .ok (.if_icmp .ne 10, 3) := by decide +kernel
theorem dX11_part_16 : decode cX11_part 16 = .ok (.aload_n 0, 1) := by decide +kernel
theorem dX11_part_17 : decode cX11_part 17 = .ok (.getfield 23, 3) := by decide +kernel
theorem dX11_part_20 : decode cX11_part 20 = .ok (.goto 10, 3) := by decide +kernel
theorem dX11_part_23 : decode cX11_part 23 = .ok (.aload_n 0, 1) := by decide +kernel
theorem dX11_part_24 : decode cX11_part 24 = .ok (.bipush (-2), 2) := by decide +kernel
theorem dX11_part_26 : decode cX11_part 26 = .ok (.invokevirtual 68, 3) := by decide +kernel
theorem dX11_part_29 : decode cX11_part 29 = .ok (.i2l, 1) := by decide +kernel
theorem dX11_part_30 : decode cX11_part 30 = .ok (.lreturn, 1) := by decide +kernel
theorem dX11_part_4 : decode cX11_part 4 = .ok (.aload_n 0, 1) := by decide +kernel
theorem dX11_part_5 : decode cX11_part 5 = .ok (.getfield 182, 3) := by decide +kernel
theorem dX11_part_8 : decode cX11_part 8 = .ok (.goto 22, 3) := by decide +kernel
theorem dX11_rests_0 : decode cX11_rests 0 = .ok (.iconst 1, 1) := by decide +kernel
theorem dX11_rests_1 : decode cX11_rests 1 = .ok (.istore 5, 2) := by decide +kernel
theorem dX11_rests_102 : decode cX11_rests 102 = .ok (.aload_n 0, 1) := by decide +kernel
theorem dX11_rests_103 : decode cX11_rests 103 = .ok (.aload_n 0, 1) := by decide +kernel
theorem dX11_rests_104 : decode cX11_rests 104 = .ok (.getfield 7, 3) := by decide +kernel
theorem dX11_rests_107 : decode cX11_rests 107 = .ok (.iconst 5, 1) := by decide +kernel
theorem dX11_rests_108 : decode cX11_rests 108 = .ok (.iload_n 2, 1) := by decide +kernel
theorem dX11_rests_109 : decode cX11_rests 109 = .ok (.iadd, 1) := by decide +kernel
theorem dX11_rests_11 : decode cX11_rests 11 = .ok (.aload_n 0, 1) := by decide +kernel
theorem dX11_rests_110 : decode cX11_rests 110 = .ok (.iaload, 1) := by decide +kernel
theorem dX11_rests_111 : decode cX11_rests 111 = .ok (.iload 7, 2) := by decide +kernel
theorem dX11_rests_113 : decode cX11_rests 113 = .ok (.iload 6, 2) := by decide +kernel
theorem dX11_rests_115 : decode cX11_rests 115 = .ok (.invokevirtual 174, 3) := by decide +kernel
theorem dX11_rests_118 : decode cX11_rests 118 = .ok (.if_icmp .gt 7, 3) := by decide +kernel
theorem dX11_rests_12 : decode cX11_rests 12 = .ok (.getfield 36, 3) := by decide +kernel
theorem dX11_rests_121 : decode cX11_rests 121 = .ok (.iconst 1, 1) := by decide +kernel
theorem dX11_rests_122 : decode cX11_rests 122 = .ok (.goto 4, 3) := by decide +kernel
theorem dX11_rests_125 : decode cX11_rests 125 = .ok (.iconst 0, 1) := by decide +kernel
theorem dX11_rests_126 : decode cX11_rests 126 = .ok (.istore 5, 2) := by decide +kernel
theorem dX11_rests_128 : decode cX11_rests 128 = .ok (.iinc 8 1, 3) := by decide +kernel
theorem dX11_rests_131 : decode cX11_rests 131 = .ok (.goto (-105), 3) := by decide +kernel
theorem dX11_rests_134 : decode cX11_rests 134 = .ok (.iload 5, 2) := by decide +kernel
theorem dX11_rests_136 : decode cX11_rests 136 = .ok (.ireturn, 1) := by decide +kernel
theorem dX11_rests_15 : decode cX11_rests 15 = .ok (.bipush 10, 2) := by decide +kernel
theorem dX11_rests_17 : decode cX11_rests 17 = .ok (.iload 4, 2) := by decide +kernel
theorem dX11_rests_19 : decode cX11_rests 19 = .ok (.iadd, 1) := by decide +kernel
theorem dX11_rests_20 : decode cX11_rests 20 = .ok (.iaload, 1) := by decide +kernel
theorem dX11_rests_21 : decode cX11_rests 21 = .ok (.istore 7, 2) := by decide +kernel
theorem dX11_rests_23 : decode cX11_rests 23 = .ok (.iconst 0, 1) := by decide +kernel
theorem dX11_rests_24 : decode cX11_rests 24 = .ok (.istore 8, 2) := by decide +kernel
theorem dX11_rests_26 : decode cX11_rests 26 = .ok (.iload 8, 2) := by decide +kernel
theorem dX11_rests_28 : decode cX11_rests 28 = .ok (.bipush 10, 2) := by decide +kernel
theorem dX11_rests_3 : decode cX11_rests 3 = .ok (.aload_n 0, 1) := by decide +kernel
theorem dX11_rests_30 : decode cX11_rests 30 = .ok (.if_icmp .ge 104, 3) := by decide +kernel
theorem dX11_rests_33 : decode cX11_rests 33 = .ok (.iload 5, 2) := by decide +kernel
theorem dX11_rests_35 : decode cX11_rests 35 = .ok (.ifCond .eq 90, 3) := by decide +kernel
theorem dX11_rests_38 : decode cX11_rests 38 = .ok (.aload_n 0, 1) := by decide +kernel
theorem dX11_rests_39 : decode cX11_rests 39 = .ok (.aload_n 0, 1) := by decide +kernel
theorem dX11_rests_4 : decode cX11_rests 4 = .ok (.getfield 36, 3) := by decide +kernel
theorem dX11_rests_40 : decode cX11_rests 40 = .ok (.getfield 7, 3) := by decide +kernel
theorem dX11_rests_43 : decode cX11_rests 43 = .ok (.iconst 5, 1) := by decide +kernel
theorem dX11_rests_44 : decode cX11_rests 44 = .ok (.iload_n 1, 1) := by decide +kernel
theorem dX11_rests_45 : decode cX11_rests 45 = .ok (.iadd, 1) := by decide +kernel
theorem dX11_rests_46 : decode cX11_rests 46 = .ok (.iaload, 1) := by decide +kernel
theorem dX11_rests_47 : decode cX11_rests 47 = .ok (.aload_n 0, 1) := by decide +kernel
theorem dX11_rests_48 : decode cX11_rests 48 = .ok (.getfield 36, 3) := by decide +kernel
theorem dX11_rests_51 : decode cX11_rests 51 = .ok (.iload 8, 2) := by decide +kernel
theorem dX11_rests_53 : decode cX11_rests 53 = .ok (.iaload, 1) := by decide +kernel
theorem dX11_rests_54 : decode cX11_rests 54 = .ok (.iload 7, 2) := by decide +kernel
theorem dX11_rests_56 : decode cX11_rests 56 = .ok (.invokevirtual 174, 3) := by decide +kernel
theorem dX11_rests_59 : decode cX11_rests 59 = .ok (.aload_n 0, 1) := by decide +kernel
theorem dX11_rests_60 : decode cX11_rests 60 = .ok (.aload_n 0, 1) := by decide +kernel
theorem dX11_rests_61 : decode cX11_rests 61 = .ok (.getfield 7, 3) := by decide +kernel
theorem dX11_rests_64 : decode cX11_rests 64 = .ok (.iconst 5, 1) := by decide +kernel
theorem dX11_rests_65 : decode cX11_rests 65 = .ok (.iload_n 1, 1) := by decide +kernel
theorem dX11_rests_66 : decode cX11_rests 66 = .ok (.iadd, 1) := by decide +kernel
theorem dX11_rests_67 : decode cX11_rests 67 = .ok (.iaload, 1) := by decide +kernel
theorem dX11_rests_68 : decode cX11_rests 68 = .ok (.iload 6, 2) := by decide +kernel
theorem dX11_rests_7 : decode cX11_rests 7 = .ok (.iload_n 3, 1) := by decide +kernel
theorem dX11_rests_70 : decode cX11_rests 70 = .ok (.iload 7, 2) := by decide +kernel
theorem dX11_rests_72 : decode cX11_rests 72 = .ok (.invokevirtual 174, 3) := by decide +kernel
theorem dX11_rests_75 : decode cX11_rests 75 = .ok (.if_icmp .gt 50, 3) := by decide +kernel
theorem dX11_rests_78 : decode cX11_rests 78 = .ok (.aload_n 0, 1) := by decide +kernel
theorem dX11_rests_79 : decode cX11_rests 79 = .ok (.aload_n 0, 1) := by decide +kernel
theorem dX11_rests_8 : decode cX11_rests 8 = .ok (.iaload, 1) := by decide +kernel
theorem dX11_rests_80 : decode cX11_rests 80 = .ok (.getfield 7, 3) := by decide +kernel
theorem dX11_rests_83 : decode cX11_rests 83 = .ok (.iconst 5, 1) := by decide +kernel
theorem dX11_rests_84 : decode cX11_rests 84 = .ok (.iload_n 2, 1) := by decide +kernel
theorem dX11_rests_85 : decode cX11_rests 85 = .ok (.iadd, 1) := by decide +kernel
theorem dX11_rests_86 : decode cX11_rests 86 = .ok (.iaload, 1) := by decide +kernel
theorem dX11_rests_87 : decode cX11_rests 87 = .ok (.aload_n 0, 1) := by decide +kernel
theorem dX11_rests_88 : decode cX11_rests 88 = .ok (.getfield 36, 3) := by decide +kernel
theorem dX11_rests_9 : decode cX11_rests 9 = .ok (.istore 6, 2) := by decide +kernel
theorem dX11_rests_91 : decode cX11_rests 91 = .ok (.bipush 10, 2) := by decide +kernel
theorem dX11_rests_93 : decode cX11_rests 93 = .ok (.iload 8, 2) := by decide +kernel
theorem dX11_rests_95 : decode cX11_rests 95 = .ok (.iadd, 1) := by decide +kernel
theorem dX11_rests_96 : decode cX11_rests 96 = .ok (.iaload, 1) := by decide +kernel
theorem dX11_rests_97 : decode cX11_rests 97 = .ok (.iload 6, 2) := by decide +kernel
theorem dX11_rests_99 : decode cX11_rests 99 = .ok (.invokevirtual 174, 3) := by decide +kernel
theorem dX11_status_0 : decode cX11_status 0 = .ok (.iload_n 1, 1) := by decide +kernel
theorem dX11_status_1 : decode cX11_status 1 = .ok (.i2l, 1) := by decide +kernel
theorem dX11_status_12 : decode cX11_status 12 = .ok (.aload_n 0, 1) := by decide +kernel
theorem dX11_status_13 : decode cX11_status 13 = .ok (.getfield 20, 3) := by decide +kernel
theorem dX11_status_16 : decode cX11_status 16 = .ok (.iload_n 1, 1) := by decide +kernel
theorem dX11_status_17 : decode cX11_status 17 = .ok (.iaload, 1) := by decide +kernel
theorem dX11_status_18 : decode cX11_status 18 = .ok (.goto 8, 3) := by decide +kernel
theorem dX11_status_2 : decode cX11_status 2 = .ok (.lconst 0, 1) := by decide +kernel
theorem dX11_status_21 : decode cX11_status 21 = .ok (.aload_n 0, 1) := by decide +kernel
theorem dX11_status_22 : decode cX11_status 22 = .ok (.iconst (-1), 1) := by decide +kernel
theorem dX11_status_23 : decode cX11_status 23 = .ok (.invokevirtual 68, 3) := by decide +kernel
theorem dX11_status_26 : decode cX11_status 26 = .ok (.ireturn, 1) := by decide +kernel
theorem dX11_status_3 : decode cX11_status 3 = .ok (.ldc2_w 156, 3) := by decide +kernel
theorem dX11_status_6 : decode cX11_status 6 = .ok (.invokestatic 56, 3) := by decide +kernel
theorem dX11_status_9 : decode cX11_status 9 = .ok (.ifCond .eq 12, 3) := by decide +kernel
theorem dX11_stumble_0 : decode cX11_stumble 0 = .ok (.aload_n 0, 1) := by decide +kernel
theorem dX11_stumble_1 : decode cX11_stumble 1 = .ok (.iload_n 1, 1) := by decide +kernel
theorem dX11_stumble_10 : decode cX11_stumble 10 = .ok (.lconst 0, 1) := by decide +kernel
theorem dX11_stumble_100 : decode cX11_stumble 100 = .ok (.istore 12, 2) := by decide +kernel
theorem dX11_stumble_102 : decode cX11_stumble 102 = .ok (.iload 12, 2) := by decide +kernel
theorem dX11_stumble_104 : decode cX11_stumble 104 = .ok (.iload_n 3, 1) := by decide +kernel
theorem dX11_stumble_105 : decode cX11_stumble 105 = .ok (.if_icmp .ge 73, 3) := by decide +kernel
theorem dX11_stumble_108 : decode cX11_stumble 108 = .ok (.lload 10, 2) := by decide +kernel
theorem dX11_stumble_11 : decode cX11_stumble 11 = .ok (.ldc2_w 66, 3) := by decide +kernel
theorem dX11_stumble_110 : decode cX11_stumble 110 = .ok (.iload 9, 2) := by decide +kernel
theorem dX11_stumble_112 : decode cX11_stumble 112 = .ok (.iload 12, 2) := by decide +kernel
theorem dX11_stumble_114 : decode cX11_stumble 114 = .ok (.invokestatic 161, 3) := by decide +kernel
theorem dX11_stumble_117 : decode cX11_stumble 117 = .ok (.ifCond .eq 9, 3) := by decide +kernel
theorem dX11_stumble_120 : decode cX11_stumble 120 = .ok (.iload 4, 2) := by decide +kernel
theorem dX11_stumble_122 : decode cX11_stumble 122 = .ok (.i2l, 1) := by decide +kernel
theorem dX11_stumble_123 : decode cX11_stumble 123 = .ok (.goto 9, 3) := by decide +kernel
theorem dX11_stumble_126 : decode cX11_stumble 126 = .ok (.bipush 10, 2) := by decide +kernel
theorem dX11_stumble_128 : decode cX11_stumble 128 = .ok (.iload 4, 2) := by decide +kernel
theorem dX11_stumble_130 : decode cX11_stumble 130 = .ok (.isub, 1) := by decide +kernel
theorem dX11_stumble_131 : decode cX11_stumble 131 = .ok (.i2l, 1) := by decide +kernel
theorem dX11_stumble_132 : decode cX11_stumble 132 = .ok (.lmul, 1) := by decide +kernel
theorem dX11_stumble_133 : decode cX11_stumble 133 = .ok (.lstore 10, 2) := by decide +kernel
theorem dX11_stumble_135 : decode cX11_stumble 135 = .ok (.aload_n 0, 1) := by decide +kernel
theorem dX11_stumble_136 : decode cX11_stumble 136 = .ok (.getfield 27, 3) := by decide +kernel
theorem dX11_stumble_139 : decode cX11_stumble 139 = .ok (.bipush 35, 2) := by decide +kernel
theorem dX11_stumble_14 : decode cX11_stumble 14 = .ok (.invokestatic 56, 3) := by decide +kernel
theorem dX11_stumble_141 : decode cX11_stumble 141 = .ok (.dup2, 1) := by decide +kernel
theorem dX11_stumble_142 : decode cX11_stumble 142 = .ok (.iaload, 1) := by decide +kernel
theorem dX11_stumble_143 : decode cX11_stumble 143 = .ok (.iconst 1, 1) := by decide +kernel
theorem dX11_stumble_144 : decode cX11_stumble 144 = .ok (.iadd, 1) := by decide +kernel
theorem dX11_stumble_145 : decode cX11_stumble 145 = .ok (.iastore, 1) := by decide +kernel
theorem dX11_stumble_146 : decode cX11_stumble 146 = .ok (.aload_n 0, 1) := by decide +kernel
theorem dX11_stumble_147 : decode cX11_stumble 147 = .ok (.getfield 27, 3) := by decide +kernel
theorem dX11_stumble_150 : decode cX11_stumble 150 = .ok (.iload_n 1, 1) := by decide +kernel
theorem dX11_stumble_151 : decode cX11_stumble 151 = .ok (.invokestatic 101, 3) := by decide +kernel
theorem dX11_stumble_154 : decode cX11_stumble 154 = .ok (.ifCond .ne 18, 3) := by decide +kernel
theorem dX11_stumble_157 : decode cX11_stumble 157 = .ok (.aload_n 0, 1) := by decide +kernel
theorem dX11_stumble_158 : decode cX11_stumble 158 = .ok (.getfield 27, 3) := by decide +kernel
theorem dX11_stumble_161 : decode cX11_stumble 161 = .ok (.iload_n 1, 1) := by decide +kernel
theorem dX11_stumble_162 : decode cX11_stumble 162 = .ok (.iload 9, 2) := by decide +kernel
theorem dX11_stumble_164 : decode cX11_stumble 164 = .ok (.iload 12, 2) := by decide +kernel
theorem dX11_stumble_166 : decode cX11_stumble 166 = .ok (.invokestatic 161, 3) := by decide +kernel
theorem dX11_stumble_169 : decode cX11_stumble 169 = .ok (.invokestatic 105, 3) := by decide +kernel
theorem dX11_stumble_17 : decode cX11_stumble 17 = .ok (.ifCond .eq 28, 3) := by decide +kernel
theorem dX11_stumble_172 : decode cX11_stumble 172 = .ok (.iinc 12 1, 3) := by decide +kernel
theorem dX11_stumble_175 : decode cX11_stumble 175 = .ok (.goto (-73), 3) := by decide +kernel
theorem dX11_stumble_178 : decode cX11_stumble 178 = .ok (.lload 5, 2) := by decide +kernel
theorem dX11_stumble_180 : decode cX11_stumble 180 = .ok (.aload_n 0, 1) := by decide +kernel
theorem dX11_stumble_181 : decode cX11_stumble 181 = .ok (.getfield 27, 3) := by decide +kernel
theorem dX11_stumble_184 : decode cX11_stumble 184 = .ok (.iconst 5, 1) := by decide +kernel
theorem dX11_stumble_185 : decode cX11_stumble 185 = .ok (.iload_n 1, 1) := by decide +kernel
theorem dX11_stumble_186 : decode cX11_stumble 186 = .ok (.iadd, 1) := by decide +kernel
theorem dX11_stumble_187 : decode cX11_stumble 187 = .ok (.iaload, 1) := by decide +kernel
theorem dX11_stumble_188 : decode cX11_stumble 188 = .ok (.iload_n 2, 1) := by decide +kernel
theorem dX11_stumble_189 : decode cX11_stumble 189 = .ok (.if_icmp .lt 8, 3) := by decide +kernel
theorem dX11_stumble_192 : decode cX11_stumble 192 = .ok (.lload 10, 2) := by decide +kernel
theorem dX11_stumble_194 : decode cX11_stumble 194 = .ok (.goto 4, 3) := by decide +kernel
theorem dX11_stumble_197 : decode cX11_stumble 197 = .ok (.lconst 0, 1) := by decide +kernel
theorem dX11_stumble_198 : decode cX11_stumble 198 = .ok (.ladd, 1) := by decide +kernel
theorem dX11_stumble_199 : decode cX11_stumble 199 = .ok (.lstore 5, 2) := by decide +kernel
theorem dX11_stumble_2 : decode cX11_stumble 2 = .ok (.invokevirtual 123, 3) := by decide +kernel
theorem dX11_stumble_20 : decode cX11_stumble 20 = .ok (.iload_n 3, 1) := by decide +kernel
theorem dX11_stumble_201 : decode cX11_stumble 201 = .ok (.iinc 9 1, 3) := by decide +kernel
theorem dX11_stumble_204 : decode cX11_stumble 204 = .ok (.goto (-120), 3) := by decide +kernel
theorem dX11_stumble_207 : decode cX11_stumble 207 = .ok (.aload_n 0, 1) := by decide +kernel
theorem dX11_stumble_208 : decode cX11_stumble 208 = .ok (.lload 5, 2) := by decide +kernel
theorem dX11_stumble_21 : decode cX11_stumble 21 = .ok (.i2l, 1) := by decide +kernel
theorem dX11_stumble_210 : decode cX11_stumble 210 = .ok (.lload 7, 2) := by decide +kernel
theorem dX11_stumble_212 : decode cX11_stumble 212 = .ok (.invokevirtual 187, 3) := by decide +kernel
theorem dX11_stumble_215 : decode cX11_stumble 215 = .ok (.iconst 1, 1) := by decide +kernel
theorem dX11_stumble_216 : decode cX11_stumble 216 = .ok (.ireturn, 1) := by decide +kernel
theorem dX11_stumble_22 : decode cX11_stumble 22 = .ok (.lconst 0, 1) := by decide +kernel
theorem dX11_stumble_23 : decode cX11_stumble 23 = .ok (.ldc2_w 185, 3) := by decide +kernel
theorem dX11_stumble_26 : decode cX11_stumble 26 = .ok (.invokestatic 56, 3) := by decide +kernel
theorem dX11_stumble_29 : decode cX11_stumble 29 = .ok (.ifCond .eq 16, 3) := by decide +kernel
theorem dX11_stumble_32 : decode cX11_stumble 32 = .ok (.iload 4, 2) := by decide +kernel
theorem dX11_stumble_34 : decode cX11_stumble 34 = .ok (.i2l, 1) := by decide +kernel
theorem dX11_stumble_35 : decode cX11_stumble 35 = .ok (.lconst 0, 1) := by decide +kernel
theorem dX11_stumble_36 : decode cX11_stumble 36 = .ok (.ldc2_w 64, 3) := by decide +kernel
theorem dX11_stumble_39 : decode cX11_stumble 39 = .ok (.invokestatic 56, 3) := by decide +kernel
theorem dX11_stumble_42 : decode cX11_stumble 42 = .ok (.ifCond .ne 10, 3) := by decide +kernel
theorem dX11_stumble_45 : decode cX11_stumble 45 = .ok (.aload_n 0, 1) := by decide +kernel
theorem dX11_stumble_46 : decode cX11_stumble 46 = .ok (.bipush (-2), 2) := by decide +kernel
theorem dX11_stumble_48 : decode cX11_stumble 48 = .ok (.invokevirtual 68, 3) := by decide +kernel
theorem dX11_stumble_5 : decode cX11_stumble 5 = .ok (.ifCond .eq 40, 3) := by decide +kernel
theorem dX11_stumble_51 : decode cX11_stumble 51 = .ok (.ireturn, 1) := by decide +kernel
theorem dX11_stumble_52 : decode cX11_stumble 52 = .ok (.lconst 0, 1) := by decide +kernel
theorem dX11_stumble_53 : decode cX11_stumble 53 = .ok (.lstore 5, 2) := by decide +kernel
theorem dX11_stumble_55 : decode cX11_stumble 55 = .ok (.lconst 1, 1) := by decide +kernel
theorem dX11_stumble_56 : decode cX11_stumble 56 = .ok (.lstore 7, 2) := by decide +kernel
theorem dX11_stumble_58 : decode cX11_stumble 58 = .ok (.iconst 0, 1) := by decide +kernel
theorem dX11_stumble_59 : decode cX11_stumble 59 = .ok (.istore 9, 2) := by decide +kernel
theorem dX11_stumble_61 : decode cX11_stumble 61 = .ok (.iload 9, 2) := by decide +kernel
theorem dX11_stumble_63 : decode cX11_stumble 63 = .ok (.iload_n 3, 1) := by decide +kernel
theorem dX11_stumble_64 : decode cX11_stumble 64 = .ok (.if_icmp .ge 17, 3) := by decide +kernel
theorem dX11_stumble_67 : decode cX11_stumble 67 = .ok (.lload 7, 2) := by decide +kernel
theorem dX11_stumble_69 : decode cX11_stumble 69 = .ok (.ldc2_w 64, 3) := by decide +kernel
theorem dX11_stumble_72 : decode cX11_stumble 72 = .ok (.lmul, 1) := by decide +kernel
theorem dX11_stumble_73 : decode cX11_stumble 73 = .ok (.lstore 7, 2) := by decide +kernel
theorem dX11_stumble_75 : decode cX11_stumble 75 = .ok (.iinc 9 1, 3) := by decide +kernel
theorem dX11_stumble_78 : decode cX11_stumble 78 = .ok (.goto (-17), 3) := by decide +kernel
theorem dX11_stumble_8 : decode cX11_stumble 8 = .ok (.iload_n 2, 1) := by decide +kernel
theorem dX11_stumble_81 : decode cX11_stumble 81 = .ok (.iconst 0, 1) := by decide +kernel
theorem dX11_stumble_82 : decode cX11_stumble 82 = .ok (.istore 9, 2) := by decide +kernel
theorem dX11_stumble_84 : decode cX11_stumble 84 = .ok (.iload 9, 2) := by decide +kernel
theorem dX11_stumble_86 : decode cX11_stumble 86 = .ok (.iconst 1, 1) := by decide +kernel
theorem dX11_stumble_87 : decode cX11_stumble 87 = .ok (.iload_n 3, 1) := by decide +kernel
theorem dX11_stumble_88 : decode cX11_stumble 88 = .ok (.ishl, 1) := by decide +kernel
theorem dX11_stumble_89 : decode cX11_stumble 89 = .ok (.if_icmp .ge 118, 3) := by decide +kernel
theorem dX11_stumble_9 : decode cX11_stumble 9 = .ok (.i2l, 1) := by decide +kernel
theorem dX11_stumble_92 : decode cX11_stumble 92 = .ok (.lconst 1, 1) := by decide +kernel
theorem dX11_stumble_93 : decode cX11_stumble 93 = .ok (.lstore 10, 2) := by decide +kernel
theorem dX11_stumble_95 : decode cX11_stumble 95 = .ok (.aload_n 0, 1) := by decide +kernel
theorem dX11_stumble_96 : decode cX11_stumble 96 = .ok (.invokevirtual 137, 3) := by decide +kernel
theorem dX11_stumble_99 : decode cX11_stumble 99 = .ok (.iconst 0, 1) := by decide +kernel
theorem dX11_sumOf_0 : decode cX11_sumOf 0 = .ok (.iconst 0, 1) := by decide +kernel
theorem dX11_sumOf_1 : decode cX11_sumOf 1 = .ok (.istore_n 2, 1) := by decide +kernel
theorem dX11_sumOf_12 : decode cX11_sumOf 12 = .ok (.iload_n 2, 1) := by decide +kernel
theorem dX11_sumOf_13 : decode cX11_sumOf 13 = .ok (.aload_n 0, 1) := by decide +kernel
theorem dX11_sumOf_14 : decode cX11_sumOf 14 = .ok (.getfield 7, 3) := by decide +kernel
theorem dX11_sumOf_17 : decode cX11_sumOf 17 = .ok (.iload_n 1, 1) := by decide +kernel
theorem dX11_sumOf_18 : decode cX11_sumOf 18 = .ok (.iload_n 3, 1) := by decide +kernel
theorem dX11_sumOf_19 : decode cX11_sumOf 19 = .ok (.iadd, 1) := by decide +kernel
theorem dX11_sumOf_2 : decode cX11_sumOf 2 = .ok (.iconst 0, 1) := by decide +kernel
theorem dX11_sumOf_20 : decode cX11_sumOf 20 = .ok (.iaload, 1) := by decide +kernel
theorem dX11_sumOf_21 : decode cX11_sumOf 21 = .ok (.iadd, 1) := by decide +kernel
theorem dX11_sumOf_22 : decode cX11_sumOf 22 = .ok (.istore_n 2, 1) := by decide +kernel
theorem dX11_sumOf_23 : decode cX11_sumOf 23 = .ok (.iinc 3 1, 3) := by decide +kernel
theorem dX11_sumOf_26 : decode cX11_sumOf 26 = .ok (.goto (-22), 3) := by decide +kernel
theorem dX11_sumOf_29 : decode cX11_sumOf 29 = .ok (.iload_n 2, 1) := by decide +kernel
theorem dX11_sumOf_3 : decode cX11_sumOf 3 = .ok (.istore_n 3, 1) := by decide +kernel
theorem dX11_sumOf_30 : decode cX11_sumOf 30 = .ok (.ireturn, 1) := by decide +kernel
theorem dX11_sumOf_4 : decode cX11_sumOf 4 = .ok (.iload_n 3, 1) := by decide +kernel
theorem dX11_sumOf_5 : decode cX11_sumOf 5 = .ok (.aload_n 0, 1) := by decide +kernel
theorem dX11_sumOf_6 : decode cX11_sumOf 6 = .ok (.invokevirtual 52, 3) := by decide +kernel
theorem dX11_sumOf_9 : decode cX11_sumOf 9 = .ok (.if_icmp .ge 20, 3) := by decide +kernel
theorem dX11_sums_0 : decode cX11_sums 0 = .ok (.lload_n 1, 1) := by decide +kernel
theorem dX11_sums_1 : decode cX11_sums 1 = .ok (.lstore 5, 2) := by decide +kernel
theorem dX11_sums_10 : decode cX11_sums 10 = .ok (.if_icmp .ge 28, 3) := by decide +kernel
theorem dX11_sums_13 : decode cX11_sums 13 = .ok (.ldc2_w 271, 3) := by decide +kernel
theorem dX11_sums_16 : decode cX11_sums 16 = .ok (.lload 5, 2) := by decide +kernel
theorem dX11_sums_18 : decode cX11_sums 18 = .ok (.lmul, 1) := by decide +kernel
theorem dX11_sums_19 : decode cX11_sums 19 = .ok (.aload_n 0, 1) := by decide +kernel
theorem dX11_sums_20 : decode cX11_sums 20 = .ok (.getfield 7, 3) := by decide +kernel
theorem dX11_sums_23 : decode cX11_sums 23 = .ok (.iload_n 3, 1) := by decide +kernel
theorem dX11_sums_24 : decode cX11_sums 24 = .ok (.iload 7, 2) := by decide +kernel
theorem dX11_sums_26 : decode cX11_sums 26 = .ok (.iadd, 1) := by decide +kernel
theorem dX11_sums_27 : decode cX11_sums 27 = .ok (.iaload, 1) := by decide +kernel
theorem dX11_sums_28 : decode cX11_sums 28 = .ok (.i2l, 1) := by decide +kernel
theorem dX11_sums_29 : decode cX11_sums 29 = .ok (.ladd, 1) := by decide +kernel
theorem dX11_sums_3 : decode cX11_sums 3 = .ok (.iconst 0, 1) := by decide +kernel
theorem dX11_sums_30 : decode cX11_sums 30 = .ok (.lstore 5, 2) := by decide +kernel
theorem dX11_sums_32 : decode cX11_sums 32 = .ok (.iinc 7 1, 3) := by decide +kernel
theorem dX11_sums_35 : decode cX11_sums 35 = .ok (.goto (-29), 3) := by decide +kernel
theorem dX11_sums_38 : decode cX11_sums 38 = .ok (.lload 5, 2) := by decide +kernel
theorem dX11_sums_4 : decode cX11_sums 4 = .ok (.istore 7, 2) := by decide +kernel
theorem dX11_sums_40 : decode cX11_sums 40 = .ok (.lreturn, 1) := by decide +kernel
theorem dX11_sums_6 : decode cX11_sums 6 = .ok (.iload 7, 2) := by decide +kernel
theorem dX11_sums_8 : decode cX11_sums 8 = .ok (.iload 4, 2) := by decide +kernel
theorem dX11_type_0 : decode cX11_type 0 = .ok (.iload_n 1, 1) := by decide +kernel
theorem dX11_type_1 : decode cX11_type 1 = .ok (.i2l, 1) := by decide +kernel
theorem dX11_type_12 : decode cX11_type 12 = .ok (.aload_n 0, 1) := by decide +kernel
theorem dX11_type_13 : decode cX11_type 13 = .ok (.bipush (-2), 2) := by decide +kernel
theorem dX11_type_15 : decode cX11_type 15 = .ok (.invokevirtual 68, 3) := by decide +kernel
theorem dX11_type_18 : decode cX11_type 18 = .ok (.ireturn, 1) := by decide +kernel
theorem dX11_type_19 : decode cX11_type 19 = .ok (.aload_n 0, 1) := by decide +kernel
theorem dX11_type_2 : decode cX11_type 2 = .ok (.lconst 0, 1) := by decide +kernel
theorem dX11_type_20 : decode cX11_type 20 = .ok (.getfield 205, 3) := by decide +kernel
theorem dX11_type_23 : decode cX11_type 23 = .ok (.sipush 150, 3) := by decide +kernel
theorem dX11_type_26 : decode cX11_type 26 = .ok (.if_icmp .ne 8, 3) := by decide +kernel
theorem dX11_type_29 : decode cX11_type 29 = .ok (.aload_n 0, 1) := by decide +kernel
theorem dX11_type_3 : decode cX11_type 3 = .ok (.ldc2_w 203, 3) := by decide +kernel
theorem dX11_type_30 : decode cX11_type 30 = .ok (.invokevirtual 79, 3) := by decide +kernel
theorem dX11_type_33 : decode cX11_type 33 = .ok (.ireturn, 1) := by decide +kernel
theorem dX11_type_34 : decode cX11_type 34 = .ok (.aload_n 0, 1) := by decide +kernel
theorem dX11_type_35 : decode cX11_type 35 = .ok (.getfield 39, 3) := by decide +kernel
theorem dX11_type_38 : decode cX11_type 38 = .ok (.aload_n 0, 1) := by decide +kernel
theorem dX11_type_39 : decode cX11_type 39 = .ok (.getfield 205, 3) := by decide +kernel
theorem dX11_type_42 : decode cX11_type 42 = .ok (.iload_n 1, 1) := by decide +kernel
theorem dX11_type_43 : decode cX11_type 43 = .ok (.iastore, 1) := by decide +kernel
theorem dX11_type_44 : decode cX11_type 44 = .ok (.aload_n 0, 1) := by decide +kernel
theorem dX11_type_45 : decode cX11_type 45 = .ok (.dup, 1) := by decide +kernel
theorem dX11_type_46 : decode cX11_type 46 = .ok (.getfield 205, 3) := by decide +kernel
theorem dX11_type_49 : decode cX11_type 49 = .ok (.iconst 1, 1) := by decide +kernel
theorem dX11_type_50 : decode cX11_type 50 = .ok (.iadd, 1) := by decide +kernel
theorem dX11_type_51 : decode cX11_type 51 = .ok (.putfield 205, 3) := by decide +kernel
theorem dX11_type_54 : decode cX11_type 54 = .ok (.aload_n 0, 1) := by decide +kernel
theorem dX11_type_55 : decode cX11_type 55 = .ok (.getfield 205, 3) := by decide +kernel
theorem dX11_type_58 : decode cX11_type 58 = .ok (.ireturn, 1) := by decide +kernel
theorem dX11_type_6 : decode cX11_type 6 = .ok (.invokestatic 56, 3) := by decide +kernel
theorem dX11_type_9 : decode cX11_type 9 = .ok (.ifCond .ne 10, 3) := by decide +kernel
theorem lk_X11_kindsOfEgg_7 : Cond.fieldLink RX11 7 "EggSpoonsModel" "all" "[I" ∈ wsX11_kindsOfEgg := by decide +kernel
theorem mm_X11_tell_c150 : Cond.constant RX11 150 (1000000) ∈ wsX11_tell := by decide +kernel
theorem in_X11_tell_X11 : ∀ w ∈ wsX110, w ∈ wsX11_tell := by decide +kernel
theorem lk_X11_tell_33 : Cond.fieldLink RX11 33 "EggSpoonsModel" "tells" "[I" ∈ wsX11_tell := by decide +kernel
theorem lk_X11_tell_7 : Cond.fieldLink RX11 7 "EggSpoonsModel" "all" "[I" ∈ wsX11_tell := by decide +kernel
theorem hdV_X11_mostAlike : yX11_mostAlike.cls = RX11 ∧ yX11_mostAlike.cls ≠ "java/lang/invoke/MethodHandle" ∧ yX11_mostAlike.cls ≠ "java/lang/invoke/VarHandle" ∧ (parseMethodDescriptor yX11_mostAlike.desc).map (fun d => d.parameters.length) = some 1 := by decide +kernel
theorem hdV_X11_kindsOfOne : yX11_kindsOfOne.cls = RX11 ∧ yX11_kindsOfOne.cls ≠ "java/lang/invoke/MethodHandle" ∧ yX11_kindsOfOne.cls ≠ "java/lang/invoke/VarHandle" ∧ (parseMethodDescriptor yX11_kindsOfOne.desc).map (fun d => d.parameters.length) = some 1 := by decide +kernel
theorem mm_X11_look_c150 : Cond.constant RX11 150 (1000000) ∈ wsX11_look := by decide +kernel
theorem in_X11_look_X11 : ∀ w ∈ wsX110, w ∈ wsX11_look := by decide +kernel
theorem lk_X11_look_33 : Cond.fieldLink RX11 33 "EggSpoonsModel" "tells" "[I" ∈ wsX11_look := by decide +kernel
theorem lk_X11_look_7 : Cond.fieldLink RX11 7 "EggSpoonsModel" "all" "[I" ∈ wsX11_look := by decide +kernel
theorem hdV_X11_kindsOfEgg : yX11_kindsOfEgg.cls = RX11 ∧ yX11_kindsOfEgg.cls ≠ "java/lang/invoke/MethodHandle" ∧ yX11_kindsOfEgg.cls ≠ "java/lang/invoke/VarHandle" ∧ (parseMethodDescriptor yX11_kindsOfEgg.desc).map (fun d => d.parameters.length) = some 1 := by decide +kernel
theorem mm_X11_ask_c150 : Cond.constant RX11 150 (1000000) ∈ wsX11_ask := by decide +kernel
theorem in_X11_ask_X11 : ∀ w ∈ wsX110, w ∈ wsX11_ask := by decide +kernel
theorem lk_X11_ask_33 : Cond.fieldLink RX11 33 "EggSpoonsModel" "tells" "[I" ∈ wsX11_ask := by decide +kernel
theorem mm_X11_forget_c156 : Cond.constantLong RX11 156 (2) ∈ wsX11_forget := by decide +kernel
theorem in_X11_forget_X11 : ∀ w ∈ wsX110, w ∈ wsX11_forget := by decide +kernel
theorem lk_X11_forget_7 : Cond.fieldLink RX11 7 "EggSpoonsModel" "all" "[I" ∈ wsX11_forget := by decide +kernel
set_option maxHeartbeats 4000000 in
set_option maxRecDepth 100000 in
/-- getsBy -/
theorem m_getsBy (l : Launch) (X : EX) (m0 : Nat) (ma : Nat → Nat) (la : Int64) (lb : Int64) (n : Nat) (t : Nat → Nat) (v : Nat → Int32) (x1 : Int32) (x2 : Int32) (x3 : Int32) (hI_n : n ≤ 150) (hI_t : InT t) (sz : Nat) : Met l yX11_getsBy wsX11_getsBy ({ frames := 0, cells := 0, slots := 0, locals := 0 } : Room) (pE X [.ref m0, .int x1, .int x2, .int x3] (mW m0 ma la lb n t v) sz) (qI (fun (r : Int32) (u : Unit) => True) X (fun (u : Unit) => []) [] sz) 0 0 (va_A [] sz) := by
  refine mk_met (B := (fun _ => True)) (A := (va_A [] sz)) (cc := cX11_getsBy) (maxL := 4) (ret := (some .int)) (by decide) rfl (Nat.le_of_ble_eq_true rfl) k_ro k_a (fun p e s m below meth c S zr zlk znm zsz G ls hl => ?_)
  have S : CallFix p m c cX11_getsBy 4 s _ wsX11_getsBy RX11 := S
  have zx := S.1
  have zb := S.2.1
  have hl : lv_has ls 4 [(0, .ref m0), (1, .int x1), (2, .int x2), (3, .int x3)] := hl
  have hO_t := hI_t
  obtain ⟨ht0_t, ht1_t⟩ := hO_t
  refine lv_iload_n zx zb dX11_getsBy_0 rfl (lv_at hl 2 rfl) ?_
  refine lv_iload_n zx zb dX11_getsBy_1 rfl (lv_at hl 1 rfl) ?_
  refine r_isub (v := (x2 - x1)) S rfl dX11_getsBy_2 ?_
  refine lv_iload_n zx zb dX11_getsBy_3 rfl (lv_at hl 2 rfl) ?_
  refine lv_iload_n zx zb dX11_getsBy_4 rfl (lv_at hl 3 rfl) ?_
  refine k_cutW (PP := fun Wx => ∀ (x_2 : Int32) (H : Heap) (locs : List Loc) (ls : Array Slot), wd X (fun _ => True) (va_A [] sz) s (mW m0 ma la lb n t v) H locs → lv_has ls 4 [(0, .ref m0), (1, .int x1), (2, .int x2), (3, .int x3)] → Wx (F0 m 13 ls [.int x_2, .int (x2 - x1)]) H locs) ?_ ?_
  · intro join_5
    refine lv_icmp_le (tgt := 12) zx zb dX11_getsBy_5 (by decide) (fun c_1 => ?_) (fun c_1 => ?_)
    · refine lv_iconst (v := 0) zx zb dX11_getsBy_12 (by decide) ?_
      exact join_5 0 _ _ _  G hl
    · refine lv_iconst (v := 3) zx zb dX11_getsBy_8 (by decide) ?_
      refine lv_goto (tgt := 13) zx zb dX11_getsBy_9 (by decide) ?_
      exact join_5 3 _ _ _  G hl
  · intro x_2 H locs ls  G hl
    refine r_iadd (v := ((x2 - x1) + x_2)) S rfl dX11_getsBy_13 ?_
    exact e_int S zr zlk (vp_nar_int _) G () [] rfl rfl (Or.inl rfl) (trivial) dX11_getsBy_14
theorem in_X11_rests_X11 : ∀ w ∈ wsX110, w ∈ wsX11_rests := by decide +kernel
theorem lk_X11_rests_36 : Cond.fieldLink RX11 36 "EggSpoonsModel" "behindBy" "[I" ∈ wsX11_rests := by decide +kernel
theorem lk_X11_rests_7 : Cond.fieldLink RX11 7 "EggSpoonsModel" "all" "[I" ∈ wsX11_rests := by decide +kernel
theorem hdV_X11_getsBy : yX11_getsBy.cls = RX11 ∧ yX11_getsBy.cls ≠ "java/lang/invoke/MethodHandle" ∧ yX11_getsBy.cls ≠ "java/lang/invoke/VarHandle" ∧ (parseMethodDescriptor yX11_getsBy.desc).map (fun d => d.parameters.length) = some 3 := by decide +kernel
set_option maxHeartbeats 4000000 in
set_option maxRecDepth 100000 in
/-- rests -/
theorem m_rests (l : Launch) (X : EX) (m0 : Nat) (ma : Nat → Nat) (la : Int64) (lb : Int64) (n : Nat) (t : Nat → Nat) (v : Nat → Int32) (fa : Nat → Int32) (c0 : Nat) (c1 : Nat) (c2 : Nat) (c3 : Nat) (c4 : Nat) (fb : Nat → Int32) (i : Nat) (j : Nat) (u : Nat) (w : Nat) (hI_n : n ≤ 150) (hI_t : InT t) (hI_fa : InA fa c0 c1 c2 c3 c4) (h6 : i < 6) (hj : j < 6) (hu : u < 10) (hw : w < 10) (sz : Nat) : Met l yX11_rests wsX11_rests ({ frames := 1, cells := 0, slots := 0, locals := 23 } : Room) (pE X [.ref m0, .int (nI i), .int (nI j), .int (nI u), .int (nI w)] (@HAppend.hAppend va_W va_W va_W _ (mW m0 ma la lb n t v) (@HAppend.hAppend va_W va_W va_W _ ([((ma 0), .inl (X.2.1, 371, .inl fa))]) ([((ma 9), .inl (X.2.1, 20, .inl fb))]))) sz) (qI (fun (r : Int32) (u : Unit) => r = 0 ∨ r = 1) X (fun (u : Unit) => []) [] sz) 0 0 (va_A [] sz) := by
  refine mk_met (B := (fun _ => True)) (A := (va_A [] sz)) (cc := cX11_rests) (maxL := 9) (ret := (some .boolean)) (by decide) rfl (Nat.le_of_ble_eq_true rfl) k_ro k_a (fun p e s m below meth c S zr zlk znm zsz G ls hl => ?_)
  have S : CallFix p m c cX11_rests 9 s _ wsX11_rests RX11 := S
  have zx := S.1
  have zb := S.2.1
  have hl : lv_has ls 9 [(0, .ref m0), (1, .int (nI i)), (2, .int (nI j)), (3, .int (nI u)), (4, .int (nI w))] := hl
  have hO_t := hI_t
  obtain ⟨ht0_t, ht1_t⟩ := hO_t
  have hO_fa := hI_fa.2
  obtain ⟨hm0_fa, hm1_fa, hm2_fa, hm3_fa, hm4_fa⟩ := hO_fa
  refine lv_iconst (v := 1) zx zb dX11_rests_0 (by decide) ?_
  refine lv_istore (lv' := [(5, .int 1), (0, .ref m0), (1, .int (nI i)), (2, .int (nI j)), (3, .int (nI u)), (4, .int (nI w))]) zx zb dX11_rests_1 hl (by decide) rfl (fun ls hl => ?_)
  refine lv_aload_n zx zb dX11_rests_3 rfl (lv_at hl 1 rfl) ?_
  refine r_get (C := RX11) (T := TX11) (N := 18) (ci := 9) (v := .ref (ma 9)) S in_X11_rests_X11 G 0 rfl rfl 9 (by decide) lk_X11_rests_36 rfl dX11_rests_4 ?_
  refine lv_iload_n zx zb dX11_rests_7 rfl (lv_at hl 4 rfl) ?_
  refine r_iald S G 2 rfl (vp_in_nI (by omega) (by decide)) rfl dX11_rests_8 ?_
  refine k_itE (fun y_1 => ?_)
  refine lv_istore (lv' := [(6, .int y_1), (5, .int 1), (0, .ref m0), (1, .int (nI i)), (2, .int (nI j)), (3, .int (nI u)), (4, .int (nI w))]) zx zb dX11_rests_9 hl (by decide) rfl (fun ls hl => ?_)
  refine lv_aload_n zx zb dX11_rests_11 rfl (lv_at hl 2 rfl) ?_
  refine r_get (C := RX11) (T := TX11) (N := 18) (ci := 9) (v := .ref (ma 9)) S in_X11_rests_X11 G 0 rfl rfl 9 (by decide) lk_X11_rests_36 rfl dX11_rests_12 ?_
  refine lv_bipush (v := 10) zx zb dX11_rests_15 (by decide) ?_
  refine lv_iload zx zb dX11_rests_17 (lv_at hl 6 rfl) ?_
  refine r_iadd (v := (nI (10 + w))) S (nI_add 10 w) dX11_rests_19 ?_
  refine r_iald S G 2 rfl (vp_in_nI (by omega) (by decide)) rfl dX11_rests_20 ?_
  refine k_itE (fun y_2 => ?_)
  refine lv_istore (lv' := [(7, .int y_2), (6, .int y_1), (5, .int 1), (0, .ref m0), (1, .int (nI i)), (2, .int (nI j)), (3, .int (nI u)), (4, .int (nI w))]) zx zb dX11_rests_21 hl (by decide) rfl (fun ls hl => ?_)
  refine lv_iconst (v := 0) zx zb dX11_rests_23 (by decide) ?_
  refine lv_istore (lv' := [(8, .int 0), (7, .int y_2), (6, .int y_1), (5, .int 1), (0, .ref m0), (1, .int (nI i)), (2, .int (nI j)), (3, .int (nI u)), (4, .int (nI w))]) zx zb dX11_rests_24 hl (by decide) rfl (fun ls hl => ?_)
  refine k_loop (P := ∀ (zm : Nat) (k26 : Nat) (x26_5 : Int32) (H : Heap) (locs : List Loc) (ls : Array Slot), 10 + 1 ≤ k26 + zm → (k26 ≤ 10) → (x26_5 = 0 ∨ x26_5 = 1) → wd X (fun _ => True) (va_A [] sz) s (@HAppend.hAppend va_W va_W va_W _ (mW m0 ma la lb n t v) (@HAppend.hAppend va_W va_W va_W _ ([((ma 0), .inl (X.2.1, 371, .inl fa))]) ([((ma 9), .inl (X.2.1, 20, .inl fb))]))) H locs → lv_has ls 9 [(8, .int (nI k26)), (7, .int y_2), (6, .int y_1), (5, .int x26_5), (0, .ref m0), (1, .int (nI i)), (2, .int (nI j)), (3, .int (nI u)), (4, .int (nI w))] → W p l e _ s m _ below meth c H locs _ _ _ (F0 m 26 ls [])) (fun loop => loop (10 + 1) 0 1 _ _ _ (by omega) (by omega) (by first | assumption | exact Or.inl rfl | exact Or.inr rfl) G hl) ?_
  intro zm
  induction zm with
  | zero => intro k26 x26_5 H locs ls zz q_hk_k26 q_hk_x26_5 _ _; exact absurd zz (by omega)
  | succ zm ih26 =>
    intro k26 x26_5 H locs ls zm_26 hk_k26 hk_x26_5 G hl
    refine lv_iload zx zb dX11_rests_26 (lv_at hl 0 rfl) ?_
    refine lv_bipush (v := 10) zx zb dX11_rests_28 (by decide) ?_
    refine lv_icmp_ge (tgt := 134) zx zb dX11_rests_30 (by decide) (fun c_3 => ?_) (fun c_3 => ?_)
    · have fc_3 := j_le (a := 10) (b := k26) (by omega) (by omega) c_3
      refine lv_iload zx zb dX11_rests_134 (lv_at hl 3 rfl) ?_
      exact e_int S zr zlk (k_nb (by assumption)) G () [] rfl rfl (Or.inl rfl) (by assumption) dX11_rests_136
    · have fc_3 := j_nle (a := 10) (b := k26) (by omega) (by omega) c_3
      refine lv_iload zx zb dX11_rests_33 (lv_at hl 3 rfl) ?_
      refine k_cutW (PP := fun Wx => ∀ (x_5 : Int32) (H : Heap) (locs : List Loc) (ls : Array Slot), (x_5 = 0 ∨ x_5 = 1) → wd X (fun _ => True) (va_A [] sz) s (@HAppend.hAppend va_W va_W va_W _ (mW m0 ma la lb n t v) (@HAppend.hAppend va_W va_W va_W _ ([((ma 0), .inl (X.2.1, 371, .inl fa))]) ([((ma 9), .inl (X.2.1, 20, .inl fb))]))) H locs → lv_has ls 9 [(8, .int (nI k26)), (7, .int y_2), (6, .int y_1), (5, .int x26_5), (0, .ref m0), (1, .int (nI i)), (2, .int (nI j)), (3, .int (nI u)), (4, .int (nI w))] → Wx (F0 m 126 ls [.int x_5]) H locs) ?_ ?_
      · intro join_35
        refine lv_if_eq (tgt := 125) zx zb dX11_rests_35 (by decide) (fun c_4 => ?_) (fun c_4 => ?_)
        · refine lv_iconst (v := 0) zx zb dX11_rests_125 (by decide) ?_
          exact join_35 0 _ _ _ (by first | assumption | exact Or.inl rfl | exact Or.inr rfl) G hl
        · refine lv_aload_n zx zb dX11_rests_38 rfl (lv_at hl 4 rfl) ?_
          refine lv_aload_n zx zb dX11_rests_39 rfl (lv_at hl 4 rfl) ?_
          refine r_get (C := RX11) (T := TX11) (N := 18) (ci := 9) (v := .ref (ma 0)) S in_X11_rests_X11 G 0 rfl rfl 0 (by decide) lk_X11_rests_7 rfl dX11_rests_40 ?_
          refine lv_iconst (v := 5) zx zb dX11_rests_43 (by decide) ?_
          refine lv_iload_n zx zb dX11_rests_44 rfl (lv_at hl 5 rfl) ?_
          refine r_iadd (v := (nI (5 + i))) S (nI_add 5 i) dX11_rests_45 ?_
          refine r_iald S G 1 rfl (vp_in_nI (by omega) (by decide)) rfl dX11_rests_46 ?_
          refine k_itE (fun y_6 => ?_)
          refine lv_aload_n zx zb dX11_rests_47 rfl (lv_at hl 4 rfl) ?_
          refine r_get (C := RX11) (T := TX11) (N := 18) (ci := 9) (v := .ref (ma 9)) S in_X11_rests_X11 G 0 rfl rfl 9 (by decide) lk_X11_rests_36 rfl dX11_rests_48 ?_
          refine lv_iload zx zb dX11_rests_51 (lv_at hl 0 rfl) ?_
          refine r_iald S G 2 rfl (vp_in_nI (by omega) (by decide)) rfl dX11_rests_53 ?_
          refine k_itE (fun y_7 => ?_)
          refine lv_iload zx zb dX11_rests_54 (lv_at hl 1 rfl) ?_
          refine o_ri (cells' := 0) (slots' := 0) G rfl rfl (n_V (As := [.int y_6, .int y_7, .int y_2]) (rest := []) (C := RX11) (T := TX11) (N := 18) (ci := 9) S G (m_getsBy l X m0 ma la lb n t v y_6 y_7 y_2 hI_n hI_t H.size) gX11_rests_X11_getsBy rfl rfl rfl hdV_X11_getsBy ⟨Nat.le_of_ble_eq_true rfl, Nat.le_of_ble_eq_true rfl⟩ [0] rfl rfl 0 rfl rfl rfl hl.1 (Nat.le_of_ble_eq_true rfl) dX11_rests_56 ⟨Nat.le_of_ble_eq_true rfl, Nat.le_of_ble_eq_true rfl⟩) (fun r_8 u_8 H locs hp_8 G => ?_)
          have G : wd X (fun _ => True) (va_A [] sz) s (@HAppend.hAppend va_W va_W va_W _ (mW m0 ma la lb n t v) (@HAppend.hAppend va_W va_W va_W _ ([((ma 0), .inl (X.2.1, 371, .inl fa))]) ([((ma 9), .inl (X.2.1, 20, .inl fb))]))) H locs := G
          refine lv_aload_n zx zb dX11_rests_59 rfl (lv_at hl 4 rfl) ?_
          refine lv_aload_n zx zb dX11_rests_60 rfl (lv_at hl 4 rfl) ?_
          refine r_get (C := RX11) (T := TX11) (N := 18) (ci := 9) (v := .ref (ma 0)) S in_X11_rests_X11 G 0 rfl rfl 0 (by decide) lk_X11_rests_7 rfl dX11_rests_61 ?_
          refine lv_iconst (v := 5) zx zb dX11_rests_64 (by decide) ?_
          refine lv_iload_n zx zb dX11_rests_65 rfl (lv_at hl 5 rfl) ?_
          refine r_iadd (v := (nI (5 + i))) S (nI_add 5 i) dX11_rests_66 ?_
          refine r_iald S G 1 rfl (vp_in_nI (by omega) (by decide)) rfl dX11_rests_67 ?_
          refine k_itE (fun y_9 => ?_)
          refine lv_iload zx zb dX11_rests_68 (lv_at hl 2 rfl) ?_
          refine lv_iload zx zb dX11_rests_70 (lv_at hl 1 rfl) ?_
          refine o_ri (cells' := 0) (slots' := 0) G rfl rfl (n_V (As := [.int y_9, .int y_1, .int y_2]) (rest := [.int r_8]) (C := RX11) (T := TX11) (N := 18) (ci := 9) S G (m_getsBy l X m0 ma la lb n t v y_9 y_1 y_2 hI_n hI_t H.size) gX11_rests_X11_getsBy rfl rfl rfl hdV_X11_getsBy ⟨Nat.le_of_ble_eq_true rfl, Nat.le_of_ble_eq_true rfl⟩ [0] rfl rfl 0 rfl rfl rfl hl.1 (Nat.le_of_ble_eq_true rfl) dX11_rests_72 ⟨Nat.le_of_ble_eq_true rfl, Nat.le_of_ble_eq_true rfl⟩) (fun r_10 u_10 H locs hp_10 G => ?_)
          have G : wd X (fun _ => True) (va_A [] sz) s (@HAppend.hAppend va_W va_W va_W _ (mW m0 ma la lb n t v) (@HAppend.hAppend va_W va_W va_W _ ([((ma 0), .inl (X.2.1, 371, .inl fa))]) ([((ma 9), .inl (X.2.1, 20, .inl fb))]))) H locs := G
          refine lv_icmp_gt (tgt := 125) zx zb dX11_rests_75 (by decide) (fun c_11 => ?_) (fun c_11 => ?_)
          · refine lv_iconst (v := 0) zx zb dX11_rests_125 (by decide) ?_
            exact join_35 0 _ _ _ (by first | assumption | exact Or.inl rfl | exact Or.inr rfl) G hl
          · refine lv_aload_n zx zb dX11_rests_78 rfl (lv_at hl 4 rfl) ?_
            refine lv_aload_n zx zb dX11_rests_79 rfl (lv_at hl 4 rfl) ?_
            refine r_get (C := RX11) (T := TX11) (N := 18) (ci := 9) (v := .ref (ma 0)) S in_X11_rests_X11 G 0 rfl rfl 0 (by decide) lk_X11_rests_7 rfl dX11_rests_80 ?_
            refine lv_iconst (v := 5) zx zb dX11_rests_83 (by decide) ?_
            refine lv_iload_n zx zb dX11_rests_84 rfl (lv_at hl 6 rfl) ?_
            refine r_iadd (v := (nI (5 + j))) S (nI_add 5 j) dX11_rests_85 ?_
            refine r_iald S G 1 rfl (vp_in_nI (by omega) (by decide)) rfl dX11_rests_86 ?_
            refine k_itE (fun y_12 => ?_)
            refine lv_aload_n zx zb dX11_rests_87 rfl (lv_at hl 4 rfl) ?_
            refine r_get (C := RX11) (T := TX11) (N := 18) (ci := 9) (v := .ref (ma 9)) S in_X11_rests_X11 G 0 rfl rfl 9 (by decide) lk_X11_rests_36 rfl dX11_rests_88 ?_
            refine lv_bipush (v := 10) zx zb dX11_rests_91 (by decide) ?_
            refine lv_iload zx zb dX11_rests_93 (lv_at hl 0 rfl) ?_
            refine r_iadd (v := (nI (10 + k26))) S (nI_add 10 k26) dX11_rests_95 ?_
            refine r_iald S G 2 rfl (vp_in_nI (by omega) (by decide)) rfl dX11_rests_96 ?_
            refine k_itE (fun y_13 => ?_)
            refine lv_iload zx zb dX11_rests_97 (lv_at hl 2 rfl) ?_
            refine o_ri (cells' := 0) (slots' := 0) G rfl rfl (n_V (As := [.int y_12, .int y_13, .int y_1]) (rest := []) (C := RX11) (T := TX11) (N := 18) (ci := 9) S G (m_getsBy l X m0 ma la lb n t v y_12 y_13 y_1 hI_n hI_t H.size) gX11_rests_X11_getsBy rfl rfl rfl hdV_X11_getsBy ⟨Nat.le_of_ble_eq_true rfl, Nat.le_of_ble_eq_true rfl⟩ [0] rfl rfl 0 rfl rfl rfl hl.1 (Nat.le_of_ble_eq_true rfl) dX11_rests_99 ⟨Nat.le_of_ble_eq_true rfl, Nat.le_of_ble_eq_true rfl⟩) (fun r_14 u_14 H locs hp_14 G => ?_)
            have G : wd X (fun _ => True) (va_A [] sz) s (@HAppend.hAppend va_W va_W va_W _ (mW m0 ma la lb n t v) (@HAppend.hAppend va_W va_W va_W _ ([((ma 0), .inl (X.2.1, 371, .inl fa))]) ([((ma 9), .inl (X.2.1, 20, .inl fb))]))) H locs := G
            refine lv_aload_n zx zb dX11_rests_102 rfl (lv_at hl 4 rfl) ?_
            refine lv_aload_n zx zb dX11_rests_103 rfl (lv_at hl 4 rfl) ?_
            refine r_get (C := RX11) (T := TX11) (N := 18) (ci := 9) (v := .ref (ma 0)) S in_X11_rests_X11 G 0 rfl rfl 0 (by decide) lk_X11_rests_7 rfl dX11_rests_104 ?_
            refine lv_iconst (v := 5) zx zb dX11_rests_107 (by decide) ?_
            refine lv_iload_n zx zb dX11_rests_108 rfl (lv_at hl 6 rfl) ?_
            refine r_iadd (v := (nI (5 + j))) S (nI_add 5 j) dX11_rests_109 ?_
            refine r_iald S G 1 rfl (vp_in_nI (by omega) (by decide)) rfl dX11_rests_110 ?_
            refine k_itE (fun y_15 => ?_)
            refine lv_iload zx zb dX11_rests_111 (lv_at hl 1 rfl) ?_
            refine lv_iload zx zb dX11_rests_113 (lv_at hl 2 rfl) ?_
            refine o_ri (cells' := 0) (slots' := 0) G rfl rfl (n_V (As := [.int y_15, .int y_2, .int y_1]) (rest := [.int r_14]) (C := RX11) (T := TX11) (N := 18) (ci := 9) S G (m_getsBy l X m0 ma la lb n t v y_15 y_2 y_1 hI_n hI_t H.size) gX11_rests_X11_getsBy rfl rfl rfl hdV_X11_getsBy ⟨Nat.le_of_ble_eq_true rfl, Nat.le_of_ble_eq_true rfl⟩ [0] rfl rfl 0 rfl rfl rfl hl.1 (Nat.le_of_ble_eq_true rfl) dX11_rests_115 ⟨Nat.le_of_ble_eq_true rfl, Nat.le_of_ble_eq_true rfl⟩) (fun r_16 u_16 H locs hp_16 G => ?_)
            have G : wd X (fun _ => True) (va_A [] sz) s (@HAppend.hAppend va_W va_W va_W _ (mW m0 ma la lb n t v) (@HAppend.hAppend va_W va_W va_W _ ([((ma 0), .inl (X.2.1, 371, .inl fa))]) ([((ma 9), .inl (X.2.1, 20, .inl fb))]))) H locs := G
            refine lv_icmp_gt (tgt := 125) zx zb dX11_rests_118 (by decide) (fun c_17 => ?_) (fun c_17 => ?_)
            · refine lv_iconst (v := 0) zx zb dX11_rests_125 (by decide) ?_
              exact join_35 0 _ _ _ (by first | assumption | exact Or.inl rfl | exact Or.inr rfl) G hl
            · refine lv_iconst (v := 1) zx zb dX11_rests_121 (by decide) ?_
              refine lv_goto (tgt := 126) zx zb dX11_rests_122 (by decide) ?_
              exact join_35 1 _ _ _ (by first | assumption | exact Or.inl rfl | exact Or.inr rfl) G hl
      · intro x_5 H locs ls hk_x_5 G hl
        refine lv_istore (lv' := [(5, .int x_5), (8, .int (nI k26)), (7, .int y_2), (6, .int y_1), (0, .ref m0), (1, .int (nI i)), (2, .int (nI j)), (3, .int (nI u)), (4, .int (nI w))]) zx zb dX11_rests_126 hl (by decide) rfl (fun ls hl => ?_)
        refine lv_iinc (v := (nI (k26 + 1))) (lv' := [(8, .int (nI (k26 + 1))), (5, .int x_5), (7, .int y_2), (6, .int y_1), (0, .ref m0), (1, .int (nI i)), (2, .int (nI j)), (3, .int (nI u)), (4, .int (nI w))]) zx zb dX11_rests_128 hl (k := 1) rfl (nI_add k26 1) (by decide) rfl (fun ls hl => ?_)
        refine lv_goto (tgt := 26) zx zb dX11_rests_131 (by decide) ?_
        have hl := lv_sub hl (l' := [(8, .int (nI (k26 + 1))), (7, .int y_2), (6, .int y_1), (5, .int x_5), (0, .ref m0), (1, .int (nI i)), (2, .int (nI j)), (3, .int (nI u)), (4, .int (nI w))]) [0, 2, 3, 1, 4, 5, 6, 7, 8] rfl
        exact ih26 (k26 + 1) x_5 _ _ _ (by omega) (by omega) (by first | assumption | exact Or.inl rfl | exact Or.inr rfl) G hl
theorem in_X11_pair_X11 : ∀ w ∈ wsX110, w ∈ wsX11_pair := by decide +kernel
theorem lk_X11_pair_27 : Cond.fieldLink RX11 27 "EggSpoonsModel" "hand" "[I" ∈ wsX11_pair := by decide +kernel
theorem lk_X11_pair_36 : Cond.fieldLink RX11 36 "EggSpoonsModel" "behindBy" "[I" ∈ wsX11_pair := by decide +kernel
theorem hdV_X11_rests : yX11_rests.cls = RX11 ∧ yX11_rests.cls ≠ "java/lang/invoke/MethodHandle" ∧ yX11_rests.cls ≠ "java/lang/invoke/VarHandle" ∧ (parseMethodDescriptor yX11_rests.desc).map (fun d => d.parameters.length) = some 4 := by decide +kernel
set_option maxHeartbeats 4000000 in
set_option maxRecDepth 100000 in
/-- pair -/
theorem m_pair (l : Launch) (X : EX) (m0 : Nat) (ma : Nat → Nat) (la : Int64) (lb : Int64) (n : Nat) (t : Nat → Nat) (v : Nat → Int32) (fa : Nat → Int32) (c0 : Nat) (c1 : Nat) (c2 : Nat) (c3 : Nat) (c4 : Nat) (fh : Nat → Int32) (d0 : Nat) (d1 : Nat) (d2 : Nat) (d3 : Nat) (d4 : Nat) (fb : Nat → Int32) (fr : Nat → Int32) (x1 : Int32) (x2 : Int32) (x3 : Int32) (hI_n : n ≤ 150) (hI_t : InT t) (hI_fa : InA fa c0 c1 c2 c3 c4) (hI_fh : InA fh d0 d1 d2 d3 d4) (sz : Nat) : Met l yX11_pair wsX11_pair ({ frames := 5, cells := 0, slots := 0, locals := 115 } : Room) (pE X [.ref m0, .int x1, .int x2, .int x3] (@HAppend.hAppend va_W va_W va_W _ (mW m0 ma la lb n t v) (@HAppend.hAppend va_W va_W va_W _ ([((ma 0), .inl (X.2.1, 371, .inl fa))]) (@HAppend.hAppend va_W va_W va_W _ ([((ma 6), .inl (X.2.1, 55, .inl fh))]) (@HAppend.hAppend va_W va_W va_W _ ([((ma 9), .inl (X.2.1, 20, .inl fb))]) ([((ma 3), .inl (X.2.1, 3, .inl fr))]))))) sz) (qI (fun (r : Int32) (u : (Nat → Int32) × (Nat) × (Nat) × (Nat) × (Nat) × (Nat) × (Nat → Int32) × (Nat → Int32)) => InA u.1 u.2.1 u.2.2.1 u.2.2.2.1 u.2.2.2.2.1 u.2.2.2.2.2.1 ∧ (True)) X (fun (u : (Nat → Int32) × (Nat) × (Nat) × (Nat) × (Nat) × (Nat) × (Nat → Int32) × (Nat → Int32)) => @HAppend.hAppend va_W va_W va_W _ (mW m0 ma la lb n t v) (@HAppend.hAppend va_W va_W va_W _ ([((ma 0), .inl (X.2.1, 371, .inl fa))]) (@HAppend.hAppend va_W va_W va_W _ ([((ma 6), .inl (X.2.1, 55, .inl u.1))]) (@HAppend.hAppend va_W va_W va_W _ ([((ma 9), .inl (X.2.1, 20, .inl u.2.2.2.2.2.2.1))]) ([((ma 3), .inl (X.2.1, 3, .inl u.2.2.2.2.2.2.2))]))))) (@HAppend.hAppend va_W va_W va_W _ (mW m0 ma la lb n t v) (@HAppend.hAppend va_W va_W va_W _ ([((ma 0), .inl (X.2.1, 371, .inl fa))]) (@HAppend.hAppend va_W va_W va_W _ ([((ma 6), .inl (X.2.1, 55, .inl fh))]) (@HAppend.hAppend va_W va_W va_W _ ([((ma 9), .inl (X.2.1, 20, .inl fb))]) ([((ma 3), .inl (X.2.1, 3, .inl fr))]))))) sz) 0 0 (va_A (@HAppend.hAppend va_W va_W va_W _ (mW m0 ma la lb n t v) (@HAppend.hAppend va_W va_W va_W _ ([((ma 0), .inl (X.2.1, 371, .inl fa))]) (@HAppend.hAppend va_W va_W va_W _ ([((ma 6), .inl (X.2.1, 55, .inl fh))]) (@HAppend.hAppend va_W va_W va_W _ ([((ma 9), .inl (X.2.1, 20, .inl fb))]) ([((ma 3), .inl (X.2.1, 3, .inl fr))]))))) sz) := by
  refine mk_met (B := (va_A (@HAppend.hAppend va_W va_W va_W _ (mW m0 ma la lb n t v) (@HAppend.hAppend va_W va_W va_W _ ([((ma 0), .inl (X.2.1, 371, .inl fa))]) (@HAppend.hAppend va_W va_W va_W _ ([((ma 6), .inl (X.2.1, 55, .inl fh))]) (@HAppend.hAppend va_W va_W va_W _ ([((ma 9), .inl (X.2.1, 20, .inl fb))]) ([((ma 3), .inl (X.2.1, 3, .inl fr))]))))) sz)) (A := (va_A (@HAppend.hAppend va_W va_W va_W _ (mW m0 ma la lb n t v) (@HAppend.hAppend va_W va_W va_W _ ([((ma 0), .inl (X.2.1, 371, .inl fa))]) (@HAppend.hAppend va_W va_W va_W _ ([((ma 6), .inl (X.2.1, 55, .inl fh))]) (@HAppend.hAppend va_W va_W va_W _ ([((ma 9), .inl (X.2.1, 20, .inl fb))]) ([((ma 3), .inl (X.2.1, 3, .inl fr))]))))) sz)) (cc := cX11_pair) (maxL := 6) (ret := (some .int)) (by decide) rfl (Nat.le_of_ble_eq_true rfl) k_w k_a (fun p e s m below meth c S zr zlk znm zsz G ls hl => ?_)
  have S : CallFix p m c cX11_pair 6 s _ wsX11_pair RX11 := S
  have zx := S.1
  have zb := S.2.1
  have hl : lv_has ls 6 [(0, .ref m0), (1, .int x1), (2, .int x2), (3, .int x3)] := hl
  have hO_t := hI_t
  obtain ⟨ht0_t, ht1_t⟩ := hO_t
  have hO_fa := hI_fa.2
  obtain ⟨hm0_fa, hm1_fa, hm2_fa, hm3_fa, hm4_fa⟩ := hO_fa
  have hO_fh := hI_fh.2
  obtain ⟨hm0_fh, hm1_fh, hm2_fh, hm3_fh, hm4_fh⟩ := hO_fh
  refine lv_aload_n zx zb dX11_pair_0 rfl (lv_at hl 0 rfl) ?_
  refine lv_iload_n zx zb dX11_pair_1 rfl (lv_at hl 1 rfl) ?_
  refine o_ri (cells' := 0) (slots' := 0) G rfl rfl (n_V (As := [.int x1]) (rest := []) (C := RX11) (T := TX11) (N := 18) (ci := 9) S G (m_isOne l X m0 ma la lb n t v fa c0 c1 c2 c3 c4 x1 hI_n hI_t hI_fa s.heap.size) gX11_pair_X11_isOne rfl rfl rfl hdV_X11_isOne ⟨Nat.le_of_ble_eq_true rfl, Nat.le_of_ble_eq_true rfl⟩ [0, 1] rfl rfl 0 rfl rfl rfl hl.1 (Nat.le_of_ble_eq_true rfl) dX11_pair_2 ⟨Nat.le_of_ble_eq_true rfl, Nat.le_of_ble_eq_true rfl⟩) (fun r_1 u_1 H locs hp_1 G => ?_)
  have G : wd X (va_A (@HAppend.hAppend va_W va_W va_W _ (mW m0 ma la lb n t v) (@HAppend.hAppend va_W va_W va_W _ ([((ma 0), .inl (X.2.1, 371, .inl fa))]) (@HAppend.hAppend va_W va_W va_W _ ([((ma 6), .inl (X.2.1, 55, .inl fh))]) (@HAppend.hAppend va_W va_W va_W _ ([((ma 9), .inl (X.2.1, 20, .inl fb))]) ([((ma 3), .inl (X.2.1, 3, .inl fr))]))))) sz) (va_A (@HAppend.hAppend va_W va_W va_W _ (mW m0 ma la lb n t v) (@HAppend.hAppend va_W va_W va_W _ ([((ma 0), .inl (X.2.1, 371, .inl fa))]) (@HAppend.hAppend va_W va_W va_W _ ([((ma 6), .inl (X.2.1, 55, .inl fh))]) (@HAppend.hAppend va_W va_W va_W _ ([((ma 9), .inl (X.2.1, 20, .inl fb))]) ([((ma 3), .inl (X.2.1, 3, .inl fr))]))))) sz) s (@HAppend.hAppend va_W va_W va_W _ (mW m0 ma la lb n t v) (@HAppend.hAppend va_W va_W va_W _ ([((ma 0), .inl (X.2.1, 371, .inl fa))]) (@HAppend.hAppend va_W va_W va_W _ ([((ma 6), .inl (X.2.1, 55, .inl fh))]) (@HAppend.hAppend va_W va_W va_W _ ([((ma 9), .inl (X.2.1, 20, .inl fb))]) ([((ma 3), .inl (X.2.1, 3, .inl fr))]))))) H locs := G
  rcases hp_1 with ⟨rfl, hj_1⟩ | ⟨rfl, hj_1⟩
  · obtain ⟨j_1, hj_1, rfl⟩ := hj_1
    refine lv_if_eq (tgt := 26) zx zb dX11_pair_5 (by decide) (fun c_2 => absurd c_2 (by decide)) (fun c_2 => ?_)
    refine lv_aload_n zx zb dX11_pair_8 rfl (lv_at hl 0 rfl) ?_
    refine lv_iload_n zx zb dX11_pair_9 rfl (lv_at hl 2 rfl) ?_
    refine o_ri (cells' := 0) (slots' := 0) G rfl rfl (n_V (As := [.int x2]) (rest := []) (C := RX11) (T := TX11) (N := 18) (ci := 9) S G (m_isOne l X m0 ma la lb n t v fa c0 c1 c2 c3 c4 x2 hI_n hI_t hI_fa H.size) gX11_pair_X11_isOne rfl rfl rfl hdV_X11_isOne ⟨Nat.le_of_ble_eq_true rfl, Nat.le_of_ble_eq_true rfl⟩ [0, 1] rfl rfl 0 rfl rfl rfl hl.1 (Nat.le_of_ble_eq_true rfl) dX11_pair_10 ⟨Nat.le_of_ble_eq_true rfl, Nat.le_of_ble_eq_true rfl⟩) (fun r_3 u_3 H locs hp_3 G => ?_)
    have G : wd X (va_A (@HAppend.hAppend va_W va_W va_W _ (mW m0 ma la lb n t v) (@HAppend.hAppend va_W va_W va_W _ ([((ma 0), .inl (X.2.1, 371, .inl fa))]) (@HAppend.hAppend va_W va_W va_W _ ([((ma 6), .inl (X.2.1, 55, .inl fh))]) (@HAppend.hAppend va_W va_W va_W _ ([((ma 9), .inl (X.2.1, 20, .inl fb))]) ([((ma 3), .inl (X.2.1, 3, .inl fr))]))))) sz) (va_A (@HAppend.hAppend va_W va_W va_W _ (mW m0 ma la lb n t v) (@HAppend.hAppend va_W va_W va_W _ ([((ma 0), .inl (X.2.1, 371, .inl fa))]) (@HAppend.hAppend va_W va_W va_W _ ([((ma 6), .inl (X.2.1, 55, .inl fh))]) (@HAppend.hAppend va_W va_W va_W _ ([((ma 9), .inl (X.2.1, 20, .inl fb))]) ([((ma 3), .inl (X.2.1, 3, .inl fr))]))))) sz) s (@HAppend.hAppend va_W va_W va_W _ (mW m0 ma la lb n t v) (@HAppend.hAppend va_W va_W va_W _ ([((ma 0), .inl (X.2.1, 371, .inl fa))]) (@HAppend.hAppend va_W va_W va_W _ ([((ma 6), .inl (X.2.1, 55, .inl fh))]) (@HAppend.hAppend va_W va_W va_W _ ([((ma 9), .inl (X.2.1, 20, .inl fb))]) ([((ma 3), .inl (X.2.1, 3, .inl fr))]))))) H locs := G
    rcases hp_3 with ⟨rfl, hj_3⟩ | ⟨rfl, hj_3⟩
    · obtain ⟨j_3, hj_3, rfl⟩ := hj_3
      refine lv_if_eq (tgt := 26) zx zb dX11_pair_13 (by decide) (fun c_4 => absurd c_4 (by decide)) (fun c_4 => ?_)
      refine lv_iload_n zx zb dX11_pair_16 rfl (lv_at hl 1 rfl) ?_
      refine lv_iload_n zx zb dX11_pair_17 rfl (lv_at hl 2 rfl) ?_
      refine lv_icmp_eq (tgt := 26) zx zb dX11_pair_18 (by decide) (fun c_5 => ?_) (fun c_5 => ?_)
      · have fc_5 := j_eq (a := j_1) (b := j_3) (by omega) (by omega) c_5
        refine lv_aload_n zx zb dX11_pair_26 rfl (lv_at hl 0 rfl) ?_
        refine lv_bipush (v := (-10)) zx zb dX11_pair_27 (by decide) ?_
        refine b_wi (cells' := 0) (slots' := 0) (wr := @HAppend.hAppend va_W va_W va_W _ ([((ma 0), .inl (X.2.1, 371, .inl fa))]) (@HAppend.hAppend va_W va_W va_W _ ([((ma 6), .inl (X.2.1, 55, .inl fh))]) ([((ma 9), .inl (X.2.1, 20, .inl fb))]))) G rfl rfl [0, 4] [1, 2, 3] rfl rfl rfl rfl (n_V (As := [.int (-10)]) (rest := []) (C := RX11) (T := TX11) (N := 18) (ci := 9) S G (m_bad l X m0 ma la lb n t v fr (-10) hI_n hI_t H.size) gX11_pair_X11_bad rfl rfl rfl hdV_X11_bad ⟨Nat.le_of_ble_eq_true rfl, Nat.le_of_ble_eq_true rfl⟩ [0, 4] rfl rfl 0 rfl rfl rfl hl.1 (Nat.le_of_ble_eq_true rfl) dX11_pair_29 ⟨Nat.le_of_ble_eq_true rfl, Nat.le_of_ble_eq_true rfl⟩) (fun r_6 u_6 H locs hp_6 G => ?_)
        obtain ⟨f_6, rfl⟩ : ∃ z, z = u_6 := ⟨_, rfl⟩
        have hq_6 := hp_6
        have G : wd X (va_A (@HAppend.hAppend va_W va_W va_W _ (mW m0 ma la lb n t v) (@HAppend.hAppend va_W va_W va_W _ ([((ma 0), .inl (X.2.1, 371, .inl fa))]) (@HAppend.hAppend va_W va_W va_W _ ([((ma 6), .inl (X.2.1, 55, .inl fh))]) (@HAppend.hAppend va_W va_W va_W _ ([((ma 9), .inl (X.2.1, 20, .inl fb))]) ([((ma 3), .inl (X.2.1, 3, .inl fr))]))))) sz) (va_A (@HAppend.hAppend va_W va_W va_W _ (mW m0 ma la lb n t v) (@HAppend.hAppend va_W va_W va_W _ ([((ma 0), .inl (X.2.1, 371, .inl fa))]) (@HAppend.hAppend va_W va_W va_W _ ([((ma 6), .inl (X.2.1, 55, .inl fh))]) (@HAppend.hAppend va_W va_W va_W _ ([((ma 9), .inl (X.2.1, 20, .inl fb))]) ([((ma 3), .inl (X.2.1, 3, .inl fr))]))))) sz) s (@HAppend.hAppend va_W va_W va_W _ ([((ma 0), .inl (X.2.1, 371, .inl fa))]) (@HAppend.hAppend va_W va_W va_W _ ([((ma 6), .inl (X.2.1, 55, .inl fh))]) (@HAppend.hAppend va_W va_W va_W _ ([((ma 9), .inl (X.2.1, 20, .inl fb))]) (@HAppend.hAppend va_W va_W va_W _ (mW m0 ma la lb n t v) ([((ma 3), .inl (X.2.1, 3, .inl f_6))]))))) H locs := G
        obtain rfl := hq_6
        exact e_int S zr zlk (vp_nar_int _) G (fh, d0, d1, d2, d3, d4, fb, f_6) [3, 0, 1, 2, 4] rfl rfl (Or.inr rfl) (⟨hI_fh, trivial⟩) dX11_pair_32
      · have fc_5 := j_ne (a := j_1) (b := j_3) c_5
        refine lv_iload_n zx zb dX11_pair_21 rfl (lv_at hl 3 rfl) ?_
        refine lv_iconst (v := (-1)) zx zb dX11_pair_22 (by decide) ?_
        refine lv_icmp_ge (tgt := 33) zx zb dX11_pair_23 (by decide) (fun c_7 => ?_) (fun c_7 => ?_)
        · refine lv_iconst (v := 0) zx zb dX11_pair_33 (by decide) ?_
          refine lv_istore (lv' := [(4, .int 0), (0, .ref m0), (1, .int (nI j_1)), (2, .int (nI j_3)), (3, .int x3)]) zx zb dX11_pair_34 hl (by decide) rfl (fun ls hl => ?_)
          refine k_loop (P := ∀ (zm : Nat) (k36 : Nat) (f36_2 : Nat → Int32) (c036_2 : Nat) (c136_2 : Nat) (c236_2 : Nat) (c336_2 : Nat) (c436_2 : Nat) (f36_3 : Nat → Int32) (H : Heap) (locs : List Loc) (ls : Array Slot), 10 + 1 ≤ k36 + zm → InA f36_2 c036_2 c136_2 c236_2 c336_2 c436_2 → (k36 ≤ 10) → wd X (va_A (@HAppend.hAppend va_W va_W va_W _ (mW m0 ma la lb n t v) (@HAppend.hAppend va_W va_W va_W _ ([((ma 0), .inl (X.2.1, 371, .inl fa))]) (@HAppend.hAppend va_W va_W va_W _ ([((ma 6), .inl (X.2.1, 55, .inl fh))]) (@HAppend.hAppend va_W va_W va_W _ ([((ma 9), .inl (X.2.1, 20, .inl fb))]) ([((ma 3), .inl (X.2.1, 3, .inl fr))]))))) sz) (va_A (@HAppend.hAppend va_W va_W va_W _ (mW m0 ma la lb n t v) (@HAppend.hAppend va_W va_W va_W _ ([((ma 0), .inl (X.2.1, 371, .inl fa))]) (@HAppend.hAppend va_W va_W va_W _ ([((ma 6), .inl (X.2.1, 55, .inl fh))]) (@HAppend.hAppend va_W va_W va_W _ ([((ma 9), .inl (X.2.1, 20, .inl fb))]) ([((ma 3), .inl (X.2.1, 3, .inl fr))]))))) sz) s (@HAppend.hAppend va_W va_W va_W _ (mW m0 ma la lb n t v) (@HAppend.hAppend va_W va_W va_W _ ([((ma 0), .inl (X.2.1, 371, .inl fa))]) (@HAppend.hAppend va_W va_W va_W _ ([((ma 6), .inl (X.2.1, 55, .inl f36_2))]) (@HAppend.hAppend va_W va_W va_W _ ([((ma 9), .inl (X.2.1, 20, .inl f36_3))]) ([((ma 3), .inl (X.2.1, 3, .inl fr))]))))) H locs → lv_has ls 6 [(4, .int (nI k36)), (0, .ref m0), (1, .int (nI j_1)), (2, .int (nI j_3)), (3, .int x3)] → W p l e _ s m _ below meth c H locs _ _ _ (F0 m 36 ls [])) (fun loop => loop (10 + 1) 0 fh d0 d1 d2 d3 d4 fb _ _ _ (by omega) hI_fh (by omega) G hl) ?_
          intro zm
          induction zm with
          | zero => intro k36 f36_2 c036_2 c136_2 c236_2 c336_2 c436_2 f36_3 H locs ls zz q_hI_f36_2 q_hk_k36 _ _; exact absurd zz (by omega)
          | succ zm ih36 =>
            intro k36 f36_2 c036_2 c136_2 c236_2 c336_2 c436_2 f36_3 H locs ls zm_36 hI_f36_2 hk_k36 G hl
            have hO_f36_2 := hI_f36_2.2
            obtain ⟨hm0_f36_2, hm1_f36_2, hm2_f36_2, hm3_f36_2, hm4_f36_2⟩ := hO_f36_2
            refine lv_iload zx zb dX11_pair_36 (lv_at hl 0 rfl) ?_
            refine lv_bipush (v := 10) zx zb dX11_pair_38 (by decide) ?_
            refine lv_icmp_ge (tgt := 113) zx zb dX11_pair_40 (by decide) (fun c_8 => ?_) (fun c_8 => ?_)
            · have fc_8 := j_le (a := 10) (b := k36) (by omega) (by omega) c_8
              refine lv_iconst (v := 0) zx zb dX11_pair_113 (by decide) ?_
              refine lv_istore (lv' := [(4, .int 0), (0, .ref m0), (1, .int (nI j_1)), (2, .int (nI j_3)), (3, .int x3)]) zx zb dX11_pair_114 hl (by decide) rfl (fun ls hl => ?_)
              refine lv_iconst (v := 0) zx zb dX11_pair_116 (by decide) ?_
              refine lv_istore (lv' := [(5, .int 0), (4, .int 0), (0, .ref m0), (1, .int (nI j_1)), (2, .int (nI j_3)), (3, .int x3)]) zx zb dX11_pair_117 hl (by decide) rfl (fun ls hl => ?_)
              refine k_loop (P := ∀ (zm : Nat) (k119 : Nat) (x119_4 : Int32) (H : Heap) (locs : List Loc) (ls : Array Slot), 100 + 1 ≤ k119 + zm → (k119 ≤ 100) → wd X (va_A (@HAppend.hAppend va_W va_W va_W _ (mW m0 ma la lb n t v) (@HAppend.hAppend va_W va_W va_W _ ([((ma 0), .inl (X.2.1, 371, .inl fa))]) (@HAppend.hAppend va_W va_W va_W _ ([((ma 6), .inl (X.2.1, 55, .inl fh))]) (@HAppend.hAppend va_W va_W va_W _ ([((ma 9), .inl (X.2.1, 20, .inl fb))]) ([((ma 3), .inl (X.2.1, 3, .inl fr))]))))) sz) (va_A (@HAppend.hAppend va_W va_W va_W _ (mW m0 ma la lb n t v) (@HAppend.hAppend va_W va_W va_W _ ([((ma 0), .inl (X.2.1, 371, .inl fa))]) (@HAppend.hAppend va_W va_W va_W _ ([((ma 6), .inl (X.2.1, 55, .inl fh))]) (@HAppend.hAppend va_W va_W va_W _ ([((ma 9), .inl (X.2.1, 20, .inl fb))]) ([((ma 3), .inl (X.2.1, 3, .inl fr))]))))) sz) s (@HAppend.hAppend va_W va_W va_W _ (mW m0 ma la lb n t v) (@HAppend.hAppend va_W va_W va_W _ ([((ma 0), .inl (X.2.1, 371, .inl fa))]) (@HAppend.hAppend va_W va_W va_W _ ([((ma 6), .inl (X.2.1, 55, .inl f36_2))]) (@HAppend.hAppend va_W va_W va_W _ ([((ma 9), .inl (X.2.1, 20, .inl f36_3))]) ([((ma 3), .inl (X.2.1, 3, .inl fr))]))))) H locs → lv_has ls 6 [(5, .int (nI k119)), (4, .int x119_4), (0, .ref m0), (1, .int (nI j_1)), (2, .int (nI j_3)), (3, .int x3)] → W p l e _ s m _ below meth c H locs _ _ _ (F0 m 119 ls [])) (fun loop => loop (100 + 1) 0 0 _ _ _ (by omega) (by omega) G hl) ?_
              intro zm
              induction zm with
              | zero => intro k119 x119_4 H locs ls zz q_hk_k119 _ _; exact absurd zz (by omega)
              | succ zm ih119 =>
                intro k119 x119_4 H locs ls zm_119 hk_k119 G hl
                refine lv_iload zx zb dX11_pair_119 (lv_at hl 0 rfl) ?_
                refine lv_bipush (v := 100) zx zb dX11_pair_121 (by decide) ?_
                refine lv_icmp_ge (tgt := 163) zx zb dX11_pair_123 (by decide) (fun c_9 => ?_) (fun c_9 => ?_)
                · have fc_9 := j_le (a := 100) (b := k119) (by omega) (by omega) c_9
                  refine lv_iload_n zx zb dX11_pair_163 rfl (lv_at hl 5 rfl) ?_
                  refine lv_iconst (v := (-1)) zx zb dX11_pair_164 (by decide) ?_
                  refine k_cutW (PP := fun Wx => ∀ (x_11 : Int32) (H : Heap) (locs : List Loc) (ls : Array Slot), wd X (va_A (@HAppend.hAppend va_W va_W va_W _ (mW m0 ma la lb n t v) (@HAppend.hAppend va_W va_W va_W _ ([((ma 0), .inl (X.2.1, 371, .inl fa))]) (@HAppend.hAppend va_W va_W va_W _ ([((ma 6), .inl (X.2.1, 55, .inl fh))]) (@HAppend.hAppend va_W va_W va_W _ ([((ma 9), .inl (X.2.1, 20, .inl fb))]) ([((ma 3), .inl (X.2.1, 3, .inl fr))]))))) sz) (va_A (@HAppend.hAppend va_W va_W va_W _ (mW m0 ma la lb n t v) (@HAppend.hAppend va_W va_W va_W _ ([((ma 0), .inl (X.2.1, 371, .inl fa))]) (@HAppend.hAppend va_W va_W va_W _ ([((ma 6), .inl (X.2.1, 55, .inl fh))]) (@HAppend.hAppend va_W va_W va_W _ ([((ma 9), .inl (X.2.1, 20, .inl fb))]) ([((ma 3), .inl (X.2.1, 3, .inl fr))]))))) sz) s (@HAppend.hAppend va_W va_W va_W _ (mW m0 ma la lb n t v) (@HAppend.hAppend va_W va_W va_W _ ([((ma 0), .inl (X.2.1, 371, .inl fa))]) (@HAppend.hAppend va_W va_W va_W _ ([((ma 6), .inl (X.2.1, 55, .inl f36_2))]) (@HAppend.hAppend va_W va_W va_W _ ([((ma 9), .inl (X.2.1, 20, .inl f36_3))]) ([((ma 3), .inl (X.2.1, 3, .inl fr))]))))) H locs → lv_has ls 6 [(5, .int (nI k119)), (4, .int x119_4), (0, .ref m0), (1, .int (nI j_1)), (2, .int (nI j_3)), (3, .int x3)] → Wx (F0 m 175 ls [.int x_11]) H locs) ?_ ?_
                  · intro join_165
                    refine lv_icmp_ne (tgt := 173) zx zb dX11_pair_165 (by decide) (fun c_10 => ?_) (fun c_10 => ?_)
                    · refine lv_bipush (v := (-5)) zx zb dX11_pair_173 (by decide) ?_
                      exact join_165 (-5) _ _ _  G hl
                    · refine lv_iload zx zb dX11_pair_168 (lv_at hl 1 rfl) ?_
                      refine lv_goto (tgt := 175) zx zb dX11_pair_170 (by decide) ?_
                      exact join_165 x119_4 _ _ _  G hl
                  · intro x_11 H locs ls  G hl
                    exact e_int S zr zlk (vp_nar_int _) G (f36_2, c036_2, c136_2, c236_2, c336_2, c436_2, f36_3, fr) [0, 1, 2, 3, 4] rfl rfl (Or.inr rfl) (⟨hI_f36_2, trivial⟩) dX11_pair_175
                · have fc_9 := j_nle (a := 100) (b := k119) (by omega) (by omega) c_9
                  refine lv_aload_n zx zb dX11_pair_126 rfl (lv_at hl 2 rfl) ?_
                  refine lv_iload_n zx zb dX11_pair_127 rfl (lv_at hl 3 rfl) ?_
                  refine lv_iload_n zx zb dX11_pair_128 rfl (lv_at hl 4 rfl) ?_
                  refine lv_iload zx zb dX11_pair_129 (lv_at hl 0 rfl) ?_
                  refine lv_bipush (v := 10) zx zb dX11_pair_131 (by decide) ?_
                  refine lv_idiv zx zb dX11_pair_133 (by decide) ?_
                  refine k_it (v := (nI (k119 / 10))) (pk_div (d := 10) (by omega) (by decide) (by decide)) ?_
                  refine lv_iload zx zb dX11_pair_134 (lv_at hl 0 rfl) ?_
                  refine lv_bipush (v := 10) zx zb dX11_pair_136 (by decide) ?_
                  refine lv_irem zx zb dX11_pair_138 (by decide) ?_
                  refine k_it (v := (nI (k119 % 10))) (pk_rem (d := 10) (by omega) (by decide) (by decide)) ?_
                  refine o_ri (cells' := 0) (slots' := 0) G rfl rfl (n_V (As := [.int (nI j_1), .int (nI j_3), .int (nI (k119 / 10)), .int (nI (k119 % 10))]) (rest := []) (C := RX11) (T := TX11) (N := 18) (ci := 9) S G (m_rests l X m0 ma la lb n t v fa c0 c1 c2 c3 c4 f36_3 j_1 j_3 (k119 / 10) (k119 % 10) hI_n hI_t hI_fa (by omega) (by omega) (by omega) (by omega) H.size) gX11_pair_X11_rests rfl rfl rfl hdV_X11_rests ⟨Nat.le_of_ble_eq_true rfl, Nat.le_of_ble_eq_true rfl⟩ [0, 1, 3] rfl rfl 0 rfl rfl rfl hl.1 (Nat.le_of_ble_eq_true rfl) dX11_pair_139 ⟨Nat.le_of_ble_eq_true rfl, Nat.le_of_ble_eq_true rfl⟩) (fun r_12 u_12 H locs hp_12 G => ?_)
                  have G : wd X (va_A (@HAppend.hAppend va_W va_W va_W _ (mW m0 ma la lb n t v) (@HAppend.hAppend va_W va_W va_W _ ([((ma 0), .inl (X.2.1, 371, .inl fa))]) (@HAppend.hAppend va_W va_W va_W _ ([((ma 6), .inl (X.2.1, 55, .inl fh))]) (@HAppend.hAppend va_W va_W va_W _ ([((ma 9), .inl (X.2.1, 20, .inl fb))]) ([((ma 3), .inl (X.2.1, 3, .inl fr))]))))) sz) (va_A (@HAppend.hAppend va_W va_W va_W _ (mW m0 ma la lb n t v) (@HAppend.hAppend va_W va_W va_W _ ([((ma 0), .inl (X.2.1, 371, .inl fa))]) (@HAppend.hAppend va_W va_W va_W _ ([((ma 6), .inl (X.2.1, 55, .inl fh))]) (@HAppend.hAppend va_W va_W va_W _ ([((ma 9), .inl (X.2.1, 20, .inl fb))]) ([((ma 3), .inl (X.2.1, 3, .inl fr))]))))) sz) s (@HAppend.hAppend va_W va_W va_W _ (mW m0 ma la lb n t v) (@HAppend.hAppend va_W va_W va_W _ ([((ma 0), .inl (X.2.1, 371, .inl fa))]) (@HAppend.hAppend va_W va_W va_W _ ([((ma 6), .inl (X.2.1, 55, .inl f36_2))]) (@HAppend.hAppend va_W va_W va_W _ ([((ma 9), .inl (X.2.1, 20, .inl f36_3))]) ([((ma 3), .inl (X.2.1, 3, .inl fr))]))))) H locs := G
                  refine lv_if_eq (tgt := 157) zx zb dX11_pair_142 (by decide) (fun c_13 => ?_) (fun c_13 => ?_)
                  · refine lv_iinc (v := (nI (k119 + 1))) (lv' := [(5, .int (nI (k119 + 1))), (4, .int x119_4), (0, .ref m0), (1, .int (nI j_1)), (2, .int (nI j_3)), (3, .int x3)]) zx zb dX11_pair_157 hl (k := 0) rfl (nI_add k119 1) (by decide) rfl (fun ls hl => ?_)
                    refine lv_goto (tgt := 119) zx zb dX11_pair_160 (by decide) ?_
                    exact ih119 (k119 + 1) x119_4 _ _ _ (by omega) (by omega) G hl
                  · refine lv_iload zx zb dX11_pair_145 (lv_at hl 1 rfl) ?_
                    refine lv_iload_n zx zb dX11_pair_147 rfl (lv_at hl 5 rfl) ?_
                    refine lv_icmp_ne (tgt := 154) zx zb dX11_pair_148 (by decide) (fun c_14 => ?_) (fun c_14 => ?_)
                    · refine lv_iinc (v := (x119_4 + 1)) (lv' := [(4, .int (x119_4 + 1)), (5, .int (nI k119)), (0, .ref m0), (1, .int (nI j_1)), (2, .int (nI j_3)), (3, .int x3)]) zx zb dX11_pair_154 hl (k := 1) rfl rfl (by decide) rfl (fun ls hl => ?_)
                      refine lv_iinc (v := (nI (k119 + 1))) (lv' := [(5, .int (nI (k119 + 1))), (4, .int (x119_4 + 1)), (0, .ref m0), (1, .int (nI j_1)), (2, .int (nI j_3)), (3, .int x3)]) zx zb dX11_pair_157 hl (k := 1) rfl (nI_add k119 1) (by decide) rfl (fun ls hl => ?_)
                      refine lv_goto (tgt := 119) zx zb dX11_pair_160 (by decide) ?_
                      exact ih119 (k119 + 1) (x119_4 + 1) _ _ _ (by omega) (by omega) G hl
                    · refine lv_iload zx zb dX11_pair_151 (lv_at hl 0 rfl) ?_
                      exact e_int S zr zlk (vp_nar_int _) G (f36_2, c036_2, c136_2, c236_2, c336_2, c436_2, f36_3, fr) [0, 1, 2, 3, 4] rfl rfl (Or.inr rfl) (⟨hI_f36_2, trivial⟩) dX11_pair_153
            · have fc_8 := j_nle (a := 10) (b := k36) (by omega) (by omega) c_8
              refine lv_aload_n zx zb dX11_pair_43 rfl (lv_at hl 1 rfl) ?_
              refine b_wv (cells' := 0) (slots' := 0) (wr := @HAppend.hAppend va_W va_W va_W _ ([((ma 9), .inl (X.2.1, 20, .inl f36_3))]) ([((ma 3), .inl (X.2.1, 3, .inl fr))])) G rfl rfl [0, 1, 2] [3, 4] rfl rfl rfl rfl (n_V (As := []) (rest := []) (C := RX11) (T := TX11) (N := 18) (ci := 9) S G (m_layHand l X m0 ma la lb n t v fa c0 c1 c2 c3 c4 f36_2 c036_2 c136_2 c236_2 c336_2 c436_2 hI_n hI_t hI_fa hI_f36_2 H.size) gX11_pair_X11_layHand rfl rfl rfl hdV_X11_layHand ⟨Nat.le_of_ble_eq_true rfl, Nat.le_of_ble_eq_true rfl⟩ [0, 1, 2] rfl rfl 0 rfl rfl rfl hl.1 (Nat.le_of_ble_eq_true rfl) dX11_pair_44 ⟨Nat.le_of_ble_eq_true rfl, Nat.le_of_ble_eq_true rfl⟩) (fun u_15 H locs hp_15 G => ?_)
              obtain ⟨f_15a, c0_15b, c1_15c, c2_15d, c3_15e, c4_15f⟩ := u_15
              try dsimp only at hp_15
              obtain ⟨hI_f_15a, hq_15⟩ := hp_15
              have hO_f_15a := hI_f_15a.2
              obtain ⟨hm0_f_15a, hm1_f_15a, hm2_f_15a, hm3_f_15a, hm4_f_15a⟩ := hO_f_15a
              have G : wd X (va_A (@HAppend.hAppend va_W va_W va_W _ (mW m0 ma la lb n t v) (@HAppend.hAppend va_W va_W va_W _ ([((ma 0), .inl (X.2.1, 371, .inl fa))]) (@HAppend.hAppend va_W va_W va_W _ ([((ma 6), .inl (X.2.1, 55, .inl fh))]) (@HAppend.hAppend va_W va_W va_W _ ([((ma 9), .inl (X.2.1, 20, .inl fb))]) ([((ma 3), .inl (X.2.1, 3, .inl fr))]))))) sz) (va_A (@HAppend.hAppend va_W va_W va_W _ (mW m0 ma la lb n t v) (@HAppend.hAppend va_W va_W va_W _ ([((ma 0), .inl (X.2.1, 371, .inl fa))]) (@HAppend.hAppend va_W va_W va_W _ ([((ma 6), .inl (X.2.1, 55, .inl fh))]) (@HAppend.hAppend va_W va_W va_W _ ([((ma 9), .inl (X.2.1, 20, .inl fb))]) ([((ma 3), .inl (X.2.1, 3, .inl fr))]))))) sz) s (@HAppend.hAppend va_W va_W va_W _ ([((ma 9), .inl (X.2.1, 20, .inl f36_3))]) (@HAppend.hAppend va_W va_W va_W _ ([((ma 3), .inl (X.2.1, 3, .inl fr))]) (@HAppend.hAppend va_W va_W va_W _ (mW m0 ma la lb n t v) (@HAppend.hAppend va_W va_W va_W _ ([((ma 0), .inl (X.2.1, 371, .inl fa))]) ([((ma 6), .inl (X.2.1, 55, .inl f_15a))]))))) H locs := G
              refine lv_aload_n zx zb dX11_pair_47 rfl (lv_at hl 1 rfl) ?_
              refine r_get (C := RX11) (T := TX11) (N := 18) (ci := 9) (v := .ref (ma 6)) S in_X11_pair_X11 G 2 rfl rfl 6 (by decide) lk_X11_pair_27 rfl dX11_pair_48 ?_
              refine lv_bipush (v := 11) zx zb dX11_pair_51 (by decide) ?_
              refine lv_iload_n zx zb dX11_pair_53 rfl (lv_at hl 2 rfl) ?_
              refine r_iadd (v := (nI (11 + j_1))) S (nI_add 11 j_1) dX11_pair_54 ?_
              refine lv_iload zx zb dX11_pair_55 (lv_at hl 0 rfl) ?_
              refine r_iast S G 4 rfl (vp_in_nI (by omega) (by decide)) dX11_pair_57 (fun H locs G => ?_)
              obtain ⟨f_16, hI_f_16, hE_f_16, G⟩ : ∃ f_16 : Nat → Int32, InA f_16 c0_15b c1_15c c2_15d c3_15e c4_15f ∧ f_16 = upd f_15a (nI (11 + j_1)).toNatClampNeg (nI k36) ∧ wd X (va_A (@HAppend.hAppend va_W va_W va_W _ (mW m0 ma la lb n t v) (@HAppend.hAppend va_W va_W va_W _ ([((ma 0), .inl (X.2.1, 371, .inl fa))]) (@HAppend.hAppend va_W va_W va_W _ ([((ma 6), .inl (X.2.1, 55, .inl fh))]) (@HAppend.hAppend va_W va_W va_W _ ([((ma 9), .inl (X.2.1, 20, .inl fb))]) ([((ma 3), .inl (X.2.1, 3, .inl fr))]))))) sz) (va_A (@HAppend.hAppend va_W va_W va_W _ (mW m0 ma la lb n t v) (@HAppend.hAppend va_W va_W va_W _ ([((ma 0), .inl (X.2.1, 371, .inl fa))]) (@HAppend.hAppend va_W va_W va_W _ ([((ma 6), .inl (X.2.1, 55, .inl fh))]) (@HAppend.hAppend va_W va_W va_W _ ([((ma 9), .inl (X.2.1, 20, .inl fb))]) ([((ma 3), .inl (X.2.1, 3, .inl fr))]))))) sz) s (@HAppend.hAppend va_W va_W va_W _ ([((ma 9), .inl (X.2.1, 20, .inl f36_3))]) (@HAppend.hAppend va_W va_W va_W _ ([((ma 3), .inl (X.2.1, 3, .inl fr))]) (@HAppend.hAppend va_W va_W va_W _ (mW m0 ma la lb n t v) (@HAppend.hAppend va_W va_W va_W _ ([((ma 0), .inl (X.2.1, 371, .inl fa))]) ([((ma 6), .inl (X.2.1, 55, .inl f_16))]))))) H locs := ⟨_, InA_o hI_f_15a (by rw [nI_clamp (by omega)]; omega), rfl, G⟩
              refine lv_aload_n zx zb dX11_pair_58 rfl (lv_at hl 1 rfl) ?_
              refine r_get (C := RX11) (T := TX11) (N := 18) (ci := 9) (v := .ref (ma 6)) S in_X11_pair_X11 G 2 rfl rfl 6 (by decide) lk_X11_pair_27 rfl dX11_pair_59 ?_
              refine lv_bipush (v := 11) zx zb dX11_pair_62 (by decide) ?_
              refine lv_iload_n zx zb dX11_pair_64 rfl (lv_at hl 3 rfl) ?_
              refine r_iadd (v := (nI (11 + j_3))) S (nI_add 11 j_3) dX11_pair_65 ?_
              refine lv_iload zx zb dX11_pair_66 (lv_at hl 0 rfl) ?_
              refine r_iast S G 4 rfl (vp_in_nI (by omega) (by decide)) dX11_pair_68 (fun H locs G => ?_)
              obtain ⟨f_17, hI_f_17, hE_f_17, G⟩ : ∃ f_17 : Nat → Int32, InA f_17 c0_15b c1_15c c2_15d c3_15e c4_15f ∧ f_17 = upd f_16 (nI (11 + j_3)).toNatClampNeg (nI k36) ∧ wd X (va_A (@HAppend.hAppend va_W va_W va_W _ (mW m0 ma la lb n t v) (@HAppend.hAppend va_W va_W va_W _ ([((ma 0), .inl (X.2.1, 371, .inl fa))]) (@HAppend.hAppend va_W va_W va_W _ ([((ma 6), .inl (X.2.1, 55, .inl fh))]) (@HAppend.hAppend va_W va_W va_W _ ([((ma 9), .inl (X.2.1, 20, .inl fb))]) ([((ma 3), .inl (X.2.1, 3, .inl fr))]))))) sz) (va_A (@HAppend.hAppend va_W va_W va_W _ (mW m0 ma la lb n t v) (@HAppend.hAppend va_W va_W va_W _ ([((ma 0), .inl (X.2.1, 371, .inl fa))]) (@HAppend.hAppend va_W va_W va_W _ ([((ma 6), .inl (X.2.1, 55, .inl fh))]) (@HAppend.hAppend va_W va_W va_W _ ([((ma 9), .inl (X.2.1, 20, .inl fb))]) ([((ma 3), .inl (X.2.1, 3, .inl fr))]))))) sz) s (@HAppend.hAppend va_W va_W va_W _ ([((ma 9), .inl (X.2.1, 20, .inl f36_3))]) (@HAppend.hAppend va_W va_W va_W _ ([((ma 3), .inl (X.2.1, 3, .inl fr))]) (@HAppend.hAppend va_W va_W va_W _ (mW m0 ma la lb n t v) (@HAppend.hAppend va_W va_W va_W _ ([((ma 0), .inl (X.2.1, 371, .inl fa))]) ([((ma 6), .inl (X.2.1, 55, .inl f_17))]))))) H locs := ⟨_, InA_o hI_f_16 (by rw [nI_clamp (by omega)]; omega), rfl, G⟩
              refine lv_aload_n zx zb dX11_pair_69 rfl (lv_at hl 1 rfl) ?_
              refine lv_iconst (v := 5) zx zb dX11_pair_70 (by decide) ?_
              refine b_wv (cells' := 0) (slots' := 0) (wr := @HAppend.hAppend va_W va_W va_W _ ([((ma 9), .inl (X.2.1, 20, .inl f36_3))]) (@HAppend.hAppend va_W va_W va_W _ ([((ma 3), .inl (X.2.1, 3, .inl fr))]) ([((ma 0), .inl (X.2.1, 371, .inl fa))]))) G rfl rfl [2, 4] [0, 1, 3] rfl rfl rfl rfl (n_V (As := [.int 5]) (rest := []) (C := RX11) (T := TX11) (N := 18) (ci := 9) S G (m_goAhead l X m0 ma la lb n t v f_17 c0_15b c1_15c c2_15d c3_15e c4_15f 5 hI_n hI_t hI_f_17 (by omega) H.size) gX11_pair_X11_goAhead rfl rfl rfl hdV_X11_goAhead ⟨Nat.le_of_ble_eq_true rfl, Nat.le_of_ble_eq_true rfl⟩ [2, 4] rfl rfl 2 rfl rfl rfl hl.1 (Nat.le_of_ble_eq_true rfl) dX11_pair_71 ⟨Nat.le_of_ble_eq_true rfl, Nat.le_of_ble_eq_true rfl⟩) (fun u_18 H locs hp_18 G => ?_)
              obtain ⟨f_18, rfl⟩ : ∃ z, z = u_18 := ⟨_, rfl⟩
              obtain ⟨hI_f_18, hq_18⟩ := hp_18
              have G : wd X (va_A (@HAppend.hAppend va_W va_W va_W _ (mW m0 ma la lb n t v) (@HAppend.hAppend va_W va_W va_W _ ([((ma 0), .inl (X.2.1, 371, .inl fa))]) (@HAppend.hAppend va_W va_W va_W _ ([((ma 6), .inl (X.2.1, 55, .inl fh))]) (@HAppend.hAppend va_W va_W va_W _ ([((ma 9), .inl (X.2.1, 20, .inl fb))]) ([((ma 3), .inl (X.2.1, 3, .inl fr))]))))) sz) (va_A (@HAppend.hAppend va_W va_W va_W _ (mW m0 ma la lb n t v) (@HAppend.hAppend va_W va_W va_W _ ([((ma 0), .inl (X.2.1, 371, .inl fa))]) (@HAppend.hAppend va_W va_W va_W _ ([((ma 6), .inl (X.2.1, 55, .inl fh))]) (@HAppend.hAppend va_W va_W va_W _ ([((ma 9), .inl (X.2.1, 20, .inl fb))]) ([((ma 3), .inl (X.2.1, 3, .inl fr))]))))) sz) s (@HAppend.hAppend va_W va_W va_W _ ([((ma 9), .inl (X.2.1, 20, .inl f36_3))]) (@HAppend.hAppend va_W va_W va_W _ ([((ma 3), .inl (X.2.1, 3, .inl fr))]) (@HAppend.hAppend va_W va_W va_W _ ([((ma 0), .inl (X.2.1, 371, .inl fa))]) (@HAppend.hAppend va_W va_W va_W _ (mW m0 ma la lb n t v) ([((ma 6), .inl (X.2.1, 55, .inl f_18))]))))) H locs := G
              refine lv_aload_n zx zb dX11_pair_74 rfl (lv_at hl 1 rfl) ?_
              refine r_get (C := RX11) (T := TX11) (N := 18) (ci := 9) (v := .ref (ma 9)) S in_X11_pair_X11 G 3 rfl rfl 9 (by decide) lk_X11_pair_36 rfl dX11_pair_75 ?_
              refine lv_iload zx zb dX11_pair_78 (lv_at hl 0 rfl) ?_
              refine lv_aload_n zx zb dX11_pair_80 rfl (lv_at hl 1 rfl) ?_
              refine r_get (C := RX11) (T := TX11) (N := 18) (ci := 9) (v := .ref (ma 6)) S in_X11_pair_X11 G 3 rfl rfl 6 (by decide) lk_X11_pair_27 rfl dX11_pair_81 ?_
              refine lv_iconst (v := 5) zx zb dX11_pair_84 (by decide) ?_
              refine lv_iload_n zx zb dX11_pair_85 rfl (lv_at hl 2 rfl) ?_
              refine r_iadd (v := (nI (5 + j_1))) S (nI_add 5 j_1) dX11_pair_86 ?_
              refine r_iald S G 4 rfl (vp_in_nI (by omega) (by decide)) rfl dX11_pair_87 ?_
              refine k_itE (fun y_19 => ?_)
              refine r_iast S G 0 rfl (vp_in_nI (by omega) (by decide)) dX11_pair_88 (fun H locs G => ?_)
              obtain ⟨f_20, G⟩ : ∃ f_20 : Nat → Int32, wd X (va_A (@HAppend.hAppend va_W va_W va_W _ (mW m0 ma la lb n t v) (@HAppend.hAppend va_W va_W va_W _ ([((ma 0), .inl (X.2.1, 371, .inl fa))]) (@HAppend.hAppend va_W va_W va_W _ ([((ma 6), .inl (X.2.1, 55, .inl fh))]) (@HAppend.hAppend va_W va_W va_W _ ([((ma 9), .inl (X.2.1, 20, .inl fb))]) ([((ma 3), .inl (X.2.1, 3, .inl fr))]))))) sz) (va_A (@HAppend.hAppend va_W va_W va_W _ (mW m0 ma la lb n t v) (@HAppend.hAppend va_W va_W va_W _ ([((ma 0), .inl (X.2.1, 371, .inl fa))]) (@HAppend.hAppend va_W va_W va_W _ ([((ma 6), .inl (X.2.1, 55, .inl fh))]) (@HAppend.hAppend va_W va_W va_W _ ([((ma 9), .inl (X.2.1, 20, .inl fb))]) ([((ma 3), .inl (X.2.1, 3, .inl fr))]))))) sz) s (@HAppend.hAppend va_W va_W va_W _ ([((ma 9), .inl (X.2.1, 20, .inl f_20))]) (@HAppend.hAppend va_W va_W va_W _ ([((ma 3), .inl (X.2.1, 3, .inl fr))]) (@HAppend.hAppend va_W va_W va_W _ ([((ma 0), .inl (X.2.1, 371, .inl fa))]) (@HAppend.hAppend va_W va_W va_W _ (mW m0 ma la lb n t v) ([((ma 6), .inl (X.2.1, 55, .inl f_18))]))))) H locs := ⟨_, G⟩
              refine lv_aload_n zx zb dX11_pair_89 rfl (lv_at hl 1 rfl) ?_
              refine r_get (C := RX11) (T := TX11) (N := 18) (ci := 9) (v := .ref (ma 9)) S in_X11_pair_X11 G 3 rfl rfl 9 (by decide) lk_X11_pair_36 rfl dX11_pair_90 ?_
              refine lv_bipush (v := 10) zx zb dX11_pair_93 (by decide) ?_
              refine lv_iload zx zb dX11_pair_95 (lv_at hl 0 rfl) ?_
              refine r_iadd (v := (nI (10 + k36))) S (nI_add 10 k36) dX11_pair_97 ?_
              refine lv_aload_n zx zb dX11_pair_98 rfl (lv_at hl 1 rfl) ?_
              refine r_get (C := RX11) (T := TX11) (N := 18) (ci := 9) (v := .ref (ma 6)) S in_X11_pair_X11 G 3 rfl rfl 6 (by decide) lk_X11_pair_27 rfl dX11_pair_99 ?_
              refine lv_iconst (v := 5) zx zb dX11_pair_102 (by decide) ?_
              refine lv_iload_n zx zb dX11_pair_103 rfl (lv_at hl 3 rfl) ?_
              refine r_iadd (v := (nI (5 + j_3))) S (nI_add 5 j_3) dX11_pair_104 ?_
              refine r_iald S G 4 rfl (vp_in_nI (by omega) (by decide)) rfl dX11_pair_105 ?_
              refine k_itE (fun y_21 => ?_)
              refine r_iast S G 0 rfl (vp_in_nI (by omega) (by decide)) dX11_pair_106 (fun H locs G => ?_)
              obtain ⟨f_22, G⟩ : ∃ f_22 : Nat → Int32, wd X (va_A (@HAppend.hAppend va_W va_W va_W _ (mW m0 ma la lb n t v) (@HAppend.hAppend va_W va_W va_W _ ([((ma 0), .inl (X.2.1, 371, .inl fa))]) (@HAppend.hAppend va_W va_W va_W _ ([((ma 6), .inl (X.2.1, 55, .inl fh))]) (@HAppend.hAppend va_W va_W va_W _ ([((ma 9), .inl (X.2.1, 20, .inl fb))]) ([((ma 3), .inl (X.2.1, 3, .inl fr))]))))) sz) (va_A (@HAppend.hAppend va_W va_W va_W _ (mW m0 ma la lb n t v) (@HAppend.hAppend va_W va_W va_W _ ([((ma 0), .inl (X.2.1, 371, .inl fa))]) (@HAppend.hAppend va_W va_W va_W _ ([((ma 6), .inl (X.2.1, 55, .inl fh))]) (@HAppend.hAppend va_W va_W va_W _ ([((ma 9), .inl (X.2.1, 20, .inl fb))]) ([((ma 3), .inl (X.2.1, 3, .inl fr))]))))) sz) s (@HAppend.hAppend va_W va_W va_W _ ([((ma 9), .inl (X.2.1, 20, .inl f_22))]) (@HAppend.hAppend va_W va_W va_W _ ([((ma 3), .inl (X.2.1, 3, .inl fr))]) (@HAppend.hAppend va_W va_W va_W _ ([((ma 0), .inl (X.2.1, 371, .inl fa))]) (@HAppend.hAppend va_W va_W va_W _ (mW m0 ma la lb n t v) ([((ma 6), .inl (X.2.1, 55, .inl f_18))]))))) H locs := ⟨_, G⟩
              refine lv_iinc (v := (nI (k36 + 1))) (lv' := [(4, .int (nI (k36 + 1))), (0, .ref m0), (1, .int (nI j_1)), (2, .int (nI j_3)), (3, .int x3)]) zx zb dX11_pair_107 hl (k := 0) rfl (nI_add k36 1) (by decide) rfl (fun ls hl => ?_)
              refine lv_goto (tgt := 36) zx zb dX11_pair_110 (by decide) ?_
              have G : wd X (va_A (@HAppend.hAppend va_W va_W va_W _ (mW m0 ma la lb n t v) (@HAppend.hAppend va_W va_W va_W _ ([((ma 0), .inl (X.2.1, 371, .inl fa))]) (@HAppend.hAppend va_W va_W va_W _ ([((ma 6), .inl (X.2.1, 55, .inl fh))]) (@HAppend.hAppend va_W va_W va_W _ ([((ma 9), .inl (X.2.1, 20, .inl fb))]) ([((ma 3), .inl (X.2.1, 3, .inl fr))]))))) sz) (va_A (@HAppend.hAppend va_W va_W va_W _ (mW m0 ma la lb n t v) (@HAppend.hAppend va_W va_W va_W _ ([((ma 0), .inl (X.2.1, 371, .inl fa))]) (@HAppend.hAppend va_W va_W va_W _ ([((ma 6), .inl (X.2.1, 55, .inl fh))]) (@HAppend.hAppend va_W va_W va_W _ ([((ma 9), .inl (X.2.1, 20, .inl fb))]) ([((ma 3), .inl (X.2.1, 3, .inl fr))]))))) sz) s (@HAppend.hAppend va_W va_W va_W _ (mW m0 ma la lb n t v) (@HAppend.hAppend va_W va_W va_W _ ([((ma 0), .inl (X.2.1, 371, .inl fa))]) (@HAppend.hAppend va_W va_W va_W _ ([((ma 6), .inl (X.2.1, 55, .inl f_18))]) (@HAppend.hAppend va_W va_W va_W _ ([((ma 9), .inl (X.2.1, 20, .inl f_22))]) ([((ma 3), .inl (X.2.1, 3, .inl fr))]))))) H locs := wd_sub G [3, 2, 4, 0, 1] rfl rfl
              exact ih36 (k36 + 1) f_18 c0_15b c1_15c c2_15d c3_15e c4_15f f_22 _ _ _ (by omega) hI_f_18 (by omega) G hl
        · refine lv_aload_n zx zb dX11_pair_26 rfl (lv_at hl 0 rfl) ?_
          refine lv_bipush (v := (-10)) zx zb dX11_pair_27 (by decide) ?_
          refine b_wi (cells' := 0) (slots' := 0) (wr := @HAppend.hAppend va_W va_W va_W _ ([((ma 0), .inl (X.2.1, 371, .inl fa))]) (@HAppend.hAppend va_W va_W va_W _ ([((ma 6), .inl (X.2.1, 55, .inl fh))]) ([((ma 9), .inl (X.2.1, 20, .inl fb))]))) G rfl rfl [0, 4] [1, 2, 3] rfl rfl rfl rfl (n_V (As := [.int (-10)]) (rest := []) (C := RX11) (T := TX11) (N := 18) (ci := 9) S G (m_bad l X m0 ma la lb n t v fr (-10) hI_n hI_t H.size) gX11_pair_X11_bad rfl rfl rfl hdV_X11_bad ⟨Nat.le_of_ble_eq_true rfl, Nat.le_of_ble_eq_true rfl⟩ [0, 4] rfl rfl 0 rfl rfl rfl hl.1 (Nat.le_of_ble_eq_true rfl) dX11_pair_29 ⟨Nat.le_of_ble_eq_true rfl, Nat.le_of_ble_eq_true rfl⟩) (fun r_23 u_23 H locs hp_23 G => ?_)
          obtain ⟨f_23, rfl⟩ : ∃ z, z = u_23 := ⟨_, rfl⟩
          have hq_23 := hp_23
          have G : wd X (va_A (@HAppend.hAppend va_W va_W va_W _ (mW m0 ma la lb n t v) (@HAppend.hAppend va_W va_W va_W _ ([((ma 0), .inl (X.2.1, 371, .inl fa))]) (@HAppend.hAppend va_W va_W va_W _ ([((ma 6), .inl (X.2.1, 55, .inl fh))]) (@HAppend.hAppend va_W va_W va_W _ ([((ma 9), .inl (X.2.1, 20, .inl fb))]) ([((ma 3), .inl (X.2.1, 3, .inl fr))]))))) sz) (va_A (@HAppend.hAppend va_W va_W va_W _ (mW m0 ma la lb n t v) (@HAppend.hAppend va_W va_W va_W _ ([((ma 0), .inl (X.2.1, 371, .inl fa))]) (@HAppend.hAppend va_W va_W va_W _ ([((ma 6), .inl (X.2.1, 55, .inl fh))]) (@HAppend.hAppend va_W va_W va_W _ ([((ma 9), .inl (X.2.1, 20, .inl fb))]) ([((ma 3), .inl (X.2.1, 3, .inl fr))]))))) sz) s (@HAppend.hAppend va_W va_W va_W _ ([((ma 0), .inl (X.2.1, 371, .inl fa))]) (@HAppend.hAppend va_W va_W va_W _ ([((ma 6), .inl (X.2.1, 55, .inl fh))]) (@HAppend.hAppend va_W va_W va_W _ ([((ma 9), .inl (X.2.1, 20, .inl fb))]) (@HAppend.hAppend va_W va_W va_W _ (mW m0 ma la lb n t v) ([((ma 3), .inl (X.2.1, 3, .inl f_23))]))))) H locs := G
          obtain rfl := hq_23
          exact e_int S zr zlk (vp_nar_int _) G (fh, d0, d1, d2, d3, d4, fb, f_23) [3, 0, 1, 2, 4] rfl rfl (Or.inr rfl) (⟨hI_fh, trivial⟩) dX11_pair_32
    · refine lv_if_eq (tgt := 26) zx zb dX11_pair_13 (by decide) (fun c_24 => ?_) (fun c_24 => absurd (by decide) c_24)
      refine lv_aload_n zx zb dX11_pair_26 rfl (lv_at hl 0 rfl) ?_
      refine lv_bipush (v := (-10)) zx zb dX11_pair_27 (by decide) ?_
      refine b_wi (cells' := 0) (slots' := 0) (wr := @HAppend.hAppend va_W va_W va_W _ ([((ma 0), .inl (X.2.1, 371, .inl fa))]) (@HAppend.hAppend va_W va_W va_W _ ([((ma 6), .inl (X.2.1, 55, .inl fh))]) ([((ma 9), .inl (X.2.1, 20, .inl fb))]))) G rfl rfl [0, 4] [1, 2, 3] rfl rfl rfl rfl (n_V (As := [.int (-10)]) (rest := []) (C := RX11) (T := TX11) (N := 18) (ci := 9) S G (m_bad l X m0 ma la lb n t v fr (-10) hI_n hI_t H.size) gX11_pair_X11_bad rfl rfl rfl hdV_X11_bad ⟨Nat.le_of_ble_eq_true rfl, Nat.le_of_ble_eq_true rfl⟩ [0, 4] rfl rfl 0 rfl rfl rfl hl.1 (Nat.le_of_ble_eq_true rfl) dX11_pair_29 ⟨Nat.le_of_ble_eq_true rfl, Nat.le_of_ble_eq_true rfl⟩) (fun r_25 u_25 H locs hp_25 G => ?_)
      obtain ⟨f_25, rfl⟩ : ∃ z, z = u_25 := ⟨_, rfl⟩
      have hq_25 := hp_25
      have G : wd X (va_A (@HAppend.hAppend va_W va_W va_W _ (mW m0 ma la lb n t v) (@HAppend.hAppend va_W va_W va_W _ ([((ma 0), .inl (X.2.1, 371, .inl fa))]) (@HAppend.hAppend va_W va_W va_W _ ([((ma 6), .inl (X.2.1, 55, .inl fh))]) (@HAppend.hAppend va_W va_W va_W _ ([((ma 9), .inl (X.2.1, 20, .inl fb))]) ([((ma 3), .inl (X.2.1, 3, .inl fr))]))))) sz) (va_A (@HAppend.hAppend va_W va_W va_W _ (mW m0 ma la lb n t v) (@HAppend.hAppend va_W va_W va_W _ ([((ma 0), .inl (X.2.1, 371, .inl fa))]) (@HAppend.hAppend va_W va_W va_W _ ([((ma 6), .inl (X.2.1, 55, .inl fh))]) (@HAppend.hAppend va_W va_W va_W _ ([((ma 9), .inl (X.2.1, 20, .inl fb))]) ([((ma 3), .inl (X.2.1, 3, .inl fr))]))))) sz) s (@HAppend.hAppend va_W va_W va_W _ ([((ma 0), .inl (X.2.1, 371, .inl fa))]) (@HAppend.hAppend va_W va_W va_W _ ([((ma 6), .inl (X.2.1, 55, .inl fh))]) (@HAppend.hAppend va_W va_W va_W _ ([((ma 9), .inl (X.2.1, 20, .inl fb))]) (@HAppend.hAppend va_W va_W va_W _ (mW m0 ma la lb n t v) ([((ma 3), .inl (X.2.1, 3, .inl f_25))]))))) H locs := G
      obtain rfl := hq_25
      exact e_int S zr zlk (vp_nar_int _) G (fh, d0, d1, d2, d3, d4, fb, f_25) [3, 0, 1, 2, 4] rfl rfl (Or.inr rfl) (⟨hI_fh, trivial⟩) dX11_pair_32
  · refine lv_if_eq (tgt := 26) zx zb dX11_pair_5 (by decide) (fun c_26 => ?_) (fun c_26 => absurd (by decide) c_26)
    refine lv_aload_n zx zb dX11_pair_26 rfl (lv_at hl 0 rfl) ?_
    refine lv_bipush (v := (-10)) zx zb dX11_pair_27 (by decide) ?_
    refine b_wi (cells' := 0) (slots' := 0) (wr := @HAppend.hAppend va_W va_W va_W _ ([((ma 0), .inl (X.2.1, 371, .inl fa))]) (@HAppend.hAppend va_W va_W va_W _ ([((ma 6), .inl (X.2.1, 55, .inl fh))]) ([((ma 9), .inl (X.2.1, 20, .inl fb))]))) G rfl rfl [0, 4] [1, 2, 3] rfl rfl rfl rfl (n_V (As := [.int (-10)]) (rest := []) (C := RX11) (T := TX11) (N := 18) (ci := 9) S G (m_bad l X m0 ma la lb n t v fr (-10) hI_n hI_t H.size) gX11_pair_X11_bad rfl rfl rfl hdV_X11_bad ⟨Nat.le_of_ble_eq_true rfl, Nat.le_of_ble_eq_true rfl⟩ [0, 4] rfl rfl 0 rfl rfl rfl hl.1 (Nat.le_of_ble_eq_true rfl) dX11_pair_29 ⟨Nat.le_of_ble_eq_true rfl, Nat.le_of_ble_eq_true rfl⟩) (fun r_27 u_27 H locs hp_27 G => ?_)
    obtain ⟨f_27, rfl⟩ : ∃ z, z = u_27 := ⟨_, rfl⟩
    have hq_27 := hp_27
    have G : wd X (va_A (@HAppend.hAppend va_W va_W va_W _ (mW m0 ma la lb n t v) (@HAppend.hAppend va_W va_W va_W _ ([((ma 0), .inl (X.2.1, 371, .inl fa))]) (@HAppend.hAppend va_W va_W va_W _ ([((ma 6), .inl (X.2.1, 55, .inl fh))]) (@HAppend.hAppend va_W va_W va_W _ ([((ma 9), .inl (X.2.1, 20, .inl fb))]) ([((ma 3), .inl (X.2.1, 3, .inl fr))]))))) sz) (va_A (@HAppend.hAppend va_W va_W va_W _ (mW m0 ma la lb n t v) (@HAppend.hAppend va_W va_W va_W _ ([((ma 0), .inl (X.2.1, 371, .inl fa))]) (@HAppend.hAppend va_W va_W va_W _ ([((ma 6), .inl (X.2.1, 55, .inl fh))]) (@HAppend.hAppend va_W va_W va_W _ ([((ma 9), .inl (X.2.1, 20, .inl fb))]) ([((ma 3), .inl (X.2.1, 3, .inl fr))]))))) sz) s (@HAppend.hAppend va_W va_W va_W _ ([((ma 0), .inl (X.2.1, 371, .inl fa))]) (@HAppend.hAppend va_W va_W va_W _ ([((ma 6), .inl (X.2.1, 55, .inl fh))]) (@HAppend.hAppend va_W va_W va_W _ ([((ma 9), .inl (X.2.1, 20, .inl fb))]) (@HAppend.hAppend va_W va_W va_W _ (mW m0 ma la lb n t v) ([((ma 3), .inl (X.2.1, 3, .inl f_27))]))))) H locs := G
    obtain rfl := hq_27
    exact e_int S zr zlk (vp_nar_int _) G (fh, d0, d1, d2, d3, d4, fb, f_27) [3, 0, 1, 2, 4] rfl rfl (Or.inr rfl) (⟨hI_fh, trivial⟩) dX11_pair_32
theorem in_X11_image_X11 : ∀ w ∈ wsX110, w ∈ wsX11_image := by decide +kernel
theorem lk_X11_image_13 : Cond.fieldLink RX11 13 "EggSpoonsModel" "kept" "[I" ∈ wsX11_image := by decide +kernel
theorem lk_X11_image_7 : Cond.fieldLink RX11 7 "EggSpoonsModel" "all" "[I" ∈ wsX11_image := by decide +kernel
theorem lk_X11_image_16 : Cond.fieldLink RX11 16 "EggSpoonsModel" "isKept" "[Z" ∈ wsX11_image := by decide +kernel
theorem in_X11_from_X11 : ∀ w ∈ wsX110, w ∈ wsX11_from := by decide +kernel
theorem lk_X11_from_16 : Cond.fieldLink RX11 16 "EggSpoonsModel" "isKept" "[Z" ∈ wsX11_from := by decide +kernel
theorem lk_X11_from_7 : Cond.fieldLink RX11 7 "EggSpoonsModel" "all" "[I" ∈ wsX11_from := by decide +kernel
theorem lk_X11_from_13 : Cond.fieldLink RX11 13 "EggSpoonsModel" "kept" "[I" ∈ wsX11_from := by decide +kernel
theorem in_X11_part_X11 : ∀ w ∈ wsX110, w ∈ wsX11_part := by decide +kernel
theorem lk_X11_part_23 : Cond.fieldLink RX11 23 "EggSpoonsModel" "below" "J" ∈ wsX11_part := by decide +kernel
theorem lk_X11_part_182 : Cond.fieldLink RX11 182 "EggSpoonsModel" "above" "J" ∈ wsX11_part := by decide +kernel
set_option maxHeartbeats 4000000 in
set_option maxRecDepth 100000 in
/-- part -/
theorem m_part (l : Launch) (X : EX) (m0 : Nat) (ma : Nat → Nat) (la : Int64) (lb : Int64) (n : Nat) (t : Nat → Nat) (v : Nat → Int32) (fr : Nat → Int32) (x1 : Int32) (hI_n : n ≤ 150) (hI_t : InT t) (sz : Nat) : Met l yX11_part wsX11_part ({ frames := 1, cells := 0, slots := 0, locals := 21 } : Room) (pE X [.ref m0, .int x1] (@HAppend.hAppend va_W va_W va_W _ (mW m0 ma la lb n t v) ([((ma 3), .inl (X.2.1, 3, .inl fr))])) sz) (qL (fun (r : Int64) (u : (Nat → Int32)) => (True)) X (fun (u : (Nat → Int32)) => @HAppend.hAppend va_W va_W va_W _ (mW m0 ma la lb n t v) ([((ma 3), .inl (X.2.1, 3, .inl u))])) (@HAppend.hAppend va_W va_W va_W _ (mW m0 ma la lb n t v) ([((ma 3), .inl (X.2.1, 3, .inl fr))])) sz) 0 0 (va_A (@HAppend.hAppend va_W va_W va_W _ (mW m0 ma la lb n t v) ([((ma 3), .inl (X.2.1, 3, .inl fr))])) sz) := by
  refine mk_met (B := (va_A (@HAppend.hAppend va_W va_W va_W _ (mW m0 ma la lb n t v) ([((ma 3), .inl (X.2.1, 3, .inl fr))])) sz)) (A := (va_A (@HAppend.hAppend va_W va_W va_W _ (mW m0 ma la lb n t v) ([((ma 3), .inl (X.2.1, 3, .inl fr))])) sz)) (cc := cX11_part) (maxL := 2) (ret := (some .long)) (by decide) rfl (Nat.le_of_ble_eq_true rfl) k_w k_a (fun p e s m below meth c S zr zlk znm zsz G ls hl => ?_)
  have S : CallFix p m c cX11_part 2 s _ wsX11_part RX11 := S
  have zx := S.1
  have zb := S.2.1
  have hl : lv_has ls 2 [(0, .ref m0), (1, .int x1)] := hl
  have hO_t := hI_t
  obtain ⟨ht0_t, ht1_t⟩ := hO_t
  refine lv_iload_n zx zb dX11_part_0 rfl (lv_at hl 1 rfl) ?_
  refine k_cutW (PP := fun Wx => ∀ (x_2 : Int64) (f_3 : Nat → Int32) (H : Heap) (locs : List Loc) (ls : Array Slot), wd X (va_A (@HAppend.hAppend va_W va_W va_W _ (mW m0 ma la lb n t v) ([((ma 3), .inl (X.2.1, 3, .inl fr))])) sz) (va_A (@HAppend.hAppend va_W va_W va_W _ (mW m0 ma la lb n t v) ([((ma 3), .inl (X.2.1, 3, .inl fr))])) sz) s (@HAppend.hAppend va_W va_W va_W _ (mW m0 ma la lb n t v) ([((ma 3), .inl (X.2.1, 3, .inl f_3))])) H locs → lv_has ls 2 [(0, .ref m0), (1, .int x1)] → Wx (F0 m 30 ls [.long x_2]) H locs) ?_ ?_
  · intro join_1
    refine lv_if_ne (tgt := 11) zx zb dX11_part_1 (by decide) (fun c_1 => ?_) (fun c_1 => ?_)
    · refine lv_iload_n zx zb dX11_part_11 rfl (lv_at hl 1 rfl) ?_
      refine lv_iconst (v := 1) zx zb dX11_part_12 (by decide) ?_
      refine lv_icmp_ne (tgt := 23) zx zb dX11_part_13 (by decide) (fun c_4 => ?_) (fun c_4 => ?_)
      · refine lv_aload_n zx zb dX11_part_23 rfl (lv_at hl 0 rfl) ?_
        refine lv_bipush (v := (-2)) zx zb dX11_part_24 (by decide) ?_
        refine b_wi (cells' := 0) (slots' := 0) (wr := []) G rfl rfl [0, 1] [] rfl rfl rfl rfl (n_V (As := [.int (-2)]) (rest := []) (C := RX11) (T := TX11) (N := 18) (ci := 9) S G (m_bad l X m0 ma la lb n t v fr (-2) hI_n hI_t s.heap.size) gX11_part_X11_bad rfl rfl rfl hdV_X11_bad ⟨Nat.le_of_ble_eq_true rfl, Nat.le_of_ble_eq_true rfl⟩ [0, 1] rfl rfl 0 rfl rfl rfl hl.1 (Nat.le_of_ble_eq_true rfl) dX11_part_26 ⟨Nat.le_of_ble_eq_true rfl, Nat.le_of_ble_eq_true rfl⟩) (fun r_5 u_5 H locs hp_5 G => ?_)
        obtain ⟨f_5, rfl⟩ : ∃ z, z = u_5 := ⟨_, rfl⟩
        have hq_5 := hp_5
        have G : wd X (va_A (@HAppend.hAppend va_W va_W va_W _ (mW m0 ma la lb n t v) ([((ma 3), .inl (X.2.1, 3, .inl fr))])) sz) (va_A (@HAppend.hAppend va_W va_W va_W _ (mW m0 ma la lb n t v) ([((ma 3), .inl (X.2.1, 3, .inl fr))])) sz) s (@HAppend.hAppend va_W va_W va_W _ (mW m0 ma la lb n t v) ([((ma 3), .inl (X.2.1, 3, .inl f_5))])) H locs := G
        obtain rfl := hq_5
        refine lv_i2l (v := (Int32.toInt64 (-2))) zx zb dX11_part_29 rfl ?_
        exact join_1 (Int32.toInt64 (-2)) f_5 _ _ _  G hl
      · refine lv_aload_n zx zb dX11_part_16 rfl (lv_at hl 0 rfl) ?_
        refine r_get (C := RX11) (T := TX11) (N := 18) (ci := 9) (v := .long lb) S in_X11_part_X11 G 0 rfl rfl 5 (by decide) lk_X11_part_23 rfl dX11_part_17 ?_
        refine lv_goto (tgt := 30) zx zb dX11_part_20 (by decide) ?_
        exact join_1 lb fr _ _ _  G hl
    · refine lv_aload_n zx zb dX11_part_4 rfl (lv_at hl 0 rfl) ?_
      refine r_get (C := RX11) (T := TX11) (N := 18) (ci := 9) (v := .long la) S in_X11_part_X11 G 0 rfl rfl 4 (by decide) lk_X11_part_182 rfl dX11_part_5 ?_
      refine lv_goto (tgt := 30) zx zb dX11_part_8 (by decide) ?_
      exact join_1 la fr _ _ _  G hl
  · intro x_2 f_3 H locs ls  G hl
    exact e_long S zr zlk G (f_3) [0, 1] rfl rfl (Or.inr rfl) (trivial) dX11_part_30
theorem mm_X11_status_c156 : Cond.constantLong RX11 156 (2) ∈ wsX11_status := by decide +kernel
theorem in_X11_status_X11 : ∀ w ∈ wsX110, w ∈ wsX11_status := by decide +kernel
theorem lk_X11_status_20 : Cond.fieldLink RX11 20 "EggSpoonsModel" "refused" "[I" ∈ wsX11_status := by decide +kernel
set_option maxHeartbeats 4000000 in
set_option maxRecDepth 100000 in
/-- status -/
theorem m_status (l : Launch) (X : EX) (m0 : Nat) (ma : Nat → Nat) (la : Int64) (lb : Int64) (n : Nat) (t : Nat → Nat) (v : Nat → Int32) (fr : Nat → Int32) (x1 : Int32) (hI_n : n ≤ 150) (hI_t : InT t) (sz : Nat) : Met l yX11_status wsX11_status ({ frames := 1, cells := 0, slots := 0, locals := 25 } : Room) (pE X [.ref m0, .int x1] (@HAppend.hAppend va_W va_W va_W _ (mW m0 ma la lb n t v) ([((ma 3), .inl (X.2.1, 3, .inl fr))])) sz) (qI (fun (r : Int32) (u : (Nat → Int32)) => (True)) X (fun (u : (Nat → Int32)) => @HAppend.hAppend va_W va_W va_W _ (mW m0 ma la lb n t v) ([((ma 3), .inl (X.2.1, 3, .inl u))])) (@HAppend.hAppend va_W va_W va_W _ (mW m0 ma la lb n t v) ([((ma 3), .inl (X.2.1, 3, .inl fr))])) sz) 0 0 (va_A (@HAppend.hAppend va_W va_W va_W _ (mW m0 ma la lb n t v) ([((ma 3), .inl (X.2.1, 3, .inl fr))])) sz) := by
  refine mk_met (B := (va_A (@HAppend.hAppend va_W va_W va_W _ (mW m0 ma la lb n t v) ([((ma 3), .inl (X.2.1, 3, .inl fr))])) sz)) (A := (va_A (@HAppend.hAppend va_W va_W va_W _ (mW m0 ma la lb n t v) ([((ma 3), .inl (X.2.1, 3, .inl fr))])) sz)) (cc := cX11_status) (maxL := 2) (ret := (some .int)) (by decide) rfl (Nat.le_of_ble_eq_true rfl) k_w k_a (fun p e s m below meth c S zr zlk znm zsz G ls hl => ?_)
  have S : CallFix p m c cX11_status 2 s _ wsX11_status RX11 := S
  have zx := S.1
  have zb := S.2.1
  have hl : lv_has ls 2 [(0, .ref m0), (1, .int x1)] := hl
  have hO_t := hI_t
  obtain ⟨ht0_t, ht1_t⟩ := hO_t
  refine lv_iload_n zx zb dX11_status_0 rfl (lv_at hl 1 rfl) ?_
  refine lv_i2l (v := (Int32.toInt64 x1)) zx zb dX11_status_1 rfl ?_
  refine lv_lconst (v := (Int32.toInt64 0)) zx zb dX11_status_2 (by decide) ?_
  refine lv_ldc2 zx zb S.2.2.2.1 (S.2.2.2.2 _ mm_X11_status_c156) dX11_status_3 ?_
  refine k_ld (v := (Int32.toInt64 2)) (by decide) ?_
  refine o_ri (cells' := 0) (slots' := 0) G rfl rfl (n_S (As := [.long (Int32.toInt64 x1), .long (Int32.toInt64 0), .long (Int32.toInt64 2)]) (rest := []) S G (m_in l X x1 0 2 s.heap.size) gX11_status_X11_in rfl rfl rfl hdS_X11_in ⟨Nat.le_of_ble_eq_true rfl, Nat.le_of_ble_eq_true rfl⟩ [] rfl rfl rfl hl.1 (Nat.le_of_ble_eq_true rfl) dX11_status_6 ⟨Nat.le_of_ble_eq_true rfl, Nat.le_of_ble_eq_true rfl⟩) (fun r_1 u_1 H locs hp_1 G => ?_)
  have G : wd X (va_A (@HAppend.hAppend va_W va_W va_W _ (mW m0 ma la lb n t v) ([((ma 3), .inl (X.2.1, 3, .inl fr))])) sz) (va_A (@HAppend.hAppend va_W va_W va_W _ (mW m0 ma la lb n t v) ([((ma 3), .inl (X.2.1, 3, .inl fr))])) sz) s (@HAppend.hAppend va_W va_W va_W _ (mW m0 ma la lb n t v) ([((ma 3), .inl (X.2.1, 3, .inl fr))])) H locs := G
  rcases hp_1 with ⟨rfl, hw_1⟩ | ⟨rfl, hw_1⟩
  · obtain ⟨j_1, ⟨ja_1, jb_1⟩, rfl⟩ := k_natR (a := 0) (b := 2) hw_1 rfl rfl (by decide) (by decide)
    refine lv_if_eq (tgt := 21) zx zb dX11_status_9 (by decide) (fun c_2 => absurd c_2 (by decide)) (fun c_2 => ?_)
    refine lv_aload_n zx zb dX11_status_12 rfl (lv_at hl 0 rfl) ?_
    refine r_get (C := RX11) (T := TX11) (N := 18) (ci := 9) (v := .ref (ma 3)) S in_X11_status_X11 G 0 rfl rfl 3 (by decide) lk_X11_status_20 rfl dX11_status_13 ?_
    refine lv_iload_n zx zb dX11_status_16 rfl (lv_at hl 1 rfl) ?_
    refine r_iald S G 1 rfl (vp_in_nI (by omega) (by decide)) rfl dX11_status_17 ?_
    refine k_itE (fun y_3 => ?_)
    refine lv_goto (tgt := 26) zx zb dX11_status_18 (by decide) ?_
    exact e_int S zr zlk (vp_nar_int _) G (fr) [0, 1] rfl rfl (Or.inr rfl) (trivial) dX11_status_26
  · refine lv_if_eq (tgt := 21) zx zb dX11_status_9 (by decide) (fun c_4 => ?_) (fun c_4 => absurd (by decide) c_4)
    refine lv_aload_n zx zb dX11_status_21 rfl (lv_at hl 0 rfl) ?_
    refine lv_iconst (v := (-1)) zx zb dX11_status_22 (by decide) ?_
    refine b_wi (cells' := 0) (slots' := 0) (wr := []) G rfl rfl [0, 1] [] rfl rfl rfl rfl (n_V (As := [.int (-1)]) (rest := []) (C := RX11) (T := TX11) (N := 18) (ci := 9) S G (m_bad l X m0 ma la lb n t v fr (-1) hI_n hI_t H.size) gX11_status_X11_bad rfl rfl rfl hdV_X11_bad ⟨Nat.le_of_ble_eq_true rfl, Nat.le_of_ble_eq_true rfl⟩ [0, 1] rfl rfl 0 rfl rfl rfl hl.1 (Nat.le_of_ble_eq_true rfl) dX11_status_23 ⟨Nat.le_of_ble_eq_true rfl, Nat.le_of_ble_eq_true rfl⟩) (fun r_5 u_5 H locs hp_5 G => ?_)
    obtain ⟨f_5, rfl⟩ : ∃ z, z = u_5 := ⟨_, rfl⟩
    have hq_5 := hp_5
    have G : wd X (va_A (@HAppend.hAppend va_W va_W va_W _ (mW m0 ma la lb n t v) ([((ma 3), .inl (X.2.1, 3, .inl fr))])) sz) (va_A (@HAppend.hAppend va_W va_W va_W _ (mW m0 ma la lb n t v) ([((ma 3), .inl (X.2.1, 3, .inl fr))])) sz) s (@HAppend.hAppend va_W va_W va_W _ (mW m0 ma la lb n t v) ([((ma 3), .inl (X.2.1, 3, .inl f_5))])) H locs := G
    obtain rfl := hq_5
    exact e_int S zr zlk (vp_nar_int _) G (f_5) [0, 1] rfl rfl (Or.inr rfl) (trivial) dX11_status_26
theorem in_X11_sumOf_X11 : ∀ w ∈ wsX110, w ∈ wsX11_sumOf := by decide +kernel
theorem lk_X11_sumOf_7 : Cond.fieldLink RX11 7 "EggSpoonsModel" "all" "[I" ∈ wsX11_sumOf := by decide +kernel
set_option maxHeartbeats 4000000 in
set_option maxRecDepth 100000 in
/-- sumOf -/
theorem m_sumOf (l : Launch) (X : EX) (m0 : Nat) (ma : Nat → Nat) (la : Int64) (lb : Int64) (n : Nat) (t : Nat → Nat) (v : Nat → Int32) (fa : Nat → Int32) (c0 : Nat) (c1 : Nat) (c2 : Nat) (c3 : Nat) (c4 : Nat) (o : Nat) (hI_n : n ≤ 150) (hI_t : InT t) (hI_fa : InA fa c0 c1 c2 c3 c4) (ho : o ≤ 20) (sz : Nat) : Met l yX11_sumOf wsX11_sumOf ({ frames := 1, cells := 0, slots := 0, locals := 20 } : Room) (pE X [.ref m0, .int (nI o)] (@HAppend.hAppend va_W va_W va_W _ (mW m0 ma la lb n t v) ([((ma 0), .inl (X.2.1, 371, .inl fa))])) sz) (qI (fun (r : Int32) (u : Unit) => True) X (fun (u : Unit) => []) [] sz) 0 0 (va_A [] sz) := by
  refine mk_met (B := (fun _ => True)) (A := (va_A [] sz)) (cc := cX11_sumOf) (maxL := 4) (ret := (some .int)) (by decide) rfl (Nat.le_of_ble_eq_true rfl) k_ro k_a (fun p e s m below meth c S zr zlk znm zsz G ls hl => ?_)
  have S : CallFix p m c cX11_sumOf 4 s _ wsX11_sumOf RX11 := S
  have zx := S.1
  have zb := S.2.1
  have hl : lv_has ls 4 [(0, .ref m0), (1, .int (nI o))] := hl
  have hO_t := hI_t
  obtain ⟨ht0_t, ht1_t⟩ := hO_t
  have hO_fa := hI_fa.2
  obtain ⟨hm0_fa, hm1_fa, hm2_fa, hm3_fa, hm4_fa⟩ := hO_fa
  refine lv_iconst (v := 0) zx zb dX11_sumOf_0 (by decide) ?_
  refine lv_istore_n (lv' := [(2, .int 0), (0, .ref m0), (1, .int (nI o))]) zx zb dX11_sumOf_1 rfl hl (by decide) rfl (fun ls hl => ?_)
  refine lv_iconst (v := 0) zx zb dX11_sumOf_2 (by decide) ?_
  refine lv_istore_n (lv' := [(3, .int 0), (2, .int 0), (0, .ref m0), (1, .int (nI o))]) zx zb dX11_sumOf_3 rfl hl (by decide) rfl (fun ls hl => ?_)
  refine k_loop (P := ∀ (zm : Nat) (k4 : Nat) (x4_2 : Int32) (H : Heap) (locs : List Loc) (ls : Array Slot), 6 + 1 ≤ k4 + zm → (k4 ≤ 6) → wd X (fun _ => True) (va_A [] sz) s (@HAppend.hAppend va_W va_W va_W _ (mW m0 ma la lb n t v) ([((ma 0), .inl (X.2.1, 371, .inl fa))])) H locs → lv_has ls 4 [(3, .int (nI k4)), (2, .int x4_2), (0, .ref m0), (1, .int (nI o))] → W p l e _ s m _ below meth c H locs _ _ _ (F0 m 4 ls [])) (fun loop => loop (6 + 1) 0 0 _ _ _ (by omega) (by omega) G hl) ?_
  intro zm
  induction zm with
  | zero => intro k4 x4_2 H locs ls zz q_hk_k4 _ _; exact absurd zz (by omega)
  | succ zm ih4 =>
    intro k4 x4_2 H locs ls zm_4 hk_k4 G hl
    refine lv_iload_n zx zb dX11_sumOf_4 rfl (lv_at hl 0 rfl) ?_
    refine lv_aload_n zx zb dX11_sumOf_5 rfl (lv_at hl 2 rfl) ?_
    refine o_ri (cells' := 0) (slots' := 0) G rfl rfl (n_V (As := []) (rest := [.int (nI k4)]) (C := RX11) (T := TX11) (N := 18) (ci := 9) S G (m_many l X m0 ma la lb n t v fa c0 c1 c2 c3 c4 hI_n hI_t hI_fa H.size) gX11_sumOf_X11_many rfl rfl rfl hdV_X11_many ⟨Nat.le_of_ble_eq_true rfl, Nat.le_of_ble_eq_true rfl⟩ [0, 1] rfl rfl 0 rfl rfl rfl hl.1 (Nat.le_of_ble_eq_true rfl) dX11_sumOf_6 ⟨Nat.le_of_ble_eq_true rfl, Nat.le_of_ble_eq_true rfl⟩) (fun r_1 u_1 H locs hp_1 G => ?_)
    have G : wd X (fun _ => True) (va_A [] sz) s (@HAppend.hAppend va_W va_W va_W _ (mW m0 ma la lb n t v) ([((ma 0), .inl (X.2.1, 371, .inl fa))])) H locs := G
    obtain rfl := hp_1
    refine lv_icmp_ge (tgt := 29) zx zb dX11_sumOf_9 (by decide) (fun c_2 => ?_) (fun c_2 => ?_)
    · have fc_2 := j_le (a := c0) (b := k4) (by omega) (by omega) c_2
      refine lv_iload_n zx zb dX11_sumOf_29 rfl (lv_at hl 1 rfl) ?_
      exact e_int S zr zlk (vp_nar_int _) G () [] rfl rfl (Or.inl rfl) (trivial) dX11_sumOf_30
    · have fc_2 := j_nle (a := c0) (b := k4) (by omega) (by omega) c_2
      refine lv_iload_n zx zb dX11_sumOf_12 rfl (lv_at hl 1 rfl) ?_
      refine lv_aload_n zx zb dX11_sumOf_13 rfl (lv_at hl 2 rfl) ?_
      refine r_get (C := RX11) (T := TX11) (N := 18) (ci := 9) (v := .ref (ma 0)) S in_X11_sumOf_X11 G 0 rfl rfl 0 (by decide) lk_X11_sumOf_7 rfl dX11_sumOf_14 ?_
      refine lv_iload_n zx zb dX11_sumOf_17 rfl (lv_at hl 3 rfl) ?_
      refine lv_iload_n zx zb dX11_sumOf_18 rfl (lv_at hl 0 rfl) ?_
      refine r_iadd (v := (nI (o + k4))) S (nI_add o k4) dX11_sumOf_19 ?_
      refine r_iald (v := (fa (o + k4))) S G 1 rfl (vp_in_nI (by omega) (by decide)) (congrArg fa (nI_clamp (by omega))) dX11_sumOf_20 ?_
      refine r_iadd (v := (x4_2 + (fa (o + k4)))) S rfl dX11_sumOf_21 ?_
      refine lv_istore_n (lv' := [(2, .int (x4_2 + (fa (o + k4)))), (3, .int (nI k4)), (0, .ref m0), (1, .int (nI o))]) zx zb dX11_sumOf_22 rfl hl (by decide) rfl (fun ls hl => ?_)
      refine lv_iinc (v := (nI (k4 + 1))) (lv' := [(3, .int (nI (k4 + 1))), (2, .int (x4_2 + (fa (o + k4)))), (0, .ref m0), (1, .int (nI o))]) zx zb dX11_sumOf_23 hl (k := 1) rfl (nI_add k4 1) (by decide) rfl (fun ls hl => ?_)
      refine lv_goto (tgt := 4) zx zb dX11_sumOf_26 (by decide) ?_
      exact ih4 (k4 + 1) (x4_2 + (fa (o + k4))) _ _ _ (by omega) (by omega) G hl
theorem in_X11_counted_X11 : ∀ w ∈ wsX110, w ∈ wsX11_counted := by decide +kernel
theorem lk_X11_counted_7 : Cond.fieldLink RX11 7 "EggSpoonsModel" "all" "[I" ∈ wsX11_counted := by decide +kernel
theorem hdV_X11_sumOf : yX11_sumOf.cls = RX11 ∧ yX11_sumOf.cls ≠ "java/lang/invoke/MethodHandle" ∧ yX11_sumOf.cls ≠ "java/lang/invoke/VarHandle" ∧ (parseMethodDescriptor yX11_sumOf.desc).map (fun d => d.parameters.length) = some 1 := by decide +kernel
theorem lk_X11_counted_205 : Cond.fieldLink RX11 205 "EggSpoonsModel" "bytesLong" "I" ∈ wsX11_counted := by decide +kernel
set_option maxHeartbeats 4000000 in
set_option maxRecDepth 100000 in
/-- counted -/
theorem m_counted (l : Launch) (X : EX) (m0 : Nat) (ma : Nat → Nat) (la : Int64) (lb : Int64) (n : Nat) (t : Nat → Nat) (v : Nat → Int32) (fa : Nat → Int32) (c0 : Nat) (c1 : Nat) (c2 : Nat) (c3 : Nat) (c4 : Nat) (o : Nat) (hI_n : n ≤ 150) (hI_t : InT t) (hI_fa : InA fa c0 c1 c2 c3 c4) (ho : o ≤ 10) (sz : Nat) : Met l yX11_counted wsX11_counted ({ frames := 2, cells := 0, slots := 0, locals := 43 } : Room) (pE X [.ref m0, .int (nI o)] (@HAppend.hAppend va_W va_W va_W _ (mW m0 ma la lb n t v) ([((ma 0), .inl (X.2.1, 371, .inl fa))])) sz) (qI (fun (r : Int32) (u : Unit) => True) X (fun (u : Unit) => []) [] sz) 0 0 (va_A [] sz) := by
  refine mk_met (B := (fun _ => True)) (A := (va_A [] sz)) (cc := cX11_counted) (maxL := 2) (ret := (some .int)) (by decide) rfl (Nat.le_of_ble_eq_true rfl) k_ro k_a (fun p e s m below meth c S zr zlk znm zsz G ls hl => ?_)
  have S : CallFix p m c cX11_counted 2 s _ wsX11_counted RX11 := S
  have zx := S.1
  have zb := S.2.1
  have hl : lv_has ls 2 [(0, .ref m0), (1, .int (nI o))] := hl
  have hO_t := hI_t
  obtain ⟨ht0_t, ht1_t⟩ := hO_t
  have hO_fa := hI_fa.2
  obtain ⟨hm0_fa, hm1_fa, hm2_fa, hm3_fa, hm4_fa⟩ := hO_fa
  rcases k_11c (show o < 11 by omega) with rfl | rfl | rfl | rfl | rfl | rfl | rfl | rfl | rfl | rfl | rfl
  · have hl : lv_has ls 2 [(0, .ref m0), (1, .int 0)] := hl
    refine lv_iload_n zx zb dX11_counted_0 rfl (lv_at hl 1 rfl) ?_
    refine lv_tableIn (off := 59) (tgt := 60) zx zb dX11_counted_1 (by decide) (by decide) rfl (by decide) ?_
    refine lv_aload_n zx zb dX11_counted_60 rfl (lv_at hl 0 rfl) ?_
    refine o_ri (cells' := 0) (slots' := 0) G rfl rfl (n_V (As := []) (rest := []) (C := RX11) (T := TX11) (N := 18) (ci := 9) S G (m_many l X m0 ma la lb n t v fa c0 c1 c2 c3 c4 hI_n hI_t hI_fa s.heap.size) gX11_counted_X11_many rfl rfl rfl hdV_X11_many ⟨Nat.le_of_ble_eq_true rfl, Nat.le_of_ble_eq_true rfl⟩ [0, 1] rfl rfl 0 rfl rfl rfl hl.1 (Nat.le_of_ble_eq_true rfl) dX11_counted_61 ⟨Nat.le_of_ble_eq_true rfl, Nat.le_of_ble_eq_true rfl⟩) (fun r_1 u_1 H locs hp_1 G => ?_)
    have G : wd X (fun _ => True) (va_A [] sz) s (@HAppend.hAppend va_W va_W va_W _ (mW m0 ma la lb n t v) ([((ma 0), .inl (X.2.1, 371, .inl fa))])) H locs := G
    obtain rfl := hp_1
    exact e_int S zr zlk (vp_nar_int _) G () [] rfl rfl (Or.inl rfl) (trivial) dX11_counted_64
  · have hl : lv_has ls 2 [(0, .ref m0), (1, .int 1)] := hl
    refine lv_iload_n zx zb dX11_counted_0 rfl (lv_at hl 1 rfl) ?_
    refine lv_tableIn (off := 64) (tgt := 65) zx zb dX11_counted_1 (by decide) (by decide) rfl (by decide) ?_
    refine lv_aload_n zx zb dX11_counted_65 rfl (lv_at hl 0 rfl) ?_
    refine r_get (C := RX11) (T := TX11) (N := 18) (ci := 9) (v := .ref (ma 0)) S in_X11_counted_X11 G 0 rfl rfl 0 (by decide) lk_X11_counted_7 rfl dX11_counted_66 ?_
    refine o_ri (cells' := 0) (slots' := 0) G rfl rfl (n_S (As := [.ref (ma 0)]) (rest := []) S G (m_manyHome l X (ma 0) 371 fa c0 c1 c2 c3 c4 hI_fa (by omega) (by omega) s.heap.size) gX11_counted_X11_manyHome rfl rfl rfl hdS_X11_manyHome ⟨Nat.le_of_ble_eq_true rfl, Nat.le_of_ble_eq_true rfl⟩ [1] rfl rfl rfl hl.1 (Nat.le_of_ble_eq_true rfl) dX11_counted_69 ⟨Nat.le_of_ble_eq_true rfl, Nat.le_of_ble_eq_true rfl⟩) (fun r_2 u_2 H locs hp_2 G => ?_)
    have G : wd X (fun _ => True) (va_A [] sz) s (@HAppend.hAppend va_W va_W va_W _ (mW m0 ma la lb n t v) ([((ma 0), .inl (X.2.1, 371, .inl fa))])) H locs := G
    exact e_int S zr zlk (vp_nar_int _) G () [] rfl rfl (Or.inl rfl) (trivial) dX11_counted_72
  · have hl : lv_has ls 2 [(0, .ref m0), (1, .int 2)] := hl
    refine lv_iload_n zx zb dX11_counted_0 rfl (lv_at hl 1 rfl) ?_
    refine lv_tableIn (off := 72) (tgt := 73) zx zb dX11_counted_1 (by decide) (by decide) rfl (by decide) ?_
    refine lv_aload_n zx zb dX11_counted_73 rfl (lv_at hl 0 rfl) ?_
    refine r_get (C := RX11) (T := TX11) (N := 18) (ci := 9) (v := .ref (ma 0)) S in_X11_counted_X11 G 0 rfl rfl 0 (by decide) lk_X11_counted_7 rfl dX11_counted_74 ?_
    refine lv_bipush (v := 36) zx zb dX11_counted_77 (by decide) ?_
    refine r_iald S G 1 rfl (k_vp (by decide)) rfl dX11_counted_79 ?_
    refine k_itE (fun y_3 => ?_)
    exact e_int S zr zlk (vp_nar_int _) G () [] rfl rfl (Or.inl rfl) (trivial) dX11_counted_80
  · have hl : lv_has ls 2 [(0, .ref m0), (1, .int 3)] := hl
    refine lv_iload_n zx zb dX11_counted_0 rfl (lv_at hl 1 rfl) ?_
    refine lv_tableIn (off := 80) (tgt := 81) zx zb dX11_counted_1 (by decide) (by decide) rfl (by decide) ?_
    refine lv_aload_n zx zb dX11_counted_81 rfl (lv_at hl 0 rfl) ?_
    refine r_get (C := RX11) (T := TX11) (N := 18) (ci := 9) (v := .ref (ma 0)) S in_X11_counted_X11 G 0 rfl rfl 0 (by decide) lk_X11_counted_7 rfl dX11_counted_82 ?_
    refine lv_bipush (v := 35) zx zb dX11_counted_85 (by decide) ?_
    refine r_iald S G 1 rfl (k_vp (by decide)) rfl dX11_counted_87 ?_
    refine k_itE (fun y_4 => ?_)
    exact e_int S zr zlk (vp_nar_int _) G () [] rfl rfl (Or.inl rfl) (trivial) dX11_counted_88
  · have hl : lv_has ls 2 [(0, .ref m0), (1, .int 4)] := hl
    refine lv_iload_n zx zb dX11_counted_0 rfl (lv_at hl 1 rfl) ?_
    refine lv_tableIn (off := 88) (tgt := 89) zx zb dX11_counted_1 (by decide) (by decide) rfl (by decide) ?_
    refine lv_aload_n zx zb dX11_counted_89 rfl (lv_at hl 0 rfl) ?_
    refine lv_iconst (v := 5) zx zb dX11_counted_90 (by decide) ?_
    refine o_ri (cells' := 0) (slots' := 0) G rfl rfl (n_V (As := [.int 5]) (rest := []) (C := RX11) (T := TX11) (N := 18) (ci := 9) S G (m_sumOf l X m0 ma la lb n t v fa c0 c1 c2 c3 c4 5 hI_n hI_t hI_fa (by omega) s.heap.size) gX11_counted_X11_sumOf rfl rfl rfl hdV_X11_sumOf ⟨Nat.le_of_ble_eq_true rfl, Nat.le_of_ble_eq_true rfl⟩ [0, 1] rfl rfl 0 rfl rfl rfl hl.1 (Nat.le_of_ble_eq_true rfl) dX11_counted_91 ⟨Nat.le_of_ble_eq_true rfl, Nat.le_of_ble_eq_true rfl⟩) (fun r_5 u_5 H locs hp_5 G => ?_)
    have G : wd X (fun _ => True) (va_A [] sz) s (@HAppend.hAppend va_W va_W va_W _ (mW m0 ma la lb n t v) ([((ma 0), .inl (X.2.1, 371, .inl fa))])) H locs := G
    exact e_int S zr zlk (vp_nar_int _) G () [] rfl rfl (Or.inl rfl) (trivial) dX11_counted_94
  · have hl : lv_has ls 2 [(0, .ref m0), (1, .int 5)] := hl
    refine lv_iload_n zx zb dX11_counted_0 rfl (lv_at hl 1 rfl) ?_
    refine lv_tableIn (off := 94) (tgt := 95) zx zb dX11_counted_1 (by decide) (by decide) rfl (by decide) ?_
    refine lv_aload_n zx zb dX11_counted_95 rfl (lv_at hl 0 rfl) ?_
    refine lv_bipush (v := 17) zx zb dX11_counted_96 (by decide) ?_
    refine o_ri (cells' := 0) (slots' := 0) G rfl rfl (n_V (As := [.int 17]) (rest := []) (C := RX11) (T := TX11) (N := 18) (ci := 9) S G (m_sumOf l X m0 ma la lb n t v fa c0 c1 c2 c3 c4 17 hI_n hI_t hI_fa (by omega) s.heap.size) gX11_counted_X11_sumOf rfl rfl rfl hdV_X11_sumOf ⟨Nat.le_of_ble_eq_true rfl, Nat.le_of_ble_eq_true rfl⟩ [0, 1] rfl rfl 0 rfl rfl rfl hl.1 (Nat.le_of_ble_eq_true rfl) dX11_counted_98 ⟨Nat.le_of_ble_eq_true rfl, Nat.le_of_ble_eq_true rfl⟩) (fun r_6 u_6 H locs hp_6 G => ?_)
    have G : wd X (fun _ => True) (va_A [] sz) s (@HAppend.hAppend va_W va_W va_W _ (mW m0 ma la lb n t v) ([((ma 0), .inl (X.2.1, 371, .inl fa))])) H locs := G
    exact e_int S zr zlk (vp_nar_int _) G () [] rfl rfl (Or.inl rfl) (trivial) dX11_counted_101
  · have hl : lv_has ls 2 [(0, .ref m0), (1, .int 6)] := hl
    refine lv_iload_n zx zb dX11_counted_0 rfl (lv_at hl 1 rfl) ?_
    refine lv_tableIn (off := 106) (tgt := 107) zx zb dX11_counted_1 (by decide) (by decide) rfl (by decide) ?_
    refine lv_aload_n zx zb dX11_counted_107 rfl (lv_at hl 0 rfl) ?_
    refine r_get (C := RX11) (T := TX11) (N := 18) (ci := 9) (v := .ref (ma 0)) S in_X11_counted_X11 G 0 rfl rfl 0 (by decide) lk_X11_counted_7 rfl dX11_counted_108 ?_
    refine lv_iconst (v := 1) zx zb dX11_counted_111 (by decide) ?_
    refine lv_iload_n zx zb dX11_counted_112 rfl (lv_at hl 1 rfl) ?_
    refine r_iadd (v := 7) S (by decide) dX11_counted_113 ?_
    refine lv_bipush (v := 6) zx zb dX11_counted_114 (by decide) ?_
    refine r_isub (v := 1) S (by decide) dX11_counted_116 ?_
    refine r_iald (v := (nI c1)) S G 1 rfl (k_vp (by decide)) hI_fa.1.2.1 dX11_counted_117 ?_
    exact e_int S zr zlk (vp_nar_int _) G () [] rfl rfl (Or.inl rfl) (trivial) dX11_counted_118
  · have hl : lv_has ls 2 [(0, .ref m0), (1, .int 7)] := hl
    refine lv_iload_n zx zb dX11_counted_0 rfl (lv_at hl 1 rfl) ?_
    refine lv_tableIn (off := 106) (tgt := 107) zx zb dX11_counted_1 (by decide) (by decide) rfl (by decide) ?_
    refine lv_aload_n zx zb dX11_counted_107 rfl (lv_at hl 0 rfl) ?_
    refine r_get (C := RX11) (T := TX11) (N := 18) (ci := 9) (v := .ref (ma 0)) S in_X11_counted_X11 G 0 rfl rfl 0 (by decide) lk_X11_counted_7 rfl dX11_counted_108 ?_
    refine lv_iconst (v := 1) zx zb dX11_counted_111 (by decide) ?_
    refine lv_iload_n zx zb dX11_counted_112 rfl (lv_at hl 1 rfl) ?_
    refine r_iadd (v := 8) S (by decide) dX11_counted_113 ?_
    refine lv_bipush (v := 6) zx zb dX11_counted_114 (by decide) ?_
    refine r_isub (v := 2) S (by decide) dX11_counted_116 ?_
    refine r_iald (v := (nI c2)) S G 1 rfl (k_vp (by decide)) hI_fa.1.2.2.1 dX11_counted_117 ?_
    exact e_int S zr zlk (vp_nar_int _) G () [] rfl rfl (Or.inl rfl) (trivial) dX11_counted_118
  · have hl : lv_has ls 2 [(0, .ref m0), (1, .int 8)] := hl
    refine lv_iload_n zx zb dX11_counted_0 rfl (lv_at hl 1 rfl) ?_
    refine lv_tableIn (off := 106) (tgt := 107) zx zb dX11_counted_1 (by decide) (by decide) rfl (by decide) ?_
    refine lv_aload_n zx zb dX11_counted_107 rfl (lv_at hl 0 rfl) ?_
    refine r_get (C := RX11) (T := TX11) (N := 18) (ci := 9) (v := .ref (ma 0)) S in_X11_counted_X11 G 0 rfl rfl 0 (by decide) lk_X11_counted_7 rfl dX11_counted_108 ?_
    refine lv_iconst (v := 1) zx zb dX11_counted_111 (by decide) ?_
    refine lv_iload_n zx zb dX11_counted_112 rfl (lv_at hl 1 rfl) ?_
    refine r_iadd (v := 9) S (by decide) dX11_counted_113 ?_
    refine lv_bipush (v := 6) zx zb dX11_counted_114 (by decide) ?_
    refine r_isub (v := 3) S (by decide) dX11_counted_116 ?_
    refine r_iald (v := (nI c3)) S G 1 rfl (k_vp (by decide)) hI_fa.1.2.2.2.1 dX11_counted_117 ?_
    exact e_int S zr zlk (vp_nar_int _) G () [] rfl rfl (Or.inl rfl) (trivial) dX11_counted_118
  · have hl : lv_has ls 2 [(0, .ref m0), (1, .int 9)] := hl
    refine lv_iload_n zx zb dX11_counted_0 rfl (lv_at hl 1 rfl) ?_
    refine lv_tableIn (off := 106) (tgt := 107) zx zb dX11_counted_1 (by decide) (by decide) rfl (by decide) ?_
    refine lv_aload_n zx zb dX11_counted_107 rfl (lv_at hl 0 rfl) ?_
    refine r_get (C := RX11) (T := TX11) (N := 18) (ci := 9) (v := .ref (ma 0)) S in_X11_counted_X11 G 0 rfl rfl 0 (by decide) lk_X11_counted_7 rfl dX11_counted_108 ?_
    refine lv_iconst (v := 1) zx zb dX11_counted_111 (by decide) ?_
    refine lv_iload_n zx zb dX11_counted_112 rfl (lv_at hl 1 rfl) ?_
    refine r_iadd (v := 10) S (by decide) dX11_counted_113 ?_
    refine lv_bipush (v := 6) zx zb dX11_counted_114 (by decide) ?_
    refine r_isub (v := 4) S (by decide) dX11_counted_116 ?_
    refine r_iald (v := (nI c4)) S G 1 rfl (k_vp (by decide)) hI_fa.1.2.2.2.2 dX11_counted_117 ?_
    exact e_int S zr zlk (vp_nar_int _) G () [] rfl rfl (Or.inl rfl) (trivial) dX11_counted_118
  · have hl : lv_has ls 2 [(0, .ref m0), (1, .int 10)] := hl
    refine lv_iload_n zx zb dX11_counted_0 rfl (lv_at hl 1 rfl) ?_
    refine lv_tableIn (off := 101) (tgt := 102) zx zb dX11_counted_1 (by decide) (by decide) rfl (by decide) ?_
    refine lv_aload_n zx zb dX11_counted_102 rfl (lv_at hl 0 rfl) ?_
    refine r_get (C := RX11) (T := TX11) (N := 18) (ci := 9) (v := .int (nI n)) S in_X11_counted_X11 G 0 rfl rfl 11 (by decide) lk_X11_counted_205 rfl dX11_counted_103 ?_
    exact e_int S zr zlk (vp_nar_int _) G () [] rfl rfl (Or.inl rfl) (trivial) dX11_counted_106
theorem mm_X11_count_c64 : Cond.constantLong RX11 64 (10) ∈ wsX11_count := by decide +kernel
theorem hdV_X11_counted : yX11_counted.cls = RX11 ∧ yX11_counted.cls ≠ "java/lang/invoke/MethodHandle" ∧ yX11_counted.cls ≠ "java/lang/invoke/VarHandle" ∧ (parseMethodDescriptor yX11_counted.desc).map (fun d => d.parameters.length) = some 1 := by decide +kernel
set_option maxHeartbeats 4000000 in
set_option maxRecDepth 100000 in
/-- count -/
theorem m_count (l : Launch) (X : EX) (m0 : Nat) (ma : Nat → Nat) (la : Int64) (lb : Int64) (n : Nat) (t : Nat → Nat) (v : Nat → Int32) (fa : Nat → Int32) (c0 : Nat) (c1 : Nat) (c2 : Nat) (c3 : Nat) (c4 : Nat) (fr : Nat → Int32) (x1 : Int32) (hI_n : n ≤ 150) (hI_t : InT t) (hI_fa : InA fa c0 c1 c2 c3 c4) (sz : Nat) : Met l yX11_count wsX11_count ({ frames := 3, cells := 0, slots := 0, locals := 64 } : Room) (pE X [.ref m0, .int x1] (@HAppend.hAppend va_W va_W va_W _ (mW m0 ma la lb n t v) (@HAppend.hAppend va_W va_W va_W _ ([((ma 0), .inl (X.2.1, 371, .inl fa))]) ([((ma 3), .inl (X.2.1, 3, .inl fr))]))) sz) (qI (fun (r : Int32) (u : (Nat → Int32)) => (True)) X (fun (u : (Nat → Int32)) => @HAppend.hAppend va_W va_W va_W _ (mW m0 ma la lb n t v) (@HAppend.hAppend va_W va_W va_W _ ([((ma 0), .inl (X.2.1, 371, .inl fa))]) ([((ma 3), .inl (X.2.1, 3, .inl u))]))) (@HAppend.hAppend va_W va_W va_W _ (mW m0 ma la lb n t v) (@HAppend.hAppend va_W va_W va_W _ ([((ma 0), .inl (X.2.1, 371, .inl fa))]) ([((ma 3), .inl (X.2.1, 3, .inl fr))]))) sz) 0 0 (va_A (@HAppend.hAppend va_W va_W va_W _ (mW m0 ma la lb n t v) (@HAppend.hAppend va_W va_W va_W _ ([((ma 0), .inl (X.2.1, 371, .inl fa))]) ([((ma 3), .inl (X.2.1, 3, .inl fr))]))) sz) := by
  refine mk_met (B := (va_A (@HAppend.hAppend va_W va_W va_W _ (mW m0 ma la lb n t v) (@HAppend.hAppend va_W va_W va_W _ ([((ma 0), .inl (X.2.1, 371, .inl fa))]) ([((ma 3), .inl (X.2.1, 3, .inl fr))]))) sz)) (A := (va_A (@HAppend.hAppend va_W va_W va_W _ (mW m0 ma la lb n t v) (@HAppend.hAppend va_W va_W va_W _ ([((ma 0), .inl (X.2.1, 371, .inl fa))]) ([((ma 3), .inl (X.2.1, 3, .inl fr))]))) sz)) (cc := cX11_count) (maxL := 2) (ret := (some .int)) (by decide) rfl (Nat.le_of_ble_eq_true rfl) k_w k_a (fun p e s m below meth c S zr zlk znm zsz G ls hl => ?_)
  have S : CallFix p m c cX11_count 2 s _ wsX11_count RX11 := S
  have zx := S.1
  have zb := S.2.1
  have hl : lv_has ls 2 [(0, .ref m0), (1, .int x1)] := hl
  have hO_t := hI_t
  obtain ⟨ht0_t, ht1_t⟩ := hO_t
  have hO_fa := hI_fa.2
  obtain ⟨hm0_fa, hm1_fa, hm2_fa, hm3_fa, hm4_fa⟩ := hO_fa
  refine lv_iload_n zx zb dX11_count_0 rfl (lv_at hl 1 rfl) ?_
  refine lv_i2l (v := (Int32.toInt64 x1)) zx zb dX11_count_1 rfl ?_
  refine lv_lconst (v := (Int32.toInt64 0)) zx zb dX11_count_2 (by decide) ?_
  refine lv_ldc2 zx zb S.2.2.2.1 (S.2.2.2.2 _ mm_X11_count_c64) dX11_count_3 ?_
  refine k_ld (v := (Int32.toInt64 10)) (by decide) ?_
  refine o_ri (cells' := 0) (slots' := 0) G rfl rfl (n_S (As := [.long (Int32.toInt64 x1), .long (Int32.toInt64 0), .long (Int32.toInt64 10)]) (rest := []) S G (m_in l X x1 0 10 s.heap.size) gX11_count_X11_in rfl rfl rfl hdS_X11_in ⟨Nat.le_of_ble_eq_true rfl, Nat.le_of_ble_eq_true rfl⟩ [] rfl rfl rfl hl.1 (Nat.le_of_ble_eq_true rfl) dX11_count_6 ⟨Nat.le_of_ble_eq_true rfl, Nat.le_of_ble_eq_true rfl⟩) (fun r_1 u_1 H locs hp_1 G => ?_)
  have G : wd X (va_A (@HAppend.hAppend va_W va_W va_W _ (mW m0 ma la lb n t v) (@HAppend.hAppend va_W va_W va_W _ ([((ma 0), .inl (X.2.1, 371, .inl fa))]) ([((ma 3), .inl (X.2.1, 3, .inl fr))]))) sz) (va_A (@HAppend.hAppend va_W va_W va_W _ (mW m0 ma la lb n t v) (@HAppend.hAppend va_W va_W va_W _ ([((ma 0), .inl (X.2.1, 371, .inl fa))]) ([((ma 3), .inl (X.2.1, 3, .inl fr))]))) sz) s (@HAppend.hAppend va_W va_W va_W _ (mW m0 ma la lb n t v) (@HAppend.hAppend va_W va_W va_W _ ([((ma 0), .inl (X.2.1, 371, .inl fa))]) ([((ma 3), .inl (X.2.1, 3, .inl fr))]))) H locs := G
  rcases hp_1 with ⟨rfl, hw_1⟩ | ⟨rfl, hw_1⟩
  · obtain ⟨j_1, ⟨ja_1, jb_1⟩, rfl⟩ := k_natR (a := 0) (b := 10) hw_1 rfl rfl (by decide) (by decide)
    refine lv_if_eq (tgt := 20) zx zb dX11_count_9 (by decide) (fun c_2 => absurd c_2 (by decide)) (fun c_2 => ?_)
    refine lv_aload_n zx zb dX11_count_12 rfl (lv_at hl 0 rfl) ?_
    refine lv_iload_n zx zb dX11_count_13 rfl (lv_at hl 1 rfl) ?_
    refine o_ri (cells' := 0) (slots' := 0) G rfl rfl (n_V (As := [.int (nI j_1)]) (rest := []) (C := RX11) (T := TX11) (N := 18) (ci := 9) S G (m_counted l X m0 ma la lb n t v fa c0 c1 c2 c3 c4 j_1 hI_n hI_t hI_fa (by omega) H.size) gX11_count_X11_counted rfl rfl rfl hdV_X11_counted ⟨Nat.le_of_ble_eq_true rfl, Nat.le_of_ble_eq_true rfl⟩ [0, 1] rfl rfl 0 rfl rfl rfl hl.1 (Nat.le_of_ble_eq_true rfl) dX11_count_14 ⟨Nat.le_of_ble_eq_true rfl, Nat.le_of_ble_eq_true rfl⟩) (fun r_3 u_3 H locs hp_3 G => ?_)
    have G : wd X (va_A (@HAppend.hAppend va_W va_W va_W _ (mW m0 ma la lb n t v) (@HAppend.hAppend va_W va_W va_W _ ([((ma 0), .inl (X.2.1, 371, .inl fa))]) ([((ma 3), .inl (X.2.1, 3, .inl fr))]))) sz) (va_A (@HAppend.hAppend va_W va_W va_W _ (mW m0 ma la lb n t v) (@HAppend.hAppend va_W va_W va_W _ ([((ma 0), .inl (X.2.1, 371, .inl fa))]) ([((ma 3), .inl (X.2.1, 3, .inl fr))]))) sz) s (@HAppend.hAppend va_W va_W va_W _ (mW m0 ma la lb n t v) (@HAppend.hAppend va_W va_W va_W _ ([((ma 0), .inl (X.2.1, 371, .inl fa))]) ([((ma 3), .inl (X.2.1, 3, .inl fr))]))) H locs := G
    refine lv_goto (tgt := 26) zx zb dX11_count_17 (by decide) ?_
    exact e_int S zr zlk (vp_nar_int _) G (fr) [0, 1, 2] rfl rfl (Or.inr rfl) (trivial) dX11_count_26
  · refine lv_if_eq (tgt := 20) zx zb dX11_count_9 (by decide) (fun c_4 => ?_) (fun c_4 => absurd (by decide) c_4)
    refine lv_aload_n zx zb dX11_count_20 rfl (lv_at hl 0 rfl) ?_
    refine lv_bipush (v := (-2)) zx zb dX11_count_21 (by decide) ?_
    refine b_wi (cells' := 0) (slots' := 0) (wr := [((ma 0), .inl (X.2.1, 371, .inl fa))]) G rfl rfl [0, 2] [1] rfl rfl rfl rfl (n_V (As := [.int (-2)]) (rest := []) (C := RX11) (T := TX11) (N := 18) (ci := 9) S G (m_bad l X m0 ma la lb n t v fr (-2) hI_n hI_t H.size) gX11_count_X11_bad rfl rfl rfl hdV_X11_bad ⟨Nat.le_of_ble_eq_true rfl, Nat.le_of_ble_eq_true rfl⟩ [0, 2] rfl rfl 0 rfl rfl rfl hl.1 (Nat.le_of_ble_eq_true rfl) dX11_count_23 ⟨Nat.le_of_ble_eq_true rfl, Nat.le_of_ble_eq_true rfl⟩) (fun r_5 u_5 H locs hp_5 G => ?_)
    obtain ⟨f_5, rfl⟩ : ∃ z, z = u_5 := ⟨_, rfl⟩
    have hq_5 := hp_5
    have G : wd X (va_A (@HAppend.hAppend va_W va_W va_W _ (mW m0 ma la lb n t v) (@HAppend.hAppend va_W va_W va_W _ ([((ma 0), .inl (X.2.1, 371, .inl fa))]) ([((ma 3), .inl (X.2.1, 3, .inl fr))]))) sz) (va_A (@HAppend.hAppend va_W va_W va_W _ (mW m0 ma la lb n t v) (@HAppend.hAppend va_W va_W va_W _ ([((ma 0), .inl (X.2.1, 371, .inl fa))]) ([((ma 3), .inl (X.2.1, 3, .inl fr))]))) sz) s (@HAppend.hAppend va_W va_W va_W _ ([((ma 0), .inl (X.2.1, 371, .inl fa))]) (@HAppend.hAppend va_W va_W va_W _ (mW m0 ma la lb n t v) ([((ma 3), .inl (X.2.1, 3, .inl f_5))]))) H locs := G
    obtain rfl := hq_5
    exact e_int S zr zlk (vp_nar_int _) G (f_5) [1, 0, 2] rfl rfl (Or.inr rfl) (trivial) dX11_count_26
theorem mm_X11_sums_c271 : Cond.constantLong RX11 271 (31) ∈ wsX11_sums := by decide +kernel
theorem in_X11_sums_X11 : ∀ w ∈ wsX110, w ∈ wsX11_sums := by decide +kernel
theorem lk_X11_sums_7 : Cond.fieldLink RX11 7 "EggSpoonsModel" "all" "[I" ∈ wsX11_sums := by decide +kernel
set_option maxHeartbeats 4000000 in
set_option maxRecDepth 100000 in
/-- sums -/
theorem m_sums (l : Launch) (X : EX) (m0 : Nat) (ma : Nat → Nat) (la : Int64) (lb : Int64) (n : Nat) (t : Nat → Nat) (v : Nat → Int32) (fa : Nat → Int32) (c0 : Nat) (c1 : Nat) (c2 : Nat) (c3 : Nat) (c4 : Nat) (x1 : Int64) (o : Nat) (z : Nat) (hI_n : n ≤ 150) (hI_t : InT t) (hI_fa : InA fa c0 c1 c2 c3 c4) (ho : o + z ≤ 371) (sz : Nat) : Met l yX11_sums wsX11_sums ({ frames := 0, cells := 0, slots := 0, locals := 0 } : Room) (pE X [.ref m0, .long x1, .int (nI o), .int (nI z)] (@HAppend.hAppend va_W va_W va_W _ (mW m0 ma la lb n t v) ([((ma 0), .inl (X.2.1, 371, .inl fa))])) sz) (qL (fun (r : Int64) (u : Unit) => True) X (fun (u : Unit) => []) [] sz) 0 0 (va_A [] sz) := by
  refine mk_met (B := (fun _ => True)) (A := (va_A [] sz)) (cc := cX11_sums) (maxL := 8) (ret := (some .long)) (by decide) rfl (Nat.le_of_ble_eq_true rfl) k_ro k_a (fun p e s m below meth c S zr zlk znm zsz G ls hl => ?_)
  have S : CallFix p m c cX11_sums 8 s _ wsX11_sums RX11 := S
  have zx := S.1
  have zb := S.2.1
  have hl : lv_has ls 8 [(0, .ref m0), (1, .long x1), (3, .int (nI o)), (4, .int (nI z))] := hl
  have hO_t := hI_t
  obtain ⟨ht0_t, ht1_t⟩ := hO_t
  have hO_fa := hI_fa.2
  obtain ⟨hm0_fa, hm1_fa, hm2_fa, hm3_fa, hm4_fa⟩ := hO_fa
  refine lv_lload_n zx zb dX11_sums_0 rfl (lv_at hl 1 rfl) ?_
  refine lv_lstore (lv' := [(5, .long x1), (0, .ref m0), (1, .long x1), (3, .int (nI o)), (4, .int (nI z))]) zx zb dX11_sums_1 hl (by decide) rfl (fun ls hl => ?_)
  refine lv_iconst (v := 0) zx zb dX11_sums_3 (by decide) ?_
  refine lv_istore (lv' := [(7, .int 0), (5, .long x1), (0, .ref m0), (1, .long x1), (3, .int (nI o)), (4, .int (nI z))]) zx zb dX11_sums_4 hl (by decide) rfl (fun ls hl => ?_)
  refine k_loop (P := ∀ (zm : Nat) (k6 : Nat) (x6_5 : Int64) (H : Heap) (locs : List Loc) (ls : Array Slot), z + 1 ≤ k6 + zm → (k6 ≤ z) → wd X (fun _ => True) (va_A [] sz) s (@HAppend.hAppend va_W va_W va_W _ (mW m0 ma la lb n t v) ([((ma 0), .inl (X.2.1, 371, .inl fa))])) H locs → lv_has ls 8 [(7, .int (nI k6)), (5, .long x6_5), (0, .ref m0), (1, .long x1), (3, .int (nI o)), (4, .int (nI z))] → W p l e _ s m _ below meth c H locs _ _ _ (F0 m 6 ls [])) (fun loop => loop (z + 1) 0 x1 _ _ _ (by omega) (by omega) G hl) ?_
  intro zm
  induction zm with
  | zero => intro k6 x6_5 H locs ls zz q_hk_k6 _ _; exact absurd zz (by omega)
  | succ zm ih6 =>
    intro k6 x6_5 H locs ls zm_6 hk_k6 G hl
    refine lv_iload zx zb dX11_sums_6 (lv_at hl 0 rfl) ?_
    refine lv_iload zx zb dX11_sums_8 (lv_at hl 5 rfl) ?_
    refine lv_icmp_ge (tgt := 38) zx zb dX11_sums_10 (by decide) (fun c_1 => ?_) (fun c_1 => ?_)
    · have fc_1 := j_le (a := z) (b := k6) (by omega) (by omega) c_1
      refine lv_lload zx zb dX11_sums_38 (lv_at hl 1 rfl) ?_
      exact e_long S zr zlk G () [] rfl rfl (Or.inl rfl) (trivial) dX11_sums_40
    · have fc_1 := j_nle (a := z) (b := k6) (by omega) (by omega) c_1
      refine lv_ldc2 zx zb S.2.2.2.1 (S.2.2.2.2 _ mm_X11_sums_c271) dX11_sums_13 ?_
      refine k_ld (v := (Int32.toInt64 31)) (by decide) ?_
      refine lv_lload zx zb dX11_sums_16 (lv_at hl 1 rfl) ?_
      refine r_lmul (v := ((Int32.toInt64 31) * x6_5)) S rfl dX11_sums_18 ?_
      refine lv_aload_n zx zb dX11_sums_19 rfl (lv_at hl 2 rfl) ?_
      refine r_get (C := RX11) (T := TX11) (N := 18) (ci := 9) (v := .ref (ma 0)) S in_X11_sums_X11 G 0 rfl rfl 0 (by decide) lk_X11_sums_7 rfl dX11_sums_20 ?_
      refine lv_iload_n zx zb dX11_sums_23 rfl (lv_at hl 4 rfl) ?_
      refine lv_iload zx zb dX11_sums_24 (lv_at hl 0 rfl) ?_
      refine r_iadd (v := (nI (o + k6))) S (nI_add o k6) dX11_sums_26 ?_
      refine r_iald (v := (fa (o + k6))) S G 1 rfl (vp_in_nI (by omega) (by decide)) (congrArg fa (nI_clamp (by omega))) dX11_sums_27 ?_
      refine lv_i2l (v := (Int32.toInt64 (fa (o + k6)))) zx zb dX11_sums_28 rfl ?_
      refine r_ladd (v := (((Int32.toInt64 31) * x6_5) + (Int32.toInt64 (fa (o + k6))))) S rfl dX11_sums_29 ?_
      refine lv_lstore (lv' := [(5, .long (((Int32.toInt64 31) * x6_5) + (Int32.toInt64 (fa (o + k6))))), (7, .int (nI k6)), (0, .ref m0), (1, .long x1), (3, .int (nI o)), (4, .int (nI z))]) zx zb dX11_sums_30 hl (by decide) rfl (fun ls hl => ?_)
      refine lv_iinc (v := (nI (k6 + 1))) (lv' := [(7, .int (nI (k6 + 1))), (5, .long (((Int32.toInt64 31) * x6_5) + (Int32.toInt64 (fa (o + k6))))), (0, .ref m0), (1, .long x1), (3, .int (nI o)), (4, .int (nI z))]) zx zb dX11_sums_32 hl (k := 1) rfl (nI_add k6 1) (by decide) rfl (fun ls hl => ?_)
      refine lv_goto (tgt := 6) zx zb dX11_sums_35 (by decide) ?_
      exact ih6 (k6 + 1) (((Int32.toInt64 31) * x6_5) + (Int32.toInt64 (fa (o + k6)))) _ _ _ (by omega) (by omega) G hl
theorem mm_X11_digest_c273 : Cond.constantLong RX11 273 (1789) ∈ wsX11_digest := by decide +kernel
theorem mm_X11_digest_c271 : Cond.constantLong RX11 271 (31) ∈ wsX11_digest := by decide +kernel
theorem in_X11_digest_X11 : ∀ w ∈ wsX110, w ∈ wsX11_digest := by decide +kernel
theorem lk_X11_digest_7 : Cond.fieldLink RX11 7 "EggSpoonsModel" "all" "[I" ∈ wsX11_digest := by decide +kernel
theorem hdV_X11_sums : yX11_sums.cls = RX11 ∧ yX11_sums.cls ≠ "java/lang/invoke/MethodHandle" ∧ yX11_sums.cls ≠ "java/lang/invoke/VarHandle" ∧ (parseMethodDescriptor yX11_sums.desc).map (fun d => d.parameters.length) = some 3 := by decide +kernel
theorem lk_X11_digest_182 : Cond.fieldLink RX11 182 "EggSpoonsModel" "above" "J" ∈ wsX11_digest := by decide +kernel
theorem lk_X11_digest_23 : Cond.fieldLink RX11 23 "EggSpoonsModel" "below" "J" ∈ wsX11_digest := by decide +kernel
set_option maxHeartbeats 4000000 in
set_option maxRecDepth 100000 in
/-- digest -/
theorem m_digest (l : Launch) (X : EX) (m0 : Nat) (ma : Nat → Nat) (la : Int64) (lb : Int64) (n : Nat) (t : Nat → Nat) (v : Nat → Int32) (fa : Nat → Int32) (c0 : Nat) (c1 : Nat) (c2 : Nat) (c3 : Nat) (c4 : Nat) (hI_n : n ≤ 150) (hI_t : InT t) (hI_fa : InA fa c0 c1 c2 c3 c4) (sz : Nat) : Met l yX11_digest wsX11_digest ({ frames := 3, cells := 0, slots := 0, locals := 70 } : Room) (pE X [.ref m0] (@HAppend.hAppend va_W va_W va_W _ (mW m0 ma la lb n t v) ([((ma 0), .inl (X.2.1, 371, .inl fa))])) sz) (qL (fun (r : Int64) (u : Unit) => True) X (fun (u : Unit) => []) [] sz) 0 0 (va_A [] sz) := by
  refine mk_met (B := (fun _ => True)) (A := (va_A [] sz)) (cc := cX11_digest) (maxL := 5) (ret := (some .long)) (by decide) rfl (Nat.le_of_ble_eq_true rfl) k_ro k_a (fun p e s m below meth c S zr zlk znm zsz G ls hl => ?_)
  have S : CallFix p m c cX11_digest 5 s _ wsX11_digest RX11 := S
  have zx := S.1
  have zb := S.2.1
  have hl : lv_has ls 5 [(0, .ref m0)] := hl
  have hO_t := hI_t
  obtain ⟨ht0_t, ht1_t⟩ := hO_t
  have hO_fa := hI_fa.2
  obtain ⟨hm0_fa, hm1_fa, hm2_fa, hm3_fa, hm4_fa⟩ := hO_fa
  refine lv_ldc2 zx zb S.2.2.2.1 (S.2.2.2.2 _ mm_X11_digest_c273) dX11_digest_0 ?_
  refine k_ld (v := (Int32.toInt64 1789)) (by decide) ?_
  refine lv_lstore_n (lv' := [(1, .long (Int32.toInt64 1789)), (0, .ref m0)]) zx zb dX11_digest_3 rfl hl (by decide) rfl (fun ls hl => ?_)
  refine lv_iconst (v := 0) zx zb dX11_digest_4 (by decide) ?_
  refine lv_istore_n (lv' := [(3, .int 0), (1, .long (Int32.toInt64 1789)), (0, .ref m0)]) zx zb dX11_digest_5 rfl hl (by decide) rfl (fun ls hl => ?_)
  refine k_loop (P := ∀ (zm : Nat) (k6 : Nat) (x6_1 : Int64) (H : Heap) (locs : List Loc) (ls : Array Slot), 11 + 1 ≤ k6 + zm → (k6 ≤ 11) → wd X (fun _ => True) (va_A [] sz) s (@HAppend.hAppend va_W va_W va_W _ (mW m0 ma la lb n t v) ([((ma 0), .inl (X.2.1, 371, .inl fa))])) H locs → lv_has ls 5 [(3, .int (nI k6)), (1, .long x6_1), (0, .ref m0)] → W p l e _ s m _ below meth c H locs _ _ _ (F0 m 6 ls [])) (fun loop => loop (11 + 1) 0 (Int32.toInt64 1789) _ _ _ (by omega) (by omega) G hl) ?_
  intro zm
  induction zm with
  | zero => intro k6 x6_1 H locs ls zz q_hk_k6 _ _; exact absurd zz (by omega)
  | succ zm ih6 =>
    intro k6 x6_1 H locs ls zm_6 hk_k6 G hl
    refine lv_iload_n zx zb dX11_digest_6 rfl (lv_at hl 0 rfl) ?_
    refine lv_bipush (v := 11) zx zb dX11_digest_7 (by decide) ?_
    refine lv_icmp_ge (tgt := 31) zx zb dX11_digest_9 (by decide) (fun c_1 => ?_) (fun c_1 => ?_)
    · have fc_1 := j_le (a := 11) (b := k6) (by omega) (by omega) c_1
      refine lv_iconst (v := 0) zx zb dX11_digest_31 (by decide) ?_
      refine lv_istore_n (lv' := [(3, .int 0), (1, .long x6_1), (0, .ref m0)]) zx zb dX11_digest_32 rfl hl (by decide) rfl (fun ls hl => ?_)
      refine k_loop (P := ∀ (zm : Nat) (k33 : Nat) (x33_1 : Int64) (H : Heap) (locs : List Loc) (ls : Array Slot), 6 + 1 ≤ k33 + zm → (k33 ≤ 6) → wd X (fun _ => True) (va_A [] sz) s (@HAppend.hAppend va_W va_W va_W _ (mW m0 ma la lb n t v) ([((ma 0), .inl (X.2.1, 371, .inl fa))])) H locs → lv_has ls 5 [(3, .int (nI k33)), (1, .long x33_1), (0, .ref m0)] → W p l e _ s m _ below meth c H locs _ _ _ (F0 m 33 ls [])) (fun loop => loop (6 + 1) 0 x6_1 _ _ _ (by omega) (by omega) G hl) ?_
      intro zm
      induction zm with
      | zero => intro k33 x33_1 H locs ls zz q_hk_k33 _ _; exact absurd zz (by omega)
      | succ zm ih33 =>
        intro k33 x33_1 H locs ls zm_33 hk_k33 G hl
        refine lv_iload_n zx zb dX11_digest_33 rfl (lv_at hl 0 rfl) ?_
        refine lv_aload_n zx zb dX11_digest_34 rfl (lv_at hl 2 rfl) ?_
        refine o_ri (cells' := 0) (slots' := 0) G rfl rfl (n_V (As := []) (rest := [.int (nI k33)]) (C := RX11) (T := TX11) (N := 18) (ci := 9) S G (m_many l X m0 ma la lb n t v fa c0 c1 c2 c3 c4 hI_n hI_t hI_fa H.size) gX11_digest_X11_many rfl rfl rfl hdV_X11_many ⟨Nat.le_of_ble_eq_true rfl, Nat.le_of_ble_eq_true rfl⟩ [0, 1] rfl rfl 0 rfl rfl rfl hl.1 (Nat.le_of_ble_eq_true rfl) dX11_digest_35 ⟨Nat.le_of_ble_eq_true rfl, Nat.le_of_ble_eq_true rfl⟩) (fun r_2 u_2 H locs hp_2 G => ?_)
        have G : wd X (fun _ => True) (va_A [] sz) s (@HAppend.hAppend va_W va_W va_W _ (mW m0 ma la lb n t v) ([((ma 0), .inl (X.2.1, 371, .inl fa))])) H locs := G
        obtain rfl := hp_2
        refine lv_icmp_ge (tgt := 78) zx zb dX11_digest_38 (by decide) (fun c_3 => ?_) (fun c_3 => ?_)
        · have fc_3 := j_le (a := c0) (b := k33) (by omega) (by omega) c_3
          refine lv_aload_n zx zb dX11_digest_78 rfl (lv_at hl 2 rfl) ?_
          refine lv_lload_n zx zb dX11_digest_79 rfl (lv_at hl 1 rfl) ?_
          refine lv_bipush (v := 55) zx zb dX11_digest_80 (by decide) ?_
          refine lv_iconst (v := 4) zx zb dX11_digest_82 (by decide) ?_
          refine lv_aload_n zx zb dX11_digest_83 rfl (lv_at hl 2 rfl) ?_
          refine r_get (C := RX11) (T := TX11) (N := 18) (ci := 9) (v := .ref (ma 0)) S in_X11_digest_X11 G 0 rfl rfl 0 (by decide) lk_X11_digest_7 rfl dX11_digest_84 ?_
          refine lv_iconst (v := 1) zx zb dX11_digest_87 (by decide) ?_
          refine r_iald (v := (nI c1)) S G 1 rfl (k_vp (by decide)) hI_fa.1.2.1 dX11_digest_88 ?_
          refine r_imul (v := (nI (4 * c1))) S (pk_mul 4 c1) dX11_digest_89 ?_
          refine o_rl (cells' := 0) (slots' := 0) G rfl rfl (n_V (As := [.long x33_1, .int 55, .int (nI (4 * c1))]) (rest := []) (C := RX11) (T := TX11) (N := 18) (ci := 9) S G (m_sums l X m0 ma la lb n t v fa c0 c1 c2 c3 c4 x33_1 55 (4 * c1) hI_n hI_t hI_fa (by omega) H.size) gX11_digest_X11_sums rfl rfl rfl hdV_X11_sums ⟨Nat.le_of_ble_eq_true rfl, Nat.le_of_ble_eq_true rfl⟩ [0, 1] rfl rfl 0 rfl rfl rfl hl.1 (Nat.le_of_ble_eq_true rfl) dX11_digest_90 ⟨Nat.le_of_ble_eq_true rfl, Nat.le_of_ble_eq_true rfl⟩) (fun r_5 u_5 H locs hp_5 G => ?_)
          have G : wd X (fun _ => True) (va_A [] sz) s (@HAppend.hAppend va_W va_W va_W _ (mW m0 ma la lb n t v) ([((ma 0), .inl (X.2.1, 371, .inl fa))])) H locs := G
          refine lv_lstore_n (lv' := [(1, .long r_5), (3, .int (nI k33)), (0, .ref m0)]) zx zb dX11_digest_93 rfl hl (by decide) rfl (fun ls hl => ?_)
          refine lv_aload_n zx zb dX11_digest_94 rfl (lv_at hl 2 rfl) ?_
          refine lv_lload_n zx zb dX11_digest_95 rfl (lv_at hl 0 rfl) ?_
          refine lv_bipush (v := 75) zx zb dX11_digest_96 (by decide) ?_
          refine lv_iconst (v := 5) zx zb dX11_digest_98 (by decide) ?_
          refine lv_aload_n zx zb dX11_digest_99 rfl (lv_at hl 2 rfl) ?_
          refine r_get (C := RX11) (T := TX11) (N := 18) (ci := 9) (v := .ref (ma 0)) S in_X11_digest_X11 G 0 rfl rfl 0 (by decide) lk_X11_digest_7 rfl dX11_digest_100 ?_
          refine lv_iconst (v := 2) zx zb dX11_digest_103 (by decide) ?_
          refine r_iald (v := (nI c2)) S G 1 rfl (k_vp (by decide)) hI_fa.1.2.2.1 dX11_digest_104 ?_
          refine r_imul (v := (nI (5 * c2))) S (pk_mul 5 c2) dX11_digest_105 ?_
          refine o_rl (cells' := 0) (slots' := 0) G rfl rfl (n_V (As := [.long r_5, .int 75, .int (nI (5 * c2))]) (rest := []) (C := RX11) (T := TX11) (N := 18) (ci := 9) S G (m_sums l X m0 ma la lb n t v fa c0 c1 c2 c3 c4 r_5 75 (5 * c2) hI_n hI_t hI_fa (by omega) H.size) gX11_digest_X11_sums rfl rfl rfl hdV_X11_sums ⟨Nat.le_of_ble_eq_true rfl, Nat.le_of_ble_eq_true rfl⟩ [0, 1] rfl rfl 0 rfl rfl rfl hl.1 (Nat.le_of_ble_eq_true rfl) dX11_digest_106 ⟨Nat.le_of_ble_eq_true rfl, Nat.le_of_ble_eq_true rfl⟩) (fun r_7 u_7 H locs hp_7 G => ?_)
          have G : wd X (fun _ => True) (va_A [] sz) s (@HAppend.hAppend va_W va_W va_W _ (mW m0 ma la lb n t v) ([((ma 0), .inl (X.2.1, 371, .inl fa))])) H locs := G
          refine lv_lstore_n (lv' := [(1, .long r_7), (3, .int (nI k33)), (0, .ref m0)]) zx zb dX11_digest_109 rfl hl (by decide) rfl (fun ls hl => ?_)
          refine lv_aload_n zx zb dX11_digest_110 rfl (lv_at hl 2 rfl) ?_
          refine lv_lload_n zx zb dX11_digest_111 rfl (lv_at hl 0 rfl) ?_
          refine lv_bipush (v := 105) zx zb dX11_digest_112 (by decide) ?_
          refine lv_iconst (v := 3) zx zb dX11_digest_114 (by decide) ?_
          refine lv_aload_n zx zb dX11_digest_115 rfl (lv_at hl 2 rfl) ?_
          refine r_get (C := RX11) (T := TX11) (N := 18) (ci := 9) (v := .ref (ma 0)) S in_X11_digest_X11 G 0 rfl rfl 0 (by decide) lk_X11_digest_7 rfl dX11_digest_116 ?_
          refine lv_iconst (v := 3) zx zb dX11_digest_119 (by decide) ?_
          refine r_iald (v := (nI c3)) S G 1 rfl (k_vp (by decide)) hI_fa.1.2.2.2.1 dX11_digest_120 ?_
          refine r_imul (v := (nI (3 * c3))) S (pk_mul 3 c3) dX11_digest_121 ?_
          refine o_rl (cells' := 0) (slots' := 0) G rfl rfl (n_V (As := [.long r_7, .int 105, .int (nI (3 * c3))]) (rest := []) (C := RX11) (T := TX11) (N := 18) (ci := 9) S G (m_sums l X m0 ma la lb n t v fa c0 c1 c2 c3 c4 r_7 105 (3 * c3) hI_n hI_t hI_fa (by omega) H.size) gX11_digest_X11_sums rfl rfl rfl hdV_X11_sums ⟨Nat.le_of_ble_eq_true rfl, Nat.le_of_ble_eq_true rfl⟩ [0, 1] rfl rfl 0 rfl rfl rfl hl.1 (Nat.le_of_ble_eq_true rfl) dX11_digest_122 ⟨Nat.le_of_ble_eq_true rfl, Nat.le_of_ble_eq_true rfl⟩) (fun r_9 u_9 H locs hp_9 G => ?_)
          have G : wd X (fun _ => True) (va_A [] sz) s (@HAppend.hAppend va_W va_W va_W _ (mW m0 ma la lb n t v) ([((ma 0), .inl (X.2.1, 371, .inl fa))])) H locs := G
          refine lv_lstore_n (lv' := [(1, .long r_9), (3, .int (nI k33)), (0, .ref m0)]) zx zb dX11_digest_125 rfl hl (by decide) rfl (fun ls hl => ?_)
          refine lv_ldc2 zx zb S.2.2.2.1 (S.2.2.2.2 _ mm_X11_digest_c271) dX11_digest_126 ?_
          refine k_ld (v := (Int32.toInt64 31)) (by decide) ?_
          refine lv_ldc2 zx zb S.2.2.2.1 (S.2.2.2.2 _ mm_X11_digest_c271) dX11_digest_129 ?_
          refine k_ld (v := (Int32.toInt64 31)) (by decide) ?_
          refine lv_lload_n zx zb dX11_digest_132 rfl (lv_at hl 0 rfl) ?_
          refine r_lmul (v := ((Int32.toInt64 31) * r_9)) S rfl dX11_digest_133 ?_
          refine lv_aload_n zx zb dX11_digest_134 rfl (lv_at hl 2 rfl) ?_
          refine r_get (C := RX11) (T := TX11) (N := 18) (ci := 9) (v := .long la) S in_X11_digest_X11 G 0 rfl rfl 4 (by decide) lk_X11_digest_182 rfl dX11_digest_135 ?_
          refine r_ladd (v := (((Int32.toInt64 31) * r_9) + la)) S rfl dX11_digest_138 ?_
          refine r_lmul (v := ((Int32.toInt64 31) * (((Int32.toInt64 31) * r_9) + la))) S rfl dX11_digest_139 ?_
          refine lv_aload_n zx zb dX11_digest_140 rfl (lv_at hl 2 rfl) ?_
          refine r_get (C := RX11) (T := TX11) (N := 18) (ci := 9) (v := .long lb) S in_X11_digest_X11 G 0 rfl rfl 5 (by decide) lk_X11_digest_23 rfl dX11_digest_141 ?_
          refine r_ladd (v := (((Int32.toInt64 31) * (((Int32.toInt64 31) * r_9) + la)) + lb)) S rfl dX11_digest_144 ?_
          exact e_long S zr zlk G () [] rfl rfl (Or.inl rfl) (trivial) dX11_digest_145
        · have fc_3 := j_nle (a := c0) (b := k33) (by omega) (by omega) c_3
          refine lv_iconst (v := 0) zx zb dX11_digest_41 (by decide) ?_
          refine lv_istore (lv' := [(4, .int 0), (3, .int (nI k33)), (1, .long x33_1), (0, .ref m0)]) zx zb dX11_digest_42 hl (by decide) rfl (fun ls hl => ?_)
          refine k_loop (P := ∀ (zm : Nat) (k44 : Nat) (x44_1 : Int64) (H : Heap) (locs : List Loc) (ls : Array Slot), 8 + 1 ≤ k44 + zm → (k44 ≤ 8) → wd X (fun _ => True) (va_A [] sz) s (@HAppend.hAppend va_W va_W va_W _ (mW m0 ma la lb n t v) ([((ma 0), .inl (X.2.1, 371, .inl fa))])) H locs → lv_has ls 5 [(4, .int (nI k44)), (3, .int (nI k33)), (1, .long x44_1), (0, .ref m0)] → W p l e _ s m _ below meth c H locs _ _ _ (F0 m 44 ls [])) (fun loop => loop (8 + 1) 0 x33_1 _ _ _ (by omega) (by omega) G hl) ?_
          intro zm
          induction zm with
          | zero => intro k44 x44_1 H locs ls zz q_hk_k44 _ _; exact absurd zz (by omega)
          | succ zm ih44 =>
            intro k44 x44_1 H locs ls zm_44 hk_k44 G hl
            refine lv_iload zx zb dX11_digest_44 (lv_at hl 0 rfl) ?_
            refine lv_bipush (v := 8) zx zb dX11_digest_46 (by decide) ?_
            refine lv_icmp_ge (tgt := 72) zx zb dX11_digest_48 (by decide) (fun c_10 => ?_) (fun c_10 => ?_)
            · have fc_10 := j_le (a := 8) (b := k44) (by omega) (by omega) c_10
              refine lv_iinc (v := (nI (k33 + 1))) (lv' := [(3, .int (nI (k33 + 1))), (4, .int (nI k44)), (1, .long x44_1), (0, .ref m0)]) zx zb dX11_digest_72 hl (k := 1) rfl (nI_add k33 1) (by decide) rfl (fun ls hl => ?_)
              refine lv_goto (tgt := 33) zx zb dX11_digest_75 (by decide) ?_
              have hl := lv_sub hl (l' := [(3, .int (nI (k33 + 1))), (1, .long x44_1), (0, .ref m0)]) [0, 2, 3] rfl
              exact ih33 (k33 + 1) x44_1 _ _ _ (by omega) (by omega) G hl
            · have fc_10 := j_nle (a := 8) (b := k44) (by omega) (by omega) c_10
              refine lv_ldc2 zx zb S.2.2.2.1 (S.2.2.2.2 _ mm_X11_digest_c271) dX11_digest_51 ?_
              refine k_ld (v := (Int32.toInt64 31)) (by decide) ?_
              refine lv_lload_n zx zb dX11_digest_54 rfl (lv_at hl 2 rfl) ?_
              refine r_lmul (v := ((Int32.toInt64 31) * x44_1)) S rfl dX11_digest_55 ?_
              refine lv_aload_n zx zb dX11_digest_56 rfl (lv_at hl 3 rfl) ?_
              refine lv_iload_n zx zb dX11_digest_57 rfl (lv_at hl 1 rfl) ?_
              refine lv_iload zx zb dX11_digest_58 (lv_at hl 0 rfl) ?_
              refine o_ri (cells' := 0) (slots' := 0) G rfl rfl (n_V (As := [.int (nI k33), .int (nI k44)]) (rest := [.long ((Int32.toInt64 31) * x44_1)]) (C := RX11) (T := TX11) (N := 18) (ci := 9) S G (m_toldOf l X m0 ma la lb n t v fa c0 c1 c2 c3 c4 k33 (nI k44) hI_n hI_t hI_fa (by omega) H.size) gX11_digest_X11_toldOf rfl rfl rfl hdV_X11_toldOf ⟨Nat.le_of_ble_eq_true rfl, Nat.le_of_ble_eq_true rfl⟩ [0, 1] rfl rfl 0 rfl rfl rfl hl.1 (Nat.le_of_ble_eq_true rfl) dX11_digest_60 ⟨Nat.le_of_ble_eq_true rfl, Nat.le_of_ble_eq_true rfl⟩) (fun r_11 u_11 H locs hp_11 G => ?_)
              have G : wd X (fun _ => True) (va_A [] sz) s (@HAppend.hAppend va_W va_W va_W _ (mW m0 ma la lb n t v) ([((ma 0), .inl (X.2.1, 371, .inl fa))])) H locs := G
              refine lv_i2l (v := (Int32.toInt64 r_11)) zx zb dX11_digest_63 rfl ?_
              refine r_ladd (v := (((Int32.toInt64 31) * x44_1) + (Int32.toInt64 r_11))) S rfl dX11_digest_64 ?_
              refine lv_lstore_n (lv' := [(1, .long (((Int32.toInt64 31) * x44_1) + (Int32.toInt64 r_11))), (4, .int (nI k44)), (3, .int (nI k33)), (0, .ref m0)]) zx zb dX11_digest_65 rfl hl (by decide) rfl (fun ls hl => ?_)
              refine lv_iinc (v := (nI (k44 + 1))) (lv' := [(4, .int (nI (k44 + 1))), (1, .long (((Int32.toInt64 31) * x44_1) + (Int32.toInt64 r_11))), (3, .int (nI k33)), (0, .ref m0)]) zx zb dX11_digest_66 hl (k := 1) rfl (nI_add k44 1) (by decide) rfl (fun ls hl => ?_)
              refine lv_goto (tgt := 44) zx zb dX11_digest_69 (by decide) ?_
              have hl := lv_sub hl (l' := [(4, .int (nI (k44 + 1))), (3, .int (nI k33)), (1, .long (((Int32.toInt64 31) * x44_1) + (Int32.toInt64 r_11))), (0, .ref m0)]) [0, 2, 1, 3] rfl
              exact ih44 (k44 + 1) (((Int32.toInt64 31) * x44_1) + (Int32.toInt64 r_11)) _ _ _ (by omega) (by omega) G hl
    · have fc_1 := j_nle (a := 11) (b := k6) (by omega) (by omega) c_1
      refine lv_ldc2 zx zb S.2.2.2.1 (S.2.2.2.2 _ mm_X11_digest_c271) dX11_digest_12 ?_
      refine k_ld (v := (Int32.toInt64 31)) (by decide) ?_
      refine lv_lload_n zx zb dX11_digest_15 rfl (lv_at hl 1 rfl) ?_
      refine r_lmul (v := ((Int32.toInt64 31) * x6_1)) S rfl dX11_digest_16 ?_
      refine lv_aload_n zx zb dX11_digest_17 rfl (lv_at hl 2 rfl) ?_
      refine lv_iload_n zx zb dX11_digest_18 rfl (lv_at hl 0 rfl) ?_
      refine o_ri (cells' := 0) (slots' := 0) G rfl rfl (n_V (As := [.int (nI k6)]) (rest := [.long ((Int32.toInt64 31) * x6_1)]) (C := RX11) (T := TX11) (N := 18) (ci := 9) S G (m_counted l X m0 ma la lb n t v fa c0 c1 c2 c3 c4 k6 hI_n hI_t hI_fa (by omega) H.size) gX11_digest_X11_counted rfl rfl rfl hdV_X11_counted ⟨Nat.le_of_ble_eq_true rfl, Nat.le_of_ble_eq_true rfl⟩ [0, 1] rfl rfl 0 rfl rfl rfl hl.1 (Nat.le_of_ble_eq_true rfl) dX11_digest_19 ⟨Nat.le_of_ble_eq_true rfl, Nat.le_of_ble_eq_true rfl⟩) (fun r_12 u_12 H locs hp_12 G => ?_)
      have G : wd X (fun _ => True) (va_A [] sz) s (@HAppend.hAppend va_W va_W va_W _ (mW m0 ma la lb n t v) ([((ma 0), .inl (X.2.1, 371, .inl fa))])) H locs := G
      refine lv_i2l (v := (Int32.toInt64 r_12)) zx zb dX11_digest_22 rfl ?_
      refine r_ladd (v := (((Int32.toInt64 31) * x6_1) + (Int32.toInt64 r_12))) S rfl dX11_digest_23 ?_
      refine lv_lstore_n (lv' := [(1, .long (((Int32.toInt64 31) * x6_1) + (Int32.toInt64 r_12))), (3, .int (nI k6)), (0, .ref m0)]) zx zb dX11_digest_24 rfl hl (by decide) rfl (fun ls hl => ?_)
      refine lv_iinc (v := (nI (k6 + 1))) (lv' := [(3, .int (nI (k6 + 1))), (1, .long (((Int32.toInt64 31) * x6_1) + (Int32.toInt64 r_12))), (0, .ref m0)]) zx zb dX11_digest_25 hl (k := 1) rfl (nI_add k6 1) (by decide) rfl (fun ls hl => ?_)
      refine lv_goto (tgt := 6) zx zb dX11_digest_28 (by decide) ?_
      exact ih6 (k6 + 1) (((Int32.toInt64 31) * x6_1) + (Int32.toInt64 r_12)) _ _ _ (by omega) (by omega) G hl
theorem mm_X11_type_c203 : Cond.constantLong RX11 203 (127) ∈ wsX11_type := by decide +kernel
theorem in_X11_type_X11 : ∀ w ∈ wsX110, w ∈ wsX11_type := by decide +kernel
theorem lk_X11_type_205 : Cond.fieldLink RX11 205 "EggSpoonsModel" "bytesLong" "I" ∈ wsX11_type := by decide +kernel
theorem lk_X11_type_39 : Cond.fieldLink RX11 39 "EggSpoonsModel" "bytes" "[I" ∈ wsX11_type := by decide +kernel
set_option maxHeartbeats 4000000 in
set_option maxRecDepth 100000 in
/-- type -/
theorem m_type (l : Launch) (X : EX) (m0 : Nat) (ma : Nat → Nat) (la : Int64) (lb : Int64) (n : Nat) (t : Nat → Nat) (v : Nat → Int32) (fd : Nat → Int32) (fr : Nat → Int32) (x1 : Int32) (hI_n : n ≤ 150) (hI_t : InT t) (sz : Nat) : Met l yX11_type wsX11_type ({ frames := 1, cells := 0, slots := 0, locals := 25 } : Room) (pE X [.ref m0, .int x1] (@HAppend.hAppend va_W va_W va_W _ (mW m0 ma la lb n t v) (@HAppend.hAppend va_W va_W va_W _ ([((ma 10), .inl (X.2.1, 150, .inl fd))]) ([((ma 3), .inl (X.2.1, 3, .inl fr))]))) sz) (qI (fun (r : Int32) (u : (Nat) × (Nat → Int32) × (Nat → Int32)) => u.1 ≤ 150 ∧ ((r, (u.1, u.2.1)) = typF x1 n fd)) X (fun (u : (Nat) × (Nat → Int32) × (Nat → Int32)) => @HAppend.hAppend va_W va_W va_W _ (mW m0 ma la lb u.1 t v) (@HAppend.hAppend va_W va_W va_W _ ([((ma 10), .inl (X.2.1, 150, .inl u.2.1))]) ([((ma 3), .inl (X.2.1, 3, .inl u.2.2))]))) (@HAppend.hAppend va_W va_W va_W _ (mW m0 ma la lb n t v) (@HAppend.hAppend va_W va_W va_W _ ([((ma 10), .inl (X.2.1, 150, .inl fd))]) ([((ma 3), .inl (X.2.1, 3, .inl fr))]))) sz) 0 0 (va_A (@HAppend.hAppend va_W va_W va_W _ (mW m0 ma la lb n t v) (@HAppend.hAppend va_W va_W va_W _ ([((ma 10), .inl (X.2.1, 150, .inl fd))]) ([((ma 3), .inl (X.2.1, 3, .inl fr))]))) sz) := by
  refine mk_met (B := (va_A (@HAppend.hAppend va_W va_W va_W _ (mW m0 ma la lb n t v) (@HAppend.hAppend va_W va_W va_W _ ([((ma 10), .inl (X.2.1, 150, .inl fd))]) ([((ma 3), .inl (X.2.1, 3, .inl fr))]))) sz)) (A := (va_A (@HAppend.hAppend va_W va_W va_W _ (mW m0 ma la lb n t v) (@HAppend.hAppend va_W va_W va_W _ ([((ma 10), .inl (X.2.1, 150, .inl fd))]) ([((ma 3), .inl (X.2.1, 3, .inl fr))]))) sz)) (cc := cX11_type) (maxL := 2) (ret := (some .int)) (by decide) rfl (Nat.le_of_ble_eq_true rfl) k_w k_a (fun p e s m below meth c S zr zlk znm zsz G ls hl => ?_)
  have S : CallFix p m c cX11_type 2 s _ wsX11_type RX11 := S
  have zx := S.1
  have zb := S.2.1
  have hl : lv_has ls 2 [(0, .ref m0), (1, .int x1)] := hl
  have hO_t := hI_t
  obtain ⟨ht0_t, ht1_t⟩ := hO_t
  refine lv_iload_n zx zb dX11_type_0 rfl (lv_at hl 1 rfl) ?_
  refine lv_i2l (v := (Int32.toInt64 x1)) zx zb dX11_type_1 rfl ?_
  refine lv_lconst (v := (Int32.toInt64 0)) zx zb dX11_type_2 (by decide) ?_
  refine lv_ldc2 zx zb S.2.2.2.1 (S.2.2.2.2 _ mm_X11_type_c203) dX11_type_3 ?_
  refine k_ld (v := (Int32.toInt64 127)) (by decide) ?_
  refine o_ri (cells' := 0) (slots' := 0) G rfl rfl (n_S (As := [.long (Int32.toInt64 x1), .long (Int32.toInt64 0), .long (Int32.toInt64 127)]) (rest := []) S G (m_in l X x1 0 127 s.heap.size) gX11_type_X11_in rfl rfl rfl hdS_X11_in ⟨Nat.le_of_ble_eq_true rfl, Nat.le_of_ble_eq_true rfl⟩ [] rfl rfl rfl hl.1 (Nat.le_of_ble_eq_true rfl) dX11_type_6 ⟨Nat.le_of_ble_eq_true rfl, Nat.le_of_ble_eq_true rfl⟩) (fun r_1 u_1 H locs hp_1 G => ?_)
  have G : wd X (va_A (@HAppend.hAppend va_W va_W va_W _ (mW m0 ma la lb n t v) (@HAppend.hAppend va_W va_W va_W _ ([((ma 10), .inl (X.2.1, 150, .inl fd))]) ([((ma 3), .inl (X.2.1, 3, .inl fr))]))) sz) (va_A (@HAppend.hAppend va_W va_W va_W _ (mW m0 ma la lb n t v) (@HAppend.hAppend va_W va_W va_W _ ([((ma 10), .inl (X.2.1, 150, .inl fd))]) ([((ma 3), .inl (X.2.1, 3, .inl fr))]))) sz) s (@HAppend.hAppend va_W va_W va_W _ (mW m0 ma la lb n t v) (@HAppend.hAppend va_W va_W va_W _ ([((ma 10), .inl (X.2.1, 150, .inl fd))]) ([((ma 3), .inl (X.2.1, 3, .inl fr))]))) H locs := G
  rcases hp_1 with ⟨rfl, hw_1⟩ | ⟨rfl, hw_1⟩
  · obtain ⟨j_1, ⟨ja_1, jb_1⟩, rfl⟩ := k_natR (a := 0) (b := 127) hw_1 rfl rfl (by decide) (by decide)
    refine lv_if_ne (tgt := 19) zx zb dX11_type_9 (by decide) (fun c_2 => ?_) (fun c_2 => absurd c_2 (by decide))
    refine lv_aload_n zx zb dX11_type_19 rfl (lv_at hl 0 rfl) ?_
    refine r_get (C := RX11) (T := TX11) (N := 18) (ci := 9) (v := .int (nI n)) S in_X11_type_X11 G 0 rfl rfl 11 (by decide) lk_X11_type_205 rfl dX11_type_20 ?_
    refine lv_sipush (v := 150) zx zb dX11_type_23 (by decide) ?_
    refine lv_icmp_ne (tgt := 34) zx zb dX11_type_26 (by decide) (fun c_3 => ?_) (fun c_3 => ?_)
    · have fc_3 := j_ne (a := n) (b := 150) c_3
      refine lv_aload_n zx zb dX11_type_34 rfl (lv_at hl 0 rfl) ?_
      refine r_get (C := RX11) (T := TX11) (N := 18) (ci := 9) (v := .ref (ma 10)) S in_X11_type_X11 G 0 rfl rfl 10 (by decide) lk_X11_type_39 rfl dX11_type_35 ?_
      refine lv_aload_n zx zb dX11_type_38 rfl (lv_at hl 0 rfl) ?_
      refine r_get (C := RX11) (T := TX11) (N := 18) (ci := 9) (v := .int (nI n)) S in_X11_type_X11 G 0 rfl rfl 11 (by decide) lk_X11_type_205 rfl dX11_type_39 ?_
      refine lv_iload_n zx zb dX11_type_42 rfl (lv_at hl 1 rfl) ?_
      refine r_iast S G 1 rfl (vp_in_nI (by omega) (by decide)) dX11_type_43 (fun H locs G => ?_)
      obtain ⟨f_4, hE_f_4, G⟩ : ∃ f_4 : Nat → Int32, f_4 = upd fd ((nI n)).toNatClampNeg (nI j_1) ∧ wd X (va_A (@HAppend.hAppend va_W va_W va_W _ (mW m0 ma la lb n t v) (@HAppend.hAppend va_W va_W va_W _ ([((ma 10), .inl (X.2.1, 150, .inl fd))]) ([((ma 3), .inl (X.2.1, 3, .inl fr))]))) sz) (va_A (@HAppend.hAppend va_W va_W va_W _ (mW m0 ma la lb n t v) (@HAppend.hAppend va_W va_W va_W _ ([((ma 10), .inl (X.2.1, 150, .inl fd))]) ([((ma 3), .inl (X.2.1, 3, .inl fr))]))) sz) s (@HAppend.hAppend va_W va_W va_W _ (mW m0 ma la lb n t v) (@HAppend.hAppend va_W va_W va_W _ ([((ma 10), .inl (X.2.1, 150, .inl f_4))]) ([((ma 3), .inl (X.2.1, 3, .inl fr))]))) H locs := ⟨_, rfl, G⟩
      refine lv_aload_n zx zb dX11_type_44 rfl (lv_at hl 0 rfl) ?_
      refine lv_dup zx zb dX11_type_45 rfl ?_
      refine r_get (C := RX11) (T := TX11) (N := 18) (ci := 9) (v := .int (nI n)) S in_X11_type_X11 G 0 rfl rfl 11 (by decide) lk_X11_type_205 rfl dX11_type_46 ?_
      refine lv_iconst (v := 1) zx zb dX11_type_49 (by decide) ?_
      refine r_iadd (v := (nI (n + 1))) S (nI_add n 1) dX11_type_50 ?_
      refine r_put (C := RX11) (T := TX11) (N := 18) (ci := 9) (v := .int (nI (n + 1))) S in_X11_type_X11 tyX11_ok nmX11 G 0 rfl rfl 11 (by decide) lk_X11_type_205 rfl (vp_nar_int _) rfl (Nat.le_of_ble_eq_true rfl) dX11_type_51 (fun H locs G => ?_)
      obtain ⟨n_5, hI_n_5, hE_n_5, G⟩ : ∃ n_5 : Nat, n_5 ≤ 150 ∧ n_5 = (n + 1) ∧ wd X (va_A (@HAppend.hAppend va_W va_W va_W _ (mW m0 ma la lb n t v) (@HAppend.hAppend va_W va_W va_W _ ([((ma 10), .inl (X.2.1, 150, .inl fd))]) ([((ma 3), .inl (X.2.1, 3, .inl fr))]))) sz) (va_A (@HAppend.hAppend va_W va_W va_W _ (mW m0 ma la lb n t v) (@HAppend.hAppend va_W va_W va_W _ ([((ma 10), .inl (X.2.1, 150, .inl fd))]) ([((ma 3), .inl (X.2.1, 3, .inl fr))]))) sz) s (@HAppend.hAppend va_W va_W va_W _ (mW m0 ma la lb n_5 t v) (@HAppend.hAppend va_W va_W va_W _ ([((ma 10), .inl (X.2.1, 150, .inl f_4))]) ([((ma 3), .inl (X.2.1, 3, .inl fr))]))) H locs := ⟨(n + 1), by omega, rfl, G⟩
      refine lv_aload_n zx zb dX11_type_54 rfl (lv_at hl 0 rfl) ?_
      refine r_get (C := RX11) (T := TX11) (N := 18) (ci := 9) (v := .int (nI n_5)) S in_X11_type_X11 G 0 rfl rfl 11 (by decide) lk_X11_type_205 rfl dX11_type_55 ?_
      have hzF : ((nI n_5), (n_5, f_4)) = typF (nI j_1) n fd := by rw [typF_p hw_1 (by omega), hE_f_4, nI_clamp (by omega), show n_5 = n + 1 from by omega]
      exact e_int S zr zlk (vp_nar_int _) G (n_5, f_4, fr) [0, 1, 2] rfl rfl (Or.inr rfl) (⟨hI_n_5, hzF⟩) dX11_type_58
    · have fc_3 := j_eq (a := n) (b := 150) (by omega) (by omega) c_3
      refine lv_aload_n zx zb dX11_type_29 rfl (lv_at hl 0 rfl) ?_
      refine b_wi (cells' := 0) (slots' := 0) (wr := [((ma 10), .inl (X.2.1, 150, .inl fd))]) G rfl rfl [0, 2] [1] rfl rfl rfl rfl (n_V (As := []) (rest := []) (C := RX11) (T := TX11) (N := 18) (ci := 9) S G (m_full l X m0 ma la lb n t v fr hI_n hI_t H.size) gX11_type_X11_full rfl rfl rfl hdV_X11_full ⟨Nat.le_of_ble_eq_true rfl, Nat.le_of_ble_eq_true rfl⟩ [0, 2] rfl rfl 0 rfl rfl rfl hl.1 (Nat.le_of_ble_eq_true rfl) dX11_type_30 ⟨Nat.le_of_ble_eq_true rfl, Nat.le_of_ble_eq_true rfl⟩) (fun r_6 u_6 H locs hp_6 G => ?_)
      obtain ⟨f_6, rfl⟩ : ∃ z, z = u_6 := ⟨_, rfl⟩
      have hq_6 := hp_6
      have G : wd X (va_A (@HAppend.hAppend va_W va_W va_W _ (mW m0 ma la lb n t v) (@HAppend.hAppend va_W va_W va_W _ ([((ma 10), .inl (X.2.1, 150, .inl fd))]) ([((ma 3), .inl (X.2.1, 3, .inl fr))]))) sz) (va_A (@HAppend.hAppend va_W va_W va_W _ (mW m0 ma la lb n t v) (@HAppend.hAppend va_W va_W va_W _ ([((ma 10), .inl (X.2.1, 150, .inl fd))]) ([((ma 3), .inl (X.2.1, 3, .inl fr))]))) sz) s (@HAppend.hAppend va_W va_W va_W _ ([((ma 10), .inl (X.2.1, 150, .inl fd))]) (@HAppend.hAppend va_W va_W va_W _ (mW m0 ma la lb n t v) ([((ma 3), .inl (X.2.1, 3, .inl f_6))]))) H locs := G
      obtain rfl := hq_6
      have hzF : ((-4), (n, fd)) = typF (nI j_1) n fd := (typF_f hw_1 (by omega)).symm
      exact e_int S zr zlk (vp_nar_int _) G (n, fd, f_6) [1, 0, 2] rfl rfl (Or.inr rfl) (⟨hI_n, hzF⟩) dX11_type_33
  · refine lv_if_ne (tgt := 19) zx zb dX11_type_9 (by decide) (fun c_7 => absurd (by decide) c_7) (fun c_7 => ?_)
    refine lv_aload_n zx zb dX11_type_12 rfl (lv_at hl 0 rfl) ?_
    refine lv_bipush (v := (-2)) zx zb dX11_type_13 (by decide) ?_
    refine b_wi (cells' := 0) (slots' := 0) (wr := [((ma 10), .inl (X.2.1, 150, .inl fd))]) G rfl rfl [0, 2] [1] rfl rfl rfl rfl (n_V (As := [.int (-2)]) (rest := []) (C := RX11) (T := TX11) (N := 18) (ci := 9) S G (m_bad l X m0 ma la lb n t v fr (-2) hI_n hI_t H.size) gX11_type_X11_bad rfl rfl rfl hdV_X11_bad ⟨Nat.le_of_ble_eq_true rfl, Nat.le_of_ble_eq_true rfl⟩ [0, 2] rfl rfl 0 rfl rfl rfl hl.1 (Nat.le_of_ble_eq_true rfl) dX11_type_15 ⟨Nat.le_of_ble_eq_true rfl, Nat.le_of_ble_eq_true rfl⟩) (fun r_8 u_8 H locs hp_8 G => ?_)
    obtain ⟨f_8, rfl⟩ : ∃ z, z = u_8 := ⟨_, rfl⟩
    have hq_8 := hp_8
    have G : wd X (va_A (@HAppend.hAppend va_W va_W va_W _ (mW m0 ma la lb n t v) (@HAppend.hAppend va_W va_W va_W _ ([((ma 10), .inl (X.2.1, 150, .inl fd))]) ([((ma 3), .inl (X.2.1, 3, .inl fr))]))) sz) (va_A (@HAppend.hAppend va_W va_W va_W _ (mW m0 ma la lb n t v) (@HAppend.hAppend va_W va_W va_W _ ([((ma 10), .inl (X.2.1, 150, .inl fd))]) ([((ma 3), .inl (X.2.1, 3, .inl fr))]))) sz) s (@HAppend.hAppend va_W va_W va_W _ ([((ma 10), .inl (X.2.1, 150, .inl fd))]) (@HAppend.hAppend va_W va_W va_W _ (mW m0 ma la lb n t v) ([((ma 3), .inl (X.2.1, 3, .inl f_8))]))) H locs := G
    obtain rfl := hq_8
    have hzF : ((-2), (n, fd)) = typF x1 n fd := (typF_n (fun h => hw_1 h)).symm
    exact e_int S zr zlk (vp_nar_int _) G (n, fd, f_8) [1, 0, 2] rfl rfl (Or.inr rfl) (⟨hI_n, hzF⟩) dX11_type_18
theorem in_X11_clear_X11 : ∀ w ∈ wsX110, w ∈ wsX11_clear := by decide +kernel
theorem lk_X11_clear_205 : Cond.fieldLink RX11 205 "EggSpoonsModel" "bytesLong" "I" ∈ wsX11_clear := by decide +kernel
set_option maxHeartbeats 4000000 in
set_option maxRecDepth 100000 in
/-- clear -/
theorem m_clear (l : Launch) (X : EX) (m0 : Nat) (ma : Nat → Nat) (la : Int64) (lb : Int64) (n : Nat) (t : Nat → Nat) (v : Nat → Int32) (hI_n : n ≤ 150) (hI_t : InT t) (sz : Nat) : Met l yX11_clear wsX11_clear ({ frames := 0, cells := 0, slots := 0, locals := 0 } : Room) (pE X [.ref m0] (mW m0 ma la lb n t v) sz) (qI (fun (r : Int32) (u : (Nat)) => u ≤ 150 ∧ (r = nI n ∧ u = 0)) X (fun (u : (Nat)) => mW m0 ma la lb u t v) (mW m0 ma la lb n t v) sz) 0 0 (va_A (mW m0 ma la lb n t v) sz) := by
  refine mk_met (B := (va_A (mW m0 ma la lb n t v) sz)) (A := (va_A (mW m0 ma la lb n t v) sz)) (cc := cX11_clear) (maxL := 2) (ret := (some .int)) (by decide) rfl (Nat.le_of_ble_eq_true rfl) k_w k_a (fun p e s m below meth c S zr zlk znm zsz G ls hl => ?_)
  have S : CallFix p m c cX11_clear 2 s _ wsX11_clear RX11 := S
  have zx := S.1
  have zb := S.2.1
  have hl : lv_has ls 2 [(0, .ref m0)] := hl
  have hO_t := hI_t
  obtain ⟨ht0_t, ht1_t⟩ := hO_t
  refine lv_aload_n zx zb dX11_clear_0 rfl (lv_at hl 0 rfl) ?_
  refine r_get (C := RX11) (T := TX11) (N := 18) (ci := 9) (v := .int (nI n)) S in_X11_clear_X11 G 0 rfl rfl 11 (by decide) lk_X11_clear_205 rfl dX11_clear_1 ?_
  refine lv_istore_n (lv' := [(1, .int (nI n)), (0, .ref m0)]) zx zb dX11_clear_4 rfl hl (by decide) rfl (fun ls hl => ?_)
  refine lv_aload_n zx zb dX11_clear_5 rfl (lv_at hl 1 rfl) ?_
  refine lv_iconst (v := 0) zx zb dX11_clear_6 (by decide) ?_
  refine r_put (C := RX11) (T := TX11) (N := 18) (ci := 9) (v := .int 0) S in_X11_clear_X11 tyX11_ok nmX11 G 0 rfl rfl 11 (by decide) lk_X11_clear_205 rfl (vp_nar_int _) rfl (Nat.le_of_ble_eq_true rfl) dX11_clear_7 (fun H locs G => ?_)
  obtain ⟨n_1, hI_n_1, hE_n_1, G⟩ : ∃ n_1 : Nat, n_1 ≤ 150 ∧ n_1 = 0 ∧ wd X (va_A (mW m0 ma la lb n t v) sz) (va_A (mW m0 ma la lb n t v) sz) s (mW m0 ma la lb n_1 t v) H locs := ⟨0, by omega, rfl, G⟩
  refine lv_iload_n zx zb dX11_clear_10 rfl (lv_at hl 0 rfl) ?_
  exact e_int S zr zlk (vp_nar_int _) G (n_1) [0] rfl rfl (Or.inr rfl) (⟨hI_n_1, ⟨rfl, hE_n_1⟩⟩) dX11_clear_11
theorem mm_X11_isSmall_c209 : Cond.constantLong RX11 209 (97) ∈ wsX11_isSmall := by decide +kernel
theorem mm_X11_isSmall_c211 : Cond.constantLong RX11 211 (122) ∈ wsX11_isSmall := by decide +kernel
theorem mm_X11_isFigure_c213 : Cond.constantLong RX11 213 (48) ∈ wsX11_isFigure := by decide +kernel
theorem mm_X11_isFigure_c215 : Cond.constantLong RX11 215 (57) ∈ wsX11_isFigure := by decide +kernel
theorem in_X11_lookAt_X11 : ∀ w ∈ wsX110, w ∈ wsX11_lookAt := by decide +kernel
theorem lk_X11_lookAt_217 : Cond.fieldLink RX11 217 "EggSpoonsModel" "tokenAt" "I" ∈ wsX11_lookAt := by decide +kernel
theorem lk_X11_lookAt_205 : Cond.fieldLink RX11 205 "EggSpoonsModel" "bytesLong" "I" ∈ wsX11_lookAt := by decide +kernel
theorem lk_X11_lookAt_39 : Cond.fieldLink RX11 39 "EggSpoonsModel" "bytes" "[I" ∈ wsX11_lookAt := by decide +kernel
theorem lk_X11_lookAt_220 : Cond.fieldLink RX11 220 "EggSpoonsModel" "tokenLong" "I" ∈ wsX11_lookAt := by decide +kernel
theorem lk_X11_lookAt_223 : Cond.fieldLink RX11 223 "EggSpoonsModel" "token" "I" ∈ wsX11_lookAt := by decide +kernel
theorem lk_X11_lookAt_226 : Cond.fieldLink RX11 226 "EggSpoonsModel" "value" "I" ∈ wsX11_lookAt := by decide +kernel
theorem hdS_X11_isSmall : yX11_isSmall.cls ≠ "java/lang/invoke/MethodHandle" ∧ yX11_isSmall.cls ≠ "java/lang/invoke/VarHandle" ∧ (parseMethodDescriptor yX11_isSmall.desc).map (fun d => d.parameters.length) = some 1 := by decide +kernel
theorem hdS_X11_isFigure : yX11_isFigure.cls ≠ "java/lang/invoke/MethodHandle" ∧ yX11_isFigure.cls ≠ "java/lang/invoke/VarHandle" ∧ (parseMethodDescriptor yX11_isFigure.desc).map (fun d => d.parameters.length) = some 1 := by decide +kernel
theorem in_X11_goBehind_X11 : ∀ w ∈ wsX110, w ∈ wsX11_goBehind := by decide +kernel
theorem lk_X11_goBehind_217 : Cond.fieldLink RX11 217 "EggSpoonsModel" "tokenAt" "I" ∈ wsX11_goBehind := by decide +kernel
theorem lk_X11_goBehind_220 : Cond.fieldLink RX11 220 "EggSpoonsModel" "tokenLong" "I" ∈ wsX11_goBehind := by decide +kernel
theorem hdV_X11_lookAt : yX11_lookAt.cls = RX11 ∧ yX11_lookAt.cls ≠ "java/lang/invoke/MethodHandle" ∧ yX11_lookAt.cls ≠ "java/lang/invoke/VarHandle" ∧ (parseMethodDescriptor yX11_lookAt.desc).map (fun d => d.parameters.length) = some 1 := by decide +kernel
theorem in_X11_spells_X11 : ∀ w ∈ wsX110, w ∈ wsX11_spells := by decide +kernel
theorem lk_X11_spells_223 : Cond.fieldLink RX11 223 "EggSpoonsModel" "token" "I" ∈ wsX11_spells := by decide +kernel
theorem lk_X11_spells_220 : Cond.fieldLink RX11 220 "EggSpoonsModel" "tokenLong" "I" ∈ wsX11_spells := by decide +kernel
theorem lk_X11_spells_39 : Cond.fieldLink RX11 39 "EggSpoonsModel" "bytes" "[I" ∈ wsX11_spells := by decide +kernel
theorem lk_X11_spells_217 : Cond.fieldLink RX11 217 "EggSpoonsModel" "tokenAt" "I" ∈ wsX11_spells := by decide +kernel
theorem in_X11_takes_X11 : ∀ w ∈ wsX110, w ∈ wsX11_takes := by decide +kernel
theorem lk_X11_takes_223 : Cond.fieldLink RX11 223 "EggSpoonsModel" "token" "I" ∈ wsX11_takes := by decide +kernel
theorem lk_X11_takes_226 : Cond.fieldLink RX11 226 "EggSpoonsModel" "value" "I" ∈ wsX11_takes := by decide +kernel
theorem lk_X11_takes_45 : Cond.fieldLink RX11 45 "EggSpoonsModel" "values" "[I" ∈ wsX11_takes := by decide +kernel
theorem hdV_X11_goBehind : yX11_goBehind.cls = RX11 ∧ yX11_goBehind.cls ≠ "java/lang/invoke/MethodHandle" ∧ yX11_goBehind.cls ≠ "java/lang/invoke/VarHandle" ∧ (parseMethodDescriptor yX11_goBehind.desc).map (fun d => d.parameters.length) = some 0 := by decide +kernel
theorem in_X11_takesOne_X11 : ∀ w ∈ wsX110, w ∈ wsX11_takesOne := by decide +kernel
theorem lk_X11_takesOne_42 : Cond.fieldLink RX11 42 "EggSpoonsModel" "anew" "[I" ∈ wsX11_takesOne := by decide +kernel
theorem hdV_X11_takes : yX11_takes.cls = RX11 ∧ yX11_takes.cls ≠ "java/lang/invoke/MethodHandle" ∧ yX11_takes.cls ≠ "java/lang/invoke/VarHandle" ∧ (parseMethodDescriptor yX11_takes.desc).map (fun d => d.parameters.length) = some 3 := by decide +kernel
theorem lk_X11_takesOne_45 : Cond.fieldLink RX11 45 "EggSpoonsModel" "values" "[I" ∈ wsX11_takesOne := by decide +kernel
theorem in_X11_takesSpeed_X11 : ∀ w ∈ wsX110, w ∈ wsX11_takesSpeed := by decide +kernel
theorem lk_X11_takesSpeed_42 : Cond.fieldLink RX11 42 "EggSpoonsModel" "anew" "[I" ∈ wsX11_takesSpeed := by decide +kernel
theorem lk_X11_takesSpeed_45 : Cond.fieldLink RX11 45 "EggSpoonsModel" "values" "[I" ∈ wsX11_takesSpeed := by decide +kernel
theorem in_X11_takesStart_X11 : ∀ w ∈ wsX110, w ∈ wsX11_takesStart := by decide +kernel
theorem lk_X11_takesStart_223 : Cond.fieldLink RX11 223 "EggSpoonsModel" "token" "I" ∈ wsX11_takesStart := by decide +kernel
theorem lk_X11_takesStart_226 : Cond.fieldLink RX11 226 "EggSpoonsModel" "value" "I" ∈ wsX11_takesStart := by decide +kernel
theorem lk_X11_takesStart_42 : Cond.fieldLink RX11 42 "EggSpoonsModel" "anew" "[I" ∈ wsX11_takesStart := by decide +kernel
theorem lk_X11_takesStart_45 : Cond.fieldLink RX11 45 "EggSpoonsModel" "values" "[I" ∈ wsX11_takesStart := by decide +kernel
theorem in_X11_takesGo_X11 : ∀ w ∈ wsX110, w ∈ wsX11_takesGo := by decide +kernel
theorem lk_X11_takesGo_42 : Cond.fieldLink RX11 42 "EggSpoonsModel" "anew" "[I" ∈ wsX11_takesGo := by decide +kernel
theorem lk_X11_takesGo_45 : Cond.fieldLink RX11 45 "EggSpoonsModel" "values" "[I" ∈ wsX11_takesGo := by decide +kernel
theorem hdV_X11_spells : yX11_spells.cls = RX11 ∧ yX11_spells.cls ≠ "java/lang/invoke/MethodHandle" ∧ yX11_spells.cls ≠ "java/lang/invoke/VarHandle" ∧ (parseMethodDescriptor yX11_spells.desc).map (fun d => d.parameters.length) = some 7 := by decide +kernel
theorem hdV_X11_takesGo : yX11_takesGo.cls = RX11 ∧ yX11_takesGo.cls ≠ "java/lang/invoke/MethodHandle" ∧ yX11_takesGo.cls ≠ "java/lang/invoke/VarHandle" ∧ (parseMethodDescriptor yX11_takesGo.desc).map (fun d => d.parameters.length) = some 0 := by decide +kernel
theorem hdV_X11_takesStart : yX11_takesStart.cls = RX11 ∧ yX11_takesStart.cls ≠ "java/lang/invoke/MethodHandle" ∧ yX11_takesStart.cls ≠ "java/lang/invoke/VarHandle" ∧ (parseMethodDescriptor yX11_takesStart.desc).map (fun d => d.parameters.length) = some 0 := by decide +kernel
theorem hdV_X11_takesSpeed : yX11_takesSpeed.cls = RX11 ∧ yX11_takesSpeed.cls ≠ "java/lang/invoke/MethodHandle" ∧ yX11_takesSpeed.cls ≠ "java/lang/invoke/VarHandle" ∧ (parseMethodDescriptor yX11_takesSpeed.desc).map (fun d => d.parameters.length) = some 0 := by decide +kernel
theorem hdV_X11_takesOne : yX11_takesOne.cls = RX11 ∧ yX11_takesOne.cls ≠ "java/lang/invoke/MethodHandle" ∧ yX11_takesOne.cls ≠ "java/lang/invoke/VarHandle" ∧ (parseMethodDescriptor yX11_takesOne.desc).map (fun d => d.parameters.length) = some 0 := by decide +kernel
theorem in_X11_read_X11 : ∀ w ∈ wsX110, w ∈ wsX11_read := by decide +kernel
theorem lk_X11_read_217 : Cond.fieldLink RX11 217 "EggSpoonsModel" "tokenAt" "I" ∈ wsX11_read := by decide +kernel
theorem lk_X11_read_223 : Cond.fieldLink RX11 223 "EggSpoonsModel" "token" "I" ∈ wsX11_read := by decide +kernel
theorem lk_X11_read_42 : Cond.fieldLink RX11 42 "EggSpoonsModel" "anew" "[I" ∈ wsX11_read := by decide +kernel
theorem lk_X11_read_45 : Cond.fieldLink RX11 45 "EggSpoonsModel" "values" "[I" ∈ wsX11_read := by decide +kernel
theorem lk_X11_read_7 : Cond.fieldLink RX11 7 "EggSpoonsModel" "all" "[I" ∈ wsX11_read := by decide +kernel
theorem hdV_X11_takesItem : yX11_takesItem.cls = RX11 ∧ yX11_takesItem.cls ≠ "java/lang/invoke/MethodHandle" ∧ yX11_takesItem.cls ≠ "java/lang/invoke/VarHandle" ∧ (parseMethodDescriptor yX11_takesItem.desc).map (fun d => d.parameters.length) = some 0 := by decide +kernel
theorem in_X11_fraction_X11 : ∀ w ∈ wsX110, w ∈ wsX11_fraction := by decide +kernel
theorem lk_X11_fraction_182 : Cond.fieldLink RX11 182 "EggSpoonsModel" "above" "J" ∈ wsX11_fraction := by decide +kernel
theorem lk_X11_fraction_23 : Cond.fieldLink RX11 23 "EggSpoonsModel" "below" "J" ∈ wsX11_fraction := by decide +kernel
set_option maxHeartbeats 4000000 in
set_option maxRecDepth 100000 in
/-- fraction -/
theorem m_fraction (l : Launch) (X : EX) (m0 : Nat) (ma : Nat → Nat) (la : Int64) (lb : Int64) (n : Nat) (t : Nat → Nat) (v : Nat → Int32) (x1 : Int64) (x2 : Int64) (hI_n : n ≤ 150) (hI_t : InT t) (h2 : ¬ x2 = 0) (sz : Nat) : Met l yX11_fraction wsX11_fraction ({ frames := 0, cells := 0, slots := 0, locals := 0 } : Room) (pE X [.ref m0, .long x1, .long x2] (mW m0 ma la lb n t v) sz) (qV (fun (u : (Int64) × (Int64)) => (True)) X (fun (u : (Int64) × (Int64)) => mW m0 ma u.1 u.2 n t v) (mW m0 ma la lb n t v) sz) 0 0 (va_A (mW m0 ma la lb n t v) sz) := by
  refine mk_met (B := (va_A (mW m0 ma la lb n t v) sz)) (A := (va_A (mW m0 ma la lb n t v) sz)) (cc := cX11_fraction) (maxL := 11) (ret := none) (by decide) rfl (Nat.le_of_ble_eq_true rfl) k_w k_a (fun p e s m below meth c S zr zlk znm zsz G ls hl => ?_)
  have S : CallFix p m c cX11_fraction 11 s _ wsX11_fraction RX11 := S
  have zx := S.1
  have zb := S.2.1
  have hl : lv_has ls 11 [(0, .ref m0), (1, .long x1), (3, .long x2)] := hl
  have hO_t := hI_t
  obtain ⟨ht0_t, ht1_t⟩ := hO_t
  refine lv_lload_n zx zb dX11_fraction_0 rfl (lv_at hl 1 rfl) ?_
  refine lv_lstore (lv' := [(5, .long x1), (0, .ref m0), (1, .long x1), (3, .long x2)]) zx zb dX11_fraction_1 hl (by decide) rfl (fun ls hl => ?_)
  refine lv_lload_n zx zb dX11_fraction_3 rfl (lv_at hl 3 rfl) ?_
  refine lv_lstore (lv' := [(7, .long x2), (5, .long x1), (0, .ref m0), (1, .long x1), (3, .long x2)]) zx zb dX11_fraction_4 hl (by decide) rfl (fun ls hl => ?_)
  refine k_loop (P := ∀ (zm : Nat) (x6_7 : Int64) (x6_5 : Int64) (H : Heap) (locs : List Loc) (ls : Array Slot), ((x6_7).toInt.natAbs < zm) → (¬ (x6_5 = 0 ∧ x6_7 = 0)) → wd X (va_A (mW m0 ma la lb n t v) sz) (va_A (mW m0 ma la lb n t v) sz) s (mW m0 ma la lb n t v) H locs → lv_has ls 11 [(7, .long x6_7), (5, .long x6_5), (0, .ref m0), (1, .long x1), (3, .long x2)] → W p l e _ s m _ below meth c H locs _ _ _ (F0 m 6 ls [])) (fun loop => loop ((x2).toInt.natAbs + 1) x2 x1 _ _ _ (by omega) (by first | exact fun q => h2 q.2 | exact fun q => hb q.1)  G hl) ?_
  intro zm
  induction zm with
  | zero => intro x6_7 x6_5 H locs ls zz q_x0 _ _; exact absurd zz (by omega)
  | succ zm ih6 =>
    intro x6_7 x6_5 H locs ls zm_6 hx6_0 G hl
    refine lv_lload zx zb dX11_fraction_6 (lv_at hl 0 rfl) ?_
    refine lv_lconst (v := (Int32.toInt64 0)) zx zb dX11_fraction_8 (by decide) ?_
    refine W.lcmp zx zb dX11_fraction_9 ?_
    refine lv_if_eq (tgt := 31) zx zb dX11_fraction_10 (by decide) (fun c_1 => ?_) (fun c_1 => ?_)
    · refine lv_aload_n zx zb dX11_fraction_31 rfl (lv_at hl 2 rfl) ?_
      refine lv_lload_n zx zb dX11_fraction_32 rfl (lv_at hl 3 rfl) ?_
      refine lv_lload zx zb dX11_fraction_33 (lv_at hl 1 rfl) ?_
      refine lv_ldiv zx zb dX11_fraction_35 (k_a0 hx6_0 c_1) ?_
      refine k_ldE (fun y_2 => ?_)
      refine r_put (C := RX11) (T := TX11) (N := 18) (ci := 9) (v := .long y_2) S in_X11_fraction_X11 tyX11_ok nmX11 G 0 rfl rfl 4 (by decide) lk_X11_fraction_182 rfl rfl rfl (Nat.le_of_ble_eq_true rfl) dX11_fraction_36 (fun H locs G => ?_)
      obtain ⟨l_3, G⟩ : ∃ l_3 : Int64, wd X (va_A (mW m0 ma la lb n t v) sz) (va_A (mW m0 ma la lb n t v) sz) s (mW m0 ma l_3 lb n t v) H locs := ⟨_, G⟩
      refine lv_aload_n zx zb dX11_fraction_39 rfl (lv_at hl 2 rfl) ?_
      refine lv_lload_n zx zb dX11_fraction_40 rfl (lv_at hl 4 rfl) ?_
      refine lv_lload zx zb dX11_fraction_41 (lv_at hl 1 rfl) ?_
      refine lv_ldiv zx zb dX11_fraction_43 (k_a0 hx6_0 c_1) ?_
      refine k_ldE (fun y_4 => ?_)
      refine r_put (C := RX11) (T := TX11) (N := 18) (ci := 9) (v := .long y_4) S in_X11_fraction_X11 tyX11_ok nmX11 G 0 rfl rfl 5 (by decide) lk_X11_fraction_23 rfl rfl rfl (Nat.le_of_ble_eq_true rfl) dX11_fraction_44 (fun H locs G => ?_)
      obtain ⟨l_5, G⟩ : ∃ l_5 : Int64, wd X (va_A (mW m0 ma la lb n t v) sz) (va_A (mW m0 ma la lb n t v) sz) s (mW m0 ma l_3 l_5 n t v) H locs := ⟨_, G⟩
      exact e_void S zr zlk G (l_3, l_5) [0] rfl rfl (Or.inr rfl) (trivial) dX11_fraction_47
    · refine lv_lload zx zb dX11_fraction_13 (lv_at hl 1 rfl) ?_
      refine lv_lload zx zb dX11_fraction_15 (lv_at hl 0 rfl) ?_
      have hb := k_lnz c_1
      refine lv_lrem zx zb dX11_fraction_17 hb ?_
      obtain ⟨zr0, hzr0, ezr0⟩ : ∃ z : Int64, z.toInt.natAbs < (x6_7).toInt.natAbs ∧ x6_5 - x6_5 / x6_7 * x6_7 = z := ⟨_, k_rem hb, rfl⟩
      refine k_ld ezr0 ?_
      refine lv_lstore (lv' := [(9, .long zr0), (7, .long x6_7), (5, .long x6_5), (0, .ref m0), (1, .long x1), (3, .long x2)]) zx zb dX11_fraction_18 hl (by decide) rfl (fun ls hl => ?_)
      refine lv_lload zx zb dX11_fraction_20 (lv_at hl 1 rfl) ?_
      refine lv_lstore (lv' := [(5, .long x6_7), (9, .long zr0), (7, .long x6_7), (0, .ref m0), (1, .long x1), (3, .long x2)]) zx zb dX11_fraction_22 hl (by decide) rfl (fun ls hl => ?_)
      refine lv_lload zx zb dX11_fraction_24 (lv_at hl 1 rfl) ?_
      refine lv_lstore (lv' := [(7, .long zr0), (5, .long x6_7), (9, .long zr0), (0, .ref m0), (1, .long x1), (3, .long x2)]) zx zb dX11_fraction_26 hl (by decide) rfl (fun ls hl => ?_)
      refine lv_goto (tgt := 6) zx zb dX11_fraction_28 (by decide) ?_
      have hl := lv_sub hl (l' := [(7, .long zr0), (5, .long x6_7), (0, .ref m0), (1, .long x1), (3, .long x2)]) [0, 1, 3, 4, 5] rfl
      exact ih6 zr0 x6_7 _ _ _ (by omega) (by first | exact fun q => h2 q.2 | exact fun q => hb q.1)  G hl
theorem mm_X11_stumble_c66 : Cond.constantLong RX11 66 (60) ∈ wsX11_stumble := by decide +kernel
theorem mm_X11_stumble_c185 : Cond.constantLong RX11 185 (6) ∈ wsX11_stumble := by decide +kernel
theorem mm_X11_stumble_c64 : Cond.constantLong RX11 64 (10) ∈ wsX11_stumble := by decide +kernel
theorem in_X11_stumble_X11 : ∀ w ∈ wsX110, w ∈ wsX11_stumble := by decide +kernel
theorem lk_X11_stumble_27 : Cond.fieldLink RX11 27 "EggSpoonsModel" "hand" "[I" ∈ wsX11_stumble := by decide +kernel
theorem hdV_X11_fraction : yX11_fraction.cls = RX11 ∧ yX11_fraction.cls ≠ "java/lang/invoke/MethodHandle" ∧ yX11_fraction.cls ≠ "java/lang/invoke/VarHandle" ∧ (parseMethodDescriptor yX11_fraction.desc).map (fun d => d.parameters.length) = some 2 := by decide +kernel
set_option maxHeartbeats 4000000 in
set_option maxRecDepth 100000 in
/-- stumble -/
theorem m_stumble (l : Launch) (X : EX) (m0 : Nat) (ma : Nat → Nat) (la : Int64) (lb : Int64) (n : Nat) (t : Nat → Nat) (v : Nat → Int32) (fa : Nat → Int32) (c0 : Nat) (c1 : Nat) (c2 : Nat) (c3 : Nat) (c4 : Nat) (fh : Nat → Int32) (d0 : Nat) (d1 : Nat) (d2 : Nat) (d3 : Nat) (d4 : Nat) (fr : Nat → Int32) (x1 : Int32) (x2 : Int32) (x3 : Int32) (x4 : Int32) (hI_n : n ≤ 150) (hI_t : InT t) (hI_fa : InA fa c0 c1 c2 c3 c4) (hI_fh : InA fh d0 d1 d2 d3 d4) (sz : Nat) : Met l yX11_stumble wsX11_stumble ({ frames := 3, cells := 0, slots := 0, locals := 72 } : Room) (pE X [.ref m0, .int x1, .int x2, .int x3, .int x4] (@HAppend.hAppend va_W va_W va_W _ (mW m0 ma la lb n t v) (@HAppend.hAppend va_W va_W va_W _ ([((ma 0), .inl (X.2.1, 371, .inl fa))]) (@HAppend.hAppend va_W va_W va_W _ ([((ma 6), .inl (X.2.1, 55, .inl fh))]) ([((ma 3), .inl (X.2.1, 3, .inl fr))])))) sz) (qI (fun (r : Int32) (u : (Int64) × (Int64) × (Nat → Int32) × (Nat) × (Nat) × (Nat) × (Nat) × (Nat) × (Nat → Int32)) => InA u.2.2.1 u.2.2.2.1 u.2.2.2.2.1 u.2.2.2.2.2.1 u.2.2.2.2.2.2.1 u.2.2.2.2.2.2.2.1 ∧ (r = stuF (thP c0 x1 ∧ ((0 : Int32) ≤ x2 ∧ x2 ≤ 60) ∧ ((0 : Int32) ≤ x3 ∧ x3 ≤ 6) ∧ ((0 : Int32) ≤ x4 ∧ x4 ≤ 10)))) X (fun (u : (Int64) × (Int64) × (Nat → Int32) × (Nat) × (Nat) × (Nat) × (Nat) × (Nat) × (Nat → Int32)) => @HAppend.hAppend va_W va_W va_W _ (mW m0 ma u.1 u.2.1 n t v) (@HAppend.hAppend va_W va_W va_W _ ([((ma 0), .inl (X.2.1, 371, .inl fa))]) (@HAppend.hAppend va_W va_W va_W _ ([((ma 6), .inl (X.2.1, 55, .inl u.2.2.1))]) ([((ma 3), .inl (X.2.1, 3, .inl u.2.2.2.2.2.2.2.2))])))) (@HAppend.hAppend va_W va_W va_W _ (mW m0 ma la lb n t v) (@HAppend.hAppend va_W va_W va_W _ ([((ma 0), .inl (X.2.1, 371, .inl fa))]) (@HAppend.hAppend va_W va_W va_W _ ([((ma 6), .inl (X.2.1, 55, .inl fh))]) ([((ma 3), .inl (X.2.1, 3, .inl fr))])))) sz) 0 0 (va_A (@HAppend.hAppend va_W va_W va_W _ (mW m0 ma la lb n t v) (@HAppend.hAppend va_W va_W va_W _ ([((ma 0), .inl (X.2.1, 371, .inl fa))]) (@HAppend.hAppend va_W va_W va_W _ ([((ma 6), .inl (X.2.1, 55, .inl fh))]) ([((ma 3), .inl (X.2.1, 3, .inl fr))])))) sz) := by
  refine mk_met (B := (va_A (@HAppend.hAppend va_W va_W va_W _ (mW m0 ma la lb n t v) (@HAppend.hAppend va_W va_W va_W _ ([((ma 0), .inl (X.2.1, 371, .inl fa))]) (@HAppend.hAppend va_W va_W va_W _ ([((ma 6), .inl (X.2.1, 55, .inl fh))]) ([((ma 3), .inl (X.2.1, 3, .inl fr))])))) sz)) (A := (va_A (@HAppend.hAppend va_W va_W va_W _ (mW m0 ma la lb n t v) (@HAppend.hAppend va_W va_W va_W _ ([((ma 0), .inl (X.2.1, 371, .inl fa))]) (@HAppend.hAppend va_W va_W va_W _ ([((ma 6), .inl (X.2.1, 55, .inl fh))]) ([((ma 3), .inl (X.2.1, 3, .inl fr))])))) sz)) (cc := cX11_stumble) (maxL := 13) (ret := (some .int)) (by decide) rfl (Nat.le_of_ble_eq_true rfl) k_w k_a (fun p e s m below meth c S zr zlk znm zsz G ls hl => ?_)
  have S : CallFix p m c cX11_stumble 13 s _ wsX11_stumble RX11 := S
  have zx := S.1
  have zb := S.2.1
  have hl : lv_has ls 13 [(0, .ref m0), (1, .int x1), (2, .int x2), (3, .int x3), (4, .int x4)] := hl
  have hO_t := hI_t
  obtain ⟨ht0_t, ht1_t⟩ := hO_t
  have hO_fa := hI_fa.2
  obtain ⟨hm0_fa, hm1_fa, hm2_fa, hm3_fa, hm4_fa⟩ := hO_fa
  have hO_fh := hI_fh.2
  obtain ⟨hm0_fh, hm1_fh, hm2_fh, hm3_fh, hm4_fh⟩ := hO_fh
  refine lv_aload_n zx zb dX11_stumble_0 rfl (lv_at hl 0 rfl) ?_
  refine lv_iload_n zx zb dX11_stumble_1 rfl (lv_at hl 1 rfl) ?_
  refine o_ri (cells' := 0) (slots' := 0) G rfl rfl (n_V (As := [.int x1]) (rest := []) (C := RX11) (T := TX11) (N := 18) (ci := 9) S G (m_isOne l X m0 ma la lb n t v fa c0 c1 c2 c3 c4 x1 hI_n hI_t hI_fa s.heap.size) gX11_stumble_X11_isOne rfl rfl rfl hdV_X11_isOne ⟨Nat.le_of_ble_eq_true rfl, Nat.le_of_ble_eq_true rfl⟩ [0, 1] rfl rfl 0 rfl rfl rfl hl.1 (Nat.le_of_ble_eq_true rfl) dX11_stumble_2 ⟨Nat.le_of_ble_eq_true rfl, Nat.le_of_ble_eq_true rfl⟩) (fun r_1 u_1 H locs hp_1 G => ?_)
  have G : wd X (va_A (@HAppend.hAppend va_W va_W va_W _ (mW m0 ma la lb n t v) (@HAppend.hAppend va_W va_W va_W _ ([((ma 0), .inl (X.2.1, 371, .inl fa))]) (@HAppend.hAppend va_W va_W va_W _ ([((ma 6), .inl (X.2.1, 55, .inl fh))]) ([((ma 3), .inl (X.2.1, 3, .inl fr))])))) sz) (va_A (@HAppend.hAppend va_W va_W va_W _ (mW m0 ma la lb n t v) (@HAppend.hAppend va_W va_W va_W _ ([((ma 0), .inl (X.2.1, 371, .inl fa))]) (@HAppend.hAppend va_W va_W va_W _ ([((ma 6), .inl (X.2.1, 55, .inl fh))]) ([((ma 3), .inl (X.2.1, 3, .inl fr))])))) sz) s (@HAppend.hAppend va_W va_W va_W _ (mW m0 ma la lb n t v) (@HAppend.hAppend va_W va_W va_W _ ([((ma 0), .inl (X.2.1, 371, .inl fa))]) (@HAppend.hAppend va_W va_W va_W _ ([((ma 6), .inl (X.2.1, 55, .inl fh))]) ([((ma 3), .inl (X.2.1, 3, .inl fr))])))) H locs := G
  rcases hp_1 with ⟨rfl, hj_1⟩ | ⟨rfl, hj_1⟩
  · obtain ⟨j_1, hj_1, rfl⟩ := hj_1
    refine lv_if_eq (tgt := 45) zx zb dX11_stumble_5 (by decide) (fun c_2 => absurd c_2 (by decide)) (fun c_2 => ?_)
    refine lv_iload_n zx zb dX11_stumble_8 rfl (lv_at hl 2 rfl) ?_
    refine lv_i2l (v := (Int32.toInt64 x2)) zx zb dX11_stumble_9 rfl ?_
    refine lv_lconst (v := (Int32.toInt64 0)) zx zb dX11_stumble_10 (by decide) ?_
    refine lv_ldc2 zx zb S.2.2.2.1 (S.2.2.2.2 _ mm_X11_stumble_c66) dX11_stumble_11 ?_
    refine k_ld (v := (Int32.toInt64 60)) (by decide) ?_
    refine o_ri (cells' := 0) (slots' := 0) G rfl rfl (n_S (As := [.long (Int32.toInt64 x2), .long (Int32.toInt64 0), .long (Int32.toInt64 60)]) (rest := []) S G (m_in l X x2 0 60 H.size) gX11_stumble_X11_in rfl rfl rfl hdS_X11_in ⟨Nat.le_of_ble_eq_true rfl, Nat.le_of_ble_eq_true rfl⟩ [] rfl rfl rfl hl.1 (Nat.le_of_ble_eq_true rfl) dX11_stumble_14 ⟨Nat.le_of_ble_eq_true rfl, Nat.le_of_ble_eq_true rfl⟩) (fun r_3 u_3 H locs hp_3 G => ?_)
    have G : wd X (va_A (@HAppend.hAppend va_W va_W va_W _ (mW m0 ma la lb n t v) (@HAppend.hAppend va_W va_W va_W _ ([((ma 0), .inl (X.2.1, 371, .inl fa))]) (@HAppend.hAppend va_W va_W va_W _ ([((ma 6), .inl (X.2.1, 55, .inl fh))]) ([((ma 3), .inl (X.2.1, 3, .inl fr))])))) sz) (va_A (@HAppend.hAppend va_W va_W va_W _ (mW m0 ma la lb n t v) (@HAppend.hAppend va_W va_W va_W _ ([((ma 0), .inl (X.2.1, 371, .inl fa))]) (@HAppend.hAppend va_W va_W va_W _ ([((ma 6), .inl (X.2.1, 55, .inl fh))]) ([((ma 3), .inl (X.2.1, 3, .inl fr))])))) sz) s (@HAppend.hAppend va_W va_W va_W _ (mW m0 ma la lb n t v) (@HAppend.hAppend va_W va_W va_W _ ([((ma 0), .inl (X.2.1, 371, .inl fa))]) (@HAppend.hAppend va_W va_W va_W _ ([((ma 6), .inl (X.2.1, 55, .inl fh))]) ([((ma 3), .inl (X.2.1, 3, .inl fr))])))) H locs := G
    rcases hp_3 with ⟨rfl, hw_3⟩ | ⟨rfl, hw_3⟩
    · obtain ⟨j_3, ⟨ja_3, jb_3⟩, rfl⟩ := k_natR (a := 0) (b := 60) hw_3 rfl rfl (by decide) (by decide)
      refine lv_if_eq (tgt := 45) zx zb dX11_stumble_17 (by decide) (fun c_4 => absurd c_4 (by decide)) (fun c_4 => ?_)
      refine lv_iload_n zx zb dX11_stumble_20 rfl (lv_at hl 3 rfl) ?_
      refine lv_i2l (v := (Int32.toInt64 x3)) zx zb dX11_stumble_21 rfl ?_
      refine lv_lconst (v := (Int32.toInt64 0)) zx zb dX11_stumble_22 (by decide) ?_
      refine lv_ldc2 zx zb S.2.2.2.1 (S.2.2.2.2 _ mm_X11_stumble_c185) dX11_stumble_23 ?_
      refine k_ld (v := (Int32.toInt64 6)) (by decide) ?_
      refine o_ri (cells' := 0) (slots' := 0) G rfl rfl (n_S (As := [.long (Int32.toInt64 x3), .long (Int32.toInt64 0), .long (Int32.toInt64 6)]) (rest := []) S G (m_in l X x3 0 6 H.size) gX11_stumble_X11_in rfl rfl rfl hdS_X11_in ⟨Nat.le_of_ble_eq_true rfl, Nat.le_of_ble_eq_true rfl⟩ [] rfl rfl rfl hl.1 (Nat.le_of_ble_eq_true rfl) dX11_stumble_26 ⟨Nat.le_of_ble_eq_true rfl, Nat.le_of_ble_eq_true rfl⟩) (fun r_5 u_5 H locs hp_5 G => ?_)
      have G : wd X (va_A (@HAppend.hAppend va_W va_W va_W _ (mW m0 ma la lb n t v) (@HAppend.hAppend va_W va_W va_W _ ([((ma 0), .inl (X.2.1, 371, .inl fa))]) (@HAppend.hAppend va_W va_W va_W _ ([((ma 6), .inl (X.2.1, 55, .inl fh))]) ([((ma 3), .inl (X.2.1, 3, .inl fr))])))) sz) (va_A (@HAppend.hAppend va_W va_W va_W _ (mW m0 ma la lb n t v) (@HAppend.hAppend va_W va_W va_W _ ([((ma 0), .inl (X.2.1, 371, .inl fa))]) (@HAppend.hAppend va_W va_W va_W _ ([((ma 6), .inl (X.2.1, 55, .inl fh))]) ([((ma 3), .inl (X.2.1, 3, .inl fr))])))) sz) s (@HAppend.hAppend va_W va_W va_W _ (mW m0 ma la lb n t v) (@HAppend.hAppend va_W va_W va_W _ ([((ma 0), .inl (X.2.1, 371, .inl fa))]) (@HAppend.hAppend va_W va_W va_W _ ([((ma 6), .inl (X.2.1, 55, .inl fh))]) ([((ma 3), .inl (X.2.1, 3, .inl fr))])))) H locs := G
      rcases hp_5 with ⟨rfl, hw_5⟩ | ⟨rfl, hw_5⟩
      · obtain ⟨j_5, ⟨ja_5, jb_5⟩, rfl⟩ := k_natR (a := 0) (b := 6) hw_5 rfl rfl (by decide) (by decide)
        refine lv_if_eq (tgt := 45) zx zb dX11_stumble_29 (by decide) (fun c_6 => absurd c_6 (by decide)) (fun c_6 => ?_)
        refine lv_iload zx zb dX11_stumble_32 (lv_at hl 4 rfl) ?_
        refine lv_i2l (v := (Int32.toInt64 x4)) zx zb dX11_stumble_34 rfl ?_
        refine lv_lconst (v := (Int32.toInt64 0)) zx zb dX11_stumble_35 (by decide) ?_
        refine lv_ldc2 zx zb S.2.2.2.1 (S.2.2.2.2 _ mm_X11_stumble_c64) dX11_stumble_36 ?_
        refine k_ld (v := (Int32.toInt64 10)) (by decide) ?_
        refine o_ri (cells' := 0) (slots' := 0) G rfl rfl (n_S (As := [.long (Int32.toInt64 x4), .long (Int32.toInt64 0), .long (Int32.toInt64 10)]) (rest := []) S G (m_in l X x4 0 10 H.size) gX11_stumble_X11_in rfl rfl rfl hdS_X11_in ⟨Nat.le_of_ble_eq_true rfl, Nat.le_of_ble_eq_true rfl⟩ [] rfl rfl rfl hl.1 (Nat.le_of_ble_eq_true rfl) dX11_stumble_39 ⟨Nat.le_of_ble_eq_true rfl, Nat.le_of_ble_eq_true rfl⟩) (fun r_7 u_7 H locs hp_7 G => ?_)
        have G : wd X (va_A (@HAppend.hAppend va_W va_W va_W _ (mW m0 ma la lb n t v) (@HAppend.hAppend va_W va_W va_W _ ([((ma 0), .inl (X.2.1, 371, .inl fa))]) (@HAppend.hAppend va_W va_W va_W _ ([((ma 6), .inl (X.2.1, 55, .inl fh))]) ([((ma 3), .inl (X.2.1, 3, .inl fr))])))) sz) (va_A (@HAppend.hAppend va_W va_W va_W _ (mW m0 ma la lb n t v) (@HAppend.hAppend va_W va_W va_W _ ([((ma 0), .inl (X.2.1, 371, .inl fa))]) (@HAppend.hAppend va_W va_W va_W _ ([((ma 6), .inl (X.2.1, 55, .inl fh))]) ([((ma 3), .inl (X.2.1, 3, .inl fr))])))) sz) s (@HAppend.hAppend va_W va_W va_W _ (mW m0 ma la lb n t v) (@HAppend.hAppend va_W va_W va_W _ ([((ma 0), .inl (X.2.1, 371, .inl fa))]) (@HAppend.hAppend va_W va_W va_W _ ([((ma 6), .inl (X.2.1, 55, .inl fh))]) ([((ma 3), .inl (X.2.1, 3, .inl fr))])))) H locs := G
        rcases hp_7 with ⟨rfl, hw_7⟩ | ⟨rfl, hw_7⟩
        · obtain ⟨j_7, ⟨ja_7, jb_7⟩, rfl⟩ := k_natR (a := 0) (b := 10) hw_7 rfl rfl (by decide) (by decide)
          refine lv_if_ne (tgt := 52) zx zb dX11_stumble_42 (by decide) (fun c_8 => ?_) (fun c_8 => absurd c_8 (by decide))
          refine lv_lconst (v := (Int32.toInt64 0)) zx zb dX11_stumble_52 (by decide) ?_
          refine lv_lstore (lv' := [(5, .long (Int32.toInt64 0)), (0, .ref m0), (1, .int (nI j_1)), (2, .int (nI j_3)), (3, .int (nI j_5)), (4, .int (nI j_7))]) zx zb dX11_stumble_53 hl (by decide) rfl (fun ls hl => ?_)
          refine lv_lconst (v := (Int32.toInt64 1)) zx zb dX11_stumble_55 (by decide) ?_
          refine lv_lstore (lv' := [(7, .long (Int32.toInt64 1)), (5, .long (Int32.toInt64 0)), (0, .ref m0), (1, .int (nI j_1)), (2, .int (nI j_3)), (3, .int (nI j_5)), (4, .int (nI j_7))]) zx zb dX11_stumble_56 hl (by decide) rfl (fun ls hl => ?_)
          refine lv_iconst (v := 0) zx zb dX11_stumble_58 (by decide) ?_
          refine lv_istore (lv' := [(9, .int 0), (7, .long (Int32.toInt64 1)), (5, .long (Int32.toInt64 0)), (0, .ref m0), (1, .int (nI j_1)), (2, .int (nI j_3)), (3, .int (nI j_5)), (4, .int (nI j_7))]) zx zb dX11_stumble_59 hl (by decide) rfl (fun ls hl => ?_)
          refine k_loop (P := ∀ (zm : Nat) (k61 : Nat) (x61_7 : Int64) (H : Heap) (locs : List Loc) (ls : Array Slot), 6 + 1 ≤ k61 + zm → (k61 ≤ 6) → (x61_7 = lN (10 ^ k61)) → wd X (va_A (@HAppend.hAppend va_W va_W va_W _ (mW m0 ma la lb n t v) (@HAppend.hAppend va_W va_W va_W _ ([((ma 0), .inl (X.2.1, 371, .inl fa))]) (@HAppend.hAppend va_W va_W va_W _ ([((ma 6), .inl (X.2.1, 55, .inl fh))]) ([((ma 3), .inl (X.2.1, 3, .inl fr))])))) sz) (va_A (@HAppend.hAppend va_W va_W va_W _ (mW m0 ma la lb n t v) (@HAppend.hAppend va_W va_W va_W _ ([((ma 0), .inl (X.2.1, 371, .inl fa))]) (@HAppend.hAppend va_W va_W va_W _ ([((ma 6), .inl (X.2.1, 55, .inl fh))]) ([((ma 3), .inl (X.2.1, 3, .inl fr))])))) sz) s (@HAppend.hAppend va_W va_W va_W _ (mW m0 ma la lb n t v) (@HAppend.hAppend va_W va_W va_W _ ([((ma 0), .inl (X.2.1, 371, .inl fa))]) (@HAppend.hAppend va_W va_W va_W _ ([((ma 6), .inl (X.2.1, 55, .inl fh))]) ([((ma 3), .inl (X.2.1, 3, .inl fr))])))) H locs → lv_has ls 13 [(9, .int (nI k61)), (7, .long x61_7), (5, .long (Int32.toInt64 0)), (0, .ref m0), (1, .int (nI j_1)), (2, .int (nI j_3)), (3, .int (nI j_5)), (4, .int (nI j_7))] → W p l e _ s m _ below meth c H locs _ _ _ (F0 m 61 ls [])) (fun loop => loop (6 + 1) 0 (Int32.toInt64 1) _ _ _ (by omega) (by omega) (by first | assumption | exact k_p10a | exact k_p10s (by omega) (by assumption)) G hl) ?_
          intro zm
          induction zm with
          | zero => intro k61 x61_7 H locs ls zz q_hk_k61 q_hk_x61_7 _ _; exact absurd zz (by omega)
          | succ zm ih61 =>
            intro k61 x61_7 H locs ls zm_61 hk_k61 hk_x61_7 G hl
            refine lv_iload zx zb dX11_stumble_61 (lv_at hl 0 rfl) ?_
            refine lv_iload_n zx zb dX11_stumble_63 rfl (lv_at hl 6 rfl) ?_
            refine lv_icmp_ge (tgt := 81) zx zb dX11_stumble_64 (by decide) (fun c_9 => ?_) (fun c_9 => ?_)
            · have fc_9 := j_le (a := j_5) (b := k61) (by omega) (by omega) c_9
              refine lv_iconst (v := 0) zx zb dX11_stumble_81 (by decide) ?_
              refine lv_istore (lv' := [(9, .int 0), (7, .long x61_7), (5, .long (Int32.toInt64 0)), (0, .ref m0), (1, .int (nI j_1)), (2, .int (nI j_3)), (3, .int (nI j_5)), (4, .int (nI j_7))]) zx zb dX11_stumble_82 hl (by decide) rfl (fun ls hl => ?_)
              refine k_loop (P := ∀ (zm : Nat) (k84 : Nat) (x84_5 : Int64) (f84_2 : Nat → Int32) (c084_2 : Nat) (c184_2 : Nat) (c284_2 : Nat) (c384_2 : Nat) (c484_2 : Nat) (H : Heap) (locs : List Loc) (ls : Array Slot), 64 + 1 ≤ k84 + zm → InA f84_2 c084_2 c184_2 c284_2 c384_2 c484_2 → (k84 ≤ 64) → wd X (va_A (@HAppend.hAppend va_W va_W va_W _ (mW m0 ma la lb n t v) (@HAppend.hAppend va_W va_W va_W _ ([((ma 0), .inl (X.2.1, 371, .inl fa))]) (@HAppend.hAppend va_W va_W va_W _ ([((ma 6), .inl (X.2.1, 55, .inl fh))]) ([((ma 3), .inl (X.2.1, 3, .inl fr))])))) sz) (va_A (@HAppend.hAppend va_W va_W va_W _ (mW m0 ma la lb n t v) (@HAppend.hAppend va_W va_W va_W _ ([((ma 0), .inl (X.2.1, 371, .inl fa))]) (@HAppend.hAppend va_W va_W va_W _ ([((ma 6), .inl (X.2.1, 55, .inl fh))]) ([((ma 3), .inl (X.2.1, 3, .inl fr))])))) sz) s (@HAppend.hAppend va_W va_W va_W _ (mW m0 ma la lb n t v) (@HAppend.hAppend va_W va_W va_W _ ([((ma 0), .inl (X.2.1, 371, .inl fa))]) (@HAppend.hAppend va_W va_W va_W _ ([((ma 6), .inl (X.2.1, 55, .inl f84_2))]) ([((ma 3), .inl (X.2.1, 3, .inl fr))])))) H locs → lv_has ls 13 [(9, .int (nI k84)), (7, .long x61_7), (5, .long x84_5), (0, .ref m0), (1, .int (nI j_1)), (2, .int (nI j_3)), (3, .int (nI j_5)), (4, .int (nI j_7))] → W p l e _ s m _ below meth c H locs _ _ _ (F0 m 84 ls [])) (fun loop => loop (64 + 1) 0 (Int32.toInt64 0) fh d0 d1 d2 d3 d4 _ _ _ (by omega) hI_fh (by omega) G hl) ?_
              intro zm
              induction zm with
              | zero => intro k84 x84_5 f84_2 c084_2 c184_2 c284_2 c384_2 c484_2 H locs ls zz q_hI_f84_2 q_hk_k84 _ _; exact absurd zz (by omega)
              | succ zm ih84 =>
                intro k84 x84_5 f84_2 c084_2 c184_2 c284_2 c384_2 c484_2 H locs ls zm_84 hI_f84_2 hk_k84 G hl
                have hO_f84_2 := hI_f84_2.2
                obtain ⟨hm0_f84_2, hm1_f84_2, hm2_f84_2, hm3_f84_2, hm4_f84_2⟩ := hO_f84_2
                refine lv_iload zx zb dX11_stumble_84 (lv_at hl 0 rfl) ?_
                refine lv_iconst (v := 1) zx zb dX11_stumble_86 (by decide) ?_
                refine lv_iload_n zx zb dX11_stumble_87 rfl (lv_at hl 6 rfl) ?_
                refine lv_ishl zx zb dX11_stumble_88 ?_
                obtain ⟨z8, hz8, ez8⟩ := k_shl6 (n := j_5) (by omega)
                refine k_it ez8 ?_
                refine lv_icmp_ge (tgt := 207) zx zb dX11_stumble_89 (by decide) (fun c_10 => ?_) (fun c_10 => ?_)
                · have fc_10 := j_le (a := z8) (b := k84) (by omega) (by omega) c_10
                  refine lv_aload_n zx zb dX11_stumble_207 rfl (lv_at hl 3 rfl) ?_
                  refine lv_lload zx zb dX11_stumble_208 (lv_at hl 2 rfl) ?_
                  refine lv_lload zx zb dX11_stumble_210 (lv_at hl 1 rfl) ?_
                  refine b_wv (cells' := 0) (slots' := 0) (wr := @HAppend.hAppend va_W va_W va_W _ ([((ma 0), .inl (X.2.1, 371, .inl fa))]) (@HAppend.hAppend va_W va_W va_W _ ([((ma 6), .inl (X.2.1, 55, .inl f84_2))]) ([((ma 3), .inl (X.2.1, 3, .inl fr))]))) G rfl rfl [0] [1, 2, 3] rfl rfl rfl rfl (n_V (As := [.long x84_5, .long x61_7]) (rest := []) (C := RX11) (T := TX11) (N := 18) (ci := 9) S G (m_fraction l X m0 ma la lb n t v x84_5 x61_7 hI_n hI_t (k_p10n (by omega) hk_x61_7) H.size) gX11_stumble_X11_fraction rfl rfl rfl hdV_X11_fraction ⟨Nat.le_of_ble_eq_true rfl, Nat.le_of_ble_eq_true rfl⟩ [0] rfl rfl 0 rfl rfl rfl hl.1 (Nat.le_of_ble_eq_true rfl) dX11_stumble_212 ⟨Nat.le_of_ble_eq_true rfl, Nat.le_of_ble_eq_true rfl⟩) (fun u_11 H locs hp_11 G => ?_)
                  obtain ⟨la_11a, lb_11b⟩ := u_11
                  have hq_11 := hp_11
                  have hO_t := hI_t
                  obtain ⟨ht0_t, ht1_t⟩ := hO_t
                  have G : wd X (va_A (@HAppend.hAppend va_W va_W va_W _ (mW m0 ma la lb n t v) (@HAppend.hAppend va_W va_W va_W _ ([((ma 0), .inl (X.2.1, 371, .inl fa))]) (@HAppend.hAppend va_W va_W va_W _ ([((ma 6), .inl (X.2.1, 55, .inl fh))]) ([((ma 3), .inl (X.2.1, 3, .inl fr))])))) sz) (va_A (@HAppend.hAppend va_W va_W va_W _ (mW m0 ma la lb n t v) (@HAppend.hAppend va_W va_W va_W _ ([((ma 0), .inl (X.2.1, 371, .inl fa))]) (@HAppend.hAppend va_W va_W va_W _ ([((ma 6), .inl (X.2.1, 55, .inl fh))]) ([((ma 3), .inl (X.2.1, 3, .inl fr))])))) sz) s (@HAppend.hAppend va_W va_W va_W _ ([((ma 0), .inl (X.2.1, 371, .inl fa))]) (@HAppend.hAppend va_W va_W va_W _ ([((ma 6), .inl (X.2.1, 55, .inl f84_2))]) (@HAppend.hAppend va_W va_W va_W _ ([((ma 3), .inl (X.2.1, 3, .inl fr))]) (mW m0 ma la_11a lb_11b n t v)))) H locs := G
                  refine lv_iconst (v := 1) zx zb dX11_stumble_215 (by decide) ?_
                  exact e_int S zr zlk (vp_nar_int _) G (la_11a, lb_11b, f84_2, c084_2, c184_2, c284_2, c384_2, c484_2, fr) [3, 0, 1, 2] rfl rfl (Or.inr rfl) (⟨hI_f84_2, (stuF_p ⟨⟨_, hj_1, rfl⟩, hw_3, hw_5, hw_7⟩).symm⟩) dX11_stumble_216
                · have fc_10 := j_nle (a := z8) (b := k84) (by omega) (by omega) c_10
                  refine lv_lconst (v := (Int32.toInt64 1)) zx zb dX11_stumble_92 (by decide) ?_
                  refine lv_lstore (lv' := [(10, .long (Int32.toInt64 1)), (9, .int (nI k84)), (7, .long x61_7), (5, .long x84_5), (0, .ref m0), (1, .int (nI j_1)), (2, .int (nI j_3)), (3, .int (nI j_5)), (4, .int (nI j_7))]) zx zb dX11_stumble_93 hl (by decide) rfl (fun ls hl => ?_)
                  refine lv_aload_n zx zb dX11_stumble_95 rfl (lv_at hl 4 rfl) ?_
                  refine b_wv (cells' := 0) (slots' := 0) (wr := [((ma 3), .inl (X.2.1, 3, .inl fr))]) G rfl rfl [0, 1, 2] [3] rfl rfl rfl rfl (n_V (As := []) (rest := []) (C := RX11) (T := TX11) (N := 18) (ci := 9) S G (m_layHand l X m0 ma la lb n t v fa c0 c1 c2 c3 c4 f84_2 c084_2 c184_2 c284_2 c384_2 c484_2 hI_n hI_t hI_fa hI_f84_2 H.size) gX11_stumble_X11_layHand rfl rfl rfl hdV_X11_layHand ⟨Nat.le_of_ble_eq_true rfl, Nat.le_of_ble_eq_true rfl⟩ [0, 1, 2] rfl rfl 0 rfl rfl rfl hl.1 (Nat.le_of_ble_eq_true rfl) dX11_stumble_96 ⟨Nat.le_of_ble_eq_true rfl, Nat.le_of_ble_eq_true rfl⟩) (fun u_12 H locs hp_12 G => ?_)
                  obtain ⟨f_12a, c0_12b, c1_12c, c2_12d, c3_12e, c4_12f⟩ := u_12
                  try dsimp only at hp_12
                  obtain ⟨hI_f_12a, hq_12⟩ := hp_12
                  have hO_f_12a := hI_f_12a.2
                  obtain ⟨hm0_f_12a, hm1_f_12a, hm2_f_12a, hm3_f_12a, hm4_f_12a⟩ := hO_f_12a
                  have G : wd X (va_A (@HAppend.hAppend va_W va_W va_W _ (mW m0 ma la lb n t v) (@HAppend.hAppend va_W va_W va_W _ ([((ma 0), .inl (X.2.1, 371, .inl fa))]) (@HAppend.hAppend va_W va_W va_W _ ([((ma 6), .inl (X.2.1, 55, .inl fh))]) ([((ma 3), .inl (X.2.1, 3, .inl fr))])))) sz) (va_A (@HAppend.hAppend va_W va_W va_W _ (mW m0 ma la lb n t v) (@HAppend.hAppend va_W va_W va_W _ ([((ma 0), .inl (X.2.1, 371, .inl fa))]) (@HAppend.hAppend va_W va_W va_W _ ([((ma 6), .inl (X.2.1, 55, .inl fh))]) ([((ma 3), .inl (X.2.1, 3, .inl fr))])))) sz) s (@HAppend.hAppend va_W va_W va_W _ ([((ma 3), .inl (X.2.1, 3, .inl fr))]) (@HAppend.hAppend va_W va_W va_W _ (mW m0 ma la lb n t v) (@HAppend.hAppend va_W va_W va_W _ ([((ma 0), .inl (X.2.1, 371, .inl fa))]) ([((ma 6), .inl (X.2.1, 55, .inl f_12a))])))) H locs := G
                  refine lv_iconst (v := 0) zx zb dX11_stumble_99 (by decide) ?_
                  refine lv_istore (lv' := [(12, .int 0), (10, .long (Int32.toInt64 1)), (9, .int (nI k84)), (7, .long x61_7), (5, .long x84_5), (0, .ref m0), (1, .int (nI j_1)), (2, .int (nI j_3)), (3, .int (nI j_5)), (4, .int (nI j_7))]) zx zb dX11_stumble_100 hl (by decide) rfl (fun ls hl => ?_)
                  refine k_loop (P := ∀ (zm : Nat) (k102 : Nat) (x102_10 : Int64) (f102_3 : Nat → Int32) (H : Heap) (locs : List Loc) (ls : Array Slot), 6 + 1 ≤ k102 + zm → InA f102_3 c0_12b c1_12c c2_12d c3_12e c4_12f → (k102 ≤ 6) → wd X (va_A (@HAppend.hAppend va_W va_W va_W _ (mW m0 ma la lb n t v) (@HAppend.hAppend va_W va_W va_W _ ([((ma 0), .inl (X.2.1, 371, .inl fa))]) (@HAppend.hAppend va_W va_W va_W _ ([((ma 6), .inl (X.2.1, 55, .inl fh))]) ([((ma 3), .inl (X.2.1, 3, .inl fr))])))) sz) (va_A (@HAppend.hAppend va_W va_W va_W _ (mW m0 ma la lb n t v) (@HAppend.hAppend va_W va_W va_W _ ([((ma 0), .inl (X.2.1, 371, .inl fa))]) (@HAppend.hAppend va_W va_W va_W _ ([((ma 6), .inl (X.2.1, 55, .inl fh))]) ([((ma 3), .inl (X.2.1, 3, .inl fr))])))) sz) s (@HAppend.hAppend va_W va_W va_W _ ([((ma 3), .inl (X.2.1, 3, .inl fr))]) (@HAppend.hAppend va_W va_W va_W _ (mW m0 ma la lb n t v) (@HAppend.hAppend va_W va_W va_W _ ([((ma 0), .inl (X.2.1, 371, .inl fa))]) ([((ma 6), .inl (X.2.1, 55, .inl f102_3))])))) H locs → lv_has ls 13 [(12, .int (nI k102)), (10, .long x102_10), (9, .int (nI k84)), (7, .long x61_7), (5, .long x84_5), (0, .ref m0), (1, .int (nI j_1)), (2, .int (nI j_3)), (3, .int (nI j_5)), (4, .int (nI j_7))] → W p l e _ s m _ below meth c H locs _ _ _ (F0 m 102 ls [])) (fun loop => loop (6 + 1) 0 (Int32.toInt64 1) f_12a _ _ _ (by omega) hI_f_12a (by omega) G hl) ?_
                  intro zm
                  induction zm with
                  | zero => intro k102 x102_10 f102_3 H locs ls zz q_hI_f102_3 q_hk_k102 _ _; exact absurd zz (by omega)
                  | succ zm ih102 =>
                    intro k102 x102_10 f102_3 H locs ls zm_102 hI_f102_3 hk_k102 G hl
                    refine lv_iload zx zb dX11_stumble_102 (lv_at hl 0 rfl) ?_
                    refine lv_iload_n zx zb dX11_stumble_104 rfl (lv_at hl 8 rfl) ?_
                    refine lv_icmp_ge (tgt := 178) zx zb dX11_stumble_105 (by decide) (fun c_13 => ?_) (fun c_13 => ?_)
                    · have fc_13 := j_le (a := j_5) (b := k102) (by omega) (by omega) c_13
                      refine lv_lload zx zb dX11_stumble_178 (lv_at hl 4 rfl) ?_
                      refine lv_aload_n zx zb dX11_stumble_180 rfl (lv_at hl 5 rfl) ?_
                      refine r_get (C := RX11) (T := TX11) (N := 18) (ci := 9) (v := .ref (ma 6)) S in_X11_stumble_X11 G 1 rfl rfl 6 (by decide) lk_X11_stumble_27 rfl dX11_stumble_181 ?_
                      refine lv_iconst (v := 5) zx zb dX11_stumble_184 (by decide) ?_
                      refine lv_iload_n zx zb dX11_stumble_185 rfl (lv_at hl 6 rfl) ?_
                      refine r_iadd (v := (nI (5 + j_1))) S (nI_add 5 j_1) dX11_stumble_186 ?_
                      refine r_iald S G 3 rfl (vp_in_nI (by omega) (by decide)) rfl dX11_stumble_187 ?_
                      refine k_itE (fun y_14 => ?_)
                      refine lv_iload_n zx zb dX11_stumble_188 rfl (lv_at hl 7 rfl) ?_
                      refine k_cutW (PP := fun Wx => ∀ (x_16 : Int64) (H : Heap) (locs : List Loc) (ls : Array Slot), wd X (va_A (@HAppend.hAppend va_W va_W va_W _ (mW m0 ma la lb n t v) (@HAppend.hAppend va_W va_W va_W _ ([((ma 0), .inl (X.2.1, 371, .inl fa))]) (@HAppend.hAppend va_W va_W va_W _ ([((ma 6), .inl (X.2.1, 55, .inl fh))]) ([((ma 3), .inl (X.2.1, 3, .inl fr))])))) sz) (va_A (@HAppend.hAppend va_W va_W va_W _ (mW m0 ma la lb n t v) (@HAppend.hAppend va_W va_W va_W _ ([((ma 0), .inl (X.2.1, 371, .inl fa))]) (@HAppend.hAppend va_W va_W va_W _ ([((ma 6), .inl (X.2.1, 55, .inl fh))]) ([((ma 3), .inl (X.2.1, 3, .inl fr))])))) sz) s (@HAppend.hAppend va_W va_W va_W _ ([((ma 3), .inl (X.2.1, 3, .inl fr))]) (@HAppend.hAppend va_W va_W va_W _ (mW m0 ma la lb n t v) (@HAppend.hAppend va_W va_W va_W _ ([((ma 0), .inl (X.2.1, 371, .inl fa))]) ([((ma 6), .inl (X.2.1, 55, .inl f102_3))])))) H locs → lv_has ls 13 [(12, .int (nI k102)), (10, .long x102_10), (9, .int (nI k84)), (7, .long x61_7), (5, .long x84_5), (0, .ref m0), (1, .int (nI j_1)), (2, .int (nI j_3)), (3, .int (nI j_5)), (4, .int (nI j_7))] → Wx (F0 m 198 ls [.long x_16, .long x84_5]) H locs) ?_ ?_
                      · intro join_189
                        refine lv_icmp_lt (tgt := 197) zx zb dX11_stumble_189 (by decide) (fun c_15 => ?_) (fun c_15 => ?_)
                        · refine lv_lconst (v := (Int32.toInt64 0)) zx zb dX11_stumble_197 (by decide) ?_
                          exact join_189 (Int32.toInt64 0) _ _ _  G hl
                        · refine lv_lload zx zb dX11_stumble_192 (lv_at hl 1 rfl) ?_
                          refine lv_goto (tgt := 198) zx zb dX11_stumble_194 (by decide) ?_
                          exact join_189 x102_10 _ _ _  G hl
                      · intro x_16 H locs ls  G hl
                        refine r_ladd (v := (x84_5 + x_16)) S rfl dX11_stumble_198 ?_
                        refine lv_lstore (lv' := [(5, .long (x84_5 + x_16)), (12, .int (nI k102)), (10, .long x102_10), (9, .int (nI k84)), (7, .long x61_7), (0, .ref m0), (1, .int (nI j_1)), (2, .int (nI j_3)), (3, .int (nI j_5)), (4, .int (nI j_7))]) zx zb dX11_stumble_199 hl (by decide) rfl (fun ls hl => ?_)
                        refine lv_iinc (v := (nI (k84 + 1))) (lv' := [(9, .int (nI (k84 + 1))), (5, .long (x84_5 + x_16)), (12, .int (nI k102)), (10, .long x102_10), (7, .long x61_7), (0, .ref m0), (1, .int (nI j_1)), (2, .int (nI j_3)), (3, .int (nI j_5)), (4, .int (nI j_7))]) zx zb dX11_stumble_201 hl (k := 3) rfl (nI_add k84 1) (by decide) rfl (fun ls hl => ?_)
                        refine lv_goto (tgt := 84) zx zb dX11_stumble_204 (by decide) ?_
                        have G : wd X (va_A (@HAppend.hAppend va_W va_W va_W _ (mW m0 ma la lb n t v) (@HAppend.hAppend va_W va_W va_W _ ([((ma 0), .inl (X.2.1, 371, .inl fa))]) (@HAppend.hAppend va_W va_W va_W _ ([((ma 6), .inl (X.2.1, 55, .inl fh))]) ([((ma 3), .inl (X.2.1, 3, .inl fr))])))) sz) (va_A (@HAppend.hAppend va_W va_W va_W _ (mW m0 ma la lb n t v) (@HAppend.hAppend va_W va_W va_W _ ([((ma 0), .inl (X.2.1, 371, .inl fa))]) (@HAppend.hAppend va_W va_W va_W _ ([((ma 6), .inl (X.2.1, 55, .inl fh))]) ([((ma 3), .inl (X.2.1, 3, .inl fr))])))) sz) s (@HAppend.hAppend va_W va_W va_W _ (mW m0 ma la lb n t v) (@HAppend.hAppend va_W va_W va_W _ ([((ma 0), .inl (X.2.1, 371, .inl fa))]) (@HAppend.hAppend va_W va_W va_W _ ([((ma 6), .inl (X.2.1, 55, .inl f102_3))]) ([((ma 3), .inl (X.2.1, 3, .inl fr))])))) H locs := wd_sub G [1, 2, 3, 0] rfl rfl
                        have hl := lv_sub hl (l' := [(9, .int (nI (k84 + 1))), (7, .long x61_7), (5, .long (x84_5 + x_16)), (0, .ref m0), (1, .int (nI j_1)), (2, .int (nI j_3)), (3, .int (nI j_5)), (4, .int (nI j_7))]) [0, 4, 1, 5, 6, 7, 8, 9] rfl
                        exact ih84 (k84 + 1) (x84_5 + x_16) f102_3 c0_12b c1_12c c2_12d c3_12e c4_12f _ _ _ (by omega) hI_f102_3 (by omega) G hl
                    · have fc_13 := j_nle (a := j_5) (b := k102) (by omega) (by omega) c_13
                      refine lv_lload zx zb dX11_stumble_108 (lv_at hl 1 rfl) ?_
                      refine lv_iload zx zb dX11_stumble_110 (lv_at hl 2 rfl) ?_
                      refine lv_iload zx zb dX11_stumble_112 (lv_at hl 0 rfl) ?_
                      refine o_ri (cells' := 0) (slots' := 0) G rfl rfl (n_S (As := [.int (nI k84), .int (nI k102)]) (rest := [.long x102_10]) S G (m_has l X (nI k84) (nI k102) H.size) gX11_stumble_X11_has rfl rfl rfl hdS_X11_has ⟨Nat.le_of_ble_eq_true rfl, Nat.le_of_ble_eq_true rfl⟩ [] rfl rfl rfl hl.1 (Nat.le_of_ble_eq_true rfl) dX11_stumble_114 ⟨Nat.le_of_ble_eq_true rfl, Nat.le_of_ble_eq_true rfl⟩) (fun r_17 u_17 H locs hp_17 G => ?_)
                      have G : wd X (va_A (@HAppend.hAppend va_W va_W va_W _ (mW m0 ma la lb n t v) (@HAppend.hAppend va_W va_W va_W _ ([((ma 0), .inl (X.2.1, 371, .inl fa))]) (@HAppend.hAppend va_W va_W va_W _ ([((ma 6), .inl (X.2.1, 55, .inl fh))]) ([((ma 3), .inl (X.2.1, 3, .inl fr))])))) sz) (va_A (@HAppend.hAppend va_W va_W va_W _ (mW m0 ma la lb n t v) (@HAppend.hAppend va_W va_W va_W _ ([((ma 0), .inl (X.2.1, 371, .inl fa))]) (@HAppend.hAppend va_W va_W va_W _ ([((ma 6), .inl (X.2.1, 55, .inl fh))]) ([((ma 3), .inl (X.2.1, 3, .inl fr))])))) sz) s (@HAppend.hAppend va_W va_W va_W _ ([((ma 3), .inl (X.2.1, 3, .inl fr))]) (@HAppend.hAppend va_W va_W va_W _ (mW m0 ma la lb n t v) (@HAppend.hAppend va_W va_W va_W _ ([((ma 0), .inl (X.2.1, 371, .inl fa))]) ([((ma 6), .inl (X.2.1, 55, .inl f102_3))])))) H locs := G
                      refine k_cutW (PP := fun Wx => ∀ (x_19 : Int64) (H : Heap) (locs : List Loc) (ls : Array Slot), wd X (va_A (@HAppend.hAppend va_W va_W va_W _ (mW m0 ma la lb n t v) (@HAppend.hAppend va_W va_W va_W _ ([((ma 0), .inl (X.2.1, 371, .inl fa))]) (@HAppend.hAppend va_W va_W va_W _ ([((ma 6), .inl (X.2.1, 55, .inl fh))]) ([((ma 3), .inl (X.2.1, 3, .inl fr))])))) sz) (va_A (@HAppend.hAppend va_W va_W va_W _ (mW m0 ma la lb n t v) (@HAppend.hAppend va_W va_W va_W _ ([((ma 0), .inl (X.2.1, 371, .inl fa))]) (@HAppend.hAppend va_W va_W va_W _ ([((ma 6), .inl (X.2.1, 55, .inl fh))]) ([((ma 3), .inl (X.2.1, 3, .inl fr))])))) sz) s (@HAppend.hAppend va_W va_W va_W _ ([((ma 3), .inl (X.2.1, 3, .inl fr))]) (@HAppend.hAppend va_W va_W va_W _ (mW m0 ma la lb n t v) (@HAppend.hAppend va_W va_W va_W _ ([((ma 0), .inl (X.2.1, 371, .inl fa))]) ([((ma 6), .inl (X.2.1, 55, .inl f102_3))])))) H locs → lv_has ls 13 [(12, .int (nI k102)), (10, .long x102_10), (9, .int (nI k84)), (7, .long x61_7), (5, .long x84_5), (0, .ref m0), (1, .int (nI j_1)), (2, .int (nI j_3)), (3, .int (nI j_5)), (4, .int (nI j_7))] → Wx (F0 m 132 ls [.long x_19, .long x102_10]) H locs) ?_ ?_
                      · intro join_117
                        refine lv_if_eq (tgt := 126) zx zb dX11_stumble_117 (by decide) (fun c_18 => ?_) (fun c_18 => ?_)
                        · refine lv_bipush (v := 10) zx zb dX11_stumble_126 (by decide) ?_
                          refine lv_iload zx zb dX11_stumble_128 (lv_at hl 9 rfl) ?_
                          refine r_isub (v := (10 - (nI j_7))) S rfl dX11_stumble_130 ?_
                          refine lv_i2l (v := (Int32.toInt64 (10 - (nI j_7)))) zx zb dX11_stumble_131 rfl ?_
                          exact join_117 (Int32.toInt64 (10 - (nI j_7))) _ _ _  G hl
                        · refine lv_iload zx zb dX11_stumble_120 (lv_at hl 9 rfl) ?_
                          refine lv_i2l (v := (Int32.toInt64 (nI j_7))) zx zb dX11_stumble_122 rfl ?_
                          refine lv_goto (tgt := 132) zx zb dX11_stumble_123 (by decide) ?_
                          exact join_117 (Int32.toInt64 (nI j_7)) _ _ _  G hl
                      · intro x_19 H locs ls  G hl
                        refine r_lmul (v := (x102_10 * x_19)) S rfl dX11_stumble_132 ?_
                        refine lv_lstore (lv' := [(10, .long (x102_10 * x_19)), (12, .int (nI k102)), (9, .int (nI k84)), (7, .long x61_7), (5, .long x84_5), (0, .ref m0), (1, .int (nI j_1)), (2, .int (nI j_3)), (3, .int (nI j_5)), (4, .int (nI j_7))]) zx zb dX11_stumble_133 hl (by decide) rfl (fun ls hl => ?_)
                        refine lv_aload_n zx zb dX11_stumble_135 rfl (lv_at hl 5 rfl) ?_
                        refine r_get (C := RX11) (T := TX11) (N := 18) (ci := 9) (v := .ref (ma 6)) S in_X11_stumble_X11 G 1 rfl rfl 6 (by decide) lk_X11_stumble_27 rfl dX11_stumble_136 ?_
                        refine lv_bipush (v := 35) zx zb dX11_stumble_139 (by decide) ?_
                        refine lv_dup2_11 zx zb dX11_stumble_141 rfl rfl ?_
                        refine r_iald S G 3 rfl (k_vp (by decide)) rfl dX11_stumble_142 ?_
                        refine k_itE (fun y_20 => ?_)
                        refine lv_iconst (v := 1) zx zb dX11_stumble_143 (by decide) ?_
                        refine r_iadd (v := (y_20 + 1)) S rfl dX11_stumble_144 ?_
                        refine r_iast S G 3 rfl (k_vp (by decide)) dX11_stumble_145 (fun H locs G => ?_)
                        obtain ⟨f_21, hI_f_21, hE_f_21, G⟩ : ∃ f_21 : Nat → Int32, InA f_21 c0_12b c1_12c c2_12d c3_12e c4_12f ∧ f_21 = upd f102_3 35 (y_20 + 1) ∧ wd X (va_A (@HAppend.hAppend va_W va_W va_W _ (mW m0 ma la lb n t v) (@HAppend.hAppend va_W va_W va_W _ ([((ma 0), .inl (X.2.1, 371, .inl fa))]) (@HAppend.hAppend va_W va_W va_W _ ([((ma 6), .inl (X.2.1, 55, .inl fh))]) ([((ma 3), .inl (X.2.1, 3, .inl fr))])))) sz) (va_A (@HAppend.hAppend va_W va_W va_W _ (mW m0 ma la lb n t v) (@HAppend.hAppend va_W va_W va_W _ ([((ma 0), .inl (X.2.1, 371, .inl fa))]) (@HAppend.hAppend va_W va_W va_W _ ([((ma 6), .inl (X.2.1, 55, .inl fh))]) ([((ma 3), .inl (X.2.1, 3, .inl fr))])))) sz) s (@HAppend.hAppend va_W va_W va_W _ ([((ma 3), .inl (X.2.1, 3, .inl fr))]) (@HAppend.hAppend va_W va_W va_W _ (mW m0 ma la lb n t v) (@HAppend.hAppend va_W va_W va_W _ ([((ma 0), .inl (X.2.1, 371, .inl fa))]) ([((ma 6), .inl (X.2.1, 55, .inl f_21))])))) H locs := ⟨_, InA_o hI_f102_3 (by decide), rfl, G⟩
                        refine lv_aload_n zx zb dX11_stumble_146 rfl (lv_at hl 5 rfl) ?_
                        refine r_get (C := RX11) (T := TX11) (N := 18) (ci := 9) (v := .ref (ma 6)) S in_X11_stumble_X11 G 1 rfl rfl 6 (by decide) lk_X11_stumble_27 rfl dX11_stumble_147 ?_
                        refine lv_iload_n zx zb dX11_stumble_150 rfl (lv_at hl 6 rfl) ?_
                        refine o_ri (cells' := 0) (slots' := 0) G rfl rfl (n_S (As := [.ref (ma 6), .int (nI j_1)]) (rest := []) S G (m_isHome l X (ma 6) 55 f_21 c0_12b c1_12c c2_12d c3_12e c4_12f j_1 hI_f_21 (by omega) (by omega) (by omega) H.size) gX11_stumble_X11_isHome rfl rfl rfl hdS_X11_isHome ⟨Nat.le_of_ble_eq_true rfl, Nat.le_of_ble_eq_true rfl⟩ [3] rfl rfl rfl hl.1 (Nat.le_of_ble_eq_true rfl) dX11_stumble_151 ⟨Nat.le_of_ble_eq_true rfl, Nat.le_of_ble_eq_true rfl⟩) (fun r_22 u_22 H locs hp_22 G => ?_)
                        have G : wd X (va_A (@HAppend.hAppend va_W va_W va_W _ (mW m0 ma la lb n t v) (@HAppend.hAppend va_W va_W va_W _ ([((ma 0), .inl (X.2.1, 371, .inl fa))]) (@HAppend.hAppend va_W va_W va_W _ ([((ma 6), .inl (X.2.1, 55, .inl fh))]) ([((ma 3), .inl (X.2.1, 3, .inl fr))])))) sz) (va_A (@HAppend.hAppend va_W va_W va_W _ (mW m0 ma la lb n t v) (@HAppend.hAppend va_W va_W va_W _ ([((ma 0), .inl (X.2.1, 371, .inl fa))]) (@HAppend.hAppend va_W va_W va_W _ ([((ma 6), .inl (X.2.1, 55, .inl fh))]) ([((ma 3), .inl (X.2.1, 3, .inl fr))])))) sz) s (@HAppend.hAppend va_W va_W va_W _ ([((ma 3), .inl (X.2.1, 3, .inl fr))]) (@HAppend.hAppend va_W va_W va_W _ (mW m0 ma la lb n t v) (@HAppend.hAppend va_W va_W va_W _ ([((ma 0), .inl (X.2.1, 371, .inl fa))]) ([((ma 6), .inl (X.2.1, 55, .inl f_21))])))) H locs := G
                        refine k_cutW (PP := fun Wx => ∀ (f_24 : Nat → Int32) (H : Heap) (locs : List Loc) (ls : Array Slot), InA f_24 c0_12b c1_12c c2_12d c3_12e c4_12f → wd X (va_A (@HAppend.hAppend va_W va_W va_W _ (mW m0 ma la lb n t v) (@HAppend.hAppend va_W va_W va_W _ ([((ma 0), .inl (X.2.1, 371, .inl fa))]) (@HAppend.hAppend va_W va_W va_W _ ([((ma 6), .inl (X.2.1, 55, .inl fh))]) ([((ma 3), .inl (X.2.1, 3, .inl fr))])))) sz) (va_A (@HAppend.hAppend va_W va_W va_W _ (mW m0 ma la lb n t v) (@HAppend.hAppend va_W va_W va_W _ ([((ma 0), .inl (X.2.1, 371, .inl fa))]) (@HAppend.hAppend va_W va_W va_W _ ([((ma 6), .inl (X.2.1, 55, .inl fh))]) ([((ma 3), .inl (X.2.1, 3, .inl fr))])))) sz) s (@HAppend.hAppend va_W va_W va_W _ ([((ma 3), .inl (X.2.1, 3, .inl fr))]) (@HAppend.hAppend va_W va_W va_W _ (mW m0 ma la lb n t v) (@HAppend.hAppend va_W va_W va_W _ ([((ma 0), .inl (X.2.1, 371, .inl fa))]) ([((ma 6), .inl (X.2.1, 55, .inl f_24))])))) H locs → lv_has ls 13 [(10, .long (x102_10 * x_19)), (12, .int (nI k102)), (9, .int (nI k84)), (7, .long x61_7), (5, .long x84_5), (0, .ref m0), (1, .int (nI j_1)), (2, .int (nI j_3)), (3, .int (nI j_5)), (4, .int (nI j_7))] → Wx (F0 m 172 ls []) H locs) ?_ ?_
                        · intro join_154
                          refine lv_if_ne (tgt := 172) zx zb dX11_stumble_154 (by decide) (fun c_23 => ?_) (fun c_23 => ?_)
                          · exact join_154 f_21 _ _ _ hI_f_21 G hl
                          · refine lv_aload_n zx zb dX11_stumble_157 rfl (lv_at hl 5 rfl) ?_
                            refine r_get (C := RX11) (T := TX11) (N := 18) (ci := 9) (v := .ref (ma 6)) S in_X11_stumble_X11 G 1 rfl rfl 6 (by decide) lk_X11_stumble_27 rfl dX11_stumble_158 ?_
                            refine lv_iload_n zx zb dX11_stumble_161 rfl (lv_at hl 6 rfl) ?_
                            refine lv_iload zx zb dX11_stumble_162 (lv_at hl 2 rfl) ?_
                            refine lv_iload zx zb dX11_stumble_164 (lv_at hl 1 rfl) ?_
                            refine o_ri (cells' := 0) (slots' := 0) G rfl rfl (n_S (As := [.int (nI k84), .int (nI k102)]) (rest := [.int (nI j_1), .ref (ma 6)]) S G (m_has l X (nI k84) (nI k102) H.size) gX11_stumble_X11_has rfl rfl rfl hdS_X11_has ⟨Nat.le_of_ble_eq_true rfl, Nat.le_of_ble_eq_true rfl⟩ [] rfl rfl rfl hl.1 (Nat.le_of_ble_eq_true rfl) dX11_stumble_166 ⟨Nat.le_of_ble_eq_true rfl, Nat.le_of_ble_eq_true rfl⟩) (fun r_25 u_25 H locs hp_25 G => ?_)
                            have G : wd X (va_A (@HAppend.hAppend va_W va_W va_W _ (mW m0 ma la lb n t v) (@HAppend.hAppend va_W va_W va_W _ ([((ma 0), .inl (X.2.1, 371, .inl fa))]) (@HAppend.hAppend va_W va_W va_W _ ([((ma 6), .inl (X.2.1, 55, .inl fh))]) ([((ma 3), .inl (X.2.1, 3, .inl fr))])))) sz) (va_A (@HAppend.hAppend va_W va_W va_W _ (mW m0 ma la lb n t v) (@HAppend.hAppend va_W va_W va_W _ ([((ma 0), .inl (X.2.1, 371, .inl fa))]) (@HAppend.hAppend va_W va_W va_W _ ([((ma 6), .inl (X.2.1, 55, .inl fh))]) ([((ma 3), .inl (X.2.1, 3, .inl fr))])))) sz) s (@HAppend.hAppend va_W va_W va_W _ ([((ma 3), .inl (X.2.1, 3, .inl fr))]) (@HAppend.hAppend va_W va_W va_W _ (mW m0 ma la lb n t v) (@HAppend.hAppend va_W va_W va_W _ ([((ma 0), .inl (X.2.1, 371, .inl fa))]) ([((ma 6), .inl (X.2.1, 55, .inl f_21))])))) H locs := G
                            refine b_wv (cells' := 0) (slots' := 0) (wr := @HAppend.hAppend va_W va_W va_W _ ([((ma 3), .inl (X.2.1, 3, .inl fr))]) (@HAppend.hAppend va_W va_W va_W _ (mW m0 ma la lb n t v) ([((ma 0), .inl (X.2.1, 371, .inl fa))]))) G rfl rfl [3] [0, 1, 2] rfl rfl rfl rfl (n_S (As := [.ref (ma 6), .int (nI j_1), .int r_25]) (rest := []) S G (m_goOne l X (ma 6) 55 f_21 c0_12b c1_12c c2_12d c3_12e c4_12f j_1 r_25 hI_f_21 (by omega) (by omega) (by omega) H.size) gX11_stumble_X11_goOne rfl rfl rfl hdS_X11_goOne ⟨Nat.le_of_ble_eq_true rfl, Nat.le_of_ble_eq_true rfl⟩ [3] rfl rfl rfl hl.1 (Nat.le_of_ble_eq_true rfl) dX11_stumble_169 ⟨Nat.le_of_ble_eq_true rfl, Nat.le_of_ble_eq_true rfl⟩) (fun u_26 H locs hp_26 G => ?_)
                            obtain ⟨f_26, rfl⟩ : ∃ z, z = u_26 := ⟨_, rfl⟩
                            obtain ⟨hI_f_26, hq_26⟩ := hp_26
                            have G : wd X (va_A (@HAppend.hAppend va_W va_W va_W _ (mW m0 ma la lb n t v) (@HAppend.hAppend va_W va_W va_W _ ([((ma 0), .inl (X.2.1, 371, .inl fa))]) (@HAppend.hAppend va_W va_W va_W _ ([((ma 6), .inl (X.2.1, 55, .inl fh))]) ([((ma 3), .inl (X.2.1, 3, .inl fr))])))) sz) (va_A (@HAppend.hAppend va_W va_W va_W _ (mW m0 ma la lb n t v) (@HAppend.hAppend va_W va_W va_W _ ([((ma 0), .inl (X.2.1, 371, .inl fa))]) (@HAppend.hAppend va_W va_W va_W _ ([((ma 6), .inl (X.2.1, 55, .inl fh))]) ([((ma 3), .inl (X.2.1, 3, .inl fr))])))) sz) s (@HAppend.hAppend va_W va_W va_W _ ([((ma 3), .inl (X.2.1, 3, .inl fr))]) (@HAppend.hAppend va_W va_W va_W _ (mW m0 ma la lb n t v) (@HAppend.hAppend va_W va_W va_W _ ([((ma 0), .inl (X.2.1, 371, .inl fa))]) ([((ma 6), .inl (X.2.1, 55, .inl f_26))])))) H locs := G
                            exact join_154 f_26 _ _ _ hI_f_26 G hl
                        · intro f_24 H locs ls hI_f_24 G hl
                          refine lv_iinc (v := (nI (k102 + 1))) (lv' := [(12, .int (nI (k102 + 1))), (10, .long (x102_10 * x_19)), (9, .int (nI k84)), (7, .long x61_7), (5, .long x84_5), (0, .ref m0), (1, .int (nI j_1)), (2, .int (nI j_3)), (3, .int (nI j_5)), (4, .int (nI j_7))]) zx zb dX11_stumble_172 hl (k := 1) rfl (nI_add k102 1) (by decide) rfl (fun ls hl => ?_)
                          refine lv_goto (tgt := 102) zx zb dX11_stumble_175 (by decide) ?_
                          exact ih102 (k102 + 1) (x102_10 * x_19) f_24 _ _ _ (by omega) hI_f_24 (by omega) G hl
            · have fc_9 := j_nle (a := j_5) (b := k61) (by omega) (by omega) c_9
              refine lv_lload zx zb dX11_stumble_67 (lv_at hl 1 rfl) ?_
              refine lv_ldc2 zx zb S.2.2.2.1 (S.2.2.2.2 _ mm_X11_stumble_c64) dX11_stumble_69 ?_
              refine k_ld (v := (Int32.toInt64 10)) (by decide) ?_
              refine r_lmul (v := (x61_7 * (Int32.toInt64 10))) S rfl dX11_stumble_72 ?_
              refine lv_lstore (lv' := [(7, .long (x61_7 * (Int32.toInt64 10))), (9, .int (nI k61)), (5, .long (Int32.toInt64 0)), (0, .ref m0), (1, .int (nI j_1)), (2, .int (nI j_3)), (3, .int (nI j_5)), (4, .int (nI j_7))]) zx zb dX11_stumble_73 hl (by decide) rfl (fun ls hl => ?_)
              refine lv_iinc (v := (nI (k61 + 1))) (lv' := [(9, .int (nI (k61 + 1))), (7, .long (x61_7 * (Int32.toInt64 10))), (5, .long (Int32.toInt64 0)), (0, .ref m0), (1, .int (nI j_1)), (2, .int (nI j_3)), (3, .int (nI j_5)), (4, .int (nI j_7))]) zx zb dX11_stumble_75 hl (k := 1) rfl (nI_add k61 1) (by decide) rfl (fun ls hl => ?_)
              refine lv_goto (tgt := 61) zx zb dX11_stumble_78 (by decide) ?_
              exact ih61 (k61 + 1) (x61_7 * (Int32.toInt64 10)) _ _ _ (by omega) (by omega) (by first | assumption | exact k_p10a | exact k_p10s (by omega) (by assumption)) G hl
        · refine lv_if_ne (tgt := 52) zx zb dX11_stumble_42 (by decide) (fun c_27 => absurd (by decide) c_27) (fun c_27 => ?_)
          refine lv_aload_n zx zb dX11_stumble_45 rfl (lv_at hl 0 rfl) ?_
          refine lv_bipush (v := (-2)) zx zb dX11_stumble_46 (by decide) ?_
          refine b_wi (cells' := 0) (slots' := 0) (wr := @HAppend.hAppend va_W va_W va_W _ ([((ma 0), .inl (X.2.1, 371, .inl fa))]) ([((ma 6), .inl (X.2.1, 55, .inl fh))])) G rfl rfl [0, 3] [1, 2] rfl rfl rfl rfl (n_V (As := [.int (-2)]) (rest := []) (C := RX11) (T := TX11) (N := 18) (ci := 9) S G (m_bad l X m0 ma la lb n t v fr (-2) hI_n hI_t H.size) gX11_stumble_X11_bad rfl rfl rfl hdV_X11_bad ⟨Nat.le_of_ble_eq_true rfl, Nat.le_of_ble_eq_true rfl⟩ [0, 3] rfl rfl 0 rfl rfl rfl hl.1 (Nat.le_of_ble_eq_true rfl) dX11_stumble_48 ⟨Nat.le_of_ble_eq_true rfl, Nat.le_of_ble_eq_true rfl⟩) (fun r_28 u_28 H locs hp_28 G => ?_)
          obtain ⟨f_28, rfl⟩ : ∃ z, z = u_28 := ⟨_, rfl⟩
          have hq_28 := hp_28
          have G : wd X (va_A (@HAppend.hAppend va_W va_W va_W _ (mW m0 ma la lb n t v) (@HAppend.hAppend va_W va_W va_W _ ([((ma 0), .inl (X.2.1, 371, .inl fa))]) (@HAppend.hAppend va_W va_W va_W _ ([((ma 6), .inl (X.2.1, 55, .inl fh))]) ([((ma 3), .inl (X.2.1, 3, .inl fr))])))) sz) (va_A (@HAppend.hAppend va_W va_W va_W _ (mW m0 ma la lb n t v) (@HAppend.hAppend va_W va_W va_W _ ([((ma 0), .inl (X.2.1, 371, .inl fa))]) (@HAppend.hAppend va_W va_W va_W _ ([((ma 6), .inl (X.2.1, 55, .inl fh))]) ([((ma 3), .inl (X.2.1, 3, .inl fr))])))) sz) s (@HAppend.hAppend va_W va_W va_W _ ([((ma 0), .inl (X.2.1, 371, .inl fa))]) (@HAppend.hAppend va_W va_W va_W _ ([((ma 6), .inl (X.2.1, 55, .inl fh))]) (@HAppend.hAppend va_W va_W va_W _ (mW m0 ma la lb n t v) ([((ma 3), .inl (X.2.1, 3, .inl f_28))])))) H locs := G
          obtain rfl := hq_28
          exact e_int S zr zlk (vp_nar_int _) G (la, lb, fh, d0, d1, d2, d3, d4, f_28) [2, 0, 1, 3] rfl rfl (Or.inr rfl) (⟨hI_fh, (stuF_n (fun h => hw_7 h.2.2.2)).symm⟩) dX11_stumble_51
      · refine lv_if_eq (tgt := 45) zx zb dX11_stumble_29 (by decide) (fun c_29 => ?_) (fun c_29 => absurd (by decide) c_29)
        refine lv_aload_n zx zb dX11_stumble_45 rfl (lv_at hl 0 rfl) ?_
        refine lv_bipush (v := (-2)) zx zb dX11_stumble_46 (by decide) ?_
        refine b_wi (cells' := 0) (slots' := 0) (wr := @HAppend.hAppend va_W va_W va_W _ ([((ma 0), .inl (X.2.1, 371, .inl fa))]) ([((ma 6), .inl (X.2.1, 55, .inl fh))])) G rfl rfl [0, 3] [1, 2] rfl rfl rfl rfl (n_V (As := [.int (-2)]) (rest := []) (C := RX11) (T := TX11) (N := 18) (ci := 9) S G (m_bad l X m0 ma la lb n t v fr (-2) hI_n hI_t H.size) gX11_stumble_X11_bad rfl rfl rfl hdV_X11_bad ⟨Nat.le_of_ble_eq_true rfl, Nat.le_of_ble_eq_true rfl⟩ [0, 3] rfl rfl 0 rfl rfl rfl hl.1 (Nat.le_of_ble_eq_true rfl) dX11_stumble_48 ⟨Nat.le_of_ble_eq_true rfl, Nat.le_of_ble_eq_true rfl⟩) (fun r_30 u_30 H locs hp_30 G => ?_)
        obtain ⟨f_30, rfl⟩ : ∃ z, z = u_30 := ⟨_, rfl⟩
        have hq_30 := hp_30
        have G : wd X (va_A (@HAppend.hAppend va_W va_W va_W _ (mW m0 ma la lb n t v) (@HAppend.hAppend va_W va_W va_W _ ([((ma 0), .inl (X.2.1, 371, .inl fa))]) (@HAppend.hAppend va_W va_W va_W _ ([((ma 6), .inl (X.2.1, 55, .inl fh))]) ([((ma 3), .inl (X.2.1, 3, .inl fr))])))) sz) (va_A (@HAppend.hAppend va_W va_W va_W _ (mW m0 ma la lb n t v) (@HAppend.hAppend va_W va_W va_W _ ([((ma 0), .inl (X.2.1, 371, .inl fa))]) (@HAppend.hAppend va_W va_W va_W _ ([((ma 6), .inl (X.2.1, 55, .inl fh))]) ([((ma 3), .inl (X.2.1, 3, .inl fr))])))) sz) s (@HAppend.hAppend va_W va_W va_W _ ([((ma 0), .inl (X.2.1, 371, .inl fa))]) (@HAppend.hAppend va_W va_W va_W _ ([((ma 6), .inl (X.2.1, 55, .inl fh))]) (@HAppend.hAppend va_W va_W va_W _ (mW m0 ma la lb n t v) ([((ma 3), .inl (X.2.1, 3, .inl f_30))])))) H locs := G
        obtain rfl := hq_30
        exact e_int S zr zlk (vp_nar_int _) G (la, lb, fh, d0, d1, d2, d3, d4, f_30) [2, 0, 1, 3] rfl rfl (Or.inr rfl) (⟨hI_fh, (stuF_n (fun h => hw_5 h.2.2.1)).symm⟩) dX11_stumble_51
    · refine lv_if_eq (tgt := 45) zx zb dX11_stumble_17 (by decide) (fun c_31 => ?_) (fun c_31 => absurd (by decide) c_31)
      refine lv_aload_n zx zb dX11_stumble_45 rfl (lv_at hl 0 rfl) ?_
      refine lv_bipush (v := (-2)) zx zb dX11_stumble_46 (by decide) ?_
      refine b_wi (cells' := 0) (slots' := 0) (wr := @HAppend.hAppend va_W va_W va_W _ ([((ma 0), .inl (X.2.1, 371, .inl fa))]) ([((ma 6), .inl (X.2.1, 55, .inl fh))])) G rfl rfl [0, 3] [1, 2] rfl rfl rfl rfl (n_V (As := [.int (-2)]) (rest := []) (C := RX11) (T := TX11) (N := 18) (ci := 9) S G (m_bad l X m0 ma la lb n t v fr (-2) hI_n hI_t H.size) gX11_stumble_X11_bad rfl rfl rfl hdV_X11_bad ⟨Nat.le_of_ble_eq_true rfl, Nat.le_of_ble_eq_true rfl⟩ [0, 3] rfl rfl 0 rfl rfl rfl hl.1 (Nat.le_of_ble_eq_true rfl) dX11_stumble_48 ⟨Nat.le_of_ble_eq_true rfl, Nat.le_of_ble_eq_true rfl⟩) (fun r_32 u_32 H locs hp_32 G => ?_)
      obtain ⟨f_32, rfl⟩ : ∃ z, z = u_32 := ⟨_, rfl⟩
      have hq_32 := hp_32
      have G : wd X (va_A (@HAppend.hAppend va_W va_W va_W _ (mW m0 ma la lb n t v) (@HAppend.hAppend va_W va_W va_W _ ([((ma 0), .inl (X.2.1, 371, .inl fa))]) (@HAppend.hAppend va_W va_W va_W _ ([((ma 6), .inl (X.2.1, 55, .inl fh))]) ([((ma 3), .inl (X.2.1, 3, .inl fr))])))) sz) (va_A (@HAppend.hAppend va_W va_W va_W _ (mW m0 ma la lb n t v) (@HAppend.hAppend va_W va_W va_W _ ([((ma 0), .inl (X.2.1, 371, .inl fa))]) (@HAppend.hAppend va_W va_W va_W _ ([((ma 6), .inl (X.2.1, 55, .inl fh))]) ([((ma 3), .inl (X.2.1, 3, .inl fr))])))) sz) s (@HAppend.hAppend va_W va_W va_W _ ([((ma 0), .inl (X.2.1, 371, .inl fa))]) (@HAppend.hAppend va_W va_W va_W _ ([((ma 6), .inl (X.2.1, 55, .inl fh))]) (@HAppend.hAppend va_W va_W va_W _ (mW m0 ma la lb n t v) ([((ma 3), .inl (X.2.1, 3, .inl f_32))])))) H locs := G
      obtain rfl := hq_32
      exact e_int S zr zlk (vp_nar_int _) G (la, lb, fh, d0, d1, d2, d3, d4, f_32) [2, 0, 1, 3] rfl rfl (Or.inr rfl) (⟨hI_fh, (stuF_n (fun h => hw_3 h.2.1)).symm⟩) dX11_stumble_51
  · refine lv_if_eq (tgt := 45) zx zb dX11_stumble_5 (by decide) (fun c_33 => ?_) (fun c_33 => absurd (by decide) c_33)
    refine lv_aload_n zx zb dX11_stumble_45 rfl (lv_at hl 0 rfl) ?_
    refine lv_bipush (v := (-2)) zx zb dX11_stumble_46 (by decide) ?_
    refine b_wi (cells' := 0) (slots' := 0) (wr := @HAppend.hAppend va_W va_W va_W _ ([((ma 0), .inl (X.2.1, 371, .inl fa))]) ([((ma 6), .inl (X.2.1, 55, .inl fh))])) G rfl rfl [0, 3] [1, 2] rfl rfl rfl rfl (n_V (As := [.int (-2)]) (rest := []) (C := RX11) (T := TX11) (N := 18) (ci := 9) S G (m_bad l X m0 ma la lb n t v fr (-2) hI_n hI_t H.size) gX11_stumble_X11_bad rfl rfl rfl hdV_X11_bad ⟨Nat.le_of_ble_eq_true rfl, Nat.le_of_ble_eq_true rfl⟩ [0, 3] rfl rfl 0 rfl rfl rfl hl.1 (Nat.le_of_ble_eq_true rfl) dX11_stumble_48 ⟨Nat.le_of_ble_eq_true rfl, Nat.le_of_ble_eq_true rfl⟩) (fun r_34 u_34 H locs hp_34 G => ?_)
    obtain ⟨f_34, rfl⟩ : ∃ z, z = u_34 := ⟨_, rfl⟩
    have hq_34 := hp_34
    have G : wd X (va_A (@HAppend.hAppend va_W va_W va_W _ (mW m0 ma la lb n t v) (@HAppend.hAppend va_W va_W va_W _ ([((ma 0), .inl (X.2.1, 371, .inl fa))]) (@HAppend.hAppend va_W va_W va_W _ ([((ma 6), .inl (X.2.1, 55, .inl fh))]) ([((ma 3), .inl (X.2.1, 3, .inl fr))])))) sz) (va_A (@HAppend.hAppend va_W va_W va_W _ (mW m0 ma la lb n t v) (@HAppend.hAppend va_W va_W va_W _ ([((ma 0), .inl (X.2.1, 371, .inl fa))]) (@HAppend.hAppend va_W va_W va_W _ ([((ma 6), .inl (X.2.1, 55, .inl fh))]) ([((ma 3), .inl (X.2.1, 3, .inl fr))])))) sz) s (@HAppend.hAppend va_W va_W va_W _ ([((ma 0), .inl (X.2.1, 371, .inl fa))]) (@HAppend.hAppend va_W va_W va_W _ ([((ma 6), .inl (X.2.1, 55, .inl fh))]) (@HAppend.hAppend va_W va_W va_W _ (mW m0 ma la lb n t v) ([((ma 3), .inl (X.2.1, 3, .inl f_34))])))) H locs := G
    obtain rfl := hq_34
    exact e_int S zr zlk (vp_nar_int _) G (la, lb, fh, d0, d1, d2, d3, d4, f_34) [2, 0, 1, 3] rfl rfl (Or.inr rfl) (⟨hI_fh, (stuF_n (fun h => hj_1 h.1)).symm⟩) dX11_stumble_51
