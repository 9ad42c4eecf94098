set_option maxRecDepth 20000 in
theorem ggX10_count_X10_refuse : GoodIn wsX10_count wsX10_refuse := goodIn_r _ [39, 40, 41, 42, 43, 44, 45, 46, 47, 48, 49, 50, 51, 52, 53, 54] rfl (by decide +kernel)
set_option maxRecDepth 20000 in
theorem gX10_count_X10_refuse : GoodIn wsX10_count (wsV RX10 83 RX10 yX10_refuse wsX10_refuse) := goodIn_app (goodIn_of _ (by decide +kernel)) ggX10_count_X10_refuse
set_option maxRecDepth 20000 in
theorem ggX10_count_X5_dropsTogether : GoodIn wsX10_count wsX5_dropsTogether := goodIn_r _ [33, 17, 18, 34, 55, 56, 57, 58, 59, 60, 61, 62, 77, 78, 79, 80, 81, 82, 83, 84] rfl (by decide +kernel)
set_option maxRecDepth 20000 in
theorem gX10_count_X5_dropsTogether : GoodIn wsX10_count (wsV RX10 279 RX5 yX5_dropsTogether wsX5_dropsTogether) := goodIn_app (goodIn_of _ (by decide +kernel)) ggX10_count_X5_dropsTogether
set_option maxRecDepth 20000 in
theorem ggX10_count_X5_homes : GoodIn wsX10_count wsX5_homes := goodIn_r _ [16, 17, 18, 19, 20, 21, 22, 23, 24, 55, 56, 57, 58, 59, 60, 61, 62, 77, 78, 79, 80, 81, 82, 83, 84] rfl (by decide +kernel)
set_option maxRecDepth 20000 in
theorem gX10_count_X5_homes : GoodIn wsX10_count (wsV RX10 119 RX5 yX5_homes wsX5_homes) := goodIn_app (goodIn_of _ (by decide +kernel)) ggX10_count_X5_homes
set_option maxRecDepth 20000 in
theorem ggX10_count_X5_placesTogether : GoodIn wsX10_count wsX5_placesTogether := goodIn_r _ [28, 17, 18, 29, 55, 56, 57, 58, 59, 60, 61, 62, 77, 78, 79, 80, 81, 82, 83, 84] rfl (by decide +kernel)
set_option maxRecDepth 20000 in
theorem gX10_count_X5_placesTogether : GoodIn wsX10_count (wsV RX10 276 RX5 yX5_placesTogether wsX5_placesTogether) := goodIn_app (goodIn_of _ (by decide +kernel)) ggX10_count_X5_placesTogether
set_option maxRecDepth 20000 in
theorem ggX10_digest_X10_count : GoodIn wsX10_digest wsX10_count := goodIn_r _ [16, 3, 4, 17, 6, 7, 18, 8, 9, 19, 20, 21, 22, 23, 24, 25, 26, 27, 28, 29, 30, 31, 32, 33, 34, 35, 36, 37, 38, 39, 40, 41, 42, 43, 44, 45, 46, 47, 15, 48, 49, 79, 80, 81, 82, 83, 84, 85, 86, 87, 88, 89, 90, 91, 92, 93, 94, 95, 96, 97, 98, 99, 100, 101, 102, 103, 104, 105, 106, 107, 108, 109, 110, 111, 112, 113, 114, 115, 116, 117, 118, 119, 120, 121, 122] rfl (by decide +kernel)
set_option maxRecDepth 20000 in
theorem gX10_digest_X10_count : GoodIn wsX10_digest (wsV RX10 293 RX10 yX10_count wsX10_count) := goodIn_app (goodIn_of _ (by decide +kernel)) ggX10_digest_X10_count
set_option maxRecDepth 20000 in
theorem ggX10_digest_X7_mixInto : GoodIn wsX10_digest wsX7_mixInto := goodIn_r _ [73, 74, 75, 76, 77, 78, 101, 102, 103, 104, 105] rfl (by decide +kernel)
set_option maxRecDepth 20000 in
theorem gX10_digest_X7_mixInto : GoodIn wsX10_digest (wsV RX10 296 RX7 yX7_mixInto wsX7_mixInto) := goodIn_app (goodIn_of _ (by decide +kernel)) ggX10_digest_X7_mixInto
set_option maxRecDepth 20000 in
theorem ggX10_digest_X8_fact : GoodIn wsX10_digest wsX8_fact := goodIn_r _ [53, 54, 55, 56, 57, 58, 59, 60, 34, 61, 62, 63, 64, 65, 66, 67, 68, 115, 116, 117, 118, 119, 120, 121, 122] rfl (by decide +kernel)
set_option maxRecDepth 20000 in
theorem gX10_digest_X8_fact : GoodIn wsX10_digest (wsV RX10 144 RX8 yX8_fact wsX8_fact) := goodIn_app (goodIn_of _ (by decide +kernel)) ggX10_digest_X8_fact
set_option maxRecDepth 20000 in
theorem ggX10_from_X10_refuse : GoodIn wsX10_from wsX10_refuse := goodIn_r _ [11, 12, 66, 67, 68, 69, 70, 71, 72, 73, 74, 75, 76, 77, 78, 79] rfl (by decide +kernel)
set_option maxRecDepth 20000 in
theorem gX10_from_X10_refuse : GoodIn wsX10_from (wsV RX10 83 RX10 yX10_refuse wsX10_refuse) := goodIn_app (goodIn_of _ (by decide +kernel)) ggX10_from_X10_refuse
set_option maxRecDepth 20000 in
theorem ggX10_from_X10_within : GoodIn wsX10_from wsX10_within := goodIn_r _ [7] rfl (by decide +kernel)
set_option maxRecDepth 20000 in
theorem gX10_from_X10_within : GoodIn wsX10_from (va_wsS RX10 79 yX10_within wsX10_within) := goodIn_app (goodIn_of _ (by decide +kernel)) ggX10_from_X10_within
set_option maxRecDepth 20000 in
theorem ggX10_from_X5_copyFrom : GoodIn wsX10_from wsX5_copyFrom := goodIn_r _ [17, 18, 19, 20, 21, 22, 23, 24, 16, 25, 26, 27, 28, 29, 30, 31, 32, 33, 34, 35, 36, 37, 38, 39, 40, 41, 42, 43, 44, 45, 46, 47, 48, 49, 50, 51, 52, 53, 54, 55, 56, 57, 58, 59, 60, 61, 62, 63, 64, 65, 80, 81, 82, 83, 84, 85, 86, 87, 88, 89, 90, 91, 92, 93, 94, 95, 96, 97, 98, 99, 100, 101, 102] rfl (by decide +kernel)
set_option maxRecDepth 20000 in
theorem gX10_from_X5_copyFrom : GoodIn wsX10_from (wsV RX10 274 RX5 yX5_copyFrom wsX5_copyFrom) := goodIn_app (goodIn_of _ (by decide +kernel)) ggX10_from_X5_copyFrom
set_option maxRecDepth 20000 in
theorem ggX10_image_X10_refuse : GoodIn wsX10_image wsX10_refuse := goodIn_r _ [11, 12, 66, 67, 68, 69, 70, 71, 72, 73, 74, 75, 76, 77, 78, 79] rfl (by decide +kernel)
set_option maxRecDepth 20000 in
theorem gX10_image_X10_refuse : GoodIn wsX10_image (wsV RX10 83 RX10 yX10_refuse wsX10_refuse) := goodIn_app (goodIn_of _ (by decide +kernel)) ggX10_image_X10_refuse
set_option maxRecDepth 20000 in
theorem ggX10_image_X10_within : GoodIn wsX10_image wsX10_within := goodIn_r _ [7] rfl (by decide +kernel)
set_option maxRecDepth 20000 in
theorem gX10_image_X10_within : GoodIn wsX10_image (va_wsS RX10 79 yX10_within wsX10_within) := goodIn_app (goodIn_of _ (by decide +kernel)) ggX10_image_X10_within
set_option maxRecDepth 20000 in
theorem ggX10_image_X5_copyFrom : GoodIn wsX10_image wsX5_copyFrom := goodIn_r _ [17, 18, 19, 20, 21, 22, 23, 24, 16, 25, 26, 27, 28, 29, 30, 31, 32, 33, 34, 35, 36, 37, 38, 39, 40, 41, 42, 43, 44, 45, 46, 47, 48, 49, 50, 51, 52, 53, 54, 55, 56, 57, 58, 59, 60, 61, 62, 63, 64, 65, 80, 81, 82, 83, 84, 85, 86, 87, 88, 89, 90, 91, 92, 93, 94, 95, 96, 97, 98, 99, 100, 101, 102] rfl (by decide +kernel)
set_option maxRecDepth 20000 in
theorem gX10_image_X5_copyFrom : GoodIn wsX10_image (wsV RX10 274 RX5 yX5_copyFrom wsX5_copyFrom) := goodIn_app (goodIn_of _ (by decide +kernel)) ggX10_image_X5_copyFrom
set_option maxRecDepth 20000 in
theorem ggX10_races_X10_refuse : GoodIn wsX10_races wsX10_refuse := goodIn_r _ [21, 22, 70, 71, 72, 73, 74, 75, 76, 77, 78, 79, 80, 81, 82, 83] rfl (by decide +kernel)
set_option maxRecDepth 20000 in
theorem gX10_races_X10_refuse : GoodIn wsX10_races (wsV RX10 83 RX10 yX10_refuse wsX10_refuse) := goodIn_app (goodIn_of _ (by decide +kernel)) ggX10_races_X10_refuse
set_option maxRecDepth 20000 in
theorem ggX10_races_X10_within : GoodIn wsX10_races wsX10_within := goodIn_r _ [17] rfl (by decide +kernel)
set_option maxRecDepth 20000 in
theorem gX10_races_X10_within : GoodIn wsX10_races (va_wsS RX10 79 yX10_within wsX10_within) := goodIn_app (goodIn_of _ (by decide +kernel)) ggX10_races_X10_within
set_option maxRecDepth 20000 in
theorem ggX10_races_X5_copyLine : GoodIn wsX10_races wsX5_copyLine := goodIn_r _ [27, 28, 29, 30, 31, 32, 33, 34, 35, 36, 37, 38, 39, 40, 41, 42, 43, 44, 84, 85, 86, 87, 88, 89, 90, 91, 92, 93, 94, 95, 96, 97, 98, 99] rfl (by decide +kernel)
set_option maxRecDepth 20000 in
theorem gX10_races_X5_copyLine : GoodIn wsX10_races (wsV RX10 256 RX5 yX5_copyLine wsX5_copyLine) := goodIn_app (goodIn_of _ (by decide +kernel)) ggX10_races_X5_copyLine
set_option maxRecDepth 20000 in
theorem ggX10_races_X5_goOn : GoodIn wsX10_races wsX5_goOn := goodIn_r _ [48, 29, 30, 31, 28, 49, 50, 51, 35, 52, 43, 37, 38, 40, 39, 42, 41, 44, 53, 54, 55, 56, 57, 58, 59, 60, 61, 62, 63, 64, 84, 85, 86, 87, 88, 89, 90, 91, 92, 93, 94, 95, 96, 97, 98, 99] rfl (by decide +kernel)
set_option maxRecDepth 20000 in
theorem gX10_races_X5_goOn : GoodIn wsX10_races (wsV RX10 116 RX5 yX5_goOn wsX5_goOn) := goodIn_app (goodIn_of _ (by decide +kernel)) ggX10_races_X5_goOn
set_option maxRecDepth 20000 in
theorem ggX10_races_X5_homes : GoodIn wsX10_races wsX5_homes := goodIn_r _ [68, 30, 31, 69, 54, 55, 35, 56, 44, 84, 85, 86, 87, 88, 89, 90, 91, 92, 93, 94, 95, 96, 97, 98, 99] rfl (by decide +kernel)
set_option maxRecDepth 20000 in
theorem gX10_races_X5_homes : GoodIn wsX10_races (wsV RX10 119 RX5 yX5_homes wsX5_homes) := goodIn_app (goodIn_of _ (by decide +kernel)) ggX10_races_X5_homes
theorem dX10_count_0 : decode cX10_count 0 = .ok (.iload_n 1, 1) := by decide +kernel
theorem dX10_count_1 : decode cX10_count 1 = .ok (.tableswitch 159 0 10 #[59, 67, 75, 83, 91, 99, 107, 118, 129, 140, 151], 59) := by decide +kernel
theorem dX10_count_100 : decode cX10_count 100 = .ok (.aload_n 0, 1) := by decide +kernel
theorem dX10_count_101 : decode cX10_count 101 = .ok (.getfield 10, 3) := by decide +kernel
theorem dX10_count_104 : decode cX10_count 104 = .ok (.invokevirtual 279, 3) := by decide +kernel
theorem dX10_count_107 : decode cX10_count 107 = .ok (.ireturn, 1) := by decide +kernel
theorem dX10_count_108 : decode cX10_count 108 = .ok (.aload_n 0, 1) := by decide +kernel
theorem dX10_count_109 : decode cX10_count 109 = .ok (.getfield 10, 3) := by decide +kernel
theorem dX10_count_112 : decode cX10_count 112 = .ok (.getfield 185, 3) := by decide +kernel
theorem dX10_count_115 : decode cX10_count 115 = .ok (.getfield 194, 3) := by decide +kernel
theorem dX10_count_118 : decode cX10_count 118 = .ok (.ireturn, 1) := by decide +kernel
theorem dX10_count_119 : decode cX10_count 119 = .ok (.aload_n 0, 1) := by decide +kernel
theorem dX10_count_120 : decode cX10_count 120 = .ok (.getfield 10, 3) := by decide +kernel
theorem dX10_count_123 : decode cX10_count 123 = .ok (.getfield 212, 3) := by decide +kernel
theorem dX10_count_126 : decode cX10_count 126 = .ok (.getfield 194, 3) := by decide +kernel
theorem dX10_count_129 : decode cX10_count 129 = .ok (.ireturn, 1) := by decide +kernel
theorem dX10_count_130 : decode cX10_count 130 = .ok (.aload_n 0, 1) := by decide +kernel
theorem dX10_count_131 : decode cX10_count 131 = .ok (.getfield 10, 3) := by decide +kernel
theorem dX10_count_134 : decode cX10_count 134 = .ok (.getfield 215, 3) := by decide +kernel
theorem dX10_count_137 : decode cX10_count 137 = .ok (.getfield 194, 3) := by decide +kernel
theorem dX10_count_140 : decode cX10_count 140 = .ok (.ireturn, 1) := by decide +kernel
theorem dX10_count_141 : decode cX10_count 141 = .ok (.aload_n 0, 1) := by decide +kernel
theorem dX10_count_142 : decode cX10_count 142 = .ok (.getfield 10, 3) := by decide +kernel
theorem dX10_count_145 : decode cX10_count 145 = .ok (.getfield 282, 3) := by decide +kernel
theorem dX10_count_148 : decode cX10_count 148 = .ok (.getfield 286, 3) := by decide +kernel
theorem dX10_count_151 : decode cX10_count 151 = .ok (.ireturn, 1) := by decide +kernel
theorem dX10_count_152 : decode cX10_count 152 = .ok (.aload_n 0, 1) := by decide +kernel
theorem dX10_count_153 : decode cX10_count 153 = .ok (.getfield 30, 3) := by decide +kernel
theorem dX10_count_156 : decode cX10_count 156 = .ok (.getfield 103, 3) := by decide +kernel
theorem dX10_count_159 : decode cX10_count 159 = .ok (.ireturn, 1) := by decide +kernel
theorem dX10_count_160 : decode cX10_count 160 = .ok (.aload_n 0, 1) := by decide +kernel
theorem dX10_count_161 : decode cX10_count 161 = .ok (.bipush (-2), 2) := by decide +kernel
theorem dX10_count_163 : decode cX10_count 163 = .ok (.invokevirtual 83, 3) := by decide +kernel
theorem dX10_count_166 : decode cX10_count 166 = .ok (.ireturn, 1) := by decide +kernel
theorem dX10_count_60 : decode cX10_count 60 = .ok (.aload_n 0, 1) := by decide +kernel
theorem dX10_count_61 : decode cX10_count 61 = .ok (.getfield 10, 3) := by decide +kernel
theorem dX10_count_64 : decode cX10_count 64 = .ok (.getfield 87, 3) := by decide +kernel
theorem dX10_count_67 : decode cX10_count 67 = .ok (.ireturn, 1) := by decide +kernel
theorem dX10_count_68 : decode cX10_count 68 = .ok (.aload_n 0, 1) := by decide +kernel
theorem dX10_count_69 : decode cX10_count 69 = .ok (.getfield 10, 3) := by decide +kernel
theorem dX10_count_72 : decode cX10_count 72 = .ok (.invokevirtual 119, 3) := by decide +kernel
theorem dX10_count_75 : decode cX10_count 75 = .ok (.ireturn, 1) := by decide +kernel
theorem dX10_count_76 : decode cX10_count 76 = .ok (.aload_n 0, 1) := by decide +kernel
theorem dX10_count_77 : decode cX10_count 77 = .ok (.getfield 10, 3) := by decide +kernel
theorem dX10_count_80 : decode cX10_count 80 = .ok (.getfield 140, 3) := by decide +kernel
theorem dX10_count_83 : decode cX10_count 83 = .ok (.ireturn, 1) := by decide +kernel
theorem dX10_count_84 : decode cX10_count 84 = .ok (.aload_n 0, 1) := by decide +kernel
theorem dX10_count_85 : decode cX10_count 85 = .ok (.getfield 10, 3) := by decide +kernel
theorem dX10_count_88 : decode cX10_count 88 = .ok (.getfield 110, 3) := by decide +kernel
theorem dX10_count_91 : decode cX10_count 91 = .ok (.ireturn, 1) := by decide +kernel
theorem dX10_count_92 : decode cX10_count 92 = .ok (.aload_n 0, 1) := by decide +kernel
theorem dX10_count_93 : decode cX10_count 93 = .ok (.getfield 10, 3) := by decide +kernel
theorem dX10_count_96 : decode cX10_count 96 = .ok (.invokevirtual 276, 3) := by decide +kernel
theorem dX10_count_99 : decode cX10_count 99 = .ok (.ireturn, 1) := by decide +kernel
theorem dX10_digest_0 : decode cX10_digest 0 = .ok (.ldc2_w 289, 3) := by decide +kernel
theorem dX10_digest_101 : decode cX10_digest 101 = .ok (.getfield 185, 3) := by decide +kernel
theorem dX10_digest_104 : decode cX10_digest 104 = .ok (.lload_n 1, 1) := by decide +kernel
theorem dX10_digest_105 : decode cX10_digest 105 = .ok (.invokevirtual 296, 3) := by decide +kernel
theorem dX10_digest_108 : decode cX10_digest 108 = .ok (.lstore_n 1, 1) := by decide +kernel
theorem dX10_digest_109 : decode cX10_digest 109 = .ok (.aload_n 0, 1) := by decide +kernel
theorem dX10_digest_110 : decode cX10_digest 110 = .ok (.getfield 10, 3) := by decide +kernel
theorem dX10_digest_113 : decode cX10_digest 113 = .ok (.getfield 212, 3) := by decide +kernel
theorem dX10_digest_116 : decode cX10_digest 116 = .ok (.lload_n 1, 1) := by decide +kernel
theorem dX10_digest_117 : decode cX10_digest 117 = .ok (.invokevirtual 296, 3) := by decide +kernel
theorem dX10_digest_12 : decode cX10_digest 12 = .ok (.ldc2_w 291, 3) := by decide +kernel
theorem dX10_digest_120 : decode cX10_digest 120 = .ok (.lstore_n 1, 1) := by decide +kernel
theorem dX10_digest_121 : decode cX10_digest 121 = .ok (.aload_n 0, 1) := by decide +kernel
theorem dX10_digest_122 : decode cX10_digest 122 = .ok (.getfield 10, 3) := by decide +kernel
theorem dX10_digest_125 : decode cX10_digest 125 = .ok (.getfield 215, 3) := by decide +kernel
theorem dX10_digest_128 : decode cX10_digest 128 = .ok (.lload_n 1, 1) := by decide +kernel
theorem dX10_digest_129 : decode cX10_digest 129 = .ok (.invokevirtual 296, 3) := by decide +kernel
theorem dX10_digest_132 : decode cX10_digest 132 = .ok (.lstore_n 1, 1) := by decide +kernel
theorem dX10_digest_133 : decode cX10_digest 133 = .ok (.ldc2_w 291, 3) := by decide +kernel
theorem dX10_digest_136 : decode cX10_digest 136 = .ok (.lload_n 1, 1) := by decide +kernel
theorem dX10_digest_137 : decode cX10_digest 137 = .ok (.lmul, 1) := by decide +kernel
theorem dX10_digest_138 : decode cX10_digest 138 = .ok (.aload_n 0, 1) := by decide +kernel
theorem dX10_digest_139 : decode cX10_digest 139 = .ok (.getfield 38, 3) := by decide +kernel
theorem dX10_digest_142 : decode cX10_digest 142 = .ok (.ladd, 1) := by decide +kernel
theorem dX10_digest_143 : decode cX10_digest 143 = .ok (.lstore_n 1, 1) := by decide +kernel
theorem dX10_digest_144 : decode cX10_digest 144 = .ok (.ldc2_w 291, 3) := by decide +kernel
theorem dX10_digest_147 : decode cX10_digest 147 = .ok (.lload_n 1, 1) := by decide +kernel
theorem dX10_digest_148 : decode cX10_digest 148 = .ok (.lmul, 1) := by decide +kernel
theorem dX10_digest_149 : decode cX10_digest 149 = .ok (.aload_n 0, 1) := by decide +kernel
theorem dX10_digest_15 : decode cX10_digest 15 = .ok (.lload_n 1, 1) := by decide +kernel
theorem dX10_digest_150 : decode cX10_digest 150 = .ok (.getfield 42, 3) := by decide +kernel
theorem dX10_digest_153 : decode cX10_digest 153 = .ok (.ladd, 1) := by decide +kernel
theorem dX10_digest_154 : decode cX10_digest 154 = .ok (.lreturn, 1) := by decide +kernel
theorem dX10_digest_16 : decode cX10_digest 16 = .ok (.lmul, 1) := by decide +kernel
theorem dX10_digest_17 : decode cX10_digest 17 = .ok (.aload_n 0, 1) := by decide +kernel
theorem dX10_digest_18 : decode cX10_digest 18 = .ok (.iload_n 3, 1) := by decide +kernel
theorem dX10_digest_19 : decode cX10_digest 19 = .ok (.invokevirtual 293, 3) := by decide +kernel
theorem dX10_digest_22 : decode cX10_digest 22 = .ok (.i2l, 1) := by decide +kernel
theorem dX10_digest_23 : decode cX10_digest 23 = .ok (.ladd, 1) := by decide +kernel
theorem dX10_digest_24 : decode cX10_digest 24 = .ok (.lstore_n 1, 1) := by decide +kernel
theorem dX10_digest_25 : decode cX10_digest 25 = .ok (.iinc 3 1, 3) := by decide +kernel
theorem dX10_digest_28 : decode cX10_digest 28 = .ok (.goto (-22), 3) := by decide +kernel
theorem dX10_digest_3 : decode cX10_digest 3 = .ok (.lstore_n 1, 1) := by decide +kernel
theorem dX10_digest_31 : decode cX10_digest 31 = .ok (.iconst 0, 1) := by decide +kernel
theorem dX10_digest_32 : decode cX10_digest 32 = .ok (.istore_n 3, 1) := by decide +kernel
theorem dX10_digest_33 : decode cX10_digest 33 = .ok (.iload_n 3, 1) := by decide +kernel
theorem dX10_digest_34 : decode cX10_digest 34 = .ok (.aload_n 0, 1) := by decide +kernel
theorem dX10_digest_35 : decode cX10_digest 35 = .ok (.getfield 10, 3) := by decide +kernel
theorem dX10_digest_38 : decode cX10_digest 38 = .ok (.getfield 87, 3) := by decide +kernel
theorem dX10_digest_4 : decode cX10_digest 4 = .ok (.iconst 0, 1) := by decide +kernel
theorem dX10_digest_41 : decode cX10_digest 41 = .ok (.if_icmp .ge 56, 3) := by decide +kernel
theorem dX10_digest_44 : decode cX10_digest 44 = .ok (.iconst 0, 1) := by decide +kernel
theorem dX10_digest_45 : decode cX10_digest 45 = .ok (.istore 4, 2) := by decide +kernel
theorem dX10_digest_47 : decode cX10_digest 47 = .ok (.iload 4, 2) := by decide +kernel
theorem dX10_digest_49 : decode cX10_digest 49 = .ok (.bipush 7, 2) := by decide +kernel
theorem dX10_digest_5 : decode cX10_digest 5 = .ok (.istore_n 3, 1) := by decide +kernel
theorem dX10_digest_51 : decode cX10_digest 51 = .ok (.if_icmp .gt 40, 3) := by decide +kernel
theorem dX10_digest_54 : decode cX10_digest 54 = .ok (.ldc2_w 291, 3) := by decide +kernel
theorem dX10_digest_57 : decode cX10_digest 57 = .ok (.lload_n 1, 1) := by decide +kernel
theorem dX10_digest_58 : decode cX10_digest 58 = .ok (.lmul, 1) := by decide +kernel
theorem dX10_digest_59 : decode cX10_digest 59 = .ok (.aload_n 0, 1) := by decide +kernel
theorem dX10_digest_6 : decode cX10_digest 6 = .ok (.iload_n 3, 1) := by decide +kernel
theorem dX10_digest_60 : decode cX10_digest 60 = .ok (.getfield 10, 3) := by decide +kernel
theorem dX10_digest_63 : decode cX10_digest 63 = .ok (.getfield 126, 3) := by decide +kernel
theorem dX10_digest_66 : decode cX10_digest 66 = .ok (.iload_n 3, 1) := by decide +kernel
theorem dX10_digest_67 : decode cX10_digest 67 = .ok (.aaload, 1) := by decide +kernel
theorem dX10_digest_68 : decode cX10_digest 68 = .ok (.iload 4, 2) := by decide +kernel
theorem dX10_digest_7 : decode cX10_digest 7 = .ok (.bipush 10, 2) := by decide +kernel
theorem dX10_digest_70 : decode cX10_digest 70 = .ok (.aload_n 0, 1) := by decide +kernel
theorem dX10_digest_71 : decode cX10_digest 71 = .ok (.getfield 10, 3) := by decide +kernel
theorem dX10_digest_74 : decode cX10_digest 74 = .ok (.getfield 110, 3) := by decide +kernel
theorem dX10_digest_77 : decode cX10_digest 77 = .ok (.iconst 1, 1) := by decide +kernel
theorem dX10_digest_78 : decode cX10_digest 78 = .ok (.iadd, 1) := by decide +kernel
theorem dX10_digest_79 : decode cX10_digest 79 = .ok (.invokevirtual 144, 3) := by decide +kernel
theorem dX10_digest_82 : decode cX10_digest 82 = .ok (.i2l, 1) := by decide +kernel
theorem dX10_digest_83 : decode cX10_digest 83 = .ok (.ladd, 1) := by decide +kernel
theorem dX10_digest_84 : decode cX10_digest 84 = .ok (.lstore_n 1, 1) := by decide +kernel
theorem dX10_digest_85 : decode cX10_digest 85 = .ok (.iinc 4 1, 3) := by decide +kernel
theorem dX10_digest_88 : decode cX10_digest 88 = .ok (.goto (-41), 3) := by decide +kernel
theorem dX10_digest_9 : decode cX10_digest 9 = .ok (.if_icmp .gt 22, 3) := by decide +kernel
theorem dX10_digest_91 : decode cX10_digest 91 = .ok (.iinc 3 1, 3) := by decide +kernel
theorem dX10_digest_94 : decode cX10_digest 94 = .ok (.goto (-61), 3) := by decide +kernel
theorem dX10_digest_97 : decode cX10_digest 97 = .ok (.aload_n 0, 1) := by decide +kernel
theorem dX10_digest_98 : decode cX10_digest 98 = .ok (.getfield 10, 3) := by decide +kernel
theorem dX10_from_0 : decode cX10_from 0 = .ok (.iload_n 1, 1) := by decide +kernel
theorem dX10_from_1 : decode cX10_from 1 = .ok (.iconst 0, 1) := by decide +kernel
theorem dX10_from_10 : decode cX10_from 10 = .ok (.bipush (-2), 2) := by decide +kernel
theorem dX10_from_12 : decode cX10_from 12 = .ok (.invokevirtual 83, 3) := by decide +kernel
theorem dX10_from_15 : decode cX10_from 15 = .ok (.ireturn, 1) := by decide +kernel
theorem dX10_from_16 : decode cX10_from 16 = .ok (.aload_n 0, 1) := by decide +kernel
theorem dX10_from_17 : decode cX10_from 17 = .ok (.getfield 23, 3) := by decide +kernel
theorem dX10_from_2 : decode cX10_from 2 = .ok (.iconst 1, 1) := by decide +kernel
theorem dX10_from_20 : decode cX10_from 20 = .ok (.iload_n 1, 1) := by decide +kernel
theorem dX10_from_21 : decode cX10_from 21 = .ok (.baload, 1) := by decide +kernel
theorem dX10_from_22 : decode cX10_from 22 = .ok (.ifCond .ne 10, 3) := by decide +kernel
theorem dX10_from_25 : decode cX10_from 25 = .ok (.aload_n 0, 1) := by decide +kernel
theorem dX10_from_26 : decode cX10_from 26 = .ok (.bipush (-3), 2) := by decide +kernel
theorem dX10_from_28 : decode cX10_from 28 = .ok (.invokevirtual 83, 3) := by decide +kernel
theorem dX10_from_3 : decode cX10_from 3 = .ok (.invokestatic 79, 3) := by decide +kernel
theorem dX10_from_31 : decode cX10_from 31 = .ok (.ireturn, 1) := by decide +kernel
theorem dX10_from_32 : decode cX10_from 32 = .ok (.aload_n 0, 1) := by decide +kernel
theorem dX10_from_33 : decode cX10_from 33 = .ok (.getfield 10, 3) := by decide +kernel
theorem dX10_from_36 : decode cX10_from 36 = .ok (.aload_n 0, 1) := by decide +kernel
theorem dX10_from_37 : decode cX10_from 37 = .ok (.getfield 19, 3) := by decide +kernel
theorem dX10_from_40 : decode cX10_from 40 = .ok (.iload_n 1, 1) := by decide +kernel
theorem dX10_from_41 : decode cX10_from 41 = .ok (.aaload, 1) := by decide +kernel
theorem dX10_from_42 : decode cX10_from 42 = .ok (.invokevirtual 274, 3) := by decide +kernel
theorem dX10_from_45 : decode cX10_from 45 = .ok (.iconst 1, 1) := by decide +kernel
theorem dX10_from_46 : decode cX10_from 46 = .ok (.ireturn, 1) := by decide +kernel
theorem dX10_from_6 : decode cX10_from 6 = .ok (.ifCond .ne 10, 3) := by decide +kernel
theorem dX10_from_9 : decode cX10_from 9 = .ok (.aload_n 0, 1) := by decide +kernel
theorem dX10_image_0 : decode cX10_image 0 = .ok (.iload_n 1, 1) := by decide +kernel
theorem dX10_image_1 : decode cX10_image 1 = .ok (.iconst 0, 1) := by decide +kernel
theorem dX10_image_10 : decode cX10_image 10 = .ok (.bipush (-2), 2) := by decide +kernel
theorem dX10_image_12 : decode cX10_image 12 = .ok (.invokevirtual 83, 3) := by decide +kernel
theorem dX10_image_15 : decode cX10_image 15 = .ok (.ireturn, 1) := by decide +kernel
theorem dX10_image_16 : decode cX10_image 16 = .ok (.aload_n 0, 1) := by decide +kernel
theorem dX10_image_17 : decode cX10_image 17 = .ok (.getfield 19, 3) := by decide +kernel
theorem dX10_image_2 : decode cX10_image 2 = .ok (.iconst 1, 1) := by decide +kernel
theorem dX10_image_20 : decode cX10_image 20 = .ok (.iload_n 1, 1) := by decide +kernel
theorem dX10_image_21 : decode cX10_image 21 = .ok (.aaload, 1) := by decide +kernel
theorem dX10_image_22 : decode cX10_image 22 = .ok (.aload_n 0, 1) := by decide +kernel
theorem dX10_image_23 : decode cX10_image 23 = .ok (.getfield 10, 3) := by decide +kernel
theorem dX10_image_26 : decode cX10_image 26 = .ok (.invokevirtual 274, 3) := by decide +kernel
theorem dX10_image_29 : decode cX10_image 29 = .ok (.aload_n 0, 1) := by decide +kernel
theorem dX10_image_3 : decode cX10_image 3 = .ok (.invokestatic 79, 3) := by decide +kernel
theorem dX10_image_30 : decode cX10_image 30 = .ok (.getfield 23, 3) := by decide +kernel
theorem dX10_image_33 : decode cX10_image 33 = .ok (.iload_n 1, 1) := by decide +kernel
theorem dX10_image_34 : decode cX10_image 34 = .ok (.iconst 1, 1) := by decide +kernel
theorem dX10_image_35 : decode cX10_image 35 = .ok (.bastore, 1) := by decide +kernel
theorem dX10_image_36 : decode cX10_image 36 = .ok (.iconst 1, 1) := by decide +kernel
theorem dX10_image_37 : decode cX10_image 37 = .ok (.ireturn, 1) := by decide +kernel
theorem dX10_image_6 : decode cX10_image 6 = .ok (.ifCond .ne 10, 3) := by decide +kernel
theorem dX10_image_9 : decode cX10_image 9 = .ok (.aload_n 0, 1) := by decide +kernel
theorem dX10_races_0 : decode cX10_races 0 = .ok (.iload_n 1, 1) := by decide +kernel
theorem dX10_races_1 : decode cX10_races 1 = .ok (.iconst 0, 1) := by decide +kernel
theorem dX10_races_10 : decode cX10_races 10 = .ok (.iload_n 2, 1) := by decide +kernel
theorem dX10_races_102 : decode cX10_races 102 = .ok (.ldiv, 1) := by decide +kernel
theorem dX10_races_103 : decode cX10_races 103 = .ok (.ldc2_w 272, 3) := by decide +kernel
theorem dX10_races_106 : decode cX10_races 106 = .ok (.lrem, 1) := by decide +kernel
theorem dX10_races_107 : decode cX10_races 107 = .ok (.l2i, 1) := by decide +kernel
theorem dX10_races_108 : decode cX10_races 108 = .ok (.putfield 130, 3) := by decide +kernel
theorem dX10_races_11 : decode cX10_races 11 = .ok (.iconst 0, 1) := by decide +kernel
theorem dX10_races_111 : decode cX10_races 111 = .ok (.aload_n 0, 1) := by decide +kernel
theorem dX10_races_112 : decode cX10_races 112 = .ok (.getfield 16, 3) := by decide +kernel
theorem dX10_races_115 : decode cX10_races 115 = .ok (.invokevirtual 116, 3) := by decide +kernel
theorem dX10_races_118 : decode cX10_races 118 = .ok (.iinc 5 1, 3) := by decide +kernel
theorem dX10_races_12 : decode cX10_races 12 = .ok (.bipush 60, 2) := by decide +kernel
theorem dX10_races_121 : decode cX10_races 121 = .ok (.goto (-77), 3) := by decide +kernel
theorem dX10_races_124 : decode cX10_races 124 = .ok (.aload_n 0, 1) := by decide +kernel
theorem dX10_races_125 : decode cX10_races 125 = .ok (.getfield 16, 3) := by decide +kernel
theorem dX10_races_128 : decode cX10_races 128 = .ok (.invokevirtual 119, 3) := by decide +kernel
theorem dX10_races_131 : decode cX10_races 131 = .ok (.ireturn, 1) := by decide +kernel
theorem dX10_races_14 : decode cX10_races 14 = .ok (.invokestatic 79, 3) := by decide +kernel
theorem dX10_races_17 : decode cX10_races 17 = .ok (.ifCond .ne 10, 3) := by decide +kernel
theorem dX10_races_2 : decode cX10_races 2 = .ok (.ldc 255, 2) := by decide +kernel
theorem dX10_races_20 : decode cX10_races 20 = .ok (.aload_n 0, 1) := by decide +kernel
theorem dX10_races_21 : decode cX10_races 21 = .ok (.bipush (-2), 2) := by decide +kernel
theorem dX10_races_23 : decode cX10_races 23 = .ok (.invokevirtual 83, 3) := by decide +kernel
theorem dX10_races_26 : decode cX10_races 26 = .ok (.ireturn, 1) := by decide +kernel
theorem dX10_races_27 : decode cX10_races 27 = .ok (.aload_n 0, 1) := by decide +kernel
theorem dX10_races_28 : decode cX10_races 28 = .ok (.getfield 16, 3) := by decide +kernel
theorem dX10_races_31 : decode cX10_races 31 = .ok (.aload_n 0, 1) := by decide +kernel
theorem dX10_races_32 : decode cX10_races 32 = .ok (.getfield 10, 3) := by decide +kernel
theorem dX10_races_35 : decode cX10_races 35 = .ok (.invokevirtual 256, 3) := by decide +kernel
theorem dX10_races_38 : decode cX10_races 38 = .ok (.iload_n 1, 1) := by decide +kernel
theorem dX10_races_39 : decode cX10_races 39 = .ok (.i2l, 1) := by decide +kernel
theorem dX10_races_4 : decode cX10_races 4 = .ok (.invokestatic 79, 3) := by decide +kernel
theorem dX10_races_40 : decode cX10_races 40 = .ok (.lstore_n 3, 1) := by decide +kernel
theorem dX10_races_41 : decode cX10_races 41 = .ok (.iconst 0, 1) := by decide +kernel
theorem dX10_races_42 : decode cX10_races 42 = .ok (.istore 5, 2) := by decide +kernel
theorem dX10_races_44 : decode cX10_races 44 = .ok (.iload 5, 2) := by decide +kernel
theorem dX10_races_46 : decode cX10_races 46 = .ok (.iload_n 2, 1) := by decide +kernel
theorem dX10_races_47 : decode cX10_races 47 = .ok (.if_icmp .ge 77, 3) := by decide +kernel
theorem dX10_races_50 : decode cX10_races 50 = .ok (.lload_n 3, 1) := by decide +kernel
theorem dX10_races_51 : decode cX10_races 51 = .ok (.ldc2_w 260, 3) := by decide +kernel
theorem dX10_races_54 : decode cX10_races 54 = .ok (.lmul, 1) := by decide +kernel
theorem dX10_races_55 : decode cX10_races 55 = .ok (.ldc2_w 262, 3) := by decide +kernel
theorem dX10_races_58 : decode cX10_races 58 = .ok (.ladd, 1) := by decide +kernel
theorem dX10_races_59 : decode cX10_races 59 = .ok (.ldc2_w 264, 3) := by decide +kernel
theorem dX10_races_62 : decode cX10_races 62 = .ok (.lrem, 1) := by decide +kernel
theorem dX10_races_63 : decode cX10_races 63 = .ok (.lstore_n 3, 1) := by decide +kernel
theorem dX10_races_64 : decode cX10_races 64 = .ok (.lload_n 3, 1) := by decide +kernel
theorem dX10_races_65 : decode cX10_races 65 = .ok (.ldc2_w 266, 3) := by decide +kernel
theorem dX10_races_68 : decode cX10_races 68 = .ok (.ldiv, 1) := by decide +kernel
theorem dX10_races_69 : decode cX10_races 69 = .ok (.ldc2_w 268, 3) := by decide +kernel
theorem dX10_races_7 : decode cX10_races 7 = .ok (.ifCond .eq 13, 3) := by decide +kernel
theorem dX10_races_72 : decode cX10_races 72 = .ok (.lrem, 1) := by decide +kernel
theorem dX10_races_73 : decode cX10_races 73 = .ok (.l2i, 1) := by decide +kernel
theorem dX10_races_74 : decode cX10_races 74 = .ok (.istore 6, 2) := by decide +kernel
theorem dX10_races_76 : decode cX10_races 76 = .ok (.iload 6, 2) := by decide +kernel
theorem dX10_races_78 : decode cX10_races 78 = .ok (.aload_n 0, 1) := by decide +kernel
theorem dX10_races_79 : decode cX10_races 79 = .ok (.getfield 16, 3) := by decide +kernel
theorem dX10_races_82 : decode cX10_races 82 = .ok (.getfield 87, 3) := by decide +kernel
theorem dX10_races_85 : decode cX10_races 85 = .ok (.if_icmp .ge 26, 3) := by decide +kernel
theorem dX10_races_88 : decode cX10_races 88 = .ok (.aload_n 0, 1) := by decide +kernel
theorem dX10_races_89 : decode cX10_races 89 = .ok (.getfield 16, 3) := by decide +kernel
theorem dX10_races_92 : decode cX10_races 92 = .ok (.getfield 126, 3) := by decide +kernel
theorem dX10_races_95 : decode cX10_races 95 = .ok (.iload 6, 2) := by decide +kernel
theorem dX10_races_97 : decode cX10_races 97 = .ok (.aaload, 1) := by decide +kernel
theorem dX10_races_98 : decode cX10_races 98 = .ok (.lload_n 3, 1) := by decide +kernel
theorem dX10_races_99 : decode cX10_races 99 = .ok (.ldc2_w 270, 3) := by decide +kernel
theorem in_X10_image_X10 : ∀ w ∈ wsX100, w ∈ wsX10_image := by decide +kernel
theorem lk_X10_image_19 : Cond.fieldLink RX10 19 "EggSpoons" "images" "[LEggSpoons$Race;" ∈ wsX10_image := by decide +kernel
theorem lk_X10_image_10 : Cond.fieldLink RX10 10 "EggSpoons" "now" "LEggSpoons$Race;" ∈ wsX10_image := by decide +kernel
theorem hdV_X5_copyFrom : yX5_copyFrom.cls = RX5 ∧ yX5_copyFrom.cls ≠ "java/lang/invoke/MethodHandle" ∧ yX5_copyFrom.cls ≠ "java/lang/invoke/VarHandle" ∧ (parseMethodDescriptor yX5_copyFrom.desc).map (fun d => d.parameters.length) = some 1 := by decide +kernel
theorem lk_X10_image_23 : Cond.fieldLink RX10 23 "EggSpoons" "imageKept" "[Z" ∈ wsX10_image := by decide +kernel
set_option maxHeartbeats 4000000 in
set_option maxRecDepth 100000 in
/-- image -/
theorem s_image (l : Launch) (X : EX) (h0 : Nat) (nw : Nat) (sp : Nat) (xa : Nat → Nat) (la : Int64) (lb : Int64) (an : Nat → Nat) (v : Nat → Int32) (b : Nat → Nat) (g : Nat → Nat → Int32) (i0 : Nat) (i1 : Nat) (ap : Nat → Nat) (vp : Nat → Int32) (bp : Nat → Nat) (gp : Nat → Nat → Int32) (aq : Nat → Nat) (vq : Nat → Int32) (bq : Nat → Nat) (gq : Nat → Nat → Int32) (fz : Nat → Int32) (fr : Nat → Int32) (x1 : Int32) (hI_b : InR b) (hI_bp : InR bp) (hI_bq : InR bq) (sz : Nat) : Met l yX10_image wsX10_image ({ frames := 3, cells := 0, slots := 0, locals := 102 } : Room) (pE X [.ref h0, .int x1] (@HAppend.hAppend va_W va_W va_W _ (xW h0 nw sp xa la lb) (@HAppend.hAppend va_W va_W va_W _ (rcW X nw an v b g) (@HAppend.hAppend va_W va_W va_W _ ([((xa 2), .inl (X.2.2.2.1, 2, .inr (.inr (.inr (.inr (imQ i0 i1))))))]) (@HAppend.hAppend va_W va_W va_W _ (rcW X i0 ap vp bp gp) (@HAppend.hAppend va_W va_W va_W _ (rcW X i1 aq vq bq gq) (@HAppend.hAppend va_W va_W va_W _ ([((xa 3), .inl (X.2.2.1, 2, .inl fz))]) ([((xa 5), .inl (X.2.1, 3, .inl fr))]))))))) sz) (qI (fun (r : Int32) (u : (Nat → Int32) × (Nat → Nat) × (Nat → Nat → Int32) × (Nat → Int32) × (Nat → Nat) × (Nat → Nat → Int32) × (Nat → Int32) × (Nat → Int32)) => InR u.2.1 ∧ InR u.2.2.2.2.1 ∧ (r = if (0 : Int32) ≤ x1 ∧ x1 ≤ 1 then 1 else -2)) X (fun (u : (Nat → Int32) × (Nat → Nat) × (Nat → Nat → Int32) × (Nat → Int32) × (Nat → Nat) × (Nat → Nat → Int32) × (Nat → Int32) × (Nat → Int32)) => @HAppend.hAppend va_W va_W va_W _ (xW h0 nw sp xa la lb) (@HAppend.hAppend va_W va_W va_W _ (rcW X nw an v b g) (@HAppend.hAppend va_W va_W va_W _ ([((xa 2), .inl (X.2.2.2.1, 2, .inr (.inr (.inr (.inr (imQ i0 i1))))))]) (@HAppend.hAppend va_W va_W va_W _ (rcW X i0 ap u.1 u.2.1 u.2.2.1) (@HAppend.hAppend va_W va_W va_W _ (rcW X i1 aq u.2.2.2.1 u.2.2.2.2.1 u.2.2.2.2.2.1) (@HAppend.hAppend va_W va_W va_W _ ([((xa 3), .inl (X.2.2.1, 2, .inl u.2.2.2.2.2.2.1))]) ([((xa 5), .inl (X.2.1, 3, .inl u.2.2.2.2.2.2.2))]))))))) (@HAppend.hAppend va_W va_W va_W _ (xW h0 nw sp xa la lb) (@HAppend.hAppend va_W va_W va_W _ (rcW X nw an v b g) (@HAppend.hAppend va_W va_W va_W _ ([((xa 2), .inl (X.2.2.2.1, 2, .inr (.inr (.inr (.inr (imQ i0 i1))))))]) (@HAppend.hAppend va_W va_W va_W _ (rcW X i0 ap vp bp gp) (@HAppend.hAppend va_W va_W va_W _ (rcW X i1 aq vq bq gq) (@HAppend.hAppend va_W va_W va_W _ ([((xa 3), .inl (X.2.2.1, 2, .inl fz))]) ([((xa 5), .inl (X.2.1, 3, .inl fr))]))))))) sz) 0 0 (va_A (@HAppend.hAppend va_W va_W va_W _ (xW h0 nw sp xa la lb) (@HAppend.hAppend va_W va_W va_W _ (rcW X nw an v b g) (@HAppend.hAppend va_W va_W va_W _ ([((xa 2), .inl (X.2.2.2.1, 2, .inr (.inr (.inr (.inr (imQ i0 i1))))))]) (@HAppend.hAppend va_W va_W va_W _ (rcW X i0 ap vp bp gp) (@HAppend.hAppend va_W va_W va_W _ (rcW X i1 aq vq bq gq) (@HAppend.hAppend va_W va_W va_W _ ([((xa 3), .inl (X.2.2.1, 2, .inl fz))]) ([((xa 5), .inl (X.2.1, 3, .inl fr))]))))))) sz) := by
  refine mk_met (B := (va_A (@HAppend.hAppend va_W va_W va_W _ (xW h0 nw sp xa la lb) (@HAppend.hAppend va_W va_W va_W _ (rcW X nw an v b g) (@HAppend.hAppend va_W va_W va_W _ ([((xa 2), .inl (X.2.2.2.1, 2, .inr (.inr (.inr (.inr (imQ i0 i1))))))]) (@HAppend.hAppend va_W va_W va_W _ (rcW X i0 ap vp bp gp) (@HAppend.hAppend va_W va_W va_W _ (rcW X i1 aq vq bq gq) (@HAppend.hAppend va_W va_W va_W _ ([((xa 3), .inl (X.2.2.1, 2, .inl fz))]) ([((xa 5), .inl (X.2.1, 3, .inl fr))]))))))) sz)) (A := (va_A (@HAppend.hAppend va_W va_W va_W _ (xW h0 nw sp xa la lb) (@HAppend.hAppend va_W va_W va_W _ (rcW X nw an v b g) (@HAppend.hAppend va_W va_W va_W _ ([((xa 2), .inl (X.2.2.2.1, 2, .inr (.inr (.inr (.inr (imQ i0 i1))))))]) (@HAppend.hAppend va_W va_W va_W _ (rcW X i0 ap vp bp gp) (@HAppend.hAppend va_W va_W va_W _ (rcW X i1 aq vq bq gq) (@HAppend.hAppend va_W va_W va_W _ ([((xa 3), .inl (X.2.2.1, 2, .inl fz))]) ([((xa 5), .inl (X.2.1, 3, .inl fr))]))))))) sz)) (cc := cX10_image) (maxL := 2) (ret := (some .int)) (by decide) rfl (Nat.le_of_ble_eq_true rfl) k_w k_a (fun p e s m below meth c S zr zlk znm zsz G ls hl => ?_)
  have S : CallFix p m c cX10_image 2 s _ wsX10_image RX10 := S
  have zx := S.1
  have zb := S.2.1
  have hl : lv_has ls 2 [(0, .ref h0), (1, .int x1)] := hl
  have hO_b := hI_b
  obtain ⟨hb0_b, hb1_b, hb2_b, hb3_b, hb4_b⟩ := hO_b
  have hO_bp := hI_bp
  obtain ⟨hb0_bp, hb1_bp, hb2_bp, hb3_bp, hb4_bp⟩ := hO_bp
  have hO_bq := hI_bq
  obtain ⟨hb0_bq, hb1_bq, hb2_bq, hb3_bq, hb4_bq⟩ := hO_bq
  refine lv_iload_n zx zb dX10_image_0 rfl (lv_at hl 1 rfl) ?_
  refine lv_iconst (v := 0) zx zb dX10_image_1 (by decide) ?_
  refine lv_iconst (v := 1) zx zb dX10_image_2 (by decide) ?_
  refine o_ri (cells' := 0) (slots' := 0) G rfl rfl (n_S (As := [.int x1, .int 0, .int 1]) (rest := []) S G (s_within l X x1 0 1 s.heap.size) gX10_image_X10_within rfl rfl rfl hdS_X10_within ⟨Nat.le_of_ble_eq_true rfl, Nat.le_of_ble_eq_true rfl⟩ [] rfl rfl rfl hl.1 (Nat.le_of_ble_eq_true rfl) dX10_image_3 ⟨Nat.le_of_ble_eq_true rfl, Nat.le_of_ble_eq_true rfl⟩) (fun r_1 u_1 H locs hp_1 G => ?_)
  have G : wd X (va_A (@HAppend.hAppend va_W va_W va_W _ (xW h0 nw sp xa la lb) (@HAppend.hAppend va_W va_W va_W _ (rcW X nw an v b g) (@HAppend.hAppend va_W va_W va_W _ ([((xa 2), .inl (X.2.2.2.1, 2, .inr (.inr (.inr (.inr (imQ i0 i1))))))]) (@HAppend.hAppend va_W va_W va_W _ (rcW X i0 ap vp bp gp) (@HAppend.hAppend va_W va_W va_W _ (rcW X i1 aq vq bq gq) (@HAppend.hAppend va_W va_W va_W _ ([((xa 3), .inl (X.2.2.1, 2, .inl fz))]) ([((xa 5), .inl (X.2.1, 3, .inl fr))]))))))) sz) (va_A (@HAppend.hAppend va_W va_W va_W _ (xW h0 nw sp xa la lb) (@HAppend.hAppend va_W va_W va_W _ (rcW X nw an v b g) (@HAppend.hAppend va_W va_W va_W _ ([((xa 2), .inl (X.2.2.2.1, 2, .inr (.inr (.inr (.inr (imQ i0 i1))))))]) (@HAppend.hAppend va_W va_W va_W _ (rcW X i0 ap vp bp gp) (@HAppend.hAppend va_W va_W va_W _ (rcW X i1 aq vq bq gq) (@HAppend.hAppend va_W va_W va_W _ ([((xa 3), .inl (X.2.2.1, 2, .inl fz))]) ([((xa 5), .inl (X.2.1, 3, .inl fr))]))))))) sz) s (@HAppend.hAppend va_W va_W va_W _ (xW h0 nw sp xa la lb) (@HAppend.hAppend va_W va_W va_W _ (rcW X nw an v b g) (@HAppend.hAppend va_W va_W va_W _ ([((xa 2), .inl (X.2.2.2.1, 2, .inr (.inr (.inr (.inr (imQ i0 i1))))))]) (@HAppend.hAppend va_W va_W va_W _ (rcW X i0 ap vp bp gp) (@HAppend.hAppend va_W va_W va_W _ (rcW X i1 aq vq bq gq) (@HAppend.hAppend va_W va_W va_W _ ([((xa 3), .inl (X.2.2.1, 2, .inl fz))]) ([((xa 5), .inl (X.2.1, 3, .inl fr))]))))))) H locs := G
  rcases hp_1 with ⟨rfl, hw_1⟩ | ⟨rfl, hw_1⟩
  · refine lv_if_ne (tgt := 16) zx zb dX10_image_6 (by decide) (fun c_2 => ?_) (fun c_2 => absurd c_2 (by decide))
    obtain ⟨j0, hj0, rfl⟩ := k_nat01 hw_1
    refine lv_aload_n zx zb dX10_image_16 rfl (lv_at hl 0 rfl) ?_
    refine r_get (C := RX10) (T := TX10) (N := 14) (ci := 8) (v := .ref (xa 2)) S in_X10_image_X10 G 0 rfl rfl 2 (by decide) lk_X10_image_19 rfl dX10_image_17 ?_
    refine lv_iload_n zx zb dX10_image_20 rfl (lv_at hl 1 rfl) ?_
    rcases k_2c (show j0 < 2 by omega) with rfl | rfl
    · refine k_it (v := 0) rfl ?_
      refine r_aald (C := RX5) (b := i0) S G 17 2 rfl rfl (k_vp (by decide)) rfl dX10_image_21 ?_
      refine lv_aload_n zx zb dX10_image_22 rfl (lv_at hl 0 rfl) ?_
      refine r_get (C := RX10) (T := TX10) (N := 14) (ci := 8) (v := .ref nw) S in_X10_image_X10 G 0 rfl rfl 0 (by decide) lk_X10_image_10 rfl dX10_image_23 ?_
      refine b_wv (cells' := 0) (slots' := 0) (wr := @HAppend.hAppend va_W va_W va_W _ (xW h0 nw sp xa la lb) (@HAppend.hAppend va_W va_W va_W _ ([((xa 2), .inl (X.2.2.2.1, 2, .inr (.inr (.inr (.inr (imQ i0 i1))))))]) (@HAppend.hAppend va_W va_W va_W _ (rcW X i1 aq vq bq gq) (@HAppend.hAppend va_W va_W va_W _ ([((xa 3), .inl (X.2.2.1, 2, .inl fz))]) ([((xa 5), .inl (X.2.1, 3, .inl fr))]))))) G rfl rfl [18, 19, 20, 21, 22, 23, 24, 25, 26, 27, 28, 29, 30, 31, 32, 33, 1, 2, 3, 4, 5, 6, 7, 8, 9, 10, 11, 12, 13, 14, 15, 16] [0, 17, 34, 35, 36, 37, 38, 39, 40, 41, 42, 43, 44, 45, 46, 47, 48, 49, 50, 51] rfl rfl rfl rfl (n_V (As := [.ref nw]) (rest := []) (C := RX5) (T := TX5) (N := 8) (ci := 3) S G (s_copyFrom l X i0 ap vp bp gp nw an v b g hI_bp hI_b H.size) gX10_image_X5_copyFrom rfl rfl rfl hdV_X5_copyFrom ⟨Nat.le_of_ble_eq_true rfl, Nat.le_of_ble_eq_true rfl⟩ [18, 19, 20, 21, 22, 23, 24, 25, 26, 27, 28, 29, 30, 31, 32, 33, 1, 2, 3, 4, 5, 6, 7, 8, 9, 10, 11, 12, 13, 14, 15, 16] rfl rfl 18 rfl rfl rfl hl.1 (Nat.le_of_ble_eq_true rfl) dX10_image_26 ⟨Nat.le_of_ble_eq_true rfl, Nat.le_of_ble_eq_true rfl⟩) (fun u_3 H locs hp_3 G => ?_)
      obtain ⟨v_3a, b_3b, g_3c⟩ := u_3
      obtain ⟨hI_b_3b, hq_3⟩ := hp_3
      have hO_b_3b := hI_b_3b
      obtain ⟨hb0_b_3b, hb1_b_3b, hb2_b_3b, hb3_b_3b, hb4_b_3b⟩ := hO_b_3b
      have G : wd X (va_A (@HAppend.hAppend va_W va_W va_W _ (xW h0 nw sp xa la lb) (@HAppend.hAppend va_W va_W va_W _ (rcW X nw an v b g) (@HAppend.hAppend va_W va_W va_W _ ([((xa 2), .inl (X.2.2.2.1, 2, .inr (.inr (.inr (.inr (imQ i0 i1))))))]) (@HAppend.hAppend va_W va_W va_W _ (rcW X i0 ap vp bp gp) (@HAppend.hAppend va_W va_W va_W _ (rcW X i1 aq vq bq gq) (@HAppend.hAppend va_W va_W va_W _ ([((xa 3), .inl (X.2.2.1, 2, .inl fz))]) ([((xa 5), .inl (X.2.1, 3, .inl fr))]))))))) sz) (va_A (@HAppend.hAppend va_W va_W va_W _ (xW h0 nw sp xa la lb) (@HAppend.hAppend va_W va_W va_W _ (rcW X nw an v b g) (@HAppend.hAppend va_W va_W va_W _ ([((xa 2), .inl (X.2.2.2.1, 2, .inr (.inr (.inr (.inr (imQ i0 i1))))))]) (@HAppend.hAppend va_W va_W va_W _ (rcW X i0 ap vp bp gp) (@HAppend.hAppend va_W va_W va_W _ (rcW X i1 aq vq bq gq) (@HAppend.hAppend va_W va_W va_W _ ([((xa 3), .inl (X.2.2.1, 2, .inl fz))]) ([((xa 5), .inl (X.2.1, 3, .inl fr))]))))))) sz) s (@HAppend.hAppend va_W va_W va_W _ (xW h0 nw sp xa la lb) (@HAppend.hAppend va_W va_W va_W _ ([((xa 2), .inl (X.2.2.2.1, 2, .inr (.inr (.inr (.inr (imQ i0 i1))))))]) (@HAppend.hAppend va_W va_W va_W _ (rcW X i1 aq vq bq gq) (@HAppend.hAppend va_W va_W va_W _ ([((xa 3), .inl (X.2.2.1, 2, .inl fz))]) (@HAppend.hAppend va_W va_W va_W _ ([((xa 5), .inl (X.2.1, 3, .inl fr))]) (@HAppend.hAppend va_W va_W va_W _ (rcW X i0 ap v_3a b_3b g_3c) (rcW X nw an v b g))))))) H locs := G
      refine lv_aload_n zx zb dX10_image_29 rfl (lv_at hl 0 rfl) ?_
      refine r_get (C := RX10) (T := TX10) (N := 14) (ci := 8) (v := .ref (xa 3)) S in_X10_image_X10 G 0 rfl rfl 3 (by decide) lk_X10_image_23 rfl dX10_image_30 ?_
      refine lv_iload_n zx zb dX10_image_33 rfl (lv_at hl 1 rfl) ?_
      refine lv_iconst (v := 1) zx zb dX10_image_34 (by decide) ?_
      refine r_zast S G 18 rfl (k_vp (by decide)) dX10_image_35 (fun H locs G => ?_)
      obtain ⟨f_4, G⟩ : ∃ f_4 : Nat → Int32, wd X (va_A (@HAppend.hAppend va_W va_W va_W _ (xW h0 nw sp xa la lb) (@HAppend.hAppend va_W va_W va_W _ (rcW X nw an v b g) (@HAppend.hAppend va_W va_W va_W _ ([((xa 2), .inl (X.2.2.2.1, 2, .inr (.inr (.inr (.inr (imQ i0 i1))))))]) (@HAppend.hAppend va_W va_W va_W _ (rcW X i0 ap vp bp gp) (@HAppend.hAppend va_W va_W va_W _ (rcW X i1 aq vq bq gq) (@HAppend.hAppend va_W va_W va_W _ ([((xa 3), .inl (X.2.2.1, 2, .inl fz))]) ([((xa 5), .inl (X.2.1, 3, .inl fr))]))))))) sz) (va_A (@HAppend.hAppend va_W va_W va_W _ (xW h0 nw sp xa la lb) (@HAppend.hAppend va_W va_W va_W _ (rcW X nw an v b g) (@HAppend.hAppend va_W va_W va_W _ ([((xa 2), .inl (X.2.2.2.1, 2, .inr (.inr (.inr (.inr (imQ i0 i1))))))]) (@HAppend.hAppend va_W va_W va_W _ (rcW X i0 ap vp bp gp) (@HAppend.hAppend va_W va_W va_W _ (rcW X i1 aq vq bq gq) (@HAppend.hAppend va_W va_W va_W _ ([((xa 3), .inl (X.2.2.1, 2, .inl fz))]) ([((xa 5), .inl (X.2.1, 3, .inl fr))]))))))) sz) s (@HAppend.hAppend va_W va_W va_W _ (xW h0 nw sp xa la lb) (@HAppend.hAppend va_W va_W va_W _ ([((xa 2), .inl (X.2.2.2.1, 2, .inr (.inr (.inr (.inr (imQ i0 i1))))))]) (@HAppend.hAppend va_W va_W va_W _ (rcW X i1 aq vq bq gq) (@HAppend.hAppend va_W va_W va_W _ ([((xa 3), .inl (X.2.2.1, 2, .inl f_4))]) (@HAppend.hAppend va_W va_W va_W _ ([((xa 5), .inl (X.2.1, 3, .inl fr))]) (@HAppend.hAppend va_W va_W va_W _ (rcW X i0 ap v_3a b_3b g_3c) (rcW X nw an v b g))))))) H locs := ⟨_, G⟩
      refine lv_iconst (v := 1) zx zb dX10_image_36 (by decide) ?_
      exact e_int S zr zlk (vp_nar_int _) G (v_3a, b_3b, g_3c, vq, bq, gq, f_4, fr) [0, 36, 37, 38, 39, 40, 41, 42, 43, 44, 45, 46, 47, 48, 49, 50, 51, 1, 20, 21, 22, 23, 24, 25, 26, 27, 28, 29, 30, 31, 32, 33, 34, 35, 2, 3, 4, 5, 6, 7, 8, 9, 10, 11, 12, 13, 14, 15, 16, 17, 18, 19] rfl rfl (Or.inr rfl) (⟨hI_b_3b, hI_bq, (if_pos hw_1).symm⟩) dX10_image_37
    · refine k_it (v := 1) rfl ?_
      refine r_aald (C := RX5) (b := i1) S G 17 2 rfl rfl (k_vp (by decide)) rfl dX10_image_21 ?_
      refine lv_aload_n zx zb dX10_image_22 rfl (lv_at hl 0 rfl) ?_
      refine r_get (C := RX10) (T := TX10) (N := 14) (ci := 8) (v := .ref nw) S in_X10_image_X10 G 0 rfl rfl 0 (by decide) lk_X10_image_10 rfl dX10_image_23 ?_
      refine b_wv (cells' := 0) (slots' := 0) (wr := @HAppend.hAppend va_W va_W va_W _ (xW h0 nw sp xa la lb) (@HAppend.hAppend va_W va_W va_W _ ([((xa 2), .inl (X.2.2.2.1, 2, .inr (.inr (.inr (.inr (imQ i0 i1))))))]) (@HAppend.hAppend va_W va_W va_W _ (rcW X i0 ap vp bp gp) (@HAppend.hAppend va_W va_W va_W _ ([((xa 3), .inl (X.2.2.1, 2, .inl fz))]) ([((xa 5), .inl (X.2.1, 3, .inl fr))]))))) G rfl rfl [34, 35, 36, 37, 38, 39, 40, 41, 42, 43, 44, 45, 46, 47, 48, 49, 1, 2, 3, 4, 5, 6, 7, 8, 9, 10, 11, 12, 13, 14, 15, 16] [0, 17, 18, 19, 20, 21, 22, 23, 24, 25, 26, 27, 28, 29, 30, 31, 32, 33, 50, 51] rfl rfl rfl rfl (n_V (As := [.ref nw]) (rest := []) (C := RX5) (T := TX5) (N := 8) (ci := 3) S G (s_copyFrom l X i1 aq vq bq gq nw an v b g hI_bq hI_b H.size) gX10_image_X5_copyFrom rfl rfl rfl hdV_X5_copyFrom ⟨Nat.le_of_ble_eq_true rfl, Nat.le_of_ble_eq_true rfl⟩ [34, 35, 36, 37, 38, 39, 40, 41, 42, 43, 44, 45, 46, 47, 48, 49, 1, 2, 3, 4, 5, 6, 7, 8, 9, 10, 11, 12, 13, 14, 15, 16] rfl rfl 34 rfl rfl rfl hl.1 (Nat.le_of_ble_eq_true rfl) dX10_image_26 ⟨Nat.le_of_ble_eq_true rfl, Nat.le_of_ble_eq_true rfl⟩) (fun u_5 H locs hp_5 G => ?_)
      obtain ⟨v_5a, b_5b, g_5c⟩ := u_5
      obtain ⟨hI_b_5b, hq_5⟩ := hp_5
      have hO_b_5b := hI_b_5b
      obtain ⟨hb0_b_5b, hb1_b_5b, hb2_b_5b, hb3_b_5b, hb4_b_5b⟩ := hO_b_5b
      have G : wd X (va_A (@HAppend.hAppend va_W va_W va_W _ (xW h0 nw sp xa la lb) (@HAppend.hAppend va_W va_W va_W _ (rcW X nw an v b g) (@HAppend.hAppend va_W va_W va_W _ ([((xa 2), .inl (X.2.2.2.1, 2, .inr (.inr (.inr (.inr (imQ i0 i1))))))]) (@HAppend.hAppend va_W va_W va_W _ (rcW X i0 ap vp bp gp) (@HAppend.hAppend va_W va_W va_W _ (rcW X i1 aq vq bq gq) (@HAppend.hAppend va_W va_W va_W _ ([((xa 3), .inl (X.2.2.1, 2, .inl fz))]) ([((xa 5), .inl (X.2.1, 3, .inl fr))]))))))) sz) (va_A (@HAppend.hAppend va_W va_W va_W _ (xW h0 nw sp xa la lb) (@HAppend.hAppend va_W va_W va_W _ (rcW X nw an v b g) (@HAppend.hAppend va_W va_W va_W _ ([((xa 2), .inl (X.2.2.2.1, 2, .inr (.inr (.inr (.inr (imQ i0 i1))))))]) (@HAppend.hAppend va_W va_W va_W _ (rcW X i0 ap vp bp gp) (@HAppend.hAppend va_W va_W va_W _ (rcW X i1 aq vq bq gq) (@HAppend.hAppend va_W va_W va_W _ ([((xa 3), .inl (X.2.2.1, 2, .inl fz))]) ([((xa 5), .inl (X.2.1, 3, .inl fr))]))))))) sz) s (@HAppend.hAppend va_W va_W va_W _ (xW h0 nw sp xa la lb) (@HAppend.hAppend va_W va_W va_W _ ([((xa 2), .inl (X.2.2.2.1, 2, .inr (.inr (.inr (.inr (imQ i0 i1))))))]) (@HAppend.hAppend va_W va_W va_W _ (rcW X i0 ap vp bp gp) (@HAppend.hAppend va_W va_W va_W _ ([((xa 3), .inl (X.2.2.1, 2, .inl fz))]) (@HAppend.hAppend va_W va_W va_W _ ([((xa 5), .inl (X.2.1, 3, .inl fr))]) (@HAppend.hAppend va_W va_W va_W _ (rcW X i1 aq v_5a b_5b g_5c) (rcW X nw an v b g))))))) H locs := G
      refine lv_aload_n zx zb dX10_image_29 rfl (lv_at hl 0 rfl) ?_
      refine r_get (C := RX10) (T := TX10) (N := 14) (ci := 8) (v := .ref (xa 3)) S in_X10_image_X10 G 0 rfl rfl 3 (by decide) lk_X10_image_23 rfl dX10_image_30 ?_
      refine lv_iload_n zx zb dX10_image_33 rfl (lv_at hl 1 rfl) ?_
      refine lv_iconst (v := 1) zx zb dX10_image_34 (by decide) ?_
      refine r_zast S G 18 rfl (k_vp (by decide)) dX10_image_35 (fun H locs G => ?_)
      obtain ⟨f_6, G⟩ : ∃ f_6 : Nat → Int32, wd X (va_A (@HAppend.hAppend va_W va_W va_W _ (xW h0 nw sp xa la lb) (@HAppend.hAppend va_W va_W va_W _ (rcW X nw an v b g) (@HAppend.hAppend va_W va_W va_W _ ([((xa 2), .inl (X.2.2.2.1, 2, .inr (.inr (.inr (.inr (imQ i0 i1))))))]) (@HAppend.hAppend va_W va_W va_W _ (rcW X i0 ap vp bp gp) (@HAppend.hAppend va_W va_W va_W _ (rcW X i1 aq vq bq gq) (@HAppend.hAppend va_W va_W va_W _ ([((xa 3), .inl (X.2.2.1, 2, .inl fz))]) ([((xa 5), .inl (X.2.1, 3, .inl fr))]))))))) sz) (va_A (@HAppend.hAppend va_W va_W va_W _ (xW h0 nw sp xa la lb) (@HAppend.hAppend va_W va_W va_W _ (rcW X nw an v b g) (@HAppend.hAppend va_W va_W va_W _ ([((xa 2), .inl (X.2.2.2.1, 2, .inr (.inr (.inr (.inr (imQ i0 i1))))))]) (@HAppend.hAppend va_W va_W va_W _ (rcW X i0 ap vp bp gp) (@HAppend.hAppend va_W va_W va_W _ (rcW X i1 aq vq bq gq) (@HAppend.hAppend va_W va_W va_W _ ([((xa 3), .inl (X.2.2.1, 2, .inl fz))]) ([((xa 5), .inl (X.2.1, 3, .inl fr))]))))))) sz) s (@HAppend.hAppend va_W va_W va_W _ (xW h0 nw sp xa la lb) (@HAppend.hAppend va_W va_W va_W _ ([((xa 2), .inl (X.2.2.2.1, 2, .inr (.inr (.inr (.inr (imQ i0 i1))))))]) (@HAppend.hAppend va_W va_W va_W _ (rcW X i0 ap vp bp gp) (@HAppend.hAppend va_W va_W va_W _ ([((xa 3), .inl (X.2.2.1, 2, .inl f_6))]) (@HAppend.hAppend va_W va_W va_W _ ([((xa 5), .inl (X.2.1, 3, .inl fr))]) (@HAppend.hAppend va_W va_W va_W _ (rcW X i1 aq v_5a b_5b g_5c) (rcW X nw an v b g))))))) H locs := ⟨_, G⟩
      refine lv_iconst (v := 1) zx zb dX10_image_36 (by decide) ?_
      exact e_int S zr zlk (vp_nar_int _) G (vp, bp, gp, v_5a, b_5b, g_5c, f_6, fr) [0, 36, 37, 38, 39, 40, 41, 42, 43, 44, 45, 46, 47, 48, 49, 50, 51, 1, 2, 3, 4, 5, 6, 7, 8, 9, 10, 11, 12, 13, 14, 15, 16, 17, 20, 21, 22, 23, 24, 25, 26, 27, 28, 29, 30, 31, 32, 33, 34, 35, 18, 19] rfl rfl (Or.inr rfl) (⟨hI_bp, hI_b_5b, (if_pos hw_1).symm⟩) dX10_image_37
  · refine lv_if_ne (tgt := 16) zx zb dX10_image_6 (by decide) (fun c_7 => absurd (by decide) c_7) (fun c_7 => ?_)
    refine lv_aload_n zx zb dX10_image_9 rfl (lv_at hl 0 rfl) ?_
    refine lv_bipush (v := (-2)) zx zb dX10_image_10 (by decide) ?_
    refine b_wi (cells' := 0) (slots' := 0) (wr := @HAppend.hAppend va_W va_W va_W _ (rcW X nw an v b g) (@HAppend.hAppend va_W va_W va_W _ ([((xa 2), .inl (X.2.2.2.1, 2, .inr (.inr (.inr (.inr (imQ i0 i1))))))]) (@HAppend.hAppend va_W va_W va_W _ (rcW X i0 ap vp bp gp) (@HAppend.hAppend va_W va_W va_W _ (rcW X i1 aq vq bq gq) ([((xa 3), .inl (X.2.2.1, 2, .inl fz))]))))) G rfl rfl [0, 51] [1, 2, 3, 4, 5, 6, 7, 8, 9, 10, 11, 12, 13, 14, 15, 16, 17, 18, 19, 20, 21, 22, 23, 24, 25, 26, 27, 28, 29, 30, 31, 32, 33, 34, 35, 36, 37, 38, 39, 40, 41, 42, 43, 44, 45, 46, 47, 48, 49, 50] rfl rfl rfl rfl (n_V (As := [.int (-2)]) (rest := []) (C := RX10) (T := TX10) (N := 14) (ci := 8) S G (s_refuse l X h0 nw sp xa la lb fr (-2) H.size) gX10_image_X10_refuse rfl rfl rfl hdV_X10_refuse ⟨Nat.le_of_ble_eq_true rfl, Nat.le_of_ble_eq_true rfl⟩ [0, 51] rfl rfl 0 rfl rfl rfl hl.1 (Nat.le_of_ble_eq_true rfl) dX10_image_12 ⟨Nat.le_of_ble_eq_true rfl, Nat.le_of_ble_eq_true rfl⟩) (fun r_8 u_8 H locs hp_8 G => ?_)
    obtain ⟨f_8, rfl⟩ : ∃ z, z = u_8 := ⟨_, rfl⟩
    have hq_8 := hp_8
    have G : wd X (va_A (@HAppend.hAppend va_W va_W va_W _ (xW h0 nw sp xa la lb) (@HAppend.hAppend va_W va_W va_W _ (rcW X nw an v b g) (@HAppend.hAppend va_W va_W va_W _ ([((xa 2), .inl (X.2.2.2.1, 2, .inr (.inr (.inr (.inr (imQ i0 i1))))))]) (@HAppend.hAppend va_W va_W va_W _ (rcW X i0 ap vp bp gp) (@HAppend.hAppend va_W va_W va_W _ (rcW X i1 aq vq bq gq) (@HAppend.hAppend va_W va_W va_W _ ([((xa 3), .inl (X.2.2.1, 2, .inl fz))]) ([((xa 5), .inl (X.2.1, 3, .inl fr))]))))))) sz) (va_A (@HAppend.hAppend va_W va_W va_W _ (xW h0 nw sp xa la lb) (@HAppend.hAppend va_W va_W va_W _ (rcW X nw an v b g) (@HAppend.hAppend va_W va_W va_W _ ([((xa 2), .inl (X.2.2.2.1, 2, .inr (.inr (.inr (.inr (imQ i0 i1))))))]) (@HAppend.hAppend va_W va_W va_W _ (rcW X i0 ap vp bp gp) (@HAppend.hAppend va_W va_W va_W _ (rcW X i1 aq vq bq gq) (@HAppend.hAppend va_W va_W va_W _ ([((xa 3), .inl (X.2.2.1, 2, .inl fz))]) ([((xa 5), .inl (X.2.1, 3, .inl fr))]))))))) sz) s (@HAppend.hAppend va_W va_W va_W _ (rcW X nw an v b g) (@HAppend.hAppend va_W va_W va_W _ ([((xa 2), .inl (X.2.2.2.1, 2, .inr (.inr (.inr (.inr (imQ i0 i1))))))]) (@HAppend.hAppend va_W va_W va_W _ (rcW X i0 ap vp bp gp) (@HAppend.hAppend va_W va_W va_W _ (rcW X i1 aq vq bq gq) (@HAppend.hAppend va_W va_W va_W _ ([((xa 3), .inl (X.2.2.1, 2, .inl fz))]) (@HAppend.hAppend va_W va_W va_W _ (xW h0 nw sp xa la lb) ([((xa 5), .inl (X.2.1, 3, .inl f_8))]))))))) H locs := G
    exact e_int S zr zlk (vp_nar_int _) G (vp, bp, gp, vq, bq, gq, fz, f_8) [50, 0, 1, 2, 3, 4, 5, 6, 7, 8, 9, 10, 11, 12, 13, 14, 15, 16, 17, 18, 19, 20, 21, 22, 23, 24, 25, 26, 27, 28, 29, 30, 31, 32, 33, 34, 35, 36, 37, 38, 39, 40, 41, 42, 43, 44, 45, 46, 47, 48, 49, 51] rfl rfl (Or.inr rfl) (⟨hI_bp, hI_bq, hq_8.trans (if_neg hw_1).symm⟩) dX10_image_15
theorem in_X10_from_X10 : ∀ w ∈ wsX100, w ∈ wsX10_from := by decide +kernel
theorem lk_X10_from_23 : Cond.fieldLink RX10 23 "EggSpoons" "imageKept" "[Z" ∈ wsX10_from := by decide +kernel
theorem lk_X10_from_10 : Cond.fieldLink RX10 10 "EggSpoons" "now" "LEggSpoons$Race;" ∈ wsX10_from := by decide +kernel
theorem lk_X10_from_19 : Cond.fieldLink RX10 19 "EggSpoons" "images" "[LEggSpoons$Race;" ∈ wsX10_from := by decide +kernel
set_option maxHeartbeats 4000000 in
set_option maxRecDepth 100000 in
/-- from -/
theorem s_from (l : Launch) (X : EX) (h0 : Nat) (nw : Nat) (sp : Nat) (xa : Nat → Nat) (la : Int64) (lb : Int64) (an : Nat → Nat) (v : Nat → Int32) (b : Nat → Nat) (g : Nat → Nat → Int32) (i0 : Nat) (i1 : Nat) (ap : Nat → Nat) (vp : Nat → Int32) (bp : Nat → Nat) (gp : Nat → Nat → Int32) (aq : Nat → Nat) (vq : Nat → Int32) (bq : Nat → Nat) (gq : Nat → Nat → Int32) (fz : Nat → Int32) (fr : Nat → Int32) (x1 : Int32) (hI_b : InR b) (hI_bp : InR bp) (hI_bq : InR bq) (sz : Nat) : Met l yX10_from wsX10_from ({ frames := 3, cells := 0, slots := 0, locals := 102 } : Room) (pE X [.ref h0, .int x1] (@HAppend.hAppend va_W va_W va_W _ (xW h0 nw sp xa la lb) (@HAppend.hAppend va_W va_W va_W _ (rcW X nw an v b g) (@HAppend.hAppend va_W va_W va_W _ ([((xa 2), .inl (X.2.2.2.1, 2, .inr (.inr (.inr (.inr (imQ i0 i1))))))]) (@HAppend.hAppend va_W va_W va_W _ (rcW X i0 ap vp bp gp) (@HAppend.hAppend va_W va_W va_W _ (rcW X i1 aq vq bq gq) (@HAppend.hAppend va_W va_W va_W _ ([((xa 3), .inl (X.2.2.1, 2, .inl fz))]) ([((xa 5), .inl (X.2.1, 3, .inl fr))]))))))) sz) (qI (fun (r : Int32) (u : (Nat → Int32) × (Nat → Nat) × (Nat → Nat → Int32) × (Nat → Int32)) => InR u.2.1 ∧ (True)) X (fun (u : (Nat → Int32) × (Nat → Nat) × (Nat → Nat → Int32) × (Nat → Int32)) => @HAppend.hAppend va_W va_W va_W _ (xW h0 nw sp xa la lb) (@HAppend.hAppend va_W va_W va_W _ (rcW X nw an u.1 u.2.1 u.2.2.1) (@HAppend.hAppend va_W va_W va_W _ ([((xa 2), .inl (X.2.2.2.1, 2, .inr (.inr (.inr (.inr (imQ i0 i1))))))]) (@HAppend.hAppend va_W va_W va_W _ (rcW X i0 ap vp bp gp) (@HAppend.hAppend va_W va_W va_W _ (rcW X i1 aq vq bq gq) (@HAppend.hAppend va_W va_W va_W _ ([((xa 3), .inl (X.2.2.1, 2, .inl fz))]) ([((xa 5), .inl (X.2.1, 3, .inl u.2.2.2))]))))))) (@HAppend.hAppend va_W va_W va_W _ (xW h0 nw sp xa la lb) (@HAppend.hAppend va_W va_W va_W _ (rcW X nw an v b g) (@HAppend.hAppend va_W va_W va_W _ ([((xa 2), .inl (X.2.2.2.1, 2, .inr (.inr (.inr (.inr (imQ i0 i1))))))]) (@HAppend.hAppend va_W va_W va_W _ (rcW X i0 ap vp bp gp) (@HAppend.hAppend va_W va_W va_W _ (rcW X i1 aq vq bq gq) (@HAppend.hAppend va_W va_W va_W _ ([((xa 3), .inl (X.2.2.1, 2, .inl fz))]) ([((xa 5), .inl (X.2.1, 3, .inl fr))]))))))) sz) 0 0 (va_A (@HAppend.hAppend va_W va_W va_W _ (xW h0 nw sp xa la lb) (@HAppend.hAppend va_W va_W va_W _ (rcW X nw an v b g) (@HAppend.hAppend va_W va_W va_W _ ([((xa 2), .inl (X.2.2.2.1, 2, .inr (.inr (.inr (.inr (imQ i0 i1))))))]) (@HAppend.hAppend va_W va_W va_W _ (rcW X i0 ap vp bp gp) (@HAppend.hAppend va_W va_W va_W _ (rcW X i1 aq vq bq gq) (@HAppend.hAppend va_W va_W va_W _ ([((xa 3), .inl (X.2.2.1, 2, .inl fz))]) ([((xa 5), .inl (X.2.1, 3, .inl fr))]))))))) sz) := by
  refine mk_met (B := (va_A (@HAppend.hAppend va_W va_W va_W _ (xW h0 nw sp xa la lb) (@HAppend.hAppend va_W va_W va_W _ (rcW X nw an v b g) (@HAppend.hAppend va_W va_W va_W _ ([((xa 2), .inl (X.2.2.2.1, 2, .inr (.inr (.inr (.inr (imQ i0 i1))))))]) (@HAppend.hAppend va_W va_W va_W _ (rcW X i0 ap vp bp gp) (@HAppend.hAppend va_W va_W va_W _ (rcW X i1 aq vq bq gq) (@HAppend.hAppend va_W va_W va_W _ ([((xa 3), .inl (X.2.2.1, 2, .inl fz))]) ([((xa 5), .inl (X.2.1, 3, .inl fr))]))))))) sz)) (A := (va_A (@HAppend.hAppend va_W va_W va_W _ (xW h0 nw sp xa la lb) (@HAppend.hAppend va_W va_W va_W _ (rcW X nw an v b g) (@HAppend.hAppend va_W va_W va_W _ ([((xa 2), .inl (X.2.2.2.1, 2, .inr (.inr (.inr (.inr (imQ i0 i1))))))]) (@HAppend.hAppend va_W va_W va_W _ (rcW X i0 ap vp bp gp) (@HAppend.hAppend va_W va_W va_W _ (rcW X i1 aq vq bq gq) (@HAppend.hAppend va_W va_W va_W _ ([((xa 3), .inl (X.2.2.1, 2, .inl fz))]) ([((xa 5), .inl (X.2.1, 3, .inl fr))]))))))) sz)) (cc := cX10_from) (maxL := 2) (ret := (some .int)) (by decide) rfl (Nat.le_of_ble_eq_true rfl) k_w k_a (fun p e s m below meth c S zr zlk znm zsz G ls hl => ?_)
  have S : CallFix p m c cX10_from 2 s _ wsX10_from RX10 := S
  have zx := S.1
  have zb := S.2.1
  have hl : lv_has ls 2 [(0, .ref h0), (1, .int x1)] := hl
  have hO_b := hI_b
  obtain ⟨hb0_b, hb1_b, hb2_b, hb3_b, hb4_b⟩ := hO_b
  have hO_bp := hI_bp
  obtain ⟨hb0_bp, hb1_bp, hb2_bp, hb3_bp, hb4_bp⟩ := hO_bp
  have hO_bq := hI_bq
  obtain ⟨hb0_bq, hb1_bq, hb2_bq, hb3_bq, hb4_bq⟩ := hO_bq
  refine lv_iload_n zx zb dX10_from_0 rfl (lv_at hl 1 rfl) ?_
  refine lv_iconst (v := 0) zx zb dX10_from_1 (by decide) ?_
  refine lv_iconst (v := 1) zx zb dX10_from_2 (by decide) ?_
  refine o_ri (cells' := 0) (slots' := 0) G rfl rfl (n_S (As := [.int x1, .int 0, .int 1]) (rest := []) S G (s_within l X x1 0 1 s.heap.size) gX10_from_X10_within rfl rfl rfl hdS_X10_within ⟨Nat.le_of_ble_eq_true rfl, Nat.le_of_ble_eq_true rfl⟩ [] rfl rfl rfl hl.1 (Nat.le_of_ble_eq_true rfl) dX10_from_3 ⟨Nat.le_of_ble_eq_true rfl, Nat.le_of_ble_eq_true rfl⟩) (fun r_1 u_1 H locs hp_1 G => ?_)
  have G : wd X (va_A (@HAppend.hAppend va_W va_W va_W _ (xW h0 nw sp xa la lb) (@HAppend.hAppend va_W va_W va_W _ (rcW X nw an v b g) (@HAppend.hAppend va_W va_W va_W _ ([((xa 2), .inl (X.2.2.2.1, 2, .inr (.inr (.inr (.inr (imQ i0 i1))))))]) (@HAppend.hAppend va_W va_W va_W _ (rcW X i0 ap vp bp gp) (@HAppend.hAppend va_W va_W va_W _ (rcW X i1 aq vq bq gq) (@HAppend.hAppend va_W va_W va_W _ ([((xa 3), .inl (X.2.2.1, 2, .inl fz))]) ([((xa 5), .inl (X.2.1, 3, .inl fr))]))))))) sz) (va_A (@HAppend.hAppend va_W va_W va_W _ (xW h0 nw sp xa la lb) (@HAppend.hAppend va_W va_W va_W _ (rcW X nw an v b g) (@HAppend.hAppend va_W va_W va_W _ ([((xa 2), .inl (X.2.2.2.1, 2, .inr (.inr (.inr (.inr (imQ i0 i1))))))]) (@HAppend.hAppend va_W va_W va_W _ (rcW X i0 ap vp bp gp) (@HAppend.hAppend va_W va_W va_W _ (rcW X i1 aq vq bq gq) (@HAppend.hAppend va_W va_W va_W _ ([((xa 3), .inl (X.2.2.1, 2, .inl fz))]) ([((xa 5), .inl (X.2.1, 3, .inl fr))]))))))) sz) s (@HAppend.hAppend va_W va_W va_W _ (xW h0 nw sp xa la lb) (@HAppend.hAppend va_W va_W va_W _ (rcW X nw an v b g) (@HAppend.hAppend va_W va_W va_W _ ([((xa 2), .inl (X.2.2.2.1, 2, .inr (.inr (.inr (.inr (imQ i0 i1))))))]) (@HAppend.hAppend va_W va_W va_W _ (rcW X i0 ap vp bp gp) (@HAppend.hAppend va_W va_W va_W _ (rcW X i1 aq vq bq gq) (@HAppend.hAppend va_W va_W va_W _ ([((xa 3), .inl (X.2.2.1, 2, .inl fz))]) ([((xa 5), .inl (X.2.1, 3, .inl fr))]))))))) H locs := G
  rcases hp_1 with ⟨rfl, hw_1⟩ | ⟨rfl, hw_1⟩
  · refine lv_if_ne (tgt := 16) zx zb dX10_from_6 (by decide) (fun c_2 => ?_) (fun c_2 => absurd c_2 (by decide))
    obtain ⟨j0, hj0, rfl⟩ := k_nat01 hw_1
    refine lv_aload_n zx zb dX10_from_16 rfl (lv_at hl 0 rfl) ?_
    refine r_get (C := RX10) (T := TX10) (N := 14) (ci := 8) (v := .ref (xa 3)) S in_X10_from_X10 G 0 rfl rfl 3 (by decide) lk_X10_from_23 rfl dX10_from_17 ?_
    refine lv_iload_n zx zb dX10_from_20 rfl (lv_at hl 1 rfl) ?_
    refine r_zald S G 50 rfl (vp_in_nI (by omega) (by decide)) rfl dX10_from_21 ?_
    refine k_itE (fun y_3 => ?_)
    refine lv_if_ne (tgt := 32) zx zb dX10_from_22 (by decide) (fun c_4 => ?_) (fun c_4 => ?_)
    · refine lv_aload_n zx zb dX10_from_32 rfl (lv_at hl 0 rfl) ?_
      refine r_get (C := RX10) (T := TX10) (N := 14) (ci := 8) (v := .ref nw) S in_X10_from_X10 G 0 rfl rfl 0 (by decide) lk_X10_from_10 rfl dX10_from_33 ?_
      refine lv_aload_n zx zb dX10_from_36 rfl (lv_at hl 0 rfl) ?_
      refine r_get (C := RX10) (T := TX10) (N := 14) (ci := 8) (v := .ref (xa 2)) S in_X10_from_X10 G 0 rfl rfl 2 (by decide) lk_X10_from_19 rfl dX10_from_37 ?_
      refine lv_iload_n zx zb dX10_from_40 rfl (lv_at hl 1 rfl) ?_
      rcases k_2c (show j0 < 2 by omega) with rfl | rfl
      · refine k_it (v := 0) rfl ?_
        refine r_aald (C := RX5) (b := i0) S G 17 2 rfl rfl (k_vp (by decide)) rfl dX10_from_41 ?_
        refine b_wv (cells' := 0) (slots' := 0) (wr := @HAppend.hAppend va_W va_W va_W _ (xW h0 nw sp xa la lb) (@HAppend.hAppend va_W va_W va_W _ ([((xa 2), .inl (X.2.2.2.1, 2, .inr (.inr (.inr (.inr (imQ i0 i1))))))]) (@HAppend.hAppend va_W va_W va_W _ (rcW X i1 aq vq bq gq) (@HAppend.hAppend va_W va_W va_W _ ([((xa 3), .inl (X.2.2.1, 2, .inl fz))]) ([((xa 5), .inl (X.2.1, 3, .inl fr))]))))) G rfl rfl [1, 2, 3, 4, 5, 6, 7, 8, 9, 10, 11, 12, 13, 14, 15, 16, 18, 19, 20, 21, 22, 23, 24, 25, 26, 27, 28, 29, 30, 31, 32, 33] [0, 17, 34, 35, 36, 37, 38, 39, 40, 41, 42, 43, 44, 45, 46, 47, 48, 49, 50, 51] rfl rfl rfl rfl (n_V (As := [.ref i0]) (rest := []) (C := RX5) (T := TX5) (N := 8) (ci := 3) S G (s_copyFrom l X nw an v b g i0 ap vp bp gp hI_b hI_bp H.size) gX10_from_X5_copyFrom rfl rfl rfl hdV_X5_copyFrom ⟨Nat.le_of_ble_eq_true rfl, Nat.le_of_ble_eq_true rfl⟩ [1, 2, 3, 4, 5, 6, 7, 8, 9, 10, 11, 12, 13, 14, 15, 16, 18, 19, 20, 21, 22, 23, 24, 25, 26, 27, 28, 29, 30, 31, 32, 33] rfl rfl 1 rfl rfl rfl hl.1 (Nat.le_of_ble_eq_true rfl) dX10_from_42 ⟨Nat.le_of_ble_eq_true rfl, Nat.le_of_ble_eq_true rfl⟩) (fun u_5 H locs hp_5 G => ?_)
        obtain ⟨v_5a, b_5b, g_5c⟩ := u_5
        obtain ⟨hI_b_5b, hq_5⟩ := hp_5
        have hO_b_5b := hI_b_5b
        obtain ⟨hb0_b_5b, hb1_b_5b, hb2_b_5b, hb3_b_5b, hb4_b_5b⟩ := hO_b_5b
        have G : wd X (va_A (@HAppend.hAppend va_W va_W va_W _ (xW h0 nw sp xa la lb) (@HAppend.hAppend va_W va_W va_W _ (rcW X nw an v b g) (@HAppend.hAppend va_W va_W va_W _ ([((xa 2), .inl (X.2.2.2.1, 2, .inr (.inr (.inr (.inr (imQ i0 i1))))))]) (@HAppend.hAppend va_W va_W va_W _ (rcW X i0 ap vp bp gp) (@HAppend.hAppend va_W va_W va_W _ (rcW X i1 aq vq bq gq) (@HAppend.hAppend va_W va_W va_W _ ([((xa 3), .inl (X.2.2.1, 2, .inl fz))]) ([((xa 5), .inl (X.2.1, 3, .inl fr))]))))))) sz) (va_A (@HAppend.hAppend va_W va_W va_W _ (xW h0 nw sp xa la lb) (@HAppend.hAppend va_W va_W va_W _ (rcW X nw an v b g) (@HAppend.hAppend va_W va_W va_W _ ([((xa 2), .inl (X.2.2.2.1, 2, .inr (.inr (.inr (.inr (imQ i0 i1))))))]) (@HAppend.hAppend va_W va_W va_W _ (rcW X i0 ap vp bp gp) (@HAppend.hAppend va_W va_W va_W _ (rcW X i1 aq vq bq gq) (@HAppend.hAppend va_W va_W va_W _ ([((xa 3), .inl (X.2.2.1, 2, .inl fz))]) ([((xa 5), .inl (X.2.1, 3, .inl fr))]))))))) sz) s (@HAppend.hAppend va_W va_W va_W _ (xW h0 nw sp xa la lb) (@HAppend.hAppend va_W va_W va_W _ ([((xa 2), .inl (X.2.2.2.1, 2, .inr (.inr (.inr (.inr (imQ i0 i1))))))]) (@HAppend.hAppend va_W va_W va_W _ (rcW X i1 aq vq bq gq) (@HAppend.hAppend va_W va_W va_W _ ([((xa 3), .inl (X.2.2.1, 2, .inl fz))]) (@HAppend.hAppend va_W va_W va_W _ ([((xa 5), .inl (X.2.1, 3, .inl fr))]) (@HAppend.hAppend va_W va_W va_W _ (rcW X nw an v_5a b_5b g_5c) (rcW X i0 ap vp bp gp))))))) H locs := G
        refine lv_iconst (v := 1) zx zb dX10_from_45 (by decide) ?_
        exact e_int S zr zlk (vp_nar_int _) G (v_5a, b_5b, g_5c, fr) [0, 20, 21, 22, 23, 24, 25, 26, 27, 28, 29, 30, 31, 32, 33, 34, 35, 1, 36, 37, 38, 39, 40, 41, 42, 43, 44, 45, 46, 47, 48, 49, 50, 51, 2, 3, 4, 5, 6, 7, 8, 9, 10, 11, 12, 13, 14, 15, 16, 17, 18, 19] rfl rfl (Or.inr rfl) (⟨hI_b_5b, trivial⟩) dX10_from_46
      · refine k_it (v := 1) rfl ?_
        refine r_aald (C := RX5) (b := i1) S G 17 2 rfl rfl (k_vp (by decide)) rfl dX10_from_41 ?_
        refine b_wv (cells' := 0) (slots' := 0) (wr := @HAppend.hAppend va_W va_W va_W _ (xW h0 nw sp xa la lb) (@HAppend.hAppend va_W va_W va_W _ ([((xa 2), .inl (X.2.2.2.1, 2, .inr (.inr (.inr (.inr (imQ i0 i1))))))]) (@HAppend.hAppend va_W va_W va_W _ (rcW X i0 ap vp bp gp) (@HAppend.hAppend va_W va_W va_W _ ([((xa 3), .inl (X.2.2.1, 2, .inl fz))]) ([((xa 5), .inl (X.2.1, 3, .inl fr))]))))) G rfl rfl [1, 2, 3, 4, 5, 6, 7, 8, 9, 10, 11, 12, 13, 14, 15, 16, 34, 35, 36, 37, 38, 39, 40, 41, 42, 43, 44, 45, 46, 47, 48, 49] [0, 17, 18, 19, 20, 21, 22, 23, 24, 25, 26, 27, 28, 29, 30, 31, 32, 33, 50, 51] rfl rfl rfl rfl (n_V (As := [.ref i1]) (rest := []) (C := RX5) (T := TX5) (N := 8) (ci := 3) S G (s_copyFrom l X nw an v b g i1 aq vq bq gq hI_b hI_bq H.size) gX10_from_X5_copyFrom rfl rfl rfl hdV_X5_copyFrom ⟨Nat.le_of_ble_eq_true rfl, Nat.le_of_ble_eq_true rfl⟩ [1, 2, 3, 4, 5, 6, 7, 8, 9, 10, 11, 12, 13, 14, 15, 16, 34, 35, 36, 37, 38, 39, 40, 41, 42, 43, 44, 45, 46, 47, 48, 49] rfl rfl 1 rfl rfl rfl hl.1 (Nat.le_of_ble_eq_true rfl) dX10_from_42 ⟨Nat.le_of_ble_eq_true rfl, Nat.le_of_ble_eq_true rfl⟩) (fun u_6 H locs hp_6 G => ?_)
        obtain ⟨v_6a, b_6b, g_6c⟩ := u_6
        obtain ⟨hI_b_6b, hq_6⟩ := hp_6
        have hO_b_6b := hI_b_6b
        obtain ⟨hb0_b_6b, hb1_b_6b, hb2_b_6b, hb3_b_6b, hb4_b_6b⟩ := hO_b_6b
        have G : wd X (va_A (@HAppend.hAppend va_W va_W va_W _ (xW h0 nw sp xa la lb) (@HAppend.hAppend va_W va_W va_W _ (rcW X nw an v b g) (@HAppend.hAppend va_W va_W va_W _ ([((xa 2), .inl (X.2.2.2.1, 2, .inr (.inr (.inr (.inr (imQ i0 i1))))))]) (@HAppend.hAppend va_W va_W va_W _ (rcW X i0 ap vp bp gp) (@HAppend.hAppend va_W va_W va_W _ (rcW X i1 aq vq bq gq) (@HAppend.hAppend va_W va_W va_W _ ([((xa 3), .inl (X.2.2.1, 2, .inl fz))]) ([((xa 5), .inl (X.2.1, 3, .inl fr))]))))))) sz) (va_A (@HAppend.hAppend va_W va_W va_W _ (xW h0 nw sp xa la lb) (@HAppend.hAppend va_W va_W va_W _ (rcW X nw an v b g) (@HAppend.hAppend va_W va_W va_W _ ([((xa 2), .inl (X.2.2.2.1, 2, .inr (.inr (.inr (.inr (imQ i0 i1))))))]) (@HAppend.hAppend va_W va_W va_W _ (rcW X i0 ap vp bp gp) (@HAppend.hAppend va_W va_W va_W _ (rcW X i1 aq vq bq gq) (@HAppend.hAppend va_W va_W va_W _ ([((xa 3), .inl (X.2.2.1, 2, .inl fz))]) ([((xa 5), .inl (X.2.1, 3, .inl fr))]))))))) sz) s (@HAppend.hAppend va_W va_W va_W _ (xW h0 nw sp xa la lb) (@HAppend.hAppend va_W va_W va_W _ ([((xa 2), .inl (X.2.2.2.1, 2, .inr (.inr (.inr (.inr (imQ i0 i1))))))]) (@HAppend.hAppend va_W va_W va_W _ (rcW X i0 ap vp bp gp) (@HAppend.hAppend va_W va_W va_W _ ([((xa 3), .inl (X.2.2.1, 2, .inl fz))]) (@HAppend.hAppend va_W va_W va_W _ ([((xa 5), .inl (X.2.1, 3, .inl fr))]) (@HAppend.hAppend va_W va_W va_W _ (rcW X nw an v_6a b_6b g_6c) (rcW X i1 aq vq bq gq))))))) H locs := G
        refine lv_iconst (v := 1) zx zb dX10_from_45 (by decide) ?_
        exact e_int S zr zlk (vp_nar_int _) G (v_6a, b_6b, g_6c, fr) [0, 20, 21, 22, 23, 24, 25, 26, 27, 28, 29, 30, 31, 32, 33, 34, 35, 1, 2, 3, 4, 5, 6, 7, 8, 9, 10, 11, 12, 13, 14, 15, 16, 17, 36, 37, 38, 39, 40, 41, 42, 43, 44, 45, 46, 47, 48, 49, 50, 51, 18, 19] rfl rfl (Or.inr rfl) (⟨hI_b_6b, trivial⟩) dX10_from_46
    · refine lv_aload_n zx zb dX10_from_25 rfl (lv_at hl 0 rfl) ?_
      refine lv_bipush (v := (-3)) zx zb dX10_from_26 (by decide) ?_
      refine b_wi (cells' := 0) (slots' := 0) (wr := @HAppend.hAppend va_W va_W va_W _ (rcW X nw an v b g) (@HAppend.hAppend va_W va_W va_W _ ([((xa 2), .inl (X.2.2.2.1, 2, .inr (.inr (.inr (.inr (imQ i0 i1))))))]) (@HAppend.hAppend va_W va_W va_W _ (rcW X i0 ap vp bp gp) (@HAppend.hAppend va_W va_W va_W _ (rcW X i1 aq vq bq gq) ([((xa 3), .inl (X.2.2.1, 2, .inl fz))]))))) G rfl rfl [0, 51] [1, 2, 3, 4, 5, 6, 7, 8, 9, 10, 11, 12, 13, 14, 15, 16, 17, 18, 19, 20, 21, 22, 23, 24, 25, 26, 27, 28, 29, 30, 31, 32, 33, 34, 35, 36, 37, 38, 39, 40, 41, 42, 43, 44, 45, 46, 47, 48, 49, 50] rfl rfl rfl rfl (n_V (As := [.int (-3)]) (rest := []) (C := RX10) (T := TX10) (N := 14) (ci := 8) S G (s_refuse l X h0 nw sp xa la lb fr (-3) H.size) gX10_from_X10_refuse rfl rfl rfl hdV_X10_refuse ⟨Nat.le_of_ble_eq_true rfl, Nat.le_of_ble_eq_true rfl⟩ [0, 51] rfl rfl 0 rfl rfl rfl hl.1 (Nat.le_of_ble_eq_true rfl) dX10_from_28 ⟨Nat.le_of_ble_eq_true rfl, Nat.le_of_ble_eq_true rfl⟩) (fun r_7 u_7 H locs hp_7 G => ?_)
      obtain ⟨f_7, rfl⟩ : ∃ z, z = u_7 := ⟨_, rfl⟩
      have hq_7 := hp_7
      have G : wd X (va_A (@HAppend.hAppend va_W va_W va_W _ (xW h0 nw sp xa la lb) (@HAppend.hAppend va_W va_W va_W _ (rcW X nw an v b g) (@HAppend.hAppend va_W va_W va_W _ ([((xa 2), .inl (X.2.2.2.1, 2, .inr (.inr (.inr (.inr (imQ i0 i1))))))]) (@HAppend.hAppend va_W va_W va_W _ (rcW X i0 ap vp bp gp) (@HAppend.hAppend va_W va_W va_W _ (rcW X i1 aq vq bq gq) (@HAppend.hAppend va_W va_W va_W _ ([((xa 3), .inl (X.2.2.1, 2, .inl fz))]) ([((xa 5), .inl (X.2.1, 3, .inl fr))]))))))) sz) (va_A (@HAppend.hAppend va_W va_W va_W _ (xW h0 nw sp xa la lb) (@HAppend.hAppend va_W va_W va_W _ (rcW X nw an v b g) (@HAppend.hAppend va_W va_W va_W _ ([((xa 2), .inl (X.2.2.2.1, 2, .inr (.inr (.inr (.inr (imQ i0 i1))))))]) (@HAppend.hAppend va_W va_W va_W _ (rcW X i0 ap vp bp gp) (@HAppend.hAppend va_W va_W va_W _ (rcW X i1 aq vq bq gq) (@HAppend.hAppend va_W va_W va_W _ ([((xa 3), .inl (X.2.2.1, 2, .inl fz))]) ([((xa 5), .inl (X.2.1, 3, .inl fr))]))))))) sz) s (@HAppend.hAppend va_W va_W va_W _ (rcW X nw an v b g) (@HAppend.hAppend va_W va_W va_W _ ([((xa 2), .inl (X.2.2.2.1, 2, .inr (.inr (.inr (.inr (imQ i0 i1))))))]) (@HAppend.hAppend va_W va_W va_W _ (rcW X i0 ap vp bp gp) (@HAppend.hAppend va_W va_W va_W _ (rcW X i1 aq vq bq gq) (@HAppend.hAppend va_W va_W va_W _ ([((xa 3), .inl (X.2.2.1, 2, .inl fz))]) (@HAppend.hAppend va_W va_W va_W _ (xW h0 nw sp xa la lb) ([((xa 5), .inl (X.2.1, 3, .inl f_7))]))))))) H locs := G
      exact e_int S zr zlk (vp_nar_int _) G (v, b, g, f_7) [50, 0, 1, 2, 3, 4, 5, 6, 7, 8, 9, 10, 11, 12, 13, 14, 15, 16, 17, 18, 19, 20, 21, 22, 23, 24, 25, 26, 27, 28, 29, 30, 31, 32, 33, 34, 35, 36, 37, 38, 39, 40, 41, 42, 43, 44, 45, 46, 47, 48, 49, 51] rfl rfl (Or.inr rfl) (⟨hI_b, trivial⟩) dX10_from_31
  · refine lv_if_ne (tgt := 16) zx zb dX10_from_6 (by decide) (fun c_8 => absurd (by decide) c_8) (fun c_8 => ?_)
    refine lv_aload_n zx zb dX10_from_9 rfl (lv_at hl 0 rfl) ?_
    refine lv_bipush (v := (-2)) zx zb dX10_from_10 (by decide) ?_
    refine b_wi (cells' := 0) (slots' := 0) (wr := @HAppend.hAppend va_W va_W va_W _ (rcW X nw an v b g) (@HAppend.hAppend va_W va_W va_W _ ([((xa 2), .inl (X.2.2.2.1, 2, .inr (.inr (.inr (.inr (imQ i0 i1))))))]) (@HAppend.hAppend va_W va_W va_W _ (rcW X i0 ap vp bp gp) (@HAppend.hAppend va_W va_W va_W _ (rcW X i1 aq vq bq gq) ([((xa 3), .inl (X.2.2.1, 2, .inl fz))]))))) G rfl rfl [0, 51] [1, 2, 3, 4, 5, 6, 7, 8, 9, 10, 11, 12, 13, 14, 15, 16, 17, 18, 19, 20, 21, 22, 23, 24, 25, 26, 27, 28, 29, 30, 31, 32, 33, 34, 35, 36, 37, 38, 39, 40, 41, 42, 43, 44, 45, 46, 47, 48, 49, 50] rfl rfl rfl rfl (n_V (As := [.int (-2)]) (rest := []) (C := RX10) (T := TX10) (N := 14) (ci := 8) S G (s_refuse l X h0 nw sp xa la lb fr (-2) H.size) gX10_from_X10_refuse rfl rfl rfl hdV_X10_refuse ⟨Nat.le_of_ble_eq_true rfl, Nat.le_of_ble_eq_true rfl⟩ [0, 51] rfl rfl 0 rfl rfl rfl hl.1 (Nat.le_of_ble_eq_true rfl) dX10_from_12 ⟨Nat.le_of_ble_eq_true rfl, Nat.le_of_ble_eq_true rfl⟩) (fun r_9 u_9 H locs hp_9 G => ?_)
    obtain ⟨f_9, rfl⟩ : ∃ z, z = u_9 := ⟨_, rfl⟩
    have hq_9 := hp_9
    have G : wd X (va_A (@HAppend.hAppend va_W va_W va_W _ (xW h0 nw sp xa la lb) (@HAppend.hAppend va_W va_W va_W _ (rcW X nw an v b g) (@HAppend.hAppend va_W va_W va_W _ ([((xa 2), .inl (X.2.2.2.1, 2, .inr (.inr (.inr (.inr (imQ i0 i1))))))]) (@HAppend.hAppend va_W va_W va_W _ (rcW X i0 ap vp bp gp) (@HAppend.hAppend va_W va_W va_W _ (rcW X i1 aq vq bq gq) (@HAppend.hAppend va_W va_W va_W _ ([((xa 3), .inl (X.2.2.1, 2, .inl fz))]) ([((xa 5), .inl (X.2.1, 3, .inl fr))]))))))) sz) (va_A (@HAppend.hAppend va_W va_W va_W _ (xW h0 nw sp xa la lb) (@HAppend.hAppend va_W va_W va_W _ (rcW X nw an v b g) (@HAppend.hAppend va_W va_W va_W _ ([((xa 2), .inl (X.2.2.2.1, 2, .inr (.inr (.inr (.inr (imQ i0 i1))))))]) (@HAppend.hAppend va_W va_W va_W _ (rcW X i0 ap vp bp gp) (@HAppend.hAppend va_W va_W va_W _ (rcW X i1 aq vq bq gq) (@HAppend.hAppend va_W va_W va_W _ ([((xa 3), .inl (X.2.2.1, 2, .inl fz))]) ([((xa 5), .inl (X.2.1, 3, .inl fr))]))))))) sz) s (@HAppend.hAppend va_W va_W va_W _ (rcW X nw an v b g) (@HAppend.hAppend va_W va_W va_W _ ([((xa 2), .inl (X.2.2.2.1, 2, .inr (.inr (.inr (.inr (imQ i0 i1))))))]) (@HAppend.hAppend va_W va_W va_W _ (rcW X i0 ap vp bp gp) (@HAppend.hAppend va_W va_W va_W _ (rcW X i1 aq vq bq gq) (@HAppend.hAppend va_W va_W va_W _ ([((xa 3), .inl (X.2.2.1, 2, .inl fz))]) (@HAppend.hAppend va_W va_W va_W _ (xW h0 nw sp xa la lb) ([((xa 5), .inl (X.2.1, 3, .inl f_9))]))))))) H locs := G
    exact e_int S zr zlk (vp_nar_int _) G (v, b, g, f_9) [50, 0, 1, 2, 3, 4, 5, 6, 7, 8, 9, 10, 11, 12, 13, 14, 15, 16, 17, 18, 19, 20, 21, 22, 23, 24, 25, 26, 27, 28, 29, 30, 31, 32, 33, 34, 35, 36, 37, 38, 39, 40, 41, 42, 43, 44, 45, 46, 47, 48, 49, 51] rfl rfl (Or.inr rfl) (⟨hI_b, trivial⟩) dX10_from_15
theorem mm_X10_races_c255 : Cond.constant RX10 255 (999999) ∈ wsX10_races := by decide +kernel
theorem in_X10_races_X10 : ∀ w ∈ wsX100, w ∈ wsX10_races := by decide +kernel
theorem lk_X10_races_16 : Cond.fieldLink RX10 16 "EggSpoons" "spare" "LEggSpoons$Race;" ∈ wsX10_races := by decide +kernel
theorem lk_X10_races_10 : Cond.fieldLink RX10 10 "EggSpoons" "now" "LEggSpoons$Race;" ∈ wsX10_races := by decide +kernel
theorem mm_X10_races_c260 : Cond.constantLong RX10 260 (1103515245) ∈ wsX10_races := by decide +kernel
theorem mm_X10_races_c262 : Cond.constantLong RX10 262 (12345) ∈ wsX10_races := by decide +kernel
theorem mm_X10_races_c264 : Cond.constantLong RX10 264 (2147483648) ∈ wsX10_races := by decide +kernel
theorem mm_X10_races_c266 : Cond.constantLong RX10 266 (65536) ∈ wsX10_races := by decide +kernel
theorem mm_X10_races_c268 : Cond.constantLong RX10 268 (6) ∈ wsX10_races := by decide +kernel
theorem in_X10_races_X5 : ∀ w ∈ wsX50, w ∈ wsX10_races := by decide +kernel
theorem lk_X10_races_87 : Cond.fieldLink RX10 87 "EggSpoons$Race" "runners" "I" ∈ wsX10_races := by decide +kernel
theorem lk_X10_races_126 : Cond.fieldLink RX10 126 "EggSpoons$Race" "row" "[LEggSpoons$Runner;" ∈ wsX10_races := by decide +kernel
theorem mm_X10_races_c270 : Cond.constantLong RX10 270 (1048576) ∈ wsX10_races := by decide +kernel
theorem mm_X10_races_c272 : Cond.constantLong RX10 272 (10) ∈ wsX10_races := by decide +kernel
theorem in_X10_races_X8 : ∀ w ∈ wsX80, w ∈ wsX10_races := by decide +kernel
theorem lk_X10_races_130 : Cond.fieldLink RX10 130 "EggSpoons$Runner" "speed" "I" ∈ wsX10_races := by decide +kernel
set_option maxHeartbeats 4000000 in
set_option maxRecDepth 100000 in
/-- races -/
theorem s_races (l : Launch) (X : EX) (h0 : Nat) (nw : Nat) (sp : Nat) (xa : Nat → Nat) (la : Int64) (lb : Int64) (an : Nat → Nat) (v : Nat → Int32) (b : Nat → Nat) (g : Nat → Nat → Int32) (ap : Nat → Nat) (vp : Nat → Int32) (bp : Nat → Nat) (gp : Nat → Nat → Int32) (fr : Nat → Int32) (x1 : Int32) (x2 : Int32) (hI_b : InR b) (hI_bp : InR bp) (sz : Nat) : Met l yX10_races wsX10_races ({ frames := 3, cells := 0, slots := 0, locals := 70 } : Room) (pE X [.ref h0, .int x1, .int x2] (@HAppend.hAppend va_W va_W va_W _ (xW h0 nw sp xa la lb) (@HAppend.hAppend va_W va_W va_W _ (rcW X nw an v b g) (@HAppend.hAppend va_W va_W va_W _ (rcW X sp ap vp bp gp) ([((xa 5), .inl (X.2.1, 3, .inl fr))])))) sz) (qI (fun (r : Int32) (u : (Nat → Int32) × (Nat → Nat) × (Nat → Nat → Int32) × (Nat → Int32)) => InR u.2.1 ∧ (True)) X (fun (u : (Nat → Int32) × (Nat → Nat) × (Nat → Nat → Int32) × (Nat → Int32)) => @HAppend.hAppend va_W va_W va_W _ (xW h0 nw sp xa la lb) (@HAppend.hAppend va_W va_W va_W _ (rcW X nw an v b g) (@HAppend.hAppend va_W va_W va_W _ (rcW X sp ap u.1 u.2.1 u.2.2.1) ([((xa 5), .inl (X.2.1, 3, .inl u.2.2.2))])))) (@HAppend.hAppend va_W va_W va_W _ (xW h0 nw sp xa la lb) (@HAppend.hAppend va_W va_W va_W _ (rcW X nw an v b g) (@HAppend.hAppend va_W va_W va_W _ (rcW X sp ap vp bp gp) ([((xa 5), .inl (X.2.1, 3, .inl fr))])))) sz) 0 0 (va_A (@HAppend.hAppend va_W va_W va_W _ (xW h0 nw sp xa la lb) (@HAppend.hAppend va_W va_W va_W _ (rcW X nw an v b g) (@HAppend.hAppend va_W va_W va_W _ (rcW X sp ap vp bp gp) ([((xa 5), .inl (X.2.1, 3, .inl fr))])))) sz) := by
  refine mk_met (B := (va_A (@HAppend.hAppend va_W va_W va_W _ (xW h0 nw sp xa la lb) (@HAppend.hAppend va_W va_W va_W _ (rcW X nw an v b g) (@HAppend.hAppend va_W va_W va_W _ (rcW X sp ap vp bp gp) ([((xa 5), .inl (X.2.1, 3, .inl fr))])))) sz)) (A := (va_A (@HAppend.hAppend va_W va_W va_W _ (xW h0 nw sp xa la lb) (@HAppend.hAppend va_W va_W va_W _ (rcW X nw an v b g) (@HAppend.hAppend va_W va_W va_W _ (rcW X sp ap vp bp gp) ([((xa 5), .inl (X.2.1, 3, .inl fr))])))) sz)) (cc := cX10_races) (maxL := 7) (ret := (some .int)) (by decide) rfl (Nat.le_of_ble_eq_true rfl) k_w k_a (fun p e s m below meth c S zr zlk znm zsz G ls hl => ?_)
  have S : CallFix p m c cX10_races 7 s _ wsX10_races RX10 := S
  have zx := S.1
  have zb := S.2.1
  have hl : lv_has ls 7 [(0, .ref h0), (1, .int x1), (2, .int x2)] := hl
  have hO_b := hI_b
  obtain ⟨hb0_b, hb1_b, hb2_b, hb3_b, hb4_b⟩ := hO_b
  have hO_bp := hI_bp
  obtain ⟨hb0_bp, hb1_bp, hb2_bp, hb3_bp, hb4_bp⟩ := hO_bp
  refine lv_iload_n zx zb dX10_races_0 rfl (lv_at hl 1 rfl) ?_
  refine lv_iconst (v := 0) zx zb dX10_races_1 (by decide) ?_
  refine lv_ldc zx zb S.2.2.2.1 (S.2.2.2.2 _ mm_X10_races_c255) dX10_races_2 ?_
  refine o_ri (cells' := 0) (slots' := 0) G rfl rfl (n_S (As := [.int x1, .int 0, .int 999999]) (rest := []) S G (s_within l X x1 0 999999 s.heap.size) gX10_races_X10_within rfl rfl rfl hdS_X10_within ⟨Nat.le_of_ble_eq_true rfl, Nat.le_of_ble_eq_true rfl⟩ [] rfl rfl rfl hl.1 (Nat.le_of_ble_eq_true rfl) dX10_races_4 ⟨Nat.le_of_ble_eq_true rfl, Nat.le_of_ble_eq_true rfl⟩) (fun r_1 u_1 H locs hp_1 G => ?_)
  have G : wd X (va_A (@HAppend.hAppend va_W va_W va_W _ (xW h0 nw sp xa la lb) (@HAppend.hAppend va_W va_W va_W _ (rcW X nw an v b g) (@HAppend.hAppend va_W va_W va_W _ (rcW X sp ap vp bp gp) ([((xa 5), .inl (X.2.1, 3, .inl fr))])))) sz) (va_A (@HAppend.hAppend va_W va_W va_W _ (xW h0 nw sp xa la lb) (@HAppend.hAppend va_W va_W va_W _ (rcW X nw an v b g) (@HAppend.hAppend va_W va_W va_W _ (rcW X sp ap vp bp gp) ([((xa 5), .inl (X.2.1, 3, .inl fr))])))) sz) s (@HAppend.hAppend va_W va_W va_W _ (xW h0 nw sp xa la lb) (@HAppend.hAppend va_W va_W va_W _ (rcW X nw an v b g) (@HAppend.hAppend va_W va_W va_W _ (rcW X sp ap vp bp gp) ([((xa 5), .inl (X.2.1, 3, .inl fr))])))) H locs := G
  rcases hp_1 with ⟨rfl, hw_1⟩ | ⟨rfl, hw_1⟩
  · refine lv_if_eq (tgt := 20) zx zb dX10_races_7 (by decide) (fun c_2 => absurd c_2 (by decide)) (fun c_2 => ?_)
    refine lv_iload_n zx zb dX10_races_10 rfl (lv_at hl 2 rfl) ?_
    refine lv_iconst (v := 0) zx zb dX10_races_11 (by decide) ?_
    refine lv_bipush (v := 60) zx zb dX10_races_12 (by decide) ?_
    refine o_ri (cells' := 0) (slots' := 0) G rfl rfl (n_S (As := [.int x2, .int 0, .int 60]) (rest := []) S G (s_within l X x2 0 60 H.size) gX10_races_X10_within rfl rfl rfl hdS_X10_within ⟨Nat.le_of_ble_eq_true rfl, Nat.le_of_ble_eq_true rfl⟩ [] rfl rfl rfl hl.1 (Nat.le_of_ble_eq_true rfl) dX10_races_14 ⟨Nat.le_of_ble_eq_true rfl, Nat.le_of_ble_eq_true rfl⟩) (fun r_3 u_3 H locs hp_3 G => ?_)
    have G : wd X (va_A (@HAppend.hAppend va_W va_W va_W _ (xW h0 nw sp xa la lb) (@HAppend.hAppend va_W va_W va_W _ (rcW X nw an v b g) (@HAppend.hAppend va_W va_W va_W _ (rcW X sp ap vp bp gp) ([((xa 5), .inl (X.2.1, 3, .inl fr))])))) sz) (va_A (@HAppend.hAppend va_W va_W va_W _ (xW h0 nw sp xa la lb) (@HAppend.hAppend va_W va_W va_W _ (rcW X nw an v b g) (@HAppend.hAppend va_W va_W va_W _ (rcW X sp ap vp bp gp) ([((xa 5), .inl (X.2.1, 3, .inl fr))])))) sz) s (@HAppend.hAppend va_W va_W va_W _ (xW h0 nw sp xa la lb) (@HAppend.hAppend va_W va_W va_W _ (rcW X nw an v b g) (@HAppend.hAppend va_W va_W va_W _ (rcW X sp ap vp bp gp) ([((xa 5), .inl (X.2.1, 3, .inl fr))])))) H locs := G
    rcases hp_3 with ⟨rfl, hw_3⟩ | ⟨rfl, hw_3⟩
    · refine lv_if_ne (tgt := 27) zx zb dX10_races_17 (by decide) (fun c_4 => ?_) (fun c_4 => absurd c_4 (by decide))
      obtain ⟨z0, hz0, rfl⟩ := k_seed hw_1
      refine lv_aload_n zx zb dX10_races_27 rfl (lv_at hl 0 rfl) ?_
      refine r_get (C := RX10) (T := TX10) (N := 14) (ci := 8) (v := .ref sp) S in_X10_races_X10 G 0 rfl rfl 1 (by decide) lk_X10_races_16 rfl dX10_races_28 ?_
      refine lv_aload_n zx zb dX10_races_31 rfl (lv_at hl 0 rfl) ?_
      refine r_get (C := RX10) (T := TX10) (N := 14) (ci := 8) (v := .ref nw) S in_X10_races_X10 G 0 rfl rfl 0 (by decide) lk_X10_races_10 rfl dX10_races_32 ?_
      refine b_wv (cells' := 0) (slots' := 0) (wr := @HAppend.hAppend va_W va_W va_W _ (xW h0 nw sp xa la lb) ([((xa 5), .inl (X.2.1, 3, .inl fr))])) G rfl rfl [17, 18, 19, 20, 21, 22, 23, 24, 25, 26, 27, 28, 29, 30, 31, 32, 1, 2, 3, 4, 5, 6, 7, 8, 9, 10, 11, 12, 13, 14, 15, 16] [0, 33] rfl rfl rfl rfl (n_V (As := [.ref nw]) (rest := []) (C := RX5) (T := TX5) (N := 8) (ci := 3) S G (s_copyLine l X sp ap vp bp gp nw an v b g hI_bp hI_b H.size) gX10_races_X5_copyLine rfl rfl rfl hdV_X5_copyLine ⟨Nat.le_of_ble_eq_true rfl, Nat.le_of_ble_eq_true rfl⟩ [17, 18, 19, 20, 21, 22, 23, 24, 25, 26, 27, 28, 29, 30, 31, 32, 1, 2, 3, 4, 5, 6, 7, 8, 9, 10, 11, 12, 13, 14, 15, 16] rfl rfl 17 rfl rfl rfl hl.1 (Nat.le_of_ble_eq_true rfl) dX10_races_35 ⟨Nat.le_of_ble_eq_true rfl, Nat.le_of_ble_eq_true rfl⟩) (fun u_5 H locs hp_5 G => ?_)
      obtain ⟨v_5a, b_5b, g_5c⟩ := u_5
      obtain ⟨hI_b_5b, hq_5⟩ := hp_5
      have hO_b_5b := hI_b_5b
      obtain ⟨hb0_b_5b, hb1_b_5b, hb2_b_5b, hb3_b_5b, hb4_b_5b⟩ := hO_b_5b
      have G : wd X (va_A (@HAppend.hAppend va_W va_W va_W _ (xW h0 nw sp xa la lb) (@HAppend.hAppend va_W va_W va_W _ (rcW X nw an v b g) (@HAppend.hAppend va_W va_W va_W _ (rcW X sp ap vp bp gp) ([((xa 5), .inl (X.2.1, 3, .inl fr))])))) sz) (va_A (@HAppend.hAppend va_W va_W va_W _ (xW h0 nw sp xa la lb) (@HAppend.hAppend va_W va_W va_W _ (rcW X nw an v b g) (@HAppend.hAppend va_W va_W va_W _ (rcW X sp ap vp bp gp) ([((xa 5), .inl (X.2.1, 3, .inl fr))])))) sz) s (@HAppend.hAppend va_W va_W va_W _ (xW h0 nw sp xa la lb) (@HAppend.hAppend va_W va_W va_W _ ([((xa 5), .inl (X.2.1, 3, .inl fr))]) (@HAppend.hAppend va_W va_W va_W _ (rcW X sp ap v_5a b_5b g_5c) (rcW X nw an v b g)))) H locs := G
      refine lv_iload_n zx zb dX10_races_38 rfl (lv_at hl 1 rfl) ?_
      refine lv_i2l (v := (Int32.toInt64 (nI z0))) zx zb dX10_races_39 rfl ?_
      refine k_ld (nI_l (by omega)) ?_
      refine lv_lstore_n (lv' := [(3, .long (lN z0)), (0, .ref h0), (1, .int (nI z0)), (2, .int x2)]) zx zb dX10_races_40 rfl hl (by decide) rfl (fun ls hl => ?_)
      refine lv_iconst (v := 0) zx zb dX10_races_41 (by decide) ?_
      refine lv_istore (lv' := [(5, .int 0), (3, .long (lN z0)), (0, .ref h0), (1, .int (nI z0)), (2, .int x2)]) zx zb dX10_races_42 hl (by decide) rfl (fun ls hl => ?_)
      refine k_loop (P := ∀ (zm : Nat) (k44 : Nat) (x44_3 : Int64) (v44_2 : Nat → Int32) (b44_2 : Nat → Nat) (g44_2 : Nat → Nat → Int32) (H : Heap) (locs : List Loc) (ls : Array Slot), 61 + 1 ≤ k44 + zm → InR b44_2 → (k44 ≤ 61) → (∃ q : Nat, q < 2147483648 ∧ x44_3 = lN q) → wd X (va_A (@HAppend.hAppend va_W va_W va_W _ (xW h0 nw sp xa la lb) (@HAppend.hAppend va_W va_W va_W _ (rcW X nw an v b g) (@HAppend.hAppend va_W va_W va_W _ (rcW X sp ap vp bp gp) ([((xa 5), .inl (X.2.1, 3, .inl fr))])))) sz) (va_A (@HAppend.hAppend va_W va_W va_W _ (xW h0 nw sp xa la lb) (@HAppend.hAppend va_W va_W va_W _ (rcW X nw an v b g) (@HAppend.hAppend va_W va_W va_W _ (rcW X sp ap vp bp gp) ([((xa 5), .inl (X.2.1, 3, .inl fr))])))) sz) s (@HAppend.hAppend va_W va_W va_W _ (xW h0 nw sp xa la lb) (@HAppend.hAppend va_W va_W va_W _ ([((xa 5), .inl (X.2.1, 3, .inl fr))]) (@HAppend.hAppend va_W va_W va_W _ (rcW X sp ap v44_2 b44_2 g44_2) (rcW X nw an v b g)))) H locs → lv_has ls 7 [(5, .int (nI k44)), (3, .long x44_3), (0, .ref h0), (1, .int (nI z0)), (2, .int x2)] → W p l e _ s m _ below meth c H locs _ _ _ (F0 m 44 ls [])) (fun loop => loop (61 + 1) 0 (lN z0) v_5a b_5b g_5c _ _ _ (by omega) hI_b_5b (by omega) (by first | assumption | exact ⟨_, hz0, rfl⟩ | exact ⟨_, hz1, rfl⟩) G hl) ?_
      intro zm
      induction zm with
      | zero => intro k44 x44_3 v44_2 b44_2 g44_2 H locs ls zz q_hI_b44_2 q_hk_k44 q_hk_x44_3 _ _; exact absurd zz (by omega)
      | succ zm ih44 =>
        intro k44 x44_3 v44_2 b44_2 g44_2 H locs ls zm_44 hI_b44_2 hk_k44 hk_x44_3 G hl
        have hO_b44_2 := hI_b44_2
        obtain ⟨hb0_b44_2, hb1_b44_2, hb2_b44_2, hb3_b44_2, hb4_b44_2⟩ := hO_b44_2
        refine lv_iload zx zb dX10_races_44 (lv_at hl 0 rfl) ?_
        refine lv_iload_n zx zb dX10_races_46 rfl (lv_at hl 4 rfl) ?_
        refine lv_icmp_ge (tgt := 124) zx zb dX10_races_47 (by decide) (fun c_6 => ?_) (fun c_6 => ?_)
        · refine lv_aload_n zx zb dX10_races_124 rfl (lv_at hl 2 rfl) ?_
          refine r_get (C := RX10) (T := TX10) (N := 14) (ci := 8) (v := .ref sp) S in_X10_races_X10 G 0 rfl rfl 1 (by decide) lk_X10_races_16 rfl dX10_races_125 ?_
          refine o_ri (cells' := 0) (slots' := 0) G rfl rfl (n_V (As := []) (rest := []) (C := RX5) (T := TX5) (N := 8) (ci := 3) S G (s_homes l X sp ap v44_2 b44_2 g44_2 hI_b44_2 H.size) gX10_races_X5_homes rfl rfl rfl hdV_X5_homes ⟨Nat.le_of_ble_eq_true rfl, Nat.le_of_ble_eq_true rfl⟩ [2, 3, 4, 5, 6, 7, 8, 9, 10, 11, 12, 13, 14, 15, 16, 17] rfl rfl 2 rfl rfl rfl hl.1 (Nat.le_of_ble_eq_true rfl) dX10_races_128 ⟨Nat.le_of_ble_eq_true rfl, Nat.le_of_ble_eq_true rfl⟩) (fun r_7 u_7 H locs hp_7 G => ?_)
          have G : wd X (va_A (@HAppend.hAppend va_W va_W va_W _ (xW h0 nw sp xa la lb) (@HAppend.hAppend va_W va_W va_W _ (rcW X nw an v b g) (@HAppend.hAppend va_W va_W va_W _ (rcW X sp ap vp bp gp) ([((xa 5), .inl (X.2.1, 3, .inl fr))])))) sz) (va_A (@HAppend.hAppend va_W va_W va_W _ (xW h0 nw sp xa la lb) (@HAppend.hAppend va_W va_W va_W _ (rcW X nw an v b g) (@HAppend.hAppend va_W va_W va_W _ (rcW X sp ap vp bp gp) ([((xa 5), .inl (X.2.1, 3, .inl fr))])))) sz) s (@HAppend.hAppend va_W va_W va_W _ (xW h0 nw sp xa la lb) (@HAppend.hAppend va_W va_W va_W _ ([((xa 5), .inl (X.2.1, 3, .inl fr))]) (@HAppend.hAppend va_W va_W va_W _ (rcW X sp ap v44_2 b44_2 g44_2) (rcW X nw an v b g)))) H locs := G
          exact e_int S zr zlk (vp_nar_int _) G (v44_2, b44_2, g44_2, fr) [0, 18, 19, 20, 21, 22, 23, 24, 25, 26, 27, 28, 29, 30, 31, 32, 33, 2, 3, 4, 5, 6, 7, 8, 9, 10, 11, 12, 13, 14, 15, 16, 17, 1] rfl rfl (Or.inr rfl) (⟨hI_b44_2, trivial⟩) dX10_races_131
        · have fk_c_6 := k_lt60 (Int32.not_le.mp c_6) hw_3.2 (by omega)
          obtain ⟨z, zz, rfl⟩ := hk_x44_3
          refine lv_lload_n zx zb dX10_races_50 rfl (lv_at hl 1 rfl) ?_
          refine lv_ldc2 zx zb S.2.2.2.1 (S.2.2.2.2 _ mm_X10_races_c260) dX10_races_51 ?_
          refine k_ld (v := (Int32.toInt64 1103515245)) (by decide) ?_
          refine r_lmul (v := ((lN z) * (Int32.toInt64 1103515245))) S rfl dX10_races_54 ?_
          refine lv_ldc2 zx zb S.2.2.2.1 (S.2.2.2.2 _ mm_X10_races_c262) dX10_races_55 ?_
          refine k_ld (v := (Int32.toInt64 12345)) (by decide) ?_
          refine r_ladd (v := (((lN z) * (Int32.toInt64 1103515245)) + (Int32.toInt64 12345))) S rfl dX10_races_58 ?_
          refine lv_ldc2 zx zb S.2.2.2.1 (S.2.2.2.2 _ mm_X10_races_c264) dX10_races_59 ?_
          refine lv_lrem zx zb dX10_races_62 (by decide) ?_
          obtain ⟨z1, hz1, ez1⟩ := k_rx zz
          refine k_ld ez1 ?_
          refine lv_lstore_n (lv' := [(3, .long (lN z1)), (5, .int (nI k44)), (0, .ref h0), (1, .int (nI z0)), (2, .int x2)]) zx zb dX10_races_63 rfl hl (by decide) rfl (fun ls hl => ?_)
          refine lv_lload_n zx zb dX10_races_64 rfl (lv_at hl 0 rfl) ?_
          refine lv_ldc2 zx zb S.2.2.2.1 (S.2.2.2.2 _ mm_X10_races_c266) dX10_races_65 ?_
          refine k_ld (v := (Int32.toInt64 65536)) (by decide) ?_
          refine lv_ldiv zx zb dX10_races_68 (by decide) ?_
          refine lv_ldc2 zx zb S.2.2.2.1 (S.2.2.2.2 _ mm_X10_races_c268) dX10_races_69 ?_
          refine k_ld (v := (Int32.toInt64 6)) (by decide) ?_
          refine lv_lrem zx zb dX10_races_72 (by decide) ?_
          refine lv_l2i (v := (Int64.toInt32 (((lN z1) / (Int32.toInt64 65536)) - ((lN z1) / (Int32.toInt64 65536)) / (Int32.toInt64 6) * (Int32.toInt64 6)))) zx zb dX10_races_73 rfl ?_
          obtain ⟨j, hj, ej⟩ := k_ri hz1
          refine k_it ej ?_
          refine lv_istore (lv' := [(6, .int (nI j)), (3, .long (lN z1)), (5, .int (nI k44)), (0, .ref h0), (1, .int (nI z0)), (2, .int x2)]) zx zb dX10_races_74 hl (by decide) rfl (fun ls hl => ?_)
          refine lv_iload zx zb dX10_races_76 (lv_at hl 0 rfl) ?_
          refine lv_aload_n zx zb dX10_races_78 rfl (lv_at hl 3 rfl) ?_
          refine r_get (C := RX10) (T := TX10) (N := 14) (ci := 8) (v := .ref sp) S in_X10_races_X10 G 0 rfl rfl 1 (by decide) lk_X10_races_16 rfl dX10_races_79 ?_
          refine r_get (C := RX5) (T := TX5) (N := 8) (ci := 3) (v := .int (nI (b44_2 0))) S in_X10_races_X5 G 2 rfl rfl 2 (by decide) lk_X10_races_87 rfl dX10_races_82 ?_
          refine k_cutW (PP := fun Wx => ∀ (v_9 : Nat → Int32) (H : Heap) (locs : List Loc) (ls : Array Slot), wd X (va_A (@HAppend.hAppend va_W va_W va_W _ (xW h0 nw sp xa la lb) (@HAppend.hAppend va_W va_W va_W _ (rcW X nw an v b g) (@HAppend.hAppend va_W va_W va_W _ (rcW X sp ap vp bp gp) ([((xa 5), .inl (X.2.1, 3, .inl fr))])))) sz) (va_A (@HAppend.hAppend va_W va_W va_W _ (xW h0 nw sp xa la lb) (@HAppend.hAppend va_W va_W va_W _ (rcW X nw an v b g) (@HAppend.hAppend va_W va_W va_W _ (rcW X sp ap vp bp gp) ([((xa 5), .inl (X.2.1, 3, .inl fr))])))) sz) s (@HAppend.hAppend va_W va_W va_W _ (xW h0 nw sp xa la lb) (@HAppend.hAppend va_W va_W va_W _ ([((xa 5), .inl (X.2.1, 3, .inl fr))]) (@HAppend.hAppend va_W va_W va_W _ (rcW X sp ap v_9 b44_2 g44_2) (rcW X nw an v b g)))) H locs → lv_has ls 7 [(6, .int (nI j)), (3, .long (lN z1)), (5, .int (nI k44)), (0, .ref h0), (1, .int (nI z0)), (2, .int x2)] → Wx (F0 m 111 ls []) H locs) ?_ ?_
          · intro join_85
            refine lv_icmp_ge (tgt := 111) zx zb dX10_races_85 (by decide) (fun c_8 => ?_) (fun c_8 => ?_)
            · have fc_8 := j_le (a := (b44_2 0)) (b := j) (by omega) (by omega) c_8
              exact join_85 v44_2 _ _ _  G hl
            · have fc_8 := j_nle (a := (b44_2 0)) (b := j) (by omega) (by omega) c_8
              refine lv_aload_n zx zb dX10_races_88 rfl (lv_at hl 3 rfl) ?_
              refine r_get (C := RX10) (T := TX10) (N := 14) (ci := 8) (v := .ref sp) S in_X10_races_X10 G 0 rfl rfl 1 (by decide) lk_X10_races_16 rfl dX10_races_89 ?_
              refine r_get (C := RX5) (T := TX5) (N := 8) (ci := 3) (v := .ref (ap 0)) S in_X10_races_X5 G 2 rfl rfl 3 (by decide) lk_X10_races_126 rfl dX10_races_92 ?_
              refine lv_iload zx zb dX10_races_95 (lv_at hl 0 rfl) ?_
              rcases k_6c (show j < 6 by omega) with rfl | rfl | rfl | rfl | rfl | rfl
              · refine k_it (v := 0) rfl ?_
                refine r_aald (C := RX8) (b := (ap 1)) S G 3 3 rfl rfl (k_vp (by decide)) rfl dX10_races_97 ?_
                refine lv_lload_n zx zb dX10_races_98 rfl (lv_at hl 1 rfl) ?_
                refine lv_ldc2 zx zb S.2.2.2.1 (S.2.2.2.2 _ mm_X10_races_c270) dX10_races_99 ?_
                refine k_ld (v := (Int32.toInt64 1048576)) (by decide) ?_
                refine lv_ldiv zx zb dX10_races_102 (by decide) ?_
                refine k_ldE (fun y_10 => ?_)
                refine lv_ldc2 zx zb S.2.2.2.1 (S.2.2.2.2 _ mm_X10_races_c272) dX10_races_103 ?_
                refine k_ld (v := (Int32.toInt64 10)) (by decide) ?_
                refine lv_lrem zx zb dX10_races_106 (by decide) ?_
                refine k_ldE (fun y_11 => ?_)
                refine lv_l2i (v := (Int64.toInt32 y_11)) zx zb dX10_races_107 rfl ?_
                refine r_put (C := RX8) (T := TX8) (N := 8) (ci := 6) (v := .int (Int64.toInt32 y_11)) S in_X10_races_X8 tyX8_ok nmX8 G 4 rfl rfl 3 (by decide) lk_X10_races_130 rfl (vp_nar_int _) rfl (Nat.le_of_ble_eq_true rfl) dX10_races_108 (fun H locs G => ?_)
                obtain ⟨v_12, G⟩ : ∃ v_12 : Nat → Int32, wd X (va_A (@HAppend.hAppend va_W va_W va_W _ (xW h0 nw sp xa la lb) (@HAppend.hAppend va_W va_W va_W _ (rcW X nw an v b g) (@HAppend.hAppend va_W va_W va_W _ (rcW X sp ap vp bp gp) ([((xa 5), .inl (X.2.1, 3, .inl fr))])))) sz) (va_A (@HAppend.hAppend va_W va_W va_W _ (xW h0 nw sp xa la lb) (@HAppend.hAppend va_W va_W va_W _ (rcW X nw an v b g) (@HAppend.hAppend va_W va_W va_W _ (rcW X sp ap vp bp gp) ([((xa 5), .inl (X.2.1, 3, .inl fr))])))) sz) s (@HAppend.hAppend va_W va_W va_W _ (xW h0 nw sp xa la lb) (@HAppend.hAppend va_W va_W va_W _ ([((xa 5), .inl (X.2.1, 3, .inl fr))]) (@HAppend.hAppend va_W va_W va_W _ (rcW X sp ap v_12 b44_2 g44_2) (rcW X nw an v b g)))) H locs := ⟨upd v44_2 13 (Int64.toInt32 y_11), G⟩
                exact join_85 v_12 _ _ _  G hl
              · refine k_it (v := 1) rfl ?_
                refine r_aald (C := RX8) (b := (ap 2)) S G 3 3 rfl rfl (k_vp (by decide)) rfl dX10_races_97 ?_
                refine lv_lload_n zx zb dX10_races_98 rfl (lv_at hl 1 rfl) ?_
                refine lv_ldc2 zx zb S.2.2.2.1 (S.2.2.2.2 _ mm_X10_races_c270) dX10_races_99 ?_
                refine k_ld (v := (Int32.toInt64 1048576)) (by decide) ?_
                refine lv_ldiv zx zb dX10_races_102 (by decide) ?_
                refine k_ldE (fun y_13 => ?_)
                refine lv_ldc2 zx zb S.2.2.2.1 (S.2.2.2.2 _ mm_X10_races_c272) dX10_races_103 ?_
                refine k_ld (v := (Int32.toInt64 10)) (by decide) ?_
                refine lv_lrem zx zb dX10_races_106 (by decide) ?_
                refine k_ldE (fun y_14 => ?_)
                refine lv_l2i (v := (Int64.toInt32 y_14)) zx zb dX10_races_107 rfl ?_
                refine r_put (C := RX8) (T := TX8) (N := 8) (ci := 6) (v := .int (Int64.toInt32 y_14)) S in_X10_races_X8 tyX8_ok nmX8 G 5 rfl rfl 3 (by decide) lk_X10_races_130 rfl (vp_nar_int _) rfl (Nat.le_of_ble_eq_true rfl) dX10_races_108 (fun H locs G => ?_)
                obtain ⟨v_15, G⟩ : ∃ v_15 : Nat → Int32, wd X (va_A (@HAppend.hAppend va_W va_W va_W _ (xW h0 nw sp xa la lb) (@HAppend.hAppend va_W va_W va_W _ (rcW X nw an v b g) (@HAppend.hAppend va_W va_W va_W _ (rcW X sp ap vp bp gp) ([((xa 5), .inl (X.2.1, 3, .inl fr))])))) sz) (va_A (@HAppend.hAppend va_W va_W va_W _ (xW h0 nw sp xa la lb) (@HAppend.hAppend va_W va_W va_W _ (rcW X nw an v b g) (@HAppend.hAppend va_W va_W va_W _ (rcW X sp ap vp bp gp) ([((xa 5), .inl (X.2.1, 3, .inl fr))])))) sz) s (@HAppend.hAppend va_W va_W va_W _ (xW h0 nw sp xa la lb) (@HAppend.hAppend va_W va_W va_W _ ([((xa 5), .inl (X.2.1, 3, .inl fr))]) (@HAppend.hAppend va_W va_W va_W _ (rcW X sp ap v_15 b44_2 g44_2) (rcW X nw an v b g)))) H locs := ⟨upd v44_2 21 (Int64.toInt32 y_14), G⟩
                exact join_85 v_15 _ _ _  G hl
              · refine k_it (v := 2) rfl ?_
                refine r_aald (C := RX8) (b := (ap 3)) S G 3 3 rfl rfl (k_vp (by decide)) rfl dX10_races_97 ?_
                refine lv_lload_n zx zb dX10_races_98 rfl (lv_at hl 1 rfl) ?_
                refine lv_ldc2 zx zb S.2.2.2.1 (S.2.2.2.2 _ mm_X10_races_c270) dX10_races_99 ?_
                refine k_ld (v := (Int32.toInt64 1048576)) (by decide) ?_
                refine lv_ldiv zx zb dX10_races_102 (by decide) ?_
                refine k_ldE (fun y_16 => ?_)
                refine lv_ldc2 zx zb S.2.2.2.1 (S.2.2.2.2 _ mm_X10_races_c272) dX10_races_103 ?_
                refine k_ld (v := (Int32.toInt64 10)) (by decide) ?_
                refine lv_lrem zx zb dX10_races_106 (by decide) ?_
                refine k_ldE (fun y_17 => ?_)
                refine lv_l2i (v := (Int64.toInt32 y_17)) zx zb dX10_races_107 rfl ?_
                refine r_put (C := RX8) (T := TX8) (N := 8) (ci := 6) (v := .int (Int64.toInt32 y_17)) S in_X10_races_X8 tyX8_ok nmX8 G 6 rfl rfl 3 (by decide) lk_X10_races_130 rfl (vp_nar_int _) rfl (Nat.le_of_ble_eq_true rfl) dX10_races_108 (fun H locs G => ?_)
                obtain ⟨v_18, G⟩ : ∃ v_18 : Nat → Int32, wd X (va_A (@HAppend.hAppend va_W va_W va_W _ (xW h0 nw sp xa la lb) (@HAppend.hAppend va_W va_W va_W _ (rcW X nw an v b g) (@HAppend.hAppend va_W va_W va_W _ (rcW X sp ap vp bp gp) ([((xa 5), .inl (X.2.1, 3, .inl fr))])))) sz) (va_A (@HAppend.hAppend va_W va_W va_W _ (xW h0 nw sp xa la lb) (@HAppend.hAppend va_W va_W va_W _ (rcW X nw an v b g) (@HAppend.hAppend va_W va_W va_W _ (rcW X sp ap vp bp gp) ([((xa 5), .inl (X.2.1, 3, .inl fr))])))) sz) s (@HAppend.hAppend va_W va_W va_W _ (xW h0 nw sp xa la lb) (@HAppend.hAppend va_W va_W va_W _ ([((xa 5), .inl (X.2.1, 3, .inl fr))]) (@HAppend.hAppend va_W va_W va_W _ (rcW X sp ap v_18 b44_2 g44_2) (rcW X nw an v b g)))) H locs := ⟨upd v44_2 29 (Int64.toInt32 y_17), G⟩
                exact join_85 v_18 _ _ _  G hl
              · refine k_it (v := 3) rfl ?_
                refine r_aald (C := RX8) (b := (ap 4)) S G 3 3 rfl rfl (k_vp (by decide)) rfl dX10_races_97 ?_
                refine lv_lload_n zx zb dX10_races_98 rfl (lv_at hl 1 rfl) ?_
                refine lv_ldc2 zx zb S.2.2.2.1 (S.2.2.2.2 _ mm_X10_races_c270) dX10_races_99 ?_
                refine k_ld (v := (Int32.toInt64 1048576)) (by decide) ?_
                refine lv_ldiv zx zb dX10_races_102 (by decide) ?_
                refine k_ldE (fun y_19 => ?_)
                refine lv_ldc2 zx zb S.2.2.2.1 (S.2.2.2.2 _ mm_X10_races_c272) dX10_races_103 ?_
                refine k_ld (v := (Int32.toInt64 10)) (by decide) ?_
                refine lv_lrem zx zb dX10_races_106 (by decide) ?_
                refine k_ldE (fun y_20 => ?_)
                refine lv_l2i (v := (Int64.toInt32 y_20)) zx zb dX10_races_107 rfl ?_
                refine r_put (C := RX8) (T := TX8) (N := 8) (ci := 6) (v := .int (Int64.toInt32 y_20)) S in_X10_races_X8 tyX8_ok nmX8 G 7 rfl rfl 3 (by decide) lk_X10_races_130 rfl (vp_nar_int _) rfl (Nat.le_of_ble_eq_true rfl) dX10_races_108 (fun H locs G => ?_)
                obtain ⟨v_21, G⟩ : ∃ v_21 : Nat → Int32, wd X (va_A (@HAppend.hAppend va_W va_W va_W _ (xW h0 nw sp xa la lb) (@HAppend.hAppend va_W va_W va_W _ (rcW X nw an v b g) (@HAppend.hAppend va_W va_W va_W _ (rcW X sp ap vp bp gp) ([((xa 5), .inl (X.2.1, 3, .inl fr))])))) sz) (va_A (@HAppend.hAppend va_W va_W va_W _ (xW h0 nw sp xa la lb) (@HAppend.hAppend va_W va_W va_W _ (rcW X nw an v b g) (@HAppend.hAppend va_W va_W va_W _ (rcW X sp ap vp bp gp) ([((xa 5), .inl (X.2.1, 3, .inl fr))])))) sz) s (@HAppend.hAppend va_W va_W va_W _ (xW h0 nw sp xa la lb) (@HAppend.hAppend va_W va_W va_W _ ([((xa 5), .inl (X.2.1, 3, .inl fr))]) (@HAppend.hAppend va_W va_W va_W _ (rcW X sp ap v_21 b44_2 g44_2) (rcW X nw an v b g)))) H locs := ⟨upd v44_2 37 (Int64.toInt32 y_20), G⟩
                exact join_85 v_21 _ _ _  G hl
              · refine k_it (v := 4) rfl ?_
                refine r_aald (C := RX8) (b := (ap 5)) S G 3 3 rfl rfl (k_vp (by decide)) rfl dX10_races_97 ?_
                refine lv_lload_n zx zb dX10_races_98 rfl (lv_at hl 1 rfl) ?_
                refine lv_ldc2 zx zb S.2.2.2.1 (S.2.2.2.2 _ mm_X10_races_c270) dX10_races_99 ?_
                refine k_ld (v := (Int32.toInt64 1048576)) (by decide) ?_
                refine lv_ldiv zx zb dX10_races_102 (by decide) ?_
                refine k_ldE (fun y_22 => ?_)
                refine lv_ldc2 zx zb S.2.2.2.1 (S.2.2.2.2 _ mm_X10_races_c272) dX10_races_103 ?_
                refine k_ld (v := (Int32.toInt64 10)) (by decide) ?_
                refine lv_lrem zx zb dX10_races_106 (by decide) ?_
                refine k_ldE (fun y_23 => ?_)
                refine lv_l2i (v := (Int64.toInt32 y_23)) zx zb dX10_races_107 rfl ?_
                refine r_put (C := RX8) (T := TX8) (N := 8) (ci := 6) (v := .int (Int64.toInt32 y_23)) S in_X10_races_X8 tyX8_ok nmX8 G 8 rfl rfl 3 (by decide) lk_X10_races_130 rfl (vp_nar_int _) rfl (Nat.le_of_ble_eq_true rfl) dX10_races_108 (fun H locs G => ?_)
                obtain ⟨v_24, G⟩ : ∃ v_24 : Nat → Int32, wd X (va_A (@HAppend.hAppend va_W va_W va_W _ (xW h0 nw sp xa la lb) (@HAppend.hAppend va_W va_W va_W _ (rcW X nw an v b g) (@HAppend.hAppend va_W va_W va_W _ (rcW X sp ap vp bp gp) ([((xa 5), .inl (X.2.1, 3, .inl fr))])))) sz) (va_A (@HAppend.hAppend va_W va_W va_W _ (xW h0 nw sp xa la lb) (@HAppend.hAppend va_W va_W va_W _ (rcW X nw an v b g) (@HAppend.hAppend va_W va_W va_W _ (rcW X sp ap vp bp gp) ([((xa 5), .inl (X.2.1, 3, .inl fr))])))) sz) s (@HAppend.hAppend va_W va_W va_W _ (xW h0 nw sp xa la lb) (@HAppend.hAppend va_W va_W va_W _ ([((xa 5), .inl (X.2.1, 3, .inl fr))]) (@HAppend.hAppend va_W va_W va_W _ (rcW X sp ap v_24 b44_2 g44_2) (rcW X nw an v b g)))) H locs := ⟨upd v44_2 45 (Int64.toInt32 y_23), G⟩
                exact join_85 v_24 _ _ _  G hl
              · refine k_it (v := 5) rfl ?_
                refine r_aald (C := RX8) (b := (ap 6)) S G 3 3 rfl rfl (k_vp (by decide)) rfl dX10_races_97 ?_
                refine lv_lload_n zx zb dX10_races_98 rfl (lv_at hl 1 rfl) ?_
                refine lv_ldc2 zx zb S.2.2.2.1 (S.2.2.2.2 _ mm_X10_races_c270) dX10_races_99 ?_
                refine k_ld (v := (Int32.toInt64 1048576)) (by decide) ?_
                refine lv_ldiv zx zb dX10_races_102 (by decide) ?_
                refine k_ldE (fun y_25 => ?_)
                refine lv_ldc2 zx zb S.2.2.2.1 (S.2.2.2.2 _ mm_X10_races_c272) dX10_races_103 ?_
                refine k_ld (v := (Int32.toInt64 10)) (by decide) ?_
                refine lv_lrem zx zb dX10_races_106 (by decide) ?_
                refine k_ldE (fun y_26 => ?_)
                refine lv_l2i (v := (Int64.toInt32 y_26)) zx zb dX10_races_107 rfl ?_
                refine r_put (C := RX8) (T := TX8) (N := 8) (ci := 6) (v := .int (Int64.toInt32 y_26)) S in_X10_races_X8 tyX8_ok nmX8 G 9 rfl rfl 3 (by decide) lk_X10_races_130 rfl (vp_nar_int _) rfl (Nat.le_of_ble_eq_true rfl) dX10_races_108 (fun H locs G => ?_)
                obtain ⟨v_27, G⟩ : ∃ v_27 : Nat → Int32, wd X (va_A (@HAppend.hAppend va_W va_W va_W _ (xW h0 nw sp xa la lb) (@HAppend.hAppend va_W va_W va_W _ (rcW X nw an v b g) (@HAppend.hAppend va_W va_W va_W _ (rcW X sp ap vp bp gp) ([((xa 5), .inl (X.2.1, 3, .inl fr))])))) sz) (va_A (@HAppend.hAppend va_W va_W va_W _ (xW h0 nw sp xa la lb) (@HAppend.hAppend va_W va_W va_W _ (rcW X nw an v b g) (@HAppend.hAppend va_W va_W va_W _ (rcW X sp ap vp bp gp) ([((xa 5), .inl (X.2.1, 3, .inl fr))])))) sz) s (@HAppend.hAppend va_W va_W va_W _ (xW h0 nw sp xa la lb) (@HAppend.hAppend va_W va_W va_W _ ([((xa 5), .inl (X.2.1, 3, .inl fr))]) (@HAppend.hAppend va_W va_W va_W _ (rcW X sp ap v_27 b44_2 g44_2) (rcW X nw an v b g)))) H locs := ⟨upd v44_2 53 (Int64.toInt32 y_26), G⟩
                exact join_85 v_27 _ _ _  G hl
          · intro v_9 H locs ls  G hl
            refine lv_aload_n zx zb dX10_races_111 rfl (lv_at hl 3 rfl) ?_
            refine r_get (C := RX10) (T := TX10) (N := 14) (ci := 8) (v := .ref sp) S in_X10_races_X10 G 0 rfl rfl 1 (by decide) lk_X10_races_16 rfl dX10_races_112 ?_
            refine b_wv (cells' := 0) (slots' := 0) (wr := @HAppend.hAppend va_W va_W va_W _ (xW h0 nw sp xa la lb) (@HAppend.hAppend va_W va_W va_W _ ([((xa 5), .inl (X.2.1, 3, .inl fr))]) (rcW X nw an v b g))) G rfl rfl [2, 3, 4, 5, 6, 7, 8, 9, 10, 11, 12, 13, 14, 15, 16, 17] [0, 1, 18, 19, 20, 21, 22, 23, 24, 25, 26, 27, 28, 29, 30, 31, 32, 33] rfl rfl rfl rfl (n_V (As := []) (rest := []) (C := RX5) (T := TX5) (N := 8) (ci := 3) S G (s_goOn l X sp ap v_9 b44_2 g44_2 hI_b44_2 H.size) gX10_races_X5_goOn rfl rfl rfl hdV_X5_goOn ⟨Nat.le_of_ble_eq_true rfl, Nat.le_of_ble_eq_true rfl⟩ [2, 3, 4, 5, 6, 7, 8, 9, 10, 11, 12, 13, 14, 15, 16, 17] rfl rfl 2 rfl rfl rfl hl.1 (Nat.le_of_ble_eq_true rfl) dX10_races_115 ⟨Nat.le_of_ble_eq_true rfl, Nat.le_of_ble_eq_true rfl⟩) (fun u_28 H locs hp_28 G => ?_)
            obtain ⟨v_28a, b_28b, g_28c⟩ := u_28
            obtain ⟨hI_b_28b, hq_28⟩ := hp_28
            have hO_b_28b := hI_b_28b
            obtain ⟨hb0_b_28b, hb1_b_28b, hb2_b_28b, hb3_b_28b, hb4_b_28b⟩ := hO_b_28b
            have G : wd X (va_A (@HAppend.hAppend va_W va_W va_W _ (xW h0 nw sp xa la lb) (@HAppend.hAppend va_W va_W va_W _ (rcW X nw an v b g) (@HAppend.hAppend va_W va_W va_W _ (rcW X sp ap vp bp gp) ([((xa 5), .inl (X.2.1, 3, .inl fr))])))) sz) (va_A (@HAppend.hAppend va_W va_W va_W _ (xW h0 nw sp xa la lb) (@HAppend.hAppend va_W va_W va_W _ (rcW X nw an v b g) (@HAppend.hAppend va_W va_W va_W _ (rcW X sp ap vp bp gp) ([((xa 5), .inl (X.2.1, 3, .inl fr))])))) sz) s (@HAppend.hAppend va_W va_W va_W _ (xW h0 nw sp xa la lb) (@HAppend.hAppend va_W va_W va_W _ ([((xa 5), .inl (X.2.1, 3, .inl fr))]) (@HAppend.hAppend va_W va_W va_W _ (rcW X nw an v b g) (rcW X sp ap v_28a b_28b g_28c)))) H locs := G
            refine lv_iinc (v := (nI (k44 + 1))) (lv' := [(5, .int (nI (k44 + 1))), (6, .int (nI j)), (3, .long (lN z1)), (0, .ref h0), (1, .int (nI z0)), (2, .int x2)]) zx zb dX10_races_118 hl (k := 2) rfl (nI_add k44 1) (by decide) rfl (fun ls hl => ?_)
            refine lv_goto (tgt := 44) zx zb dX10_races_121 (by decide) ?_
            have G : wd X (va_A (@HAppend.hAppend va_W va_W va_W _ (xW h0 nw sp xa la lb) (@HAppend.hAppend va_W va_W va_W _ (rcW X nw an v b g) (@HAppend.hAppend va_W va_W va_W _ (rcW X sp ap vp bp gp) ([((xa 5), .inl (X.2.1, 3, .inl fr))])))) sz) (va_A (@HAppend.hAppend va_W va_W va_W _ (xW h0 nw sp xa la lb) (@HAppend.hAppend va_W va_W va_W _ (rcW X nw an v b g) (@HAppend.hAppend va_W va_W va_W _ (rcW X sp ap vp bp gp) ([((xa 5), .inl (X.2.1, 3, .inl fr))])))) sz) s (@HAppend.hAppend va_W va_W va_W _ (xW h0 nw sp xa la lb) (@HAppend.hAppend va_W va_W va_W _ ([((xa 5), .inl (X.2.1, 3, .inl fr))]) (@HAppend.hAppend va_W va_W va_W _ (rcW X sp ap v_28a b_28b g_28c) (rcW X nw an v b g)))) H locs := wd_sub G [0, 1, 18, 19, 20, 21, 22, 23, 24, 25, 26, 27, 28, 29, 30, 31, 32, 33, 2, 3, 4, 5, 6, 7, 8, 9, 10, 11, 12, 13, 14, 15, 16, 17] rfl rfl
            have hl := lv_sub hl (l' := [(5, .int (nI (k44 + 1))), (3, .long (lN z1)), (0, .ref h0), (1, .int (nI z0)), (2, .int x2)]) [0, 2, 3, 4, 5] rfl
            exact ih44 (k44 + 1) (lN z1) v_28a b_28b g_28c _ _ _ (by omega) hI_b_28b (by omega) (by first | assumption | exact ⟨_, hz0, rfl⟩ | exact ⟨_, hz1, rfl⟩) G hl
    · refine lv_if_ne (tgt := 27) zx zb dX10_races_17 (by decide) (fun c_29 => absurd (by decide) c_29) (fun c_29 => ?_)
      refine lv_aload_n zx zb dX10_races_20 rfl (lv_at hl 0 rfl) ?_
      refine lv_bipush (v := (-2)) zx zb dX10_races_21 (by decide) ?_
      refine b_wi (cells' := 0) (slots' := 0) (wr := @HAppend.hAppend va_W va_W va_W _ (rcW X nw an v b g) (rcW X sp ap vp bp gp)) G rfl rfl [0, 33] [1, 2, 3, 4, 5, 6, 7, 8, 9, 10, 11, 12, 13, 14, 15, 16, 17, 18, 19, 20, 21, 22, 23, 24, 25, 26, 27, 28, 29, 30, 31, 32] rfl rfl rfl rfl (n_V (As := [.int (-2)]) (rest := []) (C := RX10) (T := TX10) (N := 14) (ci := 8) S G (s_refuse l X h0 nw sp xa la lb fr (-2) H.size) gX10_races_X10_refuse rfl rfl rfl hdV_X10_refuse ⟨Nat.le_of_ble_eq_true rfl, Nat.le_of_ble_eq_true rfl⟩ [0, 33] rfl rfl 0 rfl rfl rfl hl.1 (Nat.le_of_ble_eq_true rfl) dX10_races_23 ⟨Nat.le_of_ble_eq_true rfl, Nat.le_of_ble_eq_true rfl⟩) (fun r_30 u_30 H locs hp_30 G => ?_)
      obtain ⟨f_30, rfl⟩ : ∃ z, z = u_30 := ⟨_, rfl⟩
      have hq_30 := hp_30
      have G : wd X (va_A (@HAppend.hAppend va_W va_W va_W _ (xW h0 nw sp xa la lb) (@HAppend.hAppend va_W va_W va_W _ (rcW X nw an v b g) (@HAppend.hAppend va_W va_W va_W _ (rcW X sp ap vp bp gp) ([((xa 5), .inl (X.2.1, 3, .inl fr))])))) sz) (va_A (@HAppend.hAppend va_W va_W va_W _ (xW h0 nw sp xa la lb) (@HAppend.hAppend va_W va_W va_W _ (rcW X nw an v b g) (@HAppend.hAppend va_W va_W va_W _ (rcW X sp ap vp bp gp) ([((xa 5), .inl (X.2.1, 3, .inl fr))])))) sz) s (@HAppend.hAppend va_W va_W va_W _ (rcW X nw an v b g) (@HAppend.hAppend va_W va_W va_W _ (rcW X sp ap vp bp gp) (@HAppend.hAppend va_W va_W va_W _ (xW h0 nw sp xa la lb) ([((xa 5), .inl (X.2.1, 3, .inl f_30))])))) H locs := G
      exact e_int S zr zlk (vp_nar_int _) G (vp, bp, gp, f_30) [32, 0, 1, 2, 3, 4, 5, 6, 7, 8, 9, 10, 11, 12, 13, 14, 15, 16, 17, 18, 19, 20, 21, 22, 23, 24, 25, 26, 27, 28, 29, 30, 31, 33] rfl rfl (Or.inr rfl) (⟨hI_bp, trivial⟩) dX10_races_26
  · refine lv_if_eq (tgt := 20) zx zb dX10_races_7 (by decide) (fun c_31 => ?_) (fun c_31 => absurd (by decide) c_31)
    refine lv_aload_n zx zb dX10_races_20 rfl (lv_at hl 0 rfl) ?_
    refine lv_bipush (v := (-2)) zx zb dX10_races_21 (by decide) ?_
    refine b_wi (cells' := 0) (slots' := 0) (wr := @HAppend.hAppend va_W va_W va_W _ (rcW X nw an v b g) (rcW X sp ap vp bp gp)) G rfl rfl [0, 33] [1, 2, 3, 4, 5, 6, 7, 8, 9, 10, 11, 12, 13, 14, 15, 16, 17, 18, 19, 20, 21, 22, 23, 24, 25, 26, 27, 28, 29, 30, 31, 32] rfl rfl rfl rfl (n_V (As := [.int (-2)]) (rest := []) (C := RX10) (T := TX10) (N := 14) (ci := 8) S G (s_refuse l X h0 nw sp xa la lb fr (-2) H.size) gX10_races_X10_refuse rfl rfl rfl hdV_X10_refuse ⟨Nat.le_of_ble_eq_true rfl, Nat.le_of_ble_eq_true rfl⟩ [0, 33] rfl rfl 0 rfl rfl rfl hl.1 (Nat.le_of_ble_eq_true rfl) dX10_races_23 ⟨Nat.le_of_ble_eq_true rfl, Nat.le_of_ble_eq_true rfl⟩) (fun r_32 u_32 H locs hp_32 G => ?_)
    obtain ⟨f_32, rfl⟩ : ∃ z, z = u_32 := ⟨_, rfl⟩
    have hq_32 := hp_32
    have G : wd X (va_A (@HAppend.hAppend va_W va_W va_W _ (xW h0 nw sp xa la lb) (@HAppend.hAppend va_W va_W va_W _ (rcW X nw an v b g) (@HAppend.hAppend va_W va_W va_W _ (rcW X sp ap vp bp gp) ([((xa 5), .inl (X.2.1, 3, .inl fr))])))) sz) (va_A (@HAppend.hAppend va_W va_W va_W _ (xW h0 nw sp xa la lb) (@HAppend.hAppend va_W va_W va_W _ (rcW X nw an v b g) (@HAppend.hAppend va_W va_W va_W _ (rcW X sp ap vp bp gp) ([((xa 5), .inl (X.2.1, 3, .inl fr))])))) sz) s (@HAppend.hAppend va_W va_W va_W _ (rcW X nw an v b g) (@HAppend.hAppend va_W va_W va_W _ (rcW X sp ap vp bp gp) (@HAppend.hAppend va_W va_W va_W _ (xW h0 nw sp xa la lb) ([((xa 5), .inl (X.2.1, 3, .inl f_32))])))) H locs := G
    exact e_int S zr zlk (vp_nar_int _) G (vp, bp, gp, f_32) [32, 0, 1, 2, 3, 4, 5, 6, 7, 8, 9, 10, 11, 12, 13, 14, 15, 16, 17, 18, 19, 20, 21, 22, 23, 24, 25, 26, 27, 28, 29, 30, 31, 33] rfl rfl (Or.inr rfl) (⟨hI_bp, trivial⟩) dX10_races_26
theorem in_X10_count_X10 : ∀ w ∈ wsX100, w ∈ wsX10_count := by decide +kernel
theorem lk_X10_count_10 : Cond.fieldLink RX10 10 "EggSpoons" "now" "LEggSpoons$Race;" ∈ wsX10_count := by decide +kernel
theorem in_X10_count_X5 : ∀ w ∈ wsX50, w ∈ wsX10_count := by decide +kernel
theorem lk_X10_count_87 : Cond.fieldLink RX10 87 "EggSpoons$Race" "runners" "I" ∈ wsX10_count := by decide +kernel
theorem lk_X10_count_140 : Cond.fieldLink RX10 140 "EggSpoons$Race" "length" "I" ∈ wsX10_count := by decide +kernel
theorem lk_X10_count_110 : Cond.fieldLink RX10 110 "EggSpoons$Race" "tick" "I" ∈ wsX10_count := by decide +kernel
theorem hdV_X5_placesTogether : yX5_placesTogether.cls = RX5 ∧ yX5_placesTogether.cls ≠ "java/lang/invoke/MethodHandle" ∧ yX5_placesTogether.cls ≠ "java/lang/invoke/VarHandle" ∧ (parseMethodDescriptor yX5_placesTogether.desc).map (fun d => d.parameters.length) = some 0 := by decide +kernel
theorem hdV_X5_dropsTogether : yX5_dropsTogether.cls = RX5 ∧ yX5_dropsTogether.cls ≠ "java/lang/invoke/MethodHandle" ∧ yX5_dropsTogether.cls ≠ "java/lang/invoke/VarHandle" ∧ (parseMethodDescriptor yX5_dropsTogether.desc).map (fun d => d.parameters.length) = some 0 := by decide +kernel
theorem lk_X10_count_185 : Cond.fieldLink RX10 185 "EggSpoons$Race" "seenRows" "LEggSpoons$Rows;" ∈ wsX10_count := by decide +kernel
theorem in_X10_count_X7 : ∀ w ∈ wsX70, w ∈ wsX10_count := by decide +kernel
theorem lk_X10_count_194 : Cond.fieldLink RX10 194 "EggSpoons$Rows" "size" "I" ∈ wsX10_count := by decide +kernel
theorem lk_X10_count_212 : Cond.fieldLink RX10 212 "EggSpoons$Race" "noteRows" "LEggSpoons$Rows;" ∈ wsX10_count := by decide +kernel
theorem lk_X10_count_215 : Cond.fieldLink RX10 215 "EggSpoons$Race" "markRows" "LEggSpoons$Rows;" ∈ wsX10_count := by decide +kernel
theorem lk_X10_count_282 : Cond.fieldLink RX10 282 "EggSpoons$Race" "past" "LEggSpoons$Past;" ∈ wsX10_count := by decide +kernel
theorem in_X10_count_X4 : ∀ w ∈ wsX40, w ∈ wsX10_count := by decide +kernel
theorem lk_X10_count_286 : Cond.fieldLink RX10 286 "EggSpoons$Past" "size" "I" ∈ wsX10_count := by decide +kernel
theorem lk_X10_count_30 : Cond.fieldLink RX10 30 "EggSpoons" "reader" "LEggSpoons$Reader;" ∈ wsX10_count := by decide +kernel
theorem in_X10_count_X6 : ∀ w ∈ wsX60, w ∈ wsX10_count := by decide +kernel
set_option maxHeartbeats 4000000 in
set_option maxRecDepth 100000 in
/-- count -/
theorem s_count (l : Launch) (X : EX) (h0 : Nat) (nw : Nat) (sp : Nat) (xa : Nat → Nat) (la : Int64) (lb : Int64) (an : Nat → Nat) (v : Nat → Int32) (b : Nat → Nat) (g : Nat → Nat → Int32) (hb : Nat) (bd : Nat → Nat) (vd : Nat → Int32) (fd : Nat → Int32) (fr : Nat → Int32) (x1 : Int32) (hI_b : InR b) (hI_bd : InD bd) (sz : Nat) : Met l yX10_count wsX10_count ({ frames := 2, cells := 0, slots := 0, locals := 42 } : Room) (pE X [.ref h0, .int x1] (@HAppend.hAppend va_W va_W va_W _ (xW h0 nw sp xa la lb) (@HAppend.hAppend va_W va_W va_W _ (rcW X nw an v b g) (@HAppend.hAppend va_W va_W va_W _ (rdW X (xa 4) hb bd vd fd) ([((xa 5), .inl (X.2.1, 3, .inl fr))])))) sz) (qI (fun (r : Int32) (u : (Nat → Int32)) => (True)) X (fun (u : (Nat → Int32)) => @HAppend.hAppend va_W va_W va_W _ (xW h0 nw sp xa la lb) (@HAppend.hAppend va_W va_W va_W _ (rcW X nw an v b g) (@HAppend.hAppend va_W va_W va_W _ (rdW X (xa 4) hb bd vd fd) ([((xa 5), .inl (X.2.1, 3, .inl u))])))) (@HAppend.hAppend va_W va_W va_W _ (xW h0 nw sp xa la lb) (@HAppend.hAppend va_W va_W va_W _ (rcW X nw an v b g) (@HAppend.hAppend va_W va_W va_W _ (rdW X (xa 4) hb bd vd fd) ([((xa 5), .inl (X.2.1, 3, .inl fr))])))) sz) 0 0 (va_A (@HAppend.hAppend va_W va_W va_W _ (xW h0 nw sp xa la lb) (@HAppend.hAppend va_W va_W va_W _ (rcW X nw an v b g) (@HAppend.hAppend va_W va_W va_W _ (rdW X (xa 4) hb bd vd fd) ([((xa 5), .inl (X.2.1, 3, .inl fr))])))) sz) := by
  refine mk_met (B := (va_A (@HAppend.hAppend va_W va_W va_W _ (xW h0 nw sp xa la lb) (@HAppend.hAppend va_W va_W va_W _ (rcW X nw an v b g) (@HAppend.hAppend va_W va_W va_W _ (rdW X (xa 4) hb bd vd fd) ([((xa 5), .inl (X.2.1, 3, .inl fr))])))) sz)) (A := (va_A (@HAppend.hAppend va_W va_W va_W _ (xW h0 nw sp xa la lb) (@HAppend.hAppend va_W va_W va_W _ (rcW X nw an v b g) (@HAppend.hAppend va_W va_W va_W _ (rdW X (xa 4) hb bd vd fd) ([((xa 5), .inl (X.2.1, 3, .inl fr))])))) sz)) (cc := cX10_count) (maxL := 2) (ret := (some .int)) (by decide) rfl (Nat.le_of_ble_eq_true rfl) k_w k_a (fun p e s m below meth c S zr zlk znm zsz G ls hl => ?_)
  have S : CallFix p m c cX10_count 2 s _ wsX10_count RX10 := S
  have zx := S.1
  have zb := S.2.1
  have hl : lv_has ls 2 [(0, .ref h0), (1, .int x1)] := hl
  have hO_b := hI_b
  obtain ⟨hb0_b, hb1_b, hb2_b, hb3_b, hb4_b⟩ := hO_b
  have hO_bd := hI_bd
  obtain ⟨hd0_bd, hd1_bd, hd2_bd⟩ := hO_bd
  refine lv_iload_n zx zb dX10_count_0 rfl (lv_at hl 1 rfl) ?_
  rcases k_ts0_10 x1 with w_1 | w_1 | w_1 | w_1 | w_1 | w_1 | w_1 | w_1 | w_1 | w_1 | w_1 | w_1
  · refine k_it w_1 ?_
    refine lv_tableIn (off := 59) (tgt := 60) zx zb dX10_count_1 (by decide) (by decide) rfl (by decide) ?_
    refine lv_aload_n zx zb dX10_count_60 rfl (lv_at hl 0 rfl) ?_
    refine r_get (C := RX10) (T := TX10) (N := 14) (ci := 8) (v := .ref nw) S in_X10_count_X10 G 0 rfl rfl 0 (by decide) lk_X10_count_10 rfl dX10_count_61 ?_
    refine r_get (C := RX5) (T := TX5) (N := 8) (ci := 3) (v := .int (nI (b 0))) S in_X10_count_X5 G 1 rfl rfl 2 (by decide) lk_X10_count_87 rfl dX10_count_64 ?_
    exact e_int S zr zlk (vp_nar_int _) G (fr) [0, 1, 2, 3, 4, 5, 6, 7, 8, 9, 10, 11, 12, 13, 14, 15, 16, 17, 18, 19] rfl rfl (Or.inr rfl) (trivial) dX10_count_67
  · refine k_it w_1 ?_
    refine lv_tableIn (off := 67) (tgt := 68) zx zb dX10_count_1 (by decide) (by decide) rfl (by decide) ?_
    refine lv_aload_n zx zb dX10_count_68 rfl (lv_at hl 0 rfl) ?_
    refine r_get (C := RX10) (T := TX10) (N := 14) (ci := 8) (v := .ref nw) S in_X10_count_X10 G 0 rfl rfl 0 (by decide) lk_X10_count_10 rfl dX10_count_69 ?_
    refine o_ri (cells' := 0) (slots' := 0) G rfl rfl (n_V (As := []) (rest := []) (C := RX5) (T := TX5) (N := 8) (ci := 3) S G (s_homes l X nw an v b g hI_b s.heap.size) gX10_count_X5_homes rfl rfl rfl hdV_X5_homes ⟨Nat.le_of_ble_eq_true rfl, Nat.le_of_ble_eq_true rfl⟩ [1, 2, 3, 4, 5, 6, 7, 8, 9, 10, 11, 12, 13, 14, 15, 16] rfl rfl 1 rfl rfl rfl hl.1 (Nat.le_of_ble_eq_true rfl) dX10_count_72 ⟨Nat.le_of_ble_eq_true rfl, Nat.le_of_ble_eq_true rfl⟩) (fun r_2 u_2 H locs hp_2 G => ?_)
    have G : wd X (va_A (@HAppend.hAppend va_W va_W va_W _ (xW h0 nw sp xa la lb) (@HAppend.hAppend va_W va_W va_W _ (rcW X nw an v b g) (@HAppend.hAppend va_W va_W va_W _ (rdW X (xa 4) hb bd vd fd) ([((xa 5), .inl (X.2.1, 3, .inl fr))])))) sz) (va_A (@HAppend.hAppend va_W va_W va_W _ (xW h0 nw sp xa la lb) (@HAppend.hAppend va_W va_W va_W _ (rcW X nw an v b g) (@HAppend.hAppend va_W va_W va_W _ (rdW X (xa 4) hb bd vd fd) ([((xa 5), .inl (X.2.1, 3, .inl fr))])))) sz) s (@HAppend.hAppend va_W va_W va_W _ (xW h0 nw sp xa la lb) (@HAppend.hAppend va_W va_W va_W _ (rcW X nw an v b g) (@HAppend.hAppend va_W va_W va_W _ (rdW X (xa 4) hb bd vd fd) ([((xa 5), .inl (X.2.1, 3, .inl fr))])))) H locs := G
    exact e_int S zr zlk (vp_nar_int _) G (fr) [0, 1, 2, 3, 4, 5, 6, 7, 8, 9, 10, 11, 12, 13, 14, 15, 16, 17, 18, 19] rfl rfl (Or.inr rfl) (trivial) dX10_count_75
  · refine k_it w_1 ?_
    refine lv_tableIn (off := 75) (tgt := 76) zx zb dX10_count_1 (by decide) (by decide) rfl (by decide) ?_
    refine lv_aload_n zx zb dX10_count_76 rfl (lv_at hl 0 rfl) ?_
    refine r_get (C := RX10) (T := TX10) (N := 14) (ci := 8) (v := .ref nw) S in_X10_count_X10 G 0 rfl rfl 0 (by decide) lk_X10_count_10 rfl dX10_count_77 ?_
    refine r_get (C := RX5) (T := TX5) (N := 8) (ci := 3) (v := .int (v 0)) S in_X10_count_X5 G 1 rfl rfl 0 (by decide) lk_X10_count_140 rfl dX10_count_80 ?_
    exact e_int S zr zlk (vp_nar_int _) G (fr) [0, 1, 2, 3, 4, 5, 6, 7, 8, 9, 10, 11, 12, 13, 14, 15, 16, 17, 18, 19] rfl rfl (Or.inr rfl) (trivial) dX10_count_83
  · refine k_it w_1 ?_
    refine lv_tableIn (off := 83) (tgt := 84) zx zb dX10_count_1 (by decide) (by decide) rfl (by decide) ?_
    refine lv_aload_n zx zb dX10_count_84 rfl (lv_at hl 0 rfl) ?_
    refine r_get (C := RX10) (T := TX10) (N := 14) (ci := 8) (v := .ref nw) S in_X10_count_X10 G 0 rfl rfl 0 (by decide) lk_X10_count_10 rfl dX10_count_85 ?_
    refine r_get (C := RX5) (T := TX5) (N := 8) (ci := 3) (v := .int (v 1)) S in_X10_count_X5 G 1 rfl rfl 1 (by decide) lk_X10_count_110 rfl dX10_count_88 ?_
    exact e_int S zr zlk (vp_nar_int _) G (fr) [0, 1, 2, 3, 4, 5, 6, 7, 8, 9, 10, 11, 12, 13, 14, 15, 16, 17, 18, 19] rfl rfl (Or.inr rfl) (trivial) dX10_count_91
  · refine k_it w_1 ?_
    refine lv_tableIn (off := 91) (tgt := 92) zx zb dX10_count_1 (by decide) (by decide) rfl (by decide) ?_
    refine lv_aload_n zx zb dX10_count_92 rfl (lv_at hl 0 rfl) ?_
    refine r_get (C := RX10) (T := TX10) (N := 14) (ci := 8) (v := .ref nw) S in_X10_count_X10 G 0 rfl rfl 0 (by decide) lk_X10_count_10 rfl dX10_count_93 ?_
    refine o_ri (cells' := 0) (slots' := 0) G rfl rfl (n_V (As := []) (rest := []) (C := RX5) (T := TX5) (N := 8) (ci := 3) S G (s_places l X nw an v b g hI_b s.heap.size) gX10_count_X5_placesTogether rfl rfl rfl hdV_X5_placesTogether ⟨Nat.le_of_ble_eq_true rfl, Nat.le_of_ble_eq_true rfl⟩ [1, 2, 3, 4, 5, 6, 7, 8, 9, 10, 11, 12, 13, 14, 15, 16] rfl rfl 1 rfl rfl rfl hl.1 (Nat.le_of_ble_eq_true rfl) dX10_count_96 ⟨Nat.le_of_ble_eq_true rfl, Nat.le_of_ble_eq_true rfl⟩) (fun r_3 u_3 H locs hp_3 G => ?_)
    have G : wd X (va_A (@HAppend.hAppend va_W va_W va_W _ (xW h0 nw sp xa la lb) (@HAppend.hAppend va_W va_W va_W _ (rcW X nw an v b g) (@HAppend.hAppend va_W va_W va_W _ (rdW X (xa 4) hb bd vd fd) ([((xa 5), .inl (X.2.1, 3, .inl fr))])))) sz) (va_A (@HAppend.hAppend va_W va_W va_W _ (xW h0 nw sp xa la lb) (@HAppend.hAppend va_W va_W va_W _ (rcW X nw an v b g) (@HAppend.hAppend va_W va_W va_W _ (rdW X (xa 4) hb bd vd fd) ([((xa 5), .inl (X.2.1, 3, .inl fr))])))) sz) s (@HAppend.hAppend va_W va_W va_W _ (xW h0 nw sp xa la lb) (@HAppend.hAppend va_W va_W va_W _ (rcW X nw an v b g) (@HAppend.hAppend va_W va_W va_W _ (rdW X (xa 4) hb bd vd fd) ([((xa 5), .inl (X.2.1, 3, .inl fr))])))) H locs := G
    exact e_int S zr zlk (vp_nar_int _) G (fr) [0, 1, 2, 3, 4, 5, 6, 7, 8, 9, 10, 11, 12, 13, 14, 15, 16, 17, 18, 19] rfl rfl (Or.inr rfl) (trivial) dX10_count_99
  · refine k_it w_1 ?_
    refine lv_tableIn (off := 99) (tgt := 100) zx zb dX10_count_1 (by decide) (by decide) rfl (by decide) ?_
    refine lv_aload_n zx zb dX10_count_100 rfl (lv_at hl 0 rfl) ?_
    refine r_get (C := RX10) (T := TX10) (N := 14) (ci := 8) (v := .ref nw) S in_X10_count_X10 G 0 rfl rfl 0 (by decide) lk_X10_count_10 rfl dX10_count_101 ?_
    refine o_ri (cells' := 0) (slots' := 0) G rfl rfl (n_V (As := []) (rest := []) (C := RX5) (T := TX5) (N := 8) (ci := 3) S G (s_drops l X nw an v b g hI_b s.heap.size) gX10_count_X5_dropsTogether rfl rfl rfl hdV_X5_dropsTogether ⟨Nat.le_of_ble_eq_true rfl, Nat.le_of_ble_eq_true rfl⟩ [1, 2, 3, 4, 5, 6, 7, 8, 9, 10, 11, 12, 13, 14, 15, 16] rfl rfl 1 rfl rfl rfl hl.1 (Nat.le_of_ble_eq_true rfl) dX10_count_104 ⟨Nat.le_of_ble_eq_true rfl, Nat.le_of_ble_eq_true rfl⟩) (fun r_4 u_4 H locs hp_4 G => ?_)
    have G : wd X (va_A (@HAppend.hAppend va_W va_W va_W _ (xW h0 nw sp xa la lb) (@HAppend.hAppend va_W va_W va_W _ (rcW X nw an v b g) (@HAppend.hAppend va_W va_W va_W _ (rdW X (xa 4) hb bd vd fd) ([((xa 5), .inl (X.2.1, 3, .inl fr))])))) sz) (va_A (@HAppend.hAppend va_W va_W va_W _ (xW h0 nw sp xa la lb) (@HAppend.hAppend va_W va_W va_W _ (rcW X nw an v b g) (@HAppend.hAppend va_W va_W va_W _ (rdW X (xa 4) hb bd vd fd) ([((xa 5), .inl (X.2.1, 3, .inl fr))])))) sz) s (@HAppend.hAppend va_W va_W va_W _ (xW h0 nw sp xa la lb) (@HAppend.hAppend va_W va_W va_W _ (rcW X nw an v b g) (@HAppend.hAppend va_W va_W va_W _ (rdW X (xa 4) hb bd vd fd) ([((xa 5), .inl (X.2.1, 3, .inl fr))])))) H locs := G
    exact e_int S zr zlk (vp_nar_int _) G (fr) [0, 1, 2, 3, 4, 5, 6, 7, 8, 9, 10, 11, 12, 13, 14, 15, 16, 17, 18, 19] rfl rfl (Or.inr rfl) (trivial) dX10_count_107
  · refine k_it w_1 ?_
    refine lv_tableIn (off := 107) (tgt := 108) zx zb dX10_count_1 (by decide) (by decide) rfl (by decide) ?_
    refine lv_aload_n zx zb dX10_count_108 rfl (lv_at hl 0 rfl) ?_
    refine r_get (C := RX10) (T := TX10) (N := 14) (ci := 8) (v := .ref nw) S in_X10_count_X10 G 0 rfl rfl 0 (by decide) lk_X10_count_10 rfl dX10_count_109 ?_
    refine r_get (C := RX5) (T := TX5) (N := 8) (ci := 3) (v := .ref (an 9)) S in_X10_count_X5 G 1 rfl rfl 5 (by decide) lk_X10_count_185 rfl dX10_count_112 ?_
    refine r_get (C := RX7) (T := TX7) (N := 5) (ci := 5) (v := .int (nI (b 2))) S in_X10_count_X7 G 11 rfl rfl 4 (by decide) lk_X10_count_194 rfl dX10_count_115 ?_
    exact e_int S zr zlk (vp_nar_int _) G (fr) [0, 1, 2, 3, 4, 5, 6, 7, 8, 9, 10, 11, 12, 13, 14, 15, 16, 17, 18, 19] rfl rfl (Or.inr rfl) (trivial) dX10_count_118
  · refine k_it w_1 ?_
    refine lv_tableIn (off := 118) (tgt := 119) zx zb dX10_count_1 (by decide) (by decide) rfl (by decide) ?_
    refine lv_aload_n zx zb dX10_count_119 rfl (lv_at hl 0 rfl) ?_
    refine r_get (C := RX10) (T := TX10) (N := 14) (ci := 8) (v := .ref nw) S in_X10_count_X10 G 0 rfl rfl 0 (by decide) lk_X10_count_10 rfl dX10_count_120 ?_
    refine r_get (C := RX5) (T := TX5) (N := 8) (ci := 3) (v := .ref (an 11)) S in_X10_count_X5 G 1 rfl rfl 6 (by decide) lk_X10_count_212 rfl dX10_count_123 ?_
    refine r_get (C := RX7) (T := TX7) (N := 5) (ci := 5) (v := .int (nI (b 3))) S in_X10_count_X7 G 13 rfl rfl 4 (by decide) lk_X10_count_194 rfl dX10_count_126 ?_
    exact e_int S zr zlk (vp_nar_int _) G (fr) [0, 1, 2, 3, 4, 5, 6, 7, 8, 9, 10, 11, 12, 13, 14, 15, 16, 17, 18, 19] rfl rfl (Or.inr rfl) (trivial) dX10_count_129
  · refine k_it w_1 ?_
    refine lv_tableIn (off := 129) (tgt := 130) zx zb dX10_count_1 (by decide) (by decide) rfl (by decide) ?_
    refine lv_aload_n zx zb dX10_count_130 rfl (lv_at hl 0 rfl) ?_
    refine r_get (C := RX10) (T := TX10) (N := 14) (ci := 8) (v := .ref nw) S in_X10_count_X10 G 0 rfl rfl 0 (by decide) lk_X10_count_10 rfl dX10_count_131 ?_
    refine r_get (C := RX5) (T := TX5) (N := 8) (ci := 3) (v := .ref (an 13)) S in_X10_count_X5 G 1 rfl rfl 7 (by decide) lk_X10_count_215 rfl dX10_count_134 ?_
    refine r_get (C := RX7) (T := TX7) (N := 5) (ci := 5) (v := .int (nI (b 4))) S in_X10_count_X7 G 15 rfl rfl 4 (by decide) lk_X10_count_194 rfl dX10_count_137 ?_
    exact e_int S zr zlk (vp_nar_int _) G (fr) [0, 1, 2, 3, 4, 5, 6, 7, 8, 9, 10, 11, 12, 13, 14, 15, 16, 17, 18, 19] rfl rfl (Or.inr rfl) (trivial) dX10_count_140
  · refine k_it w_1 ?_
    refine lv_tableIn (off := 140) (tgt := 141) zx zb dX10_count_1 (by decide) (by decide) rfl (by decide) ?_
    refine lv_aload_n zx zb dX10_count_141 rfl (lv_at hl 0 rfl) ?_
    refine r_get (C := RX10) (T := TX10) (N := 14) (ci := 8) (v := .ref nw) S in_X10_count_X10 G 0 rfl rfl 0 (by decide) lk_X10_count_10 rfl dX10_count_142 ?_
    refine r_get (C := RX5) (T := TX5) (N := 8) (ci := 3) (v := .ref (an 7)) S in_X10_count_X5 G 1 rfl rfl 4 (by decide) lk_X10_count_282 rfl dX10_count_145 ?_
    refine r_get (C := RX4) (T := TX4) (N := 2) (ci := 2) (v := .int (nI (b 1))) S in_X10_count_X4 G 9 rfl rfl 1 (by decide) lk_X10_count_286 rfl dX10_count_148 ?_
    exact e_int S zr zlk (vp_nar_int _) G (fr) [0, 1, 2, 3, 4, 5, 6, 7, 8, 9, 10, 11, 12, 13, 14, 15, 16, 17, 18, 19] rfl rfl (Or.inr rfl) (trivial) dX10_count_151
  · refine k_it w_1 ?_
    refine lv_tableIn (off := 151) (tgt := 152) zx zb dX10_count_1 (by decide) (by decide) rfl (by decide) ?_
    refine lv_aload_n zx zb dX10_count_152 rfl (lv_at hl 0 rfl) ?_
    refine r_get (C := RX10) (T := TX10) (N := 14) (ci := 8) (v := .ref (xa 4)) S in_X10_count_X10 G 0 rfl rfl 4 (by decide) lk_X10_count_30 rfl dX10_count_153 ?_
    refine r_getN (C := RX6) (T := TX6) (N := 7) (ci := 4) (host := "EggSpoons") (v := .int (nI (bd 0))) S in_X10_count_X6 G 17 rfl rfl 1 (by decide) G.1.2.2.2.1 rfl dX10_count_156 ?_
    exact e_int S zr zlk (vp_nar_int _) G (fr) [0, 1, 2, 3, 4, 5, 6, 7, 8, 9, 10, 11, 12, 13, 14, 15, 16, 17, 18, 19] rfl rfl (Or.inr rfl) (trivial) dX10_count_159
  · refine lv_tableOut (tgt := 160) zx zb dX10_count_1 w_1 (by decide) ?_
    refine lv_aload_n zx zb dX10_count_160 rfl (lv_at hl 0 rfl) ?_
    refine lv_bipush (v := (-2)) zx zb dX10_count_161 (by decide) ?_
    refine b_wi (cells' := 0) (slots' := 0) (wr := @HAppend.hAppend va_W va_W va_W _ (rcW X nw an v b g) (rdW X (xa 4) hb bd vd fd)) G rfl rfl [0, 19] [1, 2, 3, 4, 5, 6, 7, 8, 9, 10, 11, 12, 13, 14, 15, 16, 17, 18] rfl rfl rfl rfl (n_V (As := [.int (-2)]) (rest := []) (C := RX10) (T := TX10) (N := 14) (ci := 8) S G (s_refuse l X h0 nw sp xa la lb fr (-2) s.heap.size) gX10_count_X10_refuse rfl rfl rfl hdV_X10_refuse ⟨Nat.le_of_ble_eq_true rfl, Nat.le_of_ble_eq_true rfl⟩ [0, 19] rfl rfl 0 rfl rfl rfl hl.1 (Nat.le_of_ble_eq_true rfl) dX10_count_163 ⟨Nat.le_of_ble_eq_true rfl, Nat.le_of_ble_eq_true rfl⟩) (fun r_5 u_5 H locs hp_5 G => ?_)
    obtain ⟨f_5, rfl⟩ : ∃ z, z = u_5 := ⟨_, rfl⟩
    have hq_5 := hp_5
    have G : wd X (va_A (@HAppend.hAppend va_W va_W va_W _ (xW h0 nw sp xa la lb) (@HAppend.hAppend va_W va_W va_W _ (rcW X nw an v b g) (@HAppend.hAppend va_W va_W va_W _ (rdW X (xa 4) hb bd vd fd) ([((xa 5), .inl (X.2.1, 3, .inl fr))])))) sz) (va_A (@HAppend.hAppend va_W va_W va_W _ (xW h0 nw sp xa la lb) (@HAppend.hAppend va_W va_W va_W _ (rcW X nw an v b g) (@HAppend.hAppend va_W va_W va_W _ (rdW X (xa 4) hb bd vd fd) ([((xa 5), .inl (X.2.1, 3, .inl fr))])))) sz) s (@HAppend.hAppend va_W va_W va_W _ (rcW X nw an v b g) (@HAppend.hAppend va_W va_W va_W _ (rdW X (xa 4) hb bd vd fd) (@HAppend.hAppend va_W va_W va_W _ (xW h0 nw sp xa la lb) ([((xa 5), .inl (X.2.1, 3, .inl f_5))])))) H locs := G
    exact e_int S zr zlk (vp_nar_int _) G (f_5) [18, 0, 1, 2, 3, 4, 5, 6, 7, 8, 9, 10, 11, 12, 13, 14, 15, 16, 17, 19] rfl rfl (Or.inr rfl) (trivial) dX10_count_166
theorem mm_X10_digest_c289 : Cond.constantLong RX10 289 (1789) ∈ wsX10_digest := by decide +kernel
theorem mm_X10_digest_c291 : Cond.constantLong RX10 291 (31) ∈ wsX10_digest := by decide +kernel
theorem hdV_X10_count : yX10_count.cls = RX10 ∧ yX10_count.cls ≠ "java/lang/invoke/MethodHandle" ∧ yX10_count.cls ≠ "java/lang/invoke/VarHandle" ∧ (parseMethodDescriptor yX10_count.desc).map (fun d => d.parameters.length) = some 1 := by decide +kernel
theorem in_X10_digest_X10 : ∀ w ∈ wsX100, w ∈ wsX10_digest := by decide +kernel
theorem lk_X10_digest_10 : Cond.fieldLink RX10 10 "EggSpoons" "now" "LEggSpoons$Race;" ∈ wsX10_digest := by decide +kernel
theorem in_X10_digest_X5 : ∀ w ∈ wsX50, w ∈ wsX10_digest := by decide +kernel
theorem lk_X10_digest_87 : Cond.fieldLink RX10 87 "EggSpoons$Race" "runners" "I" ∈ wsX10_digest := by decide +kernel
theorem lk_X10_digest_126 : Cond.fieldLink RX10 126 "EggSpoons$Race" "row" "[LEggSpoons$Runner;" ∈ wsX10_digest := by decide +kernel
theorem lk_X10_digest_110 : Cond.fieldLink RX10 110 "EggSpoons$Race" "tick" "I" ∈ wsX10_digest := by decide +kernel
theorem lk_X10_digest_185 : Cond.fieldLink RX10 185 "EggSpoons$Race" "seenRows" "LEggSpoons$Rows;" ∈ wsX10_digest := by decide +kernel
theorem hdV_X7_mixInto : yX7_mixInto.cls = RX7 ∧ yX7_mixInto.cls ≠ "java/lang/invoke/MethodHandle" ∧ yX7_mixInto.cls ≠ "java/lang/invoke/VarHandle" ∧ (parseMethodDescriptor yX7_mixInto.desc).map (fun d => d.parameters.length) = some 1 := by decide +kernel
theorem lk_X10_digest_212 : Cond.fieldLink RX10 212 "EggSpoons$Race" "noteRows" "LEggSpoons$Rows;" ∈ wsX10_digest := by decide +kernel
theorem lk_X10_digest_215 : Cond.fieldLink RX10 215 "EggSpoons$Race" "markRows" "LEggSpoons$Rows;" ∈ wsX10_digest := by decide +kernel
theorem lk_X10_digest_38 : Cond.fieldLink RX10 38 "EggSpoons" "above" "J" ∈ wsX10_digest := by decide +kernel
theorem lk_X10_digest_42 : Cond.fieldLink RX10 42 "EggSpoons" "below" "J" ∈ wsX10_digest := by decide +kernel
set_option maxHeartbeats 4000000 in
set_option maxRecDepth 100000 in
/-- digest -/
theorem s_digest (l : Launch) (X : EX) (h0 : Nat) (nw : Nat) (sp : Nat) (xa : Nat → Nat) (la : Int64) (lb : Int64) (an : Nat → Nat) (v : Nat → Int32) (b : Nat → Nat) (g : Nat → Nat → Int32) (hb : Nat) (bd : Nat → Nat) (vd : Nat → Int32) (fd : Nat → Int32) (fr : Nat → Int32) (hI_b : InR b) (hI_bd : InD bd) (sz : Nat) : Met l yX10_digest wsX10_digest ({ frames := 3, cells := 0, slots := 0, locals := 63 } : Room) (pE X [.ref h0] (@HAppend.hAppend va_W va_W va_W _ (xW h0 nw sp xa la lb) (@HAppend.hAppend va_W va_W va_W _ (rcW X nw an v b g) (@HAppend.hAppend va_W va_W va_W _ (rdW X (xa 4) hb bd vd fd) ([((xa 5), .inl (X.2.1, 3, .inl fr))])))) sz) (qL (fun (r : Int64) (u : (Nat → Int32)) => (True)) X (fun (u : (Nat → Int32)) => @HAppend.hAppend va_W va_W va_W _ (xW h0 nw sp xa la lb) (@HAppend.hAppend va_W va_W va_W _ (rcW X nw an v b g) (@HAppend.hAppend va_W va_W va_W _ (rdW X (xa 4) hb bd vd fd) ([((xa 5), .inl (X.2.1, 3, .inl u))])))) (@HAppend.hAppend va_W va_W va_W _ (xW h0 nw sp xa la lb) (@HAppend.hAppend va_W va_W va_W _ (rcW X nw an v b g) (@HAppend.hAppend va_W va_W va_W _ (rdW X (xa 4) hb bd vd fd) ([((xa 5), .inl (X.2.1, 3, .inl fr))])))) sz) 0 0 (va_A (@HAppend.hAppend va_W va_W va_W _ (xW h0 nw sp xa la lb) (@HAppend.hAppend va_W va_W va_W _ (rcW X nw an v b g) (@HAppend.hAppend va_W va_W va_W _ (rdW X (xa 4) hb bd vd fd) ([((xa 5), .inl (X.2.1, 3, .inl fr))])))) sz) := by
  refine mk_met (B := (va_A (@HAppend.hAppend va_W va_W va_W _ (xW h0 nw sp xa la lb) (@HAppend.hAppend va_W va_W va_W _ (rcW X nw an v b g) (@HAppend.hAppend va_W va_W va_W _ (rdW X (xa 4) hb bd vd fd) ([((xa 5), .inl (X.2.1, 3, .inl fr))])))) sz)) (A := (va_A (@HAppend.hAppend va_W va_W va_W _ (xW h0 nw sp xa la lb) (@HAppend.hAppend va_W va_W va_W _ (rcW X nw an v b g) (@HAppend.hAppend va_W va_W va_W _ (rdW X (xa 4) hb bd vd fd) ([((xa 5), .inl (X.2.1, 3, .inl fr))])))) sz)) (cc := cX10_digest) (maxL := 5) (ret := (some .long)) (by decide) rfl (Nat.le_of_ble_eq_true rfl) k_w k_a (fun p e s m below meth c S zr zlk znm zsz G ls hl => ?_)
  have S : CallFix p m c cX10_digest 5 s _ wsX10_digest RX10 := S
  have zx := S.1
  have zb := S.2.1
  have hl : lv_has ls 5 [(0, .ref h0)] := hl
  have hO_b := hI_b
  obtain ⟨hb0_b, hb1_b, hb2_b, hb3_b, hb4_b⟩ := hO_b
  have hO_bd := hI_bd
  obtain ⟨hd0_bd, hd1_bd, hd2_bd⟩ := hO_bd
  refine lv_ldc2 zx zb S.2.2.2.1 (S.2.2.2.2 _ mm_X10_digest_c289) dX10_digest_0 ?_
  refine k_ld (v := (Int32.toInt64 1789)) (by decide) ?_
  refine lv_lstore_n (lv' := [(1, .long (Int32.toInt64 1789)), (0, .ref h0)]) zx zb dX10_digest_3 rfl hl (by decide) rfl (fun ls hl => ?_)
  refine lv_iconst (v := 0) zx zb dX10_digest_4 (by decide) ?_
  refine lv_istore_n (lv' := [(3, .int 0), (1, .long (Int32.toInt64 1789)), (0, .ref h0)]) zx zb dX10_digest_5 rfl hl (by decide) rfl (fun ls hl => ?_)
  refine k_loop (P := ∀ (zm : Nat) (k6 : Nat) (x6_1 : Int64) (f6_3 : Nat → Int32) (H : Heap) (locs : List Loc) (ls : Array Slot), 11 + 1 ≤ k6 + zm → (k6 ≤ 11) → wd X (va_A (@HAppend.hAppend va_W va_W va_W _ (xW h0 nw sp xa la lb) (@HAppend.hAppend va_W va_W va_W _ (rcW X nw an v b g) (@HAppend.hAppend va_W va_W va_W _ (rdW X (xa 4) hb bd vd fd) ([((xa 5), .inl (X.2.1, 3, .inl fr))])))) sz) (va_A (@HAppend.hAppend va_W va_W va_W _ (xW h0 nw sp xa la lb) (@HAppend.hAppend va_W va_W va_W _ (rcW X nw an v b g) (@HAppend.hAppend va_W va_W va_W _ (rdW X (xa 4) hb bd vd fd) ([((xa 5), .inl (X.2.1, 3, .inl fr))])))) sz) s (@HAppend.hAppend va_W va_W va_W _ (xW h0 nw sp xa la lb) (@HAppend.hAppend va_W va_W va_W _ (rcW X nw an v b g) (@HAppend.hAppend va_W va_W va_W _ (rdW X (xa 4) hb bd vd fd) ([((xa 5), .inl (X.2.1, 3, .inl f6_3))])))) H locs → lv_has ls 5 [(3, .int (nI k6)), (1, .long x6_1), (0, .ref h0)] → W p l e _ s m _ below meth c H locs _ _ _ (F0 m 6 ls [])) (fun loop => loop (11 + 1) 0 (Int32.toInt64 1789) fr _ _ _ (by omega) (by omega) G hl) ?_
  intro zm
  induction zm with
  | zero => intro k6 x6_1 f6_3 H locs ls zz q_hk_k6 _ _; exact absurd zz (by omega)
  | succ zm ih6 =>
    intro k6 x6_1 f6_3 H locs ls zm_6 hk_k6 G hl
    refine lv_iload_n zx zb dX10_digest_6 rfl (lv_at hl 0 rfl) ?_
    refine lv_bipush (v := 10) zx zb dX10_digest_7 (by decide) ?_
    refine lv_icmp_gt (tgt := 31) zx zb dX10_digest_9 (by decide) (fun c_1 => ?_) (fun c_1 => ?_)
    · have fc_1 := j_lt (a := 10) (b := k6) (by omega) (by omega) c_1
      refine lv_iconst (v := 0) zx zb dX10_digest_31 (by decide) ?_
      refine lv_istore_n (lv' := [(3, .int 0), (1, .long x6_1), (0, .ref h0)]) zx zb dX10_digest_32 rfl hl (by decide) rfl (fun ls hl => ?_)
      refine k_loop (P := ∀ (zm : Nat) (k33 : Nat) (x33_1 : Int64) (H : Heap) (locs : List Loc) (ls : Array Slot), 6 + 1 ≤ k33 + zm → (k33 ≤ 6) → wd X (va_A (@HAppend.hAppend va_W va_W va_W _ (xW h0 nw sp xa la lb) (@HAppend.hAppend va_W va_W va_W _ (rcW X nw an v b g) (@HAppend.hAppend va_W va_W va_W _ (rdW X (xa 4) hb bd vd fd) ([((xa 5), .inl (X.2.1, 3, .inl fr))])))) sz) (va_A (@HAppend.hAppend va_W va_W va_W _ (xW h0 nw sp xa la lb) (@HAppend.hAppend va_W va_W va_W _ (rcW X nw an v b g) (@HAppend.hAppend va_W va_W va_W _ (rdW X (xa 4) hb bd vd fd) ([((xa 5), .inl (X.2.1, 3, .inl fr))])))) sz) s (@HAppend.hAppend va_W va_W va_W _ (xW h0 nw sp xa la lb) (@HAppend.hAppend va_W va_W va_W _ (rcW X nw an v b g) (@HAppend.hAppend va_W va_W va_W _ (rdW X (xa 4) hb bd vd fd) ([((xa 5), .inl (X.2.1, 3, .inl f6_3))])))) H locs → lv_has ls 5 [(3, .int (nI k33)), (1, .long x33_1), (0, .ref h0)] → W p l e _ s m _ below meth c H locs _ _ _ (F0 m 33 ls [])) (fun loop => loop (6 + 1) 0 x6_1 _ _ _ (by omega) (by omega) G hl) ?_
      intro zm
      induction zm with
      | zero => intro k33 x33_1 H locs ls zz q_hk_k33 _ _; exact absurd zz (by omega)
      | succ zm ih33 =>
        intro k33 x33_1 H locs ls zm_33 hk_k33 G hl
        refine lv_iload_n zx zb dX10_digest_33 rfl (lv_at hl 0 rfl) ?_
        refine lv_aload_n zx zb dX10_digest_34 rfl (lv_at hl 2 rfl) ?_
        refine r_get (C := RX10) (T := TX10) (N := 14) (ci := 8) (v := .ref nw) S in_X10_digest_X10 G 0 rfl rfl 0 (by decide) lk_X10_digest_10 rfl dX10_digest_35 ?_
        refine r_get (C := RX5) (T := TX5) (N := 8) (ci := 3) (v := .int (nI (b 0))) S in_X10_digest_X5 G 1 rfl rfl 2 (by decide) lk_X10_digest_87 rfl dX10_digest_38 ?_
        refine lv_icmp_ge (tgt := 97) zx zb dX10_digest_41 (by decide) (fun c_2 => ?_) (fun c_2 => ?_)
        · have fc_2 := j_le (a := (b 0)) (b := k33) (by omega) (by omega) c_2
          refine lv_aload_n zx zb dX10_digest_97 rfl (lv_at hl 2 rfl) ?_
          refine r_get (C := RX10) (T := TX10) (N := 14) (ci := 8) (v := .ref nw) S in_X10_digest_X10 G 0 rfl rfl 0 (by decide) lk_X10_digest_10 rfl dX10_digest_98 ?_
          refine r_get (C := RX5) (T := TX5) (N := 8) (ci := 3) (v := .ref (an 9)) S in_X10_digest_X5 G 1 rfl rfl 5 (by decide) lk_X10_digest_185 rfl dX10_digest_101 ?_
          refine lv_lload_n zx zb dX10_digest_104 rfl (lv_at hl 1 rfl) ?_
          refine o_rl (cells' := 0) (slots' := 0) G rfl rfl (n_V (As := [.long x33_1]) (rest := []) (C := RX7) (T := TX7) (N := 5) (ci := 5) S G (s_mixInto0 l X (an 9) (an 10) (b 2) (g 1) x33_1 hb2_b H.size) gX10_digest_X7_mixInto rfl rfl rfl hdV_X7_mixInto ⟨Nat.le_of_ble_eq_true rfl, Nat.le_of_ble_eq_true rfl⟩ [11, 12] rfl rfl 11 rfl rfl rfl hl.1 (Nat.le_of_ble_eq_true rfl) dX10_digest_105 ⟨Nat.le_of_ble_eq_true rfl, Nat.le_of_ble_eq_true rfl⟩) (fun r_3 u_3 H locs hp_3 G => ?_)
          have G : wd X (va_A (@HAppend.hAppend va_W va_W va_W _ (xW h0 nw sp xa la lb) (@HAppend.hAppend va_W va_W va_W _ (rcW X nw an v b g) (@HAppend.hAppend va_W va_W va_W _ (rdW X (xa 4) hb bd vd fd) ([((xa 5), .inl (X.2.1, 3, .inl fr))])))) sz) (va_A (@HAppend.hAppend va_W va_W va_W _ (xW h0 nw sp xa la lb) (@HAppend.hAppend va_W va_W va_W _ (rcW X nw an v b g) (@HAppend.hAppend va_W va_W va_W _ (rdW X (xa 4) hb bd vd fd) ([((xa 5), .inl (X.2.1, 3, .inl fr))])))) sz) s (@HAppend.hAppend va_W va_W va_W _ (xW h0 nw sp xa la lb) (@HAppend.hAppend va_W va_W va_W _ (rcW X nw an v b g) (@HAppend.hAppend va_W va_W va_W _ (rdW X (xa 4) hb bd vd fd) ([((xa 5), .inl (X.2.1, 3, .inl f6_3))])))) H locs := G
          refine lv_lstore_n (lv' := [(1, .long r_3), (3, .int (nI k33)), (0, .ref h0)]) zx zb dX10_digest_108 rfl hl (by decide) rfl (fun ls hl => ?_)
          refine lv_aload_n zx zb dX10_digest_109 rfl (lv_at hl 2 rfl) ?_
          refine r_get (C := RX10) (T := TX10) (N := 14) (ci := 8) (v := .ref nw) S in_X10_digest_X10 G 0 rfl rfl 0 (by decide) lk_X10_digest_10 rfl dX10_digest_110 ?_
          refine r_get (C := RX5) (T := TX5) (N := 8) (ci := 3) (v := .ref (an 11)) S in_X10_digest_X5 G 1 rfl rfl 6 (by decide) lk_X10_digest_212 rfl dX10_digest_113 ?_
          refine lv_lload_n zx zb dX10_digest_116 rfl (lv_at hl 0 rfl) ?_
          refine o_rl (cells' := 0) (slots' := 0) G rfl rfl (n_V (As := [.long r_3]) (rest := []) (C := RX7) (T := TX7) (N := 5) (ci := 5) S G (s_mixInto1 l X (an 11) (an 12) (b 3) (g 2) r_3 hb3_b H.size) gX10_digest_X7_mixInto rfl rfl rfl hdV_X7_mixInto ⟨Nat.le_of_ble_eq_true rfl, Nat.le_of_ble_eq_true rfl⟩ [13, 14] rfl rfl 13 rfl rfl rfl hl.1 (Nat.le_of_ble_eq_true rfl) dX10_digest_117 ⟨Nat.le_of_ble_eq_true rfl, Nat.le_of_ble_eq_true rfl⟩) (fun r_4 u_4 H locs hp_4 G => ?_)
          have G : wd X (va_A (@HAppend.hAppend va_W va_W va_W _ (xW h0 nw sp xa la lb) (@HAppend.hAppend va_W va_W va_W _ (rcW X nw an v b g) (@HAppend.hAppend va_W va_W va_W _ (rdW X (xa 4) hb bd vd fd) ([((xa 5), .inl (X.2.1, 3, .inl fr))])))) sz) (va_A (@HAppend.hAppend va_W va_W va_W _ (xW h0 nw sp xa la lb) (@HAppend.hAppend va_W va_W va_W _ (rcW X nw an v b g) (@HAppend.hAppend va_W va_W va_W _ (rdW X (xa 4) hb bd vd fd) ([((xa 5), .inl (X.2.1, 3, .inl fr))])))) sz) s (@HAppend.hAppend va_W va_W va_W _ (xW h0 nw sp xa la lb) (@HAppend.hAppend va_W va_W va_W _ (rcW X nw an v b g) (@HAppend.hAppend va_W va_W va_W _ (rdW X (xa 4) hb bd vd fd) ([((xa 5), .inl (X.2.1, 3, .inl f6_3))])))) H locs := G
          refine lv_lstore_n (lv' := [(1, .long r_4), (3, .int (nI k33)), (0, .ref h0)]) zx zb dX10_digest_120 rfl hl (by decide) rfl (fun ls hl => ?_)
          refine lv_aload_n zx zb dX10_digest_121 rfl (lv_at hl 2 rfl) ?_
          refine r_get (C := RX10) (T := TX10) (N := 14) (ci := 8) (v := .ref nw) S in_X10_digest_X10 G 0 rfl rfl 0 (by decide) lk_X10_digest_10 rfl dX10_digest_122 ?_
          refine r_get (C := RX5) (T := TX5) (N := 8) (ci := 3) (v := .ref (an 13)) S in_X10_digest_X5 G 1 rfl rfl 7 (by decide) lk_X10_digest_215 rfl dX10_digest_125 ?_
          refine lv_lload_n zx zb dX10_digest_128 rfl (lv_at hl 0 rfl) ?_
          refine o_rl (cells' := 0) (slots' := 0) G rfl rfl (n_V (As := [.long r_4]) (rest := []) (C := RX7) (T := TX7) (N := 5) (ci := 5) S G (s_mixInto2 l X (an 13) (an 14) (b 4) (g 3) r_4 hb4_b H.size) gX10_digest_X7_mixInto rfl rfl rfl hdV_X7_mixInto ⟨Nat.le_of_ble_eq_true rfl, Nat.le_of_ble_eq_true rfl⟩ [15, 16] rfl rfl 15 rfl rfl rfl hl.1 (Nat.le_of_ble_eq_true rfl) dX10_digest_129 ⟨Nat.le_of_ble_eq_true rfl, Nat.le_of_ble_eq_true rfl⟩) (fun r_5 u_5 H locs hp_5 G => ?_)
          have G : wd X (va_A (@HAppend.hAppend va_W va_W va_W _ (xW h0 nw sp xa la lb) (@HAppend.hAppend va_W va_W va_W _ (rcW X nw an v b g) (@HAppend.hAppend va_W va_W va_W _ (rdW X (xa 4) hb bd vd fd) ([((xa 5), .inl (X.2.1, 3, .inl fr))])))) sz) (va_A (@HAppend.hAppend va_W va_W va_W _ (xW h0 nw sp xa la lb) (@HAppend.hAppend va_W va_W va_W _ (rcW X nw an v b g) (@HAppend.hAppend va_W va_W va_W _ (rdW X (xa 4) hb bd vd fd) ([((xa 5), .inl (X.2.1, 3, .inl fr))])))) sz) s (@HAppend.hAppend va_W va_W va_W _ (xW h0 nw sp xa la lb) (@HAppend.hAppend va_W va_W va_W _ (rcW X nw an v b g) (@HAppend.hAppend va_W va_W va_W _ (rdW X (xa 4) hb bd vd fd) ([((xa 5), .inl (X.2.1, 3, .inl f6_3))])))) H locs := G
          refine lv_lstore_n (lv' := [(1, .long r_5), (3, .int (nI k33)), (0, .ref h0)]) zx zb dX10_digest_132 rfl hl (by decide) rfl (fun ls hl => ?_)
          refine lv_ldc2 zx zb S.2.2.2.1 (S.2.2.2.2 _ mm_X10_digest_c291) dX10_digest_133 ?_
          refine k_ld (v := (Int32.toInt64 31)) (by decide) ?_
          refine lv_lload_n zx zb dX10_digest_136 rfl (lv_at hl 0 rfl) ?_
          refine r_lmul (v := ((Int32.toInt64 31) * r_5)) S rfl dX10_digest_137 ?_
          refine lv_aload_n zx zb dX10_digest_138 rfl (lv_at hl 2 rfl) ?_
          refine r_get (C := RX10) (T := TX10) (N := 14) (ci := 8) (v := .long la) S in_X10_digest_X10 G 0 rfl rfl 6 (by decide) lk_X10_digest_38 rfl dX10_digest_139 ?_
          refine r_ladd (v := (((Int32.toInt64 31) * r_5) + la)) S rfl dX10_digest_142 ?_
          refine lv_lstore_n (lv' := [(1, .long (((Int32.toInt64 31) * r_5) + la)), (3, .int (nI k33)), (0, .ref h0)]) zx zb dX10_digest_143 rfl hl (by decide) rfl (fun ls hl => ?_)
          refine lv_ldc2 zx zb S.2.2.2.1 (S.2.2.2.2 _ mm_X10_digest_c291) dX10_digest_144 ?_
          refine k_ld (v := (Int32.toInt64 31)) (by decide) ?_
          refine lv_lload_n zx zb dX10_digest_147 rfl (lv_at hl 0 rfl) ?_
          refine r_lmul (v := ((Int32.toInt64 31) * (((Int32.toInt64 31) * r_5) + la))) S rfl dX10_digest_148 ?_
          refine lv_aload_n zx zb dX10_digest_149 rfl (lv_at hl 2 rfl) ?_
          refine r_get (C := RX10) (T := TX10) (N := 14) (ci := 8) (v := .long lb) S in_X10_digest_X10 G 0 rfl rfl 7 (by decide) lk_X10_digest_42 rfl dX10_digest_150 ?_
          refine r_ladd (v := (((Int32.toInt64 31) * (((Int32.toInt64 31) * r_5) + la)) + lb)) S rfl dX10_digest_153 ?_
          exact e_long S zr zlk G (f6_3) [0, 1, 2, 3, 4, 5, 6, 7, 8, 9, 10, 11, 12, 13, 14, 15, 16, 17, 18, 19] rfl rfl (Or.inr rfl) (trivial) dX10_digest_154
        · have fc_2 := j_nle (a := (b 0)) (b := k33) (by omega) (by omega) c_2
          refine lv_iconst (v := 0) zx zb dX10_digest_44 (by decide) ?_
          refine lv_istore (lv' := [(4, .int 0), (3, .int (nI k33)), (1, .long x33_1), (0, .ref h0)]) zx zb dX10_digest_45 hl (by decide) rfl (fun ls hl => ?_)
          refine k_loop (P := ∀ (zm : Nat) (k47 : Nat) (x47_1 : Int64) (H : Heap) (locs : List Loc) (ls : Array Slot), 8 + 1 ≤ k47 + zm → (k47 ≤ 8) → wd X (va_A (@HAppend.hAppend va_W va_W va_W _ (xW h0 nw sp xa la lb) (@HAppend.hAppend va_W va_W va_W _ (rcW X nw an v b g) (@HAppend.hAppend va_W va_W va_W _ (rdW X (xa 4) hb bd vd fd) ([((xa 5), .inl (X.2.1, 3, .inl fr))])))) sz) (va_A (@HAppend.hAppend va_W va_W va_W _ (xW h0 nw sp xa la lb) (@HAppend.hAppend va_W va_W va_W _ (rcW X nw an v b g) (@HAppend.hAppend va_W va_W va_W _ (rdW X (xa 4) hb bd vd fd) ([((xa 5), .inl (X.2.1, 3, .inl fr))])))) sz) s (@HAppend.hAppend va_W va_W va_W _ (xW h0 nw sp xa la lb) (@HAppend.hAppend va_W va_W va_W _ (rcW X nw an v b g) (@HAppend.hAppend va_W va_W va_W _ (rdW X (xa 4) hb bd vd fd) ([((xa 5), .inl (X.2.1, 3, .inl f6_3))])))) H locs → lv_has ls 5 [(4, .int (nI k47)), (3, .int (nI k33)), (1, .long x47_1), (0, .ref h0)] → W p l e _ s m _ below meth c H locs _ _ _ (F0 m 47 ls [])) (fun loop => loop (8 + 1) 0 x33_1 _ _ _ (by omega) (by omega) G hl) ?_
          intro zm
          induction zm with
          | zero => intro k47 x47_1 H locs ls zz q_hk_k47 _ _; exact absurd zz (by omega)
          | succ zm ih47 =>
            intro k47 x47_1 H locs ls zm_47 hk_k47 G hl
            refine lv_iload zx zb dX10_digest_47 (lv_at hl 0 rfl) ?_
            refine lv_bipush (v := 7) zx zb dX10_digest_49 (by decide) ?_
            refine lv_icmp_gt (tgt := 91) zx zb dX10_digest_51 (by decide) (fun c_6 => ?_) (fun c_6 => ?_)
            · have fc_6 := j_lt (a := 7) (b := k47) (by omega) (by omega) c_6
              refine lv_iinc (v := (nI (k33 + 1))) (lv' := [(3, .int (nI (k33 + 1))), (4, .int (nI k47)), (1, .long x47_1), (0, .ref h0)]) zx zb dX10_digest_91 hl (k := 1) rfl (nI_add k33 1) (by decide) rfl (fun ls hl => ?_)
              refine lv_goto (tgt := 33) zx zb dX10_digest_94 (by decide) ?_
              have hl := lv_sub hl (l' := [(3, .int (nI (k33 + 1))), (1, .long x47_1), (0, .ref h0)]) [0, 2, 3] rfl
              exact ih33 (k33 + 1) x47_1 _ _ _ (by omega) (by omega) G hl
            · have fc_6 := j_nlt (a := 7) (b := k47) (by omega) (by omega) c_6
              refine lv_ldc2 zx zb S.2.2.2.1 (S.2.2.2.2 _ mm_X10_digest_c291) dX10_digest_54 ?_
              refine k_ld (v := (Int32.toInt64 31)) (by decide) ?_
              refine lv_lload_n zx zb dX10_digest_57 rfl (lv_at hl 2 rfl) ?_
              refine r_lmul (v := ((Int32.toInt64 31) * x47_1)) S rfl dX10_digest_58 ?_
              refine lv_aload_n zx zb dX10_digest_59 rfl (lv_at hl 3 rfl) ?_
              refine r_get (C := RX10) (T := TX10) (N := 14) (ci := 8) (v := .ref nw) S in_X10_digest_X10 G 0 rfl rfl 0 (by decide) lk_X10_digest_10 rfl dX10_digest_60 ?_
              refine r_get (C := RX5) (T := TX5) (N := 8) (ci := 3) (v := .ref (an 0)) S in_X10_digest_X5 G 1 rfl rfl 3 (by decide) lk_X10_digest_126 rfl dX10_digest_63 ?_
              refine lv_iload_n zx zb dX10_digest_66 rfl (lv_at hl 1 rfl) ?_
              rcases k_6c (show k33 < 6 by omega) with rfl | rfl | rfl | rfl | rfl | rfl
              · refine k_it (v := 0) rfl ?_
                refine r_aald (C := RX8) (b := (an 1)) S G 2 3 rfl rfl (k_vp (by decide)) rfl dX10_digest_67 ?_
                refine lv_iload zx zb dX10_digest_68 (lv_at hl 0 rfl) ?_
                refine lv_aload_n zx zb dX10_digest_70 rfl (lv_at hl 3 rfl) ?_
                refine r_get (C := RX10) (T := TX10) (N := 14) (ci := 8) (v := .ref nw) S in_X10_digest_X10 G 0 rfl rfl 0 (by decide) lk_X10_digest_10 rfl dX10_digest_71 ?_
                refine r_get (C := RX5) (T := TX5) (N := 8) (ci := 3) (v := .int (v 1)) S in_X10_digest_X5 G 1 rfl rfl 1 (by decide) lk_X10_digest_110 rfl dX10_digest_74 ?_
                refine lv_iconst (v := 1) zx zb dX10_digest_77 (by decide) ?_
                refine r_iadd (v := ((v 1) + 1)) S rfl dX10_digest_78 ?_
                refine o_ri (cells' := 0) (slots' := 0) G rfl rfl (n_V (As := [.int (nI k47), .int ((v 1) + 1)]) (rest := [.long ((Int32.toInt64 31) * x47_1)]) (C := RX8) (T := TX8) (N := 8) (ci := 6) S G (s_fact l X (an 1) (fun k => v (10 + k)) (nI k47) ((v 1) + 1) H.size) gX10_digest_X8_fact rfl rfl rfl hdV_X8_fact ⟨Nat.le_of_ble_eq_true rfl, Nat.le_of_ble_eq_true rfl⟩ [3] rfl rfl 3 rfl rfl rfl hl.1 (Nat.le_of_ble_eq_true rfl) dX10_digest_79 ⟨Nat.le_of_ble_eq_true rfl, Nat.le_of_ble_eq_true rfl⟩) (fun r_7 u_7 H locs hp_7 G => ?_)
                have G : wd X (va_A (@HAppend.hAppend va_W va_W va_W _ (xW h0 nw sp xa la lb) (@HAppend.hAppend va_W va_W va_W _ (rcW X nw an v b g) (@HAppend.hAppend va_W va_W va_W _ (rdW X (xa 4) hb bd vd fd) ([((xa 5), .inl (X.2.1, 3, .inl fr))])))) sz) (va_A (@HAppend.hAppend va_W va_W va_W _ (xW h0 nw sp xa la lb) (@HAppend.hAppend va_W va_W va_W _ (rcW X nw an v b g) (@HAppend.hAppend va_W va_W va_W _ (rdW X (xa 4) hb bd vd fd) ([((xa 5), .inl (X.2.1, 3, .inl fr))])))) sz) s (@HAppend.hAppend va_W va_W va_W _ (xW h0 nw sp xa la lb) (@HAppend.hAppend va_W va_W va_W _ (rcW X nw an v b g) (@HAppend.hAppend va_W va_W va_W _ (rdW X (xa 4) hb bd vd fd) ([((xa 5), .inl (X.2.1, 3, .inl f6_3))])))) H locs := G
                refine lv_i2l (v := (Int32.toInt64 r_7)) zx zb dX10_digest_82 rfl ?_
                refine r_ladd (v := (((Int32.toInt64 31) * x47_1) + (Int32.toInt64 r_7))) S rfl dX10_digest_83 ?_
                refine lv_lstore_n (lv' := [(1, .long (((Int32.toInt64 31) * x47_1) + (Int32.toInt64 r_7))), (4, .int (nI k47)), (3, .int 0), (0, .ref h0)]) zx zb dX10_digest_84 rfl hl (by decide) rfl (fun ls hl => ?_)
                refine lv_iinc (v := (nI (k47 + 1))) (lv' := [(4, .int (nI (k47 + 1))), (1, .long (((Int32.toInt64 31) * x47_1) + (Int32.toInt64 r_7))), (3, .int 0), (0, .ref h0)]) zx zb dX10_digest_85 hl (k := 1) rfl (nI_add k47 1) (by decide) rfl (fun ls hl => ?_)
                refine lv_goto (tgt := 47) zx zb dX10_digest_88 (by decide) ?_
                have hl := lv_sub hl (l' := [(4, .int (nI (k47 + 1))), (3, .int 0), (1, .long (((Int32.toInt64 31) * x47_1) + (Int32.toInt64 r_7))), (0, .ref h0)]) [0, 2, 1, 3] rfl
                exact ih47 (k47 + 1) (((Int32.toInt64 31) * x47_1) + (Int32.toInt64 r_7)) _ _ _ (by omega) (by omega) G hl
              · refine k_it (v := 1) rfl ?_
                refine r_aald (C := RX8) (b := (an 2)) S G 2 3 rfl rfl (k_vp (by decide)) rfl dX10_digest_67 ?_
                refine lv_iload zx zb dX10_digest_68 (lv_at hl 0 rfl) ?_
                refine lv_aload_n zx zb dX10_digest_70 rfl (lv_at hl 3 rfl) ?_
                refine r_get (C := RX10) (T := TX10) (N := 14) (ci := 8) (v := .ref nw) S in_X10_digest_X10 G 0 rfl rfl 0 (by decide) lk_X10_digest_10 rfl dX10_digest_71 ?_
                refine r_get (C := RX5) (T := TX5) (N := 8) (ci := 3) (v := .int (v 1)) S in_X10_digest_X5 G 1 rfl rfl 1 (by decide) lk_X10_digest_110 rfl dX10_digest_74 ?_
                refine lv_iconst (v := 1) zx zb dX10_digest_77 (by decide) ?_
                refine r_iadd (v := ((v 1) + 1)) S rfl dX10_digest_78 ?_
                refine o_ri (cells' := 0) (slots' := 0) G rfl rfl (n_V (As := [.int (nI k47), .int ((v 1) + 1)]) (rest := [.long ((Int32.toInt64 31) * x47_1)]) (C := RX8) (T := TX8) (N := 8) (ci := 6) S G (s_fact l X (an 2) (fun k => v (18 + k)) (nI k47) ((v 1) + 1) H.size) gX10_digest_X8_fact rfl rfl rfl hdV_X8_fact ⟨Nat.le_of_ble_eq_true rfl, Nat.le_of_ble_eq_true rfl⟩ [4] rfl rfl 4 rfl rfl rfl hl.1 (Nat.le_of_ble_eq_true rfl) dX10_digest_79 ⟨Nat.le_of_ble_eq_true rfl, Nat.le_of_ble_eq_true rfl⟩) (fun r_8 u_8 H locs hp_8 G => ?_)
                have G : wd X (va_A (@HAppend.hAppend va_W va_W va_W _ (xW h0 nw sp xa la lb) (@HAppend.hAppend va_W va_W va_W _ (rcW X nw an v b g) (@HAppend.hAppend va_W va_W va_W _ (rdW X (xa 4) hb bd vd fd) ([((xa 5), .inl (X.2.1, 3, .inl fr))])))) sz) (va_A (@HAppend.hAppend va_W va_W va_W _ (xW h0 nw sp xa la lb) (@HAppend.hAppend va_W va_W va_W _ (rcW X nw an v b g) (@HAppend.hAppend va_W va_W va_W _ (rdW X (xa 4) hb bd vd fd) ([((xa 5), .inl (X.2.1, 3, .inl fr))])))) sz) s (@HAppend.hAppend va_W va_W va_W _ (xW h0 nw sp xa la lb) (@HAppend.hAppend va_W va_W va_W _ (rcW X nw an v b g) (@HAppend.hAppend va_W va_W va_W _ (rdW X (xa 4) hb bd vd fd) ([((xa 5), .inl (X.2.1, 3, .inl f6_3))])))) H locs := G
                refine lv_i2l (v := (Int32.toInt64 r_8)) zx zb dX10_digest_82 rfl ?_
                refine r_ladd (v := (((Int32.toInt64 31) * x47_1) + (Int32.toInt64 r_8))) S rfl dX10_digest_83 ?_
                refine lv_lstore_n (lv' := [(1, .long (((Int32.toInt64 31) * x47_1) + (Int32.toInt64 r_8))), (4, .int (nI k47)), (3, .int 1), (0, .ref h0)]) zx zb dX10_digest_84 rfl hl (by decide) rfl (fun ls hl => ?_)
                refine lv_iinc (v := (nI (k47 + 1))) (lv' := [(4, .int (nI (k47 + 1))), (1, .long (((Int32.toInt64 31) * x47_1) + (Int32.toInt64 r_8))), (3, .int 1), (0, .ref h0)]) zx zb dX10_digest_85 hl (k := 1) rfl (nI_add k47 1) (by decide) rfl (fun ls hl => ?_)
                refine lv_goto (tgt := 47) zx zb dX10_digest_88 (by decide) ?_
                have hl := lv_sub hl (l' := [(4, .int (nI (k47 + 1))), (3, .int 1), (1, .long (((Int32.toInt64 31) * x47_1) + (Int32.toInt64 r_8))), (0, .ref h0)]) [0, 2, 1, 3] rfl
                exact ih47 (k47 + 1) (((Int32.toInt64 31) * x47_1) + (Int32.toInt64 r_8)) _ _ _ (by omega) (by omega) G hl
              · refine k_it (v := 2) rfl ?_
                refine r_aald (C := RX8) (b := (an 3)) S G 2 3 rfl rfl (k_vp (by decide)) rfl dX10_digest_67 ?_
                refine lv_iload zx zb dX10_digest_68 (lv_at hl 0 rfl) ?_
                refine lv_aload_n zx zb dX10_digest_70 rfl (lv_at hl 3 rfl) ?_
                refine r_get (C := RX10) (T := TX10) (N := 14) (ci := 8) (v := .ref nw) S in_X10_digest_X10 G 0 rfl rfl 0 (by decide) lk_X10_digest_10 rfl dX10_digest_71 ?_
                refine r_get (C := RX5) (T := TX5) (N := 8) (ci := 3) (v := .int (v 1)) S in_X10_digest_X5 G 1 rfl rfl 1 (by decide) lk_X10_digest_110 rfl dX10_digest_74 ?_
                refine lv_iconst (v := 1) zx zb dX10_digest_77 (by decide) ?_
                refine r_iadd (v := ((v 1) + 1)) S rfl dX10_digest_78 ?_
                refine o_ri (cells' := 0) (slots' := 0) G rfl rfl (n_V (As := [.int (nI k47), .int ((v 1) + 1)]) (rest := [.long ((Int32.toInt64 31) * x47_1)]) (C := RX8) (T := TX8) (N := 8) (ci := 6) S G (s_fact l X (an 3) (fun k => v (26 + k)) (nI k47) ((v 1) + 1) H.size) gX10_digest_X8_fact rfl rfl rfl hdV_X8_fact ⟨Nat.le_of_ble_eq_true rfl, Nat.le_of_ble_eq_true rfl⟩ [5] rfl rfl 5 rfl rfl rfl hl.1 (Nat.le_of_ble_eq_true rfl) dX10_digest_79 ⟨Nat.le_of_ble_eq_true rfl, Nat.le_of_ble_eq_true rfl⟩) (fun r_9 u_9 H locs hp_9 G => ?_)
                have G : wd X (va_A (@HAppend.hAppend va_W va_W va_W _ (xW h0 nw sp xa la lb) (@HAppend.hAppend va_W va_W va_W _ (rcW X nw an v b g) (@HAppend.hAppend va_W va_W va_W _ (rdW X (xa 4) hb bd vd fd) ([((xa 5), .inl (X.2.1, 3, .inl fr))])))) sz) (va_A (@HAppend.hAppend va_W va_W va_W _ (xW h0 nw sp xa la lb) (@HAppend.hAppend va_W va_W va_W _ (rcW X nw an v b g) (@HAppend.hAppend va_W va_W va_W _ (rdW X (xa 4) hb bd vd fd) ([((xa 5), .inl (X.2.1, 3, .inl fr))])))) sz) s (@HAppend.hAppend va_W va_W va_W _ (xW h0 nw sp xa la lb) (@HAppend.hAppend va_W va_W va_W _ (rcW X nw an v b g) (@HAppend.hAppend va_W va_W va_W _ (rdW X (xa 4) hb bd vd fd) ([((xa 5), .inl (X.2.1, 3, .inl f6_3))])))) H locs := G
                refine lv_i2l (v := (Int32.toInt64 r_9)) zx zb dX10_digest_82 rfl ?_
                refine r_ladd (v := (((Int32.toInt64 31) * x47_1) + (Int32.toInt64 r_9))) S rfl dX10_digest_83 ?_
                refine lv_lstore_n (lv' := [(1, .long (((Int32.toInt64 31) * x47_1) + (Int32.toInt64 r_9))), (4, .int (nI k47)), (3, .int 2), (0, .ref h0)]) zx zb dX10_digest_84 rfl hl (by decide) rfl (fun ls hl => ?_)
                refine lv_iinc (v := (nI (k47 + 1))) (lv' := [(4, .int (nI (k47 + 1))), (1, .long (((Int32.toInt64 31) * x47_1) + (Int32.toInt64 r_9))), (3, .int 2), (0, .ref h0)]) zx zb dX10_digest_85 hl (k := 1) rfl (nI_add k47 1) (by decide) rfl (fun ls hl => ?_)
                refine lv_goto (tgt := 47) zx zb dX10_digest_88 (by decide) ?_
                have hl := lv_sub hl (l' := [(4, .int (nI (k47 + 1))), (3, .int 2), (1, .long (((Int32.toInt64 31) * x47_1) + (Int32.toInt64 r_9))), (0, .ref h0)]) [0, 2, 1, 3] rfl
                exact ih47 (k47 + 1) (((Int32.toInt64 31) * x47_1) + (Int32.toInt64 r_9)) _ _ _ (by omega) (by omega) G hl
              · refine k_it (v := 3) rfl ?_
                refine r_aald (C := RX8) (b := (an 4)) S G 2 3 rfl rfl (k_vp (by decide)) rfl dX10_digest_67 ?_
                refine lv_iload zx zb dX10_digest_68 (lv_at hl 0 rfl) ?_
                refine lv_aload_n zx zb dX10_digest_70 rfl (lv_at hl 3 rfl) ?_
                refine r_get (C := RX10) (T := TX10) (N := 14) (ci := 8) (v := .ref nw) S in_X10_digest_X10 G 0 rfl rfl 0 (by decide) lk_X10_digest_10 rfl dX10_digest_71 ?_
                refine r_get (C := RX5) (T := TX5) (N := 8) (ci := 3) (v := .int (v 1)) S in_X10_digest_X5 G 1 rfl rfl 1 (by decide) lk_X10_digest_110 rfl dX10_digest_74 ?_
                refine lv_iconst (v := 1) zx zb dX10_digest_77 (by decide) ?_
                refine r_iadd (v := ((v 1) + 1)) S rfl dX10_digest_78 ?_
                refine o_ri (cells' := 0) (slots' := 0) G rfl rfl (n_V (As := [.int (nI k47), .int ((v 1) + 1)]) (rest := [.long ((Int32.toInt64 31) * x47_1)]) (C := RX8) (T := TX8) (N := 8) (ci := 6) S G (s_fact l X (an 4) (fun k => v (34 + k)) (nI k47) ((v 1) + 1) H.size) gX10_digest_X8_fact rfl rfl rfl hdV_X8_fact ⟨Nat.le_of_ble_eq_true rfl, Nat.le_of_ble_eq_true rfl⟩ [6] rfl rfl 6 rfl rfl rfl hl.1 (Nat.le_of_ble_eq_true rfl) dX10_digest_79 ⟨Nat.le_of_ble_eq_true rfl, Nat.le_of_ble_eq_true rfl⟩) (fun r_10 u_10 H locs hp_10 G => ?_)
                have G : wd X (va_A (@HAppend.hAppend va_W va_W va_W _ (xW h0 nw sp xa la lb) (@HAppend.hAppend va_W va_W va_W _ (rcW X nw an v b g) (@HAppend.hAppend va_W va_W va_W _ (rdW X (xa 4) hb bd vd fd) ([((xa 5), .inl (X.2.1, 3, .inl fr))])))) sz) (va_A (@HAppend.hAppend va_W va_W va_W _ (xW h0 nw sp xa la lb) (@HAppend.hAppend va_W va_W va_W _ (rcW X nw an v b g) (@HAppend.hAppend va_W va_W va_W _ (rdW X (xa 4) hb bd vd fd) ([((xa 5), .inl (X.2.1, 3, .inl fr))])))) sz) s (@HAppend.hAppend va_W va_W va_W _ (xW h0 nw sp xa la lb) (@HAppend.hAppend va_W va_W va_W _ (rcW X nw an v b g) (@HAppend.hAppend va_W va_W va_W _ (rdW X (xa 4) hb bd vd fd) ([((xa 5), .inl (X.2.1, 3, .inl f6_3))])))) H locs := G
                refine lv_i2l (v := (Int32.toInt64 r_10)) zx zb dX10_digest_82 rfl ?_
                refine r_ladd (v := (((Int32.toInt64 31) * x47_1) + (Int32.toInt64 r_10))) S rfl dX10_digest_83 ?_
                refine lv_lstore_n (lv' := [(1, .long (((Int32.toInt64 31) * x47_1) + (Int32.toInt64 r_10))), (4, .int (nI k47)), (3, .int 3), (0, .ref h0)]) zx zb dX10_digest_84 rfl hl (by decide) rfl (fun ls hl => ?_)
                refine lv_iinc (v := (nI (k47 + 1))) (lv' := [(4, .int (nI (k47 + 1))), (1, .long (((Int32.toInt64 31) * x47_1) + (Int32.toInt64 r_10))), (3, .int 3), (0, .ref h0)]) zx zb dX10_digest_85 hl (k := 1) rfl (nI_add k47 1) (by decide) rfl (fun ls hl => ?_)
                refine lv_goto (tgt := 47) zx zb dX10_digest_88 (by decide) ?_
                have hl := lv_sub hl (l' := [(4, .int (nI (k47 + 1))), (3, .int 3), (1, .long (((Int32.toInt64 31) * x47_1) + (Int32.toInt64 r_10))), (0, .ref h0)]) [0, 2, 1, 3] rfl
                exact ih47 (k47 + 1) (((Int32.toInt64 31) * x47_1) + (Int32.toInt64 r_10)) _ _ _ (by omega) (by omega) G hl
              · refine k_it (v := 4) rfl ?_
                refine r_aald (C := RX8) (b := (an 5)) S G 2 3 rfl rfl (k_vp (by decide)) rfl dX10_digest_67 ?_
                refine lv_iload zx zb dX10_digest_68 (lv_at hl 0 rfl) ?_
                refine lv_aload_n zx zb dX10_digest_70 rfl (lv_at hl 3 rfl) ?_
                refine r_get (C := RX10) (T := TX10) (N := 14) (ci := 8) (v := .ref nw) S in_X10_digest_X10 G 0 rfl rfl 0 (by decide) lk_X10_digest_10 rfl dX10_digest_71 ?_
                refine r_get (C := RX5) (T := TX5) (N := 8) (ci := 3) (v := .int (v 1)) S in_X10_digest_X5 G 1 rfl rfl 1 (by decide) lk_X10_digest_110 rfl dX10_digest_74 ?_
                refine lv_iconst (v := 1) zx zb dX10_digest_77 (by decide) ?_
                refine r_iadd (v := ((v 1) + 1)) S rfl dX10_digest_78 ?_
                refine o_ri (cells' := 0) (slots' := 0) G rfl rfl (n_V (As := [.int (nI k47), .int ((v 1) + 1)]) (rest := [.long ((Int32.toInt64 31) * x47_1)]) (C := RX8) (T := TX8) (N := 8) (ci := 6) S G (s_fact l X (an 5) (fun k => v (42 + k)) (nI k47) ((v 1) + 1) H.size) gX10_digest_X8_fact rfl rfl rfl hdV_X8_fact ⟨Nat.le_of_ble_eq_true rfl, Nat.le_of_ble_eq_true rfl⟩ [7] rfl rfl 7 rfl rfl rfl hl.1 (Nat.le_of_ble_eq_true rfl) dX10_digest_79 ⟨Nat.le_of_ble_eq_true rfl, Nat.le_of_ble_eq_true rfl⟩) (fun r_11 u_11 H locs hp_11 G => ?_)
                have G : wd X (va_A (@HAppend.hAppend va_W va_W va_W _ (xW h0 nw sp xa la lb) (@HAppend.hAppend va_W va_W va_W _ (rcW X nw an v b g) (@HAppend.hAppend va_W va_W va_W _ (rdW X (xa 4) hb bd vd fd) ([((xa 5), .inl (X.2.1, 3, .inl fr))])))) sz) (va_A (@HAppend.hAppend va_W va_W va_W _ (xW h0 nw sp xa la lb) (@HAppend.hAppend va_W va_W va_W _ (rcW X nw an v b g) (@HAppend.hAppend va_W va_W va_W _ (rdW X (xa 4) hb bd vd fd) ([((xa 5), .inl (X.2.1, 3, .inl fr))])))) sz) s (@HAppend.hAppend va_W va_W va_W _ (xW h0 nw sp xa la lb) (@HAppend.hAppend va_W va_W va_W _ (rcW X nw an v b g) (@HAppend.hAppend va_W va_W va_W _ (rdW X (xa 4) hb bd vd fd) ([((xa 5), .inl (X.2.1, 3, .inl f6_3))])))) H locs := G
                refine lv_i2l (v := (Int32.toInt64 r_11)) zx zb dX10_digest_82 rfl ?_
                refine r_ladd (v := (((Int32.toInt64 31) * x47_1) + (Int32.toInt64 r_11))) S rfl dX10_digest_83 ?_
                refine lv_lstore_n (lv' := [(1, .long (((Int32.toInt64 31) * x47_1) + (Int32.toInt64 r_11))), (4, .int (nI k47)), (3, .int 4), (0, .ref h0)]) zx zb dX10_digest_84 rfl hl (by decide) rfl (fun ls hl => ?_)
                refine lv_iinc (v := (nI (k47 + 1))) (lv' := [(4, .int (nI (k47 + 1))), (1, .long (((Int32.toInt64 31) * x47_1) + (Int32.toInt64 r_11))), (3, .int 4), (0, .ref h0)]) zx zb dX10_digest_85 hl (k := 1) rfl (nI_add k47 1) (by decide) rfl (fun ls hl => ?_)
                refine lv_goto (tgt := 47) zx zb dX10_digest_88 (by decide) ?_
                have hl := lv_sub hl (l' := [(4, .int (nI (k47 + 1))), (3, .int 4), (1, .long (((Int32.toInt64 31) * x47_1) + (Int32.toInt64 r_11))), (0, .ref h0)]) [0, 2, 1, 3] rfl
                exact ih47 (k47 + 1) (((Int32.toInt64 31) * x47_1) + (Int32.toInt64 r_11)) _ _ _ (by omega) (by omega) G hl
              · refine k_it (v := 5) rfl ?_
                refine r_aald (C := RX8) (b := (an 6)) S G 2 3 rfl rfl (k_vp (by decide)) rfl dX10_digest_67 ?_
                refine lv_iload zx zb dX10_digest_68 (lv_at hl 0 rfl) ?_
                refine lv_aload_n zx zb dX10_digest_70 rfl (lv_at hl 3 rfl) ?_
                refine r_get (C := RX10) (T := TX10) (N := 14) (ci := 8) (v := .ref nw) S in_X10_digest_X10 G 0 rfl rfl 0 (by decide) lk_X10_digest_10 rfl dX10_digest_71 ?_
                refine r_get (C := RX5) (T := TX5) (N := 8) (ci := 3) (v := .int (v 1)) S in_X10_digest_X5 G 1 rfl rfl 1 (by decide) lk_X10_digest_110 rfl dX10_digest_74 ?_
                refine lv_iconst (v := 1) zx zb dX10_digest_77 (by decide) ?_
                refine r_iadd (v := ((v 1) + 1)) S rfl dX10_digest_78 ?_
                refine o_ri (cells' := 0) (slots' := 0) G rfl rfl (n_V (As := [.int (nI k47), .int ((v 1) + 1)]) (rest := [.long ((Int32.toInt64 31) * x47_1)]) (C := RX8) (T := TX8) (N := 8) (ci := 6) S G (s_fact l X (an 6) (fun k => v (50 + k)) (nI k47) ((v 1) + 1) H.size) gX10_digest_X8_fact rfl rfl rfl hdV_X8_fact ⟨Nat.le_of_ble_eq_true rfl, Nat.le_of_ble_eq_true rfl⟩ [8] rfl rfl 8 rfl rfl rfl hl.1 (Nat.le_of_ble_eq_true rfl) dX10_digest_79 ⟨Nat.le_of_ble_eq_true rfl, Nat.le_of_ble_eq_true rfl⟩) (fun r_12 u_12 H locs hp_12 G => ?_)
                have G : wd X (va_A (@HAppend.hAppend va_W va_W va_W _ (xW h0 nw sp xa la lb) (@HAppend.hAppend va_W va_W va_W _ (rcW X nw an v b g) (@HAppend.hAppend va_W va_W va_W _ (rdW X (xa 4) hb bd vd fd) ([((xa 5), .inl (X.2.1, 3, .inl fr))])))) sz) (va_A (@HAppend.hAppend va_W va_W va_W _ (xW h0 nw sp xa la lb) (@HAppend.hAppend va_W va_W va_W _ (rcW X nw an v b g) (@HAppend.hAppend va_W va_W va_W _ (rdW X (xa 4) hb bd vd fd) ([((xa 5), .inl (X.2.1, 3, .inl fr))])))) sz) s (@HAppend.hAppend va_W va_W va_W _ (xW h0 nw sp xa la lb) (@HAppend.hAppend va_W va_W va_W _ (rcW X nw an v b g) (@HAppend.hAppend va_W va_W va_W _ (rdW X (xa 4) hb bd vd fd) ([((xa 5), .inl (X.2.1, 3, .inl f6_3))])))) H locs := G
                refine lv_i2l (v := (Int32.toInt64 r_12)) zx zb dX10_digest_82 rfl ?_
                refine r_ladd (v := (((Int32.toInt64 31) * x47_1) + (Int32.toInt64 r_12))) S rfl dX10_digest_83 ?_
                refine lv_lstore_n (lv' := [(1, .long (((Int32.toInt64 31) * x47_1) + (Int32.toInt64 r_12))), (4, .int (nI k47)), (3, .int 5), (0, .ref h0)]) zx zb dX10_digest_84 rfl hl (by decide) rfl (fun ls hl => ?_)
                refine lv_iinc (v := (nI (k47 + 1))) (lv' := [(4, .int (nI (k47 + 1))), (1, .long (((Int32.toInt64 31) * x47_1) + (Int32.toInt64 r_12))), (3, .int 5), (0, .ref h0)]) zx zb dX10_digest_85 hl (k := 1) rfl (nI_add k47 1) (by decide) rfl (fun ls hl => ?_)
                refine lv_goto (tgt := 47) zx zb dX10_digest_88 (by decide) ?_
                have hl := lv_sub hl (l' := [(4, .int (nI (k47 + 1))), (3, .int 5), (1, .long (((Int32.toInt64 31) * x47_1) + (Int32.toInt64 r_12))), (0, .ref h0)]) [0, 2, 1, 3] rfl
                exact ih47 (k47 + 1) (((Int32.toInt64 31) * x47_1) + (Int32.toInt64 r_12)) _ _ _ (by omega) (by omega) G hl
    · have fc_1 := j_nlt (a := 10) (b := k6) (by omega) (by omega) c_1
      refine lv_ldc2 zx zb S.2.2.2.1 (S.2.2.2.2 _ mm_X10_digest_c291) dX10_digest_12 ?_
      refine k_ld (v := (Int32.toInt64 31)) (by decide) ?_
      refine lv_lload_n zx zb dX10_digest_15 rfl (lv_at hl 1 rfl) ?_
      refine r_lmul (v := ((Int32.toInt64 31) * x6_1)) S rfl dX10_digest_16 ?_
      refine lv_aload_n zx zb dX10_digest_17 rfl (lv_at hl 2 rfl) ?_
      refine lv_iload_n zx zb dX10_digest_18 rfl (lv_at hl 0 rfl) ?_
      refine b_wi (cells' := 0) (slots' := 0) (wr := []) G rfl rfl [0, 1, 2, 3, 4, 5, 6, 7, 8, 9, 10, 11, 12, 13, 14, 15, 16, 17, 18, 19] [] rfl rfl rfl rfl (n_V (As := [.int (nI k6)]) (rest := [.long ((Int32.toInt64 31) * x6_1)]) (C := RX10) (T := TX10) (N := 14) (ci := 8) S G (s_count l X h0 nw sp xa la lb an v b g hb bd vd fd f6_3 (nI k6) hI_b hI_bd H.size) gX10_digest_X10_count rfl rfl rfl hdV_X10_count ⟨Nat.le_of_ble_eq_true rfl, Nat.le_of_ble_eq_true rfl⟩ [0, 1, 2, 3, 4, 5, 6, 7, 8, 9, 10, 11, 12, 13, 14, 15, 16, 17, 18, 19] rfl rfl 0 rfl rfl rfl hl.1 (Nat.le_of_ble_eq_true rfl) dX10_digest_19 ⟨Nat.le_of_ble_eq_true rfl, Nat.le_of_ble_eq_true rfl⟩) (fun r_13 u_13 H locs hp_13 G => ?_)
      obtain ⟨f_13, rfl⟩ : ∃ z, z = u_13 := ⟨_, rfl⟩
      have hq_13 := hp_13
      have G : wd X (va_A (@HAppend.hAppend va_W va_W va_W _ (xW h0 nw sp xa la lb) (@HAppend.hAppend va_W va_W va_W _ (rcW X nw an v b g) (@HAppend.hAppend va_W va_W va_W _ (rdW X (xa 4) hb bd vd fd) ([((xa 5), .inl (X.2.1, 3, .inl fr))])))) sz) (va_A (@HAppend.hAppend va_W va_W va_W _ (xW h0 nw sp xa la lb) (@HAppend.hAppend va_W va_W va_W _ (rcW X nw an v b g) (@HAppend.hAppend va_W va_W va_W _ (rdW X (xa 4) hb bd vd fd) ([((xa 5), .inl (X.2.1, 3, .inl fr))])))) sz) s (@HAppend.hAppend va_W va_W va_W _ (xW h0 nw sp xa la lb) (@HAppend.hAppend va_W va_W va_W _ (rcW X nw an v b g) (@HAppend.hAppend va_W va_W va_W _ (rdW X (xa 4) hb bd vd fd) ([((xa 5), .inl (X.2.1, 3, .inl f_13))])))) H locs := G
      refine lv_i2l (v := (Int32.toInt64 r_13)) zx zb dX10_digest_22 rfl ?_
      refine r_ladd (v := (((Int32.toInt64 31) * x6_1) + (Int32.toInt64 r_13))) S rfl dX10_digest_23 ?_
      refine lv_lstore_n (lv' := [(1, .long (((Int32.toInt64 31) * x6_1) + (Int32.toInt64 r_13))), (3, .int (nI k6)), (0, .ref h0)]) zx zb dX10_digest_24 rfl hl (by decide) rfl (fun ls hl => ?_)
      refine lv_iinc (v := (nI (k6 + 1))) (lv' := [(3, .int (nI (k6 + 1))), (1, .long (((Int32.toInt64 31) * x6_1) + (Int32.toInt64 r_13))), (0, .ref h0)]) zx zb dX10_digest_25 hl (k := 1) rfl (nI_add k6 1) (by decide) rfl (fun ls hl => ?_)
      refine lv_goto (tgt := 6) zx zb dX10_digest_28 (by decide) ?_
      exact ih6 (k6 + 1) (((Int32.toInt64 31) * x6_1) + (Int32.toInt64 r_13)) f_13 _ _ _ (by omega) (by omega) G hl
