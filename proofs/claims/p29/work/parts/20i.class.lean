set_option maxRecDepth 20000 in
theorem ggX10_count_X10_refuse : GoodIn wsX10_count wsX10_refuse := goodIn_r _ [39, 40, 41, 42, 43, 44, 45, 46, 47, 48, 49, 50, 51, 52, 53, 54] rfl (by decide +kernel)
set_option maxRecDepth 20000 in
theorem gX10_count_X10_refuse : GoodIn wsX10_count (wsV RX10 83 RX10 yX10_refuse wsX10_refuse) := goodIn_app (goodIn_of _ (by decide +kernel)) ggX10_count_X10_refuse
set_option maxRecDepth 20000 in
theorem ggX10_count_X5_dropsTogether : GoodIn wsX10_count wsX5_dropsTogether := goodIn_r _ [33, 17, 18, 34, 55, 56, 57, 58, 59, 60, 61, 62, 77, 78, 79, 80, 81, 82, 83, 84] rfl (by decide +kernel)
set_option maxRecDepth 20000 in
theorem gX10_count_X5_dropsTogether : GoodIn wsX10_count (wsV RX10 279 RX5 yX5_dropsTogether wsX5_dropsTogether) := goodIn_app (goodIn_of _ (by decide +kernel)) ggX10_count_X5_dropsTogether
set_option maxRecDepth 20000 in
theorem ggX10_count_X5_homes : GoodIn wsX10_count wsX5_homes := goodIn_r _ [16, 17, 18, 19, 20, 21, 22, 23, 24, 55, 56, 57, 58, 59, 60, 61, 62, 77, 78, 79, 80, 81, 82, 83, 84] rfl (by decide +kernel)
set_option maxRecDepth 20000 in
theorem gX10_count_X5_homes : GoodIn wsX10_count (wsV RX10 119 RX5 yX5_homes wsX5_homes) := goodIn_app (goodIn_of _ (by decide +kernel)) ggX10_count_X5_homes
set_option maxRecDepth 20000 in
theorem ggX10_count_X5_placesTogether : GoodIn wsX10_count wsX5_placesTogether := goodIn_r _ [28, 17, 18, 29, 55, 56, 57, 58, 59, 60, 61, 62, 77, 78, 79, 80, 81, 82, 83, 84] rfl (by decide +kernel)
set_option maxRecDepth 20000 in
theorem gX10_count_X5_placesTogether : GoodIn wsX10_count (wsV RX10 276 RX5 yX5_placesTogether wsX5_placesTogether) := goodIn_app (goodIn_of _ (by decide +kernel)) ggX10_count_X5_placesTogether
set_option maxRecDepth 20000 in
theorem ggX10_digest_X10_count : GoodIn wsX10_digest wsX10_count := goodIn_r _ [16, 3, 4, 17, 6, 7, 18, 8, 9, 19, 20, 21, 22, 23, 24, 25, 26, 27, 28, 29, 30, 31, 32, 33, 34, 35, 36, 37, 38, 39, 40, 41, 42, 43, 44, 45, 46, 47, 15, 48, 49, 79, 80, 81, 82, 83, 84, 85, 86, 87, 88, 89, 90, 91, 92, 93, 94, 95, 96, 97, 98, 99, 100, 101, 102, 103, 104, 105, 106, 107, 108, 109, 110, 111, 112, 113, 114, 115, 116, 117, 118, 119, 120, 121, 122] rfl (by decide +kernel)
set_option maxRecDepth 20000 in
theorem gX10_digest_X10_count : GoodIn wsX10_digest (wsV RX10 293 RX10 yX10_count wsX10_count) := goodIn_app (goodIn_of _ (by decide +kernel)) ggX10_digest_X10_count
set_option maxRecDepth 20000 in
theorem ggX10_digest_X7_mixInto : GoodIn wsX10_digest wsX7_mixInto := goodIn_r _ [73, 74, 75, 76, 77, 78, 101, 102, 103, 104, 105] rfl (by decide +kernel)
set_option maxRecDepth 20000 in
theorem gX10_digest_X7_mixInto : GoodIn wsX10_digest (wsV RX10 296 RX7 yX7_mixInto wsX7_mixInto) := goodIn_app (goodIn_of _ (by decide +kernel)) ggX10_digest_X7_mixInto
set_option maxRecDepth 20000 in
theorem ggX10_digest_X8_fact : GoodIn wsX10_digest wsX8_fact := goodIn_r _ [53, 54, 55, 56, 57, 58, 59, 60, 34, 61, 62, 63, 64, 65, 66, 67, 68, 115, 116, 117, 118, 119, 120, 121, 122] rfl (by decide +kernel)
set_option maxRecDepth 20000 in
theorem gX10_digest_X8_fact : GoodIn wsX10_digest (wsV RX10 144 RX8 yX8_fact wsX8_fact) := goodIn_app (goodIn_of _ (by decide +kernel)) ggX10_digest_X8_fact
set_option maxRecDepth 20000 in
theorem ggX10_type_X10_refuse : GoodIn wsX10_type wsX10_refuse := goodIn_r _ [9, 10, 18, 19, 20, 21, 22, 23, 24, 25, 26, 27, 28, 29, 30, 31] rfl (by decide +kernel)
set_option maxRecDepth 20000 in
theorem gX10_type_X10_refuse : GoodIn wsX10_type (wsV RX10 83 RX10 yX10_refuse wsX10_refuse) := goodIn_app (goodIn_of _ (by decide +kernel)) ggX10_type_X10_refuse
set_option maxRecDepth 20000 in
theorem ggX10_type_X10_within : GoodIn wsX10_type wsX10_within := goodIn_r _ [5] rfl (by decide +kernel)
set_option maxRecDepth 20000 in
theorem gX10_type_X10_within : GoodIn wsX10_type (va_wsS RX10 79 yX10_within wsX10_within) := goodIn_app (goodIn_of _ (by decide +kernel)) ggX10_type_X10_within
set_option maxRecDepth 20000 in
theorem ggX10_type_X6_append : GoodIn wsX10_type wsX6_append := goodIn_r _ [15, 16, 17, 32, 33, 34, 35, 36, 37, 38] rfl (by decide +kernel)
set_option maxRecDepth 20000 in
theorem gX10_type_X6_append : GoodIn wsX10_type (wsV RX10 99 RX6 yX6_append wsX6_append) := goodIn_app (goodIn_of _ (by decide +kernel)) ggX10_type_X6_append
theorem dX10_clear_0 : decode cX10_clear 0 = .ok (.aload_n 0, 1) := by decide +kernel
theorem dX10_clear_1 : decode cX10_clear 1 = .ok (.getfield 30, 3) := by decide +kernel
theorem dX10_clear_12 : decode cX10_clear 12 = .ok (.iconst 0, 1) := by decide +kernel
theorem dX10_clear_13 : decode cX10_clear 13 = .ok (.putfield 103, 3) := by decide +kernel
theorem dX10_clear_16 : decode cX10_clear 16 = .ok (.iload_n 1, 1) := by decide +kernel
theorem dX10_clear_17 : decode cX10_clear 17 = .ok (.ireturn, 1) := by decide +kernel
theorem dX10_clear_4 : decode cX10_clear 4 = .ok (.getfield 103, 3) := by decide +kernel
theorem dX10_clear_7 : decode cX10_clear 7 = .ok (.istore_n 1, 1) := by decide +kernel
theorem dX10_clear_8 : decode cX10_clear 8 = .ok (.aload_n 0, 1) := by decide +kernel
theorem dX10_clear_9 : decode cX10_clear 9 = .ok (.getfield 30, 3) := by decide +kernel
theorem dX10_count_0 : decode cX10_count 0 = .ok (.iload_n 1, 1) := by decide +kernel
theorem dX10_count_1 : decode cX10_count 1 = .ok (.tableswitch 159 0 10 #[59, 67, 75, 83, 91, 99, 107, 118, 129, 140, 151], 59) := by decide +kernel
theorem dX10_count_100 : decode cX10_count 100 = .ok (.aload_n 0, 1) := by decide +kernel
theorem dX10_count_101 : decode cX10_count 101 = .ok (.getfield 10, 3) := by decide +kernel
theorem dX10_count_104 : decode cX10_count 104 = .ok (.invokevirtual 279, 3) := by decide +kernel
theorem dX10_count_107 : decode cX10_count 107 = .ok (.ireturn, 1) := by decide +kernel
theorem dX10_count_108 : decode cX10_count 108 = .ok (.aload_n 0, 1) := by decide +kernel
theorem dX10_count_109 : decode cX10_count 109 = .ok (.getfield 10, 3) := by decide +kernel
theorem dX10_count_112 : decode cX10_count 112 = .ok (.getfield 185, 3) := by decide +kernel
theorem dX10_count_115 : decode cX10_count 115 = .ok (.getfield 194, 3) := by decide +kernel
theorem dX10_count_118 : decode cX10_count 118 = .ok (.ireturn, 1) := by decide +kernel
theorem dX10_count_119 : decode cX10_count 119 = .ok (.aload_n 0, 1) := by decide +kernel
theorem dX10_count_120 : decode cX10_count 120 = .ok (.getfield 10, 3) := by decide +kernel
theorem dX10_count_123 : decode cX10_count 123 = .ok (.getfield 212, 3) := by decide +kernel
theorem dX10_count_126 : decode cX10_count 126 = .ok (.getfield 194, 3) := by decide +kernel
theorem dX10_count_129 : decode cX10_count 129 = .ok (.ireturn, 1) := by decide +kernel
theorem dX10_count_130 : decode cX10_count 130 = .ok (.aload_n 0, 1) := by decide +kernel
theorem dX10_count_131 : decode cX10_count 131 = .ok (.getfield 10, 3) := by decide +kernel
theorem dX10_count_134 : decode cX10_count 134 = .ok (.getfield 215, 3) := by decide +kernel
theorem dX10_count_137 : decode cX10_count 137 = .ok (.getfield 194, 3) := by decide +kernel
theorem dX10_count_140 : decode cX10_count 140 = .ok (.ireturn, 1) := by decide +kernel
theorem dX10_count_141 : decode cX10_count 141 = .ok (.aload_n 0, 1) := by decide +kernel
theorem dX10_count_142 : decode cX10_count 142 = .ok (.getfield 10, 3) := by decide +kernel
theorem dX10_count_145 : decode cX10_count 145 = .ok (.getfield 282, 3) := by decide +kernel
theorem dX10_count_148 : decode cX10_count 148 = .ok (.getfield 286, 3) := by decide +kernel
theorem dX10_count_151 : decode cX10_count 151 = .ok (.ireturn, 1) := by decide +kernel
theorem dX10_count_152 : decode cX10_count 152 = .ok (.aload_n 0, 1) := by decide +kernel
theorem dX10_count_153 : decode cX10_count 153 = .ok (.getfield 30, 3) := by decide +kernel
theorem dX10_count_156 : decode cX10_count 156 = .ok (.getfield 103, 3) := by decide +kernel
theorem dX10_count_159 : decode cX10_count 159 = .ok (.ireturn, 1) := by decide +kernel
theorem dX10_count_160 : decode cX10_count 160 = .ok (.aload_n 0, 1) := by decide +kernel
theorem dX10_count_161 : decode cX10_count 161 = .ok (.bipush (-2), 2) := by decide +kernel
theorem dX10_count_163 : decode cX10_count 163 = .ok (.invokevirtual 83, 3) := by decide +kernel
theorem dX10_count_166 : decode cX10_count 166 = .ok (.ireturn, 1) := by decide +kernel
theorem dX10_count_60 : decode cX10_count 60 = .ok (.aload_n 0, 1) := by decide +kernel
theorem dX10_count_61 : decode cX10_count 61 = .ok (.getfield 10, 3) := by decide +kernel
theorem dX10_count_64 : decode cX10_count 64 = .ok (.getfield 87, 3) := by decide +kernel
theorem dX10_count_67 : decode cX10_count 67 = .ok (.ireturn, 1) := by decide +kernel
theorem dX10_count_68 : decode cX10_count 68 = .ok (.aload_n 0, 1) := by decide +kernel
theorem dX10_count_69 : decode cX10_count 69 = .ok (.getfield 10, 3) := by decide +kernel
theorem dX10_count_72 : decode cX10_count 72 = .ok (.invokevirtual 119, 3) := by decide +kernel
theorem dX10_count_75 : decode cX10_count 75 = .ok (.ireturn, 1) := by decide +kernel
theorem dX10_count_76 : decode cX10_count 76 = .ok (.aload_n 0, 1) := by decide +kernel
theorem dX10_count_77 : decode cX10_count 77 = .ok (.getfield 10, 3) := by decide +kernel
theorem dX10_count_80 : decode cX10_count 80 = .ok (.getfield 140, 3) := by decide +kernel
theorem dX10_count_83 : decode cX10_count 83 = .ok (.ireturn, 1) := by decide +kernel
theorem dX10_count_84 : decode cX10_count 84 = .ok (.aload_n 0, 1) := by decide +kernel
theorem dX10_count_85 : decode cX10_count 85 = .ok (.getfield 10, 3) := by decide +kernel
theorem dX10_count_88 : decode cX10_count 88 = .ok (.getfield 110, 3) := by decide +kernel
theorem dX10_count_91 : decode cX10_count 91 = .ok (.ireturn, 1) := by decide +kernel
theorem dX10_count_92 : decode cX10_count 92 = .ok (.aload_n 0, 1) := by decide +kernel
theorem dX10_count_93 : decode cX10_count 93 = .ok (.getfield 10, 3) := by decide +kernel
theorem dX10_count_96 : decode cX10_count 96 = .ok (.invokevirtual 276, 3) := by decide +kernel
theorem dX10_count_99 : decode cX10_count 99 = .ok (.ireturn, 1) := by decide +kernel
theorem dX10_digest_0 : decode cX10_digest 0 = .ok (.ldc2_w 289, 3) := by decide +kernel
theorem dX10_digest_101 : decode cX10_digest 101 = .ok (.getfield 185, 3) := by decide +kernel
theorem dX10_digest_104 : decode cX10_digest 104 = .ok (.lload_n 1, 1) := by decide +kernel
theorem dX10_digest_105 : decode cX10_digest 105 = .ok (.invokevirtual 296, 3) := by decide +kernel
theorem dX10_digest_108 : decode cX10_digest 108 = .ok (.lstore_n 1, 1) := by decide +kernel
theorem dX10_digest_109 : decode cX10_digest 109 = .ok (.aload_n 0, 1) := by decide +kernel
theorem dX10_digest_110 : decode cX10_digest 110 = .ok (.getfield 10, 3) := by decide +kernel
theorem dX10_digest_113 : decode cX10_digest 113 = .ok (.getfield 212, 3) := by decide +kernel
theorem dX10_digest_116 : decode cX10_digest 116 = .ok (.lload_n 1, 1) := by decide +kernel
theorem dX10_digest_117 : decode cX10_digest 117 = .ok (.invokevirtual 296, 3) := by decide +kernel
theorem dX10_digest_12 : decode cX10_digest 12 = .ok (.ldc2_w 291, 3) := by decide +kernel
theorem dX10_digest_120 : decode cX10_digest 120 = .ok (.lstore_n 1, 1) := by decide +kernel
theorem dX10_digest_121 : decode cX10_digest 121 = .ok (.aload_n 0, 1) := by decide +kernel
theorem dX10_digest_122 : decode cX10_digest 122 = .ok (.getfield 10, 3) := by decide +kernel
theorem dX10_digest_125 : decode cX10_digest 125 = .ok (.getfield 215, 3) := by decide +kernel
theorem dX10_digest_128 : decode cX10_digest 128 = .ok (.lload_n 1, 1) := by decide +kernel
theorem dX10_digest_129 : decode cX10_digest 129 = .ok (.invokevirtual 296, 3) := by decide +kernel
theorem dX10_digest_132 : decode cX10_digest 132 = .ok (.lstore_n 1, 1) := by decide +kernel
theorem dX10_digest_133 : decode cX10_digest 133 = .ok (.ldc2_w 291, 3) := by decide +kernel
theorem dX10_digest_136 : decode cX10_digest 136 = .ok (.lload_n 1, 1) := by decide +kernel
theorem dX10_digest_137 : decode cX10_digest 137 = .ok (.lmul, 1) := by decide +kernel
theorem dX10_digest_138 : decode cX10_digest 138 = .ok (.aload_n 0, 1) := by decide +kernel
theorem dX10_digest_139 : decode cX10_digest 139 = .ok (.getfield 38, 3) := by decide +kernel
theorem dX10_digest_142 : decode cX10_digest 142 = .ok (.ladd, 1) := by decide +kernel
theorem dX10_digest_143 : decode cX10_digest 143 = .ok (.lstore_n 1, 1) := by decide +kernel
theorem dX10_digest_144 : decode cX10_digest 144 = .ok (.ldc2_w 291, 3) := by decide +kernel
theorem dX10_digest_147 : decode cX10_digest 147 = .ok (.lload_n 1, 1) := by decide +kernel
theorem dX10_digest_148 : decode cX10_digest 148 = .ok (.lmul, 1) := by decide +kernel
theorem dX10_digest_149 : decode cX10_digest 149 = .ok (.aload_n 0, 1) := by decide +kernel
theorem dX10_digest_15 : decode cX10_digest 15 = .ok (.lload_n 1, 1) := by decide +kernel
theorem dX10_digest_150 : decode cX10_digest 150 = .ok (.getfield 42, 3) := by decide +kernel
theorem dX10_digest_153 : decode cX10_digest 153 = .ok (.ladd, 1) := by decide +kernel
theorem dX10_digest_154 : decode cX10_digest 154 = .ok (.lreturn, 1) := by decide +kernel
theorem dX10_digest_16 : decode cX10_digest 16 = .ok (.lmul, 1) := by decide +kernel
theorem dX10_digest_17 : decode cX10_digest 17 = .ok (.aload_n 0, 1) := by decide +kernel
theorem dX10_digest_18 : decode cX10_digest 18 = .ok (.iload_n 3, 1) := by decide +kernel
theorem dX10_digest_19 : decode cX10_digest 19 = .ok (.invokevirtual 293, 3) := by decide +kernel
theorem dX10_digest_22 : decode cX10_digest 22 = .ok (.i2l, 1) := by decide +kernel
theorem dX10_digest_23 : decode cX10_digest 23 = .ok (.ladd, 1) := by decide +kernel
theorem dX10_digest_24 : decode cX10_digest 24 = .ok (.lstore_n 1, 1) := by decide +kernel
theorem dX10_digest_25 : decode cX10_digest 25 = .ok (.iinc 3 1, 3) := by decide +kernel
theorem dX10_digest_28 : decode cX10_digest 28 = .ok (.goto (-22), 3) := by decide +kernel
theorem dX10_digest_3 : decode cX10_digest 3 = .ok (.lstore_n 1, 1) := by decide +kernel
theorem dX10_digest_31 : decode cX10_digest 31 = .ok (.iconst 0, 1) := by decide +kernel
theorem dX10_digest_32 : decode cX10_digest 32 = .ok (.istore_n 3, 1) := by decide +kernel
theorem dX10_digest_33 : decode cX10_digest 33 = .ok (.iload_n 3, 1) := by decide +kernel
theorem dX10_digest_34 : decode cX10_digest 34 = .ok (.aload_n 0, 1) := by decide +kernel
theorem dX10_digest_35 : decode cX10_digest 35 = .ok (.getfield 10, 3) := by decide +kernel
theorem dX10_digest_38 : decode cX10_digest 38 = .ok (.getfield 87, 3) := by decide +kernel
theorem dX10_digest_4 : decode cX10_digest 4 = .ok (.iconst 0, 1) := by decide +kernel
theorem dX10_digest_41 : decode cX10_digest 41 = .ok (.if_icmp .ge 56, 3) := by decide +kernel
theorem dX10_digest_44 : decode cX10_digest 44 = .ok (.iconst 0, 1) := by decide +kernel
theorem dX10_digest_45 : decode cX10_digest 45 = .ok (.istore 4, 2) := by decide +kernel
theorem dX10_digest_47 : decode cX10_digest 47 = .ok (.iload 4, 2) := by decide +kernel
theorem dX10_digest_49 : decode cX10_digest 49 = .ok (.bipush 7, 2) := by decide +kernel
theorem dX10_digest_5 : decode cX10_digest 5 = .ok (.istore_n 3, 1) := by decide +kernel
theorem dX10_digest_51 : decode cX10_digest 51 = .ok (.if_icmp .gt 40, 3) := by decide +kernel
theorem dX10_digest_54 : decode cX10_digest 54 = .ok (.ldc2_w 291, 3) := by decide +kernel
theorem dX10_digest_57 : decode cX10_digest 57 = .ok (.lload_n 1, 1) := by decide +kernel
theorem dX10_digest_58 : decode cX10_digest 58 = .ok (.lmul, 1) := by decide +kernel
theorem dX10_digest_59 : decode cX10_digest 59 = .ok (.aload_n 0, 1) := by decide +kernel
theorem dX10_digest_6 : decode cX10_digest 6 = .ok (.iload_n 3, 1) := by decide +kernel
theorem dX10_digest_60 : decode cX10_digest 60 = .ok (.getfield 10, 3) := by decide +kernel
theorem dX10_digest_63 : decode cX10_digest 63 = .ok (.getfield 126, 3) := by decide +kernel
theorem dX10_digest_66 : decode cX10_digest 66 = .ok (.iload_n 3, 1) := by decide +kernel
theorem dX10_digest_67 : decode cX10_digest 67 = .ok (.aaload, 1) := by decide +kernel
theorem dX10_digest_68 : decode cX10_digest 68 = .ok (.iload 4, 2) := by decide +kernel
theorem dX10_digest_7 : decode cX10_digest 7 = .ok (.bipush 10, 2) := by decide +kernel
theorem dX10_digest_70 : decode cX10_digest 70 = .ok (.aload_n 0, 1) := by decide +kernel
theorem dX10_digest_71 : decode cX10_digest 71 = .ok (.getfield 10, 3) := by decide +kernel
theorem dX10_digest_74 : decode cX10_digest 74 = .ok (.getfield 110, 3) := by decide +kernel
theorem dX10_digest_77 : decode cX10_digest 77 = .ok (.iconst 1, 1) := by decide +kernel
theorem dX10_digest_78 : decode cX10_digest 78 = .ok (.iadd, 1) := by decide +kernel
theorem dX10_digest_79 : decode cX10_digest 79 = .ok (.invokevirtual 144, 3) := by decide +kernel
theorem dX10_digest_82 : decode cX10_digest 82 = .ok (.i2l, 1) := by decide +kernel
theorem dX10_digest_83 : decode cX10_digest 83 = .ok (.ladd, 1) := by decide +kernel
theorem dX10_digest_84 : decode cX10_digest 84 = .ok (.lstore_n 1, 1) := by decide +kernel
theorem dX10_digest_85 : decode cX10_digest 85 = .ok (.iinc 4 1, 3) := by decide +kernel
theorem dX10_digest_88 : decode cX10_digest 88 = .ok (.goto (-41), 3) := by decide +kernel
theorem dX10_digest_9 : decode cX10_digest 9 = .ok (.if_icmp .gt 22, 3) := by decide +kernel
theorem dX10_digest_91 : decode cX10_digest 91 = .ok (.iinc 3 1, 3) := by decide +kernel
theorem dX10_digest_94 : decode cX10_digest 94 = .ok (.goto (-61), 3) := by decide +kernel
theorem dX10_digest_97 : decode cX10_digest 97 = .ok (.aload_n 0, 1) := by decide +kernel
theorem dX10_digest_98 : decode cX10_digest 98 = .ok (.getfield 10, 3) := by decide +kernel
theorem dX10_type_0 : decode cX10_type 0 = .ok (.iload_n 1, 1) := by decide +kernel
theorem dX10_type_1 : decode cX10_type 1 = .ok (.iconst 0, 1) := by decide +kernel
theorem dX10_type_10 : decode cX10_type 10 = .ok (.aload_n 0, 1) := by decide +kernel
theorem dX10_type_11 : decode cX10_type 11 = .ok (.bipush (-2), 2) := by decide +kernel
theorem dX10_type_13 : decode cX10_type 13 = .ok (.invokevirtual 83, 3) := by decide +kernel
theorem dX10_type_16 : decode cX10_type 16 = .ok (.ireturn, 1) := by decide +kernel
theorem dX10_type_17 : decode cX10_type 17 = .ok (.aload_n 0, 1) := by decide +kernel
theorem dX10_type_18 : decode cX10_type 18 = .ok (.getfield 30, 3) := by decide +kernel
theorem dX10_type_2 : decode cX10_type 2 = .ok (.bipush 127, 2) := by decide +kernel
theorem dX10_type_21 : decode cX10_type 21 = .ok (.iload_n 1, 1) := by decide +kernel
theorem dX10_type_22 : decode cX10_type 22 = .ok (.invokevirtual 99, 3) := by decide +kernel
theorem dX10_type_25 : decode cX10_type 25 = .ok (.ifCond .eq 13, 3) := by decide +kernel
theorem dX10_type_28 : decode cX10_type 28 = .ok (.aload_n 0, 1) := by decide +kernel
theorem dX10_type_29 : decode cX10_type 29 = .ok (.getfield 30, 3) := by decide +kernel
theorem dX10_type_32 : decode cX10_type 32 = .ok (.getfield 103, 3) := by decide +kernel
theorem dX10_type_35 : decode cX10_type 35 = .ok (.goto 9, 3) := by decide +kernel
theorem dX10_type_38 : decode cX10_type 38 = .ok (.aload_n 0, 1) := by decide +kernel
theorem dX10_type_39 : decode cX10_type 39 = .ok (.bipush (-4), 2) := by decide +kernel
theorem dX10_type_4 : decode cX10_type 4 = .ok (.invokestatic 79, 3) := by decide +kernel
theorem dX10_type_41 : decode cX10_type 41 = .ok (.invokevirtual 83, 3) := by decide +kernel
theorem dX10_type_44 : decode cX10_type 44 = .ok (.ireturn, 1) := by decide +kernel
theorem dX10_type_7 : decode cX10_type 7 = .ok (.ifCond .ne 10, 3) := by decide +kernel
theorem dX6_append_0 : decode cX6_append 0 = .ok (.aload_n 0, 1) := by decide +kernel
theorem dX6_append_1 : decode cX6_append 1 = .ok (.getfield 15, 3) := by decide +kernel
theorem dX6_append_10 : decode cX6_append 10 = .ok (.iconst 0, 1) := by decide +kernel
theorem dX6_append_11 : decode cX6_append 11 = .ok (.ireturn, 1) := by decide +kernel
theorem dX6_append_12 : decode cX6_append 12 = .ok (.aload_n 0, 1) := by decide +kernel
theorem dX6_append_13 : decode cX6_append 13 = .ok (.getfield 11, 3) := by decide +kernel
theorem dX6_append_16 : decode cX6_append 16 = .ok (.aload_n 0, 1) := by decide +kernel
theorem dX6_append_17 : decode cX6_append 17 = .ok (.getfield 15, 3) := by decide +kernel
theorem dX6_append_20 : decode cX6_append 20 = .ok (.iload_n 1, 1) := by decide +kernel
theorem dX6_append_21 : decode cX6_append 21 = .ok (.iastore, 1) := by decide +kernel
theorem dX6_append_22 : decode cX6_append 22 = .ok (.aload_n 0, 1) := by decide +kernel
theorem dX6_append_23 : decode cX6_append 23 = .ok (.dup, 1) := by decide +kernel
theorem dX6_append_24 : decode cX6_append 24 = .ok (.getfield 15, 3) := by decide +kernel
theorem dX6_append_27 : decode cX6_append 27 = .ok (.iconst 1, 1) := by decide +kernel
theorem dX6_append_28 : decode cX6_append 28 = .ok (.iadd, 1) := by decide +kernel
theorem dX6_append_29 : decode cX6_append 29 = .ok (.putfield 15, 3) := by decide +kernel
theorem dX6_append_32 : decode cX6_append 32 = .ok (.iconst 1, 1) := by decide +kernel
theorem dX6_append_33 : decode cX6_append 33 = .ok (.ireturn, 1) := by decide +kernel
theorem dX6_append_4 : decode cX6_append 4 = .ok (.sipush 150, 3) := by decide +kernel
theorem dX6_append_7 : decode cX6_append 7 = .ok (.if_icmp .lt 5, 3) := by decide +kernel
theorem dX6_isFigure_0 : decode cX6_isFigure 0 = .ok (.iload_n 0, 1) := by decide +kernel
theorem dX6_isFigure_1 : decode cX6_isFigure 1 = .ok (.bipush 48, 2) := by decide +kernel
theorem dX6_isFigure_12 : decode cX6_isFigure 12 = .ok (.iconst 1, 1) := by decide +kernel
theorem dX6_isFigure_13 : decode cX6_isFigure 13 = .ok (.goto 4, 3) := by decide +kernel
theorem dX6_isFigure_16 : decode cX6_isFigure 16 = .ok (.iconst 0, 1) := by decide +kernel
theorem dX6_isFigure_17 : decode cX6_isFigure 17 = .ok (.ireturn, 1) := by decide +kernel
theorem dX6_isFigure_3 : decode cX6_isFigure 3 = .ok (.if_icmp .lt 13, 3) := by decide +kernel
theorem dX6_isFigure_6 : decode cX6_isFigure 6 = .ok (.iload_n 0, 1) := by decide +kernel
theorem dX6_isFigure_7 : decode cX6_isFigure 7 = .ok (.bipush 57, 2) := by decide +kernel
theorem dX6_isFigure_9 : decode cX6_isFigure 9 = .ok (.if_icmp .gt 7, 3) := by decide +kernel
theorem dX6_isLetter_0 : decode cX6_isLetter 0 = .ok (.iload_n 0, 1) := by decide +kernel
theorem dX6_isLetter_1 : decode cX6_isLetter 1 = .ok (.bipush 97, 2) := by decide +kernel
theorem dX6_isLetter_12 : decode cX6_isLetter 12 = .ok (.iconst 1, 1) := by decide +kernel
theorem dX6_isLetter_13 : decode cX6_isLetter 13 = .ok (.goto 4, 3) := by decide +kernel
theorem dX6_isLetter_16 : decode cX6_isLetter 16 = .ok (.iconst 0, 1) := by decide +kernel
theorem dX6_isLetter_17 : decode cX6_isLetter 17 = .ok (.ireturn, 1) := by decide +kernel
theorem dX6_isLetter_3 : decode cX6_isLetter 3 = .ok (.if_icmp .lt 13, 3) := by decide +kernel
theorem dX6_isLetter_6 : decode cX6_isLetter 6 = .ok (.iload_n 0, 1) := by decide +kernel
theorem dX6_isLetter_7 : decode cX6_isLetter 7 = .ok (.bipush 122, 2) := by decide +kernel
theorem dX6_isLetter_9 : decode cX6_isLetter 9 = .ok (.if_icmp .gt 7, 3) := by decide +kernel
theorem dX6_skipBlanks_0 : decode cX6_skipBlanks 0 = .ok (.aload_n 0, 1) := by decide +kernel
theorem dX6_skipBlanks_1 : decode cX6_skipBlanks 1 = .ok (.getfield 19, 3) := by decide +kernel
theorem dX6_skipBlanks_11 : decode cX6_skipBlanks 11 = .ok (.aload_n 0, 1) := by decide +kernel
theorem dX6_skipBlanks_12 : decode cX6_skipBlanks 12 = .ok (.getfield 11, 3) := by decide +kernel
theorem dX6_skipBlanks_15 : decode cX6_skipBlanks 15 = .ok (.aload_n 0, 1) := by decide +kernel
theorem dX6_skipBlanks_16 : decode cX6_skipBlanks 16 = .ok (.getfield 19, 3) := by decide +kernel
theorem dX6_skipBlanks_19 : decode cX6_skipBlanks 19 = .ok (.iaload, 1) := by decide +kernel
theorem dX6_skipBlanks_20 : decode cX6_skipBlanks 20 = .ok (.bipush 32, 2) := by decide +kernel
theorem dX6_skipBlanks_22 : decode cX6_skipBlanks 22 = .ok (.if_icmp .ne 16, 3) := by decide +kernel
theorem dX6_skipBlanks_25 : decode cX6_skipBlanks 25 = .ok (.aload_n 0, 1) := by decide +kernel
theorem dX6_skipBlanks_26 : decode cX6_skipBlanks 26 = .ok (.dup, 1) := by decide +kernel
theorem dX6_skipBlanks_27 : decode cX6_skipBlanks 27 = .ok (.getfield 19, 3) := by decide +kernel
theorem dX6_skipBlanks_30 : decode cX6_skipBlanks 30 = .ok (.iconst 1, 1) := by decide +kernel
theorem dX6_skipBlanks_31 : decode cX6_skipBlanks 31 = .ok (.iadd, 1) := by decide +kernel
theorem dX6_skipBlanks_32 : decode cX6_skipBlanks 32 = .ok (.putfield 19, 3) := by decide +kernel
theorem dX6_skipBlanks_35 : decode cX6_skipBlanks 35 = .ok (.goto (-35), 3) := by decide +kernel
theorem dX6_skipBlanks_38 : decode cX6_skipBlanks 38 = .ok (.return_, 1) := by decide +kernel
theorem dX6_skipBlanks_4 : decode cX6_skipBlanks 4 = .ok (.aload_n 0, 1) := by decide +kernel
theorem dX6_skipBlanks_5 : decode cX6_skipBlanks 5 = .ok (.getfield 15, 3) := by decide +kernel
theorem dX6_skipBlanks_8 : decode cX6_skipBlanks 8 = .ok (.if_icmp .ge 30, 3) := by decide +kernel
theorem dX8_begin_0 : decode cX8_begin 0 = .ok (.aload_n 0, 1) := by decide +kernel
theorem dX8_begin_1 : decode cX8_begin 1 = .ok (.iload_n 1, 1) := by decide +kernel
theorem dX8_begin_10 : decode cX8_begin 10 = .ok (.aload_n 0, 1) := by decide +kernel
theorem dX8_begin_11 : decode cX8_begin 11 = .ok (.iload_n 3, 1) := by decide +kernel
theorem dX8_begin_12 : decode cX8_begin 12 = .ok (.putfield 18, 3) := by decide +kernel
theorem dX8_begin_15 : decode cX8_begin 15 = .ok (.aload_n 0, 1) := by decide +kernel
theorem dX8_begin_16 : decode cX8_begin 16 = .ok (.iconst 4, 1) := by decide +kernel
theorem dX8_begin_17 : decode cX8_begin 17 = .ok (.putfield 21, 3) := by decide +kernel
theorem dX8_begin_2 : decode cX8_begin 2 = .ok (.putfield 9, 3) := by decide +kernel
theorem dX8_begin_20 : decode cX8_begin 20 = .ok (.aload_n 0, 1) := by decide +kernel
theorem dX8_begin_21 : decode cX8_begin 21 = .ok (.iconst 0, 1) := by decide +kernel
theorem dX8_begin_22 : decode cX8_begin 22 = .ok (.putfield 24, 3) := by decide +kernel
theorem dX8_begin_25 : decode cX8_begin 25 = .ok (.aload_n 0, 1) := by decide +kernel
theorem dX8_begin_26 : decode cX8_begin 26 = .ok (.iconst 0, 1) := by decide +kernel
theorem dX8_begin_27 : decode cX8_begin 27 = .ok (.putfield 27, 3) := by decide +kernel
theorem dX8_begin_30 : decode cX8_begin 30 = .ok (.aload_n 0, 1) := by decide +kernel
theorem dX8_begin_31 : decode cX8_begin 31 = .ok (.iconst 0, 1) := by decide +kernel
theorem dX8_begin_32 : decode cX8_begin 32 = .ok (.putfield 30, 3) := by decide +kernel
theorem dX8_begin_35 : decode cX8_begin 35 = .ok (.aload_n 0, 1) := by decide +kernel
theorem dX8_begin_36 : decode cX8_begin 36 = .ok (.iconst (-1), 1) := by decide +kernel
theorem dX8_begin_37 : decode cX8_begin 37 = .ok (.putfield 33, 3) := by decide +kernel
theorem dX8_begin_40 : decode cX8_begin 40 = .ok (.return_, 1) := by decide +kernel
theorem dX8_begin_5 : decode cX8_begin 5 = .ok (.aload_n 0, 1) := by decide +kernel
theorem dX8_begin_6 : decode cX8_begin 6 = .ok (.iload_n 2, 1) := by decide +kernel
theorem dX8_begin_7 : decode cX8_begin 7 = .ok (.putfield 15, 3) := by decide +kernel
theorem in_X6_skipBlanks_X6 : ∀ w ∈ wsX60, w ∈ wsX6_skipBlanks := by decide +kernel
theorem lk_X6_skipBlanks_19 : Cond.fieldLink RX6 19 "EggSpoons$Reader" "at" "I" ∈ wsX6_skipBlanks := by decide +kernel
theorem lk_X6_skipBlanks_15 : Cond.fieldLink RX6 15 "EggSpoons$Reader" "length" "I" ∈ wsX6_skipBlanks := by decide +kernel
theorem lk_X6_skipBlanks_11 : Cond.fieldLink RX6 11 "EggSpoons$Reader" "bytes" "[I" ∈ wsX6_skipBlanks := by decide +kernel
theorem in_X6_takeLetters_X6 : ∀ w ∈ wsX60, w ∈ wsX6_takeLetters := by decide +kernel
theorem lk_X6_takeLetters_19 : Cond.fieldLink RX6 19 "EggSpoons$Reader" "at" "I" ∈ wsX6_takeLetters := by decide +kernel
theorem lk_X6_takeLetters_15 : Cond.fieldLink RX6 15 "EggSpoons$Reader" "length" "I" ∈ wsX6_takeLetters := by decide +kernel
theorem lk_X6_takeLetters_11 : Cond.fieldLink RX6 11 "EggSpoons$Reader" "bytes" "[I" ∈ wsX6_takeLetters := by decide +kernel
theorem hdS_X6_isLetter : yX6_isLetter.cls ≠ "java/lang/invoke/MethodHandle" ∧ yX6_isLetter.cls ≠ "java/lang/invoke/VarHandle" ∧ (parseMethodDescriptor yX6_isLetter.desc).map (fun d => d.parameters.length) = some 1 := by decide +kernel
theorem lk_X6_takeLetters_25 : Cond.fieldLink RX6 25 "EggSpoons$Reader" "sort" "I" ∈ wsX6_takeLetters := by decide +kernel
theorem in_X6_takeFigures_X6 : ∀ w ∈ wsX60, w ∈ wsX6_takeFigures := by decide +kernel
theorem lk_X6_takeFigures_28 : Cond.fieldLink RX6 28 "EggSpoons$Reader" "value" "I" ∈ wsX6_takeFigures := by decide +kernel
theorem lk_X6_takeFigures_19 : Cond.fieldLink RX6 19 "EggSpoons$Reader" "at" "I" ∈ wsX6_takeFigures := by decide +kernel
theorem lk_X6_takeFigures_15 : Cond.fieldLink RX6 15 "EggSpoons$Reader" "length" "I" ∈ wsX6_takeFigures := by decide +kernel
theorem lk_X6_takeFigures_11 : Cond.fieldLink RX6 11 "EggSpoons$Reader" "bytes" "[I" ∈ wsX6_takeFigures := by decide +kernel
theorem hdS_X6_isFigure : yX6_isFigure.cls ≠ "java/lang/invoke/MethodHandle" ∧ yX6_isFigure.cls ≠ "java/lang/invoke/VarHandle" ∧ (parseMethodDescriptor yX6_isFigure.desc).map (fun d => d.parameters.length) = some 1 := by decide +kernel
theorem lk_X6_takeFigures_22 : Cond.fieldLink RX6 22 "EggSpoons$Reader" "tokenAt" "I" ∈ wsX6_takeFigures := by decide +kernel
theorem lk_X6_takeFigures_25 : Cond.fieldLink RX6 25 "EggSpoons$Reader" "sort" "I" ∈ wsX6_takeFigures := by decide +kernel
theorem hdV_X6_skipBlanks : yX6_skipBlanks.cls = RX6 ∧ yX6_skipBlanks.cls ≠ "java/lang/invoke/MethodHandle" ∧ yX6_skipBlanks.cls ≠ "java/lang/invoke/VarHandle" ∧ (parseMethodDescriptor yX6_skipBlanks.desc).map (fun d => d.parameters.length) = some 0 := by decide +kernel
theorem in_X6_nextToken_X6 : ∀ w ∈ wsX60, w ∈ wsX6_nextToken := by decide +kernel
theorem lk_X6_nextToken_19 : Cond.fieldLink RX6 19 "EggSpoons$Reader" "at" "I" ∈ wsX6_nextToken := by decide +kernel
theorem lk_X6_nextToken_22 : Cond.fieldLink RX6 22 "EggSpoons$Reader" "tokenAt" "I" ∈ wsX6_nextToken := by decide +kernel
theorem lk_X6_nextToken_15 : Cond.fieldLink RX6 15 "EggSpoons$Reader" "length" "I" ∈ wsX6_nextToken := by decide +kernel
theorem lk_X6_nextToken_11 : Cond.fieldLink RX6 11 "EggSpoons$Reader" "bytes" "[I" ∈ wsX6_nextToken := by decide +kernel
theorem lk_X6_nextToken_25 : Cond.fieldLink RX6 25 "EggSpoons$Reader" "sort" "I" ∈ wsX6_nextToken := by decide +kernel
theorem hdV_X6_takeFigures : yX6_takeFigures.cls = RX6 ∧ yX6_takeFigures.cls ≠ "java/lang/invoke/MethodHandle" ∧ yX6_takeFigures.cls ≠ "java/lang/invoke/VarHandle" ∧ (parseMethodDescriptor yX6_takeFigures.desc).map (fun d => d.parameters.length) = some 0 := by decide +kernel
theorem hdV_X6_takeLetters : yX6_takeLetters.cls = RX6 ∧ yX6_takeLetters.cls ≠ "java/lang/invoke/MethodHandle" ∧ yX6_takeLetters.cls ≠ "java/lang/invoke/VarHandle" ∧ (parseMethodDescriptor yX6_takeLetters.desc).map (fun d => d.parameters.length) = some 0 := by decide +kernel
theorem in_X6_number_X6 : ∀ w ∈ wsX60, w ∈ wsX6_number := by decide +kernel
theorem lk_X6_number_31 : Cond.fieldLink RX6 31 "EggSpoons$Reader" "fault" "I" ∈ wsX6_number := by decide +kernel
theorem hdV_X6_nextToken : yX6_nextToken.cls = RX6 ∧ yX6_nextToken.cls ≠ "java/lang/invoke/MethodHandle" ∧ yX6_nextToken.cls ≠ "java/lang/invoke/VarHandle" ∧ (parseMethodDescriptor yX6_nextToken.desc).map (fun d => d.parameters.length) = some 0 := by decide +kernel
theorem lk_X6_number_25 : Cond.fieldLink RX6 25 "EggSpoons$Reader" "sort" "I" ∈ wsX6_number := by decide +kernel
theorem lk_X6_number_22 : Cond.fieldLink RX6 22 "EggSpoons$Reader" "tokenAt" "I" ∈ wsX6_number := by decide +kernel
theorem lk_X6_number_28 : Cond.fieldLink RX6 28 "EggSpoons$Reader" "value" "I" ∈ wsX6_number := by decide +kernel
theorem in_X6_ended_X6 : ∀ w ∈ wsX60, w ∈ wsX6_ended := by decide +kernel
theorem lk_X6_ended_31 : Cond.fieldLink RX6 31 "EggSpoons$Reader" "fault" "I" ∈ wsX6_ended := by decide +kernel
theorem lk_X6_ended_25 : Cond.fieldLink RX6 25 "EggSpoons$Reader" "sort" "I" ∈ wsX6_ended := by decide +kernel
theorem lk_X6_ended_22 : Cond.fieldLink RX6 22 "EggSpoons$Reader" "tokenAt" "I" ∈ wsX6_ended := by decide +kernel
theorem hdV_X6_number : yX6_number.cls = RX6 ∧ yX6_number.cls ≠ "java/lang/invoke/MethodHandle" ∧ yX6_number.cls ≠ "java/lang/invoke/VarHandle" ∧ (parseMethodDescriptor yX6_number.desc).map (fun d => d.parameters.length) = some 2 := by decide +kernel
theorem hdV_X6_ended : yX6_ended.cls = RX6 ∧ yX6_ended.cls ≠ "java/lang/invoke/MethodHandle" ∧ yX6_ended.cls ≠ "java/lang/invoke/VarHandle" ∧ (parseMethodDescriptor yX6_ended.desc).map (fun d => d.parameters.length) = some 0 := by decide +kernel
theorem in_X6_takeSpeed_X5 : ∀ w ∈ wsX50, w ∈ wsX6_takeSpeed := by decide +kernel
theorem lk_X6_takeSpeed_56 : Cond.fieldLink RX6 56 "EggSpoons$Race" "runners" "I" ∈ wsX6_takeSpeed := by decide +kernel
theorem lk_X6_takeSpeed_95 : Cond.fieldLink RX6 95 "EggSpoons$Race" "row" "[LEggSpoons$Runner;" ∈ wsX6_takeSpeed := by decide +kernel
theorem in_X6_takeSpeed_X8 : ∀ w ∈ wsX80, w ∈ wsX6_takeSpeed := by decide +kernel
theorem lk_X6_takeSpeed_99 : Cond.fieldLink RX6 99 "EggSpoons$Runner" "speed" "I" ∈ wsX6_takeSpeed := by decide +kernel
theorem in_X6_takeStart_X5 : ∀ w ∈ wsX50, w ∈ wsX6_takeStart := by decide +kernel
theorem lk_X6_takeStart_56 : Cond.fieldLink RX6 56 "EggSpoons$Race" "runners" "I" ∈ wsX6_takeStart := by decide +kernel
theorem lk_X6_takeStart_106 : Cond.fieldLink RX6 106 "EggSpoons$Race" "length" "I" ∈ wsX6_takeStart := by decide +kernel
theorem mm_X6_takeStart_ml107 : Cond.methodLink RX6 107 Lib.Math.min.name ∈ wsX6_takeStart := by decide +kernel
theorem mm_X6_takeStart_msmin : Cond.static Lib.Math.min.name ∈ wsX6_takeStart := by decide +kernel
theorem mm_X6_takeStart_mi : Cond.initialized "java/lang/Math" ∈ wsX6_takeStart := by decide +kernel
theorem mm_X6_takeStart_mcmin : Cond.code Lib.Math.min.name Lib.Math.min.code 2 (some .int) ∈ wsX6_takeStart := by decide +kernel
theorem lk_X6_takeStart_95 : Cond.fieldLink RX6 95 "EggSpoons$Race" "row" "[LEggSpoons$Runner;" ∈ wsX6_takeStart := by decide +kernel
theorem in_X6_takeStart_X6 : ∀ w ∈ wsX60, w ∈ wsX6_takeStart := by decide +kernel
theorem lk_X6_takeStart_22 : Cond.fieldLink RX6 22 "EggSpoons$Reader" "tokenAt" "I" ∈ wsX6_takeStart := by decide +kernel
theorem lk_X6_takeStart_31 : Cond.fieldLink RX6 31 "EggSpoons$Reader" "fault" "I" ∈ wsX6_takeStart := by decide +kernel
theorem in_X6_takeStart_X8 : ∀ w ∈ wsX80, w ∈ wsX6_takeStart := by decide +kernel
theorem lk_X6_takeStart_112 : Cond.fieldLink RX6 112 "EggSpoons$Runner" "place" "I" ∈ wsX6_takeStart := by decide +kernel
theorem in_X6_spells_X6 : ∀ w ∈ wsX60, w ∈ wsX6_spells := by decide +kernel
theorem lk_X6_spells_19 : Cond.fieldLink RX6 19 "EggSpoons$Reader" "at" "I" ∈ wsX6_spells := by decide +kernel
theorem lk_X6_spells_22 : Cond.fieldLink RX6 22 "EggSpoons$Reader" "tokenAt" "I" ∈ wsX6_spells := by decide +kernel
theorem lk_X6_spells_11 : Cond.fieldLink RX6 11 "EggSpoons$Reader" "bytes" "[I" ∈ wsX6_spells := by decide +kernel
theorem in_X6_takeItem_X6 : ∀ w ∈ wsX60, w ∈ wsX6_takeItem := by decide +kernel
theorem lk_X6_takeItem_25 : Cond.fieldLink RX6 25 "EggSpoons$Reader" "sort" "I" ∈ wsX6_takeItem := by decide +kernel
theorem lk_X6_takeItem_22 : Cond.fieldLink RX6 22 "EggSpoons$Reader" "tokenAt" "I" ∈ wsX6_takeItem := by decide +kernel
theorem lk_X6_takeItem_31 : Cond.fieldLink RX6 31 "EggSpoons$Reader" "fault" "I" ∈ wsX6_takeItem := by decide +kernel
theorem hdV_X6_spells : yX6_spells.cls = RX6 ∧ yX6_spells.cls ≠ "java/lang/invoke/MethodHandle" ∧ yX6_spells.cls ≠ "java/lang/invoke/VarHandle" ∧ (parseMethodDescriptor yX6_spells.desc).map (fun d => d.parameters.length) = some 1 := by decide +kernel
theorem hdV_X6_takeTicks : yX6_takeTicks.cls = RX6 ∧ yX6_takeTicks.cls ≠ "java/lang/invoke/MethodHandle" ∧ yX6_takeTicks.cls ≠ "java/lang/invoke/VarHandle" ∧ (parseMethodDescriptor yX6_takeTicks.desc).map (fun d => d.parameters.length) = some 1 := by decide +kernel
theorem hdV_X6_takeStart : yX6_takeStart.cls = RX6 ∧ yX6_takeStart.cls ≠ "java/lang/invoke/MethodHandle" ∧ yX6_takeStart.cls ≠ "java/lang/invoke/VarHandle" ∧ (parseMethodDescriptor yX6_takeStart.desc).map (fun d => d.parameters.length) = some 1 := by decide +kernel
theorem hdV_X6_takeSpeed : yX6_takeSpeed.cls = RX6 ∧ yX6_takeSpeed.cls ≠ "java/lang/invoke/MethodHandle" ∧ yX6_takeSpeed.cls ≠ "java/lang/invoke/VarHandle" ∧ (parseMethodDescriptor yX6_takeSpeed.desc).map (fun d => d.parameters.length) = some 1 := by decide +kernel
theorem in_X6_takeItem_X5 : ∀ w ∈ wsX50, w ∈ wsX6_takeItem := by decide +kernel
theorem lk_X6_takeItem_56 : Cond.fieldLink RX6 56 "EggSpoons$Race" "runners" "I" ∈ wsX6_takeItem := by decide +kernel
theorem hdV_X6_takeRunner : yX6_takeRunner.cls = RX6 ∧ yX6_takeRunner.cls ≠ "java/lang/invoke/MethodHandle" ∧ yX6_takeRunner.cls ≠ "java/lang/invoke/VarHandle" ∧ (parseMethodDescriptor yX6_takeRunner.desc).map (fun d => d.parameters.length) = some 1 := by decide +kernel
theorem hdV_X6_takeLength : yX6_takeLength.cls = RX6 ∧ yX6_takeLength.cls ≠ "java/lang/invoke/MethodHandle" ∧ yX6_takeLength.cls ≠ "java/lang/invoke/VarHandle" ∧ (parseMethodDescriptor yX6_takeLength.desc).map (fun d => d.parameters.length) = some 1 := by decide +kernel
theorem in_X6_takeRace_X6 : ∀ w ∈ wsX60, w ∈ wsX6_takeRace := by decide +kernel
theorem lk_X6_takeRace_19 : Cond.fieldLink RX6 19 "EggSpoons$Reader" "at" "I" ∈ wsX6_takeRace := by decide +kernel
theorem lk_X6_takeRace_31 : Cond.fieldLink RX6 31 "EggSpoons$Reader" "fault" "I" ∈ wsX6_takeRace := by decide +kernel
theorem hdV_X6_takeItem : yX6_takeItem.cls = RX6 ∧ yX6_takeItem.cls ≠ "java/lang/invoke/MethodHandle" ∧ yX6_takeItem.cls ≠ "java/lang/invoke/VarHandle" ∧ (parseMethodDescriptor yX6_takeItem.desc).map (fun d => d.parameters.length) = some 2 := by decide +kernel
theorem lk_X6_takeRace_15 : Cond.fieldLink RX6 15 "EggSpoons$Reader" "length" "I" ∈ wsX6_takeRace := by decide +kernel
theorem in_X6_append_X6 : ∀ w ∈ wsX60, w ∈ wsX6_append := by decide +kernel
theorem lk_X6_append_15 : Cond.fieldLink RX6 15 "EggSpoons$Reader" "length" "I" ∈ wsX6_append := by decide +kernel
theorem lk_X6_append_11 : Cond.fieldLink RX6 11 "EggSpoons$Reader" "bytes" "[I" ∈ wsX6_append := by decide +kernel
set_option maxHeartbeats 4000000 in
set_option maxRecDepth 100000 in
/-- append -/
theorem s_append (l : Launch) (X : EX) (h0 : Nat) (hb : Nat) (n : Nat) (bd : Nat → Nat) (vd : Nat → Int32) (fd : Nat → Int32) (x1 : Int32) (hI_n : n ≤ 150) (hI_bd : InP bd) (sz : Nat) : Met l yX6_append wsX6_append ({ frames := 0, cells := 0, slots := 0, locals := 0 } : Room) (pE X [.ref h0, .int x1] (rdV X h0 hb n bd vd fd) sz) (qI (fun (r : Int32) (u : (Nat) × (Nat → Int32)) => u.1 ≤ 150 ∧ ((r = 0 ∧ n = 150 ∧ u.1 = n ∧ u.2 = fd) ∨ (r = 1 ∧ n < 150 ∧ u.1 = n + 1 ∧ u.2 = upd fd n x1))) X (fun (u : (Nat) × (Nat → Int32)) => rdV X h0 hb u.1 bd vd u.2) (rdV X h0 hb n bd vd fd) sz) 0 0 (va_A (rdV X h0 hb n bd vd fd) sz) := by
  refine mk_met (B := (va_A (rdV X h0 hb n bd vd fd) sz)) (A := (va_A (rdV X h0 hb n bd vd fd) sz)) (cc := cX6_append) (maxL := 2) (ret := (some .boolean)) (by decide) rfl (Nat.le_of_ble_eq_true rfl) k_w k_a (fun p e s m below meth c S zr zlk znm zsz G ls hl => ?_)
  have S : CallFix p m c cX6_append 2 s _ wsX6_append RX6 := S
  have zx := S.1
  have zb := S.2.1
  have hl : lv_has ls 2 [(0, .ref h0), (1, .int x1)] := hl
  have hO_bd := hI_bd
  obtain ⟨hd0_bd, hd1_bd⟩ := hO_bd
  refine lv_aload_n zx zb dX6_append_0 rfl (lv_at hl 0 rfl) ?_
  refine r_get (C := RX6) (T := TX6) (N := 7) (ci := 4) (v := .int (nI n)) S in_X6_append_X6 G 0 rfl rfl 1 (by decide) lk_X6_append_15 rfl dX6_append_1 ?_
  refine lv_sipush (v := 150) zx zb dX6_append_4 (by decide) ?_
  refine lv_icmp_lt (tgt := 12) zx zb dX6_append_7 (by decide) (fun c_1 => ?_) (fun c_1 => ?_)
  · have fc_1 := j_lt (a := n) (b := 150) (by omega) (by omega) c_1
    refine lv_aload_n zx zb dX6_append_12 rfl (lv_at hl 0 rfl) ?_
    refine r_get (C := RX6) (T := TX6) (N := 7) (ci := 4) (v := .ref hb) S in_X6_append_X6 G 0 rfl rfl 0 (by decide) lk_X6_append_11 rfl dX6_append_13 ?_
    refine lv_aload_n zx zb dX6_append_16 rfl (lv_at hl 0 rfl) ?_
    refine r_get (C := RX6) (T := TX6) (N := 7) (ci := 4) (v := .int (nI n)) S in_X6_append_X6 G 0 rfl rfl 1 (by decide) lk_X6_append_15 rfl dX6_append_17 ?_
    refine lv_iload_n zx zb dX6_append_20 rfl (lv_at hl 1 rfl) ?_
    refine r_iast S G 1 rfl (vp_in_nI (by omega) (by decide)) dX6_append_21 (fun H locs G => ?_)
    obtain ⟨f_2, hE_f_2, G⟩ : ∃ f_2 : Nat → Int32, f_2 = upd fd ((nI n)).toNatClampNeg x1 ∧ wd X (va_A (rdV X h0 hb n bd vd fd) sz) (va_A (rdV X h0 hb n bd vd fd) sz) s (rdV X h0 hb n bd vd f_2) H locs := ⟨_, rfl, G⟩
    refine lv_aload_n zx zb dX6_append_22 rfl (lv_at hl 0 rfl) ?_
    refine lv_dup zx zb dX6_append_23 rfl ?_
    refine r_get (C := RX6) (T := TX6) (N := 7) (ci := 4) (v := .int (nI n)) S in_X6_append_X6 G 0 rfl rfl 1 (by decide) lk_X6_append_15 rfl dX6_append_24 ?_
    refine lv_iconst (v := 1) zx zb dX6_append_27 (by decide) ?_
    refine r_iadd (v := (nI (n + 1))) S (nI_add n 1) dX6_append_28 ?_
    refine r_put (C := RX6) (T := TX6) (N := 7) (ci := 4) (v := .int (nI (n + 1))) S in_X6_append_X6 tyX6_ok nmX6 G 0 rfl rfl 1 (by decide) lk_X6_append_15 rfl (vp_nar_int _) rfl (Nat.le_of_ble_eq_true rfl) dX6_append_29 (fun H locs G => ?_)
    obtain ⟨n_3, hI_n_3, hE_n_3, G⟩ : ∃ n_3 : Nat, n_3 ≤ 150 ∧ n_3 = (n + 1) ∧ wd X (va_A (rdV X h0 hb n bd vd fd) sz) (va_A (rdV X h0 hb n bd vd fd) sz) s (rdV X h0 hb n_3 bd vd f_2) H locs := ⟨(n + 1), by omega, rfl, G⟩
    refine lv_iconst (v := 1) zx zb dX6_append_32 (by decide) ?_
    have hzf : f_2 = upd fd n x1 := by rw [hE_f_2, nI_clamp (by omega)]
    exact e_int S zr zlk (by decide) G (n_3, f_2) [0, 1] rfl rfl (Or.inr rfl) (⟨hI_n_3, Or.inr ⟨rfl, by first | omega | (dsimp only; omega), by first | omega | (dsimp only; omega), hzf⟩⟩) dX6_append_33
  · have fc_1 := j_nlt (a := n) (b := 150) (by omega) (by omega) c_1
    refine lv_iconst (v := 0) zx zb dX6_append_10 (by decide) ?_
    exact e_int S zr zlk (by decide) G (n, fd) [0, 1] rfl rfl (Or.inr rfl) (⟨hI_n, Or.inl ⟨rfl, by first | omega | (dsimp only; omega), rfl, rfl⟩⟩) dX6_append_11
theorem in_X10_type_X10 : ∀ w ∈ wsX100, w ∈ wsX10_type := by decide +kernel
theorem lk_X10_type_30 : Cond.fieldLink RX10 30 "EggSpoons" "reader" "LEggSpoons$Reader;" ∈ wsX10_type := by decide +kernel
theorem hdV_X6_append : yX6_append.cls = RX6 ∧ yX6_append.cls ≠ "java/lang/invoke/MethodHandle" ∧ yX6_append.cls ≠ "java/lang/invoke/VarHandle" ∧ (parseMethodDescriptor yX6_append.desc).map (fun d => d.parameters.length) = some 1 := by decide +kernel
theorem in_X10_type_X6 : ∀ w ∈ wsX60, w ∈ wsX10_type := by decide +kernel
set_option maxHeartbeats 4000000 in
set_option maxRecDepth 100000 in
/-- type -/
theorem s_type (l : Launch) (X : EX) (h0 : Nat) (nw : Nat) (sp : Nat) (xa : Nat → Nat) (la : Int64) (lb : Int64) (hb : Nat) (n : Nat) (bd : Nat → Nat) (vd : Nat → Int32) (fd : Nat → Int32) (fr : Nat → Int32) (x1 : Int32) (hI_n : n ≤ 150) (hI_bd : InP bd) (sz : Nat) : Met l yX10_type wsX10_type ({ frames := 1, cells := 0, slots := 0, locals := 22 } : Room) (pE X [.ref h0, .int x1] (@HAppend.hAppend va_W va_W va_W _ (xW h0 nw sp xa la lb) (@HAppend.hAppend va_W va_W va_W _ (rdV X (xa 4) hb n bd vd fd) ([((xa 5), .inl (X.2.1, 3, .inl fr))]))) sz) (qI (fun (r : Int32) (u : (Nat) × (Nat → Int32) × (Nat → Int32)) => u.1 ≤ 150 ∧ ((r, (u.1, u.2.1)) = typF x1 n fd)) X (fun (u : (Nat) × (Nat → Int32) × (Nat → Int32)) => @HAppend.hAppend va_W va_W va_W _ (xW h0 nw sp xa la lb) (@HAppend.hAppend va_W va_W va_W _ (rdV X (xa 4) hb u.1 bd vd u.2.1) ([((xa 5), .inl (X.2.1, 3, .inl u.2.2))]))) (@HAppend.hAppend va_W va_W va_W _ (xW h0 nw sp xa la lb) (@HAppend.hAppend va_W va_W va_W _ (rdV X (xa 4) hb n bd vd fd) ([((xa 5), .inl (X.2.1, 3, .inl fr))]))) sz) 0 0 (va_A (@HAppend.hAppend va_W va_W va_W _ (xW h0 nw sp xa la lb) (@HAppend.hAppend va_W va_W va_W _ (rdV X (xa 4) hb n bd vd fd) ([((xa 5), .inl (X.2.1, 3, .inl fr))]))) sz) := by
  refine mk_met (B := (va_A (@HAppend.hAppend va_W va_W va_W _ (xW h0 nw sp xa la lb) (@HAppend.hAppend va_W va_W va_W _ (rdV X (xa 4) hb n bd vd fd) ([((xa 5), .inl (X.2.1, 3, .inl fr))]))) sz)) (A := (va_A (@HAppend.hAppend va_W va_W va_W _ (xW h0 nw sp xa la lb) (@HAppend.hAppend va_W va_W va_W _ (rdV X (xa 4) hb n bd vd fd) ([((xa 5), .inl (X.2.1, 3, .inl fr))]))) sz)) (cc := cX10_type) (maxL := 2) (ret := (some .int)) (by decide) rfl (Nat.le_of_ble_eq_true rfl) k_w k_a (fun p e s m below meth c S zr zlk znm zsz G ls hl => ?_)
  have S : CallFix p m c cX10_type 2 s _ wsX10_type RX10 := S
  have zx := S.1
  have zb := S.2.1
  have hl : lv_has ls 2 [(0, .ref h0), (1, .int x1)] := hl
  have hO_bd := hI_bd
  obtain ⟨hd0_bd, hd1_bd⟩ := hO_bd
  refine lv_iload_n zx zb dX10_type_0 rfl (lv_at hl 1 rfl) ?_
  refine lv_iconst (v := 0) zx zb dX10_type_1 (by decide) ?_
  refine lv_bipush (v := 127) zx zb dX10_type_2 (by decide) ?_
  refine o_ri (cells' := 0) (slots' := 0) G rfl rfl (n_S (As := [.int x1, .int 0, .int 127]) (rest := []) S G (s_within l X x1 0 127 s.heap.size) gX10_type_X10_within rfl rfl rfl hdS_X10_within ⟨Nat.le_of_ble_eq_true rfl, Nat.le_of_ble_eq_true rfl⟩ [] rfl rfl rfl hl.1 (Nat.le_of_ble_eq_true rfl) dX10_type_4 ⟨Nat.le_of_ble_eq_true rfl, Nat.le_of_ble_eq_true rfl⟩) (fun r_1 u_1 H locs hp_1 G => ?_)
  have G : wd X (va_A (@HAppend.hAppend va_W va_W va_W _ (xW h0 nw sp xa la lb) (@HAppend.hAppend va_W va_W va_W _ (rdV X (xa 4) hb n bd vd fd) ([((xa 5), .inl (X.2.1, 3, .inl fr))]))) sz) (va_A (@HAppend.hAppend va_W va_W va_W _ (xW h0 nw sp xa la lb) (@HAppend.hAppend va_W va_W va_W _ (rdV X (xa 4) hb n bd vd fd) ([((xa 5), .inl (X.2.1, 3, .inl fr))]))) sz) s (@HAppend.hAppend va_W va_W va_W _ (xW h0 nw sp xa la lb) (@HAppend.hAppend va_W va_W va_W _ (rdV X (xa 4) hb n bd vd fd) ([((xa 5), .inl (X.2.1, 3, .inl fr))]))) H locs := G
  rcases hp_1 with ⟨rfl, hw_1⟩ | ⟨rfl, hw_1⟩
  · refine lv_if_ne (tgt := 17) zx zb dX10_type_7 (by decide) (fun c_2 => ?_) (fun c_2 => absurd c_2 (by decide))
    refine lv_aload_n zx zb dX10_type_17 rfl (lv_at hl 0 rfl) ?_
    refine r_get (C := RX10) (T := TX10) (N := 14) (ci := 8) (v := .ref (xa 4)) S in_X10_type_X10 G 0 rfl rfl 4 (by decide) lk_X10_type_30 rfl dX10_type_18 ?_
    refine lv_iload_n zx zb dX10_type_21 rfl (lv_at hl 1 rfl) ?_
    refine b_wi (cells' := 0) (slots' := 0) (wr := @HAppend.hAppend va_W va_W va_W _ (xW h0 nw sp xa la lb) ([((xa 5), .inl (X.2.1, 3, .inl fr))])) G rfl rfl [1, 2] [0, 3] rfl rfl rfl rfl (n_V (As := [.int x1]) (rest := []) (C := RX6) (T := TX6) (N := 7) (ci := 4) S G (s_append l X (xa 4) hb n bd vd fd x1 hI_n hI_bd H.size) gX10_type_X6_append rfl rfl rfl hdV_X6_append ⟨Nat.le_of_ble_eq_true rfl, Nat.le_of_ble_eq_true rfl⟩ [1, 2] rfl rfl 1 rfl rfl rfl hl.1 (Nat.le_of_ble_eq_true rfl) dX10_type_22 ⟨Nat.le_of_ble_eq_true rfl, Nat.le_of_ble_eq_true rfl⟩) (fun r_3 u_3 H locs hp_3 G => ?_)
    obtain ⟨n_3a, f_3b⟩ := u_3
    try dsimp only at hp_3
    obtain ⟨hI_n_3a, hq_3⟩ := hp_3
    have hO_bd := hI_bd
    obtain ⟨hd0_bd, hd1_bd⟩ := hO_bd
    have G : wd X (va_A (@HAppend.hAppend va_W va_W va_W _ (xW h0 nw sp xa la lb) (@HAppend.hAppend va_W va_W va_W _ (rdV X (xa 4) hb n bd vd fd) ([((xa 5), .inl (X.2.1, 3, .inl fr))]))) sz) (va_A (@HAppend.hAppend va_W va_W va_W _ (xW h0 nw sp xa la lb) (@HAppend.hAppend va_W va_W va_W _ (rdV X (xa 4) hb n bd vd fd) ([((xa 5), .inl (X.2.1, 3, .inl fr))]))) sz) s (@HAppend.hAppend va_W va_W va_W _ (xW h0 nw sp xa la lb) (@HAppend.hAppend va_W va_W va_W _ ([((xa 5), .inl (X.2.1, 3, .inl fr))]) (rdV X (xa 4) hb n_3a bd vd f_3b))) H locs := G
    rcases hq_3 with ⟨rfl, ha_3, hn_3, hf_3⟩ | ⟨rfl, ha_3, hn_3, hf_3⟩
    · refine lv_if_eq (tgt := 38) zx zb dX10_type_25 (by decide) (fun c_4 => ?_) (fun c_4 => absurd (by decide) c_4)
      refine lv_aload_n zx zb dX10_type_38 rfl (lv_at hl 0 rfl) ?_
      refine lv_bipush (v := (-4)) zx zb dX10_type_39 (by decide) ?_
      refine b_wi (cells' := 0) (slots' := 0) (wr := rdV X (xa 4) hb n_3a bd vd f_3b) G rfl rfl [0, 1] [2, 3] rfl rfl rfl rfl (n_V (As := [.int (-4)]) (rest := []) (C := RX10) (T := TX10) (N := 14) (ci := 8) S G (s_refuse l X h0 nw sp xa la lb fr (-4) H.size) gX10_type_X10_refuse rfl rfl rfl hdV_X10_refuse ⟨Nat.le_of_ble_eq_true rfl, Nat.le_of_ble_eq_true rfl⟩ [0, 1] rfl rfl 0 rfl rfl rfl hl.1 (Nat.le_of_ble_eq_true rfl) dX10_type_41 ⟨Nat.le_of_ble_eq_true rfl, Nat.le_of_ble_eq_true rfl⟩) (fun r_5 u_5 H locs hp_5 G => ?_)
      obtain ⟨f_5, rfl⟩ : ∃ z, z = u_5 := ⟨_, rfl⟩
      have hq_5 := hp_5
      have G : wd X (va_A (@HAppend.hAppend va_W va_W va_W _ (xW h0 nw sp xa la lb) (@HAppend.hAppend va_W va_W va_W _ (rdV X (xa 4) hb n bd vd fd) ([((xa 5), .inl (X.2.1, 3, .inl fr))]))) sz) (va_A (@HAppend.hAppend va_W va_W va_W _ (xW h0 nw sp xa la lb) (@HAppend.hAppend va_W va_W va_W _ (rdV X (xa 4) hb n bd vd fd) ([((xa 5), .inl (X.2.1, 3, .inl fr))]))) sz) s (@HAppend.hAppend va_W va_W va_W _ (rdV X (xa 4) hb n_3a bd vd f_3b) (@HAppend.hAppend va_W va_W va_W _ (xW h0 nw sp xa la lb) ([((xa 5), .inl (X.2.1, 3, .inl f_5))]))) H locs := G
      have hzF : (r_5, (n_3a, f_3b)) = typF x1 n fd := by rw [typF_f hw_1 (by omega), hq_5, hn_3, hf_3]
      exact e_int S zr zlk (vp_nar_int _) G (n_3a, f_3b, f_5) [2, 0, 1, 3] rfl rfl (Or.inr rfl) (⟨hI_n_3a, hzF⟩) dX10_type_44
    · refine lv_if_eq (tgt := 38) zx zb dX10_type_25 (by decide) (fun c_6 => absurd c_6 (by decide)) (fun c_6 => ?_)
      refine lv_aload_n zx zb dX10_type_28 rfl (lv_at hl 0 rfl) ?_
      refine r_get (C := RX10) (T := TX10) (N := 14) (ci := 8) (v := .ref (xa 4)) S in_X10_type_X10 G 0 rfl rfl 4 (by decide) lk_X10_type_30 rfl dX10_type_29 ?_
      refine r_getN (C := RX6) (T := TX6) (N := 7) (ci := 4) (host := "EggSpoons") (v := .int (nI n_3a)) S in_X10_type_X6 G 2 rfl rfl 1 (by decide) G.1.2.2.2.1 rfl dX10_type_32 ?_
      refine lv_goto (tgt := 44) zx zb dX10_type_35 (by decide) ?_
      have hzF : ((nI n_3a), (n_3a, f_3b)) = typF x1 n fd := by rw [typF_p hw_1 (by omega), hn_3, hf_3]
      exact e_int S zr zlk (vp_nar_int _) G (n_3a, f_3b, fr) [0, 2, 3, 1] rfl rfl (Or.inr rfl) (⟨hI_n_3a, hzF⟩) dX10_type_44
  · refine lv_if_ne (tgt := 17) zx zb dX10_type_7 (by decide) (fun c_7 => absurd (by decide) c_7) (fun c_7 => ?_)
    refine lv_aload_n zx zb dX10_type_10 rfl (lv_at hl 0 rfl) ?_
    refine lv_bipush (v := (-2)) zx zb dX10_type_11 (by decide) ?_
    refine b_wi (cells' := 0) (slots' := 0) (wr := rdV X (xa 4) hb n bd vd fd) G rfl rfl [0, 3] [1, 2] rfl rfl rfl rfl (n_V (As := [.int (-2)]) (rest := []) (C := RX10) (T := TX10) (N := 14) (ci := 8) S G (s_refuse l X h0 nw sp xa la lb fr (-2) H.size) gX10_type_X10_refuse rfl rfl rfl hdV_X10_refuse ⟨Nat.le_of_ble_eq_true rfl, Nat.le_of_ble_eq_true rfl⟩ [0, 3] rfl rfl 0 rfl rfl rfl hl.1 (Nat.le_of_ble_eq_true rfl) dX10_type_13 ⟨Nat.le_of_ble_eq_true rfl, Nat.le_of_ble_eq_true rfl⟩) (fun r_8 u_8 H locs hp_8 G => ?_)
    obtain ⟨f_8, rfl⟩ : ∃ z, z = u_8 := ⟨_, rfl⟩
    have hq_8 := hp_8
    have G : wd X (va_A (@HAppend.hAppend va_W va_W va_W _ (xW h0 nw sp xa la lb) (@HAppend.hAppend va_W va_W va_W _ (rdV X (xa 4) hb n bd vd fd) ([((xa 5), .inl (X.2.1, 3, .inl fr))]))) sz) (va_A (@HAppend.hAppend va_W va_W va_W _ (xW h0 nw sp xa la lb) (@HAppend.hAppend va_W va_W va_W _ (rdV X (xa 4) hb n bd vd fd) ([((xa 5), .inl (X.2.1, 3, .inl fr))]))) sz) s (@HAppend.hAppend va_W va_W va_W _ (rdV X (xa 4) hb n bd vd fd) (@HAppend.hAppend va_W va_W va_W _ (xW h0 nw sp xa la lb) ([((xa 5), .inl (X.2.1, 3, .inl f_8))]))) H locs := G
    have hzF : (r_8, (n, fd)) = typF x1 n fd := by rw [typF_n (fun h => hw_1 h), hq_8]
    exact e_int S zr zlk (vp_nar_int _) G (n, fd, f_8) [2, 0, 1, 3] rfl rfl (Or.inr rfl) (⟨hI_n, hzF⟩) dX10_type_16
theorem in_X10_clear_X10 : ∀ w ∈ wsX100, w ∈ wsX10_clear := by decide +kernel
theorem lk_X10_clear_30 : Cond.fieldLink RX10 30 "EggSpoons" "reader" "LEggSpoons$Reader;" ∈ wsX10_clear := by decide +kernel
theorem in_X10_clear_X6 : ∀ w ∈ wsX60, w ∈ wsX10_clear := by decide +kernel
set_option maxHeartbeats 4000000 in
set_option maxRecDepth 100000 in
/-- clear -/
theorem s_clear (l : Launch) (X : EX) (h0 : Nat) (nw : Nat) (sp : Nat) (xa : Nat → Nat) (la : Int64) (lb : Int64) (hb : Nat) (n : Nat) (bd : Nat → Nat) (vd : Nat → Int32) (fd : Nat → Int32) (hI_n : n ≤ 150) (hI_bd : InP bd) (sz : Nat) : Met l yX10_clear wsX10_clear ({ frames := 0, cells := 0, slots := 0, locals := 0 } : Room) (pE X [.ref h0] (@HAppend.hAppend va_W va_W va_W _ (xW h0 nw sp xa la lb) (rdV X (xa 4) hb n bd vd fd)) sz) (qI (fun (r : Int32) (u : (Nat)) => u ≤ 150 ∧ (r = nI n ∧ u = 0)) X (fun (u : (Nat)) => @HAppend.hAppend va_W va_W va_W _ (xW h0 nw sp xa la lb) (rdV X (xa 4) hb u bd vd fd)) (@HAppend.hAppend va_W va_W va_W _ (xW h0 nw sp xa la lb) (rdV X (xa 4) hb n bd vd fd)) sz) 0 0 (va_A (@HAppend.hAppend va_W va_W va_W _ (xW h0 nw sp xa la lb) (rdV X (xa 4) hb n bd vd fd)) sz) := by
  refine mk_met (B := (va_A (@HAppend.hAppend va_W va_W va_W _ (xW h0 nw sp xa la lb) (rdV X (xa 4) hb n bd vd fd)) sz)) (A := (va_A (@HAppend.hAppend va_W va_W va_W _ (xW h0 nw sp xa la lb) (rdV X (xa 4) hb n bd vd fd)) sz)) (cc := cX10_clear) (maxL := 2) (ret := (some .int)) (by decide) rfl (Nat.le_of_ble_eq_true rfl) k_w k_a (fun p e s m below meth c S zr zlk znm zsz G ls hl => ?_)
  have S : CallFix p m c cX10_clear 2 s _ wsX10_clear RX10 := S
  have zx := S.1
  have zb := S.2.1
  have hl : lv_has ls 2 [(0, .ref h0)] := hl
  have hO_bd := hI_bd
  obtain ⟨hd0_bd, hd1_bd⟩ := hO_bd
  refine lv_aload_n zx zb dX10_clear_0 rfl (lv_at hl 0 rfl) ?_
  refine r_get (C := RX10) (T := TX10) (N := 14) (ci := 8) (v := .ref (xa 4)) S in_X10_clear_X10 G 0 rfl rfl 4 (by decide) lk_X10_clear_30 rfl dX10_clear_1 ?_
  refine r_getN (C := RX6) (T := TX6) (N := 7) (ci := 4) (host := "EggSpoons") (v := .int (nI n)) S in_X10_clear_X6 G 1 rfl rfl 1 (by decide) G.1.2.2.2.1 rfl dX10_clear_4 ?_
  refine lv_istore_n (lv' := [(1, .int (nI n)), (0, .ref h0)]) zx zb dX10_clear_7 rfl hl (by decide) rfl (fun ls hl => ?_)
  refine lv_aload_n zx zb dX10_clear_8 rfl (lv_at hl 1 rfl) ?_
  refine r_get (C := RX10) (T := TX10) (N := 14) (ci := 8) (v := .ref (xa 4)) S in_X10_clear_X10 G 0 rfl rfl 4 (by decide) lk_X10_clear_30 rfl dX10_clear_9 ?_
  refine lv_iconst (v := 0) zx zb dX10_clear_12 (by decide) ?_
  refine r_putN (host := "EggSpoons") (C := RX6) (T := TX6) (N := 7) (ci := 4) (v := .int 0) S in_X10_clear_X6 tyX6_ok nmX6 G 1 rfl rfl 1 (by decide) G.1.2.2.2.1 rfl (vp_nar_int _) rfl (Nat.le_of_ble_eq_true rfl) dX10_clear_13 (fun H locs G => ?_)
  obtain ⟨n_1, hI_n_1, hE_n_1, G⟩ : ∃ n_1 : Nat, n_1 ≤ 150 ∧ n_1 = 0 ∧ wd X (va_A (@HAppend.hAppend va_W va_W va_W _ (xW h0 nw sp xa la lb) (rdV X (xa 4) hb n bd vd fd)) sz) (va_A (@HAppend.hAppend va_W va_W va_W _ (xW h0 nw sp xa la lb) (rdV X (xa 4) hb n bd vd fd)) sz) s (@HAppend.hAppend va_W va_W va_W _ (xW h0 nw sp xa la lb) (rdV X (xa 4) hb n_1 bd vd fd)) H locs := ⟨0, by omega, rfl, G⟩
  refine lv_iload_n zx zb dX10_clear_16 rfl (lv_at hl 0 rfl) ?_
  exact e_int S zr zlk (vp_nar_int _) G (n_1) [0, 1, 2] rfl rfl (Or.inr rfl) (⟨hI_n_1, ⟨rfl, hE_n_1⟩⟩) dX10_clear_17
theorem in_X10_count_X10 : ∀ w ∈ wsX100, w ∈ wsX10_count := by decide +kernel
theorem lk_X10_count_10 : Cond.fieldLink RX10 10 "EggSpoons" "now" "LEggSpoons$Race;" ∈ wsX10_count := by decide +kernel
theorem in_X10_count_X5 : ∀ w ∈ wsX50, w ∈ wsX10_count := by decide +kernel
theorem lk_X10_count_87 : Cond.fieldLink RX10 87 "EggSpoons$Race" "runners" "I" ∈ wsX10_count := by decide +kernel
theorem lk_X10_count_140 : Cond.fieldLink RX10 140 "EggSpoons$Race" "length" "I" ∈ wsX10_count := by decide +kernel
theorem lk_X10_count_110 : Cond.fieldLink RX10 110 "EggSpoons$Race" "tick" "I" ∈ wsX10_count := by decide +kernel
theorem hdV_X5_placesTogether : yX5_placesTogether.cls = RX5 ∧ yX5_placesTogether.cls ≠ "java/lang/invoke/MethodHandle" ∧ yX5_placesTogether.cls ≠ "java/lang/invoke/VarHandle" ∧ (parseMethodDescriptor yX5_placesTogether.desc).map (fun d => d.parameters.length) = some 0 := by decide +kernel
theorem hdV_X5_dropsTogether : yX5_dropsTogether.cls = RX5 ∧ yX5_dropsTogether.cls ≠ "java/lang/invoke/MethodHandle" ∧ yX5_dropsTogether.cls ≠ "java/lang/invoke/VarHandle" ∧ (parseMethodDescriptor yX5_dropsTogether.desc).map (fun d => d.parameters.length) = some 0 := by decide +kernel
theorem lk_X10_count_185 : Cond.fieldLink RX10 185 "EggSpoons$Race" "seenRows" "LEggSpoons$Rows;" ∈ wsX10_count := by decide +kernel
theorem in_X10_count_X7 : ∀ w ∈ wsX70, w ∈ wsX10_count := by decide +kernel
theorem lk_X10_count_194 : Cond.fieldLink RX10 194 "EggSpoons$Rows" "size" "I" ∈ wsX10_count := by decide +kernel
theorem lk_X10_count_212 : Cond.fieldLink RX10 212 "EggSpoons$Race" "noteRows" "LEggSpoons$Rows;" ∈ wsX10_count := by decide +kernel
theorem lk_X10_count_215 : Cond.fieldLink RX10 215 "EggSpoons$Race" "markRows" "LEggSpoons$Rows;" ∈ wsX10_count := by decide +kernel
theorem lk_X10_count_282 : Cond.fieldLink RX10 282 "EggSpoons$Race" "past" "LEggSpoons$Past;" ∈ wsX10_count := by decide +kernel
theorem in_X10_count_X4 : ∀ w ∈ wsX40, w ∈ wsX10_count := by decide +kernel
theorem lk_X10_count_286 : Cond.fieldLink RX10 286 "EggSpoons$Past" "size" "I" ∈ wsX10_count := by decide +kernel
theorem lk_X10_count_30 : Cond.fieldLink RX10 30 "EggSpoons" "reader" "LEggSpoons$Reader;" ∈ wsX10_count := by decide +kernel
theorem in_X10_count_X6 : ∀ w ∈ wsX60, w ∈ wsX10_count := by decide +kernel
set_option maxHeartbeats 4000000 in
set_option maxRecDepth 100000 in
/-- count -/
theorem s_count2 (l : Launch) (X : EX) (h0 : Nat) (nw : Nat) (sp : Nat) (xa : Nat → Nat) (la : Int64) (lb : Int64) (an : Nat → Nat) (sv : Nat → Int32) (dv : Nat → Int32) (n0 : Nat) (n1 : Nat) (n2 : Nat) (n3 : Nat) (n4 : Nat) (g0 : Nat → Int32) (gs : Nat → Int32) (gn : Nat → Int32) (gm : Nat → Int32) (hb : Nat) (n : Nat) (bd : Nat → Nat) (vd : Nat → Int32) (fd : Nat → Int32) (fr : Nat → Int32) (x1 : Int32) (hI_n0 : n0 ≤ 6) (hI_n1 : n1 ≤ 8) (hI_n2 : n2 ≤ 5) (hI_n3 : n3 ≤ 6) (hI_n4 : n4 ≤ 6) (hI_n : n ≤ 150) (hI_bd : InP bd) (sz : Nat) : Met l yX10_count wsX10_count ({ frames := 2, cells := 0, slots := 0, locals := 42 } : Room) (pE X [.ref h0, .int x1] (@HAppend.hAppend va_W va_W va_W _ (xW h0 nw sp xa la lb) (@HAppend.hAppend va_W va_W va_W _ (rcV X nw an sv dv n0 n1 n2 n3 n4 g0 gs gn gm) (@HAppend.hAppend va_W va_W va_W _ (rdV X (xa 4) hb n bd vd fd) ([((xa 5), .inl (X.2.1, 3, .inl fr))])))) sz) (qI (fun (r : Int32) (u : (Nat → Int32)) => (True)) X (fun (u : (Nat → Int32)) => @HAppend.hAppend va_W va_W va_W _ (xW h0 nw sp xa la lb) (@HAppend.hAppend va_W va_W va_W _ (rcV X nw an sv dv n0 n1 n2 n3 n4 g0 gs gn gm) (@HAppend.hAppend va_W va_W va_W _ (rdV X (xa 4) hb n bd vd fd) ([((xa 5), .inl (X.2.1, 3, .inl u))])))) (@HAppend.hAppend va_W va_W va_W _ (xW h0 nw sp xa la lb) (@HAppend.hAppend va_W va_W va_W _ (rcV X nw an sv dv n0 n1 n2 n3 n4 g0 gs gn gm) (@HAppend.hAppend va_W va_W va_W _ (rdV X (xa 4) hb n bd vd fd) ([((xa 5), .inl (X.2.1, 3, .inl fr))])))) sz) 0 0 (va_A (@HAppend.hAppend va_W va_W va_W _ (xW h0 nw sp xa la lb) (@HAppend.hAppend va_W va_W va_W _ (rcV X nw an sv dv n0 n1 n2 n3 n4 g0 gs gn gm) (@HAppend.hAppend va_W va_W va_W _ (rdV X (xa 4) hb n bd vd fd) ([((xa 5), .inl (X.2.1, 3, .inl fr))])))) sz) := by
  refine mk_met (B := (va_A (@HAppend.hAppend va_W va_W va_W _ (xW h0 nw sp xa la lb) (@HAppend.hAppend va_W va_W va_W _ (rcV X nw an sv dv n0 n1 n2 n3 n4 g0 gs gn gm) (@HAppend.hAppend va_W va_W va_W _ (rdV X (xa 4) hb n bd vd fd) ([((xa 5), .inl (X.2.1, 3, .inl fr))])))) sz)) (A := (va_A (@HAppend.hAppend va_W va_W va_W _ (xW h0 nw sp xa la lb) (@HAppend.hAppend va_W va_W va_W _ (rcV X nw an sv dv n0 n1 n2 n3 n4 g0 gs gn gm) (@HAppend.hAppend va_W va_W va_W _ (rdV X (xa 4) hb n bd vd fd) ([((xa 5), .inl (X.2.1, 3, .inl fr))])))) sz)) (cc := cX10_count) (maxL := 2) (ret := (some .int)) (by decide) rfl (Nat.le_of_ble_eq_true rfl) k_w k_a (fun p e s m below meth c S zr zlk znm zsz G ls hl => ?_)
  have S : CallFix p m c cX10_count 2 s _ wsX10_count RX10 := S
  have zx := S.1
  have zb := S.2.1
  have hl : lv_has ls 2 [(0, .ref h0), (1, .int x1)] := hl
  have hO_bd := hI_bd
  obtain ⟨hd0_bd, hd1_bd⟩ := hO_bd
  refine lv_iload_n zx zb dX10_count_0 rfl (lv_at hl 1 rfl) ?_
  rcases k_ts0_10 x1 with w_1 | w_1 | w_1 | w_1 | w_1 | w_1 | w_1 | w_1 | w_1 | w_1 | w_1 | w_1
  · refine k_it w_1 ?_
    refine lv_tableIn (off := 59) (tgt := 60) zx zb dX10_count_1 (by decide) (by decide) rfl (by decide) ?_
    refine lv_aload_n zx zb dX10_count_60 rfl (lv_at hl 0 rfl) ?_
    refine r_get (C := RX10) (T := TX10) (N := 14) (ci := 8) (v := .ref nw) S in_X10_count_X10 G 0 rfl rfl 0 (by decide) lk_X10_count_10 rfl dX10_count_61 ?_
    refine r_get (C := RX5) (T := TX5) (N := 8) (ci := 3) (v := .int (nI n0)) S in_X10_count_X5 G 1 rfl rfl 2 (by decide) lk_X10_count_87 rfl dX10_count_64 ?_
    exact e_int S zr zlk (vp_nar_int _) G (fr) [0, 1, 2, 3, 4, 5, 6, 7, 8, 9, 10, 11, 12, 13, 14, 15, 16, 17, 18, 19] rfl rfl (Or.inr rfl) (trivial) dX10_count_67
  · refine k_it w_1 ?_
    refine lv_tableIn (off := 67) (tgt := 68) zx zb dX10_count_1 (by decide) (by decide) rfl (by decide) ?_
    refine lv_aload_n zx zb dX10_count_68 rfl (lv_at hl 0 rfl) ?_
    refine r_get (C := RX10) (T := TX10) (N := 14) (ci := 8) (v := .ref nw) S in_X10_count_X10 G 0 rfl rfl 0 (by decide) lk_X10_count_10 rfl dX10_count_69 ?_
    refine o_ri (cells' := 0) (slots' := 0) G rfl rfl (n_V (As := []) (rest := []) (C := RX5) (T := TX5) (N := 8) (ci := 3) S G (s_homes l X nw an sv dv n0 n1 n2 n3 n4 g0 gs gn gm hI_n0 hI_n1 hI_n2 hI_n3 hI_n4 s.heap.size) gX10_count_X5_homes rfl rfl rfl hdV_X5_homes ⟨Nat.le_of_ble_eq_true rfl, Nat.le_of_ble_eq_true rfl⟩ [1, 2, 3, 4, 5, 6, 7, 8, 9, 10, 11, 12, 13, 14, 15, 16] rfl rfl 1 rfl rfl rfl hl.1 (Nat.le_of_ble_eq_true rfl) dX10_count_72 ⟨Nat.le_of_ble_eq_true rfl, Nat.le_of_ble_eq_true rfl⟩) (fun r_2 u_2 H locs hp_2 G => ?_)
    have G : wd X (va_A (@HAppend.hAppend va_W va_W va_W _ (xW h0 nw sp xa la lb) (@HAppend.hAppend va_W va_W va_W _ (rcV X nw an sv dv n0 n1 n2 n3 n4 g0 gs gn gm) (@HAppend.hAppend va_W va_W va_W _ (rdV X (xa 4) hb n bd vd fd) ([((xa 5), .inl (X.2.1, 3, .inl fr))])))) sz) (va_A (@HAppend.hAppend va_W va_W va_W _ (xW h0 nw sp xa la lb) (@HAppend.hAppend va_W va_W va_W _ (rcV X nw an sv dv n0 n1 n2 n3 n4 g0 gs gn gm) (@HAppend.hAppend va_W va_W va_W _ (rdV X (xa 4) hb n bd vd fd) ([((xa 5), .inl (X.2.1, 3, .inl fr))])))) sz) s (@HAppend.hAppend va_W va_W va_W _ (xW h0 nw sp xa la lb) (@HAppend.hAppend va_W va_W va_W _ (rcV X nw an sv dv n0 n1 n2 n3 n4 g0 gs gn gm) (@HAppend.hAppend va_W va_W va_W _ (rdV X (xa 4) hb n bd vd fd) ([((xa 5), .inl (X.2.1, 3, .inl fr))])))) H locs := G
    exact e_int S zr zlk (vp_nar_int _) G (fr) [0, 1, 2, 3, 4, 5, 6, 7, 8, 9, 10, 11, 12, 13, 14, 15, 16, 17, 18, 19] rfl rfl (Or.inr rfl) (trivial) dX10_count_75
  · refine k_it w_1 ?_
    refine lv_tableIn (off := 75) (tgt := 76) zx zb dX10_count_1 (by decide) (by decide) rfl (by decide) ?_
    refine lv_aload_n zx zb dX10_count_76 rfl (lv_at hl 0 rfl) ?_
    refine r_get (C := RX10) (T := TX10) (N := 14) (ci := 8) (v := .ref nw) S in_X10_count_X10 G 0 rfl rfl 0 (by decide) lk_X10_count_10 rfl dX10_count_77 ?_
    refine r_get (C := RX5) (T := TX5) (N := 8) (ci := 3) (v := .int (dv 0)) S in_X10_count_X5 G 1 rfl rfl 0 (by decide) lk_X10_count_140 rfl dX10_count_80 ?_
    exact e_int S zr zlk (vp_nar_int _) G (fr) [0, 1, 2, 3, 4, 5, 6, 7, 8, 9, 10, 11, 12, 13, 14, 15, 16, 17, 18, 19] rfl rfl (Or.inr rfl) (trivial) dX10_count_83
  · refine k_it w_1 ?_
    refine lv_tableIn (off := 83) (tgt := 84) zx zb dX10_count_1 (by decide) (by decide) rfl (by decide) ?_
    refine lv_aload_n zx zb dX10_count_84 rfl (lv_at hl 0 rfl) ?_
    refine r_get (C := RX10) (T := TX10) (N := 14) (ci := 8) (v := .ref nw) S in_X10_count_X10 G 0 rfl rfl 0 (by decide) lk_X10_count_10 rfl dX10_count_85 ?_
    refine r_get (C := RX5) (T := TX5) (N := 8) (ci := 3) (v := .int (dv 1)) S in_X10_count_X5 G 1 rfl rfl 1 (by decide) lk_X10_count_110 rfl dX10_count_88 ?_
    exact e_int S zr zlk (vp_nar_int _) G (fr) [0, 1, 2, 3, 4, 5, 6, 7, 8, 9, 10, 11, 12, 13, 14, 15, 16, 17, 18, 19] rfl rfl (Or.inr rfl) (trivial) dX10_count_91
  · refine k_it w_1 ?_
    refine lv_tableIn (off := 91) (tgt := 92) zx zb dX10_count_1 (by decide) (by decide) rfl (by decide) ?_
    refine lv_aload_n zx zb dX10_count_92 rfl (lv_at hl 0 rfl) ?_
    refine r_get (C := RX10) (T := TX10) (N := 14) (ci := 8) (v := .ref nw) S in_X10_count_X10 G 0 rfl rfl 0 (by decide) lk_X10_count_10 rfl dX10_count_93 ?_
    refine o_ri (cells' := 0) (slots' := 0) G rfl rfl (n_V (As := []) (rest := []) (C := RX5) (T := TX5) (N := 8) (ci := 3) S G (s_places l X nw an sv dv n0 n1 n2 n3 n4 g0 gs gn gm hI_n0 hI_n1 hI_n2 hI_n3 hI_n4 s.heap.size) gX10_count_X5_placesTogether rfl rfl rfl hdV_X5_placesTogether ⟨Nat.le_of_ble_eq_true rfl, Nat.le_of_ble_eq_true rfl⟩ [1, 2, 3, 4, 5, 6, 7, 8, 9, 10, 11, 12, 13, 14, 15, 16] rfl rfl 1 rfl rfl rfl hl.1 (Nat.le_of_ble_eq_true rfl) dX10_count_96 ⟨Nat.le_of_ble_eq_true rfl, Nat.le_of_ble_eq_true rfl⟩) (fun r_3 u_3 H locs hp_3 G => ?_)
    have G : wd X (va_A (@HAppend.hAppend va_W va_W va_W _ (xW h0 nw sp xa la lb) (@HAppend.hAppend va_W va_W va_W _ (rcV X nw an sv dv n0 n1 n2 n3 n4 g0 gs gn gm) (@HAppend.hAppend va_W va_W va_W _ (rdV X (xa 4) hb n bd vd fd) ([((xa 5), .inl (X.2.1, 3, .inl fr))])))) sz) (va_A (@HAppend.hAppend va_W va_W va_W _ (xW h0 nw sp xa la lb) (@HAppend.hAppend va_W va_W va_W _ (rcV X nw an sv dv n0 n1 n2 n3 n4 g0 gs gn gm) (@HAppend.hAppend va_W va_W va_W _ (rdV X (xa 4) hb n bd vd fd) ([((xa 5), .inl (X.2.1, 3, .inl fr))])))) sz) s (@HAppend.hAppend va_W va_W va_W _ (xW h0 nw sp xa la lb) (@HAppend.hAppend va_W va_W va_W _ (rcV X nw an sv dv n0 n1 n2 n3 n4 g0 gs gn gm) (@HAppend.hAppend va_W va_W va_W _ (rdV X (xa 4) hb n bd vd fd) ([((xa 5), .inl (X.2.1, 3, .inl fr))])))) H locs := G
    exact e_int S zr zlk (vp_nar_int _) G (fr) [0, 1, 2, 3, 4, 5, 6, 7, 8, 9, 10, 11, 12, 13, 14, 15, 16, 17, 18, 19] rfl rfl (Or.inr rfl) (trivial) dX10_count_99
  · refine k_it w_1 ?_
    refine lv_tableIn (off := 99) (tgt := 100) zx zb dX10_count_1 (by decide) (by decide) rfl (by decide) ?_
    refine lv_aload_n zx zb dX10_count_100 rfl (lv_at hl 0 rfl) ?_
    refine r_get (C := RX10) (T := TX10) (N := 14) (ci := 8) (v := .ref nw) S in_X10_count_X10 G 0 rfl rfl 0 (by decide) lk_X10_count_10 rfl dX10_count_101 ?_
    refine o_ri (cells' := 0) (slots' := 0) G rfl rfl (n_V (As := []) (rest := []) (C := RX5) (T := TX5) (N := 8) (ci := 3) S G (s_drops l X nw an sv dv n0 n1 n2 n3 n4 g0 gs gn gm hI_n0 hI_n1 hI_n2 hI_n3 hI_n4 s.heap.size) gX10_count_X5_dropsTogether rfl rfl rfl hdV_X5_dropsTogether ⟨Nat.le_of_ble_eq_true rfl, Nat.le_of_ble_eq_true rfl⟩ [1, 2, 3, 4, 5, 6, 7, 8, 9, 10, 11, 12, 13, 14, 15, 16] rfl rfl 1 rfl rfl rfl hl.1 (Nat.le_of_ble_eq_true rfl) dX10_count_104 ⟨Nat.le_of_ble_eq_true rfl, Nat.le_of_ble_eq_true rfl⟩) (fun r_4 u_4 H locs hp_4 G => ?_)
    have G : wd X (va_A (@HAppend.hAppend va_W va_W va_W _ (xW h0 nw sp xa la lb) (@HAppend.hAppend va_W va_W va_W _ (rcV X nw an sv dv n0 n1 n2 n3 n4 g0 gs gn gm) (@HAppend.hAppend va_W va_W va_W _ (rdV X (xa 4) hb n bd vd fd) ([((xa 5), .inl (X.2.1, 3, .inl fr))])))) sz) (va_A (@HAppend.hAppend va_W va_W va_W _ (xW h0 nw sp xa la lb) (@HAppend.hAppend va_W va_W va_W _ (rcV X nw an sv dv n0 n1 n2 n3 n4 g0 gs gn gm) (@HAppend.hAppend va_W va_W va_W _ (rdV X (xa 4) hb n bd vd fd) ([((xa 5), .inl (X.2.1, 3, .inl fr))])))) sz) s (@HAppend.hAppend va_W va_W va_W _ (xW h0 nw sp xa la lb) (@HAppend.hAppend va_W va_W va_W _ (rcV X nw an sv dv n0 n1 n2 n3 n4 g0 gs gn gm) (@HAppend.hAppend va_W va_W va_W _ (rdV X (xa 4) hb n bd vd fd) ([((xa 5), .inl (X.2.1, 3, .inl fr))])))) H locs := G
    exact e_int S zr zlk (vp_nar_int _) G (fr) [0, 1, 2, 3, 4, 5, 6, 7, 8, 9, 10, 11, 12, 13, 14, 15, 16, 17, 18, 19] rfl rfl (Or.inr rfl) (trivial) dX10_count_107
  · refine k_it w_1 ?_
    refine lv_tableIn (off := 107) (tgt := 108) zx zb dX10_count_1 (by decide) (by decide) rfl (by decide) ?_
    refine lv_aload_n zx zb dX10_count_108 rfl (lv_at hl 0 rfl) ?_
    refine r_get (C := RX10) (T := TX10) (N := 14) (ci := 8) (v := .ref nw) S in_X10_count_X10 G 0 rfl rfl 0 (by decide) lk_X10_count_10 rfl dX10_count_109 ?_
    refine r_get (C := RX5) (T := TX5) (N := 8) (ci := 3) (v := .ref (an 9)) S in_X10_count_X5 G 1 rfl rfl 5 (by decide) lk_X10_count_185 rfl dX10_count_112 ?_
    refine r_get (C := RX7) (T := TX7) (N := 5) (ci := 5) (v := .int (nI n2)) S in_X10_count_X7 G 11 rfl rfl 4 (by decide) lk_X10_count_194 rfl dX10_count_115 ?_
    exact e_int S zr zlk (vp_nar_int _) G (fr) [0, 1, 2, 3, 4, 5, 6, 7, 8, 9, 10, 11, 12, 13, 14, 15, 16, 17, 18, 19] rfl rfl (Or.inr rfl) (trivial) dX10_count_118
  · refine k_it w_1 ?_
    refine lv_tableIn (off := 118) (tgt := 119) zx zb dX10_count_1 (by decide) (by decide) rfl (by decide) ?_
    refine lv_aload_n zx zb dX10_count_119 rfl (lv_at hl 0 rfl) ?_
    refine r_get (C := RX10) (T := TX10) (N := 14) (ci := 8) (v := .ref nw) S in_X10_count_X10 G 0 rfl rfl 0 (by decide) lk_X10_count_10 rfl dX10_count_120 ?_
    refine r_get (C := RX5) (T := TX5) (N := 8) (ci := 3) (v := .ref (an 11)) S in_X10_count_X5 G 1 rfl rfl 6 (by decide) lk_X10_count_212 rfl dX10_count_123 ?_
    refine r_get (C := RX7) (T := TX7) (N := 5) (ci := 5) (v := .int (nI n3)) S in_X10_count_X7 G 13 rfl rfl 4 (by decide) lk_X10_count_194 rfl dX10_count_126 ?_
    exact e_int S zr zlk (vp_nar_int _) G (fr) [0, 1, 2, 3, 4, 5, 6, 7, 8, 9, 10, 11, 12, 13, 14, 15, 16, 17, 18, 19] rfl rfl (Or.inr rfl) (trivial) dX10_count_129
  · refine k_it w_1 ?_
    refine lv_tableIn (off := 129) (tgt := 130) zx zb dX10_count_1 (by decide) (by decide) rfl (by decide) ?_
    refine lv_aload_n zx zb dX10_count_130 rfl (lv_at hl 0 rfl) ?_
    refine r_get (C := RX10) (T := TX10) (N := 14) (ci := 8) (v := .ref nw) S in_X10_count_X10 G 0 rfl rfl 0 (by decide) lk_X10_count_10 rfl dX10_count_131 ?_
    refine r_get (C := RX5) (T := TX5) (N := 8) (ci := 3) (v := .ref (an 13)) S in_X10_count_X5 G 1 rfl rfl 7 (by decide) lk_X10_count_215 rfl dX10_count_134 ?_
    refine r_get (C := RX7) (T := TX7) (N := 5) (ci := 5) (v := .int (nI n4)) S in_X10_count_X7 G 15 rfl rfl 4 (by decide) lk_X10_count_194 rfl dX10_count_137 ?_
    exact e_int S zr zlk (vp_nar_int _) G (fr) [0, 1, 2, 3, 4, 5, 6, 7, 8, 9, 10, 11, 12, 13, 14, 15, 16, 17, 18, 19] rfl rfl (Or.inr rfl) (trivial) dX10_count_140
  · refine k_it w_1 ?_
    refine lv_tableIn (off := 140) (tgt := 141) zx zb dX10_count_1 (by decide) (by decide) rfl (by decide) ?_
    refine lv_aload_n zx zb dX10_count_141 rfl (lv_at hl 0 rfl) ?_
    refine r_get (C := RX10) (T := TX10) (N := 14) (ci := 8) (v := .ref nw) S in_X10_count_X10 G 0 rfl rfl 0 (by decide) lk_X10_count_10 rfl dX10_count_142 ?_
    refine r_get (C := RX5) (T := TX5) (N := 8) (ci := 3) (v := .ref (an 7)) S in_X10_count_X5 G 1 rfl rfl 4 (by decide) lk_X10_count_282 rfl dX10_count_145 ?_
    refine r_get (C := RX4) (T := TX4) (N := 2) (ci := 2) (v := .int (nI n1)) S in_X10_count_X4 G 9 rfl rfl 1 (by decide) lk_X10_count_286 rfl dX10_count_148 ?_
    exact e_int S zr zlk (vp_nar_int _) G (fr) [0, 1, 2, 3, 4, 5, 6, 7, 8, 9, 10, 11, 12, 13, 14, 15, 16, 17, 18, 19] rfl rfl (Or.inr rfl) (trivial) dX10_count_151
  · refine k_it w_1 ?_
    refine lv_tableIn (off := 151) (tgt := 152) zx zb dX10_count_1 (by decide) (by decide) rfl (by decide) ?_
    refine lv_aload_n zx zb dX10_count_152 rfl (lv_at hl 0 rfl) ?_
    refine r_get (C := RX10) (T := TX10) (N := 14) (ci := 8) (v := .ref (xa 4)) S in_X10_count_X10 G 0 rfl rfl 4 (by decide) lk_X10_count_30 rfl dX10_count_153 ?_
    refine r_getN (C := RX6) (T := TX6) (N := 7) (ci := 4) (host := "EggSpoons") (v := .int (nI n)) S in_X10_count_X6 G 17 rfl rfl 1 (by decide) G.1.2.2.2.1 rfl dX10_count_156 ?_
    exact e_int S zr zlk (vp_nar_int _) G (fr) [0, 1, 2, 3, 4, 5, 6, 7, 8, 9, 10, 11, 12, 13, 14, 15, 16, 17, 18, 19] rfl rfl (Or.inr rfl) (trivial) dX10_count_159
  · refine lv_tableOut (tgt := 160) zx zb dX10_count_1 w_1 (by decide) ?_
    refine lv_aload_n zx zb dX10_count_160 rfl (lv_at hl 0 rfl) ?_
    refine lv_bipush (v := (-2)) zx zb dX10_count_161 (by decide) ?_
    refine b_wi (cells' := 0) (slots' := 0) (wr := @HAppend.hAppend va_W va_W va_W _ (rcV X nw an sv dv n0 n1 n2 n3 n4 g0 gs gn gm) (rdV X (xa 4) hb n bd vd fd)) G rfl rfl [0, 19] [1, 2, 3, 4, 5, 6, 7, 8, 9, 10, 11, 12, 13, 14, 15, 16, 17, 18] rfl rfl rfl rfl (n_V (As := [.int (-2)]) (rest := []) (C := RX10) (T := TX10) (N := 14) (ci := 8) S G (s_refuse l X h0 nw sp xa la lb fr (-2) s.heap.size) gX10_count_X10_refuse rfl rfl rfl hdV_X10_refuse ⟨Nat.le_of_ble_eq_true rfl, Nat.le_of_ble_eq_true rfl⟩ [0, 19] rfl rfl 0 rfl rfl rfl hl.1 (Nat.le_of_ble_eq_true rfl) dX10_count_163 ⟨Nat.le_of_ble_eq_true rfl, Nat.le_of_ble_eq_true rfl⟩) (fun r_5 u_5 H locs hp_5 G => ?_)
    obtain ⟨f_5, rfl⟩ : ∃ z, z = u_5 := ⟨_, rfl⟩
    have hq_5 := hp_5
    have G : wd X (va_A (@HAppend.hAppend va_W va_W va_W _ (xW h0 nw sp xa la lb) (@HAppend.hAppend va_W va_W va_W _ (rcV X nw an sv dv n0 n1 n2 n3 n4 g0 gs gn gm) (@HAppend.hAppend va_W va_W va_W _ (rdV X (xa 4) hb n bd vd fd) ([((xa 5), .inl (X.2.1, 3, .inl fr))])))) sz) (va_A (@HAppend.hAppend va_W va_W va_W _ (xW h0 nw sp xa la lb) (@HAppend.hAppend va_W va_W va_W _ (rcV X nw an sv dv n0 n1 n2 n3 n4 g0 gs gn gm) (@HAppend.hAppend va_W va_W va_W _ (rdV X (xa 4) hb n bd vd fd) ([((xa 5), .inl (X.2.1, 3, .inl fr))])))) sz) s (@HAppend.hAppend va_W va_W va_W _ (rcV X nw an sv dv n0 n1 n2 n3 n4 g0 gs gn gm) (@HAppend.hAppend va_W va_W va_W _ (rdV X (xa 4) hb n bd vd fd) (@HAppend.hAppend va_W va_W va_W _ (xW h0 nw sp xa la lb) ([((xa 5), .inl (X.2.1, 3, .inl f_5))])))) H locs := G
    exact e_int S zr zlk (vp_nar_int _) G (f_5) [18, 0, 1, 2, 3, 4, 5, 6, 7, 8, 9, 10, 11, 12, 13, 14, 15, 16, 17, 19] rfl rfl (Or.inr rfl) (trivial) dX10_count_166
theorem mm_X10_digest_c289 : Cond.constantLong RX10 289 (1789) ∈ wsX10_digest := by decide +kernel
theorem mm_X10_digest_c291 : Cond.constantLong RX10 291 (31) ∈ wsX10_digest := by decide +kernel
theorem hdV_X10_count : yX10_count.cls = RX10 ∧ yX10_count.cls ≠ "java/lang/invoke/MethodHandle" ∧ yX10_count.cls ≠ "java/lang/invoke/VarHandle" ∧ (parseMethodDescriptor yX10_count.desc).map (fun d => d.parameters.length) = some 1 := by decide +kernel
theorem in_X10_digest_X10 : ∀ w ∈ wsX100, w ∈ wsX10_digest := by decide +kernel
theorem lk_X10_digest_10 : Cond.fieldLink RX10 10 "EggSpoons" "now" "LEggSpoons$Race;" ∈ wsX10_digest := by decide +kernel
theorem in_X10_digest_X5 : ∀ w ∈ wsX50, w ∈ wsX10_digest := by decide +kernel
theorem lk_X10_digest_87 : Cond.fieldLink RX10 87 "EggSpoons$Race" "runners" "I" ∈ wsX10_digest := by decide +kernel
theorem lk_X10_digest_126 : Cond.fieldLink RX10 126 "EggSpoons$Race" "row" "[LEggSpoons$Runner;" ∈ wsX10_digest := by decide +kernel
theorem lk_X10_digest_110 : Cond.fieldLink RX10 110 "EggSpoons$Race" "tick" "I" ∈ wsX10_digest := by decide +kernel
theorem lk_X10_digest_185 : Cond.fieldLink RX10 185 "EggSpoons$Race" "seenRows" "LEggSpoons$Rows;" ∈ wsX10_digest := by decide +kernel
theorem hdV_X7_mixInto : yX7_mixInto.cls = RX7 ∧ yX7_mixInto.cls ≠ "java/lang/invoke/MethodHandle" ∧ yX7_mixInto.cls ≠ "java/lang/invoke/VarHandle" ∧ (parseMethodDescriptor yX7_mixInto.desc).map (fun d => d.parameters.length) = some 1 := by decide +kernel
theorem lk_X10_digest_212 : Cond.fieldLink RX10 212 "EggSpoons$Race" "noteRows" "LEggSpoons$Rows;" ∈ wsX10_digest := by decide +kernel
theorem lk_X10_digest_215 : Cond.fieldLink RX10 215 "EggSpoons$Race" "markRows" "LEggSpoons$Rows;" ∈ wsX10_digest := by decide +kernel
theorem lk_X10_digest_38 : Cond.fieldLink RX10 38 "EggSpoons" "above" "J" ∈ wsX10_digest := by decide +kernel
theorem lk_X10_digest_42 : Cond.fieldLink RX10 42 "EggSpoons" "below" "J" ∈ wsX10_digest := by decide +kernel
set_option maxHeartbeats 4000000 in
set_option maxRecDepth 100000 in
/-- digest -/
theorem s_digest2 (l : Launch) (X : EX) (h0 : Nat) (nw : Nat) (sp : Nat) (xa : Nat → Nat) (la : Int64) (lb : Int64) (an : Nat → Nat) (sv : Nat → Int32) (dv : Nat → Int32) (n0 : Nat) (n1 : Nat) (n2 : Nat) (n3 : Nat) (n4 : Nat) (g0 : Nat → Int32) (gs : Nat → Int32) (gn : Nat → Int32) (gm : Nat → Int32) (hb : Nat) (n : Nat) (bd : Nat → Nat) (vd : Nat → Int32) (fd : Nat → Int32) (fr : Nat → Int32) (hI_n0 : n0 ≤ 6) (hI_n1 : n1 ≤ 8) (hI_n2 : n2 ≤ 5) (hI_n3 : n3 ≤ 6) (hI_n4 : n4 ≤ 6) (hI_n : n ≤ 150) (hI_bd : InP bd) (sz : Nat) : Met l yX10_digest wsX10_digest ({ frames := 3, cells := 0, slots := 0, locals := 63 } : Room) (pE X [.ref h0] (@HAppend.hAppend va_W va_W va_W _ (xW h0 nw sp xa la lb) (@HAppend.hAppend va_W va_W va_W _ (rcV X nw an sv dv n0 n1 n2 n3 n4 g0 gs gn gm) (@HAppend.hAppend va_W va_W va_W _ (rdV X (xa 4) hb n bd vd fd) ([((xa 5), .inl (X.2.1, 3, .inl fr))])))) sz) (qL (fun (r : Int64) (u : (Nat → Int32)) => (True)) X (fun (u : (Nat → Int32)) => @HAppend.hAppend va_W va_W va_W _ (xW h0 nw sp xa la lb) (@HAppend.hAppend va_W va_W va_W _ (rcV X nw an sv dv n0 n1 n2 n3 n4 g0 gs gn gm) (@HAppend.hAppend va_W va_W va_W _ (rdV X (xa 4) hb n bd vd fd) ([((xa 5), .inl (X.2.1, 3, .inl u))])))) (@HAppend.hAppend va_W va_W va_W _ (xW h0 nw sp xa la lb) (@HAppend.hAppend va_W va_W va_W _ (rcV X nw an sv dv n0 n1 n2 n3 n4 g0 gs gn gm) (@HAppend.hAppend va_W va_W va_W _ (rdV X (xa 4) hb n bd vd fd) ([((xa 5), .inl (X.2.1, 3, .inl fr))])))) sz) 0 0 (va_A (@HAppend.hAppend va_W va_W va_W _ (xW h0 nw sp xa la lb) (@HAppend.hAppend va_W va_W va_W _ (rcV X nw an sv dv n0 n1 n2 n3 n4 g0 gs gn gm) (@HAppend.hAppend va_W va_W va_W _ (rdV X (xa 4) hb n bd vd fd) ([((xa 5), .inl (X.2.1, 3, .inl fr))])))) sz) := by
  refine mk_met (B := (va_A (@HAppend.hAppend va_W va_W va_W _ (xW h0 nw sp xa la lb) (@HAppend.hAppend va_W va_W va_W _ (rcV X nw an sv dv n0 n1 n2 n3 n4 g0 gs gn gm) (@HAppend.hAppend va_W va_W va_W _ (rdV X (xa 4) hb n bd vd fd) ([((xa 5), .inl (X.2.1, 3, .inl fr))])))) sz)) (A := (va_A (@HAppend.hAppend va_W va_W va_W _ (xW h0 nw sp xa la lb) (@HAppend.hAppend va_W va_W va_W _ (rcV X nw an sv dv n0 n1 n2 n3 n4 g0 gs gn gm) (@HAppend.hAppend va_W va_W va_W _ (rdV X (xa 4) hb n bd vd fd) ([((xa 5), .inl (X.2.1, 3, .inl fr))])))) sz)) (cc := cX10_digest) (maxL := 5) (ret := (some .long)) (by decide) rfl (Nat.le_of_ble_eq_true rfl) k_w k_a (fun p e s m below meth c S zr zlk znm zsz G ls hl => ?_)
  have S : CallFix p m c cX10_digest 5 s _ wsX10_digest RX10 := S
  have zx := S.1
  have zb := S.2.1
  have hl : lv_has ls 5 [(0, .ref h0)] := hl
  have hO_bd := hI_bd
  obtain ⟨hd0_bd, hd1_bd⟩ := hO_bd
  refine lv_ldc2 zx zb S.2.2.2.1 (S.2.2.2.2 _ mm_X10_digest_c289) dX10_digest_0 ?_
  refine k_ld (v := (Int32.toInt64 1789)) (by decide) ?_
  refine lv_lstore_n (lv' := [(1, .long (Int32.toInt64 1789)), (0, .ref h0)]) zx zb dX10_digest_3 rfl hl (by decide) rfl (fun ls hl => ?_)
  refine lv_iconst (v := 0) zx zb dX10_digest_4 (by decide) ?_
  refine lv_istore_n (lv' := [(3, .int 0), (1, .long (Int32.toInt64 1789)), (0, .ref h0)]) zx zb dX10_digest_5 rfl hl (by decide) rfl (fun ls hl => ?_)
  refine k_loop (P := ∀ (zm : Nat) (k6 : Nat) (x6_1 : Int64) (f6_3 : Nat → Int32) (H : Heap) (locs : List Loc) (ls : Array Slot), 11 + 1 ≤ k6 + zm → (k6 ≤ 11) → wd X (va_A (@HAppend.hAppend va_W va_W va_W _ (xW h0 nw sp xa la lb) (@HAppend.hAppend va_W va_W va_W _ (rcV X nw an sv dv n0 n1 n2 n3 n4 g0 gs gn gm) (@HAppend.hAppend va_W va_W va_W _ (rdV X (xa 4) hb n bd vd fd) ([((xa 5), .inl (X.2.1, 3, .inl fr))])))) sz) (va_A (@HAppend.hAppend va_W va_W va_W _ (xW h0 nw sp xa la lb) (@HAppend.hAppend va_W va_W va_W _ (rcV X nw an sv dv n0 n1 n2 n3 n4 g0 gs gn gm) (@HAppend.hAppend va_W va_W va_W _ (rdV X (xa 4) hb n bd vd fd) ([((xa 5), .inl (X.2.1, 3, .inl fr))])))) sz) s (@HAppend.hAppend va_W va_W va_W _ (xW h0 nw sp xa la lb) (@HAppend.hAppend va_W va_W va_W _ (rcV X nw an sv dv n0 n1 n2 n3 n4 g0 gs gn gm) (@HAppend.hAppend va_W va_W va_W _ (rdV X (xa 4) hb n bd vd fd) ([((xa 5), .inl (X.2.1, 3, .inl f6_3))])))) H locs → lv_has ls 5 [(3, .int (nI k6)), (1, .long x6_1), (0, .ref h0)] → W p l e _ s m _ below meth c H locs _ _ _ (F0 m 6 ls [])) (fun loop => loop (11 + 1) 0 (Int32.toInt64 1789) fr _ _ _ (by omega) (by omega) G hl) ?_
  intro zm
  induction zm with
  | zero => intro k6 x6_1 f6_3 H locs ls zz q_hk_k6 _ _; exact absurd zz (by omega)
  | succ zm ih6 =>
    intro k6 x6_1 f6_3 H locs ls zm_6 hk_k6 G hl
    refine lv_iload_n zx zb dX10_digest_6 rfl (lv_at hl 0 rfl) ?_
    refine lv_bipush (v := 10) zx zb dX10_digest_7 (by decide) ?_
    refine lv_icmp_gt (tgt := 31) zx zb dX10_digest_9 (by decide) (fun c_1 => ?_) (fun c_1 => ?_)
    · have fc_1 := j_lt (a := 10) (b := k6) (by omega) (by omega) c_1
      refine lv_iconst (v := 0) zx zb dX10_digest_31 (by decide) ?_
      refine lv_istore_n (lv' := [(3, .int 0), (1, .long x6_1), (0, .ref h0)]) zx zb dX10_digest_32 rfl hl (by decide) rfl (fun ls hl => ?_)
      refine k_loop (P := ∀ (zm : Nat) (k33 : Nat) (x33_1 : Int64) (H : Heap) (locs : List Loc) (ls : Array Slot), 6 + 1 ≤ k33 + zm → (k33 ≤ 6) → wd X (va_A (@HAppend.hAppend va_W va_W va_W _ (xW h0 nw sp xa la lb) (@HAppend.hAppend va_W va_W va_W _ (rcV X nw an sv dv n0 n1 n2 n3 n4 g0 gs gn gm) (@HAppend.hAppend va_W va_W va_W _ (rdV X (xa 4) hb n bd vd fd) ([((xa 5), .inl (X.2.1, 3, .inl fr))])))) sz) (va_A (@HAppend.hAppend va_W va_W va_W _ (xW h0 nw sp xa la lb) (@HAppend.hAppend va_W va_W va_W _ (rcV X nw an sv dv n0 n1 n2 n3 n4 g0 gs gn gm) (@HAppend.hAppend va_W va_W va_W _ (rdV X (xa 4) hb n bd vd fd) ([((xa 5), .inl (X.2.1, 3, .inl fr))])))) sz) s (@HAppend.hAppend va_W va_W va_W _ (xW h0 nw sp xa la lb) (@HAppend.hAppend va_W va_W va_W _ (rcV X nw an sv dv n0 n1 n2 n3 n4 g0 gs gn gm) (@HAppend.hAppend va_W va_W va_W _ (rdV X (xa 4) hb n bd vd fd) ([((xa 5), .inl (X.2.1, 3, .inl f6_3))])))) H locs → lv_has ls 5 [(3, .int (nI k33)), (1, .long x33_1), (0, .ref h0)] → W p l e _ s m _ below meth c H locs _ _ _ (F0 m 33 ls [])) (fun loop => loop (6 + 1) 0 x6_1 _ _ _ (by omega) (by omega) G hl) ?_
      intro zm
      induction zm with
      | zero => intro k33 x33_1 H locs ls zz q_hk_k33 _ _; exact absurd zz (by omega)
      | succ zm ih33 =>
        intro k33 x33_1 H locs ls zm_33 hk_k33 G hl
        refine lv_iload_n zx zb dX10_digest_33 rfl (lv_at hl 0 rfl) ?_
        refine lv_aload_n zx zb dX10_digest_34 rfl (lv_at hl 2 rfl) ?_
        refine r_get (C := RX10) (T := TX10) (N := 14) (ci := 8) (v := .ref nw) S in_X10_digest_X10 G 0 rfl rfl 0 (by decide) lk_X10_digest_10 rfl dX10_digest_35 ?_
        refine r_get (C := RX5) (T := TX5) (N := 8) (ci := 3) (v := .int (nI n0)) S in_X10_digest_X5 G 1 rfl rfl 2 (by decide) lk_X10_digest_87 rfl dX10_digest_38 ?_
        refine lv_icmp_ge (tgt := 97) zx zb dX10_digest_41 (by decide) (fun c_2 => ?_) (fun c_2 => ?_)
        · have fc_2 := j_le (a := n0) (b := k33) (by omega) (by omega) c_2
          refine lv_aload_n zx zb dX10_digest_97 rfl (lv_at hl 2 rfl) ?_
          refine r_get (C := RX10) (T := TX10) (N := 14) (ci := 8) (v := .ref nw) S in_X10_digest_X10 G 0 rfl rfl 0 (by decide) lk_X10_digest_10 rfl dX10_digest_98 ?_
          refine r_get (C := RX5) (T := TX5) (N := 8) (ci := 3) (v := .ref (an 9)) S in_X10_digest_X5 G 1 rfl rfl 5 (by decide) lk_X10_digest_185 rfl dX10_digest_101 ?_
          refine lv_lload_n zx zb dX10_digest_104 rfl (lv_at hl 1 rfl) ?_
          refine o_rl (cells' := 0) (slots' := 0) G rfl rfl (n_V (As := [.long x33_1]) (rest := []) (C := RX7) (T := TX7) (N := 5) (ci := 5) S G (s_mixInto0 l X (an 9) (an 10) n2 gs x33_1 hI_n2 H.size) gX10_digest_X7_mixInto rfl rfl rfl hdV_X7_mixInto ⟨Nat.le_of_ble_eq_true rfl, Nat.le_of_ble_eq_true rfl⟩ [11, 12] rfl rfl 11 rfl rfl rfl hl.1 (Nat.le_of_ble_eq_true rfl) dX10_digest_105 ⟨Nat.le_of_ble_eq_true rfl, Nat.le_of_ble_eq_true rfl⟩) (fun r_3 u_3 H locs hp_3 G => ?_)
          have G : wd X (va_A (@HAppend.hAppend va_W va_W va_W _ (xW h0 nw sp xa la lb) (@HAppend.hAppend va_W va_W va_W _ (rcV X nw an sv dv n0 n1 n2 n3 n4 g0 gs gn gm) (@HAppend.hAppend va_W va_W va_W _ (rdV X (xa 4) hb n bd vd fd) ([((xa 5), .inl (X.2.1, 3, .inl fr))])))) sz) (va_A (@HAppend.hAppend va_W va_W va_W _ (xW h0 nw sp xa la lb) (@HAppend.hAppend va_W va_W va_W _ (rcV X nw an sv dv n0 n1 n2 n3 n4 g0 gs gn gm) (@HAppend.hAppend va_W va_W va_W _ (rdV X (xa 4) hb n bd vd fd) ([((xa 5), .inl (X.2.1, 3, .inl fr))])))) sz) s (@HAppend.hAppend va_W va_W va_W _ (xW h0 nw sp xa la lb) (@HAppend.hAppend va_W va_W va_W _ (rcV X nw an sv dv n0 n1 n2 n3 n4 g0 gs gn gm) (@HAppend.hAppend va_W va_W va_W _ (rdV X (xa 4) hb n bd vd fd) ([((xa 5), .inl (X.2.1, 3, .inl f6_3))])))) H locs := G
          refine lv_lstore_n (lv' := [(1, .long r_3), (3, .int (nI k33)), (0, .ref h0)]) zx zb dX10_digest_108 rfl hl (by decide) rfl (fun ls hl => ?_)
          refine lv_aload_n zx zb dX10_digest_109 rfl (lv_at hl 2 rfl) ?_
          refine r_get (C := RX10) (T := TX10) (N := 14) (ci := 8) (v := .ref nw) S in_X10_digest_X10 G 0 rfl rfl 0 (by decide) lk_X10_digest_10 rfl dX10_digest_110 ?_
          refine r_get (C := RX5) (T := TX5) (N := 8) (ci := 3) (v := .ref (an 11)) S in_X10_digest_X5 G 1 rfl rfl 6 (by decide) lk_X10_digest_212 rfl dX10_digest_113 ?_
          refine lv_lload_n zx zb dX10_digest_116 rfl (lv_at hl 0 rfl) ?_
          refine o_rl (cells' := 0) (slots' := 0) G rfl rfl (n_V (As := [.long r_3]) (rest := []) (C := RX7) (T := TX7) (N := 5) (ci := 5) S G (s_mixInto1 l X (an 11) (an 12) n3 gn r_3 hI_n3 H.size) gX10_digest_X7_mixInto rfl rfl rfl hdV_X7_mixInto ⟨Nat.le_of_ble_eq_true rfl, Nat.le_of_ble_eq_true rfl⟩ [13, 14] rfl rfl 13 rfl rfl rfl hl.1 (Nat.le_of_ble_eq_true rfl) dX10_digest_117 ⟨Nat.le_of_ble_eq_true rfl, Nat.le_of_ble_eq_true rfl⟩) (fun r_4 u_4 H locs hp_4 G => ?_)
          have G : wd X (va_A (@HAppend.hAppend va_W va_W va_W _ (xW h0 nw sp xa la lb) (@HAppend.hAppend va_W va_W va_W _ (rcV X nw an sv dv n0 n1 n2 n3 n4 g0 gs gn gm) (@HAppend.hAppend va_W va_W va_W _ (rdV X (xa 4) hb n bd vd fd) ([((xa 5), .inl (X.2.1, 3, .inl fr))])))) sz) (va_A (@HAppend.hAppend va_W va_W va_W _ (xW h0 nw sp xa la lb) (@HAppend.hAppend va_W va_W va_W _ (rcV X nw an sv dv n0 n1 n2 n3 n4 g0 gs gn gm) (@HAppend.hAppend va_W va_W va_W _ (rdV X (xa 4) hb n bd vd fd) ([((xa 5), .inl (X.2.1, 3, .inl fr))])))) sz) s (@HAppend.hAppend va_W va_W va_W _ (xW h0 nw sp xa la lb) (@HAppend.hAppend va_W va_W va_W _ (rcV X nw an sv dv n0 n1 n2 n3 n4 g0 gs gn gm) (@HAppend.hAppend va_W va_W va_W _ (rdV X (xa 4) hb n bd vd fd) ([((xa 5), .inl (X.2.1, 3, .inl f6_3))])))) H locs := G
          refine lv_lstore_n (lv' := [(1, .long r_4), (3, .int (nI k33)), (0, .ref h0)]) zx zb dX10_digest_120 rfl hl (by decide) rfl (fun ls hl => ?_)
          refine lv_aload_n zx zb dX10_digest_121 rfl (lv_at hl 2 rfl) ?_
          refine r_get (C := RX10) (T := TX10) (N := 14) (ci := 8) (v := .ref nw) S in_X10_digest_X10 G 0 rfl rfl 0 (by decide) lk_X10_digest_10 rfl dX10_digest_122 ?_
          refine r_get (C := RX5) (T := TX5) (N := 8) (ci := 3) (v := .ref (an 13)) S in_X10_digest_X5 G 1 rfl rfl 7 (by decide) lk_X10_digest_215 rfl dX10_digest_125 ?_
          refine lv_lload_n zx zb dX10_digest_128 rfl (lv_at hl 0 rfl) ?_
          refine o_rl (cells' := 0) (slots' := 0) G rfl rfl (n_V (As := [.long r_4]) (rest := []) (C := RX7) (T := TX7) (N := 5) (ci := 5) S G (s_mixInto2 l X (an 13) (an 14) n4 gm r_4 hI_n4 H.size) gX10_digest_X7_mixInto rfl rfl rfl hdV_X7_mixInto ⟨Nat.le_of_ble_eq_true rfl, Nat.le_of_ble_eq_true rfl⟩ [15, 16] rfl rfl 15 rfl rfl rfl hl.1 (Nat.le_of_ble_eq_true rfl) dX10_digest_129 ⟨Nat.le_of_ble_eq_true rfl, Nat.le_of_ble_eq_true rfl⟩) (fun r_5 u_5 H locs hp_5 G => ?_)
          have G : wd X (va_A (@HAppend.hAppend va_W va_W va_W _ (xW h0 nw sp xa la lb) (@HAppend.hAppend va_W va_W va_W _ (rcV X nw an sv dv n0 n1 n2 n3 n4 g0 gs gn gm) (@HAppend.hAppend va_W va_W va_W _ (rdV X (xa 4) hb n bd vd fd) ([((xa 5), .inl (X.2.1, 3, .inl fr))])))) sz) (va_A (@HAppend.hAppend va_W va_W va_W _ (xW h0 nw sp xa la lb) (@HAppend.hAppend va_W va_W va_W _ (rcV X nw an sv dv n0 n1 n2 n3 n4 g0 gs gn gm) (@HAppend.hAppend va_W va_W va_W _ (rdV X (xa 4) hb n bd vd fd) ([((xa 5), .inl (X.2.1, 3, .inl fr))])))) sz) s (@HAppend.hAppend va_W va_W va_W _ (xW h0 nw sp xa la lb) (@HAppend.hAppend va_W va_W va_W _ (rcV X nw an sv dv n0 n1 n2 n3 n4 g0 gs gn gm) (@HAppend.hAppend va_W va_W va_W _ (rdV X (xa 4) hb n bd vd fd) ([((xa 5), .inl (X.2.1, 3, .inl f6_3))])))) H locs := G
          refine lv_lstore_n (lv' := [(1, .long r_5), (3, .int (nI k33)), (0, .ref h0)]) zx zb dX10_digest_132 rfl hl (by decide) rfl (fun ls hl => ?_)
          refine lv_ldc2 zx zb S.2.2.2.1 (S.2.2.2.2 _ mm_X10_digest_c291) dX10_digest_133 ?_
          refine k_ld (v := (Int32.toInt64 31)) (by decide) ?_
          refine lv_lload_n zx zb dX10_digest_136 rfl (lv_at hl 0 rfl) ?_
          refine r_lmul (v := ((Int32.toInt64 31) * r_5)) S rfl dX10_digest_137 ?_
          refine lv_aload_n zx zb dX10_digest_138 rfl (lv_at hl 2 rfl) ?_
          refine r_get (C := RX10) (T := TX10) (N := 14) (ci := 8) (v := .long la) S in_X10_digest_X10 G 0 rfl rfl 6 (by decide) lk_X10_digest_38 rfl dX10_digest_139 ?_
          refine r_ladd (v := (((Int32.toInt64 31) * r_5) + la)) S rfl dX10_digest_142 ?_
          refine lv_lstore_n (lv' := [(1, .long (((Int32.toInt64 31) * r_5) + la)), (3, .int (nI k33)), (0, .ref h0)]) zx zb dX10_digest_143 rfl hl (by decide) rfl (fun ls hl => ?_)
          refine lv_ldc2 zx zb S.2.2.2.1 (S.2.2.2.2 _ mm_X10_digest_c291) dX10_digest_144 ?_
          refine k_ld (v := (Int32.toInt64 31)) (by decide) ?_
          refine lv_lload_n zx zb dX10_digest_147 rfl (lv_at hl 0 rfl) ?_
          refine r_lmul (v := ((Int32.toInt64 31) * (((Int32.toInt64 31) * r_5) + la))) S rfl dX10_digest_148 ?_
          refine lv_aload_n zx zb dX10_digest_149 rfl (lv_at hl 2 rfl) ?_
          refine r_get (C := RX10) (T := TX10) (N := 14) (ci := 8) (v := .long lb) S in_X10_digest_X10 G 0 rfl rfl 7 (by decide) lk_X10_digest_42 rfl dX10_digest_150 ?_
          refine r_ladd (v := (((Int32.toInt64 31) * (((Int32.toInt64 31) * r_5) + la)) + lb)) S rfl dX10_digest_153 ?_
          exact e_long S zr zlk G (f6_3) [0, 1, 2, 3, 4, 5, 6, 7, 8, 9, 10, 11, 12, 13, 14, 15, 16, 17, 18, 19] rfl rfl (Or.inr rfl) (trivial) dX10_digest_154
        · have fc_2 := j_nle (a := n0) (b := k33) (by omega) (by omega) c_2
          refine lv_iconst (v := 0) zx zb dX10_digest_44 (by decide) ?_
          refine lv_istore (lv' := [(4, .int 0), (3, .int (nI k33)), (1, .long x33_1), (0, .ref h0)]) zx zb dX10_digest_45 hl (by decide) rfl (fun ls hl => ?_)
          refine k_loop (P := ∀ (zm : Nat) (k47 : Nat) (x47_1 : Int64) (H : Heap) (locs : List Loc) (ls : Array Slot), 8 + 1 ≤ k47 + zm → (k47 ≤ 8) → wd X (va_A (@HAppend.hAppend va_W va_W va_W _ (xW h0 nw sp xa la lb) (@HAppend.hAppend va_W va_W va_W _ (rcV X nw an sv dv n0 n1 n2 n3 n4 g0 gs gn gm) (@HAppend.hAppend va_W va_W va_W _ (rdV X (xa 4) hb n bd vd fd) ([((xa 5), .inl (X.2.1, 3, .inl fr))])))) sz) (va_A (@HAppend.hAppend va_W va_W va_W _ (xW h0 nw sp xa la lb) (@HAppend.hAppend va_W va_W va_W _ (rcV X nw an sv dv n0 n1 n2 n3 n4 g0 gs gn gm) (@HAppend.hAppend va_W va_W va_W _ (rdV X (xa 4) hb n bd vd fd) ([((xa 5), .inl (X.2.1, 3, .inl fr))])))) sz) s (@HAppend.hAppend va_W va_W va_W _ (xW h0 nw sp xa la lb) (@HAppend.hAppend va_W va_W va_W _ (rcV X nw an sv dv n0 n1 n2 n3 n4 g0 gs gn gm) (@HAppend.hAppend va_W va_W va_W _ (rdV X (xa 4) hb n bd vd fd) ([((xa 5), .inl (X.2.1, 3, .inl f6_3))])))) H locs → lv_has ls 5 [(4, .int (nI k47)), (3, .int (nI k33)), (1, .long x47_1), (0, .ref h0)] → W p l e _ s m _ below meth c H locs _ _ _ (F0 m 47 ls [])) (fun loop => loop (8 + 1) 0 x33_1 _ _ _ (by omega) (by omega) G hl) ?_
          intro zm
          induction zm with
          | zero => intro k47 x47_1 H locs ls zz q_hk_k47 _ _; exact absurd zz (by omega)
          | succ zm ih47 =>
            intro k47 x47_1 H locs ls zm_47 hk_k47 G hl
            refine lv_iload zx zb dX10_digest_47 (lv_at hl 0 rfl) ?_
            refine lv_bipush (v := 7) zx zb dX10_digest_49 (by decide) ?_
            refine lv_icmp_gt (tgt := 91) zx zb dX10_digest_51 (by decide) (fun c_6 => ?_) (fun c_6 => ?_)
            · have fc_6 := j_lt (a := 7) (b := k47) (by omega) (by omega) c_6
              refine lv_iinc (v := (nI (k33 + 1))) (lv' := [(3, .int (nI (k33 + 1))), (4, .int (nI k47)), (1, .long x47_1), (0, .ref h0)]) zx zb dX10_digest_91 hl (k := 1) rfl (nI_add k33 1) (by decide) rfl (fun ls hl => ?_)
              refine lv_goto (tgt := 33) zx zb dX10_digest_94 (by decide) ?_
              have hl := lv_sub hl (l' := [(3, .int (nI (k33 + 1))), (1, .long x47_1), (0, .ref h0)]) [0, 2, 3] rfl
              exact ih33 (k33 + 1) x47_1 _ _ _ (by omega) (by omega) G hl
            · have fc_6 := j_nlt (a := 7) (b := k47) (by omega) (by omega) c_6
              refine lv_ldc2 zx zb S.2.2.2.1 (S.2.2.2.2 _ mm_X10_digest_c291) dX10_digest_54 ?_
              refine k_ld (v := (Int32.toInt64 31)) (by decide) ?_
              refine lv_lload_n zx zb dX10_digest_57 rfl (lv_at hl 2 rfl) ?_
              refine r_lmul (v := ((Int32.toInt64 31) * x47_1)) S rfl dX10_digest_58 ?_
              refine lv_aload_n zx zb dX10_digest_59 rfl (lv_at hl 3 rfl) ?_
              refine r_get (C := RX10) (T := TX10) (N := 14) (ci := 8) (v := .ref nw) S in_X10_digest_X10 G 0 rfl rfl 0 (by decide) lk_X10_digest_10 rfl dX10_digest_60 ?_
              refine r_get (C := RX5) (T := TX5) (N := 8) (ci := 3) (v := .ref (an 0)) S in_X10_digest_X5 G 1 rfl rfl 3 (by decide) lk_X10_digest_126 rfl dX10_digest_63 ?_
              refine lv_iload_n zx zb dX10_digest_66 rfl (lv_at hl 1 rfl) ?_
              rcases k_6c (show k33 < 6 by omega) with rfl | rfl | rfl | rfl | rfl | rfl
              · refine k_it (v := 0) rfl ?_
                refine r_aald (C := RX8) (b := (an 1)) S G 2 3 rfl rfl (k_vp (by decide)) rfl dX10_digest_67 ?_
                refine lv_iload zx zb dX10_digest_68 (lv_at hl 0 rfl) ?_
                refine lv_aload_n zx zb dX10_digest_70 rfl (lv_at hl 3 rfl) ?_
                refine r_get (C := RX10) (T := TX10) (N := 14) (ci := 8) (v := .ref nw) S in_X10_digest_X10 G 0 rfl rfl 0 (by decide) lk_X10_digest_10 rfl dX10_digest_71 ?_
                refine r_get (C := RX5) (T := TX5) (N := 8) (ci := 3) (v := .int (dv 1)) S in_X10_digest_X5 G 1 rfl rfl 1 (by decide) lk_X10_digest_110 rfl dX10_digest_74 ?_
                refine lv_iconst (v := 1) zx zb dX10_digest_77 (by decide) ?_
                refine r_iadd (v := ((dv 1) + 1)) S rfl dX10_digest_78 ?_
                refine o_ri (cells' := 0) (slots' := 0) G rfl rfl (n_V (As := [.int (nI k47), .int ((dv 1) + 1)]) (rest := [.long ((Int32.toInt64 31) * x47_1)]) (C := RX8) (T := TX8) (N := 8) (ci := 6) S G (s_fact l X (an 1) (fun k => sv (0 + k)) (fun k => dv (10 + k)) (nI k47) ((dv 1) + 1) H.size) gX10_digest_X8_fact rfl rfl rfl hdV_X8_fact ⟨Nat.le_of_ble_eq_true rfl, Nat.le_of_ble_eq_true rfl⟩ [3] rfl rfl 3 rfl rfl rfl hl.1 (Nat.le_of_ble_eq_true rfl) dX10_digest_79 ⟨Nat.le_of_ble_eq_true rfl, Nat.le_of_ble_eq_true rfl⟩) (fun r_7 u_7 H locs hp_7 G => ?_)
                have G : wd X (va_A (@HAppend.hAppend va_W va_W va_W _ (xW h0 nw sp xa la lb) (@HAppend.hAppend va_W va_W va_W _ (rcV X nw an sv dv n0 n1 n2 n3 n4 g0 gs gn gm) (@HAppend.hAppend va_W va_W va_W _ (rdV X (xa 4) hb n bd vd fd) ([((xa 5), .inl (X.2.1, 3, .inl fr))])))) sz) (va_A (@HAppend.hAppend va_W va_W va_W _ (xW h0 nw sp xa la lb) (@HAppend.hAppend va_W va_W va_W _ (rcV X nw an sv dv n0 n1 n2 n3 n4 g0 gs gn gm) (@HAppend.hAppend va_W va_W va_W _ (rdV X (xa 4) hb n bd vd fd) ([((xa 5), .inl (X.2.1, 3, .inl fr))])))) sz) s (@HAppend.hAppend va_W va_W va_W _ (xW h0 nw sp xa la lb) (@HAppend.hAppend va_W va_W va_W _ (rcV X nw an sv dv n0 n1 n2 n3 n4 g0 gs gn gm) (@HAppend.hAppend va_W va_W va_W _ (rdV X (xa 4) hb n bd vd fd) ([((xa 5), .inl (X.2.1, 3, .inl f6_3))])))) H locs := G
                refine lv_i2l (v := (Int32.toInt64 r_7)) zx zb dX10_digest_82 rfl ?_
                refine r_ladd (v := (((Int32.toInt64 31) * x47_1) + (Int32.toInt64 r_7))) S rfl dX10_digest_83 ?_
                refine lv_lstore_n (lv' := [(1, .long (((Int32.toInt64 31) * x47_1) + (Int32.toInt64 r_7))), (4, .int (nI k47)), (3, .int 0), (0, .ref h0)]) zx zb dX10_digest_84 rfl hl (by decide) rfl (fun ls hl => ?_)
                refine lv_iinc (v := (nI (k47 + 1))) (lv' := [(4, .int (nI (k47 + 1))), (1, .long (((Int32.toInt64 31) * x47_1) + (Int32.toInt64 r_7))), (3, .int 0), (0, .ref h0)]) zx zb dX10_digest_85 hl (k := 1) rfl (nI_add k47 1) (by decide) rfl (fun ls hl => ?_)
                refine lv_goto (tgt := 47) zx zb dX10_digest_88 (by decide) ?_
                have hl := lv_sub hl (l' := [(4, .int (nI (k47 + 1))), (3, .int 0), (1, .long (((Int32.toInt64 31) * x47_1) + (Int32.toInt64 r_7))), (0, .ref h0)]) [0, 2, 1, 3] rfl
                exact ih47 (k47 + 1) (((Int32.toInt64 31) * x47_1) + (Int32.toInt64 r_7)) _ _ _ (by omega) (by omega) G hl
              · refine k_it (v := 1) rfl ?_
                refine r_aald (C := RX8) (b := (an 2)) S G 2 3 rfl rfl (k_vp (by decide)) rfl dX10_digest_67 ?_
                refine lv_iload zx zb dX10_digest_68 (lv_at hl 0 rfl) ?_
                refine lv_aload_n zx zb dX10_digest_70 rfl (lv_at hl 3 rfl) ?_
                refine r_get (C := RX10) (T := TX10) (N := 14) (ci := 8) (v := .ref nw) S in_X10_digest_X10 G 0 rfl rfl 0 (by decide) lk_X10_digest_10 rfl dX10_digest_71 ?_
                refine r_get (C := RX5) (T := TX5) (N := 8) (ci := 3) (v := .int (dv 1)) S in_X10_digest_X5 G 1 rfl rfl 1 (by decide) lk_X10_digest_110 rfl dX10_digest_74 ?_
                refine lv_iconst (v := 1) zx zb dX10_digest_77 (by decide) ?_
                refine r_iadd (v := ((dv 1) + 1)) S rfl dX10_digest_78 ?_
                refine o_ri (cells' := 0) (slots' := 0) G rfl rfl (n_V (As := [.int (nI k47), .int ((dv 1) + 1)]) (rest := [.long ((Int32.toInt64 31) * x47_1)]) (C := RX8) (T := TX8) (N := 8) (ci := 6) S G (s_fact l X (an 2) (fun k => sv (3 + k)) (fun k => dv (15 + k)) (nI k47) ((dv 1) + 1) H.size) gX10_digest_X8_fact rfl rfl rfl hdV_X8_fact ⟨Nat.le_of_ble_eq_true rfl, Nat.le_of_ble_eq_true rfl⟩ [4] rfl rfl 4 rfl rfl rfl hl.1 (Nat.le_of_ble_eq_true rfl) dX10_digest_79 ⟨Nat.le_of_ble_eq_true rfl, Nat.le_of_ble_eq_true rfl⟩) (fun r_8 u_8 H locs hp_8 G => ?_)
                have G : wd X (va_A (@HAppend.hAppend va_W va_W va_W _ (xW h0 nw sp xa la lb) (@HAppend.hAppend va_W va_W va_W _ (rcV X nw an sv dv n0 n1 n2 n3 n4 g0 gs gn gm) (@HAppend.hAppend va_W va_W va_W _ (rdV X (xa 4) hb n bd vd fd) ([((xa 5), .inl (X.2.1, 3, .inl fr))])))) sz) (va_A (@HAppend.hAppend va_W va_W va_W _ (xW h0 nw sp xa la lb) (@HAppend.hAppend va_W va_W va_W _ (rcV X nw an sv dv n0 n1 n2 n3 n4 g0 gs gn gm) (@HAppend.hAppend va_W va_W va_W _ (rdV X (xa 4) hb n bd vd fd) ([((xa 5), .inl (X.2.1, 3, .inl fr))])))) sz) s (@HAppend.hAppend va_W va_W va_W _ (xW h0 nw sp xa la lb) (@HAppend.hAppend va_W va_W va_W _ (rcV X nw an sv dv n0 n1 n2 n3 n4 g0 gs gn gm) (@HAppend.hAppend va_W va_W va_W _ (rdV X (xa 4) hb n bd vd fd) ([((xa 5), .inl (X.2.1, 3, .inl f6_3))])))) H locs := G
                refine lv_i2l (v := (Int32.toInt64 r_8)) zx zb dX10_digest_82 rfl ?_
                refine r_ladd (v := (((Int32.toInt64 31) * x47_1) + (Int32.toInt64 r_8))) S rfl dX10_digest_83 ?_
                refine lv_lstore_n (lv' := [(1, .long (((Int32.toInt64 31) * x47_1) + (Int32.toInt64 r_8))), (4, .int (nI k47)), (3, .int 1), (0, .ref h0)]) zx zb dX10_digest_84 rfl hl (by decide) rfl (fun ls hl => ?_)
                refine lv_iinc (v := (nI (k47 + 1))) (lv' := [(4, .int (nI (k47 + 1))), (1, .long (((Int32.toInt64 31) * x47_1) + (Int32.toInt64 r_8))), (3, .int 1), (0, .ref h0)]) zx zb dX10_digest_85 hl (k := 1) rfl (nI_add k47 1) (by decide) rfl (fun ls hl => ?_)
                refine lv_goto (tgt := 47) zx zb dX10_digest_88 (by decide) ?_
                have hl := lv_sub hl (l' := [(4, .int (nI (k47 + 1))), (3, .int 1), (1, .long (((Int32.toInt64 31) * x47_1) + (Int32.toInt64 r_8))), (0, .ref h0)]) [0, 2, 1, 3] rfl
                exact ih47 (k47 + 1) (((Int32.toInt64 31) * x47_1) + (Int32.toInt64 r_8)) _ _ _ (by omega) (by omega) G hl
              · refine k_it (v := 2) rfl ?_
                refine r_aald (C := RX8) (b := (an 3)) S G 2 3 rfl rfl (k_vp (by decide)) rfl dX10_digest_67 ?_
                refine lv_iload zx zb dX10_digest_68 (lv_at hl 0 rfl) ?_
                refine lv_aload_n zx zb dX10_digest_70 rfl (lv_at hl 3 rfl) ?_
                refine r_get (C := RX10) (T := TX10) (N := 14) (ci := 8) (v := .ref nw) S in_X10_digest_X10 G 0 rfl rfl 0 (by decide) lk_X10_digest_10 rfl dX10_digest_71 ?_
                refine r_get (C := RX5) (T := TX5) (N := 8) (ci := 3) (v := .int (dv 1)) S in_X10_digest_X5 G 1 rfl rfl 1 (by decide) lk_X10_digest_110 rfl dX10_digest_74 ?_
                refine lv_iconst (v := 1) zx zb dX10_digest_77 (by decide) ?_
                refine r_iadd (v := ((dv 1) + 1)) S rfl dX10_digest_78 ?_
                refine o_ri (cells' := 0) (slots' := 0) G rfl rfl (n_V (As := [.int (nI k47), .int ((dv 1) + 1)]) (rest := [.long ((Int32.toInt64 31) * x47_1)]) (C := RX8) (T := TX8) (N := 8) (ci := 6) S G (s_fact l X (an 3) (fun k => sv (6 + k)) (fun k => dv (20 + k)) (nI k47) ((dv 1) + 1) H.size) gX10_digest_X8_fact rfl rfl rfl hdV_X8_fact ⟨Nat.le_of_ble_eq_true rfl, Nat.le_of_ble_eq_true rfl⟩ [5] rfl rfl 5 rfl rfl rfl hl.1 (Nat.le_of_ble_eq_true rfl) dX10_digest_79 ⟨Nat.le_of_ble_eq_true rfl, Nat.le_of_ble_eq_true rfl⟩) (fun r_9 u_9 H locs hp_9 G => ?_)
                have G : wd X (va_A (@HAppend.hAppend va_W va_W va_W _ (xW h0 nw sp xa la lb) (@HAppend.hAppend va_W va_W va_W _ (rcV X nw an sv dv n0 n1 n2 n3 n4 g0 gs gn gm) (@HAppend.hAppend va_W va_W va_W _ (rdV X (xa 4) hb n bd vd fd) ([((xa 5), .inl (X.2.1, 3, .inl fr))])))) sz) (va_A (@HAppend.hAppend va_W va_W va_W _ (xW h0 nw sp xa la lb) (@HAppend.hAppend va_W va_W va_W _ (rcV X nw an sv dv n0 n1 n2 n3 n4 g0 gs gn gm) (@HAppend.hAppend va_W va_W va_W _ (rdV X (xa 4) hb n bd vd fd) ([((xa 5), .inl (X.2.1, 3, .inl fr))])))) sz) s (@HAppend.hAppend va_W va_W va_W _ (xW h0 nw sp xa la lb) (@HAppend.hAppend va_W va_W va_W _ (rcV X nw an sv dv n0 n1 n2 n3 n4 g0 gs gn gm) (@HAppend.hAppend va_W va_W va_W _ (rdV X (xa 4) hb n bd vd fd) ([((xa 5), .inl (X.2.1, 3, .inl f6_3))])))) H locs := G
                refine lv_i2l (v := (Int32.toInt64 r_9)) zx zb dX10_digest_82 rfl ?_
                refine r_ladd (v := (((Int32.toInt64 31) * x47_1) + (Int32.toInt64 r_9))) S rfl dX10_digest_83 ?_
                refine lv_lstore_n (lv' := [(1, .long (((Int32.toInt64 31) * x47_1) + (Int32.toInt64 r_9))), (4, .int (nI k47)), (3, .int 2), (0, .ref h0)]) zx zb dX10_digest_84 rfl hl (by decide) rfl (fun ls hl => ?_)
                refine lv_iinc (v := (nI (k47 + 1))) (lv' := [(4, .int (nI (k47 + 1))), (1, .long (((Int32.toInt64 31) * x47_1) + (Int32.toInt64 r_9))), (3, .int 2), (0, .ref h0)]) zx zb dX10_digest_85 hl (k := 1) rfl (nI_add k47 1) (by decide) rfl (fun ls hl => ?_)
                refine lv_goto (tgt := 47) zx zb dX10_digest_88 (by decide) ?_
                have hl := lv_sub hl (l' := [(4, .int (nI (k47 + 1))), (3, .int 2), (1, .long (((Int32.toInt64 31) * x47_1) + (Int32.toInt64 r_9))), (0, .ref h0)]) [0, 2, 1, 3] rfl
                exact ih47 (k47 + 1) (((Int32.toInt64 31) * x47_1) + (Int32.toInt64 r_9)) _ _ _ (by omega) (by omega) G hl
              · refine k_it (v := 3) rfl ?_
                refine r_aald (C := RX8) (b := (an 4)) S G 2 3 rfl rfl (k_vp (by decide)) rfl dX10_digest_67 ?_
                refine lv_iload zx zb dX10_digest_68 (lv_at hl 0 rfl) ?_
                refine lv_aload_n zx zb dX10_digest_70 rfl (lv_at hl 3 rfl) ?_
                refine r_get (C := RX10) (T := TX10) (N := 14) (ci := 8) (v := .ref nw) S in_X10_digest_X10 G 0 rfl rfl 0 (by decide) lk_X10_digest_10 rfl dX10_digest_71 ?_
                refine r_get (C := RX5) (T := TX5) (N := 8) (ci := 3) (v := .int (dv 1)) S in_X10_digest_X5 G 1 rfl rfl 1 (by decide) lk_X10_digest_110 rfl dX10_digest_74 ?_
                refine lv_iconst (v := 1) zx zb dX10_digest_77 (by decide) ?_
                refine r_iadd (v := ((dv 1) + 1)) S rfl dX10_digest_78 ?_
                refine o_ri (cells' := 0) (slots' := 0) G rfl rfl (n_V (As := [.int (nI k47), .int ((dv 1) + 1)]) (rest := [.long ((Int32.toInt64 31) * x47_1)]) (C := RX8) (T := TX8) (N := 8) (ci := 6) S G (s_fact l X (an 4) (fun k => sv (9 + k)) (fun k => dv (25 + k)) (nI k47) ((dv 1) + 1) H.size) gX10_digest_X8_fact rfl rfl rfl hdV_X8_fact ⟨Nat.le_of_ble_eq_true rfl, Nat.le_of_ble_eq_true rfl⟩ [6] rfl rfl 6 rfl rfl rfl hl.1 (Nat.le_of_ble_eq_true rfl) dX10_digest_79 ⟨Nat.le_of_ble_eq_true rfl, Nat.le_of_ble_eq_true rfl⟩) (fun r_10 u_10 H locs hp_10 G => ?_)
                have G : wd X (va_A (@HAppend.hAppend va_W va_W va_W _ (xW h0 nw sp xa la lb) (@HAppend.hAppend va_W va_W va_W _ (rcV X nw an sv dv n0 n1 n2 n3 n4 g0 gs gn gm) (@HAppend.hAppend va_W va_W va_W _ (rdV X (xa 4) hb n bd vd fd) ([((xa 5), .inl (X.2.1, 3, .inl fr))])))) sz) (va_A (@HAppend.hAppend va_W va_W va_W _ (xW h0 nw sp xa la lb) (@HAppend.hAppend va_W va_W va_W _ (rcV X nw an sv dv n0 n1 n2 n3 n4 g0 gs gn gm) (@HAppend.hAppend va_W va_W va_W _ (rdV X (xa 4) hb n bd vd fd) ([((xa 5), .inl (X.2.1, 3, .inl fr))])))) sz) s (@HAppend.hAppend va_W va_W va_W _ (xW h0 nw sp xa la lb) (@HAppend.hAppend va_W va_W va_W _ (rcV X nw an sv dv n0 n1 n2 n3 n4 g0 gs gn gm) (@HAppend.hAppend va_W va_W va_W _ (rdV X (xa 4) hb n bd vd fd) ([((xa 5), .inl (X.2.1, 3, .inl f6_3))])))) H locs := G
                refine lv_i2l (v := (Int32.toInt64 r_10)) zx zb dX10_digest_82 rfl ?_
                refine r_ladd (v := (((Int32.toInt64 31) * x47_1) + (Int32.toInt64 r_10))) S rfl dX10_digest_83 ?_
                refine lv_lstore_n (lv' := [(1, .long (((Int32.toInt64 31) * x47_1) + (Int32.toInt64 r_10))), (4, .int (nI k47)), (3, .int 3), (0, .ref h0)]) zx zb dX10_digest_84 rfl hl (by decide) rfl (fun ls hl => ?_)
                refine lv_iinc (v := (nI (k47 + 1))) (lv' := [(4, .int (nI (k47 + 1))), (1, .long (((Int32.toInt64 31) * x47_1) + (Int32.toInt64 r_10))), (3, .int 3), (0, .ref h0)]) zx zb dX10_digest_85 hl (k := 1) rfl (nI_add k47 1) (by decide) rfl (fun ls hl => ?_)
                refine lv_goto (tgt := 47) zx zb dX10_digest_88 (by decide) ?_
                have hl := lv_sub hl (l' := [(4, .int (nI (k47 + 1))), (3, .int 3), (1, .long (((Int32.toInt64 31) * x47_1) + (Int32.toInt64 r_10))), (0, .ref h0)]) [0, 2, 1, 3] rfl
                exact ih47 (k47 + 1) (((Int32.toInt64 31) * x47_1) + (Int32.toInt64 r_10)) _ _ _ (by omega) (by omega) G hl
              · refine k_it (v := 4) rfl ?_
                refine r_aald (C := RX8) (b := (an 5)) S G 2 3 rfl rfl (k_vp (by decide)) rfl dX10_digest_67 ?_
                refine lv_iload zx zb dX10_digest_68 (lv_at hl 0 rfl) ?_
                refine lv_aload_n zx zb dX10_digest_70 rfl (lv_at hl 3 rfl) ?_
                refine r_get (C := RX10) (T := TX10) (N := 14) (ci := 8) (v := .ref nw) S in_X10_digest_X10 G 0 rfl rfl 0 (by decide) lk_X10_digest_10 rfl dX10_digest_71 ?_
                refine r_get (C := RX5) (T := TX5) (N := 8) (ci := 3) (v := .int (dv 1)) S in_X10_digest_X5 G 1 rfl rfl 1 (by decide) lk_X10_digest_110 rfl dX10_digest_74 ?_
                refine lv_iconst (v := 1) zx zb dX10_digest_77 (by decide) ?_
                refine r_iadd (v := ((dv 1) + 1)) S rfl dX10_digest_78 ?_
                refine o_ri (cells' := 0) (slots' := 0) G rfl rfl (n_V (As := [.int (nI k47), .int ((dv 1) + 1)]) (rest := [.long ((Int32.toInt64 31) * x47_1)]) (C := RX8) (T := TX8) (N := 8) (ci := 6) S G (s_fact l X (an 5) (fun k => sv (12 + k)) (fun k => dv (30 + k)) (nI k47) ((dv 1) + 1) H.size) gX10_digest_X8_fact rfl rfl rfl hdV_X8_fact ⟨Nat.le_of_ble_eq_true rfl, Nat.le_of_ble_eq_true rfl⟩ [7] rfl rfl 7 rfl rfl rfl hl.1 (Nat.le_of_ble_eq_true rfl) dX10_digest_79 ⟨Nat.le_of_ble_eq_true rfl, Nat.le_of_ble_eq_true rfl⟩) (fun r_11 u_11 H locs hp_11 G => ?_)
                have G : wd X (va_A (@HAppend.hAppend va_W va_W va_W _ (xW h0 nw sp xa la lb) (@HAppend.hAppend va_W va_W va_W _ (rcV X nw an sv dv n0 n1 n2 n3 n4 g0 gs gn gm) (@HAppend.hAppend va_W va_W va_W _ (rdV X (xa 4) hb n bd vd fd) ([((xa 5), .inl (X.2.1, 3, .inl fr))])))) sz) (va_A (@HAppend.hAppend va_W va_W va_W _ (xW h0 nw sp xa la lb) (@HAppend.hAppend va_W va_W va_W _ (rcV X nw an sv dv n0 n1 n2 n3 n4 g0 gs gn gm) (@HAppend.hAppend va_W va_W va_W _ (rdV X (xa 4) hb n bd vd fd) ([((xa 5), .inl (X.2.1, 3, .inl fr))])))) sz) s (@HAppend.hAppend va_W va_W va_W _ (xW h0 nw sp xa la lb) (@HAppend.hAppend va_W va_W va_W _ (rcV X nw an sv dv n0 n1 n2 n3 n4 g0 gs gn gm) (@HAppend.hAppend va_W va_W va_W _ (rdV X (xa 4) hb n bd vd fd) ([((xa 5), .inl (X.2.1, 3, .inl f6_3))])))) H locs := G
                refine lv_i2l (v := (Int32.toInt64 r_11)) zx zb dX10_digest_82 rfl ?_
                refine r_ladd (v := (((Int32.toInt64 31) * x47_1) + (Int32.toInt64 r_11))) S rfl dX10_digest_83 ?_
                refine lv_lstore_n (lv' := [(1, .long (((Int32.toInt64 31) * x47_1) + (Int32.toInt64 r_11))), (4, .int (nI k47)), (3, .int 4), (0, .ref h0)]) zx zb dX10_digest_84 rfl hl (by decide) rfl (fun ls hl => ?_)
                refine lv_iinc (v := (nI (k47 + 1))) (lv' := [(4, .int (nI (k47 + 1))), (1, .long (((Int32.toInt64 31) * x47_1) + (Int32.toInt64 r_11))), (3, .int 4), (0, .ref h0)]) zx zb dX10_digest_85 hl (k := 1) rfl (nI_add k47 1) (by decide) rfl (fun ls hl => ?_)
                refine lv_goto (tgt := 47) zx zb dX10_digest_88 (by decide) ?_
                have hl := lv_sub hl (l' := [(4, .int (nI (k47 + 1))), (3, .int 4), (1, .long (((Int32.toInt64 31) * x47_1) + (Int32.toInt64 r_11))), (0, .ref h0)]) [0, 2, 1, 3] rfl
                exact ih47 (k47 + 1) (((Int32.toInt64 31) * x47_1) + (Int32.toInt64 r_11)) _ _ _ (by omega) (by omega) G hl
              · refine k_it (v := 5) rfl ?_
                refine r_aald (C := RX8) (b := (an 6)) S G 2 3 rfl rfl (k_vp (by decide)) rfl dX10_digest_67 ?_
                refine lv_iload zx zb dX10_digest_68 (lv_at hl 0 rfl) ?_
                refine lv_aload_n zx zb dX10_digest_70 rfl (lv_at hl 3 rfl) ?_
                refine r_get (C := RX10) (T := TX10) (N := 14) (ci := 8) (v := .ref nw) S in_X10_digest_X10 G 0 rfl rfl 0 (by decide) lk_X10_digest_10 rfl dX10_digest_71 ?_
                refine r_get (C := RX5) (T := TX5) (N := 8) (ci := 3) (v := .int (dv 1)) S in_X10_digest_X5 G 1 rfl rfl 1 (by decide) lk_X10_digest_110 rfl dX10_digest_74 ?_
                refine lv_iconst (v := 1) zx zb dX10_digest_77 (by decide) ?_
                refine r_iadd (v := ((dv 1) + 1)) S rfl dX10_digest_78 ?_
                refine o_ri (cells' := 0) (slots' := 0) G rfl rfl (n_V (As := [.int (nI k47), .int ((dv 1) + 1)]) (rest := [.long ((Int32.toInt64 31) * x47_1)]) (C := RX8) (T := TX8) (N := 8) (ci := 6) S G (s_fact l X (an 6) (fun k => sv (15 + k)) (fun k => dv (35 + k)) (nI k47) ((dv 1) + 1) H.size) gX10_digest_X8_fact rfl rfl rfl hdV_X8_fact ⟨Nat.le_of_ble_eq_true rfl, Nat.le_of_ble_eq_true rfl⟩ [8] rfl rfl 8 rfl rfl rfl hl.1 (Nat.le_of_ble_eq_true rfl) dX10_digest_79 ⟨Nat.le_of_ble_eq_true rfl, Nat.le_of_ble_eq_true rfl⟩) (fun r_12 u_12 H locs hp_12 G => ?_)
                have G : wd X (va_A (@HAppend.hAppend va_W va_W va_W _ (xW h0 nw sp xa la lb) (@HAppend.hAppend va_W va_W va_W _ (rcV X nw an sv dv n0 n1 n2 n3 n4 g0 gs gn gm) (@HAppend.hAppend va_W va_W va_W _ (rdV X (xa 4) hb n bd vd fd) ([((xa 5), .inl (X.2.1, 3, .inl fr))])))) sz) (va_A (@HAppend.hAppend va_W va_W va_W _ (xW h0 nw sp xa la lb) (@HAppend.hAppend va_W va_W va_W _ (rcV X nw an sv dv n0 n1 n2 n3 n4 g0 gs gn gm) (@HAppend.hAppend va_W va_W va_W _ (rdV X (xa 4) hb n bd vd fd) ([((xa 5), .inl (X.2.1, 3, .inl fr))])))) sz) s (@HAppend.hAppend va_W va_W va_W _ (xW h0 nw sp xa la lb) (@HAppend.hAppend va_W va_W va_W _ (rcV X nw an sv dv n0 n1 n2 n3 n4 g0 gs gn gm) (@HAppend.hAppend va_W va_W va_W _ (rdV X (xa 4) hb n bd vd fd) ([((xa 5), .inl (X.2.1, 3, .inl f6_3))])))) H locs := G
                refine lv_i2l (v := (Int32.toInt64 r_12)) zx zb dX10_digest_82 rfl ?_
                refine r_ladd (v := (((Int32.toInt64 31) * x47_1) + (Int32.toInt64 r_12))) S rfl dX10_digest_83 ?_
                refine lv_lstore_n (lv' := [(1, .long (((Int32.toInt64 31) * x47_1) + (Int32.toInt64 r_12))), (4, .int (nI k47)), (3, .int 5), (0, .ref h0)]) zx zb dX10_digest_84 rfl hl (by decide) rfl (fun ls hl => ?_)
                refine lv_iinc (v := (nI (k47 + 1))) (lv' := [(4, .int (nI (k47 + 1))), (1, .long (((Int32.toInt64 31) * x47_1) + (Int32.toInt64 r_12))), (3, .int 5), (0, .ref h0)]) zx zb dX10_digest_85 hl (k := 1) rfl (nI_add k47 1) (by decide) rfl (fun ls hl => ?_)
                refine lv_goto (tgt := 47) zx zb dX10_digest_88 (by decide) ?_
                have hl := lv_sub hl (l' := [(4, .int (nI (k47 + 1))), (3, .int 5), (1, .long (((Int32.toInt64 31) * x47_1) + (Int32.toInt64 r_12))), (0, .ref h0)]) [0, 2, 1, 3] rfl
                exact ih47 (k47 + 1) (((Int32.toInt64 31) * x47_1) + (Int32.toInt64 r_12)) _ _ _ (by omega) (by omega) G hl
    · have fc_1 := j_nlt (a := 10) (b := k6) (by omega) (by omega) c_1
      refine lv_ldc2 zx zb S.2.2.2.1 (S.2.2.2.2 _ mm_X10_digest_c291) dX10_digest_12 ?_
      refine k_ld (v := (Int32.toInt64 31)) (by decide) ?_
      refine lv_lload_n zx zb dX10_digest_15 rfl (lv_at hl 1 rfl) ?_
      refine r_lmul (v := ((Int32.toInt64 31) * x6_1)) S rfl dX10_digest_16 ?_
      refine lv_aload_n zx zb dX10_digest_17 rfl (lv_at hl 2 rfl) ?_
      refine lv_iload_n zx zb dX10_digest_18 rfl (lv_at hl 0 rfl) ?_
      refine b_wi (cells' := 0) (slots' := 0) (wr := []) G rfl rfl [0, 1, 2, 3, 4, 5, 6, 7, 8, 9, 10, 11, 12, 13, 14, 15, 16, 17, 18, 19] [] rfl rfl rfl rfl (n_V (As := [.int (nI k6)]) (rest := [.long ((Int32.toInt64 31) * x6_1)]) (C := RX10) (T := TX10) (N := 14) (ci := 8) S G (s_count2 l X h0 nw sp xa la lb an sv dv n0 n1 n2 n3 n4 g0 gs gn gm hb n bd vd fd f6_3 (nI k6) hI_n0 hI_n1 hI_n2 hI_n3 hI_n4 hI_n hI_bd H.size) gX10_digest_X10_count rfl rfl rfl hdV_X10_count ⟨Nat.le_of_ble_eq_true rfl, Nat.le_of_ble_eq_true rfl⟩ [0, 1, 2, 3, 4, 5, 6, 7, 8, 9, 10, 11, 12, 13, 14, 15, 16, 17, 18, 19] rfl rfl 0 rfl rfl rfl hl.1 (Nat.le_of_ble_eq_true rfl) dX10_digest_19 ⟨Nat.le_of_ble_eq_true rfl, Nat.le_of_ble_eq_true rfl⟩) (fun r_13 u_13 H locs hp_13 G => ?_)
      obtain ⟨f_13, rfl⟩ : ∃ z, z = u_13 := ⟨_, rfl⟩
      have hq_13 := hp_13
      have G : wd X (va_A (@HAppend.hAppend va_W va_W va_W _ (xW h0 nw sp xa la lb) (@HAppend.hAppend va_W va_W va_W _ (rcV X nw an sv dv n0 n1 n2 n3 n4 g0 gs gn gm) (@HAppend.hAppend va_W va_W va_W _ (rdV X (xa 4) hb n bd vd fd) ([((xa 5), .inl (X.2.1, 3, .inl fr))])))) sz) (va_A (@HAppend.hAppend va_W va_W va_W _ (xW h0 nw sp xa la lb) (@HAppend.hAppend va_W va_W va_W _ (rcV X nw an sv dv n0 n1 n2 n3 n4 g0 gs gn gm) (@HAppend.hAppend va_W va_W va_W _ (rdV X (xa 4) hb n bd vd fd) ([((xa 5), .inl (X.2.1, 3, .inl fr))])))) sz) s (@HAppend.hAppend va_W va_W va_W _ (xW h0 nw sp xa la lb) (@HAppend.hAppend va_W va_W va_W _ (rcV X nw an sv dv n0 n1 n2 n3 n4 g0 gs gn gm) (@HAppend.hAppend va_W va_W va_W _ (rdV X (xa 4) hb n bd vd fd) ([((xa 5), .inl (X.2.1, 3, .inl f_13))])))) H locs := G
      refine lv_i2l (v := (Int32.toInt64 r_13)) zx zb dX10_digest_22 rfl ?_
      refine r_ladd (v := (((Int32.toInt64 31) * x6_1) + (Int32.toInt64 r_13))) S rfl dX10_digest_23 ?_
      refine lv_lstore_n (lv' := [(1, .long (((Int32.toInt64 31) * x6_1) + (Int32.toInt64 r_13))), (3, .int (nI k6)), (0, .ref h0)]) zx zb dX10_digest_24 rfl hl (by decide) rfl (fun ls hl => ?_)
      refine lv_iinc (v := (nI (k6 + 1))) (lv' := [(3, .int (nI (k6 + 1))), (1, .long (((Int32.toInt64 31) * x6_1) + (Int32.toInt64 r_13))), (0, .ref h0)]) zx zb dX10_digest_25 hl (k := 1) rfl (nI_add k6 1) (by decide) rfl (fun ls hl => ?_)
      refine lv_goto (tgt := 6) zx zb dX10_digest_28 (by decide) ?_
      exact ih6 (k6 + 1) (((Int32.toInt64 31) * x6_1) + (Int32.toInt64 r_13)) f_13 _ _ _ (by omega) (by omega) G hl
theorem in_X10_image_X10 : ∀ w ∈ wsX100, w ∈ wsX10_image := by decide +kernel
theorem lk_X10_image_19 : Cond.fieldLink RX10 19 "EggSpoons" "images" "[LEggSpoons$Race;" ∈ wsX10_image := by decide +kernel
theorem lk_X10_image_10 : Cond.fieldLink RX10 10 "EggSpoons" "now" "LEggSpoons$Race;" ∈ wsX10_image := by decide +kernel
theorem hdV_X5_copyFrom : yX5_copyFrom.cls = RX5 ∧ yX5_copyFrom.cls ≠ "java/lang/invoke/MethodHandle" ∧ yX5_copyFrom.cls ≠ "java/lang/invoke/VarHandle" ∧ (parseMethodDescriptor yX5_copyFrom.desc).map (fun d => d.parameters.length) = some 1 := by decide +kernel
theorem lk_X10_image_23 : Cond.fieldLink RX10 23 "EggSpoons" "imageKept" "[Z" ∈ wsX10_image := by decide +kernel
theorem in_X10_from_X10 : ∀ w ∈ wsX100, w ∈ wsX10_from := by decide +kernel
theorem lk_X10_from_23 : Cond.fieldLink RX10 23 "EggSpoons" "imageKept" "[Z" ∈ wsX10_from := by decide +kernel
theorem lk_X10_from_10 : Cond.fieldLink RX10 10 "EggSpoons" "now" "LEggSpoons$Race;" ∈ wsX10_from := by decide +kernel
theorem lk_X10_from_19 : Cond.fieldLink RX10 19 "EggSpoons" "images" "[LEggSpoons$Race;" ∈ wsX10_from := by decide +kernel
theorem in_X10_read_X10 : ∀ w ∈ wsX100, w ∈ wsX10_read := by decide +kernel
theorem lk_X10_read_30 : Cond.fieldLink RX10 30 "EggSpoons" "reader" "LEggSpoons$Reader;" ∈ wsX10_read := by decide +kernel
theorem lk_X10_read_16 : Cond.fieldLink RX10 16 "EggSpoons" "spare" "LEggSpoons$Race;" ∈ wsX10_read := by decide +kernel
theorem hdV_X6_takeRace : yX6_takeRace.cls = RX6 ∧ yX6_takeRace.cls ≠ "java/lang/invoke/MethodHandle" ∧ yX6_takeRace.cls ≠ "java/lang/invoke/VarHandle" ∧ (parseMethodDescriptor yX6_takeRace.desc).map (fun d => d.parameters.length) = some 1 := by decide +kernel
theorem lk_X10_read_10 : Cond.fieldLink RX10 10 "EggSpoons" "now" "LEggSpoons$Race;" ∈ wsX10_read := by decide +kernel
set_option maxHeartbeats 4000000 in
set_option maxRecDepth 100000 in
theorem x_reach (l : Launch) (X : EX) (k : Int32) (l_ : Int32) (t : Int32) (s_ : Int32) (sz : Nat) : Met l yX2_reach wsX2_reach ({ frames := 0, cells := 0, slots := 0, locals := 0 } : Room) (pE X [.int k, .int l_, .int t, .int s_] ([]) sz) (qI (fun (r : Int32) (u : Unit) => r = reachP k l_ t s_) X (fun (u : Unit) => []) [] sz) 0 0 (va_A [] sz) := by
  refine mk_met (B := (fun _ => True)) (A := (va_A [] sz)) (cc := cX2_reach) (maxL := 7) (ret := (some .int)) (by decide) rfl (Nat.le_of_ble_eq_true rfl) k_ro k_a (fun p e s m below meth c S zr zlk znm zsz G ls hl => ?_)
  have S : CallFix p m c cX2_reach 7 s _ wsX2_reach RX2 := S
  have zx := S.1
  have zb := S.2.1
  have hl : lv_has ls 7 [(0, .int k), (1, .int l_), (2, .int t), (3, .int s_)] := hl
  refine lv_iload_n zx zb dX2_reach_0 rfl (lv_at hl 3 rfl) ?_
  refine lv_iload_n zx zb dX2_reach_1 rfl (lv_at hl 1 rfl) ?_
  refine k_cutW (PP := fun Wx => ∀ (x_2 : Int32) (H : Heap) (locs : List Loc) (ls : Array Slot), (x_2 = (if l_ ≤ s_ then l_ else s_)) → wd X (fun _ => True) (va_A [] sz) s ([]) H locs → lv_has ls 7 [(0, .int k), (1, .int l_), (2, .int t), (3, .int s_)] → Wx (F0 m 10 ls [.int x_2]) H locs) ?_ ?_
  · intro join_2
    refine lv_icmp_ge (tgt := 9) zx zb dX2_reach_2 (by decide) (fun c_1 => ?_) (fun c_1 => ?_)
    · refine lv_iload_n zx zb dX2_reach_9 rfl (lv_at hl 1 rfl) ?_
      exact join_2 l_ _ _ _ (if_pos c_1).symm G hl
    · refine lv_iload_n zx zb dX2_reach_5 rfl (lv_at hl 3 rfl) ?_
      refine lv_goto (tgt := 10) zx zb dX2_reach_6 (by decide) ?_
      exact join_2 s_ _ _ _ (if_neg c_1).symm G hl
  · intro x_2 H locs ls hk_x_2 G hl
    subst hk_x_2
    refine lv_istore (lv' := [(4, .int (if l_ ≤ s_ then l_ else s_)), (0, .int k), (1, .int l_), (2, .int t), (3, .int s_)]) zx zb dX2_reach_10 hl (by decide) rfl (fun ls hl => ?_)
    refine lv_iload_n zx zb dX2_reach_12 rfl (lv_at hl 4 rfl) ?_
    refine lv_iconst (v := 5) zx zb dX2_reach_13 (by decide) ?_
    refine k_cutW (PP := fun Wx => ∀ (x_4 : Int32) (H : Heap) (locs : List Loc) (ls : Array Slot), (x_4 = (if s_ < 5 then (if l_ ≤ s_ then l_ else s_) else ((if l_ ≤ s_ then l_ else s_) + 1))) → wd X (fun _ => True) (va_A [] sz) s ([]) H locs → lv_has ls 7 [(4, .int (if l_ ≤ s_ then l_ else s_)), (0, .int k), (1, .int l_), (2, .int t), (3, .int s_)] → Wx (F0 m 26 ls [.int x_4]) H locs) ?_ ?_
    · intro join_14
      refine lv_icmp_lt (tgt := 24) zx zb dX2_reach_14 (by decide) (fun c_3 => ?_) (fun c_3 => ?_)
      · refine lv_iload zx zb dX2_reach_24 (lv_at hl 0 rfl) ?_
        exact join_14 (if l_ ≤ s_ then l_ else s_) _ _ _ (if_pos c_3).symm G hl
      · refine lv_iload zx zb dX2_reach_17 (lv_at hl 0 rfl) ?_
        refine lv_iconst (v := 1) zx zb dX2_reach_19 (by decide) ?_
        refine r_iadd (v := ((if l_ ≤ s_ then l_ else s_) + 1)) S rfl dX2_reach_20 ?_
        refine lv_goto (tgt := 26) zx zb dX2_reach_21 (by decide) ?_
        exact join_14 ((if l_ ≤ s_ then l_ else s_) + 1) _ _ _ (if_neg c_3).symm G hl
    · intro x_4 H locs ls hk_x_4 G hl
      subst hk_x_4
      refine lv_istore (lv' := [(5, .int (if s_ < 5 then (if l_ ≤ s_ then l_ else s_) else ((if l_ ≤ s_ then l_ else s_) + 1))), (4, .int (if l_ ≤ s_ then l_ else s_)), (0, .int k), (1, .int l_), (2, .int t), (3, .int s_)]) zx zb dX2_reach_26 hl (by decide) rfl (fun ls hl => ?_)
      refine lv_iload zx zb dX2_reach_28 (lv_at hl 1 rfl) ?_
      refine lv_iload_n zx zb dX2_reach_30 rfl (lv_at hl 4 rfl) ?_
      refine lv_bipush (v := 10) zx zb dX2_reach_31 (by decide) ?_
      refine lv_idiv zx zb dX2_reach_33 (by decide) ?_
      refine k_cutW (PP := fun Wx => ∀ (x_6 : Int32) (H : Heap) (locs : List Loc) (ls : Array Slot), (x_6 = (if (if l_ ≤ s_ then l_ else s_) ≤ (t / 10) then 0 else ((if l_ ≤ s_ then l_ else s_) - (t / 10)))) → wd X (fun _ => True) (va_A [] sz) s ([]) H locs → lv_has ls 7 [(5, .int (if s_ < 5 then (if l_ ≤ s_ then l_ else s_) else ((if l_ ≤ s_ then l_ else s_) + 1))), (4, .int (if l_ ≤ s_ then l_ else s_)), (0, .int k), (1, .int l_), (2, .int t), (3, .int s_)] → Wx (F0 m 48 ls [.int x_6]) H locs) ?_ ?_
      · intro join_34
        refine lv_icmp_le (tgt := 47) zx zb dX2_reach_34 (by decide) (fun c_5 => ?_) (fun c_5 => ?_)
        · refine lv_iconst (v := 0) zx zb dX2_reach_47 (by decide) ?_
          exact join_34 0 _ _ _ (if_pos c_5).symm G hl
        · refine lv_iload zx zb dX2_reach_37 (lv_at hl 1 rfl) ?_
          refine lv_iload_n zx zb dX2_reach_39 rfl (lv_at hl 4 rfl) ?_
          refine lv_bipush (v := 10) zx zb dX2_reach_40 (by decide) ?_
          refine lv_idiv zx zb dX2_reach_42 (by decide) ?_
          refine r_isub (v := ((if l_ ≤ s_ then l_ else s_) - (t / 10))) S rfl dX2_reach_43 ?_
          refine lv_goto (tgt := 48) zx zb dX2_reach_44 (by decide) ?_
          exact join_34 ((if l_ ≤ s_ then l_ else s_) - (t / 10)) _ _ _ (if_neg c_5).symm G hl
      · intro x_6 H locs ls hk_x_6 G hl
        subst hk_x_6
        refine lv_istore (lv' := [(6, .int (if (if l_ ≤ s_ then l_ else s_) ≤ (t / 10) then 0 else ((if l_ ≤ s_ then l_ else s_) - (t / 10)))), (5, .int (if s_ < 5 then (if l_ ≤ s_ then l_ else s_) else ((if l_ ≤ s_ then l_ else s_) + 1))), (4, .int (if l_ ≤ s_ then l_ else s_)), (0, .int k), (1, .int l_), (2, .int t), (3, .int s_)]) zx zb dX2_reach_48 hl (by decide) rfl (fun ls hl => ?_)
        refine lv_iload_n zx zb dX2_reach_50 rfl (lv_at hl 3 rfl) ?_
        rcases k_ts1_5 k with w_7 | w_7 | w_7 | w_7 | w_7 | w_7
        · refine k_it w_7 ?_
          refine lv_tableIn (off := 33) (tgt := 84) zx zb dX2_reach_51 (by decide) (by decide) rfl (by decide) ?_
          refine lv_iload zx zb dX2_reach_84 (lv_at hl 1 rfl) ?_
          exact e_int S zr zlk (vp_nar_int _) G () [] rfl rfl (Or.inl rfl) (by subst w_7; rfl) dX2_reach_86
        · refine k_it w_7 ?_
          refine lv_tableIn (off := 36) (tgt := 87) zx zb dX2_reach_51 (by decide) (by decide) rfl (by decide) ?_
          refine lv_iload zx zb dX2_reach_87 (lv_at hl 0 rfl) ?_
          exact e_int S zr zlk (vp_nar_int _) G () [] rfl rfl (Or.inl rfl) (by subst w_7; rfl) dX2_reach_89
        · refine k_it w_7 ?_
          refine lv_tableIn (off := 39) (tgt := 90) zx zb dX2_reach_51 (by decide) (by decide) rfl (by decide) ?_
          refine lv_iload_n zx zb dX2_reach_90 rfl (lv_at hl 5 rfl) ?_
          refine lv_iconst (v := 5) zx zb dX2_reach_91 (by decide) ?_
          refine lv_irem zx zb dX2_reach_92 (by decide) ?_
          refine lv_iconst (v := 4) zx zb dX2_reach_93 (by decide) ?_
          refine k_cutW (PP := fun Wx => ∀ (x_9 : Int32) (H : Heap) (locs : List Loc) (ls : Array Slot), (x_9 = (if (t - t / 5 * 5) = 4 then ((if s_ < 5 then (if l_ ≤ s_ then l_ else s_) else ((if l_ ≤ s_ then l_ else s_) + 1)) + 3) else (if s_ < 5 then (if l_ ≤ s_ then l_ else s_) else ((if l_ ≤ s_ then l_ else s_) + 1)))) → wd X (fun _ => True) (va_A [] sz) s ([]) H locs → lv_has ls 7 [(6, .int (if (if l_ ≤ s_ then l_ else s_) ≤ (t / 10) then 0 else ((if l_ ≤ s_ then l_ else s_) - (t / 10)))), (5, .int (if s_ < 5 then (if l_ ≤ s_ then l_ else s_) else ((if l_ ≤ s_ then l_ else s_) + 1))), (4, .int (if l_ ≤ s_ then l_ else s_)), (0, .int k), (1, .int l_), (2, .int t), (3, .int s_)] → Wx (F0 m 106 ls [.int x_9]) H locs) ?_ ?_
          · intro join_94
            refine lv_icmp_ne (tgt := 104) zx zb dX2_reach_94 (by decide) (fun c_8 => ?_) (fun c_8 => ?_)
            · refine lv_iload zx zb dX2_reach_104 (lv_at hl 1 rfl) ?_
              exact join_94 (if s_ < 5 then (if l_ ≤ s_ then l_ else s_) else ((if l_ ≤ s_ then l_ else s_) + 1)) _ _ _ (if_neg c_8).symm G hl
            · refine lv_iload zx zb dX2_reach_97 (lv_at hl 1 rfl) ?_
              refine lv_iconst (v := 3) zx zb dX2_reach_99 (by decide) ?_
              refine r_iadd (v := ((if s_ < 5 then (if l_ ≤ s_ then l_ else s_) else ((if l_ ≤ s_ then l_ else s_) + 1)) + 3)) S rfl dX2_reach_100 ?_
              refine lv_goto (tgt := 106) zx zb dX2_reach_101 (by decide) ?_
              exact join_94 ((if s_ < 5 then (if l_ ≤ s_ then l_ else s_) else ((if l_ ≤ s_ then l_ else s_) + 1)) + 3) _ _ _ (if_pos c_8).symm G hl
          · intro x_9 H locs ls hk_x_9 G hl
            subst hk_x_9
            exact e_int S zr zlk (vp_nar_int _) G () [] rfl rfl (Or.inl rfl) (by subst w_7; rfl) dX2_reach_106
        · refine k_it w_7 ?_
          refine lv_tableIn (off := 56) (tgt := 107) zx zb dX2_reach_51 (by decide) (by decide) rfl (by decide) ?_
          refine lv_iload zx zb dX2_reach_107 (lv_at hl 2 rfl) ?_
          refine lv_iconst (v := 1) zx zb dX2_reach_109 (by decide) ?_
          refine r_iadd (v := ((if l_ ≤ s_ then l_ else s_) + 1)) S rfl dX2_reach_110 ?_
          refine lv_iconst (v := 2) zx zb dX2_reach_111 (by decide) ?_
          refine lv_idiv zx zb dX2_reach_112 (by decide) ?_
          exact e_int S zr zlk (vp_nar_int _) G () [] rfl rfl (Or.inl rfl) (by subst w_7; rfl) dX2_reach_113
        · refine k_it w_7 ?_
          refine lv_tableIn (off := 63) (tgt := 114) zx zb dX2_reach_51 (by decide) (by decide) rfl (by decide) ?_
          refine lv_iload_n zx zb dX2_reach_114 rfl (lv_at hl 5 rfl) ?_
          refine lv_iconst (v := 2) zx zb dX2_reach_115 (by decide) ?_
          refine lv_irem zx zb dX2_reach_116 (by decide) ?_
          refine lv_iconst (v := 1) zx zb dX2_reach_117 (by decide) ?_
          refine k_cutW (PP := fun Wx => ∀ (x_11 : Int32) (H : Heap) (locs : List Loc) (ls : Array Slot), (x_11 = (if (t - t / 2 * 2) = 1 then ((if (if l_ ≤ s_ then l_ else s_) ≤ (t / 10) then 0 else ((if l_ ≤ s_ then l_ else s_) - (t / 10))) + 2) else (if (if l_ ≤ s_ then l_ else s_) ≤ (t / 10) then 0 else ((if l_ ≤ s_ then l_ else s_) - (t / 10))))) → wd X (fun _ => True) (va_A [] sz) s ([]) H locs → lv_has ls 7 [(6, .int (if (if l_ ≤ s_ then l_ else s_) ≤ (t / 10) then 0 else ((if l_ ≤ s_ then l_ else s_) - (t / 10)))), (5, .int (if s_ < 5 then (if l_ ≤ s_ then l_ else s_) else ((if l_ ≤ s_ then l_ else s_) + 1))), (4, .int (if l_ ≤ s_ then l_ else s_)), (0, .int k), (1, .int l_), (2, .int t), (3, .int s_)] → Wx (F0 m 130 ls [.int x_11]) H locs) ?_ ?_
          · intro join_118
            refine lv_icmp_ne (tgt := 128) zx zb dX2_reach_118 (by decide) (fun c_10 => ?_) (fun c_10 => ?_)
            · refine lv_iload zx zb dX2_reach_128 (lv_at hl 0 rfl) ?_
              exact join_118 (if (if l_ ≤ s_ then l_ else s_) ≤ (t / 10) then 0 else ((if l_ ≤ s_ then l_ else s_) - (t / 10))) _ _ _ (if_neg c_10).symm G hl
            · refine lv_iload zx zb dX2_reach_121 (lv_at hl 0 rfl) ?_
              refine lv_iconst (v := 2) zx zb dX2_reach_123 (by decide) ?_
              refine r_iadd (v := ((if (if l_ ≤ s_ then l_ else s_) ≤ (t / 10) then 0 else ((if l_ ≤ s_ then l_ else s_) - (t / 10))) + 2)) S rfl dX2_reach_124 ?_
              refine lv_goto (tgt := 130) zx zb dX2_reach_125 (by decide) ?_
              exact join_118 ((if (if l_ ≤ s_ then l_ else s_) ≤ (t / 10) then 0 else ((if l_ ≤ s_ then l_ else s_) - (t / 10))) + 2) _ _ _ (if_pos c_10).symm G hl
          · intro x_11 H locs ls hk_x_11 G hl
            subst hk_x_11
            exact e_int S zr zlk (vp_nar_int _) G () [] rfl rfl (Or.inl rfl) (by subst w_7; rfl) dX2_reach_130
        · refine lv_tableOut (tgt := 131) zx zb dX2_reach_51 w_7 (by decide) ?_
          refine lv_iload zx zb dX2_reach_131 (lv_at hl 2 rfl) ?_
          exact e_int S zr zlk (vp_nar_int _) G () [] rfl rfl (Or.inl rfl) ((reachP_d w_7).symm) dX2_reach_133
set_option maxHeartbeats 4000000 in
set_option maxRecDepth 100000 in
theorem x_limit (l : Launch) (X : EX) (k : Int32) (t : Int32) (sz : Nat) : Met l yX1_limit wsX1_limit ({ frames := 0, cells := 0, slots := 0, locals := 0 } : Room) (pE X [.int k, .int t] ([]) sz) (qI (fun (r : Int32) (u : Unit) => r = limitP k t) X (fun (u : Unit) => []) [] sz) 0 0 (va_A [] sz) := by
  refine mk_met (B := (fun _ => True)) (A := (va_A [] sz)) (cc := cX1_limit) (maxL := 5) (ret := (some .int)) (by decide) rfl (Nat.le_of_ble_eq_true rfl) k_ro k_a (fun p e s m below meth c S zr zlk znm zsz G ls hl => ?_)
  have S : CallFix p m c cX1_limit 5 s _ wsX1_limit RX1 := S
  have zx := S.1
  have zb := S.2.1
  have hl : lv_has ls 5 [(0, .int k), (1, .int t)] := hl
  refine lv_iconst (v := 4) zx zb dX1_limit_0 (by decide) ?_
  refine lv_istore_n (lv' := [(2, .int 4), (0, .int k), (1, .int t)]) zx zb dX1_limit_1 rfl hl (by decide) rfl (fun ls hl => ?_)
  refine lv_iload_n zx zb dX1_limit_2 rfl (lv_at hl 0 rfl) ?_
  refine lv_iconst (v := 1) zx zb dX1_limit_3 (by decide) ?_
  refine r_iadd (v := 5) S (by decide) dX1_limit_4 ?_
  refine lv_istore_n (lv' := [(3, .int 5), (2, .int 4), (0, .int k), (1, .int t)]) zx zb dX1_limit_5 rfl hl (by decide) rfl (fun ls hl => ?_)
  refine lv_iload_n zx zb dX1_limit_6 rfl (lv_at hl 3 rfl) ?_
  refine lv_iconst (v := 2) zx zb dX1_limit_7 (by decide) ?_
  refine lv_irem zx zb dX1_limit_8 (by decide) ?_
  refine lv_iconst (v := 1) zx zb dX1_limit_9 (by decide) ?_
  refine k_cutW (PP := fun Wx => ∀ (x_2 : Int32) (H : Heap) (locs : List Loc) (ls : Array Slot), (x_2 = (if (t - t / 2 * 2) = 1 then 3 else 4)) → wd X (fun _ => True) (va_A [] sz) s ([]) H locs → lv_has ls 5 [(3, .int 5), (2, .int 4), (0, .int k), (1, .int t)] → Wx (F0 m 20 ls [.int x_2]) H locs) ?_ ?_
  · intro join_10
    refine lv_icmp_ne (tgt := 19) zx zb dX1_limit_10 (by decide) (fun c_1 => ?_) (fun c_1 => ?_)
    · refine lv_iload_n zx zb dX1_limit_19 rfl (lv_at hl 1 rfl) ?_
      exact join_10 4 _ _ _ (if_neg c_1).symm G hl
    · refine lv_iload_n zx zb dX1_limit_13 rfl (lv_at hl 1 rfl) ?_
      refine lv_iconst (v := 1) zx zb dX1_limit_14 (by decide) ?_
      refine r_isub (v := 3) S (by decide) dX1_limit_15 ?_
      refine lv_goto (tgt := 20) zx zb dX1_limit_16 (by decide) ?_
      exact join_10 3 _ _ _ (if_pos c_1).symm G hl
  · intro x_2 H locs ls hk_x_2 G hl
    subst hk_x_2
    refine lv_istore (lv' := [(4, .int (if (t - t / 2 * 2) = 1 then 3 else 4)), (3, .int 5), (2, .int 4), (0, .int k), (1, .int t)]) zx zb dX1_limit_20 hl (by decide) rfl (fun ls hl => ?_)
    refine lv_iload_n zx zb dX1_limit_22 rfl (lv_at hl 3 rfl) ?_
    rcases k_ts1_5 k with w_3 | w_3 | w_3 | w_3 | w_3 | w_3
    · refine k_it w_3 ?_
      refine lv_tableIn (off := 33) (tgt := 56) zx zb dX1_limit_23 (by decide) (by decide) rfl (by decide) ?_
      refine lv_iload_n zx zb dX1_limit_56 rfl (lv_at hl 1 rfl) ?_
      exact e_int S zr zlk (vp_nar_int _) G () [] rfl rfl (Or.inl rfl) (by subst w_3; rfl) dX1_limit_57
    · refine k_it w_3 ?_
      refine lv_tableIn (off := 35) (tgt := 58) zx zb dX1_limit_23 (by decide) (by decide) rfl (by decide) ?_
      refine lv_iload zx zb dX1_limit_58 (lv_at hl 0 rfl) ?_
      exact e_int S zr zlk (vp_nar_int _) G () [] rfl rfl (Or.inl rfl) (by subst w_3; rfl) dX1_limit_60
    · refine k_it w_3 ?_
      refine lv_tableIn (off := 38) (tgt := 61) zx zb dX1_limit_23 (by decide) (by decide) rfl (by decide) ?_
      refine lv_iload_n zx zb dX1_limit_61 rfl (lv_at hl 4 rfl) ?_
      refine lv_iconst (v := 3) zx zb dX1_limit_62 (by decide) ?_
      refine k_cutW (PP := fun Wx => ∀ (x_5 : Int32) (H : Heap) (locs : List Loc) (ls : Array Slot), (x_5 = (if 3 ≤ t then 5 else 8)) → wd X (fun _ => True) (va_A [] sz) s ([]) H locs → lv_has ls 5 [(4, .int (if (t - t / 2 * 2) = 1 then 3 else 4)), (3, .int 5), (2, .int 4), (0, .int k), (1, .int t)] → Wx (F0 m 73 ls [.int x_5]) H locs) ?_ ?_
      · intro join_63
        refine lv_icmp_ge (tgt := 72) zx zb dX1_limit_63 (by decide) (fun c_4 => ?_) (fun c_4 => ?_)
        · refine lv_iload_n zx zb dX1_limit_72 rfl (lv_at hl 1 rfl) ?_
          exact join_63 5 _ _ _ (if_pos c_4).symm G hl
        · refine lv_iload_n zx zb dX1_limit_66 rfl (lv_at hl 1 rfl) ?_
          refine lv_iconst (v := 3) zx zb dX1_limit_67 (by decide) ?_
          refine r_iadd (v := 8) S (by decide) dX1_limit_68 ?_
          refine lv_goto (tgt := 73) zx zb dX1_limit_69 (by decide) ?_
          exact join_63 8 _ _ _ (if_neg c_4).symm G hl
      · intro x_5 H locs ls hk_x_5 G hl
        subst hk_x_5
        exact e_int S zr zlk (vp_nar_int _) G () [] rfl rfl (Or.inl rfl) (by subst w_3; rfl) dX1_limit_73
    · refine k_it w_3 ?_
      refine lv_tableIn (off := 51) (tgt := 74) zx zb dX1_limit_23 (by decide) (by decide) rfl (by decide) ?_
      refine lv_iload zx zb dX1_limit_74 (lv_at hl 0 rfl) ?_
      refine lv_iconst (v := 1) zx zb dX1_limit_76 (by decide) ?_
      refine r_isub (v := ((if (t - t / 2 * 2) = 1 then 3 else 4) - 1)) S rfl dX1_limit_77 ?_
      exact e_int S zr zlk (vp_nar_int _) G () [] rfl rfl (Or.inl rfl) (by subst w_3; rfl) dX1_limit_78
    · refine k_it w_3 ?_
      refine lv_tableIn (off := 56) (tgt := 79) zx zb dX1_limit_23 (by decide) (by decide) rfl (by decide) ?_
      refine lv_iload_n zx zb dX1_limit_79 rfl (lv_at hl 4 rfl) ?_
      refine lv_iconst (v := 4) zx zb dX1_limit_80 (by decide) ?_
      refine lv_irem zx zb dX1_limit_81 (by decide) ?_
      refine k_cutW (PP := fun Wx => ∀ (x_7 : Int32) (H : Heap) (locs : List Loc) (ls : Array Slot), (x_7 = (if (t - t / 4 * 4) = 0 then 7 else 5)) → wd X (fun _ => True) (va_A [] sz) s ([]) H locs → lv_has ls 5 [(4, .int (if (t - t / 2 * 2) = 1 then 3 else 4)), (3, .int 5), (2, .int 4), (0, .int k), (1, .int t)] → Wx (F0 m 92 ls [.int x_7]) H locs) ?_ ?_
      · intro join_82
        refine lv_if_ne (tgt := 91) zx zb dX1_limit_82 (by decide) (fun c_6 => ?_) (fun c_6 => ?_)
        · refine lv_iload_n zx zb dX1_limit_91 rfl (lv_at hl 1 rfl) ?_
          exact join_82 5 _ _ _ (if_neg c_6).symm G hl
        · refine lv_iload_n zx zb dX1_limit_85 rfl (lv_at hl 1 rfl) ?_
          refine lv_iconst (v := 2) zx zb dX1_limit_86 (by decide) ?_
          refine r_iadd (v := 7) S (by decide) dX1_limit_87 ?_
          refine lv_goto (tgt := 92) zx zb dX1_limit_88 (by decide) ?_
          exact join_82 7 _ _ _ (if_pos c_6).symm G hl
      · intro x_7 H locs ls hk_x_7 G hl
        subst hk_x_7
        exact e_int S zr zlk (vp_nar_int _) G () [] rfl rfl (Or.inl rfl) (by subst w_3; rfl) dX1_limit_92
    · refine lv_tableOut (tgt := 93) zx zb dX1_limit_23 w_3 (by decide) ?_
      refine lv_iload_n zx zb dX1_limit_93 rfl (lv_at hl 2 rfl) ?_
      exact e_int S zr zlk (vp_nar_int _) G () [] rfl rfl (Or.inl rfl) ((limitP_d w_3).symm) dX1_limit_94
set_option maxHeartbeats 4000000 in
set_option maxRecDepth 100000 in
theorem x_isHome (l : Launch) (X : EX) (h0 : Nat) (a : Nat → Int32) (d : Nat → Int32) (sz : Nat) : Met l yX8_isHome wsX8_isHome ({ frames := 0, cells := 0, slots := 0, locals := 0 } : Room) (pE X [.ref h0] (rnV h0 a d) sz) (qI (fun (r : Int32) (u : Unit) => (r = 0 ∧ d 4 = -1) ∨ (r = 1 ∧ ¬ d 4 = -1)) X (fun (u : Unit) => []) [] sz) 0 0 (va_A [] sz) := by
  refine mk_met (B := (fun _ => True)) (A := (va_A [] sz)) (cc := cX8_isHome) (maxL := 1) (ret := (some .boolean)) (by decide) rfl (Nat.le_of_ble_eq_true rfl) k_ro k_a (fun p e s m below meth c S zr zlk znm zsz G ls hl => ?_)
  have S : CallFix p m c cX8_isHome 1 s _ wsX8_isHome RX8 := S
  have zx := S.1
  have zb := S.2.1
  have hl : lv_has ls 1 [(0, .ref h0)] := hl
  refine lv_aload_n zx zb dX8_isHome_0 rfl (lv_at hl 0 rfl) ?_
  refine r_get (C := RX8) (T := TX8) (N := 8) (ci := 6) (v := .int (d 4)) S in_X8_isHome_X8 G 0 rfl rfl 7 (by decide) lk_X8_isHome_33 rfl dX8_isHome_1 ?_
  refine lv_iconst (v := (-1)) zx zb dX8_isHome_4 (by decide) ?_
  refine lv_icmp_eq (tgt := 12) zx zb dX8_isHome_5 (by decide) (fun c_1 => ?_) (fun c_1 => ?_)
  · refine lv_iconst (v := 0) zx zb dX8_isHome_12 (by decide) ?_
    exact e_int S zr zlk (by decide) G () [] rfl rfl (Or.inl rfl) (Or.inl ⟨rfl, c_1⟩) dX8_isHome_13
  · refine lv_iconst (v := 1) zx zb dX8_isHome_8 (by decide) ?_
    refine lv_goto (tgt := 13) zx zb dX8_isHome_9 (by decide) ?_
    exact e_int S zr zlk (by decide) G () [] rfl rfl (Or.inl rfl) (Or.inr ⟨rfl, c_1⟩) dX8_isHome_13
set_option maxHeartbeats 4000000 in
set_option maxRecDepth 100000 in
theorem x_step (l : Launch) (X : EX) (h0 : Nat) (a : Nat → Int32) (d : Nat → Int32) (t : Int32) (x : Int32) (sz : Nat) : Met l yX8_step wsX8_step ({ frames := 1, cells := 0, slots := 0, locals := 26 } : Room) (pE X [.ref h0, .int t, .int x] (rnV h0 a d) sz) (qV (fun (u : (Nat → Int32)) => (u = stepP a d t x)) X (fun (u : (Nat → Int32)) => rnV h0 a u) (rnV h0 a d) sz) 0 0 (va_A (rnV h0 a d) sz) := by
  refine mk_met (B := (va_A (rnV h0 a d) sz)) (A := (va_A (rnV h0 a d) sz)) (cc := cX8_step) (maxL := 4) (ret := none) (by decide) rfl (Nat.le_of_ble_eq_true rfl) k_w k_a (fun p e s m below meth c S zr zlk znm zsz G ls hl => ?_)
  have S : CallFix p m c cX8_step 4 s _ wsX8_step RX8 := S
  have zx := S.1
  have zb := S.2.1
  have hl : lv_has ls 4 [(0, .ref h0), (1, .int t), (2, .int x)] := hl
  refine lv_aload_n zx zb dX8_step_0 rfl (lv_at hl 0 rfl) ?_
  refine o_ri (cells' := 0) (slots' := 0) G rfl rfl (n_V (As := []) (rest := []) (C := RX8) (T := TX8) (N := 8) (ci := 6) S G (x_isHome l X h0 a d s.heap.size) gX8_step_X8_isHome rfl rfl rfl hdV_X8_isHome ⟨Nat.le_of_ble_eq_true rfl, Nat.le_of_ble_eq_true rfl⟩ [0] rfl rfl 0 rfl rfl rfl hl.1 (Nat.le_of_ble_eq_true rfl) dX8_step_1 ⟨Nat.le_of_ble_eq_true rfl, Nat.le_of_ble_eq_true rfl⟩) (fun r_1 u_1 H locs hp_1 G => ?_)
  have G : wd X (va_A (rnV h0 a d) sz) (va_A (rnV h0 a d) sz) s (rnV h0 a d) H locs := G
  rcases hp_1 with ⟨rfl, hh_1⟩ | ⟨rfl, hh_1⟩
  · refine lv_if_eq (tgt := 8) zx zb dX8_step_4 (by decide) (fun c_2 => ?_) (fun c_2 => absurd (by decide) c_2)
    refine lv_aload_n zx zb dX8_step_8 rfl (lv_at hl 0 rfl) ?_
    refine r_get (C := RX8) (T := TX8) (N := 8) (ci := 6) (v := .int (d 3)) S in_X8_step_X8 G 0 rfl rfl 6 (by decide) lk_X8_step_30 rfl dX8_step_9 ?_
    refine lv_if_le (tgt := 26) zx zb dX8_step_12 (by decide) (fun c_3 => ?_) (fun c_3 => ?_)
    · refine lv_aload_n zx zb dX8_step_26 rfl (lv_at hl 0 rfl) ?_
      refine r_get (C := RX8) (T := TX8) (N := 8) (ci := 6) (v := .int (a 0)) S in_X8_step_X8 G 0 rfl rfl 0 (by decide) lk_X8_step_9 rfl dX8_step_27 ?_
      refine lv_aload_n zx zb dX8_step_30 rfl (lv_at hl 0 rfl) ?_
      refine r_get (C := RX8) (T := TX8) (N := 8) (ci := 6) (v := .int (a 1)) S in_X8_step_X8 G 0 rfl rfl 1 (by decide) lk_X8_step_15 rfl dX8_step_31 ?_
      refine lv_iload_n zx zb dX8_step_34 rfl (lv_at hl 1 rfl) ?_
      refine lv_aload_n zx zb dX8_step_35 rfl (lv_at hl 0 rfl) ?_
      refine r_get (C := RX8) (T := TX8) (N := 8) (ci := 6) (v := .int (d 0)) S in_X8_step_X8 G 0 rfl rfl 3 (by decide) lk_X8_step_21 rfl dX8_step_36 ?_
      refine o_ri (cells' := 0) (slots' := 0) G rfl rfl (n_S (As := [.int (a 0), .int (a 1), .int t, .int (d 0)]) (rest := []) S G (x_reach l X (a 0) (a 1) t (d 0) H.size) gX8_step_X2_reach rfl rfl rfl hdS_X2_reach ⟨Nat.le_of_ble_eq_true rfl, Nat.le_of_ble_eq_true rfl⟩ [] rfl rfl rfl hl.1 (Nat.le_of_ble_eq_true rfl) dX8_step_39 ⟨Nat.le_of_ble_eq_true rfl, Nat.le_of_ble_eq_true rfl⟩) (fun r_4 u_4 H locs hp_4 G => ?_)
      have G : wd X (va_A (rnV h0 a d) sz) (va_A (rnV h0 a d) sz) s (rnV h0 a d) H locs := G
      obtain rfl := hp_4
      refine lv_istore_n (lv' := [(3, .int (reachP (a 0) (a 1) t (d 0))), (0, .ref h0), (1, .int t), (2, .int x)]) zx zb dX8_step_42 rfl hl (by decide) rfl (fun ls hl => ?_)
      refine lv_iload_n zx zb dX8_step_43 rfl (lv_at hl 0 rfl) ?_
      refine lv_aload_n zx zb dX8_step_44 rfl (lv_at hl 1 rfl) ?_
      refine r_get (C := RX8) (T := TX8) (N := 8) (ci := 6) (v := .int (a 2)) S in_X8_step_X8 G 0 rfl rfl 2 (by decide) lk_X8_step_18 rfl dX8_step_45 ?_
      refine lv_iload_n zx zb dX8_step_48 rfl (lv_at hl 2 rfl) ?_
      refine o_ri (cells' := 0) (slots' := 0) G rfl rfl (n_S (As := [.int (a 2), .int t]) (rest := [.int (reachP (a 0) (a 1) t (d 0))]) S G (x_limit l X (a 2) t H.size) gX8_step_X1_limit rfl rfl rfl hdS_X1_limit ⟨Nat.le_of_ble_eq_true rfl, Nat.le_of_ble_eq_true rfl⟩ [] rfl rfl rfl hl.1 (Nat.le_of_ble_eq_true rfl) dX8_step_49 ⟨Nat.le_of_ble_eq_true rfl, Nat.le_of_ble_eq_true rfl⟩) (fun r_5 u_5 H locs hp_5 G => ?_)
      have G : wd X (va_A (rnV h0 a d) sz) (va_A (rnV h0 a d) sz) s (rnV h0 a d) H locs := G
      obtain rfl := hp_5
      refine lv_icmp_le (tgt := 85) zx zb dX8_step_52 (by decide) (fun c_6 => ?_) (fun c_6 => ?_)
      · refine lv_aload_n zx zb dX8_step_85 rfl (lv_at hl 1 rfl) ?_
        refine lv_dup zx zb dX8_step_86 rfl ?_
        refine r_get (C := RX8) (T := TX8) (N := 8) (ci := 6) (v := .int (d 1)) S in_X8_step_X8 G 0 rfl rfl 4 (by decide) lk_X8_step_24 rfl dX8_step_87 ?_
        refine lv_iload_n zx zb dX8_step_90 rfl (lv_at hl 0 rfl) ?_
        refine r_iadd (v := ((d 1) + (reachP (a 0) (a 1) t (d 0)))) S rfl dX8_step_91 ?_
        refine r_put (C := RX8) (T := TX8) (N := 8) (ci := 6) (v := .int ((d 1) + (reachP (a 0) (a 1) t (d 0)))) S in_X8_step_X8 tyX8_ok nmX8 G 0 rfl rfl 4 (by decide) lk_X8_step_24 rfl (vp_nar_int _) rfl (Nat.le_of_ble_eq_true rfl) dX8_step_92 (fun H locs G => ?_)
        have G : wd X (va_A (rnV h0 a d) sz) (va_A (rnV h0 a d) sz) s (rnV h0 a (upd d 1 ((d 1) + (reachP (a 0) (a 1) t (d 0))))) H locs := G
        refine lv_aload_n zx zb dX8_step_95 rfl (lv_at hl 1 rfl) ?_
        refine r_get (C := RX8) (T := TX8) (N := 8) (ci := 6) (v := .int ((upd d 1 ((d 1) + (reachP (a 0) (a 1) t (d 0)))) 1)) S in_X8_step_X8 G 0 rfl rfl 4 (by decide) lk_X8_step_24 rfl dX8_step_96 ?_
        refine lv_iload_n zx zb dX8_step_99 rfl (lv_at hl 3 rfl) ?_
        refine lv_icmp_lt (tgt := 108) zx zb dX8_step_100 (by decide) (fun c_7 => ?_) (fun c_7 => ?_)
        · exact e_void S zr zlk G ((upd d 1 ((d 1) + (reachP (a 0) (a 1) t (d 0))))) [0] rfl rfl (Or.inr rfl) (by rw [stepP, if_pos hh_1, if_pos c_3, if_pos c_6, if_pos (show d 1 + reachP (a 0) (a 1) t (d 0) < x from c_7)]) dX8_step_108
        · refine lv_aload_n zx zb dX8_step_103 rfl (lv_at hl 1 rfl) ?_
          refine lv_iload_n zx zb dX8_step_104 rfl (lv_at hl 2 rfl) ?_
          refine r_put (C := RX8) (T := TX8) (N := 8) (ci := 6) (v := .int t) S in_X8_step_X8 tyX8_ok nmX8 G 0 rfl rfl 7 (by decide) lk_X8_step_33 rfl (vp_nar_int _) rfl (Nat.le_of_ble_eq_true rfl) dX8_step_105 (fun H locs G => ?_)
          have G : wd X (va_A (rnV h0 a d) sz) (va_A (rnV h0 a d) sz) s (rnV h0 a (upd (upd d 1 ((d 1) + (reachP (a 0) (a 1) t (d 0)))) 4 t)) H locs := G
          exact e_void S zr zlk G ((upd (upd d 1 ((d 1) + (reachP (a 0) (a 1) t (d 0)))) 4 t)) [0] rfl rfl (Or.inr rfl) (by rw [stepP, if_pos hh_1, if_pos c_3, if_pos c_6, if_neg (show ¬ d 1 + reachP (a 0) (a 1) t (d 0) < x from c_7)]) dX8_step_108
      · refine lv_aload_n zx zb dX8_step_55 rfl (lv_at hl 1 rfl) ?_
        refine lv_aload_n zx zb dX8_step_56 rfl (lv_at hl 1 rfl) ?_
        refine r_get (C := RX8) (T := TX8) (N := 8) (ci := 6) (v := .int (d 2)) S in_X8_step_X8 G 0 rfl rfl 5 (by decide) lk_X8_step_27 rfl dX8_step_57 ?_
        refine lv_bipush (v := 99) zx zb dX8_step_60 (by decide) ?_
        refine k_cutW (PP := fun Wx => ∀ (x_9 : Int32) (H : Heap) (locs : List Loc) (ls : Array Slot), (x_9 = (if 99 ≤ (d 2) then 99 else ((d 2) + 1))) → wd X (va_A (rnV h0 a d) sz) (va_A (rnV h0 a d) sz) s (rnV h0 a d) H locs → lv_has ls 4 [(3, .int (reachP (a 0) (a 1) t (d 0))), (0, .ref h0), (1, .int t), (2, .int x)] → Wx (F0 m 76 ls [.int x_9, .ref h0]) H locs) ?_ ?_
        · intro join_62
          refine lv_icmp_ge (tgt := 74) zx zb dX8_step_62 (by decide) (fun c_8 => ?_) (fun c_8 => ?_)
          · refine lv_bipush (v := 99) zx zb dX8_step_74 (by decide) ?_
            exact join_62 99 _ _ _ (if_pos c_8).symm G hl
          · refine lv_aload_n zx zb dX8_step_65 rfl (lv_at hl 1 rfl) ?_
            refine r_get (C := RX8) (T := TX8) (N := 8) (ci := 6) (v := .int (d 2)) S in_X8_step_X8 G 0 rfl rfl 5 (by decide) lk_X8_step_27 rfl dX8_step_66 ?_
            refine lv_iconst (v := 1) zx zb dX8_step_69 (by decide) ?_
            refine r_iadd (v := ((d 2) + 1)) S rfl dX8_step_70 ?_
            refine lv_goto (tgt := 76) zx zb dX8_step_71 (by decide) ?_
            exact join_62 ((d 2) + 1) _ _ _ (if_neg c_8).symm G hl
        · intro x_9 H locs ls hk_x_9 G hl
          subst hk_x_9
          refine r_put (C := RX8) (T := TX8) (N := 8) (ci := 6) (v := .int (if 99 ≤ (d 2) then 99 else ((d 2) + 1))) S in_X8_step_X8 tyX8_ok nmX8 G 0 rfl rfl 5 (by decide) lk_X8_step_27 rfl (vp_nar_int _) rfl (Nat.le_of_ble_eq_true rfl) dX8_step_76 (fun H locs G => ?_)
          have G : wd X (va_A (rnV h0 a d) sz) (va_A (rnV h0 a d) sz) s (rnV h0 a (upd d 2 (if 99 ≤ (d 2) then 99 else ((d 2) + 1)))) H locs := G
          refine lv_aload_n zx zb dX8_step_79 rfl (lv_at hl 1 rfl) ?_
          refine lv_iconst (v := 2) zx zb dX8_step_80 (by decide) ?_
          refine r_put (C := RX8) (T := TX8) (N := 8) (ci := 6) (v := .int 2) S in_X8_step_X8 tyX8_ok nmX8 G 0 rfl rfl 6 (by decide) lk_X8_step_30 rfl (vp_nar_int _) rfl (Nat.le_of_ble_eq_true rfl) dX8_step_81 (fun H locs G => ?_)
          have G : wd X (va_A (rnV h0 a d) sz) (va_A (rnV h0 a d) sz) s (rnV h0 a (upd (upd d 2 (if 99 ≤ (d 2) then 99 else ((d 2) + 1))) 3 2)) H locs := G
          exact e_void S zr zlk G ((upd (upd d 2 (if 99 ≤ (d 2) then 99 else ((d 2) + 1))) 3 2)) [0] rfl rfl (Or.inr rfl) (by rw [stepP, if_pos hh_1, if_pos c_3, if_neg c_6]) dX8_step_84
    · refine lv_aload_n zx zb dX8_step_15 rfl (lv_at hl 0 rfl) ?_
      refine lv_dup zx zb dX8_step_16 rfl ?_
      refine r_get (C := RX8) (T := TX8) (N := 8) (ci := 6) (v := .int (d 3)) S in_X8_step_X8 G 0 rfl rfl 6 (by decide) lk_X8_step_30 rfl dX8_step_17 ?_
      refine lv_iconst (v := 1) zx zb dX8_step_20 (by decide) ?_
      refine r_isub (v := ((d 3) - 1)) S rfl dX8_step_21 ?_
      refine r_put (C := RX8) (T := TX8) (N := 8) (ci := 6) (v := .int ((d 3) - 1)) S in_X8_step_X8 tyX8_ok nmX8 G 0 rfl rfl 6 (by decide) lk_X8_step_30 rfl (vp_nar_int _) rfl (Nat.le_of_ble_eq_true rfl) dX8_step_22 (fun H locs G => ?_)
      have G : wd X (va_A (rnV h0 a d) sz) (va_A (rnV h0 a d) sz) s (rnV h0 a (upd d 3 ((d 3) - 1))) H locs := G
      exact e_void S zr zlk G ((upd d 3 ((d 3) - 1))) [0] rfl rfl (Or.inr rfl) (by rw [stepP, if_pos hh_1, if_neg c_3]) dX8_step_25
  · refine lv_if_eq (tgt := 8) zx zb dX8_step_4 (by decide) (fun c_10 => absurd c_10 (by decide)) (fun c_10 => ?_)
    exact e_void S zr zlk G (d) [0] rfl rfl (Or.inr rfl) ((if_neg hh_1).symm) dX8_step_7
set_option maxHeartbeats 4000000 in
set_option maxRecDepth 100000 in
theorem x_begin (l : Launch) (X : EX) (h0 : Nat) (a : Nat → Int32) (d : Nat → Int32) (x1 : Int32) (x2 : Int32) (x3 : Int32) (sz : Nat) : Met l yX8_begin wsX8_begin ({ frames := 0, cells := 0, slots := 0, locals := 0 } : Room) (pE X [.ref h0, .int x1, .int x2, .int x3] (rnV h0 a d) sz) (qV (fun (u : (Nat → Int32) × (Nat → Int32)) => ((u.1 0 = x1 ∧ u.1 1 = x2 ∧ u.1 2 = x3) ∧ u.2 0 = 4 ∧ u.2 1 = 0 ∧ u.2 2 = 0 ∧ u.2 3 = 0 ∧ u.2 4 = -1)) X (fun (u : (Nat → Int32) × (Nat → Int32)) => rnV h0 u.1 u.2) (rnV h0 a d) sz) 0 0 (va_A (rnV h0 a d) sz) := by
  refine mk_met (B := (va_A (rnV h0 a d) sz)) (A := (va_A (rnV h0 a d) sz)) (cc := cX8_begin) (maxL := 4) (ret := none) (by decide) rfl (Nat.le_of_ble_eq_true rfl) k_w k_a (fun p e s m below meth c S zr zlk znm zsz G ls hl => ?_)
  have S : CallFix p m c cX8_begin 4 s _ wsX8_begin RX8 := S
  have zx := S.1
  have zb := S.2.1
  have hl : lv_has ls 4 [(0, .ref h0), (1, .int x1), (2, .int x2), (3, .int x3)] := hl
  refine lv_aload_n zx zb dX8_begin_0 rfl (lv_at hl 0 rfl) ?_
  refine lv_iload_n zx zb dX8_begin_1 rfl (lv_at hl 1 rfl) ?_
  refine r_put (C := RX8) (T := TX8) (N := 8) (ci := 6) (v := .int x1) S in_X8_begin_X8 tyX8_ok nmX8 G 0 rfl rfl 0 (by decide) lk_X8_begin_9 rfl (vp_nar_int _) rfl (Nat.le_of_ble_eq_true rfl) dX8_begin_2 (fun H locs G => ?_)
  have G : wd X (va_A (rnV h0 a d) sz) (va_A (rnV h0 a d) sz) s (rnV h0 (upd a 0 x1) d) H locs := G
  refine lv_aload_n zx zb dX8_begin_5 rfl (lv_at hl 0 rfl) ?_
  refine lv_iload_n zx zb dX8_begin_6 rfl (lv_at hl 2 rfl) ?_
  refine r_put (C := RX8) (T := TX8) (N := 8) (ci := 6) (v := .int x2) S in_X8_begin_X8 tyX8_ok nmX8 G 0 rfl rfl 1 (by decide) lk_X8_begin_15 rfl (vp_nar_int _) rfl (Nat.le_of_ble_eq_true rfl) dX8_begin_7 (fun H locs G => ?_)
  have G : wd X (va_A (rnV h0 a d) sz) (va_A (rnV h0 a d) sz) s (rnV h0 (upd (upd a 0 x1) 1 x2) d) H locs := G
  refine lv_aload_n zx zb dX8_begin_10 rfl (lv_at hl 0 rfl) ?_
  refine lv_iload_n zx zb dX8_begin_11 rfl (lv_at hl 3 rfl) ?_
  refine r_put (C := RX8) (T := TX8) (N := 8) (ci := 6) (v := .int x3) S in_X8_begin_X8 tyX8_ok nmX8 G 0 rfl rfl 2 (by decide) lk_X8_begin_18 rfl (vp_nar_int _) rfl (Nat.le_of_ble_eq_true rfl) dX8_begin_12 (fun H locs G => ?_)
  have G : wd X (va_A (rnV h0 a d) sz) (va_A (rnV h0 a d) sz) s (rnV h0 (upd (upd (upd a 0 x1) 1 x2) 2 x3) d) H locs := G
  refine lv_aload_n zx zb dX8_begin_15 rfl (lv_at hl 0 rfl) ?_
  refine lv_iconst (v := 4) zx zb dX8_begin_16 (by decide) ?_
  refine r_put (C := RX8) (T := TX8) (N := 8) (ci := 6) (v := .int 4) S in_X8_begin_X8 tyX8_ok nmX8 G 0 rfl rfl 3 (by decide) lk_X8_begin_21 rfl (vp_nar_int _) rfl (Nat.le_of_ble_eq_true rfl) dX8_begin_17 (fun H locs G => ?_)
  have G : wd X (va_A (rnV h0 a d) sz) (va_A (rnV h0 a d) sz) s (rnV h0 (upd (upd (upd a 0 x1) 1 x2) 2 x3) (upd d 0 4)) H locs := G
  refine lv_aload_n zx zb dX8_begin_20 rfl (lv_at hl 0 rfl) ?_
  refine lv_iconst (v := 0) zx zb dX8_begin_21 (by decide) ?_
  refine r_put (C := RX8) (T := TX8) (N := 8) (ci := 6) (v := .int 0) S in_X8_begin_X8 tyX8_ok nmX8 G 0 rfl rfl 4 (by decide) lk_X8_begin_24 rfl (vp_nar_int _) rfl (Nat.le_of_ble_eq_true rfl) dX8_begin_22 (fun H locs G => ?_)
  have G : wd X (va_A (rnV h0 a d) sz) (va_A (rnV h0 a d) sz) s (rnV h0 (upd (upd (upd a 0 x1) 1 x2) 2 x3) (upd (upd d 0 4) 1 0)) H locs := G
  refine lv_aload_n zx zb dX8_begin_25 rfl (lv_at hl 0 rfl) ?_
  refine lv_iconst (v := 0) zx zb dX8_begin_26 (by decide) ?_
  refine r_put (C := RX8) (T := TX8) (N := 8) (ci := 6) (v := .int 0) S in_X8_begin_X8 tyX8_ok nmX8 G 0 rfl rfl 5 (by decide) lk_X8_begin_27 rfl (vp_nar_int _) rfl (Nat.le_of_ble_eq_true rfl) dX8_begin_27 (fun H locs G => ?_)
  have G : wd X (va_A (rnV h0 a d) sz) (va_A (rnV h0 a d) sz) s (rnV h0 (upd (upd (upd a 0 x1) 1 x2) 2 x3) (upd (upd (upd d 0 4) 1 0) 2 0)) H locs := G
  refine lv_aload_n zx zb dX8_begin_30 rfl (lv_at hl 0 rfl) ?_
  refine lv_iconst (v := 0) zx zb dX8_begin_31 (by decide) ?_
  refine r_put (C := RX8) (T := TX8) (N := 8) (ci := 6) (v := .int 0) S in_X8_begin_X8 tyX8_ok nmX8 G 0 rfl rfl 6 (by decide) lk_X8_begin_30 rfl (vp_nar_int _) rfl (Nat.le_of_ble_eq_true rfl) dX8_begin_32 (fun H locs G => ?_)
  have G : wd X (va_A (rnV h0 a d) sz) (va_A (rnV h0 a d) sz) s (rnV h0 (upd (upd (upd a 0 x1) 1 x2) 2 x3) (upd (upd (upd (upd d 0 4) 1 0) 2 0) 3 0)) H locs := G
  refine lv_aload_n zx zb dX8_begin_35 rfl (lv_at hl 0 rfl) ?_
  refine lv_iconst (v := (-1)) zx zb dX8_begin_36 (by decide) ?_
  refine r_put (C := RX8) (T := TX8) (N := 8) (ci := 6) (v := .int (-1)) S in_X8_begin_X8 tyX8_ok nmX8 G 0 rfl rfl 7 (by decide) lk_X8_begin_33 rfl (vp_nar_int _) rfl (Nat.le_of_ble_eq_true rfl) dX8_begin_37 (fun H locs G => ?_)
  have G : wd X (va_A (rnV h0 a d) sz) (va_A (rnV h0 a d) sz) s (rnV h0 (upd (upd (upd a 0 x1) 1 x2) 2 x3) (upd (upd (upd (upd (upd d 0 4) 1 0) 2 0) 3 0) 4 (-1))) H locs := G
  exact e_void S zr zlk G ((upd (upd (upd a 0 x1) 1 x2) 2 x3), (upd (upd (upd (upd (upd d 0 4) 1 0) 2 0) 3 0) 4 (-1))) [0] rfl rfl (Or.inr rfl) (⟨⟨rfl, rfl, rfl⟩, rfl, rfl, rfl, rfl, rfl⟩) dX8_begin_40
set_option maxHeartbeats 4000000 in
set_option maxRecDepth 100000 in
theorem x_goOn (l : Launch) (X : EX) (hn : Nat) (an : Nat → Nat) (sv : Nat → Int32) (dv : Nat → Int32) (n0 : Nat) (n1 : Nat) (n2 : Nat) (n3 : Nat) (n4 : Nat) (g0 : Nat → Int32) (gs : Nat → Int32) (gn : Nat → Int32) (gm : Nat → Int32) (hI_n0 : n0 ≤ 6) (hI_n1 : n1 ≤ 8) (hI_n2 : n2 ≤ 5) (hI_n3 : n3 ≤ 6) (hI_n4 : n4 ≤ 6) (sz : Nat) : Met l yX5_goOn wsX5_goOn ({ frames := 2, cells := 0, slots := 0, locals := 49 } : Room) (pE X [.ref hn] (rcV X hn an sv dv n0 n1 n2 n3 n4 g0 gs gn gm) sz) (qV (fun (u : (Nat → Int32)) => (u = gP sv dv n0)) X (fun (u : (Nat → Int32)) => rcV X hn an sv u n0 n1 n2 n3 n4 g0 gs gn gm) (rcV X hn an sv dv n0 n1 n2 n3 n4 g0 gs gn gm) sz) 0 0 (va_A (rcV X hn an sv dv n0 n1 n2 n3 n4 g0 gs gn gm) sz) := by
  refine mk_met (B := (va_A (rcV X hn an sv dv n0 n1 n2 n3 n4 g0 gs gn gm) sz)) (A := (va_A (rcV X hn an sv dv n0 n1 n2 n3 n4 g0 gs gn gm) sz)) (cc := cX5_goOn) (maxL := 2) (ret := none) (by decide) rfl (Nat.le_of_ble_eq_true rfl) k_w k_a (fun p e s m below meth c S zr zlk znm zsz G ls hl => ?_)
  have S : CallFix p m c cX5_goOn 2 s _ wsX5_goOn RX5 := S
  have zx := S.1
  have zb := S.2.1
  have hl : lv_has ls 2 [(0, .ref hn)] := hl
  refine lv_aload_n zx zb dX5_goOn_0 rfl (lv_at hl 0 rfl) ?_
  refine lv_dup zx zb dX5_goOn_1 rfl ?_
  refine r_get (C := RX5) (T := TX5) (N := 8) (ci := 3) (v := .int (dv 1)) S in_X5_goOn_X5 G 0 rfl rfl 1 (by decide) lk_X5_goOn_15 rfl dX5_goOn_2 ?_
  refine lv_iconst (v := 1) zx zb dX5_goOn_5 (by decide) ?_
  refine r_iadd (v := ((dv 1) + 1)) S rfl dX5_goOn_6 ?_
  refine r_put (C := RX5) (T := TX5) (N := 8) (ci := 3) (v := .int ((dv 1) + 1)) S in_X5_goOn_X5 tyX5_ok nmX5 G 0 rfl rfl 1 (by decide) lk_X5_goOn_15 rfl (vp_nar_int _) rfl (Nat.le_of_ble_eq_true rfl) dX5_goOn_7 (fun H locs G => ?_)
  have G : wd X (va_A (rcV X hn an sv dv n0 n1 n2 n3 n4 g0 gs gn gm) sz) (va_A (rcV X hn an sv dv n0 n1 n2 n3 n4 g0 gs gn gm) sz) s (rcV X hn an sv (upd dv 1 ((dv 1) + 1)) n0 n1 n2 n3 n4 g0 gs gn gm) H locs := G
  refine lv_iconst (v := 0) zx zb dX5_goOn_10 (by decide) ?_
  refine lv_istore_n (lv' := [(1, .int 0), (0, .ref hn)]) zx zb dX5_goOn_11 rfl hl (by decide) rfl (fun ls hl => ?_)
  refine k_loop (P := ∀ (zm : Nat) (n12_1 : Nat) (dv12_0 : Nat → Int32) (H : Heap) (locs : List Loc) (ls : Array Slot), ((6 - n12_1) < zm) → (n12_1 ≤ n0 ∧ dv12_0 = gK sv dv n12_1) → (n12_1 ≤ 6) → wd X (va_A (rcV X hn an sv dv n0 n1 n2 n3 n4 g0 gs gn gm) sz) (va_A (rcV X hn an sv dv n0 n1 n2 n3 n4 g0 gs gn gm) sz) s (rcV X hn an sv dv12_0 n0 n1 n2 n3 n4 g0 gs gn gm) H locs → lv_has ls 2 [(1, .int (nI n12_1)), (0, .ref hn)] → W p l e _ s m _ below meth c H locs _ _ _ (F0 m 12 ls [])) (fun loop => loop ((6 - 0) + 1) 0 (upd dv 1 ((dv 1) + 1)) _ _ _ (by omega) ⟨by omega, rfl⟩ (by omega) G hl) ?_
  intro zm
  induction zm with
  | zero => intro n12_1 dv12_0 H locs ls zz q_x0 q_hk_n12_1 _ _; exact absurd zz (by omega)
  | succ zm ih12 =>
    intro n12_1 dv12_0 H locs ls zm_12 hx12_0 hk_n12_1 G hl
    refine lv_iload_n zx zb dX5_goOn_12 rfl (lv_at hl 0 rfl) ?_
    refine lv_aload_n zx zb dX5_goOn_13 rfl (lv_at hl 1 rfl) ?_
    refine r_get (C := RX5) (T := TX5) (N := 8) (ci := 3) (v := .int (nI n0)) S in_X5_goOn_X5 G 0 rfl rfl 2 (by decide) lk_X5_goOn_18 rfl dX5_goOn_14 ?_
    refine lv_icmp_ge (tgt := 43) zx zb dX5_goOn_17 (by decide) (fun c_1 => ?_) (fun c_1 => ?_)
    · have fc_1 := j_le (a := n0) (b := n12_1) (by omega) (by omega) c_1
      exact e_void S zr zlk G (dv12_0) [0, 1, 2, 3, 4, 5, 6, 7, 8, 9, 10, 11, 12, 13, 14, 15] rfl rfl (Or.inr rfl) (by rw [hx12_0.2, gP, show n0 = n12_1 from by first | omega | (dsimp only; omega)]) dX5_goOn_43
    · have fc_1 := j_nle (a := n0) (b := n12_1) (by omega) (by omega) c_1
      refine lv_aload_n zx zb dX5_goOn_20 rfl (lv_at hl 1 rfl) ?_
      refine r_get (C := RX5) (T := TX5) (N := 8) (ci := 3) (v := .ref (an 0)) S in_X5_goOn_X5 G 0 rfl rfl 3 (by decide) lk_X5_goOn_23 rfl dX5_goOn_21 ?_
      refine lv_iload_n zx zb dX5_goOn_24 rfl (lv_at hl 0 rfl) ?_
      rcases k_6c (show n12_1 < 6 by omega) with rfl | rfl | rfl | rfl | rfl | rfl
      · refine k_it (v := 0) rfl ?_
        refine r_aald (C := RX8) (b := (an 1)) S G 1 3 rfl rfl (k_vp (by decide)) rfl dX5_goOn_25 ?_
        refine lv_aload_n zx zb dX5_goOn_26 rfl (lv_at hl 1 rfl) ?_
        refine r_get (C := RX5) (T := TX5) (N := 8) (ci := 3) (v := .int (dv12_0 1)) S in_X5_goOn_X5 G 0 rfl rfl 1 (by decide) lk_X5_goOn_15 rfl dX5_goOn_27 ?_
        refine lv_aload_n zx zb dX5_goOn_30 rfl (lv_at hl 1 rfl) ?_
        refine r_get (C := RX5) (T := TX5) (N := 8) (ci := 3) (v := .int (dv12_0 0)) S in_X5_goOn_X5 G 0 rfl rfl 0 (by decide) lk_X5_goOn_9 rfl dX5_goOn_31 ?_
        refine b_wv (cells' := 0) (slots' := 0) (wr := [(hn, .inr (3, [.int (dv12_0 0), .int (dv12_0 1), .int (nI n0), .ref (an 0), .ref (an 7), .ref (an 9), .ref (an 11), .ref (an 13)])), ((an 0), .inl (X.2.2.2.2, 6, .inr (.inr (.inr (.inr (rowQ an)))))), ((an 2), .inr (6, [.int (sv 3), .int (sv 4), .int (sv 5), .int (dv12_0 15), .int (dv12_0 16), .int (dv12_0 17), .int (dv12_0 18), .int (dv12_0 19)])), ((an 3), .inr (6, [.int (sv 6), .int (sv 7), .int (sv 8), .int (dv12_0 20), .int (dv12_0 21), .int (dv12_0 22), .int (dv12_0 23), .int (dv12_0 24)])), ((an 4), .inr (6, [.int (sv 9), .int (sv 10), .int (sv 11), .int (dv12_0 25), .int (dv12_0 26), .int (dv12_0 27), .int (dv12_0 28), .int (dv12_0 29)])), ((an 5), .inr (6, [.int (sv 12), .int (sv 13), .int (sv 14), .int (dv12_0 30), .int (dv12_0 31), .int (dv12_0 32), .int (dv12_0 33), .int (dv12_0 34)])), ((an 6), .inr (6, [.int (sv 15), .int (sv 16), .int (sv 17), .int (dv12_0 35), .int (dv12_0 36), .int (dv12_0 37), .int (dv12_0 38), .int (dv12_0 39)])), ((an 7), .inr (2, [.ref (an 8), .int (nI n1)])), ((an 8), .inl (X.2.1, 248, .inl g0)), ((an 9), .inr (5, [.int 5, .int 0, .int 1, .ref (an 10), .int (nI n2)])), ((an 10), .inl (X.2.1, 25, .inl gs)), ((an 11), .inr (5, [.int 6, .int 1, .int 1, .ref (an 12), .int (nI n3)])), ((an 12), .inl (X.2.1, 30, .inl gn)), ((an 13), .inr (5, [.int 6, .int 0, .int 0, .ref (an 14), .int (nI n4)])), ((an 14), .inl (X.2.1, 30, .inl gm))]) G rfl rfl [2] [0, 1, 3, 4, 5, 6, 7, 8, 9, 10, 11, 12, 13, 14, 15] rfl rfl rfl rfl (n_V (As := [.int (dv12_0 1), .int (dv12_0 0)]) (rest := []) (C := RX8) (T := TX8) (N := 8) (ci := 6) S G (x_step l X (an 1) (fun k => sv (0 + k)) (fun k => dv12_0 (10 + k)) (dv12_0 1) (dv12_0 0) H.size) gX5_goOn_X8_step rfl rfl rfl hdV_X8_step ⟨Nat.le_of_ble_eq_true rfl, Nat.le_of_ble_eq_true rfl⟩ [2] rfl rfl 2 rfl rfl rfl hl.1 (Nat.le_of_ble_eq_true rfl) dX5_goOn_34 ⟨Nat.le_of_ble_eq_true rfl, Nat.le_of_ble_eq_true rfl⟩) (fun u_2 H locs hp_2 G => ?_)
        obtain ⟨d_2, rfl⟩ : ∃ z, z = u_2 := ⟨_, rfl⟩
        have hq_2 := hp_2
        have G : wd X (va_A (rcV X hn an sv dv n0 n1 n2 n3 n4 g0 gs gn gm) sz) (va_A (rcV X hn an sv dv n0 n1 n2 n3 n4 g0 gs gn gm) sz) s (rcV X hn an sv (ovr dv12_0 10 5 d_2) n0 n1 n2 n3 n4 g0 gs gn gm) H locs := wd_sub G [0, 1, 15, 2, 3, 4, 5, 6, 7, 8, 9, 10, 11, 12, 13, 14] rfl rfl
        refine lv_iinc (v := 1) (lv' := [(1, .int 1), (0, .ref hn)]) zx zb dX5_goOn_37 hl (k := 0) rfl (by decide) (by decide) rfl (fun ls hl => ?_)
        refine lv_goto (tgt := 12) zx zb dX5_goOn_40 (by decide) ?_
        exact ih12 1 (ovr dv12_0 10 5 d_2) _ _ _ (by omega) ⟨by omega, by first | rfl | (rw [hq_2, hx12_0.2]; rfl)⟩ (by omega) G hl
      · refine k_it (v := 1) rfl ?_
        refine r_aald (C := RX8) (b := (an 2)) S G 1 3 rfl rfl (k_vp (by decide)) rfl dX5_goOn_25 ?_
        refine lv_aload_n zx zb dX5_goOn_26 rfl (lv_at hl 1 rfl) ?_
        refine r_get (C := RX5) (T := TX5) (N := 8) (ci := 3) (v := .int (dv12_0 1)) S in_X5_goOn_X5 G 0 rfl rfl 1 (by decide) lk_X5_goOn_15 rfl dX5_goOn_27 ?_
        refine lv_aload_n zx zb dX5_goOn_30 rfl (lv_at hl 1 rfl) ?_
        refine r_get (C := RX5) (T := TX5) (N := 8) (ci := 3) (v := .int (dv12_0 0)) S in_X5_goOn_X5 G 0 rfl rfl 0 (by decide) lk_X5_goOn_9 rfl dX5_goOn_31 ?_
        refine b_wv (cells' := 0) (slots' := 0) (wr := [(hn, .inr (3, [.int (dv12_0 0), .int (dv12_0 1), .int (nI n0), .ref (an 0), .ref (an 7), .ref (an 9), .ref (an 11), .ref (an 13)])), ((an 0), .inl (X.2.2.2.2, 6, .inr (.inr (.inr (.inr (rowQ an)))))), ((an 1), .inr (6, [.int (sv 0), .int (sv 1), .int (sv 2), .int (dv12_0 10), .int (dv12_0 11), .int (dv12_0 12), .int (dv12_0 13), .int (dv12_0 14)])), ((an 3), .inr (6, [.int (sv 6), .int (sv 7), .int (sv 8), .int (dv12_0 20), .int (dv12_0 21), .int (dv12_0 22), .int (dv12_0 23), .int (dv12_0 24)])), ((an 4), .inr (6, [.int (sv 9), .int (sv 10), .int (sv 11), .int (dv12_0 25), .int (dv12_0 26), .int (dv12_0 27), .int (dv12_0 28), .int (dv12_0 29)])), ((an 5), .inr (6, [.int (sv 12), .int (sv 13), .int (sv 14), .int (dv12_0 30), .int (dv12_0 31), .int (dv12_0 32), .int (dv12_0 33), .int (dv12_0 34)])), ((an 6), .inr (6, [.int (sv 15), .int (sv 16), .int (sv 17), .int (dv12_0 35), .int (dv12_0 36), .int (dv12_0 37), .int (dv12_0 38), .int (dv12_0 39)])), ((an 7), .inr (2, [.ref (an 8), .int (nI n1)])), ((an 8), .inl (X.2.1, 248, .inl g0)), ((an 9), .inr (5, [.int 5, .int 0, .int 1, .ref (an 10), .int (nI n2)])), ((an 10), .inl (X.2.1, 25, .inl gs)), ((an 11), .inr (5, [.int 6, .int 1, .int 1, .ref (an 12), .int (nI n3)])), ((an 12), .inl (X.2.1, 30, .inl gn)), ((an 13), .inr (5, [.int 6, .int 0, .int 0, .ref (an 14), .int (nI n4)])), ((an 14), .inl (X.2.1, 30, .inl gm))]) G rfl rfl [3] [0, 1, 2, 4, 5, 6, 7, 8, 9, 10, 11, 12, 13, 14, 15] rfl rfl rfl rfl (n_V (As := [.int (dv12_0 1), .int (dv12_0 0)]) (rest := []) (C := RX8) (T := TX8) (N := 8) (ci := 6) S G (x_step l X (an 2) (fun k => sv (3 + k)) (fun k => dv12_0 (15 + k)) (dv12_0 1) (dv12_0 0) H.size) gX5_goOn_X8_step rfl rfl rfl hdV_X8_step ⟨Nat.le_of_ble_eq_true rfl, Nat.le_of_ble_eq_true rfl⟩ [3] rfl rfl 3 rfl rfl rfl hl.1 (Nat.le_of_ble_eq_true rfl) dX5_goOn_34 ⟨Nat.le_of_ble_eq_true rfl, Nat.le_of_ble_eq_true rfl⟩) (fun u_3 H locs hp_3 G => ?_)
        obtain ⟨d_3, rfl⟩ : ∃ z, z = u_3 := ⟨_, rfl⟩
        have hq_3 := hp_3
        have G : wd X (va_A (rcV X hn an sv dv n0 n1 n2 n3 n4 g0 gs gn gm) sz) (va_A (rcV X hn an sv dv n0 n1 n2 n3 n4 g0 gs gn gm) sz) s (rcV X hn an sv (ovr dv12_0 15 5 d_3) n0 n1 n2 n3 n4 g0 gs gn gm) H locs := wd_sub G [0, 1, 2, 15, 3, 4, 5, 6, 7, 8, 9, 10, 11, 12, 13, 14] rfl rfl
        refine lv_iinc (v := 2) (lv' := [(1, .int 2), (0, .ref hn)]) zx zb dX5_goOn_37 hl (k := 0) rfl (by decide) (by decide) rfl (fun ls hl => ?_)
        refine lv_goto (tgt := 12) zx zb dX5_goOn_40 (by decide) ?_
        exact ih12 2 (ovr dv12_0 15 5 d_3) _ _ _ (by omega) ⟨by omega, by first | rfl | (rw [hq_3, hx12_0.2]; rfl)⟩ (by omega) G hl
      · refine k_it (v := 2) rfl ?_
        refine r_aald (C := RX8) (b := (an 3)) S G 1 3 rfl rfl (k_vp (by decide)) rfl dX5_goOn_25 ?_
        refine lv_aload_n zx zb dX5_goOn_26 rfl (lv_at hl 1 rfl) ?_
        refine r_get (C := RX5) (T := TX5) (N := 8) (ci := 3) (v := .int (dv12_0 1)) S in_X5_goOn_X5 G 0 rfl rfl 1 (by decide) lk_X5_goOn_15 rfl dX5_goOn_27 ?_
        refine lv_aload_n zx zb dX5_goOn_30 rfl (lv_at hl 1 rfl) ?_
        refine r_get (C := RX5) (T := TX5) (N := 8) (ci := 3) (v := .int (dv12_0 0)) S in_X5_goOn_X5 G 0 rfl rfl 0 (by decide) lk_X5_goOn_9 rfl dX5_goOn_31 ?_
        refine b_wv (cells' := 0) (slots' := 0) (wr := [(hn, .inr (3, [.int (dv12_0 0), .int (dv12_0 1), .int (nI n0), .ref (an 0), .ref (an 7), .ref (an 9), .ref (an 11), .ref (an 13)])), ((an 0), .inl (X.2.2.2.2, 6, .inr (.inr (.inr (.inr (rowQ an)))))), ((an 1), .inr (6, [.int (sv 0), .int (sv 1), .int (sv 2), .int (dv12_0 10), .int (dv12_0 11), .int (dv12_0 12), .int (dv12_0 13), .int (dv12_0 14)])), ((an 2), .inr (6, [.int (sv 3), .int (sv 4), .int (sv 5), .int (dv12_0 15), .int (dv12_0 16), .int (dv12_0 17), .int (dv12_0 18), .int (dv12_0 19)])), ((an 4), .inr (6, [.int (sv 9), .int (sv 10), .int (sv 11), .int (dv12_0 25), .int (dv12_0 26), .int (dv12_0 27), .int (dv12_0 28), .int (dv12_0 29)])), ((an 5), .inr (6, [.int (sv 12), .int (sv 13), .int (sv 14), .int (dv12_0 30), .int (dv12_0 31), .int (dv12_0 32), .int (dv12_0 33), .int (dv12_0 34)])), ((an 6), .inr (6, [.int (sv 15), .int (sv 16), .int (sv 17), .int (dv12_0 35), .int (dv12_0 36), .int (dv12_0 37), .int (dv12_0 38), .int (dv12_0 39)])), ((an 7), .inr (2, [.ref (an 8), .int (nI n1)])), ((an 8), .inl (X.2.1, 248, .inl g0)), ((an 9), .inr (5, [.int 5, .int 0, .int 1, .ref (an 10), .int (nI n2)])), ((an 10), .inl (X.2.1, 25, .inl gs)), ((an 11), .inr (5, [.int 6, .int 1, .int 1, .ref (an 12), .int (nI n3)])), ((an 12), .inl (X.2.1, 30, .inl gn)), ((an 13), .inr (5, [.int 6, .int 0, .int 0, .ref (an 14), .int (nI n4)])), ((an 14), .inl (X.2.1, 30, .inl gm))]) G rfl rfl [4] [0, 1, 2, 3, 5, 6, 7, 8, 9, 10, 11, 12, 13, 14, 15] rfl rfl rfl rfl (n_V (As := [.int (dv12_0 1), .int (dv12_0 0)]) (rest := []) (C := RX8) (T := TX8) (N := 8) (ci := 6) S G (x_step l X (an 3) (fun k => sv (6 + k)) (fun k => dv12_0 (20 + k)) (dv12_0 1) (dv12_0 0) H.size) gX5_goOn_X8_step rfl rfl rfl hdV_X8_step ⟨Nat.le_of_ble_eq_true rfl, Nat.le_of_ble_eq_true rfl⟩ [4] rfl rfl 4 rfl rfl rfl hl.1 (Nat.le_of_ble_eq_true rfl) dX5_goOn_34 ⟨Nat.le_of_ble_eq_true rfl, Nat.le_of_ble_eq_true rfl⟩) (fun u_4 H locs hp_4 G => ?_)
        obtain ⟨d_4, rfl⟩ : ∃ z, z = u_4 := ⟨_, rfl⟩
        have hq_4 := hp_4
        have G : wd X (va_A (rcV X hn an sv dv n0 n1 n2 n3 n4 g0 gs gn gm) sz) (va_A (rcV X hn an sv dv n0 n1 n2 n3 n4 g0 gs gn gm) sz) s (rcV X hn an sv (ovr dv12_0 20 5 d_4) n0 n1 n2 n3 n4 g0 gs gn gm) H locs := wd_sub G [0, 1, 2, 3, 15, 4, 5, 6, 7, 8, 9, 10, 11, 12, 13, 14] rfl rfl
        refine lv_iinc (v := 3) (lv' := [(1, .int 3), (0, .ref hn)]) zx zb dX5_goOn_37 hl (k := 0) rfl (by decide) (by decide) rfl (fun ls hl => ?_)
        refine lv_goto (tgt := 12) zx zb dX5_goOn_40 (by decide) ?_
        exact ih12 3 (ovr dv12_0 20 5 d_4) _ _ _ (by omega) ⟨by omega, by first | rfl | (rw [hq_4, hx12_0.2]; rfl)⟩ (by omega) G hl
      · refine k_it (v := 3) rfl ?_
        refine r_aald (C := RX8) (b := (an 4)) S G 1 3 rfl rfl (k_vp (by decide)) rfl dX5_goOn_25 ?_
        refine lv_aload_n zx zb dX5_goOn_26 rfl (lv_at hl 1 rfl) ?_
        refine r_get (C := RX5) (T := TX5) (N := 8) (ci := 3) (v := .int (dv12_0 1)) S in_X5_goOn_X5 G 0 rfl rfl 1 (by decide) lk_X5_goOn_15 rfl dX5_goOn_27 ?_
        refine lv_aload_n zx zb dX5_goOn_30 rfl (lv_at hl 1 rfl) ?_
        refine r_get (C := RX5) (T := TX5) (N := 8) (ci := 3) (v := .int (dv12_0 0)) S in_X5_goOn_X5 G 0 rfl rfl 0 (by decide) lk_X5_goOn_9 rfl dX5_goOn_31 ?_
        refine b_wv (cells' := 0) (slots' := 0) (wr := [(hn, .inr (3, [.int (dv12_0 0), .int (dv12_0 1), .int (nI n0), .ref (an 0), .ref (an 7), .ref (an 9), .ref (an 11), .ref (an 13)])), ((an 0), .inl (X.2.2.2.2, 6, .inr (.inr (.inr (.inr (rowQ an)))))), ((an 1), .inr (6, [.int (sv 0), .int (sv 1), .int (sv 2), .int (dv12_0 10), .int (dv12_0 11), .int (dv12_0 12), .int (dv12_0 13), .int (dv12_0 14)])), ((an 2), .inr (6, [.int (sv 3), .int (sv 4), .int (sv 5), .int (dv12_0 15), .int (dv12_0 16), .int (dv12_0 17), .int (dv12_0 18), .int (dv12_0 19)])), ((an 3), .inr (6, [.int (sv 6), .int (sv 7), .int (sv 8), .int (dv12_0 20), .int (dv12_0 21), .int (dv12_0 22), .int (dv12_0 23), .int (dv12_0 24)])), ((an 5), .inr (6, [.int (sv 12), .int (sv 13), .int (sv 14), .int (dv12_0 30), .int (dv12_0 31), .int (dv12_0 32), .int (dv12_0 33), .int (dv12_0 34)])), ((an 6), .inr (6, [.int (sv 15), .int (sv 16), .int (sv 17), .int (dv12_0 35), .int (dv12_0 36), .int (dv12_0 37), .int (dv12_0 38), .int (dv12_0 39)])), ((an 7), .inr (2, [.ref (an 8), .int (nI n1)])), ((an 8), .inl (X.2.1, 248, .inl g0)), ((an 9), .inr (5, [.int 5, .int 0, .int 1, .ref (an 10), .int (nI n2)])), ((an 10), .inl (X.2.1, 25, .inl gs)), ((an 11), .inr (5, [.int 6, .int 1, .int 1, .ref (an 12), .int (nI n3)])), ((an 12), .inl (X.2.1, 30, .inl gn)), ((an 13), .inr (5, [.int 6, .int 0, .int 0, .ref (an 14), .int (nI n4)])), ((an 14), .inl (X.2.1, 30, .inl gm))]) G rfl rfl [5] [0, 1, 2, 3, 4, 6, 7, 8, 9, 10, 11, 12, 13, 14, 15] rfl rfl rfl rfl (n_V (As := [.int (dv12_0 1), .int (dv12_0 0)]) (rest := []) (C := RX8) (T := TX8) (N := 8) (ci := 6) S G (x_step l X (an 4) (fun k => sv (9 + k)) (fun k => dv12_0 (25 + k)) (dv12_0 1) (dv12_0 0) H.size) gX5_goOn_X8_step rfl rfl rfl hdV_X8_step ⟨Nat.le_of_ble_eq_true rfl, Nat.le_of_ble_eq_true rfl⟩ [5] rfl rfl 5 rfl rfl rfl hl.1 (Nat.le_of_ble_eq_true rfl) dX5_goOn_34 ⟨Nat.le_of_ble_eq_true rfl, Nat.le_of_ble_eq_true rfl⟩) (fun u_5 H locs hp_5 G => ?_)
        obtain ⟨d_5, rfl⟩ : ∃ z, z = u_5 := ⟨_, rfl⟩
        have hq_5 := hp_5
        have G : wd X (va_A (rcV X hn an sv dv n0 n1 n2 n3 n4 g0 gs gn gm) sz) (va_A (rcV X hn an sv dv n0 n1 n2 n3 n4 g0 gs gn gm) sz) s (rcV X hn an sv (ovr dv12_0 25 5 d_5) n0 n1 n2 n3 n4 g0 gs gn gm) H locs := wd_sub G [0, 1, 2, 3, 4, 15, 5, 6, 7, 8, 9, 10, 11, 12, 13, 14] rfl rfl
        refine lv_iinc (v := 4) (lv' := [(1, .int 4), (0, .ref hn)]) zx zb dX5_goOn_37 hl (k := 0) rfl (by decide) (by decide) rfl (fun ls hl => ?_)
        refine lv_goto (tgt := 12) zx zb dX5_goOn_40 (by decide) ?_
        exact ih12 4 (ovr dv12_0 25 5 d_5) _ _ _ (by omega) ⟨by omega, by first | rfl | (rw [hq_5, hx12_0.2]; rfl)⟩ (by omega) G hl
      · refine k_it (v := 4) rfl ?_
        refine r_aald (C := RX8) (b := (an 5)) S G 1 3 rfl rfl (k_vp (by decide)) rfl dX5_goOn_25 ?_
        refine lv_aload_n zx zb dX5_goOn_26 rfl (lv_at hl 1 rfl) ?_
        refine r_get (C := RX5) (T := TX5) (N := 8) (ci := 3) (v := .int (dv12_0 1)) S in_X5_goOn_X5 G 0 rfl rfl 1 (by decide) lk_X5_goOn_15 rfl dX5_goOn_27 ?_
        refine lv_aload_n zx zb dX5_goOn_30 rfl (lv_at hl 1 rfl) ?_
        refine r_get (C := RX5) (T := TX5) (N := 8) (ci := 3) (v := .int (dv12_0 0)) S in_X5_goOn_X5 G 0 rfl rfl 0 (by decide) lk_X5_goOn_9 rfl dX5_goOn_31 ?_
        refine b_wv (cells' := 0) (slots' := 0) (wr := [(hn, .inr (3, [.int (dv12_0 0), .int (dv12_0 1), .int (nI n0), .ref (an 0), .ref (an 7), .ref (an 9), .ref (an 11), .ref (an 13)])), ((an 0), .inl (X.2.2.2.2, 6, .inr (.inr (.inr (.inr (rowQ an)))))), ((an 1), .inr (6, [.int (sv 0), .int (sv 1), .int (sv 2), .int (dv12_0 10), .int (dv12_0 11), .int (dv12_0 12), .int (dv12_0 13), .int (dv12_0 14)])), ((an 2), .inr (6, [.int (sv 3), .int (sv 4), .int (sv 5), .int (dv12_0 15), .int (dv12_0 16), .int (dv12_0 17), .int (dv12_0 18), .int (dv12_0 19)])), ((an 3), .inr (6, [.int (sv 6), .int (sv 7), .int (sv 8), .int (dv12_0 20), .int (dv12_0 21), .int (dv12_0 22), .int (dv12_0 23), .int (dv12_0 24)])), ((an 4), .inr (6, [.int (sv 9), .int (sv 10), .int (sv 11), .int (dv12_0 25), .int (dv12_0 26), .int (dv12_0 27), .int (dv12_0 28), .int (dv12_0 29)])), ((an 6), .inr (6, [.int (sv 15), .int (sv 16), .int (sv 17), .int (dv12_0 35), .int (dv12_0 36), .int (dv12_0 37), .int (dv12_0 38), .int (dv12_0 39)])), ((an 7), .inr (2, [.ref (an 8), .int (nI n1)])), ((an 8), .inl (X.2.1, 248, .inl g0)), ((an 9), .inr (5, [.int 5, .int 0, .int 1, .ref (an 10), .int (nI n2)])), ((an 10), .inl (X.2.1, 25, .inl gs)), ((an 11), .inr (5, [.int 6, .int 1, .int 1, .ref (an 12), .int (nI n3)])), ((an 12), .inl (X.2.1, 30, .inl gn)), ((an 13), .inr (5, [.int 6, .int 0, .int 0, .ref (an 14), .int (nI n4)])), ((an 14), .inl (X.2.1, 30, .inl gm))]) G rfl rfl [6] [0, 1, 2, 3, 4, 5, 7, 8, 9, 10, 11, 12, 13, 14, 15] rfl rfl rfl rfl (n_V (As := [.int (dv12_0 1), .int (dv12_0 0)]) (rest := []) (C := RX8) (T := TX8) (N := 8) (ci := 6) S G (x_step l X (an 5) (fun k => sv (12 + k)) (fun k => dv12_0 (30 + k)) (dv12_0 1) (dv12_0 0) H.size) gX5_goOn_X8_step rfl rfl rfl hdV_X8_step ⟨Nat.le_of_ble_eq_true rfl, Nat.le_of_ble_eq_true rfl⟩ [6] rfl rfl 6 rfl rfl rfl hl.1 (Nat.le_of_ble_eq_true rfl) dX5_goOn_34 ⟨Nat.le_of_ble_eq_true rfl, Nat.le_of_ble_eq_true rfl⟩) (fun u_6 H locs hp_6 G => ?_)
        obtain ⟨d_6, rfl⟩ : ∃ z, z = u_6 := ⟨_, rfl⟩
        have hq_6 := hp_6
        have G : wd X (va_A (rcV X hn an sv dv n0 n1 n2 n3 n4 g0 gs gn gm) sz) (va_A (rcV X hn an sv dv n0 n1 n2 n3 n4 g0 gs gn gm) sz) s (rcV X hn an sv (ovr dv12_0 30 5 d_6) n0 n1 n2 n3 n4 g0 gs gn gm) H locs := wd_sub G [0, 1, 2, 3, 4, 5, 15, 6, 7, 8, 9, 10, 11, 12, 13, 14] rfl rfl
        refine lv_iinc (v := 5) (lv' := [(1, .int 5), (0, .ref hn)]) zx zb dX5_goOn_37 hl (k := 0) rfl (by decide) (by decide) rfl (fun ls hl => ?_)
        refine lv_goto (tgt := 12) zx zb dX5_goOn_40 (by decide) ?_
        exact ih12 5 (ovr dv12_0 30 5 d_6) _ _ _ (by omega) ⟨by omega, by first | rfl | (rw [hq_6, hx12_0.2]; rfl)⟩ (by omega) G hl
      · refine k_it (v := 5) rfl ?_
        refine r_aald (C := RX8) (b := (an 6)) S G 1 3 rfl rfl (k_vp (by decide)) rfl dX5_goOn_25 ?_
        refine lv_aload_n zx zb dX5_goOn_26 rfl (lv_at hl 1 rfl) ?_
        refine r_get (C := RX5) (T := TX5) (N := 8) (ci := 3) (v := .int (dv12_0 1)) S in_X5_goOn_X5 G 0 rfl rfl 1 (by decide) lk_X5_goOn_15 rfl dX5_goOn_27 ?_
        refine lv_aload_n zx zb dX5_goOn_30 rfl (lv_at hl 1 rfl) ?_
        refine r_get (C := RX5) (T := TX5) (N := 8) (ci := 3) (v := .int (dv12_0 0)) S in_X5_goOn_X5 G 0 rfl rfl 0 (by decide) lk_X5_goOn_9 rfl dX5_goOn_31 ?_
        refine b_wv (cells' := 0) (slots' := 0) (wr := [(hn, .inr (3, [.int (dv12_0 0), .int (dv12_0 1), .int (nI n0), .ref (an 0), .ref (an 7), .ref (an 9), .ref (an 11), .ref (an 13)])), ((an 0), .inl (X.2.2.2.2, 6, .inr (.inr (.inr (.inr (rowQ an)))))), ((an 1), .inr (6, [.int (sv 0), .int (sv 1), .int (sv 2), .int (dv12_0 10), .int (dv12_0 11), .int (dv12_0 12), .int (dv12_0 13), .int (dv12_0 14)])), ((an 2), .inr (6, [.int (sv 3), .int (sv 4), .int (sv 5), .int (dv12_0 15), .int (dv12_0 16), .int (dv12_0 17), .int (dv12_0 18), .int (dv12_0 19)])), ((an 3), .inr (6, [.int (sv 6), .int (sv 7), .int (sv 8), .int (dv12_0 20), .int (dv12_0 21), .int (dv12_0 22), .int (dv12_0 23), .int (dv12_0 24)])), ((an 4), .inr (6, [.int (sv 9), .int (sv 10), .int (sv 11), .int (dv12_0 25), .int (dv12_0 26), .int (dv12_0 27), .int (dv12_0 28), .int (dv12_0 29)])), ((an 5), .inr (6, [.int (sv 12), .int (sv 13), .int (sv 14), .int (dv12_0 30), .int (dv12_0 31), .int (dv12_0 32), .int (dv12_0 33), .int (dv12_0 34)])), ((an 7), .inr (2, [.ref (an 8), .int (nI n1)])), ((an 8), .inl (X.2.1, 248, .inl g0)), ((an 9), .inr (5, [.int 5, .int 0, .int 1, .ref (an 10), .int (nI n2)])), ((an 10), .inl (X.2.1, 25, .inl gs)), ((an 11), .inr (5, [.int 6, .int 1, .int 1, .ref (an 12), .int (nI n3)])), ((an 12), .inl (X.2.1, 30, .inl gn)), ((an 13), .inr (5, [.int 6, .int 0, .int 0, .ref (an 14), .int (nI n4)])), ((an 14), .inl (X.2.1, 30, .inl gm))]) G rfl rfl [7] [0, 1, 2, 3, 4, 5, 6, 8, 9, 10, 11, 12, 13, 14, 15] rfl rfl rfl rfl (n_V (As := [.int (dv12_0 1), .int (dv12_0 0)]) (rest := []) (C := RX8) (T := TX8) (N := 8) (ci := 6) S G (x_step l X (an 6) (fun k => sv (15 + k)) (fun k => dv12_0 (35 + k)) (dv12_0 1) (dv12_0 0) H.size) gX5_goOn_X8_step rfl rfl rfl hdV_X8_step ⟨Nat.le_of_ble_eq_true rfl, Nat.le_of_ble_eq_true rfl⟩ [7] rfl rfl 7 rfl rfl rfl hl.1 (Nat.le_of_ble_eq_true rfl) dX5_goOn_34 ⟨Nat.le_of_ble_eq_true rfl, Nat.le_of_ble_eq_true rfl⟩) (fun u_7 H locs hp_7 G => ?_)
        obtain ⟨d_7, rfl⟩ : ∃ z, z = u_7 := ⟨_, rfl⟩
        have hq_7 := hp_7
        have G : wd X (va_A (rcV X hn an sv dv n0 n1 n2 n3 n4 g0 gs gn gm) sz) (va_A (rcV X hn an sv dv n0 n1 n2 n3 n4 g0 gs gn gm) sz) s (rcV X hn an sv (ovr dv12_0 35 5 d_7) n0 n1 n2 n3 n4 g0 gs gn gm) H locs := wd_sub G [0, 1, 2, 3, 4, 5, 6, 15, 7, 8, 9, 10, 11, 12, 13, 14] rfl rfl
        refine lv_iinc (v := 6) (lv' := [(1, .int 6), (0, .ref hn)]) zx zb dX5_goOn_37 hl (k := 0) rfl (by decide) (by decide) rfl (fun ls hl => ?_)
        refine lv_goto (tgt := 12) zx zb dX5_goOn_40 (by decide) ?_
        exact ih12 6 (ovr dv12_0 35 5 d_7) _ _ _ (by omega) ⟨by omega, by first | rfl | (rw [hq_7, hx12_0.2]; rfl)⟩ (by omega) G hl
set_option maxHeartbeats 4000000 in
set_option maxRecDepth 100000 in
theorem x_isLetter (l : Launch) (X : EX) (x : Int32) (sz : Nat) : Met l yX6_isLetter wsX6_isLetter ({ frames := 0, cells := 0, slots := 0, locals := 0 } : Room) (pE X [.int x] ([]) sz) (qI (fun (r : Int32) (u : Unit) => (r = 1 ∧ lqL x = true) ∨ (r = 0 ∧ ¬ lqL x = true)) X (fun (u : Unit) => []) [] sz) 0 0 (va_A [] sz) := by
  refine mk_met (B := (fun _ => True)) (A := (va_A [] sz)) (cc := cX6_isLetter) (maxL := 1) (ret := (some .boolean)) (by decide) rfl (Nat.le_of_ble_eq_true rfl) k_ro k_a (fun p e s m below meth c S zr zlk znm zsz G ls hl => ?_)
  have S : CallFix p m c cX6_isLetter 1 s _ wsX6_isLetter RX6 := S
  have zx := S.1
  have zb := S.2.1
  have hl : lv_has ls 1 [(0, .int x)] := hl
  refine lv_iload_n zx zb dX6_isLetter_0 rfl (lv_at hl 0 rfl) ?_
  refine lv_bipush (v := 97) zx zb dX6_isLetter_1 (by decide) ?_
  refine lv_icmp_lt (tgt := 16) zx zb dX6_isLetter_3 (by decide) (fun c_1 => ?_) (fun c_1 => ?_)
  · refine lv_iconst (v := 0) zx zb dX6_isLetter_16 (by decide) ?_
    exact e_int S zr zlk (by decide) G () [] rfl rfl (Or.inl rfl) (Or.inr ⟨rfl, fun h => absurd c_1 (Int32.not_lt.mpr (lqL_t.mp h).1)⟩) dX6_isLetter_17
  · refine lv_iload_n zx zb dX6_isLetter_6 rfl (lv_at hl 0 rfl) ?_
    refine lv_bipush (v := 122) zx zb dX6_isLetter_7 (by decide) ?_
    refine lv_icmp_gt (tgt := 16) zx zb dX6_isLetter_9 (by decide) (fun c_2 => ?_) (fun c_2 => ?_)
    · refine lv_iconst (v := 0) zx zb dX6_isLetter_16 (by decide) ?_
      exact e_int S zr zlk (by decide) G () [] rfl rfl (Or.inl rfl) (Or.inr ⟨rfl, fun h => absurd c_2 (Int32.not_lt.mpr (lqL_t.mp h).2)⟩) dX6_isLetter_17
    · refine lv_iconst (v := 1) zx zb dX6_isLetter_12 (by decide) ?_
      refine lv_goto (tgt := 17) zx zb dX6_isLetter_13 (by decide) ?_
      exact e_int S zr zlk (by decide) G () [] rfl rfl (Or.inl rfl) (Or.inl ⟨rfl, lqL_t.mpr ⟨Int32.not_lt.mp c_1, Int32.not_lt.mp c_2⟩⟩) dX6_isLetter_17
set_option maxHeartbeats 4000000 in
set_option maxRecDepth 100000 in
theorem x_isFigure (l : Launch) (X : EX) (x : Int32) (sz : Nat) : Met l yX6_isFigure wsX6_isFigure ({ frames := 0, cells := 0, slots := 0, locals := 0 } : Room) (pE X [.int x] ([]) sz) (qI (fun (r : Int32) (u : Unit) => (r = 1 ∧ lqF x = true) ∨ (r = 0 ∧ ¬ lqF x = true)) X (fun (u : Unit) => []) [] sz) 0 0 (va_A [] sz) := by
  refine mk_met (B := (fun _ => True)) (A := (va_A [] sz)) (cc := cX6_isFigure) (maxL := 1) (ret := (some .boolean)) (by decide) rfl (Nat.le_of_ble_eq_true rfl) k_ro k_a (fun p e s m below meth c S zr zlk znm zsz G ls hl => ?_)
  have S : CallFix p m c cX6_isFigure 1 s _ wsX6_isFigure RX6 := S
  have zx := S.1
  have zb := S.2.1
  have hl : lv_has ls 1 [(0, .int x)] := hl
  refine lv_iload_n zx zb dX6_isFigure_0 rfl (lv_at hl 0 rfl) ?_
  refine lv_bipush (v := 48) zx zb dX6_isFigure_1 (by decide) ?_
  refine lv_icmp_lt (tgt := 16) zx zb dX6_isFigure_3 (by decide) (fun c_1 => ?_) (fun c_1 => ?_)
  · refine lv_iconst (v := 0) zx zb dX6_isFigure_16 (by decide) ?_
    exact e_int S zr zlk (by decide) G () [] rfl rfl (Or.inl rfl) (Or.inr ⟨rfl, fun h => absurd c_1 (Int32.not_lt.mpr (lqF_t.mp h).1)⟩) dX6_isFigure_17
  · refine lv_iload_n zx zb dX6_isFigure_6 rfl (lv_at hl 0 rfl) ?_
    refine lv_bipush (v := 57) zx zb dX6_isFigure_7 (by decide) ?_
    refine lv_icmp_gt (tgt := 16) zx zb dX6_isFigure_9 (by decide) (fun c_2 => ?_) (fun c_2 => ?_)
    · refine lv_iconst (v := 0) zx zb dX6_isFigure_16 (by decide) ?_
      exact e_int S zr zlk (by decide) G () [] rfl rfl (Or.inl rfl) (Or.inr ⟨rfl, fun h => absurd c_2 (Int32.not_lt.mpr (lqF_t.mp h).2)⟩) dX6_isFigure_17
    · refine lv_iconst (v := 1) zx zb dX6_isFigure_12 (by decide) ?_
      refine lv_goto (tgt := 17) zx zb dX6_isFigure_13 (by decide) ?_
      exact e_int S zr zlk (by decide) G () [] rfl rfl (Or.inl rfl) (Or.inl ⟨rfl, lqF_t.mpr ⟨Int32.not_lt.mp c_1, Int32.not_lt.mp c_2⟩⟩) dX6_isFigure_17
set_option maxHeartbeats 4000000 in
set_option maxRecDepth 100000 in
theorem x_skipBlanks (l : Launch) (X : EX) (h0 : Nat) (hb : Nat) (n : Nat) (bd : Nat → Nat) (vd : Nat → Int32) (fd : Nat → Int32) (hI_n : n ≤ 150) (hI_bd : InP bd) (hP : bd 0 ≤ n) (sz : Nat) : Met l yX6_skipBlanks wsX6_skipBlanks ({ frames := 0, cells := 0, slots := 0, locals := 0 } : Room) (pE X [.ref h0] (rdV X h0 hb n bd vd fd) sz) (qV (fun (u : (Nat → Nat)) => InP u ∧ (u 0 = scanP qB fd n (bd 0) ∧ u 1 = bd 1)) X (fun (u : (Nat → Nat)) => rdV X h0 hb n u vd fd) (rdV X h0 hb n bd vd fd) sz) 0 0 (va_A (rdV X h0 hb n bd vd fd) sz) := by
  refine mk_met (B := (va_A (rdV X h0 hb n bd vd fd) sz)) (A := (va_A (rdV X h0 hb n bd vd fd) sz)) (cc := cX6_skipBlanks) (maxL := 1) (ret := none) (by decide) rfl (Nat.le_of_ble_eq_true rfl) k_w k_a (fun p e s m below meth c S zr zlk znm zsz G ls hl => ?_)
  have S : CallFix p m c cX6_skipBlanks 1 s _ wsX6_skipBlanks RX6 := S
  have zx := S.1
  have zb := S.2.1
  have hl : lv_has ls 1 [(0, .ref h0)] := hl
  have hO_bd := hI_bd
  obtain ⟨hd0_bd, hd1_bd⟩ := hO_bd
  refine k_loop (P := ∀ (zm : Nat) (b0_0 : Nat → Nat) (H : Heap) (locs : List Loc) (ls : Array Slot), ((150 - b0_0 0) < zm) → ((bd 0 ≤ b0_0 0 ∧ b0_0 0 ≤ n ∧ b0_0 1 = bd 1) ∧ scanP qB fd n (b0_0 0) = scanP qB fd n (bd 0)) → InP b0_0 → wd X (va_A (rdV X h0 hb n bd vd fd) sz) (va_A (rdV X h0 hb n bd vd fd) sz) s (rdV X h0 hb n b0_0 vd fd) H locs → lv_has ls 1 [(0, .ref h0)] → W p l e _ s m _ below meth c H locs _ _ _ (F0 m 0 ls [])) (fun loop => loop ((150 - bd 0) + 1) bd _ _ _ (by omega) ⟨by omega, rfl⟩ hI_bd G hl) ?_
  intro zm
  induction zm with
  | zero => intro b0_0 H locs ls zz q_x0 q_hI_b0_0 _ _; exact absurd zz (by omega)
  | succ zm ih0 =>
    intro b0_0 H locs ls zm_0 hx0_0 hI_b0_0 G hl
    have hO_b0_0 := hI_b0_0
    obtain ⟨hd0_b0_0, hd1_b0_0⟩ := hO_b0_0
    refine lv_aload_n zx zb dX6_skipBlanks_0 rfl (lv_at hl 0 rfl) ?_
    refine r_get (C := RX6) (T := TX6) (N := 7) (ci := 4) (v := .int (nI (b0_0 0))) S in_X6_skipBlanks_X6 G 0 rfl rfl 2 (by decide) lk_X6_skipBlanks_19 rfl dX6_skipBlanks_1 ?_
    refine lv_aload_n zx zb dX6_skipBlanks_4 rfl (lv_at hl 0 rfl) ?_
    refine r_get (C := RX6) (T := TX6) (N := 7) (ci := 4) (v := .int (nI n)) S in_X6_skipBlanks_X6 G 0 rfl rfl 1 (by decide) lk_X6_skipBlanks_15 rfl dX6_skipBlanks_5 ?_
    refine lv_icmp_ge (tgt := 38) zx zb dX6_skipBlanks_8 (by decide) (fun c_1 => ?_) (fun c_1 => ?_)
    · have fc_1 := j_le (a := n) (b := (b0_0 0)) (by omega) (by omega) c_1
      exact e_void S zr zlk G (b0_0) [0, 1] rfl rfl (Or.inr rfl) (⟨hI_b0_0, ⟨by rw [← hx0_0.2]; exact (scan_e (fun h => absurd h.1 (by first | omega | (dsimp only; omega)))).symm, by first | omega | (dsimp only; omega)⟩⟩) dX6_skipBlanks_38
    · have fc_1 := j_nle (a := n) (b := (b0_0 0)) (by omega) (by omega) c_1
      refine lv_aload_n zx zb dX6_skipBlanks_11 rfl (lv_at hl 0 rfl) ?_
      refine r_get (C := RX6) (T := TX6) (N := 7) (ci := 4) (v := .ref hb) S in_X6_skipBlanks_X6 G 0 rfl rfl 0 (by decide) lk_X6_skipBlanks_11 rfl dX6_skipBlanks_12 ?_
      refine lv_aload_n zx zb dX6_skipBlanks_15 rfl (lv_at hl 0 rfl) ?_
      refine r_get (C := RX6) (T := TX6) (N := 7) (ci := 4) (v := .int (nI (b0_0 0))) S in_X6_skipBlanks_X6 G 0 rfl rfl 2 (by decide) lk_X6_skipBlanks_19 rfl dX6_skipBlanks_16 ?_
      refine r_iald (v := (fd (b0_0 0))) S G 1 rfl (vp_in_nI (by omega) (by decide)) (congrArg fd (nI_clamp (by omega))) dX6_skipBlanks_19 ?_
      refine lv_bipush (v := 32) zx zb dX6_skipBlanks_20 (by decide) ?_
      refine lv_icmp_ne (tgt := 38) zx zb dX6_skipBlanks_22 (by decide) (fun c_3 => ?_) (fun c_3 => ?_)
      · exact e_void S zr zlk G (b0_0) [0, 1] rfl rfl (Or.inr rfl) (⟨hI_b0_0, ⟨by rw [← hx0_0.2]; exact (scan_e (fun h => c_3 (qB_t.mp h.2))).symm, by first | omega | (dsimp only; omega)⟩⟩) dX6_skipBlanks_38
      · refine lv_aload_n zx zb dX6_skipBlanks_25 rfl (lv_at hl 0 rfl) ?_
        refine lv_dup zx zb dX6_skipBlanks_26 rfl ?_
        refine r_get (C := RX6) (T := TX6) (N := 7) (ci := 4) (v := .int (nI (b0_0 0))) S in_X6_skipBlanks_X6 G 0 rfl rfl 2 (by decide) lk_X6_skipBlanks_19 rfl dX6_skipBlanks_27 ?_
        refine lv_iconst (v := 1) zx zb dX6_skipBlanks_30 (by decide) ?_
        refine r_iadd (v := (nI ((b0_0 0) + 1))) S (nI_add (b0_0 0) 1) dX6_skipBlanks_31 ?_
        refine r_put (C := RX6) (T := TX6) (N := 7) (ci := 4) (v := .int (nI ((b0_0 0) + 1))) S in_X6_skipBlanks_X6 tyX6_ok nmX6 G 0 rfl rfl 2 (by decide) lk_X6_skipBlanks_19 rfl (vp_nar_int _) rfl (Nat.le_of_ble_eq_true rfl) dX6_skipBlanks_32 (fun H locs G => ?_)
        obtain ⟨b_4, hI_b_4, ⟨hE_b_4_0, hE_b_4_1⟩, G⟩ : ∃ b_4 : Nat → Nat, InP b_4 ∧ (b_4 0 = ((b0_0 0) + 1) ∧ b_4 1 = b0_0 1) ∧ wd X (va_A (rdV X h0 hb n bd vd fd) sz) (va_A (rdV X h0 hb n bd vd fd) sz) s (rdV X h0 hb n b_4 vd fd) H locs := ⟨upN b0_0 0 ((b0_0 0) + 1), ⟨(by show ((b0_0 0) + 1) ≤ 150; omega), hd1_b0_0⟩, ⟨rfl, rfl⟩, G⟩
        have hO_b_4 := hI_b_4
        obtain ⟨hd0_b_4, hd1_b_4⟩ := hO_b_4
        refine lv_goto (tgt := 0) zx zb dX6_skipBlanks_35 (by decide) ?_
        exact ih0 b_4 _ _ _ (by omega) ⟨by omega, by rw [hE_b_4_0, ← hx0_0.2]; exact (scan_s (by omega) (qB_t.mpr c_3)).symm⟩ hI_b_4 G hl
