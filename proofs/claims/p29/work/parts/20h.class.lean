set_option maxRecDepth 20000 in
theorem ggX10_stumble_X10_refuse : GoodIn wsX10_stumble wsX10_refuse := goodIn_r _ [22, 23, 60, 61, 62, 63, 64, 65, 66, 67, 68, 69, 70, 71, 72, 73] rfl (by decide +kernel)
set_option maxRecDepth 20000 in
theorem gX10_stumble_X10_refuse : GoodIn wsX10_stumble (wsV RX10 83 RX10 yX10_refuse wsX10_refuse) := goodIn_app (goodIn_of _ (by decide +kernel)) ggX10_stumble_X10_refuse
set_option maxRecDepth 20000 in
theorem ggX10_stumble_X10_there : GoodIn wsX10_stumble wsX10_there := goodIn_r _ [14, 1, 15, 60, 61, 62, 63, 64, 65, 66, 67, 68, 69, 70, 71, 72, 73, 74, 75, 76, 77, 78, 79, 80, 81] rfl (by decide +kernel)
set_option maxRecDepth 20000 in
theorem gX10_stumble_X10_there : GoodIn wsX10_stumble (wsV RX10 123 RX10 yX10_there wsX10_there) := goodIn_app (goodIn_of _ (by decide +kernel)) ggX10_stumble_X10_there
set_option maxRecDepth 20000 in
theorem ggX10_stumble_X10_within : GoodIn wsX10_stumble wsX10_within := goodIn_r _ [18] rfl (by decide +kernel)
set_option maxRecDepth 20000 in
theorem gX10_stumble_X10_within : GoodIn wsX10_stumble (va_wsS RX10 79 yX10_within wsX10_within) := goodIn_app (goodIn_of _ (by decide +kernel)) ggX10_stumble_X10_within
set_option maxRecDepth 20000 in
theorem ggX10_stumble_X3_commonPart : GoodIn wsX10_stumble wsX3_commonPart := goodIn_r _ [59] rfl (by decide +kernel)
set_option maxRecDepth 20000 in
theorem gX10_stumble_X3_commonPart : GoodIn wsX10_stumble (va_wsS RX10 251 yX3_commonPart wsX3_commonPart) := goodIn_app (goodIn_of _ (by decide +kernel)) ggX10_stumble_X3_commonPart
set_option maxRecDepth 20000 in
theorem ggX10_stumble_X3_pose : GoodIn wsX10_stumble wsX3_pose := goodIn_r _ [28, 29, 30, 31, 32, 33, 34, 35, 36, 37, 38, 39, 40, 82, 83, 84, 85, 86, 87, 88, 89, 90, 91, 92, 93, 94, 95, 96, 97] rfl (by decide +kernel)
set_option maxRecDepth 20000 in
theorem gX10_stumble_X3_pose : GoodIn wsX10_stumble (wsV RX10 236 RX3 yX3_pose wsX3_pose) := goodIn_app (goodIn_of _ (by decide +kernel)) ggX10_stumble_X3_pose
set_option maxRecDepth 20000 in
theorem ggX10_stumble_X3_tenTo : GoodIn wsX10_stumble wsX3_tenTo := goodIn_r _ [46, 43] rfl (by decide +kernel)
set_option maxRecDepth 20000 in
theorem gX10_stumble_X3_tenTo : GoodIn wsX10_stumble (va_wsS RX10 247 yX3_tenTo wsX3_tenTo) := goodIn_app (goodIn_of _ (by decide +kernel)) ggX10_stumble_X3_tenTo
set_option maxRecDepth 20000 in
theorem ggX10_stumble_X3_ways : GoodIn wsX10_stumble wsX3_ways := goodIn_r _ [42, 37, 39, 43, 38, 30, 32, 36, 34, 40, 44, 45, 27, 46, 47, 41, 48, 49, 50, 51, 52, 53, 54, 55, 90, 91, 92, 93, 94, 95, 96, 97] rfl (by decide +kernel)
set_option maxRecDepth 20000 in
theorem gX10_stumble_X3_ways_n243 : GoodIn wsX10_stumble (wsX3_ways) := ggX10_stumble_X3_ways
set_option maxRecDepth 20000 in
theorem ggX3_ways_X1_limit : GoodIn wsX3_ways wsX1_limit := goodIn_r _ [23] rfl (by decide +kernel)
set_option maxRecDepth 20000 in
theorem gX3_ways_X1_limit : GoodIn wsX3_ways (va_wsS RX3 56 yX1_limit wsX1_limit) := goodIn_app (goodIn_of _ (by decide +kernel)) ggX3_ways_X1_limit
set_option maxRecDepth 20000 in
theorem ggX3_ways_X2_reach : GoodIn wsX3_ways wsX2_reach := goodIn_r _ [19] rfl (by decide +kernel)
set_option maxRecDepth 20000 in
theorem gX3_ways_X2_reach : GoodIn wsX3_ways (va_wsS RX3 50 yX2_reach wsX2_reach) := goodIn_app (goodIn_of _ (by decide +kernel)) ggX3_ways_X2_reach
set_option maxRecDepth 20000 in
theorem ggX3_ways_X3_tenTo : GoodIn wsX3_ways wsX3_tenTo := goodIn_r _ [13, 3] rfl (by decide +kernel)
set_option maxRecDepth 20000 in
theorem gX3_ways_X3_tenTo : GoodIn wsX3_ways (va_wsS RX3 40 yX3_tenTo wsX3_tenTo) := goodIn_app (goodIn_of _ (by decide +kernel)) ggX3_ways_X3_tenTo
set_option maxRecDepth 20000 in
theorem ggX3_ways_X3_ways : GoodIn wsX3_ways wsX3_ways := goodIn_r _ [0, 1, 2, 3, 4, 5, 6, 7, 8, 9, 10, 11, 12, 13, 14, 15, 16, 17, 18, 19, 20, 21, 22, 23, 24, 25, 26, 27, 28, 29, 30, 31] rfl (by decide +kernel)
set_option maxRecDepth 20000 in
theorem gX3_ways_X3_ways : GoodIn wsX3_ways (va_wsS RX3 46 yX3_ways wsX3_ways) := goodIn_app (goodIn_of _ (by decide +kernel)) ggX3_ways_X3_ways
theorem dX10_stumble_0 : decode cX10_stumble 0 = .ok (.aload_n 0, 1) := by decide +kernel
theorem dX10_stumble_1 : decode cX10_stumble 1 = .ok (.iload_n 1, 1) := by decide +kernel
theorem dX10_stumble_10 : decode cX10_stumble 10 = .ok (.bipush 60, 2) := by decide +kernel
theorem dX10_stumble_100 : decode cX10_stumble 100 = .ok (.invokestatic 243, 3) := by decide +kernel
theorem dX10_stumble_103 : decode cX10_stumble 103 = .ok (.lstore 6, 2) := by decide +kernel
theorem dX10_stumble_105 : decode cX10_stumble 105 = .ok (.iload_n 3, 1) := by decide +kernel
theorem dX10_stumble_106 : decode cX10_stumble 106 = .ok (.invokestatic 247, 3) := by decide +kernel
theorem dX10_stumble_109 : decode cX10_stumble 109 = .ok (.lstore 8, 2) := by decide +kernel
theorem dX10_stumble_111 : decode cX10_stumble 111 = .ok (.lload 6, 2) := by decide +kernel
theorem dX10_stumble_113 : decode cX10_stumble 113 = .ok (.lload 8, 2) := by decide +kernel
theorem dX10_stumble_115 : decode cX10_stumble 115 = .ok (.invokestatic 251, 3) := by decide +kernel
theorem dX10_stumble_118 : decode cX10_stumble 118 = .ok (.lstore 10, 2) := by decide +kernel
theorem dX10_stumble_12 : decode cX10_stumble 12 = .ok (.invokestatic 79, 3) := by decide +kernel
theorem dX10_stumble_120 : decode cX10_stumble 120 = .ok (.lload 10, 2) := by decide +kernel
theorem dX10_stumble_122 : decode cX10_stumble 122 = .ok (.lconst 0, 1) := by decide +kernel
theorem dX10_stumble_123 : decode cX10_stumble 123 = .ok (.lcmp, 1) := by decide +kernel
theorem dX10_stumble_124 : decode cX10_stumble 124 = .ok (.ifCond .le 21, 3) := by decide +kernel
theorem dX10_stumble_127 : decode cX10_stumble 127 = .ok (.aload_n 0, 1) := by decide +kernel
theorem dX10_stumble_128 : decode cX10_stumble 128 = .ok (.lload 6, 2) := by decide +kernel
theorem dX10_stumble_130 : decode cX10_stumble 130 = .ok (.lload 10, 2) := by decide +kernel
theorem dX10_stumble_132 : decode cX10_stumble 132 = .ok (.ldiv, 1) := by decide +kernel
theorem dX10_stumble_133 : decode cX10_stumble 133 = .ok (.putfield 38, 3) := by decide +kernel
theorem dX10_stumble_136 : decode cX10_stumble 136 = .ok (.aload_n 0, 1) := by decide +kernel
theorem dX10_stumble_137 : decode cX10_stumble 137 = .ok (.lload 8, 2) := by decide +kernel
theorem dX10_stumble_139 : decode cX10_stumble 139 = .ok (.lload 10, 2) := by decide +kernel
theorem dX10_stumble_141 : decode cX10_stumble 141 = .ok (.ldiv, 1) := by decide +kernel
theorem dX10_stumble_142 : decode cX10_stumble 142 = .ok (.putfield 42, 3) := by decide +kernel
theorem dX10_stumble_145 : decode cX10_stumble 145 = .ok (.iconst 1, 1) := by decide +kernel
theorem dX10_stumble_146 : decode cX10_stumble 146 = .ok (.ireturn, 1) := by decide +kernel
theorem dX10_stumble_15 : decode cX10_stumble 15 = .ok (.ifCond .eq 24, 3) := by decide +kernel
theorem dX10_stumble_18 : decode cX10_stumble 18 = .ok (.iload_n 3, 1) := by decide +kernel
theorem dX10_stumble_19 : decode cX10_stumble 19 = .ok (.iconst 0, 1) := by decide +kernel
theorem dX10_stumble_2 : decode cX10_stumble 2 = .ok (.invokevirtual 123, 3) := by decide +kernel
theorem dX10_stumble_20 : decode cX10_stumble 20 = .ok (.bipush 6, 2) := by decide +kernel
theorem dX10_stumble_22 : decode cX10_stumble 22 = .ok (.invokestatic 79, 3) := by decide +kernel
theorem dX10_stumble_25 : decode cX10_stumble 25 = .ok (.ifCond .eq 14, 3) := by decide +kernel
theorem dX10_stumble_28 : decode cX10_stumble 28 = .ok (.iload 4, 2) := by decide +kernel
theorem dX10_stumble_30 : decode cX10_stumble 30 = .ok (.iconst 0, 1) := by decide +kernel
theorem dX10_stumble_31 : decode cX10_stumble 31 = .ok (.bipush 10, 2) := by decide +kernel
theorem dX10_stumble_33 : decode cX10_stumble 33 = .ok (.invokestatic 79, 3) := by decide +kernel
theorem dX10_stumble_36 : decode cX10_stumble 36 = .ok (.ifCond .ne 10, 3) := by decide +kernel
theorem dX10_stumble_39 : decode cX10_stumble 39 = .ok (.aload_n 0, 1) := by decide +kernel
theorem dX10_stumble_40 : decode cX10_stumble 40 = .ok (.bipush (-2), 2) := by decide +kernel
theorem dX10_stumble_42 : decode cX10_stumble 42 = .ok (.invokevirtual 83, 3) := by decide +kernel
theorem dX10_stumble_45 : decode cX10_stumble 45 = .ok (.ireturn, 1) := by decide +kernel
theorem dX10_stumble_46 : decode cX10_stumble 46 = .ok (.aload_n 0, 1) := by decide +kernel
theorem dX10_stumble_47 : decode cX10_stumble 47 = .ok (.getfield 10, 3) := by decide +kernel
theorem dX10_stumble_5 : decode cX10_stumble 5 = .ok (.ifCond .eq 34, 3) := by decide +kernel
theorem dX10_stumble_50 : decode cX10_stumble 50 = .ok (.getfield 126, 3) := by decide +kernel
theorem dX10_stumble_53 : decode cX10_stumble 53 = .ok (.iload_n 1, 1) := by decide +kernel
theorem dX10_stumble_54 : decode cX10_stumble 54 = .ok (.aaload, 1) := by decide +kernel
theorem dX10_stumble_55 : decode cX10_stumble 55 = .ok (.astore 5, 2) := by decide +kernel
theorem dX10_stumble_57 : decode cX10_stumble 57 = .ok (.aload_n 0, 1) := by decide +kernel
theorem dX10_stumble_58 : decode cX10_stumble 58 = .ok (.getfield 65, 3) := by decide +kernel
theorem dX10_stumble_61 : decode cX10_stumble 61 = .ok (.aload 5, 2) := by decide +kernel
theorem dX10_stumble_63 : decode cX10_stumble 63 = .ok (.aload_n 0, 1) := by decide +kernel
theorem dX10_stumble_64 : decode cX10_stumble 64 = .ok (.getfield 10, 3) := by decide +kernel
theorem dX10_stumble_67 : decode cX10_stumble 67 = .ok (.getfield 140, 3) := by decide +kernel
theorem dX10_stumble_70 : decode cX10_stumble 70 = .ok (.aload_n 0, 1) := by decide +kernel
theorem dX10_stumble_71 : decode cX10_stumble 71 = .ok (.getfield 10, 3) := by decide +kernel
theorem dX10_stumble_74 : decode cX10_stumble 74 = .ok (.getfield 110, 3) := by decide +kernel
theorem dX10_stumble_77 : decode cX10_stumble 77 = .ok (.iload_n 3, 1) := by decide +kernel
theorem dX10_stumble_78 : decode cX10_stumble 78 = .ok (.iadd, 1) := by decide +kernel
theorem dX10_stumble_79 : decode cX10_stumble 79 = .ok (.iload_n 2, 1) := by decide +kernel
theorem dX10_stumble_8 : decode cX10_stumble 8 = .ok (.iload_n 2, 1) := by decide +kernel
theorem dX10_stumble_80 : decode cX10_stumble 80 = .ok (.iload 4, 2) := by decide +kernel
theorem dX10_stumble_82 : decode cX10_stumble 82 = .ok (.invokevirtual 236, 3) := by decide +kernel
theorem dX10_stumble_85 : decode cX10_stumble 85 = .ok (.aload_n 0, 1) := by decide +kernel
theorem dX10_stumble_86 : decode cX10_stumble 86 = .ok (.getfield 65, 3) := by decide +kernel
theorem dX10_stumble_89 : decode cX10_stumble 89 = .ok (.aload 5, 2) := by decide +kernel
theorem dX10_stumble_9 : decode cX10_stumble 9 = .ok (.iconst 0, 1) := by decide +kernel
theorem dX10_stumble_91 : decode cX10_stumble 91 = .ok (.getfield 137, 3) := by decide +kernel
theorem dX10_stumble_94 : decode cX10_stumble 94 = .ok (.aload 5, 2) := by decide +kernel
theorem dX10_stumble_96 : decode cX10_stumble 96 = .ok (.getfield 240, 3) := by decide +kernel
theorem dX10_stumble_99 : decode cX10_stumble 99 = .ok (.iload_n 3, 1) := by decide +kernel
theorem dX3_commonPart_0 : decode cX3_commonPart 0 = .ok (.lload_n 0, 1) := by decide +kernel
theorem dX3_commonPart_1 : decode cX3_commonPart 1 = .ok (.lstore 4, 2) := by decide +kernel
theorem dX3_commonPart_11 : decode cX3_commonPart 11 = .ok (.bipush 100, 2) := by decide +kernel
theorem dX3_commonPart_13 : decode cX3_commonPart 13 = .ok (.if_icmp .ge 31, 3) := by decide +kernel
theorem dX3_commonPart_16 : decode cX3_commonPart 16 = .ok (.lload 6, 2) := by decide +kernel
theorem dX3_commonPart_18 : decode cX3_commonPart 18 = .ok (.lconst 0, 1) := by decide +kernel
theorem dX3_commonPart_19 : decode cX3_commonPart 19 = .ok (.lcmp, 1) := by decide +kernel
theorem dX3_commonPart_20 : decode cX3_commonPart 20 = .ok (.ifCond .eq 24, 3) := by decide +kernel
theorem dX3_commonPart_23 : decode cX3_commonPart 23 = .ok (.lload 4, 2) := by decide +kernel
theorem dX3_commonPart_25 : decode cX3_commonPart 25 = .ok (.lload 6, 2) := by decide +kernel
theorem dX3_commonPart_27 : decode cX3_commonPart 27 = .ok (.lrem, 1) := by decide +kernel
theorem dX3_commonPart_28 : decode cX3_commonPart 28 = .ok (.lstore 9, 2) := by decide +kernel
theorem dX3_commonPart_3 : decode cX3_commonPart 3 = .ok (.lload_n 2, 1) := by decide +kernel
theorem dX3_commonPart_30 : decode cX3_commonPart 30 = .ok (.lload 6, 2) := by decide +kernel
theorem dX3_commonPart_32 : decode cX3_commonPart 32 = .ok (.lstore 4, 2) := by decide +kernel
theorem dX3_commonPart_34 : decode cX3_commonPart 34 = .ok (.lload 9, 2) := by decide +kernel
theorem dX3_commonPart_36 : decode cX3_commonPart 36 = .ok (.lstore 6, 2) := by decide +kernel
theorem dX3_commonPart_38 : decode cX3_commonPart 38 = .ok (.iinc 8 1, 3) := by decide +kernel
theorem dX3_commonPart_4 : decode cX3_commonPart 4 = .ok (.lstore 6, 2) := by decide +kernel
theorem dX3_commonPart_41 : decode cX3_commonPart 41 = .ok (.goto (-32), 3) := by decide +kernel
theorem dX3_commonPart_44 : decode cX3_commonPart 44 = .ok (.lload 4, 2) := by decide +kernel
theorem dX3_commonPart_46 : decode cX3_commonPart 46 = .ok (.lreturn, 1) := by decide +kernel
theorem dX3_commonPart_6 : decode cX3_commonPart 6 = .ok (.iconst 0, 1) := by decide +kernel
theorem dX3_commonPart_7 : decode cX3_commonPart 7 = .ok (.istore 8, 2) := by decide +kernel
theorem dX3_commonPart_9 : decode cX3_commonPart 9 = .ok (.iload 8, 2) := by decide +kernel
theorem dX3_pose_0 : decode cX3_pose 0 = .ok (.aload_n 0, 1) := by decide +kernel
theorem dX3_pose_1 : decode cX3_pose 1 = .ok (.aload_n 1, 1) := by decide +kernel
theorem dX3_pose_10 : decode cX3_pose 10 = .ok (.getfield 16, 3) := by decide +kernel
theorem dX3_pose_13 : decode cX3_pose 13 = .ok (.putfield 19, 3) := by decide +kernel
theorem dX3_pose_16 : decode cX3_pose 16 = .ok (.aload_n 0, 1) := by decide +kernel
theorem dX3_pose_17 : decode cX3_pose 17 = .ok (.aload_n 1, 1) := by decide +kernel
theorem dX3_pose_18 : decode cX3_pose 18 = .ok (.getfield 20, 3) := by decide +kernel
theorem dX3_pose_2 : decode cX3_pose 2 = .ok (.getfield 7, 3) := by decide +kernel
theorem dX3_pose_21 : decode cX3_pose 21 = .ok (.putfield 23, 3) := by decide +kernel
theorem dX3_pose_24 : decode cX3_pose 24 = .ok (.aload_n 0, 1) := by decide +kernel
theorem dX3_pose_25 : decode cX3_pose 25 = .ok (.aload_n 1, 1) := by decide +kernel
theorem dX3_pose_26 : decode cX3_pose 26 = .ok (.getfield 24, 3) := by decide +kernel
theorem dX3_pose_29 : decode cX3_pose 29 = .ok (.putfield 27, 3) := by decide +kernel
theorem dX3_pose_32 : decode cX3_pose 32 = .ok (.aload_n 0, 1) := by decide +kernel
theorem dX3_pose_33 : decode cX3_pose 33 = .ok (.iload_n 2, 1) := by decide +kernel
theorem dX3_pose_34 : decode cX3_pose 34 = .ok (.putfield 28, 3) := by decide +kernel
theorem dX3_pose_37 : decode cX3_pose 37 = .ok (.aload_n 0, 1) := by decide +kernel
theorem dX3_pose_38 : decode cX3_pose 38 = .ok (.iload_n 3, 1) := by decide +kernel
theorem dX3_pose_39 : decode cX3_pose 39 = .ok (.putfield 31, 3) := by decide +kernel
theorem dX3_pose_42 : decode cX3_pose 42 = .ok (.aload_n 0, 1) := by decide +kernel
theorem dX3_pose_43 : decode cX3_pose 43 = .ok (.iload 4, 2) := by decide +kernel
theorem dX3_pose_45 : decode cX3_pose 45 = .ok (.putfield 34, 3) := by decide +kernel
theorem dX3_pose_48 : decode cX3_pose 48 = .ok (.aload_n 0, 1) := by decide +kernel
theorem dX3_pose_49 : decode cX3_pose 49 = .ok (.iload 5, 2) := by decide +kernel
theorem dX3_pose_5 : decode cX3_pose 5 = .ok (.putfield 13, 3) := by decide +kernel
theorem dX3_pose_51 : decode cX3_pose 51 = .ok (.putfield 37, 3) := by decide +kernel
theorem dX3_pose_54 : decode cX3_pose 54 = .ok (.return_, 1) := by decide +kernel
theorem dX3_pose_8 : decode cX3_pose 8 = .ok (.aload_n 0, 1) := by decide +kernel
theorem dX3_pose_9 : decode cX3_pose 9 = .ok (.aload_n 1, 1) := by decide +kernel
theorem dX3_tenTo_0 : decode cX3_tenTo 0 = .ok (.lconst 1, 1) := by decide +kernel
theorem dX3_tenTo_1 : decode cX3_tenTo 1 = .ok (.lstore_n 1, 1) := by decide +kernel
theorem dX3_tenTo_10 : decode cX3_tenTo 10 = .ok (.ldc2_w 44, 3) := by decide +kernel
theorem dX3_tenTo_13 : decode cX3_tenTo 13 = .ok (.lmul, 1) := by decide +kernel
theorem dX3_tenTo_14 : decode cX3_tenTo 14 = .ok (.lstore_n 1, 1) := by decide +kernel
theorem dX3_tenTo_15 : decode cX3_tenTo 15 = .ok (.iinc 3 1, 3) := by decide +kernel
theorem dX3_tenTo_18 : decode cX3_tenTo 18 = .ok (.goto (-14), 3) := by decide +kernel
theorem dX3_tenTo_2 : decode cX3_tenTo 2 = .ok (.iconst 0, 1) := by decide +kernel
theorem dX3_tenTo_21 : decode cX3_tenTo 21 = .ok (.lload_n 1, 1) := by decide +kernel
theorem dX3_tenTo_22 : decode cX3_tenTo 22 = .ok (.lreturn, 1) := by decide +kernel
theorem dX3_tenTo_3 : decode cX3_tenTo 3 = .ok (.istore_n 3, 1) := by decide +kernel
theorem dX3_tenTo_4 : decode cX3_tenTo 4 = .ok (.iload_n 3, 1) := by decide +kernel
theorem dX3_tenTo_5 : decode cX3_tenTo 5 = .ok (.iload_n 0, 1) := by decide +kernel
theorem dX3_tenTo_6 : decode cX3_tenTo 6 = .ok (.if_icmp .ge 15, 3) := by decide +kernel
theorem dX3_tenTo_9 : decode cX3_tenTo 9 = .ok (.lload_n 1, 1) := by decide +kernel
theorem dX3_ways_0 : decode cX3_ways 0 = .ok (.iload_n 3, 1) := by decide +kernel
theorem dX3_ways_1 : decode cX3_ways 1 = .ok (.ifCond .le 11, 3) := by decide +kernel
theorem dX3_ways_100 : decode cX3_ways 100 = .ok (.if_icmp .le 10, 3) := by decide +kernel
theorem dX3_ways_103 : decode cX3_ways 103 = .ok (.ldc2_w 44, 3) := by decide +kernel
theorem dX3_ways_106 : decode cX3_ways 106 = .ok (.lload 6, 2) := by decide +kernel
theorem dX3_ways_108 : decode cX3_ways 108 = .ok (.lmul, 1) := by decide +kernel
theorem dX3_ways_109 : decode cX3_ways 109 = .ok (.lreturn, 1) := by decide +kernel
theorem dX3_ways_110 : decode cX3_ways 110 = .ok (.aload_n 0, 1) := by decide +kernel
theorem dX3_ways_111 : decode cX3_ways 111 = .ok (.getfield 37, 3) := by decide +kernel
theorem dX3_ways_114 : decode cX3_ways 114 = .ok (.i2l, 1) := by decide +kernel
theorem dX3_ways_115 : decode cX3_ways 115 = .ok (.lload 6, 2) := by decide +kernel
theorem dX3_ways_117 : decode cX3_ways 117 = .ok (.lmul, 1) := by decide +kernel
theorem dX3_ways_118 : decode cX3_ways 118 = .ok (.bipush 10, 2) := by decide +kernel
theorem dX3_ways_12 : decode cX3_ways 12 = .ok (.iload_n 1, 1) := by decide +kernel
theorem dX3_ways_120 : decode cX3_ways 120 = .ok (.aload_n 0, 1) := by decide +kernel
theorem dX3_ways_121 : decode cX3_ways 121 = .ok (.getfield 37, 3) := by decide +kernel
theorem dX3_ways_124 : decode cX3_ways 124 = .ok (.isub, 1) := by decide +kernel
theorem dX3_ways_125 : decode cX3_ways 125 = .ok (.i2l, 1) := by decide +kernel
theorem dX3_ways_126 : decode cX3_ways 126 = .ok (.aload_n 0, 1) := by decide +kernel
theorem dX3_ways_127 : decode cX3_ways 127 = .ok (.iload_n 1, 1) := by decide +kernel
theorem dX3_ways_128 : decode cX3_ways 128 = .ok (.iload 5, 2) := by decide +kernel
theorem dX3_ways_13 : decode cX3_ways 13 = .ok (.aload_n 0, 1) := by decide +kernel
theorem dX3_ways_130 : decode cX3_ways 130 = .ok (.iadd, 1) := by decide +kernel
theorem dX3_ways_131 : decode cX3_ways 131 = .ok (.iconst 0, 1) := by decide +kernel
theorem dX3_ways_132 : decode cX3_ways 132 = .ok (.iload_n 3, 1) := by decide +kernel
theorem dX3_ways_133 : decode cX3_ways 133 = .ok (.iconst 1, 1) := by decide +kernel
theorem dX3_ways_134 : decode cX3_ways 134 = .ok (.isub, 1) := by decide +kernel
theorem dX3_ways_135 : decode cX3_ways 135 = .ok (.invokestatic 46, 3) := by decide +kernel
theorem dX3_ways_138 : decode cX3_ways 138 = .ok (.lmul, 1) := by decide +kernel
theorem dX3_ways_139 : decode cX3_ways 139 = .ok (.ladd, 1) := by decide +kernel
theorem dX3_ways_14 : decode cX3_ways 14 = .ok (.getfield 34, 3) := by decide +kernel
theorem dX3_ways_140 : decode cX3_ways 140 = .ok (.lreturn, 1) := by decide +kernel
theorem dX3_ways_17 : decode cX3_ways 17 = .ok (.if_icmp .lt 10, 3) := by decide +kernel
theorem dX3_ways_20 : decode cX3_ways 20 = .ok (.iload_n 3, 1) := by decide +kernel
theorem dX3_ways_21 : decode cX3_ways 21 = .ok (.invokestatic 40, 3) := by decide +kernel
theorem dX3_ways_24 : decode cX3_ways 24 = .ok (.goto 4, 3) := by decide +kernel
theorem dX3_ways_27 : decode cX3_ways 27 = .ok (.lconst 0, 1) := by decide +kernel
theorem dX3_ways_28 : decode cX3_ways 28 = .ok (.lreturn, 1) := by decide +kernel
theorem dX3_ways_29 : decode cX3_ways 29 = .ok (.iload_n 2, 1) := by decide +kernel
theorem dX3_ways_30 : decode cX3_ways 30 = .ok (.ifCond .le 19, 3) := by decide +kernel
theorem dX3_ways_33 : decode cX3_ways 33 = .ok (.ldc2_w 44, 3) := by decide +kernel
theorem dX3_ways_36 : decode cX3_ways 36 = .ok (.aload_n 0, 1) := by decide +kernel
theorem dX3_ways_37 : decode cX3_ways 37 = .ok (.iload_n 1, 1) := by decide +kernel
theorem dX3_ways_38 : decode cX3_ways 38 = .ok (.iload_n 2, 1) := by decide +kernel
theorem dX3_ways_39 : decode cX3_ways 39 = .ok (.iconst 1, 1) := by decide +kernel
theorem dX3_ways_4 : decode cX3_ways 4 = .ok (.iload_n 1, 1) := by decide +kernel
theorem dX3_ways_40 : decode cX3_ways 40 = .ok (.isub, 1) := by decide +kernel
theorem dX3_ways_41 : decode cX3_ways 41 = .ok (.iload_n 3, 1) := by decide +kernel
theorem dX3_ways_42 : decode cX3_ways 42 = .ok (.iconst 1, 1) := by decide +kernel
theorem dX3_ways_43 : decode cX3_ways 43 = .ok (.isub, 1) := by decide +kernel
theorem dX3_ways_44 : decode cX3_ways 44 = .ok (.invokestatic 46, 3) := by decide +kernel
theorem dX3_ways_47 : decode cX3_ways 47 = .ok (.lmul, 1) := by decide +kernel
theorem dX3_ways_48 : decode cX3_ways 48 = .ok (.lreturn, 1) := by decide +kernel
theorem dX3_ways_49 : decode cX3_ways 49 = .ok (.aload_n 0, 1) := by decide +kernel
theorem dX3_ways_5 : decode cX3_ways 5 = .ok (.aload_n 0, 1) := by decide +kernel
theorem dX3_ways_50 : decode cX3_ways 50 = .ok (.getfield 31, 3) := by decide +kernel
theorem dX3_ways_53 : decode cX3_ways 53 = .ok (.iload_n 3, 1) := by decide +kernel
theorem dX3_ways_54 : decode cX3_ways 54 = .ok (.isub, 1) := by decide +kernel
theorem dX3_ways_55 : decode cX3_ways 55 = .ok (.iconst 1, 1) := by decide +kernel
theorem dX3_ways_56 : decode cX3_ways 56 = .ok (.iadd, 1) := by decide +kernel
theorem dX3_ways_57 : decode cX3_ways 57 = .ok (.istore 4, 2) := by decide +kernel
theorem dX3_ways_59 : decode cX3_ways 59 = .ok (.aload_n 0, 1) := by decide +kernel
theorem dX3_ways_6 : decode cX3_ways 6 = .ok (.getfield 28, 3) := by decide +kernel
theorem dX3_ways_60 : decode cX3_ways 60 = .ok (.getfield 13, 3) := by decide +kernel
theorem dX3_ways_63 : decode cX3_ways 63 = .ok (.aload_n 0, 1) := by decide +kernel
theorem dX3_ways_64 : decode cX3_ways 64 = .ok (.getfield 19, 3) := by decide +kernel
theorem dX3_ways_67 : decode cX3_ways 67 = .ok (.iload 4, 2) := by decide +kernel
theorem dX3_ways_69 : decode cX3_ways 69 = .ok (.aload_n 0, 1) := by decide +kernel
theorem dX3_ways_70 : decode cX3_ways 70 = .ok (.getfield 27, 3) := by decide +kernel
theorem dX3_ways_73 : decode cX3_ways 73 = .ok (.invokestatic 50, 3) := by decide +kernel
theorem dX3_ways_76 : decode cX3_ways 76 = .ok (.istore 5, 2) := by decide +kernel
theorem dX3_ways_78 : decode cX3_ways 78 = .ok (.aload_n 0, 1) := by decide +kernel
theorem dX3_ways_79 : decode cX3_ways 79 = .ok (.iload_n 1, 1) := by decide +kernel
theorem dX3_ways_80 : decode cX3_ways 80 = .ok (.iconst 2, 1) := by decide +kernel
theorem dX3_ways_81 : decode cX3_ways 81 = .ok (.iload_n 3, 1) := by decide +kernel
theorem dX3_ways_82 : decode cX3_ways 82 = .ok (.iconst 1, 1) := by decide +kernel
theorem dX3_ways_83 : decode cX3_ways 83 = .ok (.isub, 1) := by decide +kernel
theorem dX3_ways_84 : decode cX3_ways 84 = .ok (.invokestatic 46, 3) := by decide +kernel
theorem dX3_ways_87 : decode cX3_ways 87 = .ok (.lstore 6, 2) := by decide +kernel
theorem dX3_ways_89 : decode cX3_ways 89 = .ok (.iload 5, 2) := by decide +kernel
theorem dX3_ways_9 : decode cX3_ways 9 = .ok (.if_icmp .lt 20, 3) := by decide +kernel
theorem dX3_ways_91 : decode cX3_ways 91 = .ok (.aload_n 0, 1) := by decide +kernel
theorem dX3_ways_92 : decode cX3_ways 92 = .ok (.getfield 23, 3) := by decide +kernel
theorem dX3_ways_95 : decode cX3_ways 95 = .ok (.iload 4, 2) := by decide +kernel
theorem dX3_ways_97 : decode cX3_ways 97 = .ok (.invokestatic 56, 3) := by decide +kernel
theorem mm_X3_tenTo_c44 : Cond.constantLong RX3 44 (10) ∈ wsX3_tenTo := by decide +kernel
set_option maxHeartbeats 4000000 in
set_option maxRecDepth 100000 in
/-- tenTo -/
theorem s_tenTo (l : Launch) (X : EX) (n : Nat) (hn6 : n ≤ 6) (sz : Nat) : Met l yX3_tenTo wsX3_tenTo ({ frames := 0, cells := 0, slots := 0, locals := 0 } : Room) (pE X [.int (nI n)] ([]) sz) (qL (fun (r : Int64) (u : Unit) => True) X (fun (u : Unit) => []) [] sz) 0 0 (va_A [] sz) := by
  refine mk_met (B := (fun _ => True)) (A := (va_A [] sz)) (cc := cX3_tenTo) (maxL := 4) (ret := (some .long)) (by decide) rfl (Nat.le_of_ble_eq_true rfl) k_ro k_a (fun p e s m below meth c S zr zlk znm zsz G ls hl => ?_)
  have S : CallFix p m c cX3_tenTo 4 s _ wsX3_tenTo RX3 := S
  have zx := S.1
  have zb := S.2.1
  have hl : lv_has ls 4 [(0, .int (nI n))] := hl
  refine lv_lconst (v := (Int32.toInt64 1)) zx zb dX3_tenTo_0 (by decide) ?_
  refine lv_lstore_n (lv' := [(1, .long (Int32.toInt64 1)), (0, .int (nI n))]) zx zb dX3_tenTo_1 rfl hl (by decide) rfl (fun ls hl => ?_)
  refine lv_iconst (v := 0) zx zb dX3_tenTo_2 (by decide) ?_
  refine lv_istore_n (lv' := [(3, .int 0), (1, .long (Int32.toInt64 1)), (0, .int (nI n))]) zx zb dX3_tenTo_3 rfl hl (by decide) rfl (fun ls hl => ?_)
  refine k_loop (P := ∀ (zm : Nat) (k4 : Nat) (x4_1 : Int64) (H : Heap) (locs : List Loc) (ls : Array Slot), n + 1 ≤ k4 + zm → (k4 ≤ n) → wd X (fun _ => True) (va_A [] sz) s ([]) H locs → lv_has ls 4 [(3, .int (nI k4)), (1, .long x4_1), (0, .int (nI n))] → W p l e _ s m _ below meth c H locs _ _ _ (F0 m 4 ls [])) (fun loop => loop (n + 1) 0 (Int32.toInt64 1) _ _ _ (by omega) (by omega) G hl) ?_
  intro zm
  induction zm with
  | zero => intro k4 x4_1 H locs ls zz q_hk_k4 _ _; exact absurd zz (by omega)
  | succ zm ih4 =>
    intro k4 x4_1 H locs ls zm_4 hk_k4 G hl
    refine lv_iload_n zx zb dX3_tenTo_4 rfl (lv_at hl 0 rfl) ?_
    refine lv_iload_n zx zb dX3_tenTo_5 rfl (lv_at hl 2 rfl) ?_
    refine lv_icmp_ge (tgt := 21) zx zb dX3_tenTo_6 (by decide) (fun c_1 => ?_) (fun c_1 => ?_)
    · have fc_1 := j_le (a := n) (b := k4) (by omega) (by omega) c_1
      refine lv_lload_n zx zb dX3_tenTo_21 rfl (lv_at hl 1 rfl) ?_
      exact e_long S zr zlk G () [] rfl rfl (Or.inl rfl) (trivial) dX3_tenTo_22
    · have fc_1 := j_nle (a := n) (b := k4) (by omega) (by omega) c_1
      refine lv_lload_n zx zb dX3_tenTo_9 rfl (lv_at hl 1 rfl) ?_
      refine lv_ldc2 zx zb S.2.2.2.1 (S.2.2.2.2 _ mm_X3_tenTo_c44) dX3_tenTo_10 ?_
      refine k_ld (v := (Int32.toInt64 10)) (by decide) ?_
      refine r_lmul (v := (x4_1 * (Int32.toInt64 10))) S rfl dX3_tenTo_13 ?_
      refine lv_lstore_n (lv' := [(1, .long (x4_1 * (Int32.toInt64 10))), (3, .int (nI k4)), (0, .int (nI n))]) zx zb dX3_tenTo_14 rfl hl (by decide) rfl (fun ls hl => ?_)
      refine lv_iinc (v := (nI (k4 + 1))) (lv' := [(3, .int (nI (k4 + 1))), (1, .long (x4_1 * (Int32.toInt64 10))), (0, .int (nI n))]) zx zb dX3_tenTo_15 hl (k := 1) rfl (nI_add k4 1) (by decide) rfl (fun ls hl => ?_)
      refine lv_goto (tgt := 4) zx zb dX3_tenTo_18 (by decide) ?_
      exact ih4 (k4 + 1) (x4_1 * (Int32.toInt64 10)) _ _ _ (by omega) (by omega) G hl
set_option maxHeartbeats 4000000 in
set_option maxRecDepth 100000 in
/-- commonPart -/
theorem s_commonPart (l : Launch) (X : EX) (x1 : Int64) (x2 : Int64) (sz : Nat) : Met l yX3_commonPart wsX3_commonPart ({ frames := 0, cells := 0, slots := 0, locals := 0 } : Room) (pE X [.long x1, .long x2] ([]) sz) (qL (fun (r : Int64) (u : Unit) => True) X (fun (u : Unit) => []) [] sz) 0 0 (va_A [] sz) := by
  refine mk_met (B := (fun _ => True)) (A := (va_A [] sz)) (cc := cX3_commonPart) (maxL := 11) (ret := (some .long)) (by decide) rfl (Nat.le_of_ble_eq_true rfl) k_ro k_a (fun p e s m below meth c S zr zlk znm zsz G ls hl => ?_)
  have S : CallFix p m c cX3_commonPart 11 s _ wsX3_commonPart RX3 := S
  have zx := S.1
  have zb := S.2.1
  have hl : lv_has ls 11 [(0, .long x1), (2, .long x2)] := hl
  refine lv_lload_n zx zb dX3_commonPart_0 rfl (lv_at hl 0 rfl) ?_
  refine lv_lstore (lv' := [(4, .long x1), (0, .long x1), (2, .long x2)]) zx zb dX3_commonPart_1 hl (by decide) rfl (fun ls hl => ?_)
  refine lv_lload_n zx zb dX3_commonPart_3 rfl (lv_at hl 2 rfl) ?_
  refine lv_lstore (lv' := [(6, .long x2), (4, .long x1), (0, .long x1), (2, .long x2)]) zx zb dX3_commonPart_4 hl (by decide) rfl (fun ls hl => ?_)
  refine lv_iconst (v := 0) zx zb dX3_commonPart_6 (by decide) ?_
  refine lv_istore (lv' := [(8, .int 0), (6, .long x2), (4, .long x1), (0, .long x1), (2, .long x2)]) zx zb dX3_commonPart_7 hl (by decide) rfl (fun ls hl => ?_)
  refine k_loop (P := ∀ (zm : Nat) (k9 : Nat) (x9_6 : Int64) (x9_4 : Int64) (H : Heap) (locs : List Loc) (ls : Array Slot), 100 + 1 ≤ k9 + zm → (k9 ≤ 100) → wd X (fun _ => True) (va_A [] sz) s ([]) H locs → lv_has ls 11 [(8, .int (nI k9)), (6, .long x9_6), (4, .long x9_4), (0, .long x1), (2, .long x2)] → W p l e _ s m _ below meth c H locs _ _ _ (F0 m 9 ls [])) (fun loop => loop (100 + 1) 0 x2 x1 _ _ _ (by omega) (by omega) G hl) ?_
  intro zm
  induction zm with
  | zero => intro k9 x9_6 x9_4 H locs ls zz q_hk_k9 _ _; exact absurd zz (by omega)
  | succ zm ih9 =>
    intro k9 x9_6 x9_4 H locs ls zm_9 hk_k9 G hl
    refine lv_iload zx zb dX3_commonPart_9 (lv_at hl 0 rfl) ?_
    refine lv_bipush (v := 100) zx zb dX3_commonPart_11 (by decide) ?_
    refine k_cutW (PP := fun Wx => ∀ (H : Heap) (locs : List Loc) (ls : Array Slot), wd X (fun _ => True) (va_A [] sz) s ([]) H locs → lv_has ls 11 [(8, .int (nI k9)), (6, .long x9_6), (4, .long x9_4), (0, .long x1), (2, .long x2)] → Wx (F0 m 44 ls []) H locs) ?_ ?_
    · intro join_13
      refine lv_icmp_ge (tgt := 44) zx zb dX3_commonPart_13 (by decide) (fun c_1 => ?_) (fun c_1 => ?_)
      · have fc_1 := j_le (a := 100) (b := k9) (by omega) (by omega) c_1
        exact join_13  _ _ _  G hl
      · have fc_1 := j_nle (a := 100) (b := k9) (by omega) (by omega) c_1
        refine lv_lload zx zb dX3_commonPart_16 (lv_at hl 1 rfl) ?_
        refine lv_lconst (v := (Int32.toInt64 0)) zx zb dX3_commonPart_18 (by decide) ?_
        refine W.lcmp zx zb dX3_commonPart_19 ?_
        refine lv_if_eq (tgt := 44) zx zb dX3_commonPart_20 (by decide) (fun c_2 => ?_) (fun c_2 => ?_)
        · exact join_13  _ _ _  G hl
        · refine lv_lload zx zb dX3_commonPart_23 (lv_at hl 2 rfl) ?_
          refine lv_lload zx zb dX3_commonPart_25 (lv_at hl 1 rfl) ?_
          refine lv_lrem zx zb dX3_commonPart_27 (k_lnz c_2) ?_
          refine k_ldE (fun y_3 => ?_)
          refine lv_lstore (lv' := [(9, .long y_3), (8, .int (nI k9)), (6, .long x9_6), (4, .long x9_4), (0, .long x1), (2, .long x2)]) zx zb dX3_commonPart_28 hl (by decide) rfl (fun ls hl => ?_)
          refine lv_lload zx zb dX3_commonPart_30 (lv_at hl 2 rfl) ?_
          refine lv_lstore (lv' := [(4, .long x9_6), (9, .long y_3), (8, .int (nI k9)), (6, .long x9_6), (0, .long x1), (2, .long x2)]) zx zb dX3_commonPart_32 hl (by decide) rfl (fun ls hl => ?_)
          refine lv_lload zx zb dX3_commonPart_34 (lv_at hl 1 rfl) ?_
          refine lv_lstore (lv' := [(6, .long y_3), (4, .long x9_6), (9, .long y_3), (8, .int (nI k9)), (0, .long x1), (2, .long x2)]) zx zb dX3_commonPart_36 hl (by decide) rfl (fun ls hl => ?_)
          refine lv_iinc (v := (nI (k9 + 1))) (lv' := [(8, .int (nI (k9 + 1))), (6, .long y_3), (4, .long x9_6), (9, .long y_3), (0, .long x1), (2, .long x2)]) zx zb dX3_commonPart_38 hl (k := 3) rfl (nI_add k9 1) (by decide) rfl (fun ls hl => ?_)
          refine lv_goto (tgt := 9) zx zb dX3_commonPart_41 (by decide) ?_
          have hl := lv_sub hl (l' := [(8, .int (nI (k9 + 1))), (6, .long y_3), (4, .long x9_6), (0, .long x1), (2, .long x2)]) [0, 1, 2, 4, 5] rfl
          exact ih9 (k9 + 1) y_3 x9_6 _ _ _ (by omega) (by omega) G hl
    · intro  H locs ls  G hl
      refine lv_lload zx zb dX3_commonPart_44 (lv_at hl 2 rfl) ?_
      exact e_long S zr zlk G () [] rfl rfl (Or.inl rfl) (trivial) dX3_commonPart_46
theorem in_X3_ways_X3 : ∀ w ∈ wsX30, w ∈ wsX3_ways := by decide +kernel
theorem lk_X3_ways_34 : Cond.fieldLink RX3 34 "EggSpoons$Odds" "goal" "I" ∈ wsX3_ways := by decide +kernel
theorem hdS_X3_tenTo : yX3_tenTo.cls ≠ "java/lang/invoke/MethodHandle" ∧ yX3_tenTo.cls ≠ "java/lang/invoke/VarHandle" ∧ (parseMethodDescriptor yX3_tenTo.desc).map (fun d => d.parameters.length) = some 1 := by decide +kernel
set_option maxHeartbeats 4000000 in
set_option maxRecDepth 100000 in
/-- ways, 0 ticks left -/
theorem s_ways0 (l : Launch) (X : EX) (h0 : Nat) (v : Nat → Int32) (x1 : Int32) (x2 : Int32) (sz : Nat) : Met l yX3_ways wsX3_ways ({ frames := 1, cells := 0, slots := 0, locals := 23 } : Room) (pE X [.ref h0, .int x1, .int x2, .int 0] (odW h0 v) sz) (qL (fun (r : Int64) (u : Unit) => True) X (fun (u : Unit) => []) [] sz) 0 0 (va_A [] sz) := by
  refine mk_met (B := (fun _ => True)) (A := (va_A [] sz)) (cc := cX3_ways) (maxL := 8) (ret := (some .long)) (by decide) rfl (Nat.le_of_ble_eq_true rfl) k_ro k_a (fun p e s m below meth c S zr zlk znm zsz G ls hl => ?_)
  have S : CallFix p m c cX3_ways 8 s _ wsX3_ways RX3 := S
  have zx := S.1
  have zb := S.2.1
  have hl : lv_has ls 8 [(0, .ref h0), (1, .int x1), (2, .int x2), (3, .int 0)] := hl
  refine lv_iload_n zx zb dX3_ways_0 rfl (lv_at hl 3 rfl) ?_
  refine lv_if_le (tgt := 12) zx zb dX3_ways_1 (by decide) (fun c_1 => ?_) (fun c_1 => absurd (by decide) c_1)
  refine lv_iload_n zx zb dX3_ways_12 rfl (lv_at hl 1 rfl) ?_
  refine lv_aload_n zx zb dX3_ways_13 rfl (lv_at hl 0 rfl) ?_
  refine r_get (C := RX3) (T := TX3) (N := 8) (ci := 1) (v := .int (v 6)) S in_X3_ways_X3 G 0 rfl rfl 6 (by decide) lk_X3_ways_34 rfl dX3_ways_14 ?_
  refine k_cutW (PP := fun Wx => ∀ (x_3 : Int64) (H : Heap) (locs : List Loc) (ls : Array Slot), wd X (fun _ => True) (va_A [] sz) s (odW h0 v) H locs → lv_has ls 8 [(0, .ref h0), (1, .int x1), (2, .int x2), (3, .int 0)] → Wx (F0 m 28 ls [.long x_3]) H locs) ?_ ?_
  · intro join_17
    refine lv_icmp_lt (tgt := 27) zx zb dX3_ways_17 (by decide) (fun c_2 => ?_) (fun c_2 => ?_)
    · refine lv_lconst (v := (Int32.toInt64 0)) zx zb dX3_ways_27 (by decide) ?_
      exact join_17 (Int32.toInt64 0) _ _ _  G hl
    · refine lv_iload_n zx zb dX3_ways_20 rfl (lv_at hl 3 rfl) ?_
      refine o_rl (cells' := 0) (slots' := 0) G rfl rfl (n_S (As := [.int 0]) (rest := []) S G (s_tenTo l X 0 (by omega) s.heap.size) gX3_ways_X3_tenTo rfl rfl rfl hdS_X3_tenTo ⟨Nat.le_of_ble_eq_true rfl, Nat.le_of_ble_eq_true rfl⟩ [] rfl rfl rfl hl.1 (Nat.le_of_ble_eq_true rfl) dX3_ways_21 ⟨Nat.le_of_ble_eq_true rfl, Nat.le_of_ble_eq_true rfl⟩) (fun r_4 u_4 H locs hp_4 G => ?_)
      have G : wd X (fun _ => True) (va_A [] sz) s (odW h0 v) H locs := G
      refine lv_goto (tgt := 28) zx zb dX3_ways_24 (by decide) ?_
      exact join_17 r_4 _ _ _  G hl
  · intro x_3 H locs ls  G hl
    exact e_long S zr zlk G () [] rfl rfl (Or.inl rfl) (trivial) dX3_ways_28
theorem lk_X3_ways_28 : Cond.fieldLink RX3 28 "EggSpoons$Odds" "length" "I" ∈ wsX3_ways := by decide +kernel
theorem lk_X3_ways_31 : Cond.fieldLink RX3 31 "EggSpoons$Odds" "lastTick" "I" ∈ wsX3_ways := by decide +kernel
theorem lk_X3_ways_13 : Cond.fieldLink RX3 13 "EggSpoons$Odds" "kind" "I" ∈ wsX3_ways := by decide +kernel
theorem lk_X3_ways_19 : Cond.fieldLink RX3 19 "EggSpoons$Odds" "legs" "I" ∈ wsX3_ways := by decide +kernel
theorem lk_X3_ways_27 : Cond.fieldLink RX3 27 "EggSpoons$Odds" "speed" "I" ∈ wsX3_ways := by decide +kernel
theorem hdS_X3_ways : yX3_ways.cls ≠ "java/lang/invoke/MethodHandle" ∧ yX3_ways.cls ≠ "java/lang/invoke/VarHandle" ∧ (parseMethodDescriptor yX3_ways.desc).map (fun d => d.parameters.length) = some 4 := by decide +kernel
theorem lk_X3_ways_23 : Cond.fieldLink RX3 23 "EggSpoons$Odds" "egg" "I" ∈ wsX3_ways := by decide +kernel
theorem lk_X3_ways_37 : Cond.fieldLink RX3 37 "EggSpoons$Odds" "tenths" "I" ∈ wsX3_ways := by decide +kernel
theorem mm_X3_ways_c44 : Cond.constantLong RX3 44 (10) ∈ wsX3_ways := by decide +kernel
set_option maxHeartbeats 4000000 in
set_option maxRecDepth 100000 in
/-- ways, 1 ticks left -/
theorem s_ways1 (l : Launch) (X : EX) (h0 : Nat) (v : Nat → Int32) (x1 : Int32) (x2 : Int32) (sz : Nat) : Met l yX3_ways wsX3_ways ({ frames := 2, cells := 0, slots := 0, locals := 50 } : Room) (pE X [.ref h0, .int x1, .int x2, .int 1] (odW h0 v) sz) (qL (fun (r : Int64) (u : Unit) => True) X (fun (u : Unit) => []) [] sz) 0 0 (va_A [] sz) := by
  refine mk_met (B := (fun _ => True)) (A := (va_A [] sz)) (cc := cX3_ways) (maxL := 8) (ret := (some .long)) (by decide) rfl (Nat.le_of_ble_eq_true rfl) k_ro k_a (fun p e s m below meth c S zr zlk znm zsz G ls hl => ?_)
  have S : CallFix p m c cX3_ways 8 s _ wsX3_ways RX3 := S
  have zx := S.1
  have zb := S.2.1
  have hl : lv_has ls 8 [(0, .ref h0), (1, .int x1), (2, .int x2), (3, .int 1)] := hl
  refine lv_iload_n zx zb dX3_ways_0 rfl (lv_at hl 3 rfl) ?_
  refine lv_if_le (tgt := 12) zx zb dX3_ways_1 (by decide) (fun c_1 => absurd c_1 (by decide)) (fun c_1 => ?_)
  refine lv_iload_n zx zb dX3_ways_4 rfl (lv_at hl 1 rfl) ?_
  refine lv_aload_n zx zb dX3_ways_5 rfl (lv_at hl 0 rfl) ?_
  refine r_get (C := RX3) (T := TX3) (N := 8) (ci := 1) (v := .int (v 4)) S in_X3_ways_X3 G 0 rfl rfl 4 (by decide) lk_X3_ways_28 rfl dX3_ways_6 ?_
  refine lv_icmp_lt (tgt := 29) zx zb dX3_ways_9 (by decide) (fun c_2 => ?_) (fun c_2 => ?_)
  · refine lv_iload_n zx zb dX3_ways_29 rfl (lv_at hl 2 rfl) ?_
    refine lv_if_le (tgt := 49) zx zb dX3_ways_30 (by decide) (fun c_3 => ?_) (fun c_3 => ?_)
    · refine lv_aload_n zx zb dX3_ways_49 rfl (lv_at hl 0 rfl) ?_
      refine r_get (C := RX3) (T := TX3) (N := 8) (ci := 1) (v := .int (v 5)) S in_X3_ways_X3 G 0 rfl rfl 5 (by decide) lk_X3_ways_31 rfl dX3_ways_50 ?_
      refine lv_iload_n zx zb dX3_ways_53 rfl (lv_at hl 3 rfl) ?_
      refine r_isub (v := ((v 5) - 1)) S rfl dX3_ways_54 ?_
      refine lv_iconst (v := 1) zx zb dX3_ways_55 (by decide) ?_
      refine r_iadd (v := (((v 5) - 1) + 1)) S rfl dX3_ways_56 ?_
      refine lv_istore (lv' := [(4, .int (((v 5) - 1) + 1)), (0, .ref h0), (1, .int x1), (2, .int x2), (3, .int 1)]) zx zb dX3_ways_57 hl (by decide) rfl (fun ls hl => ?_)
      refine lv_aload_n zx zb dX3_ways_59 rfl (lv_at hl 1 rfl) ?_
      refine r_get (C := RX3) (T := TX3) (N := 8) (ci := 1) (v := .int (v 0)) S in_X3_ways_X3 G 0 rfl rfl 0 (by decide) lk_X3_ways_13 rfl dX3_ways_60 ?_
      refine lv_aload_n zx zb dX3_ways_63 rfl (lv_at hl 1 rfl) ?_
      refine r_get (C := RX3) (T := TX3) (N := 8) (ci := 1) (v := .int (v 1)) S in_X3_ways_X3 G 0 rfl rfl 1 (by decide) lk_X3_ways_19 rfl dX3_ways_64 ?_
      refine lv_iload zx zb dX3_ways_67 (lv_at hl 0 rfl) ?_
      refine lv_aload_n zx zb dX3_ways_69 rfl (lv_at hl 1 rfl) ?_
      refine r_get (C := RX3) (T := TX3) (N := 8) (ci := 1) (v := .int (v 3)) S in_X3_ways_X3 G 0 rfl rfl 3 (by decide) lk_X3_ways_27 rfl dX3_ways_70 ?_
      refine o_ri (cells' := 0) (slots' := 0) G rfl rfl (n_S (As := [.int (v 0), .int (v 1), .int (((v 5) - 1) + 1), .int (v 3)]) (rest := []) S G (s_reach l X (v 0) (v 1) (((v 5) - 1) + 1) (v 3) s.heap.size) gX3_ways_X2_reach rfl rfl rfl hdS_X2_reach ⟨Nat.le_of_ble_eq_true rfl, Nat.le_of_ble_eq_true rfl⟩ [] rfl rfl rfl hl.1 (Nat.le_of_ble_eq_true rfl) dX3_ways_73 ⟨Nat.le_of_ble_eq_true rfl, Nat.le_of_ble_eq_true rfl⟩) (fun r_4 u_4 H locs hp_4 G => ?_)
      have G : wd X (fun _ => True) (va_A [] sz) s (odW h0 v) H locs := G
      refine lv_istore (lv' := [(5, .int r_4), (4, .int (((v 5) - 1) + 1)), (0, .ref h0), (1, .int x1), (2, .int x2), (3, .int 1)]) zx zb dX3_ways_76 hl (by decide) rfl (fun ls hl => ?_)
      refine lv_aload_n zx zb dX3_ways_78 rfl (lv_at hl 2 rfl) ?_
      refine lv_iload_n zx zb dX3_ways_79 rfl (lv_at hl 3 rfl) ?_
      refine lv_iconst (v := 2) zx zb dX3_ways_80 (by decide) ?_
      refine lv_iload_n zx zb dX3_ways_81 rfl (lv_at hl 5 rfl) ?_
      refine lv_iconst (v := 1) zx zb dX3_ways_82 (by decide) ?_
      refine r_isub (v := 0) S (by decide) dX3_ways_83 ?_
      refine o_rl (cells' := 0) (slots' := 0) G rfl rfl (n_S (As := [.ref h0, .int x1, .int 2, .int 0]) (rest := []) S G (s_ways0 l X h0 v x1 2 H.size) gX3_ways_X3_ways rfl rfl rfl hdS_X3_ways ⟨Nat.le_of_ble_eq_true rfl, Nat.le_of_ble_eq_true rfl⟩ [0] rfl rfl rfl hl.1 (Nat.le_of_ble_eq_true rfl) dX3_ways_84 ⟨Nat.le_of_ble_eq_true rfl, Nat.le_of_ble_eq_true rfl⟩) (fun r_5 u_5 H locs hp_5 G => ?_)
      have G : wd X (fun _ => True) (va_A [] sz) s (odW h0 v) H locs := G
      refine lv_lstore (lv' := [(6, .long r_5), (5, .int r_4), (4, .int (((v 5) - 1) + 1)), (0, .ref h0), (1, .int x1), (2, .int x2), (3, .int 1)]) zx zb dX3_ways_87 hl (by decide) rfl (fun ls hl => ?_)
      refine lv_iload zx zb dX3_ways_89 (lv_at hl 1 rfl) ?_
      refine lv_aload_n zx zb dX3_ways_91 rfl (lv_at hl 3 rfl) ?_
      refine r_get (C := RX3) (T := TX3) (N := 8) (ci := 1) (v := .int (v 2)) S in_X3_ways_X3 G 0 rfl rfl 2 (by decide) lk_X3_ways_23 rfl dX3_ways_92 ?_
      refine lv_iload zx zb dX3_ways_95 (lv_at hl 2 rfl) ?_
      refine o_ri (cells' := 0) (slots' := 0) G rfl rfl (n_S (As := [.int (v 2), .int (((v 5) - 1) + 1)]) (rest := [.int r_4]) S G (s_limit l X (v 2) (((v 5) - 1) + 1) H.size) gX3_ways_X1_limit rfl rfl rfl hdS_X1_limit ⟨Nat.le_of_ble_eq_true rfl, Nat.le_of_ble_eq_true rfl⟩ [] rfl rfl rfl hl.1 (Nat.le_of_ble_eq_true rfl) dX3_ways_97 ⟨Nat.le_of_ble_eq_true rfl, Nat.le_of_ble_eq_true rfl⟩) (fun r_6 u_6 H locs hp_6 G => ?_)
      have G : wd X (fun _ => True) (va_A [] sz) s (odW h0 v) H locs := G
      refine lv_icmp_le (tgt := 110) zx zb dX3_ways_100 (by decide) (fun c_7 => ?_) (fun c_7 => ?_)
      · refine lv_aload_n zx zb dX3_ways_110 rfl (lv_at hl 3 rfl) ?_
        refine r_get (C := RX3) (T := TX3) (N := 8) (ci := 1) (v := .int (v 7)) S in_X3_ways_X3 G 0 rfl rfl 7 (by decide) lk_X3_ways_37 rfl dX3_ways_111 ?_
        refine lv_i2l (v := (Int32.toInt64 (v 7))) zx zb dX3_ways_114 rfl ?_
        refine lv_lload zx zb dX3_ways_115 (lv_at hl 0 rfl) ?_
        refine r_lmul (v := ((Int32.toInt64 (v 7)) * r_5)) S rfl dX3_ways_117 ?_
        refine lv_bipush (v := 10) zx zb dX3_ways_118 (by decide) ?_
        refine lv_aload_n zx zb dX3_ways_120 rfl (lv_at hl 3 rfl) ?_
        refine r_get (C := RX3) (T := TX3) (N := 8) (ci := 1) (v := .int (v 7)) S in_X3_ways_X3 G 0 rfl rfl 7 (by decide) lk_X3_ways_37 rfl dX3_ways_121 ?_
        refine r_isub (v := (10 - (v 7))) S rfl dX3_ways_124 ?_
        refine lv_i2l (v := (Int32.toInt64 (10 - (v 7)))) zx zb dX3_ways_125 rfl ?_
        refine lv_aload_n zx zb dX3_ways_126 rfl (lv_at hl 3 rfl) ?_
        refine lv_iload_n zx zb dX3_ways_127 rfl (lv_at hl 4 rfl) ?_
        refine lv_iload zx zb dX3_ways_128 (lv_at hl 1 rfl) ?_
        refine r_iadd (v := (x1 + r_4)) S rfl dX3_ways_130 ?_
        refine lv_iconst (v := 0) zx zb dX3_ways_131 (by decide) ?_
        refine lv_iload_n zx zb dX3_ways_132 rfl (lv_at hl 6 rfl) ?_
        refine lv_iconst (v := 1) zx zb dX3_ways_133 (by decide) ?_
        refine r_isub (v := 0) S (by decide) dX3_ways_134 ?_
        refine o_rl (cells' := 0) (slots' := 0) G rfl rfl (n_S (As := [.ref h0, .int (x1 + r_4), .int 0, .int 0]) (rest := [.long (Int32.toInt64 (10 - (v 7))), .long ((Int32.toInt64 (v 7)) * r_5)]) S G (s_ways0 l X h0 v (x1 + r_4) 0 H.size) gX3_ways_X3_ways rfl rfl rfl hdS_X3_ways ⟨Nat.le_of_ble_eq_true rfl, Nat.le_of_ble_eq_true rfl⟩ [0] rfl rfl rfl hl.1 (Nat.le_of_ble_eq_true rfl) dX3_ways_135 ⟨Nat.le_of_ble_eq_true rfl, Nat.le_of_ble_eq_true rfl⟩) (fun r_8 u_8 H locs hp_8 G => ?_)
        have G : wd X (fun _ => True) (va_A [] sz) s (odW h0 v) H locs := G
        refine r_lmul (v := ((Int32.toInt64 (10 - (v 7))) * r_8)) S rfl dX3_ways_138 ?_
        refine r_ladd (v := (((Int32.toInt64 (v 7)) * r_5) + ((Int32.toInt64 (10 - (v 7))) * r_8))) S rfl dX3_ways_139 ?_
        exact e_long S zr zlk G () [] rfl rfl (Or.inl rfl) (trivial) dX3_ways_140
      · refine lv_ldc2 zx zb S.2.2.2.1 (S.2.2.2.2 _ mm_X3_ways_c44) dX3_ways_103 ?_
        refine k_ld (v := (Int32.toInt64 10)) (by decide) ?_
        refine lv_lload zx zb dX3_ways_106 (lv_at hl 0 rfl) ?_
        refine r_lmul (v := ((Int32.toInt64 10) * r_5)) S rfl dX3_ways_108 ?_
        exact e_long S zr zlk G () [] rfl rfl (Or.inl rfl) (trivial) dX3_ways_109
    · refine lv_ldc2 zx zb S.2.2.2.1 (S.2.2.2.2 _ mm_X3_ways_c44) dX3_ways_33 ?_
      refine k_ld (v := (Int32.toInt64 10)) (by decide) ?_
      refine lv_aload_n zx zb dX3_ways_36 rfl (lv_at hl 0 rfl) ?_
      refine lv_iload_n zx zb dX3_ways_37 rfl (lv_at hl 1 rfl) ?_
      refine lv_iload_n zx zb dX3_ways_38 rfl (lv_at hl 2 rfl) ?_
      refine lv_iconst (v := 1) zx zb dX3_ways_39 (by decide) ?_
      refine r_isub (v := (x2 - 1)) S rfl dX3_ways_40 ?_
      refine lv_iload_n zx zb dX3_ways_41 rfl (lv_at hl 3 rfl) ?_
      refine lv_iconst (v := 1) zx zb dX3_ways_42 (by decide) ?_
      refine r_isub (v := 0) S (by decide) dX3_ways_43 ?_
      refine o_rl (cells' := 0) (slots' := 0) G rfl rfl (n_S (As := [.ref h0, .int x1, .int (x2 - 1), .int 0]) (rest := [.long (Int32.toInt64 10)]) S G (s_ways0 l X h0 v x1 (x2 - 1) s.heap.size) gX3_ways_X3_ways rfl rfl rfl hdS_X3_ways ⟨Nat.le_of_ble_eq_true rfl, Nat.le_of_ble_eq_true rfl⟩ [0] rfl rfl rfl hl.1 (Nat.le_of_ble_eq_true rfl) dX3_ways_44 ⟨Nat.le_of_ble_eq_true rfl, Nat.le_of_ble_eq_true rfl⟩) (fun r_9 u_9 H locs hp_9 G => ?_)
      have G : wd X (fun _ => True) (va_A [] sz) s (odW h0 v) H locs := G
      refine r_lmul (v := ((Int32.toInt64 10) * r_9)) S rfl dX3_ways_47 ?_
      exact e_long S zr zlk G () [] rfl rfl (Or.inl rfl) (trivial) dX3_ways_48
  · refine lv_iload_n zx zb dX3_ways_12 rfl (lv_at hl 1 rfl) ?_
    refine lv_aload_n zx zb dX3_ways_13 rfl (lv_at hl 0 rfl) ?_
    refine r_get (C := RX3) (T := TX3) (N := 8) (ci := 1) (v := .int (v 6)) S in_X3_ways_X3 G 0 rfl rfl 6 (by decide) lk_X3_ways_34 rfl dX3_ways_14 ?_
    refine k_cutW (PP := fun Wx => ∀ (x_11 : Int64) (H : Heap) (locs : List Loc) (ls : Array Slot), wd X (fun _ => True) (va_A [] sz) s (odW h0 v) H locs → lv_has ls 8 [(0, .ref h0), (1, .int x1), (2, .int x2), (3, .int 1)] → Wx (F0 m 28 ls [.long x_11]) H locs) ?_ ?_
    · intro join_17
      refine lv_icmp_lt (tgt := 27) zx zb dX3_ways_17 (by decide) (fun c_10 => ?_) (fun c_10 => ?_)
      · refine lv_lconst (v := (Int32.toInt64 0)) zx zb dX3_ways_27 (by decide) ?_
        exact join_17 (Int32.toInt64 0) _ _ _  G hl
      · refine lv_iload_n zx zb dX3_ways_20 rfl (lv_at hl 3 rfl) ?_
        refine o_rl (cells' := 0) (slots' := 0) G rfl rfl (n_S (As := [.int 1]) (rest := []) S G (s_tenTo l X 1 (by omega) s.heap.size) gX3_ways_X3_tenTo rfl rfl rfl hdS_X3_tenTo ⟨Nat.le_of_ble_eq_true rfl, Nat.le_of_ble_eq_true rfl⟩ [] rfl rfl rfl hl.1 (Nat.le_of_ble_eq_true rfl) dX3_ways_21 ⟨Nat.le_of_ble_eq_true rfl, Nat.le_of_ble_eq_true rfl⟩) (fun r_12 u_12 H locs hp_12 G => ?_)
        have G : wd X (fun _ => True) (va_A [] sz) s (odW h0 v) H locs := G
        refine lv_goto (tgt := 28) zx zb dX3_ways_24 (by decide) ?_
        exact join_17 r_12 _ _ _  G hl
    · intro x_11 H locs ls  G hl
      exact e_long S zr zlk G () [] rfl rfl (Or.inl rfl) (trivial) dX3_ways_28
set_option maxHeartbeats 4000000 in
set_option maxRecDepth 100000 in
/-- ways, 2 ticks left -/
theorem s_ways2 (l : Launch) (X : EX) (h0 : Nat) (v : Nat → Int32) (x1 : Int32) (x2 : Int32) (sz : Nat) : Met l yX3_ways wsX3_ways ({ frames := 3, cells := 0, slots := 0, locals := 77 } : Room) (pE X [.ref h0, .int x1, .int x2, .int 2] (odW h0 v) sz) (qL (fun (r : Int64) (u : Unit) => True) X (fun (u : Unit) => []) [] sz) 0 0 (va_A [] sz) := by
  refine mk_met (B := (fun _ => True)) (A := (va_A [] sz)) (cc := cX3_ways) (maxL := 8) (ret := (some .long)) (by decide) rfl (Nat.le_of_ble_eq_true rfl) k_ro k_a (fun p e s m below meth c S zr zlk znm zsz G ls hl => ?_)
  have S : CallFix p m c cX3_ways 8 s _ wsX3_ways RX3 := S
  have zx := S.1
  have zb := S.2.1
  have hl : lv_has ls 8 [(0, .ref h0), (1, .int x1), (2, .int x2), (3, .int 2)] := hl
  refine lv_iload_n zx zb dX3_ways_0 rfl (lv_at hl 3 rfl) ?_
  refine lv_if_le (tgt := 12) zx zb dX3_ways_1 (by decide) (fun c_1 => absurd c_1 (by decide)) (fun c_1 => ?_)
  refine lv_iload_n zx zb dX3_ways_4 rfl (lv_at hl 1 rfl) ?_
  refine lv_aload_n zx zb dX3_ways_5 rfl (lv_at hl 0 rfl) ?_
  refine r_get (C := RX3) (T := TX3) (N := 8) (ci := 1) (v := .int (v 4)) S in_X3_ways_X3 G 0 rfl rfl 4 (by decide) lk_X3_ways_28 rfl dX3_ways_6 ?_
  refine lv_icmp_lt (tgt := 29) zx zb dX3_ways_9 (by decide) (fun c_2 => ?_) (fun c_2 => ?_)
  · refine lv_iload_n zx zb dX3_ways_29 rfl (lv_at hl 2 rfl) ?_
    refine lv_if_le (tgt := 49) zx zb dX3_ways_30 (by decide) (fun c_3 => ?_) (fun c_3 => ?_)
    · refine lv_aload_n zx zb dX3_ways_49 rfl (lv_at hl 0 rfl) ?_
      refine r_get (C := RX3) (T := TX3) (N := 8) (ci := 1) (v := .int (v 5)) S in_X3_ways_X3 G 0 rfl rfl 5 (by decide) lk_X3_ways_31 rfl dX3_ways_50 ?_
      refine lv_iload_n zx zb dX3_ways_53 rfl (lv_at hl 3 rfl) ?_
      refine r_isub (v := ((v 5) - 2)) S rfl dX3_ways_54 ?_
      refine lv_iconst (v := 1) zx zb dX3_ways_55 (by decide) ?_
      refine r_iadd (v := (((v 5) - 2) + 1)) S rfl dX3_ways_56 ?_
      refine lv_istore (lv' := [(4, .int (((v 5) - 2) + 1)), (0, .ref h0), (1, .int x1), (2, .int x2), (3, .int 2)]) zx zb dX3_ways_57 hl (by decide) rfl (fun ls hl => ?_)
      refine lv_aload_n zx zb dX3_ways_59 rfl (lv_at hl 1 rfl) ?_
      refine r_get (C := RX3) (T := TX3) (N := 8) (ci := 1) (v := .int (v 0)) S in_X3_ways_X3 G 0 rfl rfl 0 (by decide) lk_X3_ways_13 rfl dX3_ways_60 ?_
      refine lv_aload_n zx zb dX3_ways_63 rfl (lv_at hl 1 rfl) ?_
      refine r_get (C := RX3) (T := TX3) (N := 8) (ci := 1) (v := .int (v 1)) S in_X3_ways_X3 G 0 rfl rfl 1 (by decide) lk_X3_ways_19 rfl dX3_ways_64 ?_
      refine lv_iload zx zb dX3_ways_67 (lv_at hl 0 rfl) ?_
      refine lv_aload_n zx zb dX3_ways_69 rfl (lv_at hl 1 rfl) ?_
      refine r_get (C := RX3) (T := TX3) (N := 8) (ci := 1) (v := .int (v 3)) S in_X3_ways_X3 G 0 rfl rfl 3 (by decide) lk_X3_ways_27 rfl dX3_ways_70 ?_
      refine o_ri (cells' := 0) (slots' := 0) G rfl rfl (n_S (As := [.int (v 0), .int (v 1), .int (((v 5) - 2) + 1), .int (v 3)]) (rest := []) S G (s_reach l X (v 0) (v 1) (((v 5) - 2) + 1) (v 3) s.heap.size) gX3_ways_X2_reach rfl rfl rfl hdS_X2_reach ⟨Nat.le_of_ble_eq_true rfl, Nat.le_of_ble_eq_true rfl⟩ [] rfl rfl rfl hl.1 (Nat.le_of_ble_eq_true rfl) dX3_ways_73 ⟨Nat.le_of_ble_eq_true rfl, Nat.le_of_ble_eq_true rfl⟩) (fun r_4 u_4 H locs hp_4 G => ?_)
      have G : wd X (fun _ => True) (va_A [] sz) s (odW h0 v) H locs := G
      refine lv_istore (lv' := [(5, .int r_4), (4, .int (((v 5) - 2) + 1)), (0, .ref h0), (1, .int x1), (2, .int x2), (3, .int 2)]) zx zb dX3_ways_76 hl (by decide) rfl (fun ls hl => ?_)
      refine lv_aload_n zx zb dX3_ways_78 rfl (lv_at hl 2 rfl) ?_
      refine lv_iload_n zx zb dX3_ways_79 rfl (lv_at hl 3 rfl) ?_
      refine lv_iconst (v := 2) zx zb dX3_ways_80 (by decide) ?_
      refine lv_iload_n zx zb dX3_ways_81 rfl (lv_at hl 5 rfl) ?_
      refine lv_iconst (v := 1) zx zb dX3_ways_82 (by decide) ?_
      refine r_isub (v := 1) S (by decide) dX3_ways_83 ?_
      refine o_rl (cells' := 0) (slots' := 0) G rfl rfl (n_S (As := [.ref h0, .int x1, .int 2, .int 1]) (rest := []) S G (s_ways1 l X h0 v x1 2 H.size) gX3_ways_X3_ways rfl rfl rfl hdS_X3_ways ⟨Nat.le_of_ble_eq_true rfl, Nat.le_of_ble_eq_true rfl⟩ [0] rfl rfl rfl hl.1 (Nat.le_of_ble_eq_true rfl) dX3_ways_84 ⟨Nat.le_of_ble_eq_true rfl, Nat.le_of_ble_eq_true rfl⟩) (fun r_5 u_5 H locs hp_5 G => ?_)
      have G : wd X (fun _ => True) (va_A [] sz) s (odW h0 v) H locs := G
      refine lv_lstore (lv' := [(6, .long r_5), (5, .int r_4), (4, .int (((v 5) - 2) + 1)), (0, .ref h0), (1, .int x1), (2, .int x2), (3, .int 2)]) zx zb dX3_ways_87 hl (by decide) rfl (fun ls hl => ?_)
      refine lv_iload zx zb dX3_ways_89 (lv_at hl 1 rfl) ?_
      refine lv_aload_n zx zb dX3_ways_91 rfl (lv_at hl 3 rfl) ?_
      refine r_get (C := RX3) (T := TX3) (N := 8) (ci := 1) (v := .int (v 2)) S in_X3_ways_X3 G 0 rfl rfl 2 (by decide) lk_X3_ways_23 rfl dX3_ways_92 ?_
      refine lv_iload zx zb dX3_ways_95 (lv_at hl 2 rfl) ?_
      refine o_ri (cells' := 0) (slots' := 0) G rfl rfl (n_S (As := [.int (v 2), .int (((v 5) - 2) + 1)]) (rest := [.int r_4]) S G (s_limit l X (v 2) (((v 5) - 2) + 1) H.size) gX3_ways_X1_limit rfl rfl rfl hdS_X1_limit ⟨Nat.le_of_ble_eq_true rfl, Nat.le_of_ble_eq_true rfl⟩ [] rfl rfl rfl hl.1 (Nat.le_of_ble_eq_true rfl) dX3_ways_97 ⟨Nat.le_of_ble_eq_true rfl, Nat.le_of_ble_eq_true rfl⟩) (fun r_6 u_6 H locs hp_6 G => ?_)
      have G : wd X (fun _ => True) (va_A [] sz) s (odW h0 v) H locs := G
      refine lv_icmp_le (tgt := 110) zx zb dX3_ways_100 (by decide) (fun c_7 => ?_) (fun c_7 => ?_)
      · refine lv_aload_n zx zb dX3_ways_110 rfl (lv_at hl 3 rfl) ?_
        refine r_get (C := RX3) (T := TX3) (N := 8) (ci := 1) (v := .int (v 7)) S in_X3_ways_X3 G 0 rfl rfl 7 (by decide) lk_X3_ways_37 rfl dX3_ways_111 ?_
        refine lv_i2l (v := (Int32.toInt64 (v 7))) zx zb dX3_ways_114 rfl ?_
        refine lv_lload zx zb dX3_ways_115 (lv_at hl 0 rfl) ?_
        refine r_lmul (v := ((Int32.toInt64 (v 7)) * r_5)) S rfl dX3_ways_117 ?_
        refine lv_bipush (v := 10) zx zb dX3_ways_118 (by decide) ?_
        refine lv_aload_n zx zb dX3_ways_120 rfl (lv_at hl 3 rfl) ?_
        refine r_get (C := RX3) (T := TX3) (N := 8) (ci := 1) (v := .int (v 7)) S in_X3_ways_X3 G 0 rfl rfl 7 (by decide) lk_X3_ways_37 rfl dX3_ways_121 ?_
        refine r_isub (v := (10 - (v 7))) S rfl dX3_ways_124 ?_
        refine lv_i2l (v := (Int32.toInt64 (10 - (v 7)))) zx zb dX3_ways_125 rfl ?_
        refine lv_aload_n zx zb dX3_ways_126 rfl (lv_at hl 3 rfl) ?_
        refine lv_iload_n zx zb dX3_ways_127 rfl (lv_at hl 4 rfl) ?_
        refine lv_iload zx zb dX3_ways_128 (lv_at hl 1 rfl) ?_
        refine r_iadd (v := (x1 + r_4)) S rfl dX3_ways_130 ?_
        refine lv_iconst (v := 0) zx zb dX3_ways_131 (by decide) ?_
        refine lv_iload_n zx zb dX3_ways_132 rfl (lv_at hl 6 rfl) ?_
        refine lv_iconst (v := 1) zx zb dX3_ways_133 (by decide) ?_
        refine r_isub (v := 1) S (by decide) dX3_ways_134 ?_
        refine o_rl (cells' := 0) (slots' := 0) G rfl rfl (n_S (As := [.ref h0, .int (x1 + r_4), .int 0, .int 1]) (rest := [.long (Int32.toInt64 (10 - (v 7))), .long ((Int32.toInt64 (v 7)) * r_5)]) S G (s_ways1 l X h0 v (x1 + r_4) 0 H.size) gX3_ways_X3_ways rfl rfl rfl hdS_X3_ways ⟨Nat.le_of_ble_eq_true rfl, Nat.le_of_ble_eq_true rfl⟩ [0] rfl rfl rfl hl.1 (Nat.le_of_ble_eq_true rfl) dX3_ways_135 ⟨Nat.le_of_ble_eq_true rfl, Nat.le_of_ble_eq_true rfl⟩) (fun r_8 u_8 H locs hp_8 G => ?_)
        have G : wd X (fun _ => True) (va_A [] sz) s (odW h0 v) H locs := G
        refine r_lmul (v := ((Int32.toInt64 (10 - (v 7))) * r_8)) S rfl dX3_ways_138 ?_
        refine r_ladd (v := (((Int32.toInt64 (v 7)) * r_5) + ((Int32.toInt64 (10 - (v 7))) * r_8))) S rfl dX3_ways_139 ?_
        exact e_long S zr zlk G () [] rfl rfl (Or.inl rfl) (trivial) dX3_ways_140
      · refine lv_ldc2 zx zb S.2.2.2.1 (S.2.2.2.2 _ mm_X3_ways_c44) dX3_ways_103 ?_
        refine k_ld (v := (Int32.toInt64 10)) (by decide) ?_
        refine lv_lload zx zb dX3_ways_106 (lv_at hl 0 rfl) ?_
        refine r_lmul (v := ((Int32.toInt64 10) * r_5)) S rfl dX3_ways_108 ?_
        exact e_long S zr zlk G () [] rfl rfl (Or.inl rfl) (trivial) dX3_ways_109
    · refine lv_ldc2 zx zb S.2.2.2.1 (S.2.2.2.2 _ mm_X3_ways_c44) dX3_ways_33 ?_
      refine k_ld (v := (Int32.toInt64 10)) (by decide) ?_
      refine lv_aload_n zx zb dX3_ways_36 rfl (lv_at hl 0 rfl) ?_
      refine lv_iload_n zx zb dX3_ways_37 rfl (lv_at hl 1 rfl) ?_
      refine lv_iload_n zx zb dX3_ways_38 rfl (lv_at hl 2 rfl) ?_
      refine lv_iconst (v := 1) zx zb dX3_ways_39 (by decide) ?_
      refine r_isub (v := (x2 - 1)) S rfl dX3_ways_40 ?_
      refine lv_iload_n zx zb dX3_ways_41 rfl (lv_at hl 3 rfl) ?_
      refine lv_iconst (v := 1) zx zb dX3_ways_42 (by decide) ?_
      refine r_isub (v := 1) S (by decide) dX3_ways_43 ?_
      refine o_rl (cells' := 0) (slots' := 0) G rfl rfl (n_S (As := [.ref h0, .int x1, .int (x2 - 1), .int 1]) (rest := [.long (Int32.toInt64 10)]) S G (s_ways1 l X h0 v x1 (x2 - 1) s.heap.size) gX3_ways_X3_ways rfl rfl rfl hdS_X3_ways ⟨Nat.le_of_ble_eq_true rfl, Nat.le_of_ble_eq_true rfl⟩ [0] rfl rfl rfl hl.1 (Nat.le_of_ble_eq_true rfl) dX3_ways_44 ⟨Nat.le_of_ble_eq_true rfl, Nat.le_of_ble_eq_true rfl⟩) (fun r_9 u_9 H locs hp_9 G => ?_)
      have G : wd X (fun _ => True) (va_A [] sz) s (odW h0 v) H locs := G
      refine r_lmul (v := ((Int32.toInt64 10) * r_9)) S rfl dX3_ways_47 ?_
      exact e_long S zr zlk G () [] rfl rfl (Or.inl rfl) (trivial) dX3_ways_48
  · refine lv_iload_n zx zb dX3_ways_12 rfl (lv_at hl 1 rfl) ?_
    refine lv_aload_n zx zb dX3_ways_13 rfl (lv_at hl 0 rfl) ?_
    refine r_get (C := RX3) (T := TX3) (N := 8) (ci := 1) (v := .int (v 6)) S in_X3_ways_X3 G 0 rfl rfl 6 (by decide) lk_X3_ways_34 rfl dX3_ways_14 ?_
    refine k_cutW (PP := fun Wx => ∀ (x_11 : Int64) (H : Heap) (locs : List Loc) (ls : Array Slot), wd X (fun _ => True) (va_A [] sz) s (odW h0 v) H locs → lv_has ls 8 [(0, .ref h0), (1, .int x1), (2, .int x2), (3, .int 2)] → Wx (F0 m 28 ls [.long x_11]) H locs) ?_ ?_
    · intro join_17
      refine lv_icmp_lt (tgt := 27) zx zb dX3_ways_17 (by decide) (fun c_10 => ?_) (fun c_10 => ?_)
      · refine lv_lconst (v := (Int32.toInt64 0)) zx zb dX3_ways_27 (by decide) ?_
        exact join_17 (Int32.toInt64 0) _ _ _  G hl
      · refine lv_iload_n zx zb dX3_ways_20 rfl (lv_at hl 3 rfl) ?_
        refine o_rl (cells' := 0) (slots' := 0) G rfl rfl (n_S (As := [.int 2]) (rest := []) S G (s_tenTo l X 2 (by omega) s.heap.size) gX3_ways_X3_tenTo rfl rfl rfl hdS_X3_tenTo ⟨Nat.le_of_ble_eq_true rfl, Nat.le_of_ble_eq_true rfl⟩ [] rfl rfl rfl hl.1 (Nat.le_of_ble_eq_true rfl) dX3_ways_21 ⟨Nat.le_of_ble_eq_true rfl, Nat.le_of_ble_eq_true rfl⟩) (fun r_12 u_12 H locs hp_12 G => ?_)
        have G : wd X (fun _ => True) (va_A [] sz) s (odW h0 v) H locs := G
        refine lv_goto (tgt := 28) zx zb dX3_ways_24 (by decide) ?_
        exact join_17 r_12 _ _ _  G hl
    · intro x_11 H locs ls  G hl
      exact e_long S zr zlk G () [] rfl rfl (Or.inl rfl) (trivial) dX3_ways_28
set_option maxHeartbeats 4000000 in
set_option maxRecDepth 100000 in
/-- ways, 3 ticks left -/
theorem s_ways3 (l : Launch) (X : EX) (h0 : Nat) (v : Nat → Int32) (x1 : Int32) (x2 : Int32) (sz : Nat) : Met l yX3_ways wsX3_ways ({ frames := 4, cells := 0, slots := 0, locals := 104 } : Room) (pE X [.ref h0, .int x1, .int x2, .int 3] (odW h0 v) sz) (qL (fun (r : Int64) (u : Unit) => True) X (fun (u : Unit) => []) [] sz) 0 0 (va_A [] sz) := by
  refine mk_met (B := (fun _ => True)) (A := (va_A [] sz)) (cc := cX3_ways) (maxL := 8) (ret := (some .long)) (by decide) rfl (Nat.le_of_ble_eq_true rfl) k_ro k_a (fun p e s m below meth c S zr zlk znm zsz G ls hl => ?_)
  have S : CallFix p m c cX3_ways 8 s _ wsX3_ways RX3 := S
  have zx := S.1
  have zb := S.2.1
  have hl : lv_has ls 8 [(0, .ref h0), (1, .int x1), (2, .int x2), (3, .int 3)] := hl
  refine lv_iload_n zx zb dX3_ways_0 rfl (lv_at hl 3 rfl) ?_
  refine lv_if_le (tgt := 12) zx zb dX3_ways_1 (by decide) (fun c_1 => absurd c_1 (by decide)) (fun c_1 => ?_)
  refine lv_iload_n zx zb dX3_ways_4 rfl (lv_at hl 1 rfl) ?_
  refine lv_aload_n zx zb dX3_ways_5 rfl (lv_at hl 0 rfl) ?_
  refine r_get (C := RX3) (T := TX3) (N := 8) (ci := 1) (v := .int (v 4)) S in_X3_ways_X3 G 0 rfl rfl 4 (by decide) lk_X3_ways_28 rfl dX3_ways_6 ?_
  refine lv_icmp_lt (tgt := 29) zx zb dX3_ways_9 (by decide) (fun c_2 => ?_) (fun c_2 => ?_)
  · refine lv_iload_n zx zb dX3_ways_29 rfl (lv_at hl 2 rfl) ?_
    refine lv_if_le (tgt := 49) zx zb dX3_ways_30 (by decide) (fun c_3 => ?_) (fun c_3 => ?_)
    · refine lv_aload_n zx zb dX3_ways_49 rfl (lv_at hl 0 rfl) ?_
      refine r_get (C := RX3) (T := TX3) (N := 8) (ci := 1) (v := .int (v 5)) S in_X3_ways_X3 G 0 rfl rfl 5 (by decide) lk_X3_ways_31 rfl dX3_ways_50 ?_
      refine lv_iload_n zx zb dX3_ways_53 rfl (lv_at hl 3 rfl) ?_
      refine r_isub (v := ((v 5) - 3)) S rfl dX3_ways_54 ?_
      refine lv_iconst (v := 1) zx zb dX3_ways_55 (by decide) ?_
      refine r_iadd (v := (((v 5) - 3) + 1)) S rfl dX3_ways_56 ?_
      refine lv_istore (lv' := [(4, .int (((v 5) - 3) + 1)), (0, .ref h0), (1, .int x1), (2, .int x2), (3, .int 3)]) zx zb dX3_ways_57 hl (by decide) rfl (fun ls hl => ?_)
      refine lv_aload_n zx zb dX3_ways_59 rfl (lv_at hl 1 rfl) ?_
      refine r_get (C := RX3) (T := TX3) (N := 8) (ci := 1) (v := .int (v 0)) S in_X3_ways_X3 G 0 rfl rfl 0 (by decide) lk_X3_ways_13 rfl dX3_ways_60 ?_
      refine lv_aload_n zx zb dX3_ways_63 rfl (lv_at hl 1 rfl) ?_
      refine r_get (C := RX3) (T := TX3) (N := 8) (ci := 1) (v := .int (v 1)) S in_X3_ways_X3 G 0 rfl rfl 1 (by decide) lk_X3_ways_19 rfl dX3_ways_64 ?_
      refine lv_iload zx zb dX3_ways_67 (lv_at hl 0 rfl) ?_
      refine lv_aload_n zx zb dX3_ways_69 rfl (lv_at hl 1 rfl) ?_
      refine r_get (C := RX3) (T := TX3) (N := 8) (ci := 1) (v := .int (v 3)) S in_X3_ways_X3 G 0 rfl rfl 3 (by decide) lk_X3_ways_27 rfl dX3_ways_70 ?_
      refine o_ri (cells' := 0) (slots' := 0) G rfl rfl (n_S (As := [.int (v 0), .int (v 1), .int (((v 5) - 3) + 1), .int (v 3)]) (rest := []) S G (s_reach l X (v 0) (v 1) (((v 5) - 3) + 1) (v 3) s.heap.size) gX3_ways_X2_reach rfl rfl rfl hdS_X2_reach ⟨Nat.le_of_ble_eq_true rfl, Nat.le_of_ble_eq_true rfl⟩ [] rfl rfl rfl hl.1 (Nat.le_of_ble_eq_true rfl) dX3_ways_73 ⟨Nat.le_of_ble_eq_true rfl, Nat.le_of_ble_eq_true rfl⟩) (fun r_4 u_4 H locs hp_4 G => ?_)
      have G : wd X (fun _ => True) (va_A [] sz) s (odW h0 v) H locs := G
      refine lv_istore (lv' := [(5, .int r_4), (4, .int (((v 5) - 3) + 1)), (0, .ref h0), (1, .int x1), (2, .int x2), (3, .int 3)]) zx zb dX3_ways_76 hl (by decide) rfl (fun ls hl => ?_)
      refine lv_aload_n zx zb dX3_ways_78 rfl (lv_at hl 2 rfl) ?_
      refine lv_iload_n zx zb dX3_ways_79 rfl (lv_at hl 3 rfl) ?_
      refine lv_iconst (v := 2) zx zb dX3_ways_80 (by decide) ?_
      refine lv_iload_n zx zb dX3_ways_81 rfl (lv_at hl 5 rfl) ?_
      refine lv_iconst (v := 1) zx zb dX3_ways_82 (by decide) ?_
      refine r_isub (v := 2) S (by decide) dX3_ways_83 ?_
      refine o_rl (cells' := 0) (slots' := 0) G rfl rfl (n_S (As := [.ref h0, .int x1, .int 2, .int 2]) (rest := []) S G (s_ways2 l X h0 v x1 2 H.size) gX3_ways_X3_ways rfl rfl rfl hdS_X3_ways ⟨Nat.le_of_ble_eq_true rfl, Nat.le_of_ble_eq_true rfl⟩ [0] rfl rfl rfl hl.1 (Nat.le_of_ble_eq_true rfl) dX3_ways_84 ⟨Nat.le_of_ble_eq_true rfl, Nat.le_of_ble_eq_true rfl⟩) (fun r_5 u_5 H locs hp_5 G => ?_)
      have G : wd X (fun _ => True) (va_A [] sz) s (odW h0 v) H locs := G
      refine lv_lstore (lv' := [(6, .long r_5), (5, .int r_4), (4, .int (((v 5) - 3) + 1)), (0, .ref h0), (1, .int x1), (2, .int x2), (3, .int 3)]) zx zb dX3_ways_87 hl (by decide) rfl (fun ls hl => ?_)
      refine lv_iload zx zb dX3_ways_89 (lv_at hl 1 rfl) ?_
      refine lv_aload_n zx zb dX3_ways_91 rfl (lv_at hl 3 rfl) ?_
      refine r_get (C := RX3) (T := TX3) (N := 8) (ci := 1) (v := .int (v 2)) S in_X3_ways_X3 G 0 rfl rfl 2 (by decide) lk_X3_ways_23 rfl dX3_ways_92 ?_
      refine lv_iload zx zb dX3_ways_95 (lv_at hl 2 rfl) ?_
      refine o_ri (cells' := 0) (slots' := 0) G rfl rfl (n_S (As := [.int (v 2), .int (((v 5) - 3) + 1)]) (rest := [.int r_4]) S G (s_limit l X (v 2) (((v 5) - 3) + 1) H.size) gX3_ways_X1_limit rfl rfl rfl hdS_X1_limit ⟨Nat.le_of_ble_eq_true rfl, Nat.le_of_ble_eq_true rfl⟩ [] rfl rfl rfl hl.1 (Nat.le_of_ble_eq_true rfl) dX3_ways_97 ⟨Nat.le_of_ble_eq_true rfl, Nat.le_of_ble_eq_true rfl⟩) (fun r_6 u_6 H locs hp_6 G => ?_)
      have G : wd X (fun _ => True) (va_A [] sz) s (odW h0 v) H locs := G
      refine lv_icmp_le (tgt := 110) zx zb dX3_ways_100 (by decide) (fun c_7 => ?_) (fun c_7 => ?_)
      · refine lv_aload_n zx zb dX3_ways_110 rfl (lv_at hl 3 rfl) ?_
        refine r_get (C := RX3) (T := TX3) (N := 8) (ci := 1) (v := .int (v 7)) S in_X3_ways_X3 G 0 rfl rfl 7 (by decide) lk_X3_ways_37 rfl dX3_ways_111 ?_
        refine lv_i2l (v := (Int32.toInt64 (v 7))) zx zb dX3_ways_114 rfl ?_
        refine lv_lload zx zb dX3_ways_115 (lv_at hl 0 rfl) ?_
        refine r_lmul (v := ((Int32.toInt64 (v 7)) * r_5)) S rfl dX3_ways_117 ?_
        refine lv_bipush (v := 10) zx zb dX3_ways_118 (by decide) ?_
        refine lv_aload_n zx zb dX3_ways_120 rfl (lv_at hl 3 rfl) ?_
        refine r_get (C := RX3) (T := TX3) (N := 8) (ci := 1) (v := .int (v 7)) S in_X3_ways_X3 G 0 rfl rfl 7 (by decide) lk_X3_ways_37 rfl dX3_ways_121 ?_
        refine r_isub (v := (10 - (v 7))) S rfl dX3_ways_124 ?_
        refine lv_i2l (v := (Int32.toInt64 (10 - (v 7)))) zx zb dX3_ways_125 rfl ?_
        refine lv_aload_n zx zb dX3_ways_126 rfl (lv_at hl 3 rfl) ?_
        refine lv_iload_n zx zb dX3_ways_127 rfl (lv_at hl 4 rfl) ?_
        refine lv_iload zx zb dX3_ways_128 (lv_at hl 1 rfl) ?_
        refine r_iadd (v := (x1 + r_4)) S rfl dX3_ways_130 ?_
        refine lv_iconst (v := 0) zx zb dX3_ways_131 (by decide) ?_
        refine lv_iload_n zx zb dX3_ways_132 rfl (lv_at hl 6 rfl) ?_
        refine lv_iconst (v := 1) zx zb dX3_ways_133 (by decide) ?_
        refine r_isub (v := 2) S (by decide) dX3_ways_134 ?_
        refine o_rl (cells' := 0) (slots' := 0) G rfl rfl (n_S (As := [.ref h0, .int (x1 + r_4), .int 0, .int 2]) (rest := [.long (Int32.toInt64 (10 - (v 7))), .long ((Int32.toInt64 (v 7)) * r_5)]) S G (s_ways2 l X h0 v (x1 + r_4) 0 H.size) gX3_ways_X3_ways rfl rfl rfl hdS_X3_ways ⟨Nat.le_of_ble_eq_true rfl, Nat.le_of_ble_eq_true rfl⟩ [0] rfl rfl rfl hl.1 (Nat.le_of_ble_eq_true rfl) dX3_ways_135 ⟨Nat.le_of_ble_eq_true rfl, Nat.le_of_ble_eq_true rfl⟩) (fun r_8 u_8 H locs hp_8 G => ?_)
        have G : wd X (fun _ => True) (va_A [] sz) s (odW h0 v) H locs := G
        refine r_lmul (v := ((Int32.toInt64 (10 - (v 7))) * r_8)) S rfl dX3_ways_138 ?_
        refine r_ladd (v := (((Int32.toInt64 (v 7)) * r_5) + ((Int32.toInt64 (10 - (v 7))) * r_8))) S rfl dX3_ways_139 ?_
        exact e_long S zr zlk G () [] rfl rfl (Or.inl rfl) (trivial) dX3_ways_140
      · refine lv_ldc2 zx zb S.2.2.2.1 (S.2.2.2.2 _ mm_X3_ways_c44) dX3_ways_103 ?_
        refine k_ld (v := (Int32.toInt64 10)) (by decide) ?_
        refine lv_lload zx zb dX3_ways_106 (lv_at hl 0 rfl) ?_
        refine r_lmul (v := ((Int32.toInt64 10) * r_5)) S rfl dX3_ways_108 ?_
        exact e_long S zr zlk G () [] rfl rfl (Or.inl rfl) (trivial) dX3_ways_109
    · refine lv_ldc2 zx zb S.2.2.2.1 (S.2.2.2.2 _ mm_X3_ways_c44) dX3_ways_33 ?_
      refine k_ld (v := (Int32.toInt64 10)) (by decide) ?_
      refine lv_aload_n zx zb dX3_ways_36 rfl (lv_at hl 0 rfl) ?_
      refine lv_iload_n zx zb dX3_ways_37 rfl (lv_at hl 1 rfl) ?_
      refine lv_iload_n zx zb dX3_ways_38 rfl (lv_at hl 2 rfl) ?_
      refine lv_iconst (v := 1) zx zb dX3_ways_39 (by decide) ?_
      refine r_isub (v := (x2 - 1)) S rfl dX3_ways_40 ?_
      refine lv_iload_n zx zb dX3_ways_41 rfl (lv_at hl 3 rfl) ?_
      refine lv_iconst (v := 1) zx zb dX3_ways_42 (by decide) ?_
      refine r_isub (v := 2) S (by decide) dX3_ways_43 ?_
      refine o_rl (cells' := 0) (slots' := 0) G rfl rfl (n_S (As := [.ref h0, .int x1, .int (x2 - 1), .int 2]) (rest := [.long (Int32.toInt64 10)]) S G (s_ways2 l X h0 v x1 (x2 - 1) s.heap.size) gX3_ways_X3_ways rfl rfl rfl hdS_X3_ways ⟨Nat.le_of_ble_eq_true rfl, Nat.le_of_ble_eq_true rfl⟩ [0] rfl rfl rfl hl.1 (Nat.le_of_ble_eq_true rfl) dX3_ways_44 ⟨Nat.le_of_ble_eq_true rfl, Nat.le_of_ble_eq_true rfl⟩) (fun r_9 u_9 H locs hp_9 G => ?_)
      have G : wd X (fun _ => True) (va_A [] sz) s (odW h0 v) H locs := G
      refine r_lmul (v := ((Int32.toInt64 10) * r_9)) S rfl dX3_ways_47 ?_
      exact e_long S zr zlk G () [] rfl rfl (Or.inl rfl) (trivial) dX3_ways_48
  · refine lv_iload_n zx zb dX3_ways_12 rfl (lv_at hl 1 rfl) ?_
    refine lv_aload_n zx zb dX3_ways_13 rfl (lv_at hl 0 rfl) ?_
    refine r_get (C := RX3) (T := TX3) (N := 8) (ci := 1) (v := .int (v 6)) S in_X3_ways_X3 G 0 rfl rfl 6 (by decide) lk_X3_ways_34 rfl dX3_ways_14 ?_
    refine k_cutW (PP := fun Wx => ∀ (x_11 : Int64) (H : Heap) (locs : List Loc) (ls : Array Slot), wd X (fun _ => True) (va_A [] sz) s (odW h0 v) H locs → lv_has ls 8 [(0, .ref h0), (1, .int x1), (2, .int x2), (3, .int 3)] → Wx (F0 m 28 ls [.long x_11]) H locs) ?_ ?_
    · intro join_17
      refine lv_icmp_lt (tgt := 27) zx zb dX3_ways_17 (by decide) (fun c_10 => ?_) (fun c_10 => ?_)
      · refine lv_lconst (v := (Int32.toInt64 0)) zx zb dX3_ways_27 (by decide) ?_
        exact join_17 (Int32.toInt64 0) _ _ _  G hl
      · refine lv_iload_n zx zb dX3_ways_20 rfl (lv_at hl 3 rfl) ?_
        refine o_rl (cells' := 0) (slots' := 0) G rfl rfl (n_S (As := [.int 3]) (rest := []) S G (s_tenTo l X 3 (by omega) s.heap.size) gX3_ways_X3_tenTo rfl rfl rfl hdS_X3_tenTo ⟨Nat.le_of_ble_eq_true rfl, Nat.le_of_ble_eq_true rfl⟩ [] rfl rfl rfl hl.1 (Nat.le_of_ble_eq_true rfl) dX3_ways_21 ⟨Nat.le_of_ble_eq_true rfl, Nat.le_of_ble_eq_true rfl⟩) (fun r_12 u_12 H locs hp_12 G => ?_)
        have G : wd X (fun _ => True) (va_A [] sz) s (odW h0 v) H locs := G
        refine lv_goto (tgt := 28) zx zb dX3_ways_24 (by decide) ?_
        exact join_17 r_12 _ _ _  G hl
    · intro x_11 H locs ls  G hl
      exact e_long S zr zlk G () [] rfl rfl (Or.inl rfl) (trivial) dX3_ways_28
set_option maxHeartbeats 4000000 in
set_option maxRecDepth 100000 in
/-- ways, 4 ticks left -/
theorem s_ways4 (l : Launch) (X : EX) (h0 : Nat) (v : Nat → Int32) (x1 : Int32) (x2 : Int32) (sz : Nat) : Met l yX3_ways wsX3_ways ({ frames := 5, cells := 0, slots := 0, locals := 131 } : Room) (pE X [.ref h0, .int x1, .int x2, .int 4] (odW h0 v) sz) (qL (fun (r : Int64) (u : Unit) => True) X (fun (u : Unit) => []) [] sz) 0 0 (va_A [] sz) := by
  refine mk_met (B := (fun _ => True)) (A := (va_A [] sz)) (cc := cX3_ways) (maxL := 8) (ret := (some .long)) (by decide) rfl (Nat.le_of_ble_eq_true rfl) k_ro k_a (fun p e s m below meth c S zr zlk znm zsz G ls hl => ?_)
  have S : CallFix p m c cX3_ways 8 s _ wsX3_ways RX3 := S
  have zx := S.1
  have zb := S.2.1
  have hl : lv_has ls 8 [(0, .ref h0), (1, .int x1), (2, .int x2), (3, .int 4)] := hl
  refine lv_iload_n zx zb dX3_ways_0 rfl (lv_at hl 3 rfl) ?_
  refine lv_if_le (tgt := 12) zx zb dX3_ways_1 (by decide) (fun c_1 => absurd c_1 (by decide)) (fun c_1 => ?_)
  refine lv_iload_n zx zb dX3_ways_4 rfl (lv_at hl 1 rfl) ?_
  refine lv_aload_n zx zb dX3_ways_5 rfl (lv_at hl 0 rfl) ?_
  refine r_get (C := RX3) (T := TX3) (N := 8) (ci := 1) (v := .int (v 4)) S in_X3_ways_X3 G 0 rfl rfl 4 (by decide) lk_X3_ways_28 rfl dX3_ways_6 ?_
  refine lv_icmp_lt (tgt := 29) zx zb dX3_ways_9 (by decide) (fun c_2 => ?_) (fun c_2 => ?_)
  · refine lv_iload_n zx zb dX3_ways_29 rfl (lv_at hl 2 rfl) ?_
    refine lv_if_le (tgt := 49) zx zb dX3_ways_30 (by decide) (fun c_3 => ?_) (fun c_3 => ?_)
    · refine lv_aload_n zx zb dX3_ways_49 rfl (lv_at hl 0 rfl) ?_
      refine r_get (C := RX3) (T := TX3) (N := 8) (ci := 1) (v := .int (v 5)) S in_X3_ways_X3 G 0 rfl rfl 5 (by decide) lk_X3_ways_31 rfl dX3_ways_50 ?_
      refine lv_iload_n zx zb dX3_ways_53 rfl (lv_at hl 3 rfl) ?_
      refine r_isub (v := ((v 5) - 4)) S rfl dX3_ways_54 ?_
      refine lv_iconst (v := 1) zx zb dX3_ways_55 (by decide) ?_
      refine r_iadd (v := (((v 5) - 4) + 1)) S rfl dX3_ways_56 ?_
      refine lv_istore (lv' := [(4, .int (((v 5) - 4) + 1)), (0, .ref h0), (1, .int x1), (2, .int x2), (3, .int 4)]) zx zb dX3_ways_57 hl (by decide) rfl (fun ls hl => ?_)
      refine lv_aload_n zx zb dX3_ways_59 rfl (lv_at hl 1 rfl) ?_
      refine r_get (C := RX3) (T := TX3) (N := 8) (ci := 1) (v := .int (v 0)) S in_X3_ways_X3 G 0 rfl rfl 0 (by decide) lk_X3_ways_13 rfl dX3_ways_60 ?_
      refine lv_aload_n zx zb dX3_ways_63 rfl (lv_at hl 1 rfl) ?_
      refine r_get (C := RX3) (T := TX3) (N := 8) (ci := 1) (v := .int (v 1)) S in_X3_ways_X3 G 0 rfl rfl 1 (by decide) lk_X3_ways_19 rfl dX3_ways_64 ?_
      refine lv_iload zx zb dX3_ways_67 (lv_at hl 0 rfl) ?_
      refine lv_aload_n zx zb dX3_ways_69 rfl (lv_at hl 1 rfl) ?_
      refine r_get (C := RX3) (T := TX3) (N := 8) (ci := 1) (v := .int (v 3)) S in_X3_ways_X3 G 0 rfl rfl 3 (by decide) lk_X3_ways_27 rfl dX3_ways_70 ?_
      refine o_ri (cells' := 0) (slots' := 0) G rfl rfl (n_S (As := [.int (v 0), .int (v 1), .int (((v 5) - 4) + 1), .int (v 3)]) (rest := []) S G (s_reach l X (v 0) (v 1) (((v 5) - 4) + 1) (v 3) s.heap.size) gX3_ways_X2_reach rfl rfl rfl hdS_X2_reach ⟨Nat.le_of_ble_eq_true rfl, Nat.le_of_ble_eq_true rfl⟩ [] rfl rfl rfl hl.1 (Nat.le_of_ble_eq_true rfl) dX3_ways_73 ⟨Nat.le_of_ble_eq_true rfl, Nat.le_of_ble_eq_true rfl⟩) (fun r_4 u_4 H locs hp_4 G => ?_)
      have G : wd X (fun _ => True) (va_A [] sz) s (odW h0 v) H locs := G
      refine lv_istore (lv' := [(5, .int r_4), (4, .int (((v 5) - 4) + 1)), (0, .ref h0), (1, .int x1), (2, .int x2), (3, .int 4)]) zx zb dX3_ways_76 hl (by decide) rfl (fun ls hl => ?_)
      refine lv_aload_n zx zb dX3_ways_78 rfl (lv_at hl 2 rfl) ?_
      refine lv_iload_n zx zb dX3_ways_79 rfl (lv_at hl 3 rfl) ?_
      refine lv_iconst (v := 2) zx zb dX3_ways_80 (by decide) ?_
      refine lv_iload_n zx zb dX3_ways_81 rfl (lv_at hl 5 rfl) ?_
      refine lv_iconst (v := 1) zx zb dX3_ways_82 (by decide) ?_
      refine r_isub (v := 3) S (by decide) dX3_ways_83 ?_
      refine o_rl (cells' := 0) (slots' := 0) G rfl rfl (n_S (As := [.ref h0, .int x1, .int 2, .int 3]) (rest := []) S G (s_ways3 l X h0 v x1 2 H.size) gX3_ways_X3_ways rfl rfl rfl hdS_X3_ways ⟨Nat.le_of_ble_eq_true rfl, Nat.le_of_ble_eq_true rfl⟩ [0] rfl rfl rfl hl.1 (Nat.le_of_ble_eq_true rfl) dX3_ways_84 ⟨Nat.le_of_ble_eq_true rfl, Nat.le_of_ble_eq_true rfl⟩) (fun r_5 u_5 H locs hp_5 G => ?_)
      have G : wd X (fun _ => True) (va_A [] sz) s (odW h0 v) H locs := G
      refine lv_lstore (lv' := [(6, .long r_5), (5, .int r_4), (4, .int (((v 5) - 4) + 1)), (0, .ref h0), (1, .int x1), (2, .int x2), (3, .int 4)]) zx zb dX3_ways_87 hl (by decide) rfl (fun ls hl => ?_)
      refine lv_iload zx zb dX3_ways_89 (lv_at hl 1 rfl) ?_
      refine lv_aload_n zx zb dX3_ways_91 rfl (lv_at hl 3 rfl) ?_
      refine r_get (C := RX3) (T := TX3) (N := 8) (ci := 1) (v := .int (v 2)) S in_X3_ways_X3 G 0 rfl rfl 2 (by decide) lk_X3_ways_23 rfl dX3_ways_92 ?_
      refine lv_iload zx zb dX3_ways_95 (lv_at hl 2 rfl) ?_
      refine o_ri (cells' := 0) (slots' := 0) G rfl rfl (n_S (As := [.int (v 2), .int (((v 5) - 4) + 1)]) (rest := [.int r_4]) S G (s_limit l X (v 2) (((v 5) - 4) + 1) H.size) gX3_ways_X1_limit rfl rfl rfl hdS_X1_limit ⟨Nat.le_of_ble_eq_true rfl, Nat.le_of_ble_eq_true rfl⟩ [] rfl rfl rfl hl.1 (Nat.le_of_ble_eq_true rfl) dX3_ways_97 ⟨Nat.le_of_ble_eq_true rfl, Nat.le_of_ble_eq_true rfl⟩) (fun r_6 u_6 H locs hp_6 G => ?_)
      have G : wd X (fun _ => True) (va_A [] sz) s (odW h0 v) H locs := G
      refine lv_icmp_le (tgt := 110) zx zb dX3_ways_100 (by decide) (fun c_7 => ?_) (fun c_7 => ?_)
      · refine lv_aload_n zx zb dX3_ways_110 rfl (lv_at hl 3 rfl) ?_
        refine r_get (C := RX3) (T := TX3) (N := 8) (ci := 1) (v := .int (v 7)) S in_X3_ways_X3 G 0 rfl rfl 7 (by decide) lk_X3_ways_37 rfl dX3_ways_111 ?_
        refine lv_i2l (v := (Int32.toInt64 (v 7))) zx zb dX3_ways_114 rfl ?_
        refine lv_lload zx zb dX3_ways_115 (lv_at hl 0 rfl) ?_
        refine r_lmul (v := ((Int32.toInt64 (v 7)) * r_5)) S rfl dX3_ways_117 ?_
        refine lv_bipush (v := 10) zx zb dX3_ways_118 (by decide) ?_
        refine lv_aload_n zx zb dX3_ways_120 rfl (lv_at hl 3 rfl) ?_
        refine r_get (C := RX3) (T := TX3) (N := 8) (ci := 1) (v := .int (v 7)) S in_X3_ways_X3 G 0 rfl rfl 7 (by decide) lk_X3_ways_37 rfl dX3_ways_121 ?_
        refine r_isub (v := (10 - (v 7))) S rfl dX3_ways_124 ?_
        refine lv_i2l (v := (Int32.toInt64 (10 - (v 7)))) zx zb dX3_ways_125 rfl ?_
        refine lv_aload_n zx zb dX3_ways_126 rfl (lv_at hl 3 rfl) ?_
        refine lv_iload_n zx zb dX3_ways_127 rfl (lv_at hl 4 rfl) ?_
        refine lv_iload zx zb dX3_ways_128 (lv_at hl 1 rfl) ?_
        refine r_iadd (v := (x1 + r_4)) S rfl dX3_ways_130 ?_
        refine lv_iconst (v := 0) zx zb dX3_ways_131 (by decide) ?_
        refine lv_iload_n zx zb dX3_ways_132 rfl (lv_at hl 6 rfl) ?_
        refine lv_iconst (v := 1) zx zb dX3_ways_133 (by decide) ?_
        refine r_isub (v := 3) S (by decide) dX3_ways_134 ?_
        refine o_rl (cells' := 0) (slots' := 0) G rfl rfl (n_S (As := [.ref h0, .int (x1 + r_4), .int 0, .int 3]) (rest := [.long (Int32.toInt64 (10 - (v 7))), .long ((Int32.toInt64 (v 7)) * r_5)]) S G (s_ways3 l X h0 v (x1 + r_4) 0 H.size) gX3_ways_X3_ways rfl rfl rfl hdS_X3_ways ⟨Nat.le_of_ble_eq_true rfl, Nat.le_of_ble_eq_true rfl⟩ [0] rfl rfl rfl hl.1 (Nat.le_of_ble_eq_true rfl) dX3_ways_135 ⟨Nat.le_of_ble_eq_true rfl, Nat.le_of_ble_eq_true rfl⟩) (fun r_8 u_8 H locs hp_8 G => ?_)
        have G : wd X (fun _ => True) (va_A [] sz) s (odW h0 v) H locs := G
        refine r_lmul (v := ((Int32.toInt64 (10 - (v 7))) * r_8)) S rfl dX3_ways_138 ?_
        refine r_ladd (v := (((Int32.toInt64 (v 7)) * r_5) + ((Int32.toInt64 (10 - (v 7))) * r_8))) S rfl dX3_ways_139 ?_
        exact e_long S zr zlk G () [] rfl rfl (Or.inl rfl) (trivial) dX3_ways_140
      · refine lv_ldc2 zx zb S.2.2.2.1 (S.2.2.2.2 _ mm_X3_ways_c44) dX3_ways_103 ?_
        refine k_ld (v := (Int32.toInt64 10)) (by decide) ?_
        refine lv_lload zx zb dX3_ways_106 (lv_at hl 0 rfl) ?_
        refine r_lmul (v := ((Int32.toInt64 10) * r_5)) S rfl dX3_ways_108 ?_
        exact e_long S zr zlk G () [] rfl rfl (Or.inl rfl) (trivial) dX3_ways_109
    · refine lv_ldc2 zx zb S.2.2.2.1 (S.2.2.2.2 _ mm_X3_ways_c44) dX3_ways_33 ?_
      refine k_ld (v := (Int32.toInt64 10)) (by decide) ?_
      refine lv_aload_n zx zb dX3_ways_36 rfl (lv_at hl 0 rfl) ?_
      refine lv_iload_n zx zb dX3_ways_37 rfl (lv_at hl 1 rfl) ?_
      refine lv_iload_n zx zb dX3_ways_38 rfl (lv_at hl 2 rfl) ?_
      refine lv_iconst (v := 1) zx zb dX3_ways_39 (by decide) ?_
      refine r_isub (v := (x2 - 1)) S rfl dX3_ways_40 ?_
      refine lv_iload_n zx zb dX3_ways_41 rfl (lv_at hl 3 rfl) ?_
      refine lv_iconst (v := 1) zx zb dX3_ways_42 (by decide) ?_
      refine r_isub (v := 3) S (by decide) dX3_ways_43 ?_
      refine o_rl (cells' := 0) (slots' := 0) G rfl rfl (n_S (As := [.ref h0, .int x1, .int (x2 - 1), .int 3]) (rest := [.long (Int32.toInt64 10)]) S G (s_ways3 l X h0 v x1 (x2 - 1) s.heap.size) gX3_ways_X3_ways rfl rfl rfl hdS_X3_ways ⟨Nat.le_of_ble_eq_true rfl, Nat.le_of_ble_eq_true rfl⟩ [0] rfl rfl rfl hl.1 (Nat.le_of_ble_eq_true rfl) dX3_ways_44 ⟨Nat.le_of_ble_eq_true rfl, Nat.le_of_ble_eq_true rfl⟩) (fun r_9 u_9 H locs hp_9 G => ?_)
      have G : wd X (fun _ => True) (va_A [] sz) s (odW h0 v) H locs := G
      refine r_lmul (v := ((Int32.toInt64 10) * r_9)) S rfl dX3_ways_47 ?_
      exact e_long S zr zlk G () [] rfl rfl (Or.inl rfl) (trivial) dX3_ways_48
  · refine lv_iload_n zx zb dX3_ways_12 rfl (lv_at hl 1 rfl) ?_
    refine lv_aload_n zx zb dX3_ways_13 rfl (lv_at hl 0 rfl) ?_
    refine r_get (C := RX3) (T := TX3) (N := 8) (ci := 1) (v := .int (v 6)) S in_X3_ways_X3 G 0 rfl rfl 6 (by decide) lk_X3_ways_34 rfl dX3_ways_14 ?_
    refine k_cutW (PP := fun Wx => ∀ (x_11 : Int64) (H : Heap) (locs : List Loc) (ls : Array Slot), wd X (fun _ => True) (va_A [] sz) s (odW h0 v) H locs → lv_has ls 8 [(0, .ref h0), (1, .int x1), (2, .int x2), (3, .int 4)] → Wx (F0 m 28 ls [.long x_11]) H locs) ?_ ?_
    · intro join_17
      refine lv_icmp_lt (tgt := 27) zx zb dX3_ways_17 (by decide) (fun c_10 => ?_) (fun c_10 => ?_)
      · refine lv_lconst (v := (Int32.toInt64 0)) zx zb dX3_ways_27 (by decide) ?_
        exact join_17 (Int32.toInt64 0) _ _ _  G hl
      · refine lv_iload_n zx zb dX3_ways_20 rfl (lv_at hl 3 rfl) ?_
        refine o_rl (cells' := 0) (slots' := 0) G rfl rfl (n_S (As := [.int 4]) (rest := []) S G (s_tenTo l X 4 (by omega) s.heap.size) gX3_ways_X3_tenTo rfl rfl rfl hdS_X3_tenTo ⟨Nat.le_of_ble_eq_true rfl, Nat.le_of_ble_eq_true rfl⟩ [] rfl rfl rfl hl.1 (Nat.le_of_ble_eq_true rfl) dX3_ways_21 ⟨Nat.le_of_ble_eq_true rfl, Nat.le_of_ble_eq_true rfl⟩) (fun r_12 u_12 H locs hp_12 G => ?_)
        have G : wd X (fun _ => True) (va_A [] sz) s (odW h0 v) H locs := G
        refine lv_goto (tgt := 28) zx zb dX3_ways_24 (by decide) ?_
        exact join_17 r_12 _ _ _  G hl
    · intro x_11 H locs ls  G hl
      exact e_long S zr zlk G () [] rfl rfl (Or.inl rfl) (trivial) dX3_ways_28
set_option maxHeartbeats 4000000 in
set_option maxRecDepth 100000 in
/-- ways, 5 ticks left -/
theorem s_ways5 (l : Launch) (X : EX) (h0 : Nat) (v : Nat → Int32) (x1 : Int32) (x2 : Int32) (sz : Nat) : Met l yX3_ways wsX3_ways ({ frames := 6, cells := 0, slots := 0, locals := 158 } : Room) (pE X [.ref h0, .int x1, .int x2, .int 5] (odW h0 v) sz) (qL (fun (r : Int64) (u : Unit) => True) X (fun (u : Unit) => []) [] sz) 0 0 (va_A [] sz) := by
  refine mk_met (B := (fun _ => True)) (A := (va_A [] sz)) (cc := cX3_ways) (maxL := 8) (ret := (some .long)) (by decide) rfl (Nat.le_of_ble_eq_true rfl) k_ro k_a (fun p e s m below meth c S zr zlk znm zsz G ls hl => ?_)
  have S : CallFix p m c cX3_ways 8 s _ wsX3_ways RX3 := S
  have zx := S.1
  have zb := S.2.1
  have hl : lv_has ls 8 [(0, .ref h0), (1, .int x1), (2, .int x2), (3, .int 5)] := hl
  refine lv_iload_n zx zb dX3_ways_0 rfl (lv_at hl 3 rfl) ?_
  refine lv_if_le (tgt := 12) zx zb dX3_ways_1 (by decide) (fun c_1 => absurd c_1 (by decide)) (fun c_1 => ?_)
  refine lv_iload_n zx zb dX3_ways_4 rfl (lv_at hl 1 rfl) ?_
  refine lv_aload_n zx zb dX3_ways_5 rfl (lv_at hl 0 rfl) ?_
  refine r_get (C := RX3) (T := TX3) (N := 8) (ci := 1) (v := .int (v 4)) S in_X3_ways_X3 G 0 rfl rfl 4 (by decide) lk_X3_ways_28 rfl dX3_ways_6 ?_
  refine lv_icmp_lt (tgt := 29) zx zb dX3_ways_9 (by decide) (fun c_2 => ?_) (fun c_2 => ?_)
  · refine lv_iload_n zx zb dX3_ways_29 rfl (lv_at hl 2 rfl) ?_
    refine lv_if_le (tgt := 49) zx zb dX3_ways_30 (by decide) (fun c_3 => ?_) (fun c_3 => ?_)
    · refine lv_aload_n zx zb dX3_ways_49 rfl (lv_at hl 0 rfl) ?_
      refine r_get (C := RX3) (T := TX3) (N := 8) (ci := 1) (v := .int (v 5)) S in_X3_ways_X3 G 0 rfl rfl 5 (by decide) lk_X3_ways_31 rfl dX3_ways_50 ?_
      refine lv_iload_n zx zb dX3_ways_53 rfl (lv_at hl 3 rfl) ?_
      refine r_isub (v := ((v 5) - 5)) S rfl dX3_ways_54 ?_
      refine lv_iconst (v := 1) zx zb dX3_ways_55 (by decide) ?_
      refine r_iadd (v := (((v 5) - 5) + 1)) S rfl dX3_ways_56 ?_
      refine lv_istore (lv' := [(4, .int (((v 5) - 5) + 1)), (0, .ref h0), (1, .int x1), (2, .int x2), (3, .int 5)]) zx zb dX3_ways_57 hl (by decide) rfl (fun ls hl => ?_)
      refine lv_aload_n zx zb dX3_ways_59 rfl (lv_at hl 1 rfl) ?_
      refine r_get (C := RX3) (T := TX3) (N := 8) (ci := 1) (v := .int (v 0)) S in_X3_ways_X3 G 0 rfl rfl 0 (by decide) lk_X3_ways_13 rfl dX3_ways_60 ?_
      refine lv_aload_n zx zb dX3_ways_63 rfl (lv_at hl 1 rfl) ?_
      refine r_get (C := RX3) (T := TX3) (N := 8) (ci := 1) (v := .int (v 1)) S in_X3_ways_X3 G 0 rfl rfl 1 (by decide) lk_X3_ways_19 rfl dX3_ways_64 ?_
      refine lv_iload zx zb dX3_ways_67 (lv_at hl 0 rfl) ?_
      refine lv_aload_n zx zb dX3_ways_69 rfl (lv_at hl 1 rfl) ?_
      refine r_get (C := RX3) (T := TX3) (N := 8) (ci := 1) (v := .int (v 3)) S in_X3_ways_X3 G 0 rfl rfl 3 (by decide) lk_X3_ways_27 rfl dX3_ways_70 ?_
      refine o_ri (cells' := 0) (slots' := 0) G rfl rfl (n_S (As := [.int (v 0), .int (v 1), .int (((v 5) - 5) + 1), .int (v 3)]) (rest := []) S G (s_reach l X (v 0) (v 1) (((v 5) - 5) + 1) (v 3) s.heap.size) gX3_ways_X2_reach rfl rfl rfl hdS_X2_reach ⟨Nat.le_of_ble_eq_true rfl, Nat.le_of_ble_eq_true rfl⟩ [] rfl rfl rfl hl.1 (Nat.le_of_ble_eq_true rfl) dX3_ways_73 ⟨Nat.le_of_ble_eq_true rfl, Nat.le_of_ble_eq_true rfl⟩) (fun r_4 u_4 H locs hp_4 G => ?_)
      have G : wd X (fun _ => True) (va_A [] sz) s (odW h0 v) H locs := G
      refine lv_istore (lv' := [(5, .int r_4), (4, .int (((v 5) - 5) + 1)), (0, .ref h0), (1, .int x1), (2, .int x2), (3, .int 5)]) zx zb dX3_ways_76 hl (by decide) rfl (fun ls hl => ?_)
      refine lv_aload_n zx zb dX3_ways_78 rfl (lv_at hl 2 rfl) ?_
      refine lv_iload_n zx zb dX3_ways_79 rfl (lv_at hl 3 rfl) ?_
      refine lv_iconst (v := 2) zx zb dX3_ways_80 (by decide) ?_
      refine lv_iload_n zx zb dX3_ways_81 rfl (lv_at hl 5 rfl) ?_
      refine lv_iconst (v := 1) zx zb dX3_ways_82 (by decide) ?_
      refine r_isub (v := 4) S (by decide) dX3_ways_83 ?_
      refine o_rl (cells' := 0) (slots' := 0) G rfl rfl (n_S (As := [.ref h0, .int x1, .int 2, .int 4]) (rest := []) S G (s_ways4 l X h0 v x1 2 H.size) gX3_ways_X3_ways rfl rfl rfl hdS_X3_ways ⟨Nat.le_of_ble_eq_true rfl, Nat.le_of_ble_eq_true rfl⟩ [0] rfl rfl rfl hl.1 (Nat.le_of_ble_eq_true rfl) dX3_ways_84 ⟨Nat.le_of_ble_eq_true rfl, Nat.le_of_ble_eq_true rfl⟩) (fun r_5 u_5 H locs hp_5 G => ?_)
      have G : wd X (fun _ => True) (va_A [] sz) s (odW h0 v) H locs := G
      refine lv_lstore (lv' := [(6, .long r_5), (5, .int r_4), (4, .int (((v 5) - 5) + 1)), (0, .ref h0), (1, .int x1), (2, .int x2), (3, .int 5)]) zx zb dX3_ways_87 hl (by decide) rfl (fun ls hl => ?_)
      refine lv_iload zx zb dX3_ways_89 (lv_at hl 1 rfl) ?_
      refine lv_aload_n zx zb dX3_ways_91 rfl (lv_at hl 3 rfl) ?_
      refine r_get (C := RX3) (T := TX3) (N := 8) (ci := 1) (v := .int (v 2)) S in_X3_ways_X3 G 0 rfl rfl 2 (by decide) lk_X3_ways_23 rfl dX3_ways_92 ?_
      refine lv_iload zx zb dX3_ways_95 (lv_at hl 2 rfl) ?_
      refine o_ri (cells' := 0) (slots' := 0) G rfl rfl (n_S (As := [.int (v 2), .int (((v 5) - 5) + 1)]) (rest := [.int r_4]) S G (s_limit l X (v 2) (((v 5) - 5) + 1) H.size) gX3_ways_X1_limit rfl rfl rfl hdS_X1_limit ⟨Nat.le_of_ble_eq_true rfl, Nat.le_of_ble_eq_true rfl⟩ [] rfl rfl rfl hl.1 (Nat.le_of_ble_eq_true rfl) dX3_ways_97 ⟨Nat.le_of_ble_eq_true rfl, Nat.le_of_ble_eq_true rfl⟩) (fun r_6 u_6 H locs hp_6 G => ?_)
      have G : wd X (fun _ => True) (va_A [] sz) s (odW h0 v) H locs := G
      refine lv_icmp_le (tgt := 110) zx zb dX3_ways_100 (by decide) (fun c_7 => ?_) (fun c_7 => ?_)
      · refine lv_aload_n zx zb dX3_ways_110 rfl (lv_at hl 3 rfl) ?_
        refine r_get (C := RX3) (T := TX3) (N := 8) (ci := 1) (v := .int (v 7)) S in_X3_ways_X3 G 0 rfl rfl 7 (by decide) lk_X3_ways_37 rfl dX3_ways_111 ?_
        refine lv_i2l (v := (Int32.toInt64 (v 7))) zx zb dX3_ways_114 rfl ?_
        refine lv_lload zx zb dX3_ways_115 (lv_at hl 0 rfl) ?_
        refine r_lmul (v := ((Int32.toInt64 (v 7)) * r_5)) S rfl dX3_ways_117 ?_
        refine lv_bipush (v := 10) zx zb dX3_ways_118 (by decide) ?_
        refine lv_aload_n zx zb dX3_ways_120 rfl (lv_at hl 3 rfl) ?_
        refine r_get (C := RX3) (T := TX3) (N := 8) (ci := 1) (v := .int (v 7)) S in_X3_ways_X3 G 0 rfl rfl 7 (by decide) lk_X3_ways_37 rfl dX3_ways_121 ?_
        refine r_isub (v := (10 - (v 7))) S rfl dX3_ways_124 ?_
        refine lv_i2l (v := (Int32.toInt64 (10 - (v 7)))) zx zb dX3_ways_125 rfl ?_
        refine lv_aload_n zx zb dX3_ways_126 rfl (lv_at hl 3 rfl) ?_
        refine lv_iload_n zx zb dX3_ways_127 rfl (lv_at hl 4 rfl) ?_
        refine lv_iload zx zb dX3_ways_128 (lv_at hl 1 rfl) ?_
        refine r_iadd (v := (x1 + r_4)) S rfl dX3_ways_130 ?_
        refine lv_iconst (v := 0) zx zb dX3_ways_131 (by decide) ?_
        refine lv_iload_n zx zb dX3_ways_132 rfl (lv_at hl 6 rfl) ?_
        refine lv_iconst (v := 1) zx zb dX3_ways_133 (by decide) ?_
        refine r_isub (v := 4) S (by decide) dX3_ways_134 ?_
        refine o_rl (cells' := 0) (slots' := 0) G rfl rfl (n_S (As := [.ref h0, .int (x1 + r_4), .int 0, .int 4]) (rest := [.long (Int32.toInt64 (10 - (v 7))), .long ((Int32.toInt64 (v 7)) * r_5)]) S G (s_ways4 l X h0 v (x1 + r_4) 0 H.size) gX3_ways_X3_ways rfl rfl rfl hdS_X3_ways ⟨Nat.le_of_ble_eq_true rfl, Nat.le_of_ble_eq_true rfl⟩ [0] rfl rfl rfl hl.1 (Nat.le_of_ble_eq_true rfl) dX3_ways_135 ⟨Nat.le_of_ble_eq_true rfl, Nat.le_of_ble_eq_true rfl⟩) (fun r_8 u_8 H locs hp_8 G => ?_)
        have G : wd X (fun _ => True) (va_A [] sz) s (odW h0 v) H locs := G
        refine r_lmul (v := ((Int32.toInt64 (10 - (v 7))) * r_8)) S rfl dX3_ways_138 ?_
        refine r_ladd (v := (((Int32.toInt64 (v 7)) * r_5) + ((Int32.toInt64 (10 - (v 7))) * r_8))) S rfl dX3_ways_139 ?_
        exact e_long S zr zlk G () [] rfl rfl (Or.inl rfl) (trivial) dX3_ways_140
      · refine lv_ldc2 zx zb S.2.2.2.1 (S.2.2.2.2 _ mm_X3_ways_c44) dX3_ways_103 ?_
        refine k_ld (v := (Int32.toInt64 10)) (by decide) ?_
        refine lv_lload zx zb dX3_ways_106 (lv_at hl 0 rfl) ?_
        refine r_lmul (v := ((Int32.toInt64 10) * r_5)) S rfl dX3_ways_108 ?_
        exact e_long S zr zlk G () [] rfl rfl (Or.inl rfl) (trivial) dX3_ways_109
    · refine lv_ldc2 zx zb S.2.2.2.1 (S.2.2.2.2 _ mm_X3_ways_c44) dX3_ways_33 ?_
      refine k_ld (v := (Int32.toInt64 10)) (by decide) ?_
      refine lv_aload_n zx zb dX3_ways_36 rfl (lv_at hl 0 rfl) ?_
      refine lv_iload_n zx zb dX3_ways_37 rfl (lv_at hl 1 rfl) ?_
      refine lv_iload_n zx zb dX3_ways_38 rfl (lv_at hl 2 rfl) ?_
      refine lv_iconst (v := 1) zx zb dX3_ways_39 (by decide) ?_
      refine r_isub (v := (x2 - 1)) S rfl dX3_ways_40 ?_
      refine lv_iload_n zx zb dX3_ways_41 rfl (lv_at hl 3 rfl) ?_
      refine lv_iconst (v := 1) zx zb dX3_ways_42 (by decide) ?_
      refine r_isub (v := 4) S (by decide) dX3_ways_43 ?_
      refine o_rl (cells' := 0) (slots' := 0) G rfl rfl (n_S (As := [.ref h0, .int x1, .int (x2 - 1), .int 4]) (rest := [.long (Int32.toInt64 10)]) S G (s_ways4 l X h0 v x1 (x2 - 1) s.heap.size) gX3_ways_X3_ways rfl rfl rfl hdS_X3_ways ⟨Nat.le_of_ble_eq_true rfl, Nat.le_of_ble_eq_true rfl⟩ [0] rfl rfl rfl hl.1 (Nat.le_of_ble_eq_true rfl) dX3_ways_44 ⟨Nat.le_of_ble_eq_true rfl, Nat.le_of_ble_eq_true rfl⟩) (fun r_9 u_9 H locs hp_9 G => ?_)
      have G : wd X (fun _ => True) (va_A [] sz) s (odW h0 v) H locs := G
      refine r_lmul (v := ((Int32.toInt64 10) * r_9)) S rfl dX3_ways_47 ?_
      exact e_long S zr zlk G () [] rfl rfl (Or.inl rfl) (trivial) dX3_ways_48
  · refine lv_iload_n zx zb dX3_ways_12 rfl (lv_at hl 1 rfl) ?_
    refine lv_aload_n zx zb dX3_ways_13 rfl (lv_at hl 0 rfl) ?_
    refine r_get (C := RX3) (T := TX3) (N := 8) (ci := 1) (v := .int (v 6)) S in_X3_ways_X3 G 0 rfl rfl 6 (by decide) lk_X3_ways_34 rfl dX3_ways_14 ?_
    refine k_cutW (PP := fun Wx => ∀ (x_11 : Int64) (H : Heap) (locs : List Loc) (ls : Array Slot), wd X (fun _ => True) (va_A [] sz) s (odW h0 v) H locs → lv_has ls 8 [(0, .ref h0), (1, .int x1), (2, .int x2), (3, .int 5)] → Wx (F0 m 28 ls [.long x_11]) H locs) ?_ ?_
    · intro join_17
      refine lv_icmp_lt (tgt := 27) zx zb dX3_ways_17 (by decide) (fun c_10 => ?_) (fun c_10 => ?_)
      · refine lv_lconst (v := (Int32.toInt64 0)) zx zb dX3_ways_27 (by decide) ?_
        exact join_17 (Int32.toInt64 0) _ _ _  G hl
      · refine lv_iload_n zx zb dX3_ways_20 rfl (lv_at hl 3 rfl) ?_
        refine o_rl (cells' := 0) (slots' := 0) G rfl rfl (n_S (As := [.int 5]) (rest := []) S G (s_tenTo l X 5 (by omega) s.heap.size) gX3_ways_X3_tenTo rfl rfl rfl hdS_X3_tenTo ⟨Nat.le_of_ble_eq_true rfl, Nat.le_of_ble_eq_true rfl⟩ [] rfl rfl rfl hl.1 (Nat.le_of_ble_eq_true rfl) dX3_ways_21 ⟨Nat.le_of_ble_eq_true rfl, Nat.le_of_ble_eq_true rfl⟩) (fun r_12 u_12 H locs hp_12 G => ?_)
        have G : wd X (fun _ => True) (va_A [] sz) s (odW h0 v) H locs := G
        refine lv_goto (tgt := 28) zx zb dX3_ways_24 (by decide) ?_
        exact join_17 r_12 _ _ _  G hl
    · intro x_11 H locs ls  G hl
      exact e_long S zr zlk G () [] rfl rfl (Or.inl rfl) (trivial) dX3_ways_28
set_option maxHeartbeats 4000000 in
set_option maxRecDepth 100000 in
/-- ways, 6 ticks left -/
theorem s_ways6 (l : Launch) (X : EX) (h0 : Nat) (v : Nat → Int32) (x1 : Int32) (x2 : Int32) (sz : Nat) : Met l yX3_ways wsX3_ways ({ frames := 7, cells := 0, slots := 0, locals := 185 } : Room) (pE X [.ref h0, .int x1, .int x2, .int 6] (odW h0 v) sz) (qL (fun (r : Int64) (u : Unit) => True) X (fun (u : Unit) => []) [] sz) 0 0 (va_A [] sz) := by
  refine mk_met (B := (fun _ => True)) (A := (va_A [] sz)) (cc := cX3_ways) (maxL := 8) (ret := (some .long)) (by decide) rfl (Nat.le_of_ble_eq_true rfl) k_ro k_a (fun p e s m below meth c S zr zlk znm zsz G ls hl => ?_)
  have S : CallFix p m c cX3_ways 8 s _ wsX3_ways RX3 := S
  have zx := S.1
  have zb := S.2.1
  have hl : lv_has ls 8 [(0, .ref h0), (1, .int x1), (2, .int x2), (3, .int 6)] := hl
  refine lv_iload_n zx zb dX3_ways_0 rfl (lv_at hl 3 rfl) ?_
  refine lv_if_le (tgt := 12) zx zb dX3_ways_1 (by decide) (fun c_1 => absurd c_1 (by decide)) (fun c_1 => ?_)
  refine lv_iload_n zx zb dX3_ways_4 rfl (lv_at hl 1 rfl) ?_
  refine lv_aload_n zx zb dX3_ways_5 rfl (lv_at hl 0 rfl) ?_
  refine r_get (C := RX3) (T := TX3) (N := 8) (ci := 1) (v := .int (v 4)) S in_X3_ways_X3 G 0 rfl rfl 4 (by decide) lk_X3_ways_28 rfl dX3_ways_6 ?_
  refine lv_icmp_lt (tgt := 29) zx zb dX3_ways_9 (by decide) (fun c_2 => ?_) (fun c_2 => ?_)
  · refine lv_iload_n zx zb dX3_ways_29 rfl (lv_at hl 2 rfl) ?_
    refine lv_if_le (tgt := 49) zx zb dX3_ways_30 (by decide) (fun c_3 => ?_) (fun c_3 => ?_)
    · refine lv_aload_n zx zb dX3_ways_49 rfl (lv_at hl 0 rfl) ?_
      refine r_get (C := RX3) (T := TX3) (N := 8) (ci := 1) (v := .int (v 5)) S in_X3_ways_X3 G 0 rfl rfl 5 (by decide) lk_X3_ways_31 rfl dX3_ways_50 ?_
      refine lv_iload_n zx zb dX3_ways_53 rfl (lv_at hl 3 rfl) ?_
      refine r_isub (v := ((v 5) - 6)) S rfl dX3_ways_54 ?_
      refine lv_iconst (v := 1) zx zb dX3_ways_55 (by decide) ?_
      refine r_iadd (v := (((v 5) - 6) + 1)) S rfl dX3_ways_56 ?_
      refine lv_istore (lv' := [(4, .int (((v 5) - 6) + 1)), (0, .ref h0), (1, .int x1), (2, .int x2), (3, .int 6)]) zx zb dX3_ways_57 hl (by decide) rfl (fun ls hl => ?_)
      refine lv_aload_n zx zb dX3_ways_59 rfl (lv_at hl 1 rfl) ?_
      refine r_get (C := RX3) (T := TX3) (N := 8) (ci := 1) (v := .int (v 0)) S in_X3_ways_X3 G 0 rfl rfl 0 (by decide) lk_X3_ways_13 rfl dX3_ways_60 ?_
      refine lv_aload_n zx zb dX3_ways_63 rfl (lv_at hl 1 rfl) ?_
      refine r_get (C := RX3) (T := TX3) (N := 8) (ci := 1) (v := .int (v 1)) S in_X3_ways_X3 G 0 rfl rfl 1 (by decide) lk_X3_ways_19 rfl dX3_ways_64 ?_
      refine lv_iload zx zb dX3_ways_67 (lv_at hl 0 rfl) ?_
      refine lv_aload_n zx zb dX3_ways_69 rfl (lv_at hl 1 rfl) ?_
      refine r_get (C := RX3) (T := TX3) (N := 8) (ci := 1) (v := .int (v 3)) S in_X3_ways_X3 G 0 rfl rfl 3 (by decide) lk_X3_ways_27 rfl dX3_ways_70 ?_
      refine o_ri (cells' := 0) (slots' := 0) G rfl rfl (n_S (As := [.int (v 0), .int (v 1), .int (((v 5) - 6) + 1), .int (v 3)]) (rest := []) S G (s_reach l X (v 0) (v 1) (((v 5) - 6) + 1) (v 3) s.heap.size) gX3_ways_X2_reach rfl rfl rfl hdS_X2_reach ⟨Nat.le_of_ble_eq_true rfl, Nat.le_of_ble_eq_true rfl⟩ [] rfl rfl rfl hl.1 (Nat.le_of_ble_eq_true rfl) dX3_ways_73 ⟨Nat.le_of_ble_eq_true rfl, Nat.le_of_ble_eq_true rfl⟩) (fun r_4 u_4 H locs hp_4 G => ?_)
      have G : wd X (fun _ => True) (va_A [] sz) s (odW h0 v) H locs := G
      refine lv_istore (lv' := [(5, .int r_4), (4, .int (((v 5) - 6) + 1)), (0, .ref h0), (1, .int x1), (2, .int x2), (3, .int 6)]) zx zb dX3_ways_76 hl (by decide) rfl (fun ls hl => ?_)
      refine lv_aload_n zx zb dX3_ways_78 rfl (lv_at hl 2 rfl) ?_
      refine lv_iload_n zx zb dX3_ways_79 rfl (lv_at hl 3 rfl) ?_
      refine lv_iconst (v := 2) zx zb dX3_ways_80 (by decide) ?_
      refine lv_iload_n zx zb dX3_ways_81 rfl (lv_at hl 5 rfl) ?_
      refine lv_iconst (v := 1) zx zb dX3_ways_82 (by decide) ?_
      refine r_isub (v := 5) S (by decide) dX3_ways_83 ?_
      refine o_rl (cells' := 0) (slots' := 0) G rfl rfl (n_S (As := [.ref h0, .int x1, .int 2, .int 5]) (rest := []) S G (s_ways5 l X h0 v x1 2 H.size) gX3_ways_X3_ways rfl rfl rfl hdS_X3_ways ⟨Nat.le_of_ble_eq_true rfl, Nat.le_of_ble_eq_true rfl⟩ [0] rfl rfl rfl hl.1 (Nat.le_of_ble_eq_true rfl) dX3_ways_84 ⟨Nat.le_of_ble_eq_true rfl, Nat.le_of_ble_eq_true rfl⟩) (fun r_5 u_5 H locs hp_5 G => ?_)
      have G : wd X (fun _ => True) (va_A [] sz) s (odW h0 v) H locs := G
      refine lv_lstore (lv' := [(6, .long r_5), (5, .int r_4), (4, .int (((v 5) - 6) + 1)), (0, .ref h0), (1, .int x1), (2, .int x2), (3, .int 6)]) zx zb dX3_ways_87 hl (by decide) rfl (fun ls hl => ?_)
      refine lv_iload zx zb dX3_ways_89 (lv_at hl 1 rfl) ?_
      refine lv_aload_n zx zb dX3_ways_91 rfl (lv_at hl 3 rfl) ?_
      refine r_get (C := RX3) (T := TX3) (N := 8) (ci := 1) (v := .int (v 2)) S in_X3_ways_X3 G 0 rfl rfl 2 (by decide) lk_X3_ways_23 rfl dX3_ways_92 ?_
      refine lv_iload zx zb dX3_ways_95 (lv_at hl 2 rfl) ?_
      refine o_ri (cells' := 0) (slots' := 0) G rfl rfl (n_S (As := [.int (v 2), .int (((v 5) - 6) + 1)]) (rest := [.int r_4]) S G (s_limit l X (v 2) (((v 5) - 6) + 1) H.size) gX3_ways_X1_limit rfl rfl rfl hdS_X1_limit ⟨Nat.le_of_ble_eq_true rfl, Nat.le_of_ble_eq_true rfl⟩ [] rfl rfl rfl hl.1 (Nat.le_of_ble_eq_true rfl) dX3_ways_97 ⟨Nat.le_of_ble_eq_true rfl, Nat.le_of_ble_eq_true rfl⟩) (fun r_6 u_6 H locs hp_6 G => ?_)
      have G : wd X (fun _ => True) (va_A [] sz) s (odW h0 v) H locs := G
      refine lv_icmp_le (tgt := 110) zx zb dX3_ways_100 (by decide) (fun c_7 => ?_) (fun c_7 => ?_)
      · refine lv_aload_n zx zb dX3_ways_110 rfl (lv_at hl 3 rfl) ?_
        refine r_get (C := RX3) (T := TX3) (N := 8) (ci := 1) (v := .int (v 7)) S in_X3_ways_X3 G 0 rfl rfl 7 (by decide) lk_X3_ways_37 rfl dX3_ways_111 ?_
        refine lv_i2l (v := (Int32.toInt64 (v 7))) zx zb dX3_ways_114 rfl ?_
        refine lv_lload zx zb dX3_ways_115 (lv_at hl 0 rfl) ?_
        refine r_lmul (v := ((Int32.toInt64 (v 7)) * r_5)) S rfl dX3_ways_117 ?_
        refine lv_bipush (v := 10) zx zb dX3_ways_118 (by decide) ?_
        refine lv_aload_n zx zb dX3_ways_120 rfl (lv_at hl 3 rfl) ?_
        refine r_get (C := RX3) (T := TX3) (N := 8) (ci := 1) (v := .int (v 7)) S in_X3_ways_X3 G 0 rfl rfl 7 (by decide) lk_X3_ways_37 rfl dX3_ways_121 ?_
        refine r_isub (v := (10 - (v 7))) S rfl dX3_ways_124 ?_
        refine lv_i2l (v := (Int32.toInt64 (10 - (v 7)))) zx zb dX3_ways_125 rfl ?_
        refine lv_aload_n zx zb dX3_ways_126 rfl (lv_at hl 3 rfl) ?_
        refine lv_iload_n zx zb dX3_ways_127 rfl (lv_at hl 4 rfl) ?_
        refine lv_iload zx zb dX3_ways_128 (lv_at hl 1 rfl) ?_
        refine r_iadd (v := (x1 + r_4)) S rfl dX3_ways_130 ?_
        refine lv_iconst (v := 0) zx zb dX3_ways_131 (by decide) ?_
        refine lv_iload_n zx zb dX3_ways_132 rfl (lv_at hl 6 rfl) ?_
        refine lv_iconst (v := 1) zx zb dX3_ways_133 (by decide) ?_
        refine r_isub (v := 5) S (by decide) dX3_ways_134 ?_
        refine o_rl (cells' := 0) (slots' := 0) G rfl rfl (n_S (As := [.ref h0, .int (x1 + r_4), .int 0, .int 5]) (rest := [.long (Int32.toInt64 (10 - (v 7))), .long ((Int32.toInt64 (v 7)) * r_5)]) S G (s_ways5 l X h0 v (x1 + r_4) 0 H.size) gX3_ways_X3_ways rfl rfl rfl hdS_X3_ways ⟨Nat.le_of_ble_eq_true rfl, Nat.le_of_ble_eq_true rfl⟩ [0] rfl rfl rfl hl.1 (Nat.le_of_ble_eq_true rfl) dX3_ways_135 ⟨Nat.le_of_ble_eq_true rfl, Nat.le_of_ble_eq_true rfl⟩) (fun r_8 u_8 H locs hp_8 G => ?_)
        have G : wd X (fun _ => True) (va_A [] sz) s (odW h0 v) H locs := G
        refine r_lmul (v := ((Int32.toInt64 (10 - (v 7))) * r_8)) S rfl dX3_ways_138 ?_
        refine r_ladd (v := (((Int32.toInt64 (v 7)) * r_5) + ((Int32.toInt64 (10 - (v 7))) * r_8))) S rfl dX3_ways_139 ?_
        exact e_long S zr zlk G () [] rfl rfl (Or.inl rfl) (trivial) dX3_ways_140
      · refine lv_ldc2 zx zb S.2.2.2.1 (S.2.2.2.2 _ mm_X3_ways_c44) dX3_ways_103 ?_
        refine k_ld (v := (Int32.toInt64 10)) (by decide) ?_
        refine lv_lload zx zb dX3_ways_106 (lv_at hl 0 rfl) ?_
        refine r_lmul (v := ((Int32.toInt64 10) * r_5)) S rfl dX3_ways_108 ?_
        exact e_long S zr zlk G () [] rfl rfl (Or.inl rfl) (trivial) dX3_ways_109
    · refine lv_ldc2 zx zb S.2.2.2.1 (S.2.2.2.2 _ mm_X3_ways_c44) dX3_ways_33 ?_
      refine k_ld (v := (Int32.toInt64 10)) (by decide) ?_
      refine lv_aload_n zx zb dX3_ways_36 rfl (lv_at hl 0 rfl) ?_
      refine lv_iload_n zx zb dX3_ways_37 rfl (lv_at hl 1 rfl) ?_
      refine lv_iload_n zx zb dX3_ways_38 rfl (lv_at hl 2 rfl) ?_
      refine lv_iconst (v := 1) zx zb dX3_ways_39 (by decide) ?_
      refine r_isub (v := (x2 - 1)) S rfl dX3_ways_40 ?_
      refine lv_iload_n zx zb dX3_ways_41 rfl (lv_at hl 3 rfl) ?_
      refine lv_iconst (v := 1) zx zb dX3_ways_42 (by decide) ?_
      refine r_isub (v := 5) S (by decide) dX3_ways_43 ?_
      refine o_rl (cells' := 0) (slots' := 0) G rfl rfl (n_S (As := [.ref h0, .int x1, .int (x2 - 1), .int 5]) (rest := [.long (Int32.toInt64 10)]) S G (s_ways5 l X h0 v x1 (x2 - 1) s.heap.size) gX3_ways_X3_ways rfl rfl rfl hdS_X3_ways ⟨Nat.le_of_ble_eq_true rfl, Nat.le_of_ble_eq_true rfl⟩ [0] rfl rfl rfl hl.1 (Nat.le_of_ble_eq_true rfl) dX3_ways_44 ⟨Nat.le_of_ble_eq_true rfl, Nat.le_of_ble_eq_true rfl⟩) (fun r_9 u_9 H locs hp_9 G => ?_)
      have G : wd X (fun _ => True) (va_A [] sz) s (odW h0 v) H locs := G
      refine r_lmul (v := ((Int32.toInt64 10) * r_9)) S rfl dX3_ways_47 ?_
      exact e_long S zr zlk G () [] rfl rfl (Or.inl rfl) (trivial) dX3_ways_48
  · refine lv_iload_n zx zb dX3_ways_12 rfl (lv_at hl 1 rfl) ?_
    refine lv_aload_n zx zb dX3_ways_13 rfl (lv_at hl 0 rfl) ?_
    refine r_get (C := RX3) (T := TX3) (N := 8) (ci := 1) (v := .int (v 6)) S in_X3_ways_X3 G 0 rfl rfl 6 (by decide) lk_X3_ways_34 rfl dX3_ways_14 ?_
    refine k_cutW (PP := fun Wx => ∀ (x_11 : Int64) (H : Heap) (locs : List Loc) (ls : Array Slot), wd X (fun _ => True) (va_A [] sz) s (odW h0 v) H locs → lv_has ls 8 [(0, .ref h0), (1, .int x1), (2, .int x2), (3, .int 6)] → Wx (F0 m 28 ls [.long x_11]) H locs) ?_ ?_
    · intro join_17
      refine lv_icmp_lt (tgt := 27) zx zb dX3_ways_17 (by decide) (fun c_10 => ?_) (fun c_10 => ?_)
      · refine lv_lconst (v := (Int32.toInt64 0)) zx zb dX3_ways_27 (by decide) ?_
        exact join_17 (Int32.toInt64 0) _ _ _  G hl
      · refine lv_iload_n zx zb dX3_ways_20 rfl (lv_at hl 3 rfl) ?_
        refine o_rl (cells' := 0) (slots' := 0) G rfl rfl (n_S (As := [.int 6]) (rest := []) S G (s_tenTo l X 6 (by omega) s.heap.size) gX3_ways_X3_tenTo rfl rfl rfl hdS_X3_tenTo ⟨Nat.le_of_ble_eq_true rfl, Nat.le_of_ble_eq_true rfl⟩ [] rfl rfl rfl hl.1 (Nat.le_of_ble_eq_true rfl) dX3_ways_21 ⟨Nat.le_of_ble_eq_true rfl, Nat.le_of_ble_eq_true rfl⟩) (fun r_12 u_12 H locs hp_12 G => ?_)
        have G : wd X (fun _ => True) (va_A [] sz) s (odW h0 v) H locs := G
        refine lv_goto (tgt := 28) zx zb dX3_ways_24 (by decide) ?_
        exact join_17 r_12 _ _ _  G hl
    · intro x_11 H locs ls  G hl
      exact e_long S zr zlk G () [] rfl rfl (Or.inl rfl) (trivial) dX3_ways_28
theorem in_X3_pose_X8 : ∀ w ∈ wsX80, w ∈ wsX3_pose := by decide +kernel
theorem lk_X3_pose_7 : Cond.fieldLink RX3 7 "EggSpoons$Runner" "kind" "I" ∈ wsX3_pose := by decide +kernel
theorem in_X3_pose_X3 : ∀ w ∈ wsX30, w ∈ wsX3_pose := by decide +kernel
theorem lk_X3_pose_13 : Cond.fieldLink RX3 13 "EggSpoons$Odds" "kind" "I" ∈ wsX3_pose := by decide +kernel
theorem lk_X3_pose_16 : Cond.fieldLink RX3 16 "EggSpoons$Runner" "legs" "I" ∈ wsX3_pose := by decide +kernel
theorem lk_X3_pose_19 : Cond.fieldLink RX3 19 "EggSpoons$Odds" "legs" "I" ∈ wsX3_pose := by decide +kernel
theorem lk_X3_pose_20 : Cond.fieldLink RX3 20 "EggSpoons$Runner" "egg" "I" ∈ wsX3_pose := by decide +kernel
theorem lk_X3_pose_23 : Cond.fieldLink RX3 23 "EggSpoons$Odds" "egg" "I" ∈ wsX3_pose := by decide +kernel
theorem lk_X3_pose_24 : Cond.fieldLink RX3 24 "EggSpoons$Runner" "speed" "I" ∈ wsX3_pose := by decide +kernel
theorem lk_X3_pose_27 : Cond.fieldLink RX3 27 "EggSpoons$Odds" "speed" "I" ∈ wsX3_pose := by decide +kernel
theorem lk_X3_pose_28 : Cond.fieldLink RX3 28 "EggSpoons$Odds" "length" "I" ∈ wsX3_pose := by decide +kernel
theorem lk_X3_pose_31 : Cond.fieldLink RX3 31 "EggSpoons$Odds" "lastTick" "I" ∈ wsX3_pose := by decide +kernel
theorem lk_X3_pose_34 : Cond.fieldLink RX3 34 "EggSpoons$Odds" "goal" "I" ∈ wsX3_pose := by decide +kernel
theorem lk_X3_pose_37 : Cond.fieldLink RX3 37 "EggSpoons$Odds" "tenths" "I" ∈ wsX3_pose := by decide +kernel
set_option maxHeartbeats 4000000 in
set_option maxRecDepth 100000 in
/-- pose -/
theorem s_pose (l : Launch) (X : EX) (h0 : Nat) (v : Nat → Int32) (h1 : Nat) (a1 : Nat → Int32) (d1 : Nat → Int32) (x2 : Int32) (x3 : Int32) (x4 : Int32) (x5 : Int32) (sz : Nat) : Met l yX3_pose wsX3_pose ({ frames := 0, cells := 0, slots := 0, locals := 0 } : Room) (pE X [.ref h0, .ref h1, .int x2, .int x3, .int x4, .int x5] (@HAppend.hAppend va_W va_W va_W _ (odW h0 v) (rnV h1 a1 d1)) sz) (qV (fun (u : (Nat → Int32)) => (True)) X (fun (u : (Nat → Int32)) => @HAppend.hAppend va_W va_W va_W _ (odW h0 u) (rnV h1 a1 d1)) (@HAppend.hAppend va_W va_W va_W _ (odW h0 v) (rnV h1 a1 d1)) sz) 0 0 (va_A (@HAppend.hAppend va_W va_W va_W _ (odW h0 v) (rnV h1 a1 d1)) sz) := by
  refine mk_met (B := (va_A (@HAppend.hAppend va_W va_W va_W _ (odW h0 v) (rnV h1 a1 d1)) sz)) (A := (va_A (@HAppend.hAppend va_W va_W va_W _ (odW h0 v) (rnV h1 a1 d1)) sz)) (cc := cX3_pose) (maxL := 6) (ret := none) (by decide) rfl (Nat.le_of_ble_eq_true rfl) k_w k_a (fun p e s m below meth c S zr zlk znm zsz G ls hl => ?_)
  have S : CallFix p m c cX3_pose 6 s _ wsX3_pose RX3 := S
  have zx := S.1
  have zb := S.2.1
  have hl : lv_has ls 6 [(0, .ref h0), (1, .ref h1), (2, .int x2), (3, .int x3), (4, .int x4), (5, .int x5)] := hl
  refine lv_aload_n zx zb dX3_pose_0 rfl (lv_at hl 0 rfl) ?_
  refine lv_aload_n zx zb dX3_pose_1 rfl (lv_at hl 1 rfl) ?_
  refine r_get (C := RX8) (T := TX8) (N := 8) (ci := 6) (v := .int (a1 0)) S in_X3_pose_X8 G 1 rfl rfl 0 (by decide) lk_X3_pose_7 rfl dX3_pose_2 ?_
  refine r_put (C := RX3) (T := TX3) (N := 8) (ci := 1) (v := .int (a1 0)) S in_X3_pose_X3 tyX3_ok nmX3 G 0 rfl rfl 0 (by decide) lk_X3_pose_13 rfl (vp_nar_int _) rfl (Nat.le_of_ble_eq_true rfl) dX3_pose_5 (fun H locs G => ?_)
  obtain ⟨v_1, G⟩ : ∃ v_1 : Nat → Int32, wd X (va_A (@HAppend.hAppend va_W va_W va_W _ (odW h0 v) (rnV h1 a1 d1)) sz) (va_A (@HAppend.hAppend va_W va_W va_W _ (odW h0 v) (rnV h1 a1 d1)) sz) s (@HAppend.hAppend va_W va_W va_W _ (odW h0 v_1) (rnV h1 a1 d1)) H locs := ⟨upd v 0 (a1 0), G⟩
  refine lv_aload_n zx zb dX3_pose_8 rfl (lv_at hl 0 rfl) ?_
  refine lv_aload_n zx zb dX3_pose_9 rfl (lv_at hl 1 rfl) ?_
  refine r_get (C := RX8) (T := TX8) (N := 8) (ci := 6) (v := .int (a1 1)) S in_X3_pose_X8 G 1 rfl rfl 1 (by decide) lk_X3_pose_16 rfl dX3_pose_10 ?_
  refine r_put (C := RX3) (T := TX3) (N := 8) (ci := 1) (v := .int (a1 1)) S in_X3_pose_X3 tyX3_ok nmX3 G 0 rfl rfl 1 (by decide) lk_X3_pose_19 rfl (vp_nar_int _) rfl (Nat.le_of_ble_eq_true rfl) dX3_pose_13 (fun H locs G => ?_)
  obtain ⟨v_2, G⟩ : ∃ v_2 : Nat → Int32, wd X (va_A (@HAppend.hAppend va_W va_W va_W _ (odW h0 v) (rnV h1 a1 d1)) sz) (va_A (@HAppend.hAppend va_W va_W va_W _ (odW h0 v) (rnV h1 a1 d1)) sz) s (@HAppend.hAppend va_W va_W va_W _ (odW h0 v_2) (rnV h1 a1 d1)) H locs := ⟨upd v_1 1 (a1 1), G⟩
  refine lv_aload_n zx zb dX3_pose_16 rfl (lv_at hl 0 rfl) ?_
  refine lv_aload_n zx zb dX3_pose_17 rfl (lv_at hl 1 rfl) ?_
  refine r_get (C := RX8) (T := TX8) (N := 8) (ci := 6) (v := .int (a1 2)) S in_X3_pose_X8 G 1 rfl rfl 2 (by decide) lk_X3_pose_20 rfl dX3_pose_18 ?_
  refine r_put (C := RX3) (T := TX3) (N := 8) (ci := 1) (v := .int (a1 2)) S in_X3_pose_X3 tyX3_ok nmX3 G 0 rfl rfl 2 (by decide) lk_X3_pose_23 rfl (vp_nar_int _) rfl (Nat.le_of_ble_eq_true rfl) dX3_pose_21 (fun H locs G => ?_)
  obtain ⟨v_3, G⟩ : ∃ v_3 : Nat → Int32, wd X (va_A (@HAppend.hAppend va_W va_W va_W _ (odW h0 v) (rnV h1 a1 d1)) sz) (va_A (@HAppend.hAppend va_W va_W va_W _ (odW h0 v) (rnV h1 a1 d1)) sz) s (@HAppend.hAppend va_W va_W va_W _ (odW h0 v_3) (rnV h1 a1 d1)) H locs := ⟨upd v_2 2 (a1 2), G⟩
  refine lv_aload_n zx zb dX3_pose_24 rfl (lv_at hl 0 rfl) ?_
  refine lv_aload_n zx zb dX3_pose_25 rfl (lv_at hl 1 rfl) ?_
  refine r_get (C := RX8) (T := TX8) (N := 8) (ci := 6) (v := .int (d1 0)) S in_X3_pose_X8 G 1 rfl rfl 3 (by decide) lk_X3_pose_24 rfl dX3_pose_26 ?_
  refine r_put (C := RX3) (T := TX3) (N := 8) (ci := 1) (v := .int (d1 0)) S in_X3_pose_X3 tyX3_ok nmX3 G 0 rfl rfl 3 (by decide) lk_X3_pose_27 rfl (vp_nar_int _) rfl (Nat.le_of_ble_eq_true rfl) dX3_pose_29 (fun H locs G => ?_)
  obtain ⟨v_4, G⟩ : ∃ v_4 : Nat → Int32, wd X (va_A (@HAppend.hAppend va_W va_W va_W _ (odW h0 v) (rnV h1 a1 d1)) sz) (va_A (@HAppend.hAppend va_W va_W va_W _ (odW h0 v) (rnV h1 a1 d1)) sz) s (@HAppend.hAppend va_W va_W va_W _ (odW h0 v_4) (rnV h1 a1 d1)) H locs := ⟨upd v_3 3 (d1 0), G⟩
  refine lv_aload_n zx zb dX3_pose_32 rfl (lv_at hl 0 rfl) ?_
  refine lv_iload_n zx zb dX3_pose_33 rfl (lv_at hl 2 rfl) ?_
  refine r_put (C := RX3) (T := TX3) (N := 8) (ci := 1) (v := .int x2) S in_X3_pose_X3 tyX3_ok nmX3 G 0 rfl rfl 4 (by decide) lk_X3_pose_28 rfl (vp_nar_int _) rfl (Nat.le_of_ble_eq_true rfl) dX3_pose_34 (fun H locs G => ?_)
  obtain ⟨v_5, G⟩ : ∃ v_5 : Nat → Int32, wd X (va_A (@HAppend.hAppend va_W va_W va_W _ (odW h0 v) (rnV h1 a1 d1)) sz) (va_A (@HAppend.hAppend va_W va_W va_W _ (odW h0 v) (rnV h1 a1 d1)) sz) s (@HAppend.hAppend va_W va_W va_W _ (odW h0 v_5) (rnV h1 a1 d1)) H locs := ⟨upd v_4 4 x2, G⟩
  refine lv_aload_n zx zb dX3_pose_37 rfl (lv_at hl 0 rfl) ?_
  refine lv_iload_n zx zb dX3_pose_38 rfl (lv_at hl 3 rfl) ?_
  refine r_put (C := RX3) (T := TX3) (N := 8) (ci := 1) (v := .int x3) S in_X3_pose_X3 tyX3_ok nmX3 G 0 rfl rfl 5 (by decide) lk_X3_pose_31 rfl (vp_nar_int _) rfl (Nat.le_of_ble_eq_true rfl) dX3_pose_39 (fun H locs G => ?_)
  obtain ⟨v_6, G⟩ : ∃ v_6 : Nat → Int32, wd X (va_A (@HAppend.hAppend va_W va_W va_W _ (odW h0 v) (rnV h1 a1 d1)) sz) (va_A (@HAppend.hAppend va_W va_W va_W _ (odW h0 v) (rnV h1 a1 d1)) sz) s (@HAppend.hAppend va_W va_W va_W _ (odW h0 v_6) (rnV h1 a1 d1)) H locs := ⟨upd v_5 5 x3, G⟩
  refine lv_aload_n zx zb dX3_pose_42 rfl (lv_at hl 0 rfl) ?_
  refine lv_iload zx zb dX3_pose_43 (lv_at hl 4 rfl) ?_
  refine r_put (C := RX3) (T := TX3) (N := 8) (ci := 1) (v := .int x4) S in_X3_pose_X3 tyX3_ok nmX3 G 0 rfl rfl 6 (by decide) lk_X3_pose_34 rfl (vp_nar_int _) rfl (Nat.le_of_ble_eq_true rfl) dX3_pose_45 (fun H locs G => ?_)
  obtain ⟨v_7, G⟩ : ∃ v_7 : Nat → Int32, wd X (va_A (@HAppend.hAppend va_W va_W va_W _ (odW h0 v) (rnV h1 a1 d1)) sz) (va_A (@HAppend.hAppend va_W va_W va_W _ (odW h0 v) (rnV h1 a1 d1)) sz) s (@HAppend.hAppend va_W va_W va_W _ (odW h0 v_7) (rnV h1 a1 d1)) H locs := ⟨upd v_6 6 x4, G⟩
  refine lv_aload_n zx zb dX3_pose_48 rfl (lv_at hl 0 rfl) ?_
  refine lv_iload zx zb dX3_pose_49 (lv_at hl 5 rfl) ?_
  refine r_put (C := RX3) (T := TX3) (N := 8) (ci := 1) (v := .int x5) S in_X3_pose_X3 tyX3_ok nmX3 G 0 rfl rfl 7 (by decide) lk_X3_pose_37 rfl (vp_nar_int _) rfl (Nat.le_of_ble_eq_true rfl) dX3_pose_51 (fun H locs G => ?_)
  obtain ⟨v_8, G⟩ : ∃ v_8 : Nat → Int32, wd X (va_A (@HAppend.hAppend va_W va_W va_W _ (odW h0 v) (rnV h1 a1 d1)) sz) (va_A (@HAppend.hAppend va_W va_W va_W _ (odW h0 v) (rnV h1 a1 d1)) sz) s (@HAppend.hAppend va_W va_W va_W _ (odW h0 v_8) (rnV h1 a1 d1)) H locs := ⟨upd v_7 7 x5, G⟩
  exact e_void S zr zlk G (v_8) [0, 1] rfl rfl (Or.inr rfl) (trivial) dX3_pose_54
theorem in_X10_stumble_X10 : ∀ w ∈ wsX100, w ∈ wsX10_stumble := by decide +kernel
theorem lk_X10_stumble_10 : Cond.fieldLink RX10 10 "EggSpoons" "now" "LEggSpoons$Race;" ∈ wsX10_stumble := by decide +kernel
theorem in_X10_stumble_X5 : ∀ w ∈ wsX50, w ∈ wsX10_stumble := by decide +kernel
theorem lk_X10_stumble_126 : Cond.fieldLink RX10 126 "EggSpoons$Race" "row" "[LEggSpoons$Runner;" ∈ wsX10_stumble := by decide +kernel
theorem lk_X10_stumble_65 : Cond.fieldLink RX10 65 "EggSpoons" "odds" "LEggSpoons$Odds;" ∈ wsX10_stumble := by decide +kernel
theorem lk_X10_stumble_140 : Cond.fieldLink RX10 140 "EggSpoons$Race" "length" "I" ∈ wsX10_stumble := by decide +kernel
theorem lk_X10_stumble_110 : Cond.fieldLink RX10 110 "EggSpoons$Race" "tick" "I" ∈ wsX10_stumble := by decide +kernel
theorem hdV_X3_pose : yX3_pose.cls = RX3 ∧ yX3_pose.cls ≠ "java/lang/invoke/MethodHandle" ∧ yX3_pose.cls ≠ "java/lang/invoke/VarHandle" ∧ (parseMethodDescriptor yX3_pose.desc).map (fun d => d.parameters.length) = some 5 := by decide +kernel
theorem in_X10_stumble_X8 : ∀ w ∈ wsX80, w ∈ wsX10_stumble := by decide +kernel
theorem lk_X10_stumble_137 : Cond.fieldLink RX10 137 "EggSpoons$Runner" "place" "I" ∈ wsX10_stumble := by decide +kernel
theorem lk_X10_stumble_240 : Cond.fieldLink RX10 240 "EggSpoons$Runner" "waits" "I" ∈ wsX10_stumble := by decide +kernel
theorem mm_X10_stumble_inX3 : Cond.initialized RX3 ∈ wsX10_stumble := by decide +kernel
theorem mm_X10_stumble_stX3_ways : Cond.static yX3_ways ∈ wsX10_stumble := by decide +kernel
theorem hdS_X3_commonPart : yX3_commonPart.cls ≠ "java/lang/invoke/MethodHandle" ∧ yX3_commonPart.cls ≠ "java/lang/invoke/VarHandle" ∧ (parseMethodDescriptor yX3_commonPart.desc).map (fun d => d.parameters.length) = some 2 := by decide +kernel
theorem lk_X10_stumble_38 : Cond.fieldLink RX10 38 "EggSpoons" "above" "J" ∈ wsX10_stumble := by decide +kernel
theorem lk_X10_stumble_42 : Cond.fieldLink RX10 42 "EggSpoons" "below" "J" ∈ wsX10_stumble := by decide +kernel
set_option maxHeartbeats 4000000 in
set_option maxRecDepth 100000 in
/-- stumble -/
theorem s_stumble (l : Launch) (X : EX) (h0 : Nat) (nw : Nat) (sp : Nat) (xa : Nat → Nat) (la : Int64) (lb : Int64) (an : Nat → Nat) (sv : Nat → Int32) (dv : Nat → Int32) (n0 : Nat) (n1 : Nat) (n2 : Nat) (n3 : Nat) (n4 : Nat) (g0 : Nat → Int32) (gs : Nat → Int32) (gn : Nat → Int32) (gm : Nat → Int32) (vo : Nat → Int32) (fr : Nat → Int32) (x1 : Int32) (x2 : Int32) (x3 : Int32) (x4 : Int32) (hI_n0 : n0 ≤ 6) (hI_n1 : n1 ≤ 8) (hI_n2 : n2 ≤ 5) (hI_n3 : n3 ≤ 6) (hI_n4 : n4 ≤ 6) (sz : Nat) : Met l yX10_stumble wsX10_stumble ({ frames := 8, cells := 0, slots := 0, locals := 212 } : Room) (pE X [.ref h0, .int x1, .int x2, .int x3, .int x4] (@HAppend.hAppend va_W va_W va_W _ (xW h0 nw sp xa la lb) (@HAppend.hAppend va_W va_W va_W _ (rcV X nw an sv dv n0 n1 n2 n3 n4 g0 gs gn gm) (@HAppend.hAppend va_W va_W va_W _ (odW (xa 11) vo) ([((xa 5), .inl (X.2.1, 3, .inl fr))])))) sz) (qI (fun (r : Int32) (u : (Int64) × (Int64) × (Nat → Int32) × (Nat → Int32)) => (r = stuF (thP n0 x1 ∧ ((0 : Int32) ≤ x2 ∧ x2 ≤ 60) ∧ ((0 : Int32) ≤ x3 ∧ x3 ≤ 6) ∧ ((0 : Int32) ≤ x4 ∧ x4 ≤ 10)))) X (fun (u : (Int64) × (Int64) × (Nat → Int32) × (Nat → Int32)) => @HAppend.hAppend va_W va_W va_W _ (xW h0 nw sp xa u.1 u.2.1) (@HAppend.hAppend va_W va_W va_W _ (rcV X nw an sv dv n0 n1 n2 n3 n4 g0 gs gn gm) (@HAppend.hAppend va_W va_W va_W _ (odW (xa 11) u.2.2.1) ([((xa 5), .inl (X.2.1, 3, .inl u.2.2.2))])))) (@HAppend.hAppend va_W va_W va_W _ (xW h0 nw sp xa la lb) (@HAppend.hAppend va_W va_W va_W _ (rcV X nw an sv dv n0 n1 n2 n3 n4 g0 gs gn gm) (@HAppend.hAppend va_W va_W va_W _ (odW (xa 11) vo) ([((xa 5), .inl (X.2.1, 3, .inl fr))])))) sz) 0 0 (va_A (@HAppend.hAppend va_W va_W va_W _ (xW h0 nw sp xa la lb) (@HAppend.hAppend va_W va_W va_W _ (rcV X nw an sv dv n0 n1 n2 n3 n4 g0 gs gn gm) (@HAppend.hAppend va_W va_W va_W _ (odW (xa 11) vo) ([((xa 5), .inl (X.2.1, 3, .inl fr))])))) sz) := by
  refine mk_met (B := (va_A (@HAppend.hAppend va_W va_W va_W _ (xW h0 nw sp xa la lb) (@HAppend.hAppend va_W va_W va_W _ (rcV X nw an sv dv n0 n1 n2 n3 n4 g0 gs gn gm) (@HAppend.hAppend va_W va_W va_W _ (odW (xa 11) vo) ([((xa 5), .inl (X.2.1, 3, .inl fr))])))) sz)) (A := (va_A (@HAppend.hAppend va_W va_W va_W _ (xW h0 nw sp xa la lb) (@HAppend.hAppend va_W va_W va_W _ (rcV X nw an sv dv n0 n1 n2 n3 n4 g0 gs gn gm) (@HAppend.hAppend va_W va_W va_W _ (odW (xa 11) vo) ([((xa 5), .inl (X.2.1, 3, .inl fr))])))) sz)) (cc := cX10_stumble) (maxL := 12) (ret := (some .int)) (by decide) rfl (Nat.le_of_ble_eq_true rfl) k_w k_a (fun p e s m below meth c S zr zlk znm zsz G ls hl => ?_)
  have S : CallFix p m c cX10_stumble 12 s _ wsX10_stumble RX10 := S
  have zx := S.1
  have zb := S.2.1
  have hl : lv_has ls 12 [(0, .ref h0), (1, .int x1), (2, .int x2), (3, .int x3), (4, .int x4)] := hl
  refine lv_aload_n zx zb dX10_stumble_0 rfl (lv_at hl 0 rfl) ?_
  refine lv_iload_n zx zb dX10_stumble_1 rfl (lv_at hl 1 rfl) ?_
  refine o_ri (cells' := 0) (slots' := 0) G rfl rfl (n_V (As := [.int x1]) (rest := []) (C := RX10) (T := TX10) (N := 14) (ci := 8) S G (s_there l X h0 nw sp xa la lb an sv dv n0 n1 n2 n3 n4 g0 gs gn gm x1 hI_n0 hI_n1 hI_n2 hI_n3 hI_n4 s.heap.size) gX10_stumble_X10_there rfl rfl rfl hdV_X10_there ⟨Nat.le_of_ble_eq_true rfl, Nat.le_of_ble_eq_true rfl⟩ [0, 1, 2, 3, 4, 5, 6, 7, 8, 9, 10, 11, 12, 13, 14, 15, 16] rfl rfl 0 rfl rfl rfl hl.1 (Nat.le_of_ble_eq_true rfl) dX10_stumble_2 ⟨Nat.le_of_ble_eq_true rfl, Nat.le_of_ble_eq_true rfl⟩) (fun r_1 u_1 H locs hp_1 G => ?_)
  have G : wd X (va_A (@HAppend.hAppend va_W va_W va_W _ (xW h0 nw sp xa la lb) (@HAppend.hAppend va_W va_W va_W _ (rcV X nw an sv dv n0 n1 n2 n3 n4 g0 gs gn gm) (@HAppend.hAppend va_W va_W va_W _ (odW (xa 11) vo) ([((xa 5), .inl (X.2.1, 3, .inl fr))])))) sz) (va_A (@HAppend.hAppend va_W va_W va_W _ (xW h0 nw sp xa la lb) (@HAppend.hAppend va_W va_W va_W _ (rcV X nw an sv dv n0 n1 n2 n3 n4 g0 gs gn gm) (@HAppend.hAppend va_W va_W va_W _ (odW (xa 11) vo) ([((xa 5), .inl (X.2.1, 3, .inl fr))])))) sz) s (@HAppend.hAppend va_W va_W va_W _ (xW h0 nw sp xa la lb) (@HAppend.hAppend va_W va_W va_W _ (rcV X nw an sv dv n0 n1 n2 n3 n4 g0 gs gn gm) (@HAppend.hAppend va_W va_W va_W _ (odW (xa 11) vo) ([((xa 5), .inl (X.2.1, 3, .inl fr))])))) H locs := G
  rcases hp_1 with ⟨rfl, hj_1⟩ | ⟨rfl, hj_1⟩
  · obtain ⟨j_1, hj_1, rfl⟩ := hj_1
    refine lv_if_eq (tgt := 39) zx zb dX10_stumble_5 (by decide) (fun c_2 => absurd c_2 (by decide)) (fun c_2 => ?_)
    refine lv_iload_n zx zb dX10_stumble_8 rfl (lv_at hl 2 rfl) ?_
    refine lv_iconst (v := 0) zx zb dX10_stumble_9 (by decide) ?_
    refine lv_bipush (v := 60) zx zb dX10_stumble_10 (by decide) ?_
    refine o_ri (cells' := 0) (slots' := 0) G rfl rfl (n_S (As := [.int x2, .int 0, .int 60]) (rest := []) S G (s_within l X x2 0 60 H.size) gX10_stumble_X10_within rfl rfl rfl hdS_X10_within ⟨Nat.le_of_ble_eq_true rfl, Nat.le_of_ble_eq_true rfl⟩ [] rfl rfl rfl hl.1 (Nat.le_of_ble_eq_true rfl) dX10_stumble_12 ⟨Nat.le_of_ble_eq_true rfl, Nat.le_of_ble_eq_true rfl⟩) (fun r_3 u_3 H locs hp_3 G => ?_)
    have G : wd X (va_A (@HAppend.hAppend va_W va_W va_W _ (xW h0 nw sp xa la lb) (@HAppend.hAppend va_W va_W va_W _ (rcV X nw an sv dv n0 n1 n2 n3 n4 g0 gs gn gm) (@HAppend.hAppend va_W va_W va_W _ (odW (xa 11) vo) ([((xa 5), .inl (X.2.1, 3, .inl fr))])))) sz) (va_A (@HAppend.hAppend va_W va_W va_W _ (xW h0 nw sp xa la lb) (@HAppend.hAppend va_W va_W va_W _ (rcV X nw an sv dv n0 n1 n2 n3 n4 g0 gs gn gm) (@HAppend.hAppend va_W va_W va_W _ (odW (xa 11) vo) ([((xa 5), .inl (X.2.1, 3, .inl fr))])))) sz) s (@HAppend.hAppend va_W va_W va_W _ (xW h0 nw sp xa la lb) (@HAppend.hAppend va_W va_W va_W _ (rcV X nw an sv dv n0 n1 n2 n3 n4 g0 gs gn gm) (@HAppend.hAppend va_W va_W va_W _ (odW (xa 11) vo) ([((xa 5), .inl (X.2.1, 3, .inl fr))])))) H locs := G
    rcases hp_3 with ⟨rfl, hw_3⟩ | ⟨rfl, hw_3⟩
    · refine lv_if_eq (tgt := 39) zx zb dX10_stumble_15 (by decide) (fun c_4 => absurd c_4 (by decide)) (fun c_4 => ?_)
      refine lv_iload_n zx zb dX10_stumble_18 rfl (lv_at hl 3 rfl) ?_
      refine lv_iconst (v := 0) zx zb dX10_stumble_19 (by decide) ?_
      refine lv_bipush (v := 6) zx zb dX10_stumble_20 (by decide) ?_
      refine o_ri (cells' := 0) (slots' := 0) G rfl rfl (n_S (As := [.int x3, .int 0, .int 6]) (rest := []) S G (s_within l X x3 0 6 H.size) gX10_stumble_X10_within rfl rfl rfl hdS_X10_within ⟨Nat.le_of_ble_eq_true rfl, Nat.le_of_ble_eq_true rfl⟩ [] rfl rfl rfl hl.1 (Nat.le_of_ble_eq_true rfl) dX10_stumble_22 ⟨Nat.le_of_ble_eq_true rfl, Nat.le_of_ble_eq_true rfl⟩) (fun r_5 u_5 H locs hp_5 G => ?_)
      have G : wd X (va_A (@HAppend.hAppend va_W va_W va_W _ (xW h0 nw sp xa la lb) (@HAppend.hAppend va_W va_W va_W _ (rcV X nw an sv dv n0 n1 n2 n3 n4 g0 gs gn gm) (@HAppend.hAppend va_W va_W va_W _ (odW (xa 11) vo) ([((xa 5), .inl (X.2.1, 3, .inl fr))])))) sz) (va_A (@HAppend.hAppend va_W va_W va_W _ (xW h0 nw sp xa la lb) (@HAppend.hAppend va_W va_W va_W _ (rcV X nw an sv dv n0 n1 n2 n3 n4 g0 gs gn gm) (@HAppend.hAppend va_W va_W va_W _ (odW (xa 11) vo) ([((xa 5), .inl (X.2.1, 3, .inl fr))])))) sz) s (@HAppend.hAppend va_W va_W va_W _ (xW h0 nw sp xa la lb) (@HAppend.hAppend va_W va_W va_W _ (rcV X nw an sv dv n0 n1 n2 n3 n4 g0 gs gn gm) (@HAppend.hAppend va_W va_W va_W _ (odW (xa 11) vo) ([((xa 5), .inl (X.2.1, 3, .inl fr))])))) H locs := G
      rcases hp_5 with ⟨rfl, hw_5⟩ | ⟨rfl, hw_5⟩
      · refine lv_if_eq (tgt := 39) zx zb dX10_stumble_25 (by decide) (fun c_6 => absurd c_6 (by decide)) (fun c_6 => ?_)
        refine lv_iload zx zb dX10_stumble_28 (lv_at hl 4 rfl) ?_
        refine lv_iconst (v := 0) zx zb dX10_stumble_30 (by decide) ?_
        refine lv_bipush (v := 10) zx zb dX10_stumble_31 (by decide) ?_
        refine o_ri (cells' := 0) (slots' := 0) G rfl rfl (n_S (As := [.int x4, .int 0, .int 10]) (rest := []) S G (s_within l X x4 0 10 H.size) gX10_stumble_X10_within rfl rfl rfl hdS_X10_within ⟨Nat.le_of_ble_eq_true rfl, Nat.le_of_ble_eq_true rfl⟩ [] rfl rfl rfl hl.1 (Nat.le_of_ble_eq_true rfl) dX10_stumble_33 ⟨Nat.le_of_ble_eq_true rfl, Nat.le_of_ble_eq_true rfl⟩) (fun r_7 u_7 H locs hp_7 G => ?_)
        have G : wd X (va_A (@HAppend.hAppend va_W va_W va_W _ (xW h0 nw sp xa la lb) (@HAppend.hAppend va_W va_W va_W _ (rcV X nw an sv dv n0 n1 n2 n3 n4 g0 gs gn gm) (@HAppend.hAppend va_W va_W va_W _ (odW (xa 11) vo) ([((xa 5), .inl (X.2.1, 3, .inl fr))])))) sz) (va_A (@HAppend.hAppend va_W va_W va_W _ (xW h0 nw sp xa la lb) (@HAppend.hAppend va_W va_W va_W _ (rcV X nw an sv dv n0 n1 n2 n3 n4 g0 gs gn gm) (@HAppend.hAppend va_W va_W va_W _ (odW (xa 11) vo) ([((xa 5), .inl (X.2.1, 3, .inl fr))])))) sz) s (@HAppend.hAppend va_W va_W va_W _ (xW h0 nw sp xa la lb) (@HAppend.hAppend va_W va_W va_W _ (rcV X nw an sv dv n0 n1 n2 n3 n4 g0 gs gn gm) (@HAppend.hAppend va_W va_W va_W _ (odW (xa 11) vo) ([((xa 5), .inl (X.2.1, 3, .inl fr))])))) H locs := G
        rcases hp_7 with ⟨rfl, hw_7⟩ | ⟨rfl, hw_7⟩
        · refine lv_if_ne (tgt := 46) zx zb dX10_stumble_36 (by decide) (fun c_8 => ?_) (fun c_8 => absurd c_8 (by decide))
          obtain ⟨nn0, hnn0, rfl⟩ := k_nat6 hw_5
          rcases k_7c hnn0 with rfl | rfl | rfl | rfl | rfl | rfl | rfl
          · have hl : lv_has ls 12 [(0, .ref h0), (1, .int (nI j_1)), (2, .int x2), (3, .int 0), (4, .int x4)] := hl
            refine lv_aload_n zx zb dX10_stumble_46 rfl (lv_at hl 0 rfl) ?_
            refine r_get (C := RX10) (T := TX10) (N := 14) (ci := 8) (v := .ref nw) S in_X10_stumble_X10 G 0 rfl rfl 0 (by decide) lk_X10_stumble_10 rfl dX10_stumble_47 ?_
            refine r_get (C := RX5) (T := TX5) (N := 8) (ci := 3) (v := .ref (an 0)) S in_X10_stumble_X5 G 1 rfl rfl 3 (by decide) lk_X10_stumble_126 rfl dX10_stumble_50 ?_
            refine lv_iload_n zx zb dX10_stumble_53 rfl (lv_at hl 1 rfl) ?_
            rcases k_6c (show j_1 < 6 by omega) with rfl | rfl | rfl | rfl | rfl | rfl
            · refine k_it (v := 0) rfl ?_
              refine r_aald (C := RX8) (b := (an 1)) S G 2 3 rfl rfl (k_vp (by decide)) rfl dX10_stumble_54 ?_
              refine lv_astore (lv' := [(5, .ref (an 1)), (0, .ref h0), (1, .int 0), (2, .int x2), (3, .int 0), (4, .int x4)]) zx zb dX10_stumble_55 hl (by decide) rfl (fun ls hl => ?_)
              refine lv_aload_n zx zb dX10_stumble_57 rfl (lv_at hl 1 rfl) ?_
              refine r_get (C := RX10) (T := TX10) (N := 14) (ci := 8) (v := .ref (xa 11)) S in_X10_stumble_X10 G 0 rfl rfl 11 (by decide) lk_X10_stumble_65 rfl dX10_stumble_58 ?_
              refine lv_aload zx zb dX10_stumble_61 (lv_at hl 0 rfl) ?_
              refine lv_aload_n zx zb dX10_stumble_63 rfl (lv_at hl 1 rfl) ?_
              refine r_get (C := RX10) (T := TX10) (N := 14) (ci := 8) (v := .ref nw) S in_X10_stumble_X10 G 0 rfl rfl 0 (by decide) lk_X10_stumble_10 rfl dX10_stumble_64 ?_
              refine r_get (C := RX5) (T := TX5) (N := 8) (ci := 3) (v := .int (dv 0)) S in_X10_stumble_X5 G 1 rfl rfl 0 (by decide) lk_X10_stumble_140 rfl dX10_stumble_67 ?_
              refine lv_aload_n zx zb dX10_stumble_70 rfl (lv_at hl 1 rfl) ?_
              refine r_get (C := RX10) (T := TX10) (N := 14) (ci := 8) (v := .ref nw) S in_X10_stumble_X10 G 0 rfl rfl 0 (by decide) lk_X10_stumble_10 rfl dX10_stumble_71 ?_
              refine r_get (C := RX5) (T := TX5) (N := 8) (ci := 3) (v := .int (dv 1)) S in_X10_stumble_X5 G 1 rfl rfl 1 (by decide) lk_X10_stumble_110 rfl dX10_stumble_74 ?_
              refine lv_iload_n zx zb dX10_stumble_77 rfl (lv_at hl 4 rfl) ?_
              refine r_iadd (v := ((dv 1) + 0)) S rfl dX10_stumble_78 ?_
              refine lv_iload_n zx zb dX10_stumble_79 rfl (lv_at hl 3 rfl) ?_
              refine lv_iload zx zb dX10_stumble_80 (lv_at hl 5 rfl) ?_
              refine b_wv (cells' := 0) (slots' := 0) (wr := @HAppend.hAppend va_W va_W va_W _ (xW h0 nw sp xa la lb) (@HAppend.hAppend va_W va_W va_W _ ([(nw, .inr (3, [.int (dv 0), .int (dv 1), .int (nI n0), .ref (an 0), .ref (an 7), .ref (an 9), .ref (an 11), .ref (an 13)])), ((an 0), .inl (X.2.2.2.2, 6, .inr (.inr (.inr (.inr (rowQ an)))))), ((an 2), .inr (6, [.int (sv 3), .int (sv 4), .int (sv 5), .int (dv 15), .int (dv 16), .int (dv 17), .int (dv 18), .int (dv 19)])), ((an 3), .inr (6, [.int (sv 6), .int (sv 7), .int (sv 8), .int (dv 20), .int (dv 21), .int (dv 22), .int (dv 23), .int (dv 24)])), ((an 4), .inr (6, [.int (sv 9), .int (sv 10), .int (sv 11), .int (dv 25), .int (dv 26), .int (dv 27), .int (dv 28), .int (dv 29)])), ((an 5), .inr (6, [.int (sv 12), .int (sv 13), .int (sv 14), .int (dv 30), .int (dv 31), .int (dv 32), .int (dv 33), .int (dv 34)])), ((an 6), .inr (6, [.int (sv 15), .int (sv 16), .int (sv 17), .int (dv 35), .int (dv 36), .int (dv 37), .int (dv 38), .int (dv 39)])), ((an 7), .inr (2, [.ref (an 8), .int (nI n1)])), ((an 8), .inl (X.2.1, 248, .inl g0)), ((an 9), .inr (5, [.int 5, .int 0, .int 1, .ref (an 10), .int (nI n2)])), ((an 10), .inl (X.2.1, 25, .inl gs)), ((an 11), .inr (5, [.int 6, .int 1, .int 1, .ref (an 12), .int (nI n3)])), ((an 12), .inl (X.2.1, 30, .inl gn)), ((an 13), .inr (5, [.int 6, .int 0, .int 0, .ref (an 14), .int (nI n4)])), ((an 14), .inl (X.2.1, 30, .inl gm))]) ([((xa 5), .inl (X.2.1, 3, .inl fr))]))) G rfl rfl [17, 3] [0, 1, 2, 4, 5, 6, 7, 8, 9, 10, 11, 12, 13, 14, 15, 16, 18] rfl rfl rfl rfl (n_V (As := [.ref (an 1), .int (dv 0), .int ((dv 1) + 0), .int x2, .int x4]) (rest := []) (C := RX3) (T := TX3) (N := 8) (ci := 1) S G (s_pose l X (xa 11) vo (an 1) (fun k => sv (0 + k)) (fun k => dv (10 + k)) (dv 0) ((dv 1) + 0) x2 x4 H.size) gX10_stumble_X3_pose rfl rfl rfl hdV_X3_pose ⟨Nat.le_of_ble_eq_true rfl, Nat.le_of_ble_eq_true rfl⟩ [17, 3] rfl rfl 17 rfl rfl rfl hl.1 (Nat.le_of_ble_eq_true rfl) dX10_stumble_82 ⟨Nat.le_of_ble_eq_true rfl, Nat.le_of_ble_eq_true rfl⟩) (fun u_9 H locs hp_9 G => ?_)
              obtain ⟨v_9, rfl⟩ : ∃ z, z = u_9 := ⟨_, rfl⟩
              have hq_9 := hp_9
              have G : wd X (va_A (@HAppend.hAppend va_W va_W va_W _ (xW h0 nw sp xa la lb) (@HAppend.hAppend va_W va_W va_W _ (rcV X nw an sv dv n0 n1 n2 n3 n4 g0 gs gn gm) (@HAppend.hAppend va_W va_W va_W _ (odW (xa 11) vo) ([((xa 5), .inl (X.2.1, 3, .inl fr))])))) sz) (va_A (@HAppend.hAppend va_W va_W va_W _ (xW h0 nw sp xa la lb) (@HAppend.hAppend va_W va_W va_W _ (rcV X nw an sv dv n0 n1 n2 n3 n4 g0 gs gn gm) (@HAppend.hAppend va_W va_W va_W _ (odW (xa 11) vo) ([((xa 5), .inl (X.2.1, 3, .inl fr))])))) sz) s (@HAppend.hAppend va_W va_W va_W _ (xW h0 nw sp xa la lb) (@HAppend.hAppend va_W va_W va_W _ (rcV X nw an sv dv n0 n1 n2 n3 n4 g0 gs gn gm) (@HAppend.hAppend va_W va_W va_W _ ([((xa 5), .inl (X.2.1, 3, .inl fr))]) (odW (xa 11) v_9)))) H locs := wd_sub G [0, 1, 2, 18, 3, 4, 5, 6, 7, 8, 9, 10, 11, 12, 13, 14, 15, 16, 17] rfl rfl
              refine lv_aload_n zx zb dX10_stumble_85 rfl (lv_at hl 1 rfl) ?_
              refine r_get (C := RX10) (T := TX10) (N := 14) (ci := 8) (v := .ref (xa 11)) S in_X10_stumble_X10 G 0 rfl rfl 11 (by decide) lk_X10_stumble_65 rfl dX10_stumble_86 ?_
              refine lv_aload zx zb dX10_stumble_89 (lv_at hl 0 rfl) ?_
              refine r_get (C := RX8) (T := TX8) (N := 8) (ci := 6) (v := .int (dv 11)) S in_X10_stumble_X8 G 3 rfl rfl 4 (by decide) lk_X10_stumble_137 rfl dX10_stumble_91 ?_
              refine lv_aload zx zb dX10_stumble_94 (lv_at hl 0 rfl) ?_
              refine r_get (C := RX8) (T := TX8) (N := 8) (ci := 6) (v := .int (dv 13)) S in_X10_stumble_X8 G 3 rfl rfl 6 (by decide) lk_X10_stumble_240 rfl dX10_stumble_96 ?_
              refine lv_iload_n zx zb dX10_stumble_99 rfl (lv_at hl 4 rfl) ?_
              refine o_rl (cells' := 0) (slots' := 0) G rfl rfl (n_SN (As := [.ref (xa 11), .int (dv 11), .int (dv 13), .int 0]) (rest := []) (host := "EggSpoons") S G (s_ways0 l X (xa 11) v_9 (dv 11) (dv 13) H.size) gX10_stumble_X3_ways_n243 rfl rfl rfl mm_X10_stumble_inX3 G.1.2.2.2.2.2.2.2.2.2.2.2 mm_X10_stumble_stX3_ways hdS_X3_ways ⟨Nat.le_of_ble_eq_true rfl, Nat.le_of_ble_eq_true rfl⟩ [18] rfl rfl rfl hl.1 (Nat.le_of_ble_eq_true rfl) dX10_stumble_100 ⟨Nat.le_of_ble_eq_true rfl, Nat.le_of_ble_eq_true rfl⟩) (fun r_10 u_10 H locs hp_10 G => ?_)
              have G : wd X (va_A (@HAppend.hAppend va_W va_W va_W _ (xW h0 nw sp xa la lb) (@HAppend.hAppend va_W va_W va_W _ (rcV X nw an sv dv n0 n1 n2 n3 n4 g0 gs gn gm) (@HAppend.hAppend va_W va_W va_W _ (odW (xa 11) vo) ([((xa 5), .inl (X.2.1, 3, .inl fr))])))) sz) (va_A (@HAppend.hAppend va_W va_W va_W _ (xW h0 nw sp xa la lb) (@HAppend.hAppend va_W va_W va_W _ (rcV X nw an sv dv n0 n1 n2 n3 n4 g0 gs gn gm) (@HAppend.hAppend va_W va_W va_W _ (odW (xa 11) vo) ([((xa 5), .inl (X.2.1, 3, .inl fr))])))) sz) s (@HAppend.hAppend va_W va_W va_W _ (xW h0 nw sp xa la lb) (@HAppend.hAppend va_W va_W va_W _ (rcV X nw an sv dv n0 n1 n2 n3 n4 g0 gs gn gm) (@HAppend.hAppend va_W va_W va_W _ ([((xa 5), .inl (X.2.1, 3, .inl fr))]) (odW (xa 11) v_9)))) H locs := G
              refine lv_lstore (lv' := [(6, .long r_10), (5, .ref (an 1)), (0, .ref h0), (1, .int 0), (2, .int x2), (3, .int 0), (4, .int x4)]) zx zb dX10_stumble_103 hl (by decide) rfl (fun ls hl => ?_)
              refine lv_iload_n zx zb dX10_stumble_105 rfl (lv_at hl 5 rfl) ?_
              refine o_rl (cells' := 0) (slots' := 0) G rfl rfl (n_S (As := [.int 0]) (rest := []) S G (s_tenTo l X 0 (by omega) H.size) gX10_stumble_X3_tenTo rfl rfl rfl hdS_X3_tenTo ⟨Nat.le_of_ble_eq_true rfl, Nat.le_of_ble_eq_true rfl⟩ [] rfl rfl rfl hl.1 (Nat.le_of_ble_eq_true rfl) dX10_stumble_106 ⟨Nat.le_of_ble_eq_true rfl, Nat.le_of_ble_eq_true rfl⟩) (fun r_11 u_11 H locs hp_11 G => ?_)
              have G : wd X (va_A (@HAppend.hAppend va_W va_W va_W _ (xW h0 nw sp xa la lb) (@HAppend.hAppend va_W va_W va_W _ (rcV X nw an sv dv n0 n1 n2 n3 n4 g0 gs gn gm) (@HAppend.hAppend va_W va_W va_W _ (odW (xa 11) vo) ([((xa 5), .inl (X.2.1, 3, .inl fr))])))) sz) (va_A (@HAppend.hAppend va_W va_W va_W _ (xW h0 nw sp xa la lb) (@HAppend.hAppend va_W va_W va_W _ (rcV X nw an sv dv n0 n1 n2 n3 n4 g0 gs gn gm) (@HAppend.hAppend va_W va_W va_W _ (odW (xa 11) vo) ([((xa 5), .inl (X.2.1, 3, .inl fr))])))) sz) s (@HAppend.hAppend va_W va_W va_W _ (xW h0 nw sp xa la lb) (@HAppend.hAppend va_W va_W va_W _ (rcV X nw an sv dv n0 n1 n2 n3 n4 g0 gs gn gm) (@HAppend.hAppend va_W va_W va_W _ ([((xa 5), .inl (X.2.1, 3, .inl fr))]) (odW (xa 11) v_9)))) H locs := G
              refine lv_lstore (lv' := [(8, .long r_11), (6, .long r_10), (5, .ref (an 1)), (0, .ref h0), (1, .int 0), (2, .int x2), (3, .int 0), (4, .int x4)]) zx zb dX10_stumble_109 hl (by decide) rfl (fun ls hl => ?_)
              refine lv_lload zx zb dX10_stumble_111 (lv_at hl 1 rfl) ?_
              refine lv_lload zx zb dX10_stumble_113 (lv_at hl 0 rfl) ?_
              refine o_rl (cells' := 0) (slots' := 0) G rfl rfl (n_S (As := [.long r_10, .long r_11]) (rest := []) S G (s_commonPart l X r_10 r_11 H.size) gX10_stumble_X3_commonPart rfl rfl rfl hdS_X3_commonPart ⟨Nat.le_of_ble_eq_true rfl, Nat.le_of_ble_eq_true rfl⟩ [] rfl rfl rfl hl.1 (Nat.le_of_ble_eq_true rfl) dX10_stumble_115 ⟨Nat.le_of_ble_eq_true rfl, Nat.le_of_ble_eq_true rfl⟩) (fun r_12 u_12 H locs hp_12 G => ?_)
              have G : wd X (va_A (@HAppend.hAppend va_W va_W va_W _ (xW h0 nw sp xa la lb) (@HAppend.hAppend va_W va_W va_W _ (rcV X nw an sv dv n0 n1 n2 n3 n4 g0 gs gn gm) (@HAppend.hAppend va_W va_W va_W _ (odW (xa 11) vo) ([((xa 5), .inl (X.2.1, 3, .inl fr))])))) sz) (va_A (@HAppend.hAppend va_W va_W va_W _ (xW h0 nw sp xa la lb) (@HAppend.hAppend va_W va_W va_W _ (rcV X nw an sv dv n0 n1 n2 n3 n4 g0 gs gn gm) (@HAppend.hAppend va_W va_W va_W _ (odW (xa 11) vo) ([((xa 5), .inl (X.2.1, 3, .inl fr))])))) sz) s (@HAppend.hAppend va_W va_W va_W _ (xW h0 nw sp xa la lb) (@HAppend.hAppend va_W va_W va_W _ (rcV X nw an sv dv n0 n1 n2 n3 n4 g0 gs gn gm) (@HAppend.hAppend va_W va_W va_W _ ([((xa 5), .inl (X.2.1, 3, .inl fr))]) (odW (xa 11) v_9)))) H locs := G
              refine lv_lstore (lv' := [(10, .long r_12), (8, .long r_11), (6, .long r_10), (5, .ref (an 1)), (0, .ref h0), (1, .int 0), (2, .int x2), (3, .int 0), (4, .int x4)]) zx zb dX10_stumble_118 hl (by decide) rfl (fun ls hl => ?_)
              refine lv_lload zx zb dX10_stumble_120 (lv_at hl 0 rfl) ?_
              refine lv_lconst (v := (Int32.toInt64 0)) zx zb dX10_stumble_122 (by decide) ?_
              refine W.lcmp zx zb dX10_stumble_123 ?_
              refine k_cutW (PP := fun Wx => ∀ (la_14 : Int64) (lb_15 : Int64) (H : Heap) (locs : List Loc) (ls : Array Slot), wd X (va_A (@HAppend.hAppend va_W va_W va_W _ (xW h0 nw sp xa la lb) (@HAppend.hAppend va_W va_W va_W _ (rcV X nw an sv dv n0 n1 n2 n3 n4 g0 gs gn gm) (@HAppend.hAppend va_W va_W va_W _ (odW (xa 11) vo) ([((xa 5), .inl (X.2.1, 3, .inl fr))])))) sz) (va_A (@HAppend.hAppend va_W va_W va_W _ (xW h0 nw sp xa la lb) (@HAppend.hAppend va_W va_W va_W _ (rcV X nw an sv dv n0 n1 n2 n3 n4 g0 gs gn gm) (@HAppend.hAppend va_W va_W va_W _ (odW (xa 11) vo) ([((xa 5), .inl (X.2.1, 3, .inl fr))])))) sz) s (@HAppend.hAppend va_W va_W va_W _ (xW h0 nw sp xa la_14 lb_15) (@HAppend.hAppend va_W va_W va_W _ (rcV X nw an sv dv n0 n1 n2 n3 n4 g0 gs gn gm) (@HAppend.hAppend va_W va_W va_W _ ([((xa 5), .inl (X.2.1, 3, .inl fr))]) (odW (xa 11) v_9)))) H locs → lv_has ls 12 [(10, .long r_12), (8, .long r_11), (6, .long r_10), (5, .ref (an 1)), (0, .ref h0), (1, .int 0), (2, .int x2), (3, .int 0), (4, .int x4)] → Wx (F0 m 145 ls []) H locs) ?_ ?_
              · intro join_124
                refine lv_if_le (tgt := 145) zx zb dX10_stumble_124 (by decide) (fun c_13 => ?_) (fun c_13 => ?_)
                · exact join_124 la lb _ _ _  G hl
                · refine lv_aload_n zx zb dX10_stumble_127 rfl (lv_at hl 4 rfl) ?_
                  refine lv_lload zx zb dX10_stumble_128 (lv_at hl 2 rfl) ?_
                  refine lv_lload zx zb dX10_stumble_130 (lv_at hl 0 rfl) ?_
                  refine lv_ldiv zx zb dX10_stumble_132 (k_lnz2 c_13) ?_
                  refine k_ldE (fun y_16 => ?_)
                  refine r_put (C := RX10) (T := TX10) (N := 14) (ci := 8) (v := .long y_16) S in_X10_stumble_X10 tyX10_ok nmX10 G 0 rfl rfl 6 (by decide) lk_X10_stumble_38 rfl rfl rfl (Nat.le_of_ble_eq_true rfl) dX10_stumble_133 (fun H locs G => ?_)
                  have G : wd X (va_A (@HAppend.hAppend va_W va_W va_W _ (xW h0 nw sp xa la lb) (@HAppend.hAppend va_W va_W va_W _ (rcV X nw an sv dv n0 n1 n2 n3 n4 g0 gs gn gm) (@HAppend.hAppend va_W va_W va_W _ (odW (xa 11) vo) ([((xa 5), .inl (X.2.1, 3, .inl fr))])))) sz) (va_A (@HAppend.hAppend va_W va_W va_W _ (xW h0 nw sp xa la lb) (@HAppend.hAppend va_W va_W va_W _ (rcV X nw an sv dv n0 n1 n2 n3 n4 g0 gs gn gm) (@HAppend.hAppend va_W va_W va_W _ (odW (xa 11) vo) ([((xa 5), .inl (X.2.1, 3, .inl fr))])))) sz) s (@HAppend.hAppend va_W va_W va_W _ (xW h0 nw sp xa y_16 lb) (@HAppend.hAppend va_W va_W va_W _ (rcV X nw an sv dv n0 n1 n2 n3 n4 g0 gs gn gm) (@HAppend.hAppend va_W va_W va_W _ ([((xa 5), .inl (X.2.1, 3, .inl fr))]) (odW (xa 11) v_9)))) H locs := G
                  refine lv_aload_n zx zb dX10_stumble_136 rfl (lv_at hl 4 rfl) ?_
                  refine lv_lload zx zb dX10_stumble_137 (lv_at hl 1 rfl) ?_
                  refine lv_lload zx zb dX10_stumble_139 (lv_at hl 0 rfl) ?_
                  refine lv_ldiv zx zb dX10_stumble_141 (k_lnz2 c_13) ?_
                  refine k_ldE (fun y_17 => ?_)
                  refine r_put (C := RX10) (T := TX10) (N := 14) (ci := 8) (v := .long y_17) S in_X10_stumble_X10 tyX10_ok nmX10 G 0 rfl rfl 7 (by decide) lk_X10_stumble_42 rfl rfl rfl (Nat.le_of_ble_eq_true rfl) dX10_stumble_142 (fun H locs G => ?_)
                  have G : wd X (va_A (@HAppend.hAppend va_W va_W va_W _ (xW h0 nw sp xa la lb) (@HAppend.hAppend va_W va_W va_W _ (rcV X nw an sv dv n0 n1 n2 n3 n4 g0 gs gn gm) (@HAppend.hAppend va_W va_W va_W _ (odW (xa 11) vo) ([((xa 5), .inl (X.2.1, 3, .inl fr))])))) sz) (va_A (@HAppend.hAppend va_W va_W va_W _ (xW h0 nw sp xa la lb) (@HAppend.hAppend va_W va_W va_W _ (rcV X nw an sv dv n0 n1 n2 n3 n4 g0 gs gn gm) (@HAppend.hAppend va_W va_W va_W _ (odW (xa 11) vo) ([((xa 5), .inl (X.2.1, 3, .inl fr))])))) sz) s (@HAppend.hAppend va_W va_W va_W _ (xW h0 nw sp xa y_16 y_17) (@HAppend.hAppend va_W va_W va_W _ (rcV X nw an sv dv n0 n1 n2 n3 n4 g0 gs gn gm) (@HAppend.hAppend va_W va_W va_W _ ([((xa 5), .inl (X.2.1, 3, .inl fr))]) (odW (xa 11) v_9)))) H locs := G
                  exact join_124 y_16 y_17 _ _ _  G hl
              · intro la_14 lb_15 H locs ls  G hl
                refine lv_iconst (v := 1) zx zb dX10_stumble_145 (by decide) ?_
                exact e_int S zr zlk (vp_nar_int _) G (la_14, lb_15, v_9, fr) [0, 1, 2, 3, 4, 5, 6, 7, 8, 9, 10, 11, 12, 13, 14, 15, 16, 18, 17] rfl rfl (Or.inr rfl) ((stuF_p ⟨⟨_, hj_1, rfl⟩, hw_3, hw_5, hw_7⟩).symm) dX10_stumble_146
            · refine k_it (v := 1) rfl ?_
              refine r_aald (C := RX8) (b := (an 2)) S G 2 3 rfl rfl (k_vp (by decide)) rfl dX10_stumble_54 ?_
              refine lv_astore (lv' := [(5, .ref (an 2)), (0, .ref h0), (1, .int 1), (2, .int x2), (3, .int 0), (4, .int x4)]) zx zb dX10_stumble_55 hl (by decide) rfl (fun ls hl => ?_)
              refine lv_aload_n zx zb dX10_stumble_57 rfl (lv_at hl 1 rfl) ?_
              refine r_get (C := RX10) (T := TX10) (N := 14) (ci := 8) (v := .ref (xa 11)) S in_X10_stumble_X10 G 0 rfl rfl 11 (by decide) lk_X10_stumble_65 rfl dX10_stumble_58 ?_
              refine lv_aload zx zb dX10_stumble_61 (lv_at hl 0 rfl) ?_
              refine lv_aload_n zx zb dX10_stumble_63 rfl (lv_at hl 1 rfl) ?_
              refine r_get (C := RX10) (T := TX10) (N := 14) (ci := 8) (v := .ref nw) S in_X10_stumble_X10 G 0 rfl rfl 0 (by decide) lk_X10_stumble_10 rfl dX10_stumble_64 ?_
              refine r_get (C := RX5) (T := TX5) (N := 8) (ci := 3) (v := .int (dv 0)) S in_X10_stumble_X5 G 1 rfl rfl 0 (by decide) lk_X10_stumble_140 rfl dX10_stumble_67 ?_
              refine lv_aload_n zx zb dX10_stumble_70 rfl (lv_at hl 1 rfl) ?_
              refine r_get (C := RX10) (T := TX10) (N := 14) (ci := 8) (v := .ref nw) S in_X10_stumble_X10 G 0 rfl rfl 0 (by decide) lk_X10_stumble_10 rfl dX10_stumble_71 ?_
              refine r_get (C := RX5) (T := TX5) (N := 8) (ci := 3) (v := .int (dv 1)) S in_X10_stumble_X5 G 1 rfl rfl 1 (by decide) lk_X10_stumble_110 rfl dX10_stumble_74 ?_
              refine lv_iload_n zx zb dX10_stumble_77 rfl (lv_at hl 4 rfl) ?_
              refine r_iadd (v := ((dv 1) + 0)) S rfl dX10_stumble_78 ?_
              refine lv_iload_n zx zb dX10_stumble_79 rfl (lv_at hl 3 rfl) ?_
              refine lv_iload zx zb dX10_stumble_80 (lv_at hl 5 rfl) ?_
              refine b_wv (cells' := 0) (slots' := 0) (wr := @HAppend.hAppend va_W va_W va_W _ (xW h0 nw sp xa la lb) (@HAppend.hAppend va_W va_W va_W _ ([(nw, .inr (3, [.int (dv 0), .int (dv 1), .int (nI n0), .ref (an 0), .ref (an 7), .ref (an 9), .ref (an 11), .ref (an 13)])), ((an 0), .inl (X.2.2.2.2, 6, .inr (.inr (.inr (.inr (rowQ an)))))), ((an 1), .inr (6, [.int (sv 0), .int (sv 1), .int (sv 2), .int (dv 10), .int (dv 11), .int (dv 12), .int (dv 13), .int (dv 14)])), ((an 3), .inr (6, [.int (sv 6), .int (sv 7), .int (sv 8), .int (dv 20), .int (dv 21), .int (dv 22), .int (dv 23), .int (dv 24)])), ((an 4), .inr (6, [.int (sv 9), .int (sv 10), .int (sv 11), .int (dv 25), .int (dv 26), .int (dv 27), .int (dv 28), .int (dv 29)])), ((an 5), .inr (6, [.int (sv 12), .int (sv 13), .int (sv 14), .int (dv 30), .int (dv 31), .int (dv 32), .int (dv 33), .int (dv 34)])), ((an 6), .inr (6, [.int (sv 15), .int (sv 16), .int (sv 17), .int (dv 35), .int (dv 36), .int (dv 37), .int (dv 38), .int (dv 39)])), ((an 7), .inr (2, [.ref (an 8), .int (nI n1)])), ((an 8), .inl (X.2.1, 248, .inl g0)), ((an 9), .inr (5, [.int 5, .int 0, .int 1, .ref (an 10), .int (nI n2)])), ((an 10), .inl (X.2.1, 25, .inl gs)), ((an 11), .inr (5, [.int 6, .int 1, .int 1, .ref (an 12), .int (nI n3)])), ((an 12), .inl (X.2.1, 30, .inl gn)), ((an 13), .inr (5, [.int 6, .int 0, .int 0, .ref (an 14), .int (nI n4)])), ((an 14), .inl (X.2.1, 30, .inl gm))]) ([((xa 5), .inl (X.2.1, 3, .inl fr))]))) G rfl rfl [17, 4] [0, 1, 2, 3, 5, 6, 7, 8, 9, 10, 11, 12, 13, 14, 15, 16, 18] rfl rfl rfl rfl (n_V (As := [.ref (an 2), .int (dv 0), .int ((dv 1) + 0), .int x2, .int x4]) (rest := []) (C := RX3) (T := TX3) (N := 8) (ci := 1) S G (s_pose l X (xa 11) vo (an 2) (fun k => sv (3 + k)) (fun k => dv (15 + k)) (dv 0) ((dv 1) + 0) x2 x4 H.size) gX10_stumble_X3_pose rfl rfl rfl hdV_X3_pose ⟨Nat.le_of_ble_eq_true rfl, Nat.le_of_ble_eq_true rfl⟩ [17, 4] rfl rfl 17 rfl rfl rfl hl.1 (Nat.le_of_ble_eq_true rfl) dX10_stumble_82 ⟨Nat.le_of_ble_eq_true rfl, Nat.le_of_ble_eq_true rfl⟩) (fun u_18 H locs hp_18 G => ?_)
              obtain ⟨v_18, rfl⟩ : ∃ z, z = u_18 := ⟨_, rfl⟩
              have hq_18 := hp_18
              have G : wd X (va_A (@HAppend.hAppend va_W va_W va_W _ (xW h0 nw sp xa la lb) (@HAppend.hAppend va_W va_W va_W _ (rcV X nw an sv dv n0 n1 n2 n3 n4 g0 gs gn gm) (@HAppend.hAppend va_W va_W va_W _ (odW (xa 11) vo) ([((xa 5), .inl (X.2.1, 3, .inl fr))])))) sz) (va_A (@HAppend.hAppend va_W va_W va_W _ (xW h0 nw sp xa la lb) (@HAppend.hAppend va_W va_W va_W _ (rcV X nw an sv dv n0 n1 n2 n3 n4 g0 gs gn gm) (@HAppend.hAppend va_W va_W va_W _ (odW (xa 11) vo) ([((xa 5), .inl (X.2.1, 3, .inl fr))])))) sz) s (@HAppend.hAppend va_W va_W va_W _ (xW h0 nw sp xa la lb) (@HAppend.hAppend va_W va_W va_W _ (rcV X nw an sv dv n0 n1 n2 n3 n4 g0 gs gn gm) (@HAppend.hAppend va_W va_W va_W _ ([((xa 5), .inl (X.2.1, 3, .inl fr))]) (odW (xa 11) v_18)))) H locs := wd_sub G [0, 1, 2, 3, 18, 4, 5, 6, 7, 8, 9, 10, 11, 12, 13, 14, 15, 16, 17] rfl rfl
              refine lv_aload_n zx zb dX10_stumble_85 rfl (lv_at hl 1 rfl) ?_
              refine r_get (C := RX10) (T := TX10) (N := 14) (ci := 8) (v := .ref (xa 11)) S in_X10_stumble_X10 G 0 rfl rfl 11 (by decide) lk_X10_stumble_65 rfl dX10_stumble_86 ?_
              refine lv_aload zx zb dX10_stumble_89 (lv_at hl 0 rfl) ?_
              refine r_get (C := RX8) (T := TX8) (N := 8) (ci := 6) (v := .int (dv 16)) S in_X10_stumble_X8 G 4 rfl rfl 4 (by decide) lk_X10_stumble_137 rfl dX10_stumble_91 ?_
              refine lv_aload zx zb dX10_stumble_94 (lv_at hl 0 rfl) ?_
              refine r_get (C := RX8) (T := TX8) (N := 8) (ci := 6) (v := .int (dv 18)) S in_X10_stumble_X8 G 4 rfl rfl 6 (by decide) lk_X10_stumble_240 rfl dX10_stumble_96 ?_
              refine lv_iload_n zx zb dX10_stumble_99 rfl (lv_at hl 4 rfl) ?_
              refine o_rl (cells' := 0) (slots' := 0) G rfl rfl (n_SN (As := [.ref (xa 11), .int (dv 16), .int (dv 18), .int 0]) (rest := []) (host := "EggSpoons") S G (s_ways0 l X (xa 11) v_18 (dv 16) (dv 18) H.size) gX10_stumble_X3_ways_n243 rfl rfl rfl mm_X10_stumble_inX3 G.1.2.2.2.2.2.2.2.2.2.2.2 mm_X10_stumble_stX3_ways hdS_X3_ways ⟨Nat.le_of_ble_eq_true rfl, Nat.le_of_ble_eq_true rfl⟩ [18] rfl rfl rfl hl.1 (Nat.le_of_ble_eq_true rfl) dX10_stumble_100 ⟨Nat.le_of_ble_eq_true rfl, Nat.le_of_ble_eq_true rfl⟩) (fun r_19 u_19 H locs hp_19 G => ?_)
              have G : wd X (va_A (@HAppend.hAppend va_W va_W va_W _ (xW h0 nw sp xa la lb) (@HAppend.hAppend va_W va_W va_W _ (rcV X nw an sv dv n0 n1 n2 n3 n4 g0 gs gn gm) (@HAppend.hAppend va_W va_W va_W _ (odW (xa 11) vo) ([((xa 5), .inl (X.2.1, 3, .inl fr))])))) sz) (va_A (@HAppend.hAppend va_W va_W va_W _ (xW h0 nw sp xa la lb) (@HAppend.hAppend va_W va_W va_W _ (rcV X nw an sv dv n0 n1 n2 n3 n4 g0 gs gn gm) (@HAppend.hAppend va_W va_W va_W _ (odW (xa 11) vo) ([((xa 5), .inl (X.2.1, 3, .inl fr))])))) sz) s (@HAppend.hAppend va_W va_W va_W _ (xW h0 nw sp xa la lb) (@HAppend.hAppend va_W va_W va_W _ (rcV X nw an sv dv n0 n1 n2 n3 n4 g0 gs gn gm) (@HAppend.hAppend va_W va_W va_W _ ([((xa 5), .inl (X.2.1, 3, .inl fr))]) (odW (xa 11) v_18)))) H locs := G
              refine lv_lstore (lv' := [(6, .long r_19), (5, .ref (an 2)), (0, .ref h0), (1, .int 1), (2, .int x2), (3, .int 0), (4, .int x4)]) zx zb dX10_stumble_103 hl (by decide) rfl (fun ls hl => ?_)
              refine lv_iload_n zx zb dX10_stumble_105 rfl (lv_at hl 5 rfl) ?_
              refine o_rl (cells' := 0) (slots' := 0) G rfl rfl (n_S (As := [.int 0]) (rest := []) S G (s_tenTo l X 0 (by omega) H.size) gX10_stumble_X3_tenTo rfl rfl rfl hdS_X3_tenTo ⟨Nat.le_of_ble_eq_true rfl, Nat.le_of_ble_eq_true rfl⟩ [] rfl rfl rfl hl.1 (Nat.le_of_ble_eq_true rfl) dX10_stumble_106 ⟨Nat.le_of_ble_eq_true rfl, Nat.le_of_ble_eq_true rfl⟩) (fun r_20 u_20 H locs hp_20 G => ?_)
              have G : wd X (va_A (@HAppend.hAppend va_W va_W va_W _ (xW h0 nw sp xa la lb) (@HAppend.hAppend va_W va_W va_W _ (rcV X nw an sv dv n0 n1 n2 n3 n4 g0 gs gn gm) (@HAppend.hAppend va_W va_W va_W _ (odW (xa 11) vo) ([((xa 5), .inl (X.2.1, 3, .inl fr))])))) sz) (va_A (@HAppend.hAppend va_W va_W va_W _ (xW h0 nw sp xa la lb) (@HAppend.hAppend va_W va_W va_W _ (rcV X nw an sv dv n0 n1 n2 n3 n4 g0 gs gn gm) (@HAppend.hAppend va_W va_W va_W _ (odW (xa 11) vo) ([((xa 5), .inl (X.2.1, 3, .inl fr))])))) sz) s (@HAppend.hAppend va_W va_W va_W _ (xW h0 nw sp xa la lb) (@HAppend.hAppend va_W va_W va_W _ (rcV X nw an sv dv n0 n1 n2 n3 n4 g0 gs gn gm) (@HAppend.hAppend va_W va_W va_W _ ([((xa 5), .inl (X.2.1, 3, .inl fr))]) (odW (xa 11) v_18)))) H locs := G
              refine lv_lstore (lv' := [(8, .long r_20), (6, .long r_19), (5, .ref (an 2)), (0, .ref h0), (1, .int 1), (2, .int x2), (3, .int 0), (4, .int x4)]) zx zb dX10_stumble_109 hl (by decide) rfl (fun ls hl => ?_)
              refine lv_lload zx zb dX10_stumble_111 (lv_at hl 1 rfl) ?_
              refine lv_lload zx zb dX10_stumble_113 (lv_at hl 0 rfl) ?_
              refine o_rl (cells' := 0) (slots' := 0) G rfl rfl (n_S (As := [.long r_19, .long r_20]) (rest := []) S G (s_commonPart l X r_19 r_20 H.size) gX10_stumble_X3_commonPart rfl rfl rfl hdS_X3_commonPart ⟨Nat.le_of_ble_eq_true rfl, Nat.le_of_ble_eq_true rfl⟩ [] rfl rfl rfl hl.1 (Nat.le_of_ble_eq_true rfl) dX10_stumble_115 ⟨Nat.le_of_ble_eq_true rfl, Nat.le_of_ble_eq_true rfl⟩) (fun r_21 u_21 H locs hp_21 G => ?_)
              have G : wd X (va_A (@HAppend.hAppend va_W va_W va_W _ (xW h0 nw sp xa la lb) (@HAppend.hAppend va_W va_W va_W _ (rcV X nw an sv dv n0 n1 n2 n3 n4 g0 gs gn gm) (@HAppend.hAppend va_W va_W va_W _ (odW (xa 11) vo) ([((xa 5), .inl (X.2.1, 3, .inl fr))])))) sz) (va_A (@HAppend.hAppend va_W va_W va_W _ (xW h0 nw sp xa la lb) (@HAppend.hAppend va_W va_W va_W _ (rcV X nw an sv dv n0 n1 n2 n3 n4 g0 gs gn gm) (@HAppend.hAppend va_W va_W va_W _ (odW (xa 11) vo) ([((xa 5), .inl (X.2.1, 3, .inl fr))])))) sz) s (@HAppend.hAppend va_W va_W va_W _ (xW h0 nw sp xa la lb) (@HAppend.hAppend va_W va_W va_W _ (rcV X nw an sv dv n0 n1 n2 n3 n4 g0 gs gn gm) (@HAppend.hAppend va_W va_W va_W _ ([((xa 5), .inl (X.2.1, 3, .inl fr))]) (odW (xa 11) v_18)))) H locs := G
              refine lv_lstore (lv' := [(10, .long r_21), (8, .long r_20), (6, .long r_19), (5, .ref (an 2)), (0, .ref h0), (1, .int 1), (2, .int x2), (3, .int 0), (4, .int x4)]) zx zb dX10_stumble_118 hl (by decide) rfl (fun ls hl => ?_)
              refine lv_lload zx zb dX10_stumble_120 (lv_at hl 0 rfl) ?_
              refine lv_lconst (v := (Int32.toInt64 0)) zx zb dX10_stumble_122 (by decide) ?_
              refine W.lcmp zx zb dX10_stumble_123 ?_
              refine k_cutW (PP := fun Wx => ∀ (la_23 : Int64) (lb_24 : Int64) (H : Heap) (locs : List Loc) (ls : Array Slot), wd X (va_A (@HAppend.hAppend va_W va_W va_W _ (xW h0 nw sp xa la lb) (@HAppend.hAppend va_W va_W va_W _ (rcV X nw an sv dv n0 n1 n2 n3 n4 g0 gs gn gm) (@HAppend.hAppend va_W va_W va_W _ (odW (xa 11) vo) ([((xa 5), .inl (X.2.1, 3, .inl fr))])))) sz) (va_A (@HAppend.hAppend va_W va_W va_W _ (xW h0 nw sp xa la lb) (@HAppend.hAppend va_W va_W va_W _ (rcV X nw an sv dv n0 n1 n2 n3 n4 g0 gs gn gm) (@HAppend.hAppend va_W va_W va_W _ (odW (xa 11) vo) ([((xa 5), .inl (X.2.1, 3, .inl fr))])))) sz) s (@HAppend.hAppend va_W va_W va_W _ (xW h0 nw sp xa la_23 lb_24) (@HAppend.hAppend va_W va_W va_W _ (rcV X nw an sv dv n0 n1 n2 n3 n4 g0 gs gn gm) (@HAppend.hAppend va_W va_W va_W _ ([((xa 5), .inl (X.2.1, 3, .inl fr))]) (odW (xa 11) v_18)))) H locs → lv_has ls 12 [(10, .long r_21), (8, .long r_20), (6, .long r_19), (5, .ref (an 2)), (0, .ref h0), (1, .int 1), (2, .int x2), (3, .int 0), (4, .int x4)] → Wx (F0 m 145 ls []) H locs) ?_ ?_
              · intro join_124
                refine lv_if_le (tgt := 145) zx zb dX10_stumble_124 (by decide) (fun c_22 => ?_) (fun c_22 => ?_)
                · exact join_124 la lb _ _ _  G hl
                · refine lv_aload_n zx zb dX10_stumble_127 rfl (lv_at hl 4 rfl) ?_
                  refine lv_lload zx zb dX10_stumble_128 (lv_at hl 2 rfl) ?_
                  refine lv_lload zx zb dX10_stumble_130 (lv_at hl 0 rfl) ?_
                  refine lv_ldiv zx zb dX10_stumble_132 (k_lnz2 c_22) ?_
                  refine k_ldE (fun y_25 => ?_)
                  refine r_put (C := RX10) (T := TX10) (N := 14) (ci := 8) (v := .long y_25) S in_X10_stumble_X10 tyX10_ok nmX10 G 0 rfl rfl 6 (by decide) lk_X10_stumble_38 rfl rfl rfl (Nat.le_of_ble_eq_true rfl) dX10_stumble_133 (fun H locs G => ?_)
                  have G : wd X (va_A (@HAppend.hAppend va_W va_W va_W _ (xW h0 nw sp xa la lb) (@HAppend.hAppend va_W va_W va_W _ (rcV X nw an sv dv n0 n1 n2 n3 n4 g0 gs gn gm) (@HAppend.hAppend va_W va_W va_W _ (odW (xa 11) vo) ([((xa 5), .inl (X.2.1, 3, .inl fr))])))) sz) (va_A (@HAppend.hAppend va_W va_W va_W _ (xW h0 nw sp xa la lb) (@HAppend.hAppend va_W va_W va_W _ (rcV X nw an sv dv n0 n1 n2 n3 n4 g0 gs gn gm) (@HAppend.hAppend va_W va_W va_W _ (odW (xa 11) vo) ([((xa 5), .inl (X.2.1, 3, .inl fr))])))) sz) s (@HAppend.hAppend va_W va_W va_W _ (xW h0 nw sp xa y_25 lb) (@HAppend.hAppend va_W va_W va_W _ (rcV X nw an sv dv n0 n1 n2 n3 n4 g0 gs gn gm) (@HAppend.hAppend va_W va_W va_W _ ([((xa 5), .inl (X.2.1, 3, .inl fr))]) (odW (xa 11) v_18)))) H locs := G
                  refine lv_aload_n zx zb dX10_stumble_136 rfl (lv_at hl 4 rfl) ?_
                  refine lv_lload zx zb dX10_stumble_137 (lv_at hl 1 rfl) ?_
                  refine lv_lload zx zb dX10_stumble_139 (lv_at hl 0 rfl) ?_
                  refine lv_ldiv zx zb dX10_stumble_141 (k_lnz2 c_22) ?_
                  refine k_ldE (fun y_26 => ?_)
                  refine r_put (C := RX10) (T := TX10) (N := 14) (ci := 8) (v := .long y_26) S in_X10_stumble_X10 tyX10_ok nmX10 G 0 rfl rfl 7 (by decide) lk_X10_stumble_42 rfl rfl rfl (Nat.le_of_ble_eq_true rfl) dX10_stumble_142 (fun H locs G => ?_)
                  have G : wd X (va_A (@HAppend.hAppend va_W va_W va_W _ (xW h0 nw sp xa la lb) (@HAppend.hAppend va_W va_W va_W _ (rcV X nw an sv dv n0 n1 n2 n3 n4 g0 gs gn gm) (@HAppend.hAppend va_W va_W va_W _ (odW (xa 11) vo) ([((xa 5), .inl (X.2.1, 3, .inl fr))])))) sz) (va_A (@HAppend.hAppend va_W va_W va_W _ (xW h0 nw sp xa la lb) (@HAppend.hAppend va_W va_W va_W _ (rcV X nw an sv dv n0 n1 n2 n3 n4 g0 gs gn gm) (@HAppend.hAppend va_W va_W va_W _ (odW (xa 11) vo) ([((xa 5), .inl (X.2.1, 3, .inl fr))])))) sz) s (@HAppend.hAppend va_W va_W va_W _ (xW h0 nw sp xa y_25 y_26) (@HAppend.hAppend va_W va_W va_W _ (rcV X nw an sv dv n0 n1 n2 n3 n4 g0 gs gn gm) (@HAppend.hAppend va_W va_W va_W _ ([((xa 5), .inl (X.2.1, 3, .inl fr))]) (odW (xa 11) v_18)))) H locs := G
                  exact join_124 y_25 y_26 _ _ _  G hl
              · intro la_23 lb_24 H locs ls  G hl
                refine lv_iconst (v := 1) zx zb dX10_stumble_145 (by decide) ?_
                exact e_int S zr zlk (vp_nar_int _) G (la_23, lb_24, v_18, fr) [0, 1, 2, 3, 4, 5, 6, 7, 8, 9, 10, 11, 12, 13, 14, 15, 16, 18, 17] rfl rfl (Or.inr rfl) ((stuF_p ⟨⟨_, hj_1, rfl⟩, hw_3, hw_5, hw_7⟩).symm) dX10_stumble_146
            · refine k_it (v := 2) rfl ?_
              refine r_aald (C := RX8) (b := (an 3)) S G 2 3 rfl rfl (k_vp (by decide)) rfl dX10_stumble_54 ?_
              refine lv_astore (lv' := [(5, .ref (an 3)), (0, .ref h0), (1, .int 2), (2, .int x2), (3, .int 0), (4, .int x4)]) zx zb dX10_stumble_55 hl (by decide) rfl (fun ls hl => ?_)
              refine lv_aload_n zx zb dX10_stumble_57 rfl (lv_at hl 1 rfl) ?_
              refine r_get (C := RX10) (T := TX10) (N := 14) (ci := 8) (v := .ref (xa 11)) S in_X10_stumble_X10 G 0 rfl rfl 11 (by decide) lk_X10_stumble_65 rfl dX10_stumble_58 ?_
              refine lv_aload zx zb dX10_stumble_61 (lv_at hl 0 rfl) ?_
              refine lv_aload_n zx zb dX10_stumble_63 rfl (lv_at hl 1 rfl) ?_
              refine r_get (C := RX10) (T := TX10) (N := 14) (ci := 8) (v := .ref nw) S in_X10_stumble_X10 G 0 rfl rfl 0 (by decide) lk_X10_stumble_10 rfl dX10_stumble_64 ?_
              refine r_get (C := RX5) (T := TX5) (N := 8) (ci := 3) (v := .int (dv 0)) S in_X10_stumble_X5 G 1 rfl rfl 0 (by decide) lk_X10_stumble_140 rfl dX10_stumble_67 ?_
              refine lv_aload_n zx zb dX10_stumble_70 rfl (lv_at hl 1 rfl) ?_
              refine r_get (C := RX10) (T := TX10) (N := 14) (ci := 8) (v := .ref nw) S in_X10_stumble_X10 G 0 rfl rfl 0 (by decide) lk_X10_stumble_10 rfl dX10_stumble_71 ?_
              refine r_get (C := RX5) (T := TX5) (N := 8) (ci := 3) (v := .int (dv 1)) S in_X10_stumble_X5 G 1 rfl rfl 1 (by decide) lk_X10_stumble_110 rfl dX10_stumble_74 ?_
              refine lv_iload_n zx zb dX10_stumble_77 rfl (lv_at hl 4 rfl) ?_
              refine r_iadd (v := ((dv 1) + 0)) S rfl dX10_stumble_78 ?_
              refine lv_iload_n zx zb dX10_stumble_79 rfl (lv_at hl 3 rfl) ?_
              refine lv_iload zx zb dX10_stumble_80 (lv_at hl 5 rfl) ?_
              refine b_wv (cells' := 0) (slots' := 0) (wr := @HAppend.hAppend va_W va_W va_W _ (xW h0 nw sp xa la lb) (@HAppend.hAppend va_W va_W va_W _ ([(nw, .inr (3, [.int (dv 0), .int (dv 1), .int (nI n0), .ref (an 0), .ref (an 7), .ref (an 9), .ref (an 11), .ref (an 13)])), ((an 0), .inl (X.2.2.2.2, 6, .inr (.inr (.inr (.inr (rowQ an)))))), ((an 1), .inr (6, [.int (sv 0), .int (sv 1), .int (sv 2), .int (dv 10), .int (dv 11), .int (dv 12), .int (dv 13), .int (dv 14)])), ((an 2), .inr (6, [.int (sv 3), .int (sv 4), .int (sv 5), .int (dv 15), .int (dv 16), .int (dv 17), .int (dv 18), .int (dv 19)])), ((an 4), .inr (6, [.int (sv 9), .int (sv 10), .int (sv 11), .int (dv 25), .int (dv 26), .int (dv 27), .int (dv 28), .int (dv 29)])), ((an 5), .inr (6, [.int (sv 12), .int (sv 13), .int (sv 14), .int (dv 30), .int (dv 31), .int (dv 32), .int (dv 33), .int (dv 34)])), ((an 6), .inr (6, [.int (sv 15), .int (sv 16), .int (sv 17), .int (dv 35), .int (dv 36), .int (dv 37), .int (dv 38), .int (dv 39)])), ((an 7), .inr (2, [.ref (an 8), .int (nI n1)])), ((an 8), .inl (X.2.1, 248, .inl g0)), ((an 9), .inr (5, [.int 5, .int 0, .int 1, .ref (an 10), .int (nI n2)])), ((an 10), .inl (X.2.1, 25, .inl gs)), ((an 11), .inr (5, [.int 6, .int 1, .int 1, .ref (an 12), .int (nI n3)])), ((an 12), .inl (X.2.1, 30, .inl gn)), ((an 13), .inr (5, [.int 6, .int 0, .int 0, .ref (an 14), .int (nI n4)])), ((an 14), .inl (X.2.1, 30, .inl gm))]) ([((xa 5), .inl (X.2.1, 3, .inl fr))]))) G rfl rfl [17, 5] [0, 1, 2, 3, 4, 6, 7, 8, 9, 10, 11, 12, 13, 14, 15, 16, 18] rfl rfl rfl rfl (n_V (As := [.ref (an 3), .int (dv 0), .int ((dv 1) + 0), .int x2, .int x4]) (rest := []) (C := RX3) (T := TX3) (N := 8) (ci := 1) S G (s_pose l X (xa 11) vo (an 3) (fun k => sv (6 + k)) (fun k => dv (20 + k)) (dv 0) ((dv 1) + 0) x2 x4 H.size) gX10_stumble_X3_pose rfl rfl rfl hdV_X3_pose ⟨Nat.le_of_ble_eq_true rfl, Nat.le_of_ble_eq_true rfl⟩ [17, 5] rfl rfl 17 rfl rfl rfl hl.1 (Nat.le_of_ble_eq_true rfl) dX10_stumble_82 ⟨Nat.le_of_ble_eq_true rfl, Nat.le_of_ble_eq_true rfl⟩) (fun u_27 H locs hp_27 G => ?_)
              obtain ⟨v_27, rfl⟩ : ∃ z, z = u_27 := ⟨_, rfl⟩
              have hq_27 := hp_27
              have G : wd X (va_A (@HAppend.hAppend va_W va_W va_W _ (xW h0 nw sp xa la lb) (@HAppend.hAppend va_W va_W va_W _ (rcV X nw an sv dv n0 n1 n2 n3 n4 g0 gs gn gm) (@HAppend.hAppend va_W va_W va_W _ (odW (xa 11) vo) ([((xa 5), .inl (X.2.1, 3, .inl fr))])))) sz) (va_A (@HAppend.hAppend va_W va_W va_W _ (xW h0 nw sp xa la lb) (@HAppend.hAppend va_W va_W va_W _ (rcV X nw an sv dv n0 n1 n2 n3 n4 g0 gs gn gm) (@HAppend.hAppend va_W va_W va_W _ (odW (xa 11) vo) ([((xa 5), .inl (X.2.1, 3, .inl fr))])))) sz) s (@HAppend.hAppend va_W va_W va_W _ (xW h0 nw sp xa la lb) (@HAppend.hAppend va_W va_W va_W _ (rcV X nw an sv dv n0 n1 n2 n3 n4 g0 gs gn gm) (@HAppend.hAppend va_W va_W va_W _ ([((xa 5), .inl (X.2.1, 3, .inl fr))]) (odW (xa 11) v_27)))) H locs := wd_sub G [0, 1, 2, 3, 4, 18, 5, 6, 7, 8, 9, 10, 11, 12, 13, 14, 15, 16, 17] rfl rfl
              refine lv_aload_n zx zb dX10_stumble_85 rfl (lv_at hl 1 rfl) ?_
              refine r_get (C := RX10) (T := TX10) (N := 14) (ci := 8) (v := .ref (xa 11)) S in_X10_stumble_X10 G 0 rfl rfl 11 (by decide) lk_X10_stumble_65 rfl dX10_stumble_86 ?_
              refine lv_aload zx zb dX10_stumble_89 (lv_at hl 0 rfl) ?_
              refine r_get (C := RX8) (T := TX8) (N := 8) (ci := 6) (v := .int (dv 21)) S in_X10_stumble_X8 G 5 rfl rfl 4 (by decide) lk_X10_stumble_137 rfl dX10_stumble_91 ?_
              refine lv_aload zx zb dX10_stumble_94 (lv_at hl 0 rfl) ?_
              refine r_get (C := RX8) (T := TX8) (N := 8) (ci := 6) (v := .int (dv 23)) S in_X10_stumble_X8 G 5 rfl rfl 6 (by decide) lk_X10_stumble_240 rfl dX10_stumble_96 ?_
              refine lv_iload_n zx zb dX10_stumble_99 rfl (lv_at hl 4 rfl) ?_
              refine o_rl (cells' := 0) (slots' := 0) G rfl rfl (n_SN (As := [.ref (xa 11), .int (dv 21), .int (dv 23), .int 0]) (rest := []) (host := "EggSpoons") S G (s_ways0 l X (xa 11) v_27 (dv 21) (dv 23) H.size) gX10_stumble_X3_ways_n243 rfl rfl rfl mm_X10_stumble_inX3 G.1.2.2.2.2.2.2.2.2.2.2.2 mm_X10_stumble_stX3_ways hdS_X3_ways ⟨Nat.le_of_ble_eq_true rfl, Nat.le_of_ble_eq_true rfl⟩ [18] rfl rfl rfl hl.1 (Nat.le_of_ble_eq_true rfl) dX10_stumble_100 ⟨Nat.le_of_ble_eq_true rfl, Nat.le_of_ble_eq_true rfl⟩) (fun r_28 u_28 H locs hp_28 G => ?_)
              have G : wd X (va_A (@HAppend.hAppend va_W va_W va_W _ (xW h0 nw sp xa la lb) (@HAppend.hAppend va_W va_W va_W _ (rcV X nw an sv dv n0 n1 n2 n3 n4 g0 gs gn gm) (@HAppend.hAppend va_W va_W va_W _ (odW (xa 11) vo) ([((xa 5), .inl (X.2.1, 3, .inl fr))])))) sz) (va_A (@HAppend.hAppend va_W va_W va_W _ (xW h0 nw sp xa la lb) (@HAppend.hAppend va_W va_W va_W _ (rcV X nw an sv dv n0 n1 n2 n3 n4 g0 gs gn gm) (@HAppend.hAppend va_W va_W va_W _ (odW (xa 11) vo) ([((xa 5), .inl (X.2.1, 3, .inl fr))])))) sz) s (@HAppend.hAppend va_W va_W va_W _ (xW h0 nw sp xa la lb) (@HAppend.hAppend va_W va_W va_W _ (rcV X nw an sv dv n0 n1 n2 n3 n4 g0 gs gn gm) (@HAppend.hAppend va_W va_W va_W _ ([((xa 5), .inl (X.2.1, 3, .inl fr))]) (odW (xa 11) v_27)))) H locs := G
              refine lv_lstore (lv' := [(6, .long r_28), (5, .ref (an 3)), (0, .ref h0), (1, .int 2), (2, .int x2), (3, .int 0), (4, .int x4)]) zx zb dX10_stumble_103 hl (by decide) rfl (fun ls hl => ?_)
              refine lv_iload_n zx zb dX10_stumble_105 rfl (lv_at hl 5 rfl) ?_
              refine o_rl (cells' := 0) (slots' := 0) G rfl rfl (n_S (As := [.int 0]) (rest := []) S G (s_tenTo l X 0 (by omega) H.size) gX10_stumble_X3_tenTo rfl rfl rfl hdS_X3_tenTo ⟨Nat.le_of_ble_eq_true rfl, Nat.le_of_ble_eq_true rfl⟩ [] rfl rfl rfl hl.1 (Nat.le_of_ble_eq_true rfl) dX10_stumble_106 ⟨Nat.le_of_ble_eq_true rfl, Nat.le_of_ble_eq_true rfl⟩) (fun r_29 u_29 H locs hp_29 G => ?_)
              have G : wd X (va_A (@HAppend.hAppend va_W va_W va_W _ (xW h0 nw sp xa la lb) (@HAppend.hAppend va_W va_W va_W _ (rcV X nw an sv dv n0 n1 n2 n3 n4 g0 gs gn gm) (@HAppend.hAppend va_W va_W va_W _ (odW (xa 11) vo) ([((xa 5), .inl (X.2.1, 3, .inl fr))])))) sz) (va_A (@HAppend.hAppend va_W va_W va_W _ (xW h0 nw sp xa la lb) (@HAppend.hAppend va_W va_W va_W _ (rcV X nw an sv dv n0 n1 n2 n3 n4 g0 gs gn gm) (@HAppend.hAppend va_W va_W va_W _ (odW (xa 11) vo) ([((xa 5), .inl (X.2.1, 3, .inl fr))])))) sz) s (@HAppend.hAppend va_W va_W va_W _ (xW h0 nw sp xa la lb) (@HAppend.hAppend va_W va_W va_W _ (rcV X nw an sv dv n0 n1 n2 n3 n4 g0 gs gn gm) (@HAppend.hAppend va_W va_W va_W _ ([((xa 5), .inl (X.2.1, 3, .inl fr))]) (odW (xa 11) v_27)))) H locs := G
              refine lv_lstore (lv' := [(8, .long r_29), (6, .long r_28), (5, .ref (an 3)), (0, .ref h0), (1, .int 2), (2, .int x2), (3, .int 0), (4, .int x4)]) zx zb dX10_stumble_109 hl (by decide) rfl (fun ls hl => ?_)
              refine lv_lload zx zb dX10_stumble_111 (lv_at hl 1 rfl) ?_
              refine lv_lload zx zb dX10_stumble_113 (lv_at hl 0 rfl) ?_
              refine o_rl (cells' := 0) (slots' := 0) G rfl rfl (n_S (As := [.long r_28, .long r_29]) (rest := []) S G (s_commonPart l X r_28 r_29 H.size) gX10_stumble_X3_commonPart rfl rfl rfl hdS_X3_commonPart ⟨Nat.le_of_ble_eq_true rfl, Nat.le_of_ble_eq_true rfl⟩ [] rfl rfl rfl hl.1 (Nat.le_of_ble_eq_true rfl) dX10_stumble_115 ⟨Nat.le_of_ble_eq_true rfl, Nat.le_of_ble_eq_true rfl⟩) (fun r_30 u_30 H locs hp_30 G => ?_)
              have G : wd X (va_A (@HAppend.hAppend va_W va_W va_W _ (xW h0 nw sp xa la lb) (@HAppend.hAppend va_W va_W va_W _ (rcV X nw an sv dv n0 n1 n2 n3 n4 g0 gs gn gm) (@HAppend.hAppend va_W va_W va_W _ (odW (xa 11) vo) ([((xa 5), .inl (X.2.1, 3, .inl fr))])))) sz) (va_A (@HAppend.hAppend va_W va_W va_W _ (xW h0 nw sp xa la lb) (@HAppend.hAppend va_W va_W va_W _ (rcV X nw an sv dv n0 n1 n2 n3 n4 g0 gs gn gm) (@HAppend.hAppend va_W va_W va_W _ (odW (xa 11) vo) ([((xa 5), .inl (X.2.1, 3, .inl fr))])))) sz) s (@HAppend.hAppend va_W va_W va_W _ (xW h0 nw sp xa la lb) (@HAppend.hAppend va_W va_W va_W _ (rcV X nw an sv dv n0 n1 n2 n3 n4 g0 gs gn gm) (@HAppend.hAppend va_W va_W va_W _ ([((xa 5), .inl (X.2.1, 3, .inl fr))]) (odW (xa 11) v_27)))) H locs := G
              refine lv_lstore (lv' := [(10, .long r_30), (8, .long r_29), (6, .long r_28), (5, .ref (an 3)), (0, .ref h0), (1, .int 2), (2, .int x2), (3, .int 0), (4, .int x4)]) zx zb dX10_stumble_118 hl (by decide) rfl (fun ls hl => ?_)
              refine lv_lload zx zb dX10_stumble_120 (lv_at hl 0 rfl) ?_
              refine lv_lconst (v := (Int32.toInt64 0)) zx zb dX10_stumble_122 (by decide) ?_
              refine W.lcmp zx zb dX10_stumble_123 ?_
              refine k_cutW (PP := fun Wx => ∀ (la_32 : Int64) (lb_33 : Int64) (H : Heap) (locs : List Loc) (ls : Array Slot), wd X (va_A (@HAppend.hAppend va_W va_W va_W _ (xW h0 nw sp xa la lb) (@HAppend.hAppend va_W va_W va_W _ (rcV X nw an sv dv n0 n1 n2 n3 n4 g0 gs gn gm) (@HAppend.hAppend va_W va_W va_W _ (odW (xa 11) vo) ([((xa 5), .inl (X.2.1, 3, .inl fr))])))) sz) (va_A (@HAppend.hAppend va_W va_W va_W _ (xW h0 nw sp xa la lb) (@HAppend.hAppend va_W va_W va_W _ (rcV X nw an sv dv n0 n1 n2 n3 n4 g0 gs gn gm) (@HAppend.hAppend va_W va_W va_W _ (odW (xa 11) vo) ([((xa 5), .inl (X.2.1, 3, .inl fr))])))) sz) s (@HAppend.hAppend va_W va_W va_W _ (xW h0 nw sp xa la_32 lb_33) (@HAppend.hAppend va_W va_W va_W _ (rcV X nw an sv dv n0 n1 n2 n3 n4 g0 gs gn gm) (@HAppend.hAppend va_W va_W va_W _ ([((xa 5), .inl (X.2.1, 3, .inl fr))]) (odW (xa 11) v_27)))) H locs → lv_has ls 12 [(10, .long r_30), (8, .long r_29), (6, .long r_28), (5, .ref (an 3)), (0, .ref h0), (1, .int 2), (2, .int x2), (3, .int 0), (4, .int x4)] → Wx (F0 m 145 ls []) H locs) ?_ ?_
              · intro join_124
                refine lv_if_le (tgt := 145) zx zb dX10_stumble_124 (by decide) (fun c_31 => ?_) (fun c_31 => ?_)
                · exact join_124 la lb _ _ _  G hl
                · refine lv_aload_n zx zb dX10_stumble_127 rfl (lv_at hl 4 rfl) ?_
                  refine lv_lload zx zb dX10_stumble_128 (lv_at hl 2 rfl) ?_
                  refine lv_lload zx zb dX10_stumble_130 (lv_at hl 0 rfl) ?_
                  refine lv_ldiv zx zb dX10_stumble_132 (k_lnz2 c_31) ?_
                  refine k_ldE (fun y_34 => ?_)
                  refine r_put (C := RX10) (T := TX10) (N := 14) (ci := 8) (v := .long y_34) S in_X10_stumble_X10 tyX10_ok nmX10 G 0 rfl rfl 6 (by decide) lk_X10_stumble_38 rfl rfl rfl (Nat.le_of_ble_eq_true rfl) dX10_stumble_133 (fun H locs G => ?_)
                  have G : wd X (va_A (@HAppend.hAppend va_W va_W va_W _ (xW h0 nw sp xa la lb) (@HAppend.hAppend va_W va_W va_W _ (rcV X nw an sv dv n0 n1 n2 n3 n4 g0 gs gn gm) (@HAppend.hAppend va_W va_W va_W _ (odW (xa 11) vo) ([((xa 5), .inl (X.2.1, 3, .inl fr))])))) sz) (va_A (@HAppend.hAppend va_W va_W va_W _ (xW h0 nw sp xa la lb) (@HAppend.hAppend va_W va_W va_W _ (rcV X nw an sv dv n0 n1 n2 n3 n4 g0 gs gn gm) (@HAppend.hAppend va_W va_W va_W _ (odW (xa 11) vo) ([((xa 5), .inl (X.2.1, 3, .inl fr))])))) sz) s (@HAppend.hAppend va_W va_W va_W _ (xW h0 nw sp xa y_34 lb) (@HAppend.hAppend va_W va_W va_W _ (rcV X nw an sv dv n0 n1 n2 n3 n4 g0 gs gn gm) (@HAppend.hAppend va_W va_W va_W _ ([((xa 5), .inl (X.2.1, 3, .inl fr))]) (odW (xa 11) v_27)))) H locs := G
                  refine lv_aload_n zx zb dX10_stumble_136 rfl (lv_at hl 4 rfl) ?_
                  refine lv_lload zx zb dX10_stumble_137 (lv_at hl 1 rfl) ?_
                  refine lv_lload zx zb dX10_stumble_139 (lv_at hl 0 rfl) ?_
                  refine lv_ldiv zx zb dX10_stumble_141 (k_lnz2 c_31) ?_
                  refine k_ldE (fun y_35 => ?_)
                  refine r_put (C := RX10) (T := TX10) (N := 14) (ci := 8) (v := .long y_35) S in_X10_stumble_X10 tyX10_ok nmX10 G 0 rfl rfl 7 (by decide) lk_X10_stumble_42 rfl rfl rfl (Nat.le_of_ble_eq_true rfl) dX10_stumble_142 (fun H locs G => ?_)
                  have G : wd X (va_A (@HAppend.hAppend va_W va_W va_W _ (xW h0 nw sp xa la lb) (@HAppend.hAppend va_W va_W va_W _ (rcV X nw an sv dv n0 n1 n2 n3 n4 g0 gs gn gm) (@HAppend.hAppend va_W va_W va_W _ (odW (xa 11) vo) ([((xa 5), .inl (X.2.1, 3, .inl fr))])))) sz) (va_A (@HAppend.hAppend va_W va_W va_W _ (xW h0 nw sp xa la lb) (@HAppend.hAppend va_W va_W va_W _ (rcV X nw an sv dv n0 n1 n2 n3 n4 g0 gs gn gm) (@HAppend.hAppend va_W va_W va_W _ (odW (xa 11) vo) ([((xa 5), .inl (X.2.1, 3, .inl fr))])))) sz) s (@HAppend.hAppend va_W va_W va_W _ (xW h0 nw sp xa y_34 y_35) (@HAppend.hAppend va_W va_W va_W _ (rcV X nw an sv dv n0 n1 n2 n3 n4 g0 gs gn gm) (@HAppend.hAppend va_W va_W va_W _ ([((xa 5), .inl (X.2.1, 3, .inl fr))]) (odW (xa 11) v_27)))) H locs := G
                  exact join_124 y_34 y_35 _ _ _  G hl
              · intro la_32 lb_33 H locs ls  G hl
                refine lv_iconst (v := 1) zx zb dX10_stumble_145 (by decide) ?_
                exact e_int S zr zlk (vp_nar_int _) G (la_32, lb_33, v_27, fr) [0, 1, 2, 3, 4, 5, 6, 7, 8, 9, 10, 11, 12, 13, 14, 15, 16, 18, 17] rfl rfl (Or.inr rfl) ((stuF_p ⟨⟨_, hj_1, rfl⟩, hw_3, hw_5, hw_7⟩).symm) dX10_stumble_146
            · refine k_it (v := 3) rfl ?_
              refine r_aald (C := RX8) (b := (an 4)) S G 2 3 rfl rfl (k_vp (by decide)) rfl dX10_stumble_54 ?_
              refine lv_astore (lv' := [(5, .ref (an 4)), (0, .ref h0), (1, .int 3), (2, .int x2), (3, .int 0), (4, .int x4)]) zx zb dX10_stumble_55 hl (by decide) rfl (fun ls hl => ?_)
              refine lv_aload_n zx zb dX10_stumble_57 rfl (lv_at hl 1 rfl) ?_
              refine r_get (C := RX10) (T := TX10) (N := 14) (ci := 8) (v := .ref (xa 11)) S in_X10_stumble_X10 G 0 rfl rfl 11 (by decide) lk_X10_stumble_65 rfl dX10_stumble_58 ?_
              refine lv_aload zx zb dX10_stumble_61 (lv_at hl 0 rfl) ?_
              refine lv_aload_n zx zb dX10_stumble_63 rfl (lv_at hl 1 rfl) ?_
              refine r_get (C := RX10) (T := TX10) (N := 14) (ci := 8) (v := .ref nw) S in_X10_stumble_X10 G 0 rfl rfl 0 (by decide) lk_X10_stumble_10 rfl dX10_stumble_64 ?_
              refine r_get (C := RX5) (T := TX5) (N := 8) (ci := 3) (v := .int (dv 0)) S in_X10_stumble_X5 G 1 rfl rfl 0 (by decide) lk_X10_stumble_140 rfl dX10_stumble_67 ?_
              refine lv_aload_n zx zb dX10_stumble_70 rfl (lv_at hl 1 rfl) ?_
              refine r_get (C := RX10) (T := TX10) (N := 14) (ci := 8) (v := .ref nw) S in_X10_stumble_X10 G 0 rfl rfl 0 (by decide) lk_X10_stumble_10 rfl dX10_stumble_71 ?_
              refine r_get (C := RX5) (T := TX5) (N := 8) (ci := 3) (v := .int (dv 1)) S in_X10_stumble_X5 G 1 rfl rfl 1 (by decide) lk_X10_stumble_110 rfl dX10_stumble_74 ?_
              refine lv_iload_n zx zb dX10_stumble_77 rfl (lv_at hl 4 rfl) ?_
              refine r_iadd (v := ((dv 1) + 0)) S rfl dX10_stumble_78 ?_
              refine lv_iload_n zx zb dX10_stumble_79 rfl (lv_at hl 3 rfl) ?_
              refine lv_iload zx zb dX10_stumble_80 (lv_at hl 5 rfl) ?_
              refine b_wv (cells' := 0) (slots' := 0) (wr := @HAppend.hAppend va_W va_W va_W _ (xW h0 nw sp xa la lb) (@HAppend.hAppend va_W va_W va_W _ ([(nw, .inr (3, [.int (dv 0), .int (dv 1), .int (nI n0), .ref (an 0), .ref (an 7), .ref (an 9), .ref (an 11), .ref (an 13)])), ((an 0), .inl (X.2.2.2.2, 6, .inr (.inr (.inr (.inr (rowQ an)))))), ((an 1), .inr (6, [.int (sv 0), .int (sv 1), .int (sv 2), .int (dv 10), .int (dv 11), .int (dv 12), .int (dv 13), .int (dv 14)])), ((an 2), .inr (6, [.int (sv 3), .int (sv 4), .int (sv 5), .int (dv 15), .int (dv 16), .int (dv 17), .int (dv 18), .int (dv 19)])), ((an 3), .inr (6, [.int (sv 6), .int (sv 7), .int (sv 8), .int (dv 20), .int (dv 21), .int (dv 22), .int (dv 23), .int (dv 24)])), ((an 5), .inr (6, [.int (sv 12), .int (sv 13), .int (sv 14), .int (dv 30), .int (dv 31), .int (dv 32), .int (dv 33), .int (dv 34)])), ((an 6), .inr (6, [.int (sv 15), .int (sv 16), .int (sv 17), .int (dv 35), .int (dv 36), .int (dv 37), .int (dv 38), .int (dv 39)])), ((an 7), .inr (2, [.ref (an 8), .int (nI n1)])), ((an 8), .inl (X.2.1, 248, .inl g0)), ((an 9), .inr (5, [.int 5, .int 0, .int 1, .ref (an 10), .int (nI n2)])), ((an 10), .inl (X.2.1, 25, .inl gs)), ((an 11), .inr (5, [.int 6, .int 1, .int 1, .ref (an 12), .int (nI n3)])), ((an 12), .inl (X.2.1, 30, .inl gn)), ((an 13), .inr (5, [.int 6, .int 0, .int 0, .ref (an 14), .int (nI n4)])), ((an 14), .inl (X.2.1, 30, .inl gm))]) ([((xa 5), .inl (X.2.1, 3, .inl fr))]))) G rfl rfl [17, 6] [0, 1, 2, 3, 4, 5, 7, 8, 9, 10, 11, 12, 13, 14, 15, 16, 18] rfl rfl rfl rfl (n_V (As := [.ref (an 4), .int (dv 0), .int ((dv 1) + 0), .int x2, .int x4]) (rest := []) (C := RX3) (T := TX3) (N := 8) (ci := 1) S G (s_pose l X (xa 11) vo (an 4) (fun k => sv (9 + k)) (fun k => dv (25 + k)) (dv 0) ((dv 1) + 0) x2 x4 H.size) gX10_stumble_X3_pose rfl rfl rfl hdV_X3_pose ⟨Nat.le_of_ble_eq_true rfl, Nat.le_of_ble_eq_true rfl⟩ [17, 6] rfl rfl 17 rfl rfl rfl hl.1 (Nat.le_of_ble_eq_true rfl) dX10_stumble_82 ⟨Nat.le_of_ble_eq_true rfl, Nat.le_of_ble_eq_true rfl⟩) (fun u_36 H locs hp_36 G => ?_)
              obtain ⟨v_36, rfl⟩ : ∃ z, z = u_36 := ⟨_, rfl⟩
              have hq_36 := hp_36
              have G : wd X (va_A (@HAppend.hAppend va_W va_W va_W _ (xW h0 nw sp xa la lb) (@HAppend.hAppend va_W va_W va_W _ (rcV X nw an sv dv n0 n1 n2 n3 n4 g0 gs gn gm) (@HAppend.hAppend va_W va_W va_W _ (odW (xa 11) vo) ([((xa 5), .inl (X.2.1, 3, .inl fr))])))) sz) (va_A (@HAppend.hAppend va_W va_W va_W _ (xW h0 nw sp xa la lb) (@HAppend.hAppend va_W va_W va_W _ (rcV X nw an sv dv n0 n1 n2 n3 n4 g0 gs gn gm) (@HAppend.hAppend va_W va_W va_W _ (odW (xa 11) vo) ([((xa 5), .inl (X.2.1, 3, .inl fr))])))) sz) s (@HAppend.hAppend va_W va_W va_W _ (xW h0 nw sp xa la lb) (@HAppend.hAppend va_W va_W va_W _ (rcV X nw an sv dv n0 n1 n2 n3 n4 g0 gs gn gm) (@HAppend.hAppend va_W va_W va_W _ ([((xa 5), .inl (X.2.1, 3, .inl fr))]) (odW (xa 11) v_36)))) H locs := wd_sub G [0, 1, 2, 3, 4, 5, 18, 6, 7, 8, 9, 10, 11, 12, 13, 14, 15, 16, 17] rfl rfl
              refine lv_aload_n zx zb dX10_stumble_85 rfl (lv_at hl 1 rfl) ?_
              refine r_get (C := RX10) (T := TX10) (N := 14) (ci := 8) (v := .ref (xa 11)) S in_X10_stumble_X10 G 0 rfl rfl 11 (by decide) lk_X10_stumble_65 rfl dX10_stumble_86 ?_
              refine lv_aload zx zb dX10_stumble_89 (lv_at hl 0 rfl) ?_
              refine r_get (C := RX8) (T := TX8) (N := 8) (ci := 6) (v := .int (dv 26)) S in_X10_stumble_X8 G 6 rfl rfl 4 (by decide) lk_X10_stumble_137 rfl dX10_stumble_91 ?_
              refine lv_aload zx zb dX10_stumble_94 (lv_at hl 0 rfl) ?_
              refine r_get (C := RX8) (T := TX8) (N := 8) (ci := 6) (v := .int (dv 28)) S in_X10_stumble_X8 G 6 rfl rfl 6 (by decide) lk_X10_stumble_240 rfl dX10_stumble_96 ?_
              refine lv_iload_n zx zb dX10_stumble_99 rfl (lv_at hl 4 rfl) ?_
              refine o_rl (cells' := 0) (slots' := 0) G rfl rfl (n_SN (As := [.ref (xa 11), .int (dv 26), .int (dv 28), .int 0]) (rest := []) (host := "EggSpoons") S G (s_ways0 l X (xa 11) v_36 (dv 26) (dv 28) H.size) gX10_stumble_X3_ways_n243 rfl rfl rfl mm_X10_stumble_inX3 G.1.2.2.2.2.2.2.2.2.2.2.2 mm_X10_stumble_stX3_ways hdS_X3_ways ⟨Nat.le_of_ble_eq_true rfl, Nat.le_of_ble_eq_true rfl⟩ [18] rfl rfl rfl hl.1 (Nat.le_of_ble_eq_true rfl) dX10_stumble_100 ⟨Nat.le_of_ble_eq_true rfl, Nat.le_of_ble_eq_true rfl⟩) (fun r_37 u_37 H locs hp_37 G => ?_)
              have G : wd X (va_A (@HAppend.hAppend va_W va_W va_W _ (xW h0 nw sp xa la lb) (@HAppend.hAppend va_W va_W va_W _ (rcV X nw an sv dv n0 n1 n2 n3 n4 g0 gs gn gm) (@HAppend.hAppend va_W va_W va_W _ (odW (xa 11) vo) ([((xa 5), .inl (X.2.1, 3, .inl fr))])))) sz) (va_A (@HAppend.hAppend va_W va_W va_W _ (xW h0 nw sp xa la lb) (@HAppend.hAppend va_W va_W va_W _ (rcV X nw an sv dv n0 n1 n2 n3 n4 g0 gs gn gm) (@HAppend.hAppend va_W va_W va_W _ (odW (xa 11) vo) ([((xa 5), .inl (X.2.1, 3, .inl fr))])))) sz) s (@HAppend.hAppend va_W va_W va_W _ (xW h0 nw sp xa la lb) (@HAppend.hAppend va_W va_W va_W _ (rcV X nw an sv dv n0 n1 n2 n3 n4 g0 gs gn gm) (@HAppend.hAppend va_W va_W va_W _ ([((xa 5), .inl (X.2.1, 3, .inl fr))]) (odW (xa 11) v_36)))) H locs := G
              refine lv_lstore (lv' := [(6, .long r_37), (5, .ref (an 4)), (0, .ref h0), (1, .int 3), (2, .int x2), (3, .int 0), (4, .int x4)]) zx zb dX10_stumble_103 hl (by decide) rfl (fun ls hl => ?_)
              refine lv_iload_n zx zb dX10_stumble_105 rfl (lv_at hl 5 rfl) ?_
              refine o_rl (cells' := 0) (slots' := 0) G rfl rfl (n_S (As := [.int 0]) (rest := []) S G (s_tenTo l X 0 (by omega) H.size) gX10_stumble_X3_tenTo rfl rfl rfl hdS_X3_tenTo ⟨Nat.le_of_ble_eq_true rfl, Nat.le_of_ble_eq_true rfl⟩ [] rfl rfl rfl hl.1 (Nat.le_of_ble_eq_true rfl) dX10_stumble_106 ⟨Nat.le_of_ble_eq_true rfl, Nat.le_of_ble_eq_true rfl⟩) (fun r_38 u_38 H locs hp_38 G => ?_)
              have G : wd X (va_A (@HAppend.hAppend va_W va_W va_W _ (xW h0 nw sp xa la lb) (@HAppend.hAppend va_W va_W va_W _ (rcV X nw an sv dv n0 n1 n2 n3 n4 g0 gs gn gm) (@HAppend.hAppend va_W va_W va_W _ (odW (xa 11) vo) ([((xa 5), .inl (X.2.1, 3, .inl fr))])))) sz) (va_A (@HAppend.hAppend va_W va_W va_W _ (xW h0 nw sp xa la lb) (@HAppend.hAppend va_W va_W va_W _ (rcV X nw an sv dv n0 n1 n2 n3 n4 g0 gs gn gm) (@HAppend.hAppend va_W va_W va_W _ (odW (xa 11) vo) ([((xa 5), .inl (X.2.1, 3, .inl fr))])))) sz) s (@HAppend.hAppend va_W va_W va_W _ (xW h0 nw sp xa la lb) (@HAppend.hAppend va_W va_W va_W _ (rcV X nw an sv dv n0 n1 n2 n3 n4 g0 gs gn gm) (@HAppend.hAppend va_W va_W va_W _ ([((xa 5), .inl (X.2.1, 3, .inl fr))]) (odW (xa 11) v_36)))) H locs := G
              refine lv_lstore (lv' := [(8, .long r_38), (6, .long r_37), (5, .ref (an 4)), (0, .ref h0), (1, .int 3), (2, .int x2), (3, .int 0), (4, .int x4)]) zx zb dX10_stumble_109 hl (by decide) rfl (fun ls hl => ?_)
              refine lv_lload zx zb dX10_stumble_111 (lv_at hl 1 rfl) ?_
              refine lv_lload zx zb dX10_stumble_113 (lv_at hl 0 rfl) ?_
              refine o_rl (cells' := 0) (slots' := 0) G rfl rfl (n_S (As := [.long r_37, .long r_38]) (rest := []) S G (s_commonPart l X r_37 r_38 H.size) gX10_stumble_X3_commonPart rfl rfl rfl hdS_X3_commonPart ⟨Nat.le_of_ble_eq_true rfl, Nat.le_of_ble_eq_true rfl⟩ [] rfl rfl rfl hl.1 (Nat.le_of_ble_eq_true rfl) dX10_stumble_115 ⟨Nat.le_of_ble_eq_true rfl, Nat.le_of_ble_eq_true rfl⟩) (fun r_39 u_39 H locs hp_39 G => ?_)
              have G : wd X (va_A (@HAppend.hAppend va_W va_W va_W _ (xW h0 nw sp xa la lb) (@HAppend.hAppend va_W va_W va_W _ (rcV X nw an sv dv n0 n1 n2 n3 n4 g0 gs gn gm) (@HAppend.hAppend va_W va_W va_W _ (odW (xa 11) vo) ([((xa 5), .inl (X.2.1, 3, .inl fr))])))) sz) (va_A (@HAppend.hAppend va_W va_W va_W _ (xW h0 nw sp xa la lb) (@HAppend.hAppend va_W va_W va_W _ (rcV X nw an sv dv n0 n1 n2 n3 n4 g0 gs gn gm) (@HAppend.hAppend va_W va_W va_W _ (odW (xa 11) vo) ([((xa 5), .inl (X.2.1, 3, .inl fr))])))) sz) s (@HAppend.hAppend va_W va_W va_W _ (xW h0 nw sp xa la lb) (@HAppend.hAppend va_W va_W va_W _ (rcV X nw an sv dv n0 n1 n2 n3 n4 g0 gs gn gm) (@HAppend.hAppend va_W va_W va_W _ ([((xa 5), .inl (X.2.1, 3, .inl fr))]) (odW (xa 11) v_36)))) H locs := G
              refine lv_lstore (lv' := [(10, .long r_39), (8, .long r_38), (6, .long r_37), (5, .ref (an 4)), (0, .ref h0), (1, .int 3), (2, .int x2), (3, .int 0), (4, .int x4)]) zx zb dX10_stumble_118 hl (by decide) rfl (fun ls hl => ?_)
              refine lv_lload zx zb dX10_stumble_120 (lv_at hl 0 rfl) ?_
              refine lv_lconst (v := (Int32.toInt64 0)) zx zb dX10_stumble_122 (by decide) ?_
              refine W.lcmp zx zb dX10_stumble_123 ?_
              refine k_cutW (PP := fun Wx => ∀ (la_41 : Int64) (lb_42 : Int64) (H : Heap) (locs : List Loc) (ls : Array Slot), wd X (va_A (@HAppend.hAppend va_W va_W va_W _ (xW h0 nw sp xa la lb) (@HAppend.hAppend va_W va_W va_W _ (rcV X nw an sv dv n0 n1 n2 n3 n4 g0 gs gn gm) (@HAppend.hAppend va_W va_W va_W _ (odW (xa 11) vo) ([((xa 5), .inl (X.2.1, 3, .inl fr))])))) sz) (va_A (@HAppend.hAppend va_W va_W va_W _ (xW h0 nw sp xa la lb) (@HAppend.hAppend va_W va_W va_W _ (rcV X nw an sv dv n0 n1 n2 n3 n4 g0 gs gn gm) (@HAppend.hAppend va_W va_W va_W _ (odW (xa 11) vo) ([((xa 5), .inl (X.2.1, 3, .inl fr))])))) sz) s (@HAppend.hAppend va_W va_W va_W _ (xW h0 nw sp xa la_41 lb_42) (@HAppend.hAppend va_W va_W va_W _ (rcV X nw an sv dv n0 n1 n2 n3 n4 g0 gs gn gm) (@HAppend.hAppend va_W va_W va_W _ ([((xa 5), .inl (X.2.1, 3, .inl fr))]) (odW (xa 11) v_36)))) H locs → lv_has ls 12 [(10, .long r_39), (8, .long r_38), (6, .long r_37), (5, .ref (an 4)), (0, .ref h0), (1, .int 3), (2, .int x2), (3, .int 0), (4, .int x4)] → Wx (F0 m 145 ls []) H locs) ?_ ?_
              · intro join_124
                refine lv_if_le (tgt := 145) zx zb dX10_stumble_124 (by decide) (fun c_40 => ?_) (fun c_40 => ?_)
                · exact join_124 la lb _ _ _  G hl
                · refine lv_aload_n zx zb dX10_stumble_127 rfl (lv_at hl 4 rfl) ?_
                  refine lv_lload zx zb dX10_stumble_128 (lv_at hl 2 rfl) ?_
                  refine lv_lload zx zb dX10_stumble_130 (lv_at hl 0 rfl) ?_
                  refine lv_ldiv zx zb dX10_stumble_132 (k_lnz2 c_40) ?_
                  refine k_ldE (fun y_43 => ?_)
                  refine r_put (C := RX10) (T := TX10) (N := 14) (ci := 8) (v := .long y_43) S in_X10_stumble_X10 tyX10_ok nmX10 G 0 rfl rfl 6 (by decide) lk_X10_stumble_38 rfl rfl rfl (Nat.le_of_ble_eq_true rfl) dX10_stumble_133 (fun H locs G => ?_)
                  have G : wd X (va_A (@HAppend.hAppend va_W va_W va_W _ (xW h0 nw sp xa la lb) (@HAppend.hAppend va_W va_W va_W _ (rcV X nw an sv dv n0 n1 n2 n3 n4 g0 gs gn gm) (@HAppend.hAppend va_W va_W va_W _ (odW (xa 11) vo) ([((xa 5), .inl (X.2.1, 3, .inl fr))])))) sz) (va_A (@HAppend.hAppend va_W va_W va_W _ (xW h0 nw sp xa la lb) (@HAppend.hAppend va_W va_W va_W _ (rcV X nw an sv dv n0 n1 n2 n3 n4 g0 gs gn gm) (@HAppend.hAppend va_W va_W va_W _ (odW (xa 11) vo) ([((xa 5), .inl (X.2.1, 3, .inl fr))])))) sz) s (@HAppend.hAppend va_W va_W va_W _ (xW h0 nw sp xa y_43 lb) (@HAppend.hAppend va_W va_W va_W _ (rcV X nw an sv dv n0 n1 n2 n3 n4 g0 gs gn gm) (@HAppend.hAppend va_W va_W va_W _ ([((xa 5), .inl (X.2.1, 3, .inl fr))]) (odW (xa 11) v_36)))) H locs := G
                  refine lv_aload_n zx zb dX10_stumble_136 rfl (lv_at hl 4 rfl) ?_
                  refine lv_lload zx zb dX10_stumble_137 (lv_at hl 1 rfl) ?_
                  refine lv_lload zx zb dX10_stumble_139 (lv_at hl 0 rfl) ?_
                  refine lv_ldiv zx zb dX10_stumble_141 (k_lnz2 c_40) ?_
                  refine k_ldE (fun y_44 => ?_)
                  refine r_put (C := RX10) (T := TX10) (N := 14) (ci := 8) (v := .long y_44) S in_X10_stumble_X10 tyX10_ok nmX10 G 0 rfl rfl 7 (by decide) lk_X10_stumble_42 rfl rfl rfl (Nat.le_of_ble_eq_true rfl) dX10_stumble_142 (fun H locs G => ?_)
                  have G : wd X (va_A (@HAppend.hAppend va_W va_W va_W _ (xW h0 nw sp xa la lb) (@HAppend.hAppend va_W va_W va_W _ (rcV X nw an sv dv n0 n1 n2 n3 n4 g0 gs gn gm) (@HAppend.hAppend va_W va_W va_W _ (odW (xa 11) vo) ([((xa 5), .inl (X.2.1, 3, .inl fr))])))) sz) (va_A (@HAppend.hAppend va_W va_W va_W _ (xW h0 nw sp xa la lb) (@HAppend.hAppend va_W va_W va_W _ (rcV X nw an sv dv n0 n1 n2 n3 n4 g0 gs gn gm) (@HAppend.hAppend va_W va_W va_W _ (odW (xa 11) vo) ([((xa 5), .inl (X.2.1, 3, .inl fr))])))) sz) s (@HAppend.hAppend va_W va_W va_W _ (xW h0 nw sp xa y_43 y_44) (@HAppend.hAppend va_W va_W va_W _ (rcV X nw an sv dv n0 n1 n2 n3 n4 g0 gs gn gm) (@HAppend.hAppend va_W va_W va_W _ ([((xa 5), .inl (X.2.1, 3, .inl fr))]) (odW (xa 11) v_36)))) H locs := G
                  exact join_124 y_43 y_44 _ _ _  G hl
              · intro la_41 lb_42 H locs ls  G hl
                refine lv_iconst (v := 1) zx zb dX10_stumble_145 (by decide) ?_
                exact e_int S zr zlk (vp_nar_int _) G (la_41, lb_42, v_36, fr) [0, 1, 2, 3, 4, 5, 6, 7, 8, 9, 10, 11, 12, 13, 14, 15, 16, 18, 17] rfl rfl (Or.inr rfl) ((stuF_p ⟨⟨_, hj_1, rfl⟩, hw_3, hw_5, hw_7⟩).symm) dX10_stumble_146
            · refine k_it (v := 4) rfl ?_
              refine r_aald (C := RX8) (b := (an 5)) S G 2 3 rfl rfl (k_vp (by decide)) rfl dX10_stumble_54 ?_
              refine lv_astore (lv' := [(5, .ref (an 5)), (0, .ref h0), (1, .int 4), (2, .int x2), (3, .int 0), (4, .int x4)]) zx zb dX10_stumble_55 hl (by decide) rfl (fun ls hl => ?_)
              refine lv_aload_n zx zb dX10_stumble_57 rfl (lv_at hl 1 rfl) ?_
              refine r_get (C := RX10) (T := TX10) (N := 14) (ci := 8) (v := .ref (xa 11)) S in_X10_stumble_X10 G 0 rfl rfl 11 (by decide) lk_X10_stumble_65 rfl dX10_stumble_58 ?_
              refine lv_aload zx zb dX10_stumble_61 (lv_at hl 0 rfl) ?_
              refine lv_aload_n zx zb dX10_stumble_63 rfl (lv_at hl 1 rfl) ?_
              refine r_get (C := RX10) (T := TX10) (N := 14) (ci := 8) (v := .ref nw) S in_X10_stumble_X10 G 0 rfl rfl 0 (by decide) lk_X10_stumble_10 rfl dX10_stumble_64 ?_
              refine r_get (C := RX5) (T := TX5) (N := 8) (ci := 3) (v := .int (dv 0)) S in_X10_stumble_X5 G 1 rfl rfl 0 (by decide) lk_X10_stumble_140 rfl dX10_stumble_67 ?_
              refine lv_aload_n zx zb dX10_stumble_70 rfl (lv_at hl 1 rfl) ?_
              refine r_get (C := RX10) (T := TX10) (N := 14) (ci := 8) (v := .ref nw) S in_X10_stumble_X10 G 0 rfl rfl 0 (by decide) lk_X10_stumble_10 rfl dX10_stumble_71 ?_
              refine r_get (C := RX5) (T := TX5) (N := 8) (ci := 3) (v := .int (dv 1)) S in_X10_stumble_X5 G 1 rfl rfl 1 (by decide) lk_X10_stumble_110 rfl dX10_stumble_74 ?_
              refine lv_iload_n zx zb dX10_stumble_77 rfl (lv_at hl 4 rfl) ?_
              refine r_iadd (v := ((dv 1) + 0)) S rfl dX10_stumble_78 ?_
              refine lv_iload_n zx zb dX10_stumble_79 rfl (lv_at hl 3 rfl) ?_
              refine lv_iload zx zb dX10_stumble_80 (lv_at hl 5 rfl) ?_
              refine b_wv (cells' := 0) (slots' := 0) (wr := @HAppend.hAppend va_W va_W va_W _ (xW h0 nw sp xa la lb) (@HAppend.hAppend va_W va_W va_W _ ([(nw, .inr (3, [.int (dv 0), .int (dv 1), .int (nI n0), .ref (an 0), .ref (an 7), .ref (an 9), .ref (an 11), .ref (an 13)])), ((an 0), .inl (X.2.2.2.2, 6, .inr (.inr (.inr (.inr (rowQ an)))))), ((an 1), .inr (6, [.int (sv 0), .int (sv 1), .int (sv 2), .int (dv 10), .int (dv 11), .int (dv 12), .int (dv 13), .int (dv 14)])), ((an 2), .inr (6, [.int (sv 3), .int (sv 4), .int (sv 5), .int (dv 15), .int (dv 16), .int (dv 17), .int (dv 18), .int (dv 19)])), ((an 3), .inr (6, [.int (sv 6), .int (sv 7), .int (sv 8), .int (dv 20), .int (dv 21), .int (dv 22), .int (dv 23), .int (dv 24)])), ((an 4), .inr (6, [.int (sv 9), .int (sv 10), .int (sv 11), .int (dv 25), .int (dv 26), .int (dv 27), .int (dv 28), .int (dv 29)])), ((an 6), .inr (6, [.int (sv 15), .int (sv 16), .int (sv 17), .int (dv 35), .int (dv 36), .int (dv 37), .int (dv 38), .int (dv 39)])), ((an 7), .inr (2, [.ref (an 8), .int (nI n1)])), ((an 8), .inl (X.2.1, 248, .inl g0)), ((an 9), .inr (5, [.int 5, .int 0, .int 1, .ref (an 10), .int (nI n2)])), ((an 10), .inl (X.2.1, 25, .inl gs)), ((an 11), .inr (5, [.int 6, .int 1, .int 1, .ref (an 12), .int (nI n3)])), ((an 12), .inl (X.2.1, 30, .inl gn)), ((an 13), .inr (5, [.int 6, .int 0, .int 0, .ref (an 14), .int (nI n4)])), ((an 14), .inl (X.2.1, 30, .inl gm))]) ([((xa 5), .inl (X.2.1, 3, .inl fr))]))) G rfl rfl [17, 7] [0, 1, 2, 3, 4, 5, 6, 8, 9, 10, 11, 12, 13, 14, 15, 16, 18] rfl rfl rfl rfl (n_V (As := [.ref (an 5), .int (dv 0), .int ((dv 1) + 0), .int x2, .int x4]) (rest := []) (C := RX3) (T := TX3) (N := 8) (ci := 1) S G (s_pose l X (xa 11) vo (an 5) (fun k => sv (12 + k)) (fun k => dv (30 + k)) (dv 0) ((dv 1) + 0) x2 x4 H.size) gX10_stumble_X3_pose rfl rfl rfl hdV_X3_pose ⟨Nat.le_of_ble_eq_true rfl, Nat.le_of_ble_eq_true rfl⟩ [17, 7] rfl rfl 17 rfl rfl rfl hl.1 (Nat.le_of_ble_eq_true rfl) dX10_stumble_82 ⟨Nat.le_of_ble_eq_true rfl, Nat.le_of_ble_eq_true rfl⟩) (fun u_45 H locs hp_45 G => ?_)
              obtain ⟨v_45, rfl⟩ : ∃ z, z = u_45 := ⟨_, rfl⟩
              have hq_45 := hp_45
              have G : wd X (va_A (@HAppend.hAppend va_W va_W va_W _ (xW h0 nw sp xa la lb) (@HAppend.hAppend va_W va_W va_W _ (rcV X nw an sv dv n0 n1 n2 n3 n4 g0 gs gn gm) (@HAppend.hAppend va_W va_W va_W _ (odW (xa 11) vo) ([((xa 5), .inl (X.2.1, 3, .inl fr))])))) sz) (va_A (@HAppend.hAppend va_W va_W va_W _ (xW h0 nw sp xa la lb) (@HAppend.hAppend va_W va_W va_W _ (rcV X nw an sv dv n0 n1 n2 n3 n4 g0 gs gn gm) (@HAppend.hAppend va_W va_W va_W _ (odW (xa 11) vo) ([((xa 5), .inl (X.2.1, 3, .inl fr))])))) sz) s (@HAppend.hAppend va_W va_W va_W _ (xW h0 nw sp xa la lb) (@HAppend.hAppend va_W va_W va_W _ (rcV X nw an sv dv n0 n1 n2 n3 n4 g0 gs gn gm) (@HAppend.hAppend va_W va_W va_W _ ([((xa 5), .inl (X.2.1, 3, .inl fr))]) (odW (xa 11) v_45)))) H locs := wd_sub G [0, 1, 2, 3, 4, 5, 6, 18, 7, 8, 9, 10, 11, 12, 13, 14, 15, 16, 17] rfl rfl
              refine lv_aload_n zx zb dX10_stumble_85 rfl (lv_at hl 1 rfl) ?_
              refine r_get (C := RX10) (T := TX10) (N := 14) (ci := 8) (v := .ref (xa 11)) S in_X10_stumble_X10 G 0 rfl rfl 11 (by decide) lk_X10_stumble_65 rfl dX10_stumble_86 ?_
              refine lv_aload zx zb dX10_stumble_89 (lv_at hl 0 rfl) ?_
              refine r_get (C := RX8) (T := TX8) (N := 8) (ci := 6) (v := .int (dv 31)) S in_X10_stumble_X8 G 7 rfl rfl 4 (by decide) lk_X10_stumble_137 rfl dX10_stumble_91 ?_
              refine lv_aload zx zb dX10_stumble_94 (lv_at hl 0 rfl) ?_
              refine r_get (C := RX8) (T := TX8) (N := 8) (ci := 6) (v := .int (dv 33)) S in_X10_stumble_X8 G 7 rfl rfl 6 (by decide) lk_X10_stumble_240 rfl dX10_stumble_96 ?_
              refine lv_iload_n zx zb dX10_stumble_99 rfl (lv_at hl 4 rfl) ?_
              refine o_rl (cells' := 0) (slots' := 0) G rfl rfl (n_SN (As := [.ref (xa 11), .int (dv 31), .int (dv 33), .int 0]) (rest := []) (host := "EggSpoons") S G (s_ways0 l X (xa 11) v_45 (dv 31) (dv 33) H.size) gX10_stumble_X3_ways_n243 rfl rfl rfl mm_X10_stumble_inX3 G.1.2.2.2.2.2.2.2.2.2.2.2 mm_X10_stumble_stX3_ways hdS_X3_ways ⟨Nat.le_of_ble_eq_true rfl, Nat.le_of_ble_eq_true rfl⟩ [18] rfl rfl rfl hl.1 (Nat.le_of_ble_eq_true rfl) dX10_stumble_100 ⟨Nat.le_of_ble_eq_true rfl, Nat.le_of_ble_eq_true rfl⟩) (fun r_46 u_46 H locs hp_46 G => ?_)
              have G : wd X (va_A (@HAppend.hAppend va_W va_W va_W _ (xW h0 nw sp xa la lb) (@HAppend.hAppend va_W va_W va_W _ (rcV X nw an sv dv n0 n1 n2 n3 n4 g0 gs gn gm) (@HAppend.hAppend va_W va_W va_W _ (odW (xa 11) vo) ([((xa 5), .inl (X.2.1, 3, .inl fr))])))) sz) (va_A (@HAppend.hAppend va_W va_W va_W _ (xW h0 nw sp xa la lb) (@HAppend.hAppend va_W va_W va_W _ (rcV X nw an sv dv n0 n1 n2 n3 n4 g0 gs gn gm) (@HAppend.hAppend va_W va_W va_W _ (odW (xa 11) vo) ([((xa 5), .inl (X.2.1, 3, .inl fr))])))) sz) s (@HAppend.hAppend va_W va_W va_W _ (xW h0 nw sp xa la lb) (@HAppend.hAppend va_W va_W va_W _ (rcV X nw an sv dv n0 n1 n2 n3 n4 g0 gs gn gm) (@HAppend.hAppend va_W va_W va_W _ ([((xa 5), .inl (X.2.1, 3, .inl fr))]) (odW (xa 11) v_45)))) H locs := G
              refine lv_lstore (lv' := [(6, .long r_46), (5, .ref (an 5)), (0, .ref h0), (1, .int 4), (2, .int x2), (3, .int 0), (4, .int x4)]) zx zb dX10_stumble_103 hl (by decide) rfl (fun ls hl => ?_)
              refine lv_iload_n zx zb dX10_stumble_105 rfl (lv_at hl 5 rfl) ?_
              refine o_rl (cells' := 0) (slots' := 0) G rfl rfl (n_S (As := [.int 0]) (rest := []) S G (s_tenTo l X 0 (by omega) H.size) gX10_stumble_X3_tenTo rfl rfl rfl hdS_X3_tenTo ⟨Nat.le_of_ble_eq_true rfl, Nat.le_of_ble_eq_true rfl⟩ [] rfl rfl rfl hl.1 (Nat.le_of_ble_eq_true rfl) dX10_stumble_106 ⟨Nat.le_of_ble_eq_true rfl, Nat.le_of_ble_eq_true rfl⟩) (fun r_47 u_47 H locs hp_47 G => ?_)
              have G : wd X (va_A (@HAppend.hAppend va_W va_W va_W _ (xW h0 nw sp xa la lb) (@HAppend.hAppend va_W va_W va_W _ (rcV X nw an sv dv n0 n1 n2 n3 n4 g0 gs gn gm) (@HAppend.hAppend va_W va_W va_W _ (odW (xa 11) vo) ([((xa 5), .inl (X.2.1, 3, .inl fr))])))) sz) (va_A (@HAppend.hAppend va_W va_W va_W _ (xW h0 nw sp xa la lb) (@HAppend.hAppend va_W va_W va_W _ (rcV X nw an sv dv n0 n1 n2 n3 n4 g0 gs gn gm) (@HAppend.hAppend va_W va_W va_W _ (odW (xa 11) vo) ([((xa 5), .inl (X.2.1, 3, .inl fr))])))) sz) s (@HAppend.hAppend va_W va_W va_W _ (xW h0 nw sp xa la lb) (@HAppend.hAppend va_W va_W va_W _ (rcV X nw an sv dv n0 n1 n2 n3 n4 g0 gs gn gm) (@HAppend.hAppend va_W va_W va_W _ ([((xa 5), .inl (X.2.1, 3, .inl fr))]) (odW (xa 11) v_45)))) H locs := G
              refine lv_lstore (lv' := [(8, .long r_47), (6, .long r_46), (5, .ref (an 5)), (0, .ref h0), (1, .int 4), (2, .int x2), (3, .int 0), (4, .int x4)]) zx zb dX10_stumble_109 hl (by decide) rfl (fun ls hl => ?_)
              refine lv_lload zx zb dX10_stumble_111 (lv_at hl 1 rfl) ?_
              refine lv_lload zx zb dX10_stumble_113 (lv_at hl 0 rfl) ?_
              refine o_rl (cells' := 0) (slots' := 0) G rfl rfl (n_S (As := [.long r_46, .long r_47]) (rest := []) S G (s_commonPart l X r_46 r_47 H.size) gX10_stumble_X3_commonPart rfl rfl rfl hdS_X3_commonPart ⟨Nat.le_of_ble_eq_true rfl, Nat.le_of_ble_eq_true rfl⟩ [] rfl rfl rfl hl.1 (Nat.le_of_ble_eq_true rfl) dX10_stumble_115 ⟨Nat.le_of_ble_eq_true rfl, Nat.le_of_ble_eq_true rfl⟩) (fun r_48 u_48 H locs hp_48 G => ?_)
              have G : wd X (va_A (@HAppend.hAppend va_W va_W va_W _ (xW h0 nw sp xa la lb) (@HAppend.hAppend va_W va_W va_W _ (rcV X nw an sv dv n0 n1 n2 n3 n4 g0 gs gn gm) (@HAppend.hAppend va_W va_W va_W _ (odW (xa 11) vo) ([((xa 5), .inl (X.2.1, 3, .inl fr))])))) sz) (va_A (@HAppend.hAppend va_W va_W va_W _ (xW h0 nw sp xa la lb) (@HAppend.hAppend va_W va_W va_W _ (rcV X nw an sv dv n0 n1 n2 n3 n4 g0 gs gn gm) (@HAppend.hAppend va_W va_W va_W _ (odW (xa 11) vo) ([((xa 5), .inl (X.2.1, 3, .inl fr))])))) sz) s (@HAppend.hAppend va_W va_W va_W _ (xW h0 nw sp xa la lb) (@HAppend.hAppend va_W va_W va_W _ (rcV X nw an sv dv n0 n1 n2 n3 n4 g0 gs gn gm) (@HAppend.hAppend va_W va_W va_W _ ([((xa 5), .inl (X.2.1, 3, .inl fr))]) (odW (xa 11) v_45)))) H locs := G
              refine lv_lstore (lv' := [(10, .long r_48), (8, .long r_47), (6, .long r_46), (5, .ref (an 5)), (0, .ref h0), (1, .int 4), (2, .int x2), (3, .int 0), (4, .int x4)]) zx zb dX10_stumble_118 hl (by decide) rfl (fun ls hl => ?_)
              refine lv_lload zx zb dX10_stumble_120 (lv_at hl 0 rfl) ?_
              refine lv_lconst (v := (Int32.toInt64 0)) zx zb dX10_stumble_122 (by decide) ?_
              refine W.lcmp zx zb dX10_stumble_123 ?_
              refine k_cutW (PP := fun Wx => ∀ (la_50 : Int64) (lb_51 : Int64) (H : Heap) (locs : List Loc) (ls : Array Slot), wd X (va_A (@HAppend.hAppend va_W va_W va_W _ (xW h0 nw sp xa la lb) (@HAppend.hAppend va_W va_W va_W _ (rcV X nw an sv dv n0 n1 n2 n3 n4 g0 gs gn gm) (@HAppend.hAppend va_W va_W va_W _ (odW (xa 11) vo) ([((xa 5), .inl (X.2.1, 3, .inl fr))])))) sz) (va_A (@HAppend.hAppend va_W va_W va_W _ (xW h0 nw sp xa la lb) (@HAppend.hAppend va_W va_W va_W _ (rcV X nw an sv dv n0 n1 n2 n3 n4 g0 gs gn gm) (@HAppend.hAppend va_W va_W va_W _ (odW (xa 11) vo) ([((xa 5), .inl (X.2.1, 3, .inl fr))])))) sz) s (@HAppend.hAppend va_W va_W va_W _ (xW h0 nw sp xa la_50 lb_51) (@HAppend.hAppend va_W va_W va_W _ (rcV X nw an sv dv n0 n1 n2 n3 n4 g0 gs gn gm) (@HAppend.hAppend va_W va_W va_W _ ([((xa 5), .inl (X.2.1, 3, .inl fr))]) (odW (xa 11) v_45)))) H locs → lv_has ls 12 [(10, .long r_48), (8, .long r_47), (6, .long r_46), (5, .ref (an 5)), (0, .ref h0), (1, .int 4), (2, .int x2), (3, .int 0), (4, .int x4)] → Wx (F0 m 145 ls []) H locs) ?_ ?_
              · intro join_124
                refine lv_if_le (tgt := 145) zx zb dX10_stumble_124 (by decide) (fun c_49 => ?_) (fun c_49 => ?_)
                · exact join_124 la lb _ _ _  G hl
                · refine lv_aload_n zx zb dX10_stumble_127 rfl (lv_at hl 4 rfl) ?_
                  refine lv_lload zx zb dX10_stumble_128 (lv_at hl 2 rfl) ?_
                  refine lv_lload zx zb dX10_stumble_130 (lv_at hl 0 rfl) ?_
                  refine lv_ldiv zx zb dX10_stumble_132 (k_lnz2 c_49) ?_
                  refine k_ldE (fun y_52 => ?_)
                  refine r_put (C := RX10) (T := TX10) (N := 14) (ci := 8) (v := .long y_52) S in_X10_stumble_X10 tyX10_ok nmX10 G 0 rfl rfl 6 (by decide) lk_X10_stumble_38 rfl rfl rfl (Nat.le_of_ble_eq_true rfl) dX10_stumble_133 (fun H locs G => ?_)
                  have G : wd X (va_A (@HAppend.hAppend va_W va_W va_W _ (xW h0 nw sp xa la lb) (@HAppend.hAppend va_W va_W va_W _ (rcV X nw an sv dv n0 n1 n2 n3 n4 g0 gs gn gm) (@HAppend.hAppend va_W va_W va_W _ (odW (xa 11) vo) ([((xa 5), .inl (X.2.1, 3, .inl fr))])))) sz) (va_A (@HAppend.hAppend va_W va_W va_W _ (xW h0 nw sp xa la lb) (@HAppend.hAppend va_W va_W va_W _ (rcV X nw an sv dv n0 n1 n2 n3 n4 g0 gs gn gm) (@HAppend.hAppend va_W va_W va_W _ (odW (xa 11) vo) ([((xa 5), .inl (X.2.1, 3, .inl fr))])))) sz) s (@HAppend.hAppend va_W va_W va_W _ (xW h0 nw sp xa y_52 lb) (@HAppend.hAppend va_W va_W va_W _ (rcV X nw an sv dv n0 n1 n2 n3 n4 g0 gs gn gm) (@HAppend.hAppend va_W va_W va_W _ ([((xa 5), .inl (X.2.1, 3, .inl fr))]) (odW (xa 11) v_45)))) H locs := G
                  refine lv_aload_n zx zb dX10_stumble_136 rfl (lv_at hl 4 rfl) ?_
                  refine lv_lload zx zb dX10_stumble_137 (lv_at hl 1 rfl) ?_
                  refine lv_lload zx zb dX10_stumble_139 (lv_at hl 0 rfl) ?_
                  refine lv_ldiv zx zb dX10_stumble_141 (k_lnz2 c_49) ?_
                  refine k_ldE (fun y_53 => ?_)
                  refine r_put (C := RX10) (T := TX10) (N := 14) (ci := 8) (v := .long y_53) S in_X10_stumble_X10 tyX10_ok nmX10 G 0 rfl rfl 7 (by decide) lk_X10_stumble_42 rfl rfl rfl (Nat.le_of_ble_eq_true rfl) dX10_stumble_142 (fun H locs G => ?_)
                  have G : wd X (va_A (@HAppend.hAppend va_W va_W va_W _ (xW h0 nw sp xa la lb) (@HAppend.hAppend va_W va_W va_W _ (rcV X nw an sv dv n0 n1 n2 n3 n4 g0 gs gn gm) (@HAppend.hAppend va_W va_W va_W _ (odW (xa 11) vo) ([((xa 5), .inl (X.2.1, 3, .inl fr))])))) sz) (va_A (@HAppend.hAppend va_W va_W va_W _ (xW h0 nw sp xa la lb) (@HAppend.hAppend va_W va_W va_W _ (rcV X nw an sv dv n0 n1 n2 n3 n4 g0 gs gn gm) (@HAppend.hAppend va_W va_W va_W _ (odW (xa 11) vo) ([((xa 5), .inl (X.2.1, 3, .inl fr))])))) sz) s (@HAppend.hAppend va_W va_W va_W _ (xW h0 nw sp xa y_52 y_53) (@HAppend.hAppend va_W va_W va_W _ (rcV X nw an sv dv n0 n1 n2 n3 n4 g0 gs gn gm) (@HAppend.hAppend va_W va_W va_W _ ([((xa 5), .inl (X.2.1, 3, .inl fr))]) (odW (xa 11) v_45)))) H locs := G
                  exact join_124 y_52 y_53 _ _ _  G hl
              · intro la_50 lb_51 H locs ls  G hl
                refine lv_iconst (v := 1) zx zb dX10_stumble_145 (by decide) ?_
                exact e_int S zr zlk (vp_nar_int _) G (la_50, lb_51, v_45, fr) [0, 1, 2, 3, 4, 5, 6, 7, 8, 9, 10, 11, 12, 13, 14, 15, 16, 18, 17] rfl rfl (Or.inr rfl) ((stuF_p ⟨⟨_, hj_1, rfl⟩, hw_3, hw_5, hw_7⟩).symm) dX10_stumble_146
            · refine k_it (v := 5) rfl ?_
              refine r_aald (C := RX8) (b := (an 6)) S G 2 3 rfl rfl (k_vp (by decide)) rfl dX10_stumble_54 ?_
              refine lv_astore (lv' := [(5, .ref (an 6)), (0, .ref h0), (1, .int 5), (2, .int x2), (3, .int 0), (4, .int x4)]) zx zb dX10_stumble_55 hl (by decide) rfl (fun ls hl => ?_)
              refine lv_aload_n zx zb dX10_stumble_57 rfl (lv_at hl 1 rfl) ?_
              refine r_get (C := RX10) (T := TX10) (N := 14) (ci := 8) (v := .ref (xa 11)) S in_X10_stumble_X10 G 0 rfl rfl 11 (by decide) lk_X10_stumble_65 rfl dX10_stumble_58 ?_
              refine lv_aload zx zb dX10_stumble_61 (lv_at hl 0 rfl) ?_
              refine lv_aload_n zx zb dX10_stumble_63 rfl (lv_at hl 1 rfl) ?_
              refine r_get (C := RX10) (T := TX10) (N := 14) (ci := 8) (v := .ref nw) S in_X10_stumble_X10 G 0 rfl rfl 0 (by decide) lk_X10_stumble_10 rfl dX10_stumble_64 ?_
              refine r_get (C := RX5) (T := TX5) (N := 8) (ci := 3) (v := .int (dv 0)) S in_X10_stumble_X5 G 1 rfl rfl 0 (by decide) lk_X10_stumble_140 rfl dX10_stumble_67 ?_
              refine lv_aload_n zx zb dX10_stumble_70 rfl (lv_at hl 1 rfl) ?_
              refine r_get (C := RX10) (T := TX10) (N := 14) (ci := 8) (v := .ref nw) S in_X10_stumble_X10 G 0 rfl rfl 0 (by decide) lk_X10_stumble_10 rfl dX10_stumble_71 ?_
              refine r_get (C := RX5) (T := TX5) (N := 8) (ci := 3) (v := .int (dv 1)) S in_X10_stumble_X5 G 1 rfl rfl 1 (by decide) lk_X10_stumble_110 rfl dX10_stumble_74 ?_
              refine lv_iload_n zx zb dX10_stumble_77 rfl (lv_at hl 4 rfl) ?_
              refine r_iadd (v := ((dv 1) + 0)) S rfl dX10_stumble_78 ?_
              refine lv_iload_n zx zb dX10_stumble_79 rfl (lv_at hl 3 rfl) ?_
              refine lv_iload zx zb dX10_stumble_80 (lv_at hl 5 rfl) ?_
              refine b_wv (cells' := 0) (slots' := 0) (wr := @HAppend.hAppend va_W va_W va_W _ (xW h0 nw sp xa la lb) (@HAppend.hAppend va_W va_W va_W _ ([(nw, .inr (3, [.int (dv 0), .int (dv 1), .int (nI n0), .ref (an 0), .ref (an 7), .ref (an 9), .ref (an 11), .ref (an 13)])), ((an 0), .inl (X.2.2.2.2, 6, .inr (.inr (.inr (.inr (rowQ an)))))), ((an 1), .inr (6, [.int (sv 0), .int (sv 1), .int (sv 2), .int (dv 10), .int (dv 11), .int (dv 12), .int (dv 13), .int (dv 14)])), ((an 2), .inr (6, [.int (sv 3), .int (sv 4), .int (sv 5), .int (dv 15), .int (dv 16), .int (dv 17), .int (dv 18), .int (dv 19)])), ((an 3), .inr (6, [.int (sv 6), .int (sv 7), .int (sv 8), .int (dv 20), .int (dv 21), .int (dv 22), .int (dv 23), .int (dv 24)])), ((an 4), .inr (6, [.int (sv 9), .int (sv 10), .int (sv 11), .int (dv 25), .int (dv 26), .int (dv 27), .int (dv 28), .int (dv 29)])), ((an 5), .inr (6, [.int (sv 12), .int (sv 13), .int (sv 14), .int (dv 30), .int (dv 31), .int (dv 32), .int (dv 33), .int (dv 34)])), ((an 7), .inr (2, [.ref (an 8), .int (nI n1)])), ((an 8), .inl (X.2.1, 248, .inl g0)), ((an 9), .inr (5, [.int 5, .int 0, .int 1, .ref (an 10), .int (nI n2)])), ((an 10), .inl (X.2.1, 25, .inl gs)), ((an 11), .inr (5, [.int 6, .int 1, .int 1, .ref (an 12), .int (nI n3)])), ((an 12), .inl (X.2.1, 30, .inl gn)), ((an 13), .inr (5, [.int 6, .int 0, .int 0, .ref (an 14), .int (nI n4)])), ((an 14), .inl (X.2.1, 30, .inl gm))]) ([((xa 5), .inl (X.2.1, 3, .inl fr))]))) G rfl rfl [17, 8] [0, 1, 2, 3, 4, 5, 6, 7, 9, 10, 11, 12, 13, 14, 15, 16, 18] rfl rfl rfl rfl (n_V (As := [.ref (an 6), .int (dv 0), .int ((dv 1) + 0), .int x2, .int x4]) (rest := []) (C := RX3) (T := TX3) (N := 8) (ci := 1) S G (s_pose l X (xa 11) vo (an 6) (fun k => sv (15 + k)) (fun k => dv (35 + k)) (dv 0) ((dv 1) + 0) x2 x4 H.size) gX10_stumble_X3_pose rfl rfl rfl hdV_X3_pose ⟨Nat.le_of_ble_eq_true rfl, Nat.le_of_ble_eq_true rfl⟩ [17, 8] rfl rfl 17 rfl rfl rfl hl.1 (Nat.le_of_ble_eq_true rfl) dX10_stumble_82 ⟨Nat.le_of_ble_eq_true rfl, Nat.le_of_ble_eq_true rfl⟩) (fun u_54 H locs hp_54 G => ?_)
              obtain ⟨v_54, rfl⟩ : ∃ z, z = u_54 := ⟨_, rfl⟩
              have hq_54 := hp_54
              have G : wd X (va_A (@HAppend.hAppend va_W va_W va_W _ (xW h0 nw sp xa la lb) (@HAppend.hAppend va_W va_W va_W _ (rcV X nw an sv dv n0 n1 n2 n3 n4 g0 gs gn gm) (@HAppend.hAppend va_W va_W va_W _ (odW (xa 11) vo) ([((xa 5), .inl (X.2.1, 3, .inl fr))])))) sz) (va_A (@HAppend.hAppend va_W va_W va_W _ (xW h0 nw sp xa la lb) (@HAppend.hAppend va_W va_W va_W _ (rcV X nw an sv dv n0 n1 n2 n3 n4 g0 gs gn gm) (@HAppend.hAppend va_W va_W va_W _ (odW (xa 11) vo) ([((xa 5), .inl (X.2.1, 3, .inl fr))])))) sz) s (@HAppend.hAppend va_W va_W va_W _ (xW h0 nw sp xa la lb) (@HAppend.hAppend va_W va_W va_W _ (rcV X nw an sv dv n0 n1 n2 n3 n4 g0 gs gn gm) (@HAppend.hAppend va_W va_W va_W _ ([((xa 5), .inl (X.2.1, 3, .inl fr))]) (odW (xa 11) v_54)))) H locs := wd_sub G [0, 1, 2, 3, 4, 5, 6, 7, 18, 8, 9, 10, 11, 12, 13, 14, 15, 16, 17] rfl rfl
              refine lv_aload_n zx zb dX10_stumble_85 rfl (lv_at hl 1 rfl) ?_
              refine r_get (C := RX10) (T := TX10) (N := 14) (ci := 8) (v := .ref (xa 11)) S in_X10_stumble_X10 G 0 rfl rfl 11 (by decide) lk_X10_stumble_65 rfl dX10_stumble_86 ?_
              refine lv_aload zx zb dX10_stumble_89 (lv_at hl 0 rfl) ?_
              refine r_get (C := RX8) (T := TX8) (N := 8) (ci := 6) (v := .int (dv 36)) S in_X10_stumble_X8 G 8 rfl rfl 4 (by decide) lk_X10_stumble_137 rfl dX10_stumble_91 ?_
              refine lv_aload zx zb dX10_stumble_94 (lv_at hl 0 rfl) ?_
              refine r_get (C := RX8) (T := TX8) (N := 8) (ci := 6) (v := .int (dv 38)) S in_X10_stumble_X8 G 8 rfl rfl 6 (by decide) lk_X10_stumble_240 rfl dX10_stumble_96 ?_
              refine lv_iload_n zx zb dX10_stumble_99 rfl (lv_at hl 4 rfl) ?_
              refine o_rl (cells' := 0) (slots' := 0) G rfl rfl (n_SN (As := [.ref (xa 11), .int (dv 36), .int (dv 38), .int 0]) (rest := []) (host := "EggSpoons") S G (s_ways0 l X (xa 11) v_54 (dv 36) (dv 38) H.size) gX10_stumble_X3_ways_n243 rfl rfl rfl mm_X10_stumble_inX3 G.1.2.2.2.2.2.2.2.2.2.2.2 mm_X10_stumble_stX3_ways hdS_X3_ways ⟨Nat.le_of_ble_eq_true rfl, Nat.le_of_ble_eq_true rfl⟩ [18] rfl rfl rfl hl.1 (Nat.le_of_ble_eq_true rfl) dX10_stumble_100 ⟨Nat.le_of_ble_eq_true rfl, Nat.le_of_ble_eq_true rfl⟩) (fun r_55 u_55 H locs hp_55 G => ?_)
              have G : wd X (va_A (@HAppend.hAppend va_W va_W va_W _ (xW h0 nw sp xa la lb) (@HAppend.hAppend va_W va_W va_W _ (rcV X nw an sv dv n0 n1 n2 n3 n4 g0 gs gn gm) (@HAppend.hAppend va_W va_W va_W _ (odW (xa 11) vo) ([((xa 5), .inl (X.2.1, 3, .inl fr))])))) sz) (va_A (@HAppend.hAppend va_W va_W va_W _ (xW h0 nw sp xa la lb) (@HAppend.hAppend va_W va_W va_W _ (rcV X nw an sv dv n0 n1 n2 n3 n4 g0 gs gn gm) (@HAppend.hAppend va_W va_W va_W _ (odW (xa 11) vo) ([((xa 5), .inl (X.2.1, 3, .inl fr))])))) sz) s (@HAppend.hAppend va_W va_W va_W _ (xW h0 nw sp xa la lb) (@HAppend.hAppend va_W va_W va_W _ (rcV X nw an sv dv n0 n1 n2 n3 n4 g0 gs gn gm) (@HAppend.hAppend va_W va_W va_W _ ([((xa 5), .inl (X.2.1, 3, .inl fr))]) (odW (xa 11) v_54)))) H locs := G
              refine lv_lstore (lv' := [(6, .long r_55), (5, .ref (an 6)), (0, .ref h0), (1, .int 5), (2, .int x2), (3, .int 0), (4, .int x4)]) zx zb dX10_stumble_103 hl (by decide) rfl (fun ls hl => ?_)
              refine lv_iload_n zx zb dX10_stumble_105 rfl (lv_at hl 5 rfl) ?_
              refine o_rl (cells' := 0) (slots' := 0) G rfl rfl (n_S (As := [.int 0]) (rest := []) S G (s_tenTo l X 0 (by omega) H.size) gX10_stumble_X3_tenTo rfl rfl rfl hdS_X3_tenTo ⟨Nat.le_of_ble_eq_true rfl, Nat.le_of_ble_eq_true rfl⟩ [] rfl rfl rfl hl.1 (Nat.le_of_ble_eq_true rfl) dX10_stumble_106 ⟨Nat.le_of_ble_eq_true rfl, Nat.le_of_ble_eq_true rfl⟩) (fun r_56 u_56 H locs hp_56 G => ?_)
              have G : wd X (va_A (@HAppend.hAppend va_W va_W va_W _ (xW h0 nw sp xa la lb) (@HAppend.hAppend va_W va_W va_W _ (rcV X nw an sv dv n0 n1 n2 n3 n4 g0 gs gn gm) (@HAppend.hAppend va_W va_W va_W _ (odW (xa 11) vo) ([((xa 5), .inl (X.2.1, 3, .inl fr))])))) sz) (va_A (@HAppend.hAppend va_W va_W va_W _ (xW h0 nw sp xa la lb) (@HAppend.hAppend va_W va_W va_W _ (rcV X nw an sv dv n0 n1 n2 n3 n4 g0 gs gn gm) (@HAppend.hAppend va_W va_W va_W _ (odW (xa 11) vo) ([((xa 5), .inl (X.2.1, 3, .inl fr))])))) sz) s (@HAppend.hAppend va_W va_W va_W _ (xW h0 nw sp xa la lb) (@HAppend.hAppend va_W va_W va_W _ (rcV X nw an sv dv n0 n1 n2 n3 n4 g0 gs gn gm) (@HAppend.hAppend va_W va_W va_W _ ([((xa 5), .inl (X.2.1, 3, .inl fr))]) (odW (xa 11) v_54)))) H locs := G
              refine lv_lstore (lv' := [(8, .long r_56), (6, .long r_55), (5, .ref (an 6)), (0, .ref h0), (1, .int 5), (2, .int x2), (3, .int 0), (4, .int x4)]) zx zb dX10_stumble_109 hl (by decide) rfl (fun ls hl => ?_)
              refine lv_lload zx zb dX10_stumble_111 (lv_at hl 1 rfl) ?_
              refine lv_lload zx zb dX10_stumble_113 (lv_at hl 0 rfl) ?_
              refine o_rl (cells' := 0) (slots' := 0) G rfl rfl (n_S (As := [.long r_55, .long r_56]) (rest := []) S G (s_commonPart l X r_55 r_56 H.size) gX10_stumble_X3_commonPart rfl rfl rfl hdS_X3_commonPart ⟨Nat.le_of_ble_eq_true rfl, Nat.le_of_ble_eq_true rfl⟩ [] rfl rfl rfl hl.1 (Nat.le_of_ble_eq_true rfl) dX10_stumble_115 ⟨Nat.le_of_ble_eq_true rfl, Nat.le_of_ble_eq_true rfl⟩) (fun r_57 u_57 H locs hp_57 G => ?_)
              have G : wd X (va_A (@HAppend.hAppend va_W va_W va_W _ (xW h0 nw sp xa la lb) (@HAppend.hAppend va_W va_W va_W _ (rcV X nw an sv dv n0 n1 n2 n3 n4 g0 gs gn gm) (@HAppend.hAppend va_W va_W va_W _ (odW (xa 11) vo) ([((xa 5), .inl (X.2.1, 3, .inl fr))])))) sz) (va_A (@HAppend.hAppend va_W va_W va_W _ (xW h0 nw sp xa la lb) (@HAppend.hAppend va_W va_W va_W _ (rcV X nw an sv dv n0 n1 n2 n3 n4 g0 gs gn gm) (@HAppend.hAppend va_W va_W va_W _ (odW (xa 11) vo) ([((xa 5), .inl (X.2.1, 3, .inl fr))])))) sz) s (@HAppend.hAppend va_W va_W va_W _ (xW h0 nw sp xa la lb) (@HAppend.hAppend va_W va_W va_W _ (rcV X nw an sv dv n0 n1 n2 n3 n4 g0 gs gn gm) (@HAppend.hAppend va_W va_W va_W _ ([((xa 5), .inl (X.2.1, 3, .inl fr))]) (odW (xa 11) v_54)))) H locs := G
              refine lv_lstore (lv' := [(10, .long r_57), (8, .long r_56), (6, .long r_55), (5, .ref (an 6)), (0, .ref h0), (1, .int 5), (2, .int x2), (3, .int 0), (4, .int x4)]) zx zb dX10_stumble_118 hl (by decide) rfl (fun ls hl => ?_)
              refine lv_lload zx zb dX10_stumble_120 (lv_at hl 0 rfl) ?_
              refine lv_lconst (v := (Int32.toInt64 0)) zx zb dX10_stumble_122 (by decide) ?_
              refine W.lcmp zx zb dX10_stumble_123 ?_
              refine k_cutW (PP := fun Wx => ∀ (la_59 : Int64) (lb_60 : Int64) (H : Heap) (locs : List Loc) (ls : Array Slot), wd X (va_A (@HAppend.hAppend va_W va_W va_W _ (xW h0 nw sp xa la lb) (@HAppend.hAppend va_W va_W va_W _ (rcV X nw an sv dv n0 n1 n2 n3 n4 g0 gs gn gm) (@HAppend.hAppend va_W va_W va_W _ (odW (xa 11) vo) ([((xa 5), .inl (X.2.1, 3, .inl fr))])))) sz) (va_A (@HAppend.hAppend va_W va_W va_W _ (xW h0 nw sp xa la lb) (@HAppend.hAppend va_W va_W va_W _ (rcV X nw an sv dv n0 n1 n2 n3 n4 g0 gs gn gm) (@HAppend.hAppend va_W va_W va_W _ (odW (xa 11) vo) ([((xa 5), .inl (X.2.1, 3, .inl fr))])))) sz) s (@HAppend.hAppend va_W va_W va_W _ (xW h0 nw sp xa la_59 lb_60) (@HAppend.hAppend va_W va_W va_W _ (rcV X nw an sv dv n0 n1 n2 n3 n4 g0 gs gn gm) (@HAppend.hAppend va_W va_W va_W _ ([((xa 5), .inl (X.2.1, 3, .inl fr))]) (odW (xa 11) v_54)))) H locs → lv_has ls 12 [(10, .long r_57), (8, .long r_56), (6, .long r_55), (5, .ref (an 6)), (0, .ref h0), (1, .int 5), (2, .int x2), (3, .int 0), (4, .int x4)] → Wx (F0 m 145 ls []) H locs) ?_ ?_
              · intro join_124
                refine lv_if_le (tgt := 145) zx zb dX10_stumble_124 (by decide) (fun c_58 => ?_) (fun c_58 => ?_)
                · exact join_124 la lb _ _ _  G hl
                · refine lv_aload_n zx zb dX10_stumble_127 rfl (lv_at hl 4 rfl) ?_
                  refine lv_lload zx zb dX10_stumble_128 (lv_at hl 2 rfl) ?_
                  refine lv_lload zx zb dX10_stumble_130 (lv_at hl 0 rfl) ?_
                  refine lv_ldiv zx zb dX10_stumble_132 (k_lnz2 c_58) ?_
                  refine k_ldE (fun y_61 => ?_)
                  refine r_put (C := RX10) (T := TX10) (N := 14) (ci := 8) (v := .long y_61) S in_X10_stumble_X10 tyX10_ok nmX10 G 0 rfl rfl 6 (by decide) lk_X10_stumble_38 rfl rfl rfl (Nat.le_of_ble_eq_true rfl) dX10_stumble_133 (fun H locs G => ?_)
                  have G : wd X (va_A (@HAppend.hAppend va_W va_W va_W _ (xW h0 nw sp xa la lb) (@HAppend.hAppend va_W va_W va_W _ (rcV X nw an sv dv n0 n1 n2 n3 n4 g0 gs gn gm) (@HAppend.hAppend va_W va_W va_W _ (odW (xa 11) vo) ([((xa 5), .inl (X.2.1, 3, .inl fr))])))) sz) (va_A (@HAppend.hAppend va_W va_W va_W _ (xW h0 nw sp xa la lb) (@HAppend.hAppend va_W va_W va_W _ (rcV X nw an sv dv n0 n1 n2 n3 n4 g0 gs gn gm) (@HAppend.hAppend va_W va_W va_W _ (odW (xa 11) vo) ([((xa 5), .inl (X.2.1, 3, .inl fr))])))) sz) s (@HAppend.hAppend va_W va_W va_W _ (xW h0 nw sp xa y_61 lb) (@HAppend.hAppend va_W va_W va_W _ (rcV X nw an sv dv n0 n1 n2 n3 n4 g0 gs gn gm) (@HAppend.hAppend va_W va_W va_W _ ([((xa 5), .inl (X.2.1, 3, .inl fr))]) (odW (xa 11) v_54)))) H locs := G
                  refine lv_aload_n zx zb dX10_stumble_136 rfl (lv_at hl 4 rfl) ?_
                  refine lv_lload zx zb dX10_stumble_137 (lv_at hl 1 rfl) ?_
                  refine lv_lload zx zb dX10_stumble_139 (lv_at hl 0 rfl) ?_
                  refine lv_ldiv zx zb dX10_stumble_141 (k_lnz2 c_58) ?_
                  refine k_ldE (fun y_62 => ?_)
                  refine r_put (C := RX10) (T := TX10) (N := 14) (ci := 8) (v := .long y_62) S in_X10_stumble_X10 tyX10_ok nmX10 G 0 rfl rfl 7 (by decide) lk_X10_stumble_42 rfl rfl rfl (Nat.le_of_ble_eq_true rfl) dX10_stumble_142 (fun H locs G => ?_)
                  have G : wd X (va_A (@HAppend.hAppend va_W va_W va_W _ (xW h0 nw sp xa la lb) (@HAppend.hAppend va_W va_W va_W _ (rcV X nw an sv dv n0 n1 n2 n3 n4 g0 gs gn gm) (@HAppend.hAppend va_W va_W va_W _ (odW (xa 11) vo) ([((xa 5), .inl (X.2.1, 3, .inl fr))])))) sz) (va_A (@HAppend.hAppend va_W va_W va_W _ (xW h0 nw sp xa la lb) (@HAppend.hAppend va_W va_W va_W _ (rcV X nw an sv dv n0 n1 n2 n3 n4 g0 gs gn gm) (@HAppend.hAppend va_W va_W va_W _ (odW (xa 11) vo) ([((xa 5), .inl (X.2.1, 3, .inl fr))])))) sz) s (@HAppend.hAppend va_W va_W va_W _ (xW h0 nw sp xa y_61 y_62) (@HAppend.hAppend va_W va_W va_W _ (rcV X nw an sv dv n0 n1 n2 n3 n4 g0 gs gn gm) (@HAppend.hAppend va_W va_W va_W _ ([((xa 5), .inl (X.2.1, 3, .inl fr))]) (odW (xa 11) v_54)))) H locs := G
                  exact join_124 y_61 y_62 _ _ _  G hl
              · intro la_59 lb_60 H locs ls  G hl
                refine lv_iconst (v := 1) zx zb dX10_stumble_145 (by decide) ?_
                exact e_int S zr zlk (vp_nar_int _) G (la_59, lb_60, v_54, fr) [0, 1, 2, 3, 4, 5, 6, 7, 8, 9, 10, 11, 12, 13, 14, 15, 16, 18, 17] rfl rfl (Or.inr rfl) ((stuF_p ⟨⟨_, hj_1, rfl⟩, hw_3, hw_5, hw_7⟩).symm) dX10_stumble_146
          · have hl : lv_has ls 12 [(0, .ref h0), (1, .int (nI j_1)), (2, .int x2), (3, .int 1), (4, .int x4)] := hl
            refine lv_aload_n zx zb dX10_stumble_46 rfl (lv_at hl 0 rfl) ?_
            refine r_get (C := RX10) (T := TX10) (N := 14) (ci := 8) (v := .ref nw) S in_X10_stumble_X10 G 0 rfl rfl 0 (by decide) lk_X10_stumble_10 rfl dX10_stumble_47 ?_
            refine r_get (C := RX5) (T := TX5) (N := 8) (ci := 3) (v := .ref (an 0)) S in_X10_stumble_X5 G 1 rfl rfl 3 (by decide) lk_X10_stumble_126 rfl dX10_stumble_50 ?_
            refine lv_iload_n zx zb dX10_stumble_53 rfl (lv_at hl 1 rfl) ?_
            rcases k_6c (show j_1 < 6 by omega) with rfl | rfl | rfl | rfl | rfl | rfl
            · refine k_it (v := 0) rfl ?_
              refine r_aald (C := RX8) (b := (an 1)) S G 2 3 rfl rfl (k_vp (by decide)) rfl dX10_stumble_54 ?_
              refine lv_astore (lv' := [(5, .ref (an 1)), (0, .ref h0), (1, .int 0), (2, .int x2), (3, .int 1), (4, .int x4)]) zx zb dX10_stumble_55 hl (by decide) rfl (fun ls hl => ?_)
              refine lv_aload_n zx zb dX10_stumble_57 rfl (lv_at hl 1 rfl) ?_
              refine r_get (C := RX10) (T := TX10) (N := 14) (ci := 8) (v := .ref (xa 11)) S in_X10_stumble_X10 G 0 rfl rfl 11 (by decide) lk_X10_stumble_65 rfl dX10_stumble_58 ?_
              refine lv_aload zx zb dX10_stumble_61 (lv_at hl 0 rfl) ?_
              refine lv_aload_n zx zb dX10_stumble_63 rfl (lv_at hl 1 rfl) ?_
              refine r_get (C := RX10) (T := TX10) (N := 14) (ci := 8) (v := .ref nw) S in_X10_stumble_X10 G 0 rfl rfl 0 (by decide) lk_X10_stumble_10 rfl dX10_stumble_64 ?_
              refine r_get (C := RX5) (T := TX5) (N := 8) (ci := 3) (v := .int (dv 0)) S in_X10_stumble_X5 G 1 rfl rfl 0 (by decide) lk_X10_stumble_140 rfl dX10_stumble_67 ?_
              refine lv_aload_n zx zb dX10_stumble_70 rfl (lv_at hl 1 rfl) ?_
              refine r_get (C := RX10) (T := TX10) (N := 14) (ci := 8) (v := .ref nw) S in_X10_stumble_X10 G 0 rfl rfl 0 (by decide) lk_X10_stumble_10 rfl dX10_stumble_71 ?_
              refine r_get (C := RX5) (T := TX5) (N := 8) (ci := 3) (v := .int (dv 1)) S in_X10_stumble_X5 G 1 rfl rfl 1 (by decide) lk_X10_stumble_110 rfl dX10_stumble_74 ?_
              refine lv_iload_n zx zb dX10_stumble_77 rfl (lv_at hl 4 rfl) ?_
              refine r_iadd (v := ((dv 1) + 1)) S rfl dX10_stumble_78 ?_
              refine lv_iload_n zx zb dX10_stumble_79 rfl (lv_at hl 3 rfl) ?_
              refine lv_iload zx zb dX10_stumble_80 (lv_at hl 5 rfl) ?_
              refine b_wv (cells' := 0) (slots' := 0) (wr := @HAppend.hAppend va_W va_W va_W _ (xW h0 nw sp xa la lb) (@HAppend.hAppend va_W va_W va_W _ ([(nw, .inr (3, [.int (dv 0), .int (dv 1), .int (nI n0), .ref (an 0), .ref (an 7), .ref (an 9), .ref (an 11), .ref (an 13)])), ((an 0), .inl (X.2.2.2.2, 6, .inr (.inr (.inr (.inr (rowQ an)))))), ((an 2), .inr (6, [.int (sv 3), .int (sv 4), .int (sv 5), .int (dv 15), .int (dv 16), .int (dv 17), .int (dv 18), .int (dv 19)])), ((an 3), .inr (6, [.int (sv 6), .int (sv 7), .int (sv 8), .int (dv 20), .int (dv 21), .int (dv 22), .int (dv 23), .int (dv 24)])), ((an 4), .inr (6, [.int (sv 9), .int (sv 10), .int (sv 11), .int (dv 25), .int (dv 26), .int (dv 27), .int (dv 28), .int (dv 29)])), ((an 5), .inr (6, [.int (sv 12), .int (sv 13), .int (sv 14), .int (dv 30), .int (dv 31), .int (dv 32), .int (dv 33), .int (dv 34)])), ((an 6), .inr (6, [.int (sv 15), .int (sv 16), .int (sv 17), .int (dv 35), .int (dv 36), .int (dv 37), .int (dv 38), .int (dv 39)])), ((an 7), .inr (2, [.ref (an 8), .int (nI n1)])), ((an 8), .inl (X.2.1, 248, .inl g0)), ((an 9), .inr (5, [.int 5, .int 0, .int 1, .ref (an 10), .int (nI n2)])), ((an 10), .inl (X.2.1, 25, .inl gs)), ((an 11), .inr (5, [.int 6, .int 1, .int 1, .ref (an 12), .int (nI n3)])), ((an 12), .inl (X.2.1, 30, .inl gn)), ((an 13), .inr (5, [.int 6, .int 0, .int 0, .ref (an 14), .int (nI n4)])), ((an 14), .inl (X.2.1, 30, .inl gm))]) ([((xa 5), .inl (X.2.1, 3, .inl fr))]))) G rfl rfl [17, 3] [0, 1, 2, 4, 5, 6, 7, 8, 9, 10, 11, 12, 13, 14, 15, 16, 18] rfl rfl rfl rfl (n_V (As := [.ref (an 1), .int (dv 0), .int ((dv 1) + 1), .int x2, .int x4]) (rest := []) (C := RX3) (T := TX3) (N := 8) (ci := 1) S G (s_pose l X (xa 11) vo (an 1) (fun k => sv (0 + k)) (fun k => dv (10 + k)) (dv 0) ((dv 1) + 1) x2 x4 H.size) gX10_stumble_X3_pose rfl rfl rfl hdV_X3_pose ⟨Nat.le_of_ble_eq_true rfl, Nat.le_of_ble_eq_true rfl⟩ [17, 3] rfl rfl 17 rfl rfl rfl hl.1 (Nat.le_of_ble_eq_true rfl) dX10_stumble_82 ⟨Nat.le_of_ble_eq_true rfl, Nat.le_of_ble_eq_true rfl⟩) (fun u_63 H locs hp_63 G => ?_)
              obtain ⟨v_63, rfl⟩ : ∃ z, z = u_63 := ⟨_, rfl⟩
              have hq_63 := hp_63
              have G : wd X (va_A (@HAppend.hAppend va_W va_W va_W _ (xW h0 nw sp xa la lb) (@HAppend.hAppend va_W va_W va_W _ (rcV X nw an sv dv n0 n1 n2 n3 n4 g0 gs gn gm) (@HAppend.hAppend va_W va_W va_W _ (odW (xa 11) vo) ([((xa 5), .inl (X.2.1, 3, .inl fr))])))) sz) (va_A (@HAppend.hAppend va_W va_W va_W _ (xW h0 nw sp xa la lb) (@HAppend.hAppend va_W va_W va_W _ (rcV X nw an sv dv n0 n1 n2 n3 n4 g0 gs gn gm) (@HAppend.hAppend va_W va_W va_W _ (odW (xa 11) vo) ([((xa 5), .inl (X.2.1, 3, .inl fr))])))) sz) s (@HAppend.hAppend va_W va_W va_W _ (xW h0 nw sp xa la lb) (@HAppend.hAppend va_W va_W va_W _ (rcV X nw an sv dv n0 n1 n2 n3 n4 g0 gs gn gm) (@HAppend.hAppend va_W va_W va_W _ ([((xa 5), .inl (X.2.1, 3, .inl fr))]) (odW (xa 11) v_63)))) H locs := wd_sub G [0, 1, 2, 18, 3, 4, 5, 6, 7, 8, 9, 10, 11, 12, 13, 14, 15, 16, 17] rfl rfl
              refine lv_aload_n zx zb dX10_stumble_85 rfl (lv_at hl 1 rfl) ?_
              refine r_get (C := RX10) (T := TX10) (N := 14) (ci := 8) (v := .ref (xa 11)) S in_X10_stumble_X10 G 0 rfl rfl 11 (by decide) lk_X10_stumble_65 rfl dX10_stumble_86 ?_
              refine lv_aload zx zb dX10_stumble_89 (lv_at hl 0 rfl) ?_
              refine r_get (C := RX8) (T := TX8) (N := 8) (ci := 6) (v := .int (dv 11)) S in_X10_stumble_X8 G 3 rfl rfl 4 (by decide) lk_X10_stumble_137 rfl dX10_stumble_91 ?_
              refine lv_aload zx zb dX10_stumble_94 (lv_at hl 0 rfl) ?_
              refine r_get (C := RX8) (T := TX8) (N := 8) (ci := 6) (v := .int (dv 13)) S in_X10_stumble_X8 G 3 rfl rfl 6 (by decide) lk_X10_stumble_240 rfl dX10_stumble_96 ?_
              refine lv_iload_n zx zb dX10_stumble_99 rfl (lv_at hl 4 rfl) ?_
              refine o_rl (cells' := 0) (slots' := 0) G rfl rfl (n_SN (As := [.ref (xa 11), .int (dv 11), .int (dv 13), .int 1]) (rest := []) (host := "EggSpoons") S G (s_ways1 l X (xa 11) v_63 (dv 11) (dv 13) H.size) gX10_stumble_X3_ways_n243 rfl rfl rfl mm_X10_stumble_inX3 G.1.2.2.2.2.2.2.2.2.2.2.2 mm_X10_stumble_stX3_ways hdS_X3_ways ⟨Nat.le_of_ble_eq_true rfl, Nat.le_of_ble_eq_true rfl⟩ [18] rfl rfl rfl hl.1 (Nat.le_of_ble_eq_true rfl) dX10_stumble_100 ⟨Nat.le_of_ble_eq_true rfl, Nat.le_of_ble_eq_true rfl⟩) (fun r_64 u_64 H locs hp_64 G => ?_)
              have G : wd X (va_A (@HAppend.hAppend va_W va_W va_W _ (xW h0 nw sp xa la lb) (@HAppend.hAppend va_W va_W va_W _ (rcV X nw an sv dv n0 n1 n2 n3 n4 g0 gs gn gm) (@HAppend.hAppend va_W va_W va_W _ (odW (xa 11) vo) ([((xa 5), .inl (X.2.1, 3, .inl fr))])))) sz) (va_A (@HAppend.hAppend va_W va_W va_W _ (xW h0 nw sp xa la lb) (@HAppend.hAppend va_W va_W va_W _ (rcV X nw an sv dv n0 n1 n2 n3 n4 g0 gs gn gm) (@HAppend.hAppend va_W va_W va_W _ (odW (xa 11) vo) ([((xa 5), .inl (X.2.1, 3, .inl fr))])))) sz) s (@HAppend.hAppend va_W va_W va_W _ (xW h0 nw sp xa la lb) (@HAppend.hAppend va_W va_W va_W _ (rcV X nw an sv dv n0 n1 n2 n3 n4 g0 gs gn gm) (@HAppend.hAppend va_W va_W va_W _ ([((xa 5), .inl (X.2.1, 3, .inl fr))]) (odW (xa 11) v_63)))) H locs := G
              refine lv_lstore (lv' := [(6, .long r_64), (5, .ref (an 1)), (0, .ref h0), (1, .int 0), (2, .int x2), (3, .int 1), (4, .int x4)]) zx zb dX10_stumble_103 hl (by decide) rfl (fun ls hl => ?_)
              refine lv_iload_n zx zb dX10_stumble_105 rfl (lv_at hl 5 rfl) ?_
              refine o_rl (cells' := 0) (slots' := 0) G rfl rfl (n_S (As := [.int 1]) (rest := []) S G (s_tenTo l X 1 (by omega) H.size) gX10_stumble_X3_tenTo rfl rfl rfl hdS_X3_tenTo ⟨Nat.le_of_ble_eq_true rfl, Nat.le_of_ble_eq_true rfl⟩ [] rfl rfl rfl hl.1 (Nat.le_of_ble_eq_true rfl) dX10_stumble_106 ⟨Nat.le_of_ble_eq_true rfl, Nat.le_of_ble_eq_true rfl⟩) (fun r_65 u_65 H locs hp_65 G => ?_)
              have G : wd X (va_A (@HAppend.hAppend va_W va_W va_W _ (xW h0 nw sp xa la lb) (@HAppend.hAppend va_W va_W va_W _ (rcV X nw an sv dv n0 n1 n2 n3 n4 g0 gs gn gm) (@HAppend.hAppend va_W va_W va_W _ (odW (xa 11) vo) ([((xa 5), .inl (X.2.1, 3, .inl fr))])))) sz) (va_A (@HAppend.hAppend va_W va_W va_W _ (xW h0 nw sp xa la lb) (@HAppend.hAppend va_W va_W va_W _ (rcV X nw an sv dv n0 n1 n2 n3 n4 g0 gs gn gm) (@HAppend.hAppend va_W va_W va_W _ (odW (xa 11) vo) ([((xa 5), .inl (X.2.1, 3, .inl fr))])))) sz) s (@HAppend.hAppend va_W va_W va_W _ (xW h0 nw sp xa la lb) (@HAppend.hAppend va_W va_W va_W _ (rcV X nw an sv dv n0 n1 n2 n3 n4 g0 gs gn gm) (@HAppend.hAppend va_W va_W va_W _ ([((xa 5), .inl (X.2.1, 3, .inl fr))]) (odW (xa 11) v_63)))) H locs := G
              refine lv_lstore (lv' := [(8, .long r_65), (6, .long r_64), (5, .ref (an 1)), (0, .ref h0), (1, .int 0), (2, .int x2), (3, .int 1), (4, .int x4)]) zx zb dX10_stumble_109 hl (by decide) rfl (fun ls hl => ?_)
              refine lv_lload zx zb dX10_stumble_111 (lv_at hl 1 rfl) ?_
              refine lv_lload zx zb dX10_stumble_113 (lv_at hl 0 rfl) ?_
              refine o_rl (cells' := 0) (slots' := 0) G rfl rfl (n_S (As := [.long r_64, .long r_65]) (rest := []) S G (s_commonPart l X r_64 r_65 H.size) gX10_stumble_X3_commonPart rfl rfl rfl hdS_X3_commonPart ⟨Nat.le_of_ble_eq_true rfl, Nat.le_of_ble_eq_true rfl⟩ [] rfl rfl rfl hl.1 (Nat.le_of_ble_eq_true rfl) dX10_stumble_115 ⟨Nat.le_of_ble_eq_true rfl, Nat.le_of_ble_eq_true rfl⟩) (fun r_66 u_66 H locs hp_66 G => ?_)
              have G : wd X (va_A (@HAppend.hAppend va_W va_W va_W _ (xW h0 nw sp xa la lb) (@HAppend.hAppend va_W va_W va_W _ (rcV X nw an sv dv n0 n1 n2 n3 n4 g0 gs gn gm) (@HAppend.hAppend va_W va_W va_W _ (odW (xa 11) vo) ([((xa 5), .inl (X.2.1, 3, .inl fr))])))) sz) (va_A (@HAppend.hAppend va_W va_W va_W _ (xW h0 nw sp xa la lb) (@HAppend.hAppend va_W va_W va_W _ (rcV X nw an sv dv n0 n1 n2 n3 n4 g0 gs gn gm) (@HAppend.hAppend va_W va_W va_W _ (odW (xa 11) vo) ([((xa 5), .inl (X.2.1, 3, .inl fr))])))) sz) s (@HAppend.hAppend va_W va_W va_W _ (xW h0 nw sp xa la lb) (@HAppend.hAppend va_W va_W va_W _ (rcV X nw an sv dv n0 n1 n2 n3 n4 g0 gs gn gm) (@HAppend.hAppend va_W va_W va_W _ ([((xa 5), .inl (X.2.1, 3, .inl fr))]) (odW (xa 11) v_63)))) H locs := G
              refine lv_lstore (lv' := [(10, .long r_66), (8, .long r_65), (6, .long r_64), (5, .ref (an 1)), (0, .ref h0), (1, .int 0), (2, .int x2), (3, .int 1), (4, .int x4)]) zx zb dX10_stumble_118 hl (by decide) rfl (fun ls hl => ?_)
              refine lv_lload zx zb dX10_stumble_120 (lv_at hl 0 rfl) ?_
              refine lv_lconst (v := (Int32.toInt64 0)) zx zb dX10_stumble_122 (by decide) ?_
              refine W.lcmp zx zb dX10_stumble_123 ?_
              refine k_cutW (PP := fun Wx => ∀ (la_68 : Int64) (lb_69 : Int64) (H : Heap) (locs : List Loc) (ls : Array Slot), wd X (va_A (@HAppend.hAppend va_W va_W va_W _ (xW h0 nw sp xa la lb) (@HAppend.hAppend va_W va_W va_W _ (rcV X nw an sv dv n0 n1 n2 n3 n4 g0 gs gn gm) (@HAppend.hAppend va_W va_W va_W _ (odW (xa 11) vo) ([((xa 5), .inl (X.2.1, 3, .inl fr))])))) sz) (va_A (@HAppend.hAppend va_W va_W va_W _ (xW h0 nw sp xa la lb) (@HAppend.hAppend va_W va_W va_W _ (rcV X nw an sv dv n0 n1 n2 n3 n4 g0 gs gn gm) (@HAppend.hAppend va_W va_W va_W _ (odW (xa 11) vo) ([((xa 5), .inl (X.2.1, 3, .inl fr))])))) sz) s (@HAppend.hAppend va_W va_W va_W _ (xW h0 nw sp xa la_68 lb_69) (@HAppend.hAppend va_W va_W va_W _ (rcV X nw an sv dv n0 n1 n2 n3 n4 g0 gs gn gm) (@HAppend.hAppend va_W va_W va_W _ ([((xa 5), .inl (X.2.1, 3, .inl fr))]) (odW (xa 11) v_63)))) H locs → lv_has ls 12 [(10, .long r_66), (8, .long r_65), (6, .long r_64), (5, .ref (an 1)), (0, .ref h0), (1, .int 0), (2, .int x2), (3, .int 1), (4, .int x4)] → Wx (F0 m 145 ls []) H locs) ?_ ?_
              · intro join_124
                refine lv_if_le (tgt := 145) zx zb dX10_stumble_124 (by decide) (fun c_67 => ?_) (fun c_67 => ?_)
                · exact join_124 la lb _ _ _  G hl
                · refine lv_aload_n zx zb dX10_stumble_127 rfl (lv_at hl 4 rfl) ?_
                  refine lv_lload zx zb dX10_stumble_128 (lv_at hl 2 rfl) ?_
                  refine lv_lload zx zb dX10_stumble_130 (lv_at hl 0 rfl) ?_
                  refine lv_ldiv zx zb dX10_stumble_132 (k_lnz2 c_67) ?_
                  refine k_ldE (fun y_70 => ?_)
                  refine r_put (C := RX10) (T := TX10) (N := 14) (ci := 8) (v := .long y_70) S in_X10_stumble_X10 tyX10_ok nmX10 G 0 rfl rfl 6 (by decide) lk_X10_stumble_38 rfl rfl rfl (Nat.le_of_ble_eq_true rfl) dX10_stumble_133 (fun H locs G => ?_)
                  have G : wd X (va_A (@HAppend.hAppend va_W va_W va_W _ (xW h0 nw sp xa la lb) (@HAppend.hAppend va_W va_W va_W _ (rcV X nw an sv dv n0 n1 n2 n3 n4 g0 gs gn gm) (@HAppend.hAppend va_W va_W va_W _ (odW (xa 11) vo) ([((xa 5), .inl (X.2.1, 3, .inl fr))])))) sz) (va_A (@HAppend.hAppend va_W va_W va_W _ (xW h0 nw sp xa la lb) (@HAppend.hAppend va_W va_W va_W _ (rcV X nw an sv dv n0 n1 n2 n3 n4 g0 gs gn gm) (@HAppend.hAppend va_W va_W va_W _ (odW (xa 11) vo) ([((xa 5), .inl (X.2.1, 3, .inl fr))])))) sz) s (@HAppend.hAppend va_W va_W va_W _ (xW h0 nw sp xa y_70 lb) (@HAppend.hAppend va_W va_W va_W _ (rcV X nw an sv dv n0 n1 n2 n3 n4 g0 gs gn gm) (@HAppend.hAppend va_W va_W va_W _ ([((xa 5), .inl (X.2.1, 3, .inl fr))]) (odW (xa 11) v_63)))) H locs := G
                  refine lv_aload_n zx zb dX10_stumble_136 rfl (lv_at hl 4 rfl) ?_
                  refine lv_lload zx zb dX10_stumble_137 (lv_at hl 1 rfl) ?_
                  refine lv_lload zx zb dX10_stumble_139 (lv_at hl 0 rfl) ?_
                  refine lv_ldiv zx zb dX10_stumble_141 (k_lnz2 c_67) ?_
                  refine k_ldE (fun y_71 => ?_)
                  refine r_put (C := RX10) (T := TX10) (N := 14) (ci := 8) (v := .long y_71) S in_X10_stumble_X10 tyX10_ok nmX10 G 0 rfl rfl 7 (by decide) lk_X10_stumble_42 rfl rfl rfl (Nat.le_of_ble_eq_true rfl) dX10_stumble_142 (fun H locs G => ?_)
                  have G : wd X (va_A (@HAppend.hAppend va_W va_W va_W _ (xW h0 nw sp xa la lb) (@HAppend.hAppend va_W va_W va_W _ (rcV X nw an sv dv n0 n1 n2 n3 n4 g0 gs gn gm) (@HAppend.hAppend va_W va_W va_W _ (odW (xa 11) vo) ([((xa 5), .inl (X.2.1, 3, .inl fr))])))) sz) (va_A (@HAppend.hAppend va_W va_W va_W _ (xW h0 nw sp xa la lb) (@HAppend.hAppend va_W va_W va_W _ (rcV X nw an sv dv n0 n1 n2 n3 n4 g0 gs gn gm) (@HAppend.hAppend va_W va_W va_W _ (odW (xa 11) vo) ([((xa 5), .inl (X.2.1, 3, .inl fr))])))) sz) s (@HAppend.hAppend va_W va_W va_W _ (xW h0 nw sp xa y_70 y_71) (@HAppend.hAppend va_W va_W va_W _ (rcV X nw an sv dv n0 n1 n2 n3 n4 g0 gs gn gm) (@HAppend.hAppend va_W va_W va_W _ ([((xa 5), .inl (X.2.1, 3, .inl fr))]) (odW (xa 11) v_63)))) H locs := G
                  exact join_124 y_70 y_71 _ _ _  G hl
              · intro la_68 lb_69 H locs ls  G hl
                refine lv_iconst (v := 1) zx zb dX10_stumble_145 (by decide) ?_
                exact e_int S zr zlk (vp_nar_int _) G (la_68, lb_69, v_63, fr) [0, 1, 2, 3, 4, 5, 6, 7, 8, 9, 10, 11, 12, 13, 14, 15, 16, 18, 17] rfl rfl (Or.inr rfl) ((stuF_p ⟨⟨_, hj_1, rfl⟩, hw_3, hw_5, hw_7⟩).symm) dX10_stumble_146
            · refine k_it (v := 1) rfl ?_
              refine r_aald (C := RX8) (b := (an 2)) S G 2 3 rfl rfl (k_vp (by decide)) rfl dX10_stumble_54 ?_
              refine lv_astore (lv' := [(5, .ref (an 2)), (0, .ref h0), (1, .int 1), (2, .int x2), (3, .int 1), (4, .int x4)]) zx zb dX10_stumble_55 hl (by decide) rfl (fun ls hl => ?_)
              refine lv_aload_n zx zb dX10_stumble_57 rfl (lv_at hl 1 rfl) ?_
              refine r_get (C := RX10) (T := TX10) (N := 14) (ci := 8) (v := .ref (xa 11)) S in_X10_stumble_X10 G 0 rfl rfl 11 (by decide) lk_X10_stumble_65 rfl dX10_stumble_58 ?_
              refine lv_aload zx zb dX10_stumble_61 (lv_at hl 0 rfl) ?_
              refine lv_aload_n zx zb dX10_stumble_63 rfl (lv_at hl 1 rfl) ?_
              refine r_get (C := RX10) (T := TX10) (N := 14) (ci := 8) (v := .ref nw) S in_X10_stumble_X10 G 0 rfl rfl 0 (by decide) lk_X10_stumble_10 rfl dX10_stumble_64 ?_
              refine r_get (C := RX5) (T := TX5) (N := 8) (ci := 3) (v := .int (dv 0)) S in_X10_stumble_X5 G 1 rfl rfl 0 (by decide) lk_X10_stumble_140 rfl dX10_stumble_67 ?_
              refine lv_aload_n zx zb dX10_stumble_70 rfl (lv_at hl 1 rfl) ?_
              refine r_get (C := RX10) (T := TX10) (N := 14) (ci := 8) (v := .ref nw) S in_X10_stumble_X10 G 0 rfl rfl 0 (by decide) lk_X10_stumble_10 rfl dX10_stumble_71 ?_
              refine r_get (C := RX5) (T := TX5) (N := 8) (ci := 3) (v := .int (dv 1)) S in_X10_stumble_X5 G 1 rfl rfl 1 (by decide) lk_X10_stumble_110 rfl dX10_stumble_74 ?_
              refine lv_iload_n zx zb dX10_stumble_77 rfl (lv_at hl 4 rfl) ?_
              refine r_iadd (v := ((dv 1) + 1)) S rfl dX10_stumble_78 ?_
              refine lv_iload_n zx zb dX10_stumble_79 rfl (lv_at hl 3 rfl) ?_
              refine lv_iload zx zb dX10_stumble_80 (lv_at hl 5 rfl) ?_
              refine b_wv (cells' := 0) (slots' := 0) (wr := @HAppend.hAppend va_W va_W va_W _ (xW h0 nw sp xa la lb) (@HAppend.hAppend va_W va_W va_W _ ([(nw, .inr (3, [.int (dv 0), .int (dv 1), .int (nI n0), .ref (an 0), .ref (an 7), .ref (an 9), .ref (an 11), .ref (an 13)])), ((an 0), .inl (X.2.2.2.2, 6, .inr (.inr (.inr (.inr (rowQ an)))))), ((an 1), .inr (6, [.int (sv 0), .int (sv 1), .int (sv 2), .int (dv 10), .int (dv 11), .int (dv 12), .int (dv 13), .int (dv 14)])), ((an 3), .inr (6, [.int (sv 6), .int (sv 7), .int (sv 8), .int (dv 20), .int (dv 21), .int (dv 22), .int (dv 23), .int (dv 24)])), ((an 4), .inr (6, [.int (sv 9), .int (sv 10), .int (sv 11), .int (dv 25), .int (dv 26), .int (dv 27), .int (dv 28), .int (dv 29)])), ((an 5), .inr (6, [.int (sv 12), .int (sv 13), .int (sv 14), .int (dv 30), .int (dv 31), .int (dv 32), .int (dv 33), .int (dv 34)])), ((an 6), .inr (6, [.int (sv 15), .int (sv 16), .int (sv 17), .int (dv 35), .int (dv 36), .int (dv 37), .int (dv 38), .int (dv 39)])), ((an 7), .inr (2, [.ref (an 8), .int (nI n1)])), ((an 8), .inl (X.2.1, 248, .inl g0)), ((an 9), .inr (5, [.int 5, .int 0, .int 1, .ref (an 10), .int (nI n2)])), ((an 10), .inl (X.2.1, 25, .inl gs)), ((an 11), .inr (5, [.int 6, .int 1, .int 1, .ref (an 12), .int (nI n3)])), ((an 12), .inl (X.2.1, 30, .inl gn)), ((an 13), .inr (5, [.int 6, .int 0, .int 0, .ref (an 14), .int (nI n4)])), ((an 14), .inl (X.2.1, 30, .inl gm))]) ([((xa 5), .inl (X.2.1, 3, .inl fr))]))) G rfl rfl [17, 4] [0, 1, 2, 3, 5, 6, 7, 8, 9, 10, 11, 12, 13, 14, 15, 16, 18] rfl rfl rfl rfl (n_V (As := [.ref (an 2), .int (dv 0), .int ((dv 1) + 1), .int x2, .int x4]) (rest := []) (C := RX3) (T := TX3) (N := 8) (ci := 1) S G (s_pose l X (xa 11) vo (an 2) (fun k => sv (3 + k)) (fun k => dv (15 + k)) (dv 0) ((dv 1) + 1) x2 x4 H.size) gX10_stumble_X3_pose rfl rfl rfl hdV_X3_pose ⟨Nat.le_of_ble_eq_true rfl, Nat.le_of_ble_eq_true rfl⟩ [17, 4] rfl rfl 17 rfl rfl rfl hl.1 (Nat.le_of_ble_eq_true rfl) dX10_stumble_82 ⟨Nat.le_of_ble_eq_true rfl, Nat.le_of_ble_eq_true rfl⟩) (fun u_72 H locs hp_72 G => ?_)
              obtain ⟨v_72, rfl⟩ : ∃ z, z = u_72 := ⟨_, rfl⟩
              have hq_72 := hp_72
              have G : wd X (va_A (@HAppend.hAppend va_W va_W va_W _ (xW h0 nw sp xa la lb) (@HAppend.hAppend va_W va_W va_W _ (rcV X nw an sv dv n0 n1 n2 n3 n4 g0 gs gn gm) (@HAppend.hAppend va_W va_W va_W _ (odW (xa 11) vo) ([((xa 5), .inl (X.2.1, 3, .inl fr))])))) sz) (va_A (@HAppend.hAppend va_W va_W va_W _ (xW h0 nw sp xa la lb) (@HAppend.hAppend va_W va_W va_W _ (rcV X nw an sv dv n0 n1 n2 n3 n4 g0 gs gn gm) (@HAppend.hAppend va_W va_W va_W _ (odW (xa 11) vo) ([((xa 5), .inl (X.2.1, 3, .inl fr))])))) sz) s (@HAppend.hAppend va_W va_W va_W _ (xW h0 nw sp xa la lb) (@HAppend.hAppend va_W va_W va_W _ (rcV X nw an sv dv n0 n1 n2 n3 n4 g0 gs gn gm) (@HAppend.hAppend va_W va_W va_W _ ([((xa 5), .inl (X.2.1, 3, .inl fr))]) (odW (xa 11) v_72)))) H locs := wd_sub G [0, 1, 2, 3, 18, 4, 5, 6, 7, 8, 9, 10, 11, 12, 13, 14, 15, 16, 17] rfl rfl
              refine lv_aload_n zx zb dX10_stumble_85 rfl (lv_at hl 1 rfl) ?_
              refine r_get (C := RX10) (T := TX10) (N := 14) (ci := 8) (v := .ref (xa 11)) S in_X10_stumble_X10 G 0 rfl rfl 11 (by decide) lk_X10_stumble_65 rfl dX10_stumble_86 ?_
              refine lv_aload zx zb dX10_stumble_89 (lv_at hl 0 rfl) ?_
              refine r_get (C := RX8) (T := TX8) (N := 8) (ci := 6) (v := .int (dv 16)) S in_X10_stumble_X8 G 4 rfl rfl 4 (by decide) lk_X10_stumble_137 rfl dX10_stumble_91 ?_
              refine lv_aload zx zb dX10_stumble_94 (lv_at hl 0 rfl) ?_
              refine r_get (C := RX8) (T := TX8) (N := 8) (ci := 6) (v := .int (dv 18)) S in_X10_stumble_X8 G 4 rfl rfl 6 (by decide) lk_X10_stumble_240 rfl dX10_stumble_96 ?_
              refine lv_iload_n zx zb dX10_stumble_99 rfl (lv_at hl 4 rfl) ?_
              refine o_rl (cells' := 0) (slots' := 0) G rfl rfl (n_SN (As := [.ref (xa 11), .int (dv 16), .int (dv 18), .int 1]) (rest := []) (host := "EggSpoons") S G (s_ways1 l X (xa 11) v_72 (dv 16) (dv 18) H.size) gX10_stumble_X3_ways_n243 rfl rfl rfl mm_X10_stumble_inX3 G.1.2.2.2.2.2.2.2.2.2.2.2 mm_X10_stumble_stX3_ways hdS_X3_ways ⟨Nat.le_of_ble_eq_true rfl, Nat.le_of_ble_eq_true rfl⟩ [18] rfl rfl rfl hl.1 (Nat.le_of_ble_eq_true rfl) dX10_stumble_100 ⟨Nat.le_of_ble_eq_true rfl, Nat.le_of_ble_eq_true rfl⟩) (fun r_73 u_73 H locs hp_73 G => ?_)
              have G : wd X (va_A (@HAppend.hAppend va_W va_W va_W _ (xW h0 nw sp xa la lb) (@HAppend.hAppend va_W va_W va_W _ (rcV X nw an sv dv n0 n1 n2 n3 n4 g0 gs gn gm) (@HAppend.hAppend va_W va_W va_W _ (odW (xa 11) vo) ([((xa 5), .inl (X.2.1, 3, .inl fr))])))) sz) (va_A (@HAppend.hAppend va_W va_W va_W _ (xW h0 nw sp xa la lb) (@HAppend.hAppend va_W va_W va_W _ (rcV X nw an sv dv n0 n1 n2 n3 n4 g0 gs gn gm) (@HAppend.hAppend va_W va_W va_W _ (odW (xa 11) vo) ([((xa 5), .inl (X.2.1, 3, .inl fr))])))) sz) s (@HAppend.hAppend va_W va_W va_W _ (xW h0 nw sp xa la lb) (@HAppend.hAppend va_W va_W va_W _ (rcV X nw an sv dv n0 n1 n2 n3 n4 g0 gs gn gm) (@HAppend.hAppend va_W va_W va_W _ ([((xa 5), .inl (X.2.1, 3, .inl fr))]) (odW (xa 11) v_72)))) H locs := G
              refine lv_lstore (lv' := [(6, .long r_73), (5, .ref (an 2)), (0, .ref h0), (1, .int 1), (2, .int x2), (3, .int 1), (4, .int x4)]) zx zb dX10_stumble_103 hl (by decide) rfl (fun ls hl => ?_)
              refine lv_iload_n zx zb dX10_stumble_105 rfl (lv_at hl 5 rfl) ?_
              refine o_rl (cells' := 0) (slots' := 0) G rfl rfl (n_S (As := [.int 1]) (rest := []) S G (s_tenTo l X 1 (by omega) H.size) gX10_stumble_X3_tenTo rfl rfl rfl hdS_X3_tenTo ⟨Nat.le_of_ble_eq_true rfl, Nat.le_of_ble_eq_true rfl⟩ [] rfl rfl rfl hl.1 (Nat.le_of_ble_eq_true rfl) dX10_stumble_106 ⟨Nat.le_of_ble_eq_true rfl, Nat.le_of_ble_eq_true rfl⟩) (fun r_74 u_74 H locs hp_74 G => ?_)
              have G : wd X (va_A (@HAppend.hAppend va_W va_W va_W _ (xW h0 nw sp xa la lb) (@HAppend.hAppend va_W va_W va_W _ (rcV X nw an sv dv n0 n1 n2 n3 n4 g0 gs gn gm) (@HAppend.hAppend va_W va_W va_W _ (odW (xa 11) vo) ([((xa 5), .inl (X.2.1, 3, .inl fr))])))) sz) (va_A (@HAppend.hAppend va_W va_W va_W _ (xW h0 nw sp xa la lb) (@HAppend.hAppend va_W va_W va_W _ (rcV X nw an sv dv n0 n1 n2 n3 n4 g0 gs gn gm) (@HAppend.hAppend va_W va_W va_W _ (odW (xa 11) vo) ([((xa 5), .inl (X.2.1, 3, .inl fr))])))) sz) s (@HAppend.hAppend va_W va_W va_W _ (xW h0 nw sp xa la lb) (@HAppend.hAppend va_W va_W va_W _ (rcV X nw an sv dv n0 n1 n2 n3 n4 g0 gs gn gm) (@HAppend.hAppend va_W va_W va_W _ ([((xa 5), .inl (X.2.1, 3, .inl fr))]) (odW (xa 11) v_72)))) H locs := G
              refine lv_lstore (lv' := [(8, .long r_74), (6, .long r_73), (5, .ref (an 2)), (0, .ref h0), (1, .int 1), (2, .int x2), (3, .int 1), (4, .int x4)]) zx zb dX10_stumble_109 hl (by decide) rfl (fun ls hl => ?_)
              refine lv_lload zx zb dX10_stumble_111 (lv_at hl 1 rfl) ?_
              refine lv_lload zx zb dX10_stumble_113 (lv_at hl 0 rfl) ?_
              refine o_rl (cells' := 0) (slots' := 0) G rfl rfl (n_S (As := [.long r_73, .long r_74]) (rest := []) S G (s_commonPart l X r_73 r_74 H.size) gX10_stumble_X3_commonPart rfl rfl rfl hdS_X3_commonPart ⟨Nat.le_of_ble_eq_true rfl, Nat.le_of_ble_eq_true rfl⟩ [] rfl rfl rfl hl.1 (Nat.le_of_ble_eq_true rfl) dX10_stumble_115 ⟨Nat.le_of_ble_eq_true rfl, Nat.le_of_ble_eq_true rfl⟩) (fun r_75 u_75 H locs hp_75 G => ?_)
              have G : wd X (va_A (@HAppend.hAppend va_W va_W va_W _ (xW h0 nw sp xa la lb) (@HAppend.hAppend va_W va_W va_W _ (rcV X nw an sv dv n0 n1 n2 n3 n4 g0 gs gn gm) (@HAppend.hAppend va_W va_W va_W _ (odW (xa 11) vo) ([((xa 5), .inl (X.2.1, 3, .inl fr))])))) sz) (va_A (@HAppend.hAppend va_W va_W va_W _ (xW h0 nw sp xa la lb) (@HAppend.hAppend va_W va_W va_W _ (rcV X nw an sv dv n0 n1 n2 n3 n4 g0 gs gn gm) (@HAppend.hAppend va_W va_W va_W _ (odW (xa 11) vo) ([((xa 5), .inl (X.2.1, 3, .inl fr))])))) sz) s (@HAppend.hAppend va_W va_W va_W _ (xW h0 nw sp xa la lb) (@HAppend.hAppend va_W va_W va_W _ (rcV X nw an sv dv n0 n1 n2 n3 n4 g0 gs gn gm) (@HAppend.hAppend va_W va_W va_W _ ([((xa 5), .inl (X.2.1, 3, .inl fr))]) (odW (xa 11) v_72)))) H locs := G
              refine lv_lstore (lv' := [(10, .long r_75), (8, .long r_74), (6, .long r_73), (5, .ref (an 2)), (0, .ref h0), (1, .int 1), (2, .int x2), (3, .int 1), (4, .int x4)]) zx zb dX10_stumble_118 hl (by decide) rfl (fun ls hl => ?_)
              refine lv_lload zx zb dX10_stumble_120 (lv_at hl 0 rfl) ?_
              refine lv_lconst (v := (Int32.toInt64 0)) zx zb dX10_stumble_122 (by decide) ?_
              refine W.lcmp zx zb dX10_stumble_123 ?_
              refine k_cutW (PP := fun Wx => ∀ (la_77 : Int64) (lb_78 : Int64) (H : Heap) (locs : List Loc) (ls : Array Slot), wd X (va_A (@HAppend.hAppend va_W va_W va_W _ (xW h0 nw sp xa la lb) (@HAppend.hAppend va_W va_W va_W _ (rcV X nw an sv dv n0 n1 n2 n3 n4 g0 gs gn gm) (@HAppend.hAppend va_W va_W va_W _ (odW (xa 11) vo) ([((xa 5), .inl (X.2.1, 3, .inl fr))])))) sz) (va_A (@HAppend.hAppend va_W va_W va_W _ (xW h0 nw sp xa la lb) (@HAppend.hAppend va_W va_W va_W _ (rcV X nw an sv dv n0 n1 n2 n3 n4 g0 gs gn gm) (@HAppend.hAppend va_W va_W va_W _ (odW (xa 11) vo) ([((xa 5), .inl (X.2.1, 3, .inl fr))])))) sz) s (@HAppend.hAppend va_W va_W va_W _ (xW h0 nw sp xa la_77 lb_78) (@HAppend.hAppend va_W va_W va_W _ (rcV X nw an sv dv n0 n1 n2 n3 n4 g0 gs gn gm) (@HAppend.hAppend va_W va_W va_W _ ([((xa 5), .inl (X.2.1, 3, .inl fr))]) (odW (xa 11) v_72)))) H locs → lv_has ls 12 [(10, .long r_75), (8, .long r_74), (6, .long r_73), (5, .ref (an 2)), (0, .ref h0), (1, .int 1), (2, .int x2), (3, .int 1), (4, .int x4)] → Wx (F0 m 145 ls []) H locs) ?_ ?_
              · intro join_124
                refine lv_if_le (tgt := 145) zx zb dX10_stumble_124 (by decide) (fun c_76 => ?_) (fun c_76 => ?_)
                · exact join_124 la lb _ _ _  G hl
                · refine lv_aload_n zx zb dX10_stumble_127 rfl (lv_at hl 4 rfl) ?_
                  refine lv_lload zx zb dX10_stumble_128 (lv_at hl 2 rfl) ?_
                  refine lv_lload zx zb dX10_stumble_130 (lv_at hl 0 rfl) ?_
                  refine lv_ldiv zx zb dX10_stumble_132 (k_lnz2 c_76) ?_
                  refine k_ldE (fun y_79 => ?_)
                  refine r_put (C := RX10) (T := TX10) (N := 14) (ci := 8) (v := .long y_79) S in_X10_stumble_X10 tyX10_ok nmX10 G 0 rfl rfl 6 (by decide) lk_X10_stumble_38 rfl rfl rfl (Nat.le_of_ble_eq_true rfl) dX10_stumble_133 (fun H locs G => ?_)
                  have G : wd X (va_A (@HAppend.hAppend va_W va_W va_W _ (xW h0 nw sp xa la lb) (@HAppend.hAppend va_W va_W va_W _ (rcV X nw an sv dv n0 n1 n2 n3 n4 g0 gs gn gm) (@HAppend.hAppend va_W va_W va_W _ (odW (xa 11) vo) ([((xa 5), .inl (X.2.1, 3, .inl fr))])))) sz) (va_A (@HAppend.hAppend va_W va_W va_W _ (xW h0 nw sp xa la lb) (@HAppend.hAppend va_W va_W va_W _ (rcV X nw an sv dv n0 n1 n2 n3 n4 g0 gs gn gm) (@HAppend.hAppend va_W va_W va_W _ (odW (xa 11) vo) ([((xa 5), .inl (X.2.1, 3, .inl fr))])))) sz) s (@HAppend.hAppend va_W va_W va_W _ (xW h0 nw sp xa y_79 lb) (@HAppend.hAppend va_W va_W va_W _ (rcV X nw an sv dv n0 n1 n2 n3 n4 g0 gs gn gm) (@HAppend.hAppend va_W va_W va_W _ ([((xa 5), .inl (X.2.1, 3, .inl fr))]) (odW (xa 11) v_72)))) H locs := G
                  refine lv_aload_n zx zb dX10_stumble_136 rfl (lv_at hl 4 rfl) ?_
                  refine lv_lload zx zb dX10_stumble_137 (lv_at hl 1 rfl) ?_
                  refine lv_lload zx zb dX10_stumble_139 (lv_at hl 0 rfl) ?_
                  refine lv_ldiv zx zb dX10_stumble_141 (k_lnz2 c_76) ?_
                  refine k_ldE (fun y_80 => ?_)
                  refine r_put (C := RX10) (T := TX10) (N := 14) (ci := 8) (v := .long y_80) S in_X10_stumble_X10 tyX10_ok nmX10 G 0 rfl rfl 7 (by decide) lk_X10_stumble_42 rfl rfl rfl (Nat.le_of_ble_eq_true rfl) dX10_stumble_142 (fun H locs G => ?_)
                  have G : wd X (va_A (@HAppend.hAppend va_W va_W va_W _ (xW h0 nw sp xa la lb) (@HAppend.hAppend va_W va_W va_W _ (rcV X nw an sv dv n0 n1 n2 n3 n4 g0 gs gn gm) (@HAppend.hAppend va_W va_W va_W _ (odW (xa 11) vo) ([((xa 5), .inl (X.2.1, 3, .inl fr))])))) sz) (va_A (@HAppend.hAppend va_W va_W va_W _ (xW h0 nw sp xa la lb) (@HAppend.hAppend va_W va_W va_W _ (rcV X nw an sv dv n0 n1 n2 n3 n4 g0 gs gn gm) (@HAppend.hAppend va_W va_W va_W _ (odW (xa 11) vo) ([((xa 5), .inl (X.2.1, 3, .inl fr))])))) sz) s (@HAppend.hAppend va_W va_W va_W _ (xW h0 nw sp xa y_79 y_80) (@HAppend.hAppend va_W va_W va_W _ (rcV X nw an sv dv n0 n1 n2 n3 n4 g0 gs gn gm) (@HAppend.hAppend va_W va_W va_W _ ([((xa 5), .inl (X.2.1, 3, .inl fr))]) (odW (xa 11) v_72)))) H locs := G
                  exact join_124 y_79 y_80 _ _ _  G hl
              · intro la_77 lb_78 H locs ls  G hl
                refine lv_iconst (v := 1) zx zb dX10_stumble_145 (by decide) ?_
                exact e_int S zr zlk (vp_nar_int _) G (la_77, lb_78, v_72, fr) [0, 1, 2, 3, 4, 5, 6, 7, 8, 9, 10, 11, 12, 13, 14, 15, 16, 18, 17] rfl rfl (Or.inr rfl) ((stuF_p ⟨⟨_, hj_1, rfl⟩, hw_3, hw_5, hw_7⟩).symm) dX10_stumble_146
            · refine k_it (v := 2) rfl ?_
              refine r_aald (C := RX8) (b := (an 3)) S G 2 3 rfl rfl (k_vp (by decide)) rfl dX10_stumble_54 ?_
              refine lv_astore (lv' := [(5, .ref (an 3)), (0, .ref h0), (1, .int 2), (2, .int x2), (3, .int 1), (4, .int x4)]) zx zb dX10_stumble_55 hl (by decide) rfl (fun ls hl => ?_)
              refine lv_aload_n zx zb dX10_stumble_57 rfl (lv_at hl 1 rfl) ?_
              refine r_get (C := RX10) (T := TX10) (N := 14) (ci := 8) (v := .ref (xa 11)) S in_X10_stumble_X10 G 0 rfl rfl 11 (by decide) lk_X10_stumble_65 rfl dX10_stumble_58 ?_
              refine lv_aload zx zb dX10_stumble_61 (lv_at hl 0 rfl) ?_
              refine lv_aload_n zx zb dX10_stumble_63 rfl (lv_at hl 1 rfl) ?_
              refine r_get (C := RX10) (T := TX10) (N := 14) (ci := 8) (v := .ref nw) S in_X10_stumble_X10 G 0 rfl rfl 0 (by decide) lk_X10_stumble_10 rfl dX10_stumble_64 ?_
              refine r_get (C := RX5) (T := TX5) (N := 8) (ci := 3) (v := .int (dv 0)) S in_X10_stumble_X5 G 1 rfl rfl 0 (by decide) lk_X10_stumble_140 rfl dX10_stumble_67 ?_
              refine lv_aload_n zx zb dX10_stumble_70 rfl (lv_at hl 1 rfl) ?_
              refine r_get (C := RX10) (T := TX10) (N := 14) (ci := 8) (v := .ref nw) S in_X10_stumble_X10 G 0 rfl rfl 0 (by decide) lk_X10_stumble_10 rfl dX10_stumble_71 ?_
              refine r_get (C := RX5) (T := TX5) (N := 8) (ci := 3) (v := .int (dv 1)) S in_X10_stumble_X5 G 1 rfl rfl 1 (by decide) lk_X10_stumble_110 rfl dX10_stumble_74 ?_
              refine lv_iload_n zx zb dX10_stumble_77 rfl (lv_at hl 4 rfl) ?_
              refine r_iadd (v := ((dv 1) + 1)) S rfl dX10_stumble_78 ?_
              refine lv_iload_n zx zb dX10_stumble_79 rfl (lv_at hl 3 rfl) ?_
              refine lv_iload zx zb dX10_stumble_80 (lv_at hl 5 rfl) ?_
              refine b_wv (cells' := 0) (slots' := 0) (wr := @HAppend.hAppend va_W va_W va_W _ (xW h0 nw sp xa la lb) (@HAppend.hAppend va_W va_W va_W _ ([(nw, .inr (3, [.int (dv 0), .int (dv 1), .int (nI n0), .ref (an 0), .ref (an 7), .ref (an 9), .ref (an 11), .ref (an 13)])), ((an 0), .inl (X.2.2.2.2, 6, .inr (.inr (.inr (.inr (rowQ an)))))), ((an 1), .inr (6, [.int (sv 0), .int (sv 1), .int (sv 2), .int (dv 10), .int (dv 11), .int (dv 12), .int (dv 13), .int (dv 14)])), ((an 2), .inr (6, [.int (sv 3), .int (sv 4), .int (sv 5), .int (dv 15), .int (dv 16), .int (dv 17), .int (dv 18), .int (dv 19)])), ((an 4), .inr (6, [.int (sv 9), .int (sv 10), .int (sv 11), .int (dv 25), .int (dv 26), .int (dv 27), .int (dv 28), .int (dv 29)])), ((an 5), .inr (6, [.int (sv 12), .int (sv 13), .int (sv 14), .int (dv 30), .int (dv 31), .int (dv 32), .int (dv 33), .int (dv 34)])), ((an 6), .inr (6, [.int (sv 15), .int (sv 16), .int (sv 17), .int (dv 35), .int (dv 36), .int (dv 37), .int (dv 38), .int (dv 39)])), ((an 7), .inr (2, [.ref (an 8), .int (nI n1)])), ((an 8), .inl (X.2.1, 248, .inl g0)), ((an 9), .inr (5, [.int 5, .int 0, .int 1, .ref (an 10), .int (nI n2)])), ((an 10), .inl (X.2.1, 25, .inl gs)), ((an 11), .inr (5, [.int 6, .int 1, .int 1, .ref (an 12), .int (nI n3)])), ((an 12), .inl (X.2.1, 30, .inl gn)), ((an 13), .inr (5, [.int 6, .int 0, .int 0, .ref (an 14), .int (nI n4)])), ((an 14), .inl (X.2.1, 30, .inl gm))]) ([((xa 5), .inl (X.2.1, 3, .inl fr))]))) G rfl rfl [17, 5] [0, 1, 2, 3, 4, 6, 7, 8, 9, 10, 11, 12, 13, 14, 15, 16, 18] rfl rfl rfl rfl (n_V (As := [.ref (an 3), .int (dv 0), .int ((dv 1) + 1), .int x2, .int x4]) (rest := []) (C := RX3) (T := TX3) (N := 8) (ci := 1) S G (s_pose l X (xa 11) vo (an 3) (fun k => sv (6 + k)) (fun k => dv (20 + k)) (dv 0) ((dv 1) + 1) x2 x4 H.size) gX10_stumble_X3_pose rfl rfl rfl hdV_X3_pose ⟨Nat.le_of_ble_eq_true rfl, Nat.le_of_ble_eq_true rfl⟩ [17, 5] rfl rfl 17 rfl rfl rfl hl.1 (Nat.le_of_ble_eq_true rfl) dX10_stumble_82 ⟨Nat.le_of_ble_eq_true rfl, Nat.le_of_ble_eq_true rfl⟩) (fun u_81 H locs hp_81 G => ?_)
              obtain ⟨v_81, rfl⟩ : ∃ z, z = u_81 := ⟨_, rfl⟩
              have hq_81 := hp_81
              have G : wd X (va_A (@HAppend.hAppend va_W va_W va_W _ (xW h0 nw sp xa la lb) (@HAppend.hAppend va_W va_W va_W _ (rcV X nw an sv dv n0 n1 n2 n3 n4 g0 gs gn gm) (@HAppend.hAppend va_W va_W va_W _ (odW (xa 11) vo) ([((xa 5), .inl (X.2.1, 3, .inl fr))])))) sz) (va_A (@HAppend.hAppend va_W va_W va_W _ (xW h0 nw sp xa la lb) (@HAppend.hAppend va_W va_W va_W _ (rcV X nw an sv dv n0 n1 n2 n3 n4 g0 gs gn gm) (@HAppend.hAppend va_W va_W va_W _ (odW (xa 11) vo) ([((xa 5), .inl (X.2.1, 3, .inl fr))])))) sz) s (@HAppend.hAppend va_W va_W va_W _ (xW h0 nw sp xa la lb) (@HAppend.hAppend va_W va_W va_W _ (rcV X nw an sv dv n0 n1 n2 n3 n4 g0 gs gn gm) (@HAppend.hAppend va_W va_W va_W _ ([((xa 5), .inl (X.2.1, 3, .inl fr))]) (odW (xa 11) v_81)))) H locs := wd_sub G [0, 1, 2, 3, 4, 18, 5, 6, 7, 8, 9, 10, 11, 12, 13, 14, 15, 16, 17] rfl rfl
              refine lv_aload_n zx zb dX10_stumble_85 rfl (lv_at hl 1 rfl) ?_
              refine r_get (C := RX10) (T := TX10) (N := 14) (ci := 8) (v := .ref (xa 11)) S in_X10_stumble_X10 G 0 rfl rfl 11 (by decide) lk_X10_stumble_65 rfl dX10_stumble_86 ?_
              refine lv_aload zx zb dX10_stumble_89 (lv_at hl 0 rfl) ?_
              refine r_get (C := RX8) (T := TX8) (N := 8) (ci := 6) (v := .int (dv 21)) S in_X10_stumble_X8 G 5 rfl rfl 4 (by decide) lk_X10_stumble_137 rfl dX10_stumble_91 ?_
              refine lv_aload zx zb dX10_stumble_94 (lv_at hl 0 rfl) ?_
              refine r_get (C := RX8) (T := TX8) (N := 8) (ci := 6) (v := .int (dv 23)) S in_X10_stumble_X8 G 5 rfl rfl 6 (by decide) lk_X10_stumble_240 rfl dX10_stumble_96 ?_
              refine lv_iload_n zx zb dX10_stumble_99 rfl (lv_at hl 4 rfl) ?_
              refine o_rl (cells' := 0) (slots' := 0) G rfl rfl (n_SN (As := [.ref (xa 11), .int (dv 21), .int (dv 23), .int 1]) (rest := []) (host := "EggSpoons") S G (s_ways1 l X (xa 11) v_81 (dv 21) (dv 23) H.size) gX10_stumble_X3_ways_n243 rfl rfl rfl mm_X10_stumble_inX3 G.1.2.2.2.2.2.2.2.2.2.2.2 mm_X10_stumble_stX3_ways hdS_X3_ways ⟨Nat.le_of_ble_eq_true rfl, Nat.le_of_ble_eq_true rfl⟩ [18] rfl rfl rfl hl.1 (Nat.le_of_ble_eq_true rfl) dX10_stumble_100 ⟨Nat.le_of_ble_eq_true rfl, Nat.le_of_ble_eq_true rfl⟩) (fun r_82 u_82 H locs hp_82 G => ?_)
              have G : wd X (va_A (@HAppend.hAppend va_W va_W va_W _ (xW h0 nw sp xa la lb) (@HAppend.hAppend va_W va_W va_W _ (rcV X nw an sv dv n0 n1 n2 n3 n4 g0 gs gn gm) (@HAppend.hAppend va_W va_W va_W _ (odW (xa 11) vo) ([((xa 5), .inl (X.2.1, 3, .inl fr))])))) sz) (va_A (@HAppend.hAppend va_W va_W va_W _ (xW h0 nw sp xa la lb) (@HAppend.hAppend va_W va_W va_W _ (rcV X nw an sv dv n0 n1 n2 n3 n4 g0 gs gn gm) (@HAppend.hAppend va_W va_W va_W _ (odW (xa 11) vo) ([((xa 5), .inl (X.2.1, 3, .inl fr))])))) sz) s (@HAppend.hAppend va_W va_W va_W _ (xW h0 nw sp xa la lb) (@HAppend.hAppend va_W va_W va_W _ (rcV X nw an sv dv n0 n1 n2 n3 n4 g0 gs gn gm) (@HAppend.hAppend va_W va_W va_W _ ([((xa 5), .inl (X.2.1, 3, .inl fr))]) (odW (xa 11) v_81)))) H locs := G
              refine lv_lstore (lv' := [(6, .long r_82), (5, .ref (an 3)), (0, .ref h0), (1, .int 2), (2, .int x2), (3, .int 1), (4, .int x4)]) zx zb dX10_stumble_103 hl (by decide) rfl (fun ls hl => ?_)
              refine lv_iload_n zx zb dX10_stumble_105 rfl (lv_at hl 5 rfl) ?_
              refine o_rl (cells' := 0) (slots' := 0) G rfl rfl (n_S (As := [.int 1]) (rest := []) S G (s_tenTo l X 1 (by omega) H.size) gX10_stumble_X3_tenTo rfl rfl rfl hdS_X3_tenTo ⟨Nat.le_of_ble_eq_true rfl, Nat.le_of_ble_eq_true rfl⟩ [] rfl rfl rfl hl.1 (Nat.le_of_ble_eq_true rfl) dX10_stumble_106 ⟨Nat.le_of_ble_eq_true rfl, Nat.le_of_ble_eq_true rfl⟩) (fun r_83 u_83 H locs hp_83 G => ?_)
              have G : wd X (va_A (@HAppend.hAppend va_W va_W va_W _ (xW h0 nw sp xa la lb) (@HAppend.hAppend va_W va_W va_W _ (rcV X nw an sv dv n0 n1 n2 n3 n4 g0 gs gn gm) (@HAppend.hAppend va_W va_W va_W _ (odW (xa 11) vo) ([((xa 5), .inl (X.2.1, 3, .inl fr))])))) sz) (va_A (@HAppend.hAppend va_W va_W va_W _ (xW h0 nw sp xa la lb) (@HAppend.hAppend va_W va_W va_W _ (rcV X nw an sv dv n0 n1 n2 n3 n4 g0 gs gn gm) (@HAppend.hAppend va_W va_W va_W _ (odW (xa 11) vo) ([((xa 5), .inl (X.2.1, 3, .inl fr))])))) sz) s (@HAppend.hAppend va_W va_W va_W _ (xW h0 nw sp xa la lb) (@HAppend.hAppend va_W va_W va_W _ (rcV X nw an sv dv n0 n1 n2 n3 n4 g0 gs gn gm) (@HAppend.hAppend va_W va_W va_W _ ([((xa 5), .inl (X.2.1, 3, .inl fr))]) (odW (xa 11) v_81)))) H locs := G
              refine lv_lstore (lv' := [(8, .long r_83), (6, .long r_82), (5, .ref (an 3)), (0, .ref h0), (1, .int 2), (2, .int x2), (3, .int 1), (4, .int x4)]) zx zb dX10_stumble_109 hl (by decide) rfl (fun ls hl => ?_)
              refine lv_lload zx zb dX10_stumble_111 (lv_at hl 1 rfl) ?_
              refine lv_lload zx zb dX10_stumble_113 (lv_at hl 0 rfl) ?_
              refine o_rl (cells' := 0) (slots' := 0) G rfl rfl (n_S (As := [.long r_82, .long r_83]) (rest := []) S G (s_commonPart l X r_82 r_83 H.size) gX10_stumble_X3_commonPart rfl rfl rfl hdS_X3_commonPart ⟨Nat.le_of_ble_eq_true rfl, Nat.le_of_ble_eq_true rfl⟩ [] rfl rfl rfl hl.1 (Nat.le_of_ble_eq_true rfl) dX10_stumble_115 ⟨Nat.le_of_ble_eq_true rfl, Nat.le_of_ble_eq_true rfl⟩) (fun r_84 u_84 H locs hp_84 G => ?_)
              have G : wd X (va_A (@HAppend.hAppend va_W va_W va_W _ (xW h0 nw sp xa la lb) (@HAppend.hAppend va_W va_W va_W _ (rcV X nw an sv dv n0 n1 n2 n3 n4 g0 gs gn gm) (@HAppend.hAppend va_W va_W va_W _ (odW (xa 11) vo) ([((xa 5), .inl (X.2.1, 3, .inl fr))])))) sz) (va_A (@HAppend.hAppend va_W va_W va_W _ (xW h0 nw sp xa la lb) (@HAppend.hAppend va_W va_W va_W _ (rcV X nw an sv dv n0 n1 n2 n3 n4 g0 gs gn gm) (@HAppend.hAppend va_W va_W va_W _ (odW (xa 11) vo) ([((xa 5), .inl (X.2.1, 3, .inl fr))])))) sz) s (@HAppend.hAppend va_W va_W va_W _ (xW h0 nw sp xa la lb) (@HAppend.hAppend va_W va_W va_W _ (rcV X nw an sv dv n0 n1 n2 n3 n4 g0 gs gn gm) (@HAppend.hAppend va_W va_W va_W _ ([((xa 5), .inl (X.2.1, 3, .inl fr))]) (odW (xa 11) v_81)))) H locs := G
              refine lv_lstore (lv' := [(10, .long r_84), (8, .long r_83), (6, .long r_82), (5, .ref (an 3)), (0, .ref h0), (1, .int 2), (2, .int x2), (3, .int 1), (4, .int x4)]) zx zb dX10_stumble_118 hl (by decide) rfl (fun ls hl => ?_)
              refine lv_lload zx zb dX10_stumble_120 (lv_at hl 0 rfl) ?_
              refine lv_lconst (v := (Int32.toInt64 0)) zx zb dX10_stumble_122 (by decide) ?_
              refine W.lcmp zx zb dX10_stumble_123 ?_
              refine k_cutW (PP := fun Wx => ∀ (la_86 : Int64) (lb_87 : Int64) (H : Heap) (locs : List Loc) (ls : Array Slot), wd X (va_A (@HAppend.hAppend va_W va_W va_W _ (xW h0 nw sp xa la lb) (@HAppend.hAppend va_W va_W va_W _ (rcV X nw an sv dv n0 n1 n2 n3 n4 g0 gs gn gm) (@HAppend.hAppend va_W va_W va_W _ (odW (xa 11) vo) ([((xa 5), .inl (X.2.1, 3, .inl fr))])))) sz) (va_A (@HAppend.hAppend va_W va_W va_W _ (xW h0 nw sp xa la lb) (@HAppend.hAppend va_W va_W va_W _ (rcV X nw an sv dv n0 n1 n2 n3 n4 g0 gs gn gm) (@HAppend.hAppend va_W va_W va_W _ (odW (xa 11) vo) ([((xa 5), .inl (X.2.1, 3, .inl fr))])))) sz) s (@HAppend.hAppend va_W va_W va_W _ (xW h0 nw sp xa la_86 lb_87) (@HAppend.hAppend va_W va_W va_W _ (rcV X nw an sv dv n0 n1 n2 n3 n4 g0 gs gn gm) (@HAppend.hAppend va_W va_W va_W _ ([((xa 5), .inl (X.2.1, 3, .inl fr))]) (odW (xa 11) v_81)))) H locs → lv_has ls 12 [(10, .long r_84), (8, .long r_83), (6, .long r_82), (5, .ref (an 3)), (0, .ref h0), (1, .int 2), (2, .int x2), (3, .int 1), (4, .int x4)] → Wx (F0 m 145 ls []) H locs) ?_ ?_
              · intro join_124
                refine lv_if_le (tgt := 145) zx zb dX10_stumble_124 (by decide) (fun c_85 => ?_) (fun c_85 => ?_)
                · exact join_124 la lb _ _ _  G hl
                · refine lv_aload_n zx zb dX10_stumble_127 rfl (lv_at hl 4 rfl) ?_
                  refine lv_lload zx zb dX10_stumble_128 (lv_at hl 2 rfl) ?_
                  refine lv_lload zx zb dX10_stumble_130 (lv_at hl 0 rfl) ?_
                  refine lv_ldiv zx zb dX10_stumble_132 (k_lnz2 c_85) ?_
                  refine k_ldE (fun y_88 => ?_)
                  refine r_put (C := RX10) (T := TX10) (N := 14) (ci := 8) (v := .long y_88) S in_X10_stumble_X10 tyX10_ok nmX10 G 0 rfl rfl 6 (by decide) lk_X10_stumble_38 rfl rfl rfl (Nat.le_of_ble_eq_true rfl) dX10_stumble_133 (fun H locs G => ?_)
                  have G : wd X (va_A (@HAppend.hAppend va_W va_W va_W _ (xW h0 nw sp xa la lb) (@HAppend.hAppend va_W va_W va_W _ (rcV X nw an sv dv n0 n1 n2 n3 n4 g0 gs gn gm) (@HAppend.hAppend va_W va_W va_W _ (odW (xa 11) vo) ([((xa 5), .inl (X.2.1, 3, .inl fr))])))) sz) (va_A (@HAppend.hAppend va_W va_W va_W _ (xW h0 nw sp xa la lb) (@HAppend.hAppend va_W va_W va_W _ (rcV X nw an sv dv n0 n1 n2 n3 n4 g0 gs gn gm) (@HAppend.hAppend va_W va_W va_W _ (odW (xa 11) vo) ([((xa 5), .inl (X.2.1, 3, .inl fr))])))) sz) s (@HAppend.hAppend va_W va_W va_W _ (xW h0 nw sp xa y_88 lb) (@HAppend.hAppend va_W va_W va_W _ (rcV X nw an sv dv n0 n1 n2 n3 n4 g0 gs gn gm) (@HAppend.hAppend va_W va_W va_W _ ([((xa 5), .inl (X.2.1, 3, .inl fr))]) (odW (xa 11) v_81)))) H locs := G
                  refine lv_aload_n zx zb dX10_stumble_136 rfl (lv_at hl 4 rfl) ?_
                  refine lv_lload zx zb dX10_stumble_137 (lv_at hl 1 rfl) ?_
                  refine lv_lload zx zb dX10_stumble_139 (lv_at hl 0 rfl) ?_
                  refine lv_ldiv zx zb dX10_stumble_141 (k_lnz2 c_85) ?_
                  refine k_ldE (fun y_89 => ?_)
                  refine r_put (C := RX10) (T := TX10) (N := 14) (ci := 8) (v := .long y_89) S in_X10_stumble_X10 tyX10_ok nmX10 G 0 rfl rfl 7 (by decide) lk_X10_stumble_42 rfl rfl rfl (Nat.le_of_ble_eq_true rfl) dX10_stumble_142 (fun H locs G => ?_)
                  have G : wd X (va_A (@HAppend.hAppend va_W va_W va_W _ (xW h0 nw sp xa la lb) (@HAppend.hAppend va_W va_W va_W _ (rcV X nw an sv dv n0 n1 n2 n3 n4 g0 gs gn gm) (@HAppend.hAppend va_W va_W va_W _ (odW (xa 11) vo) ([((xa 5), .inl (X.2.1, 3, .inl fr))])))) sz) (va_A (@HAppend.hAppend va_W va_W va_W _ (xW h0 nw sp xa la lb) (@HAppend.hAppend va_W va_W va_W _ (rcV X nw an sv dv n0 n1 n2 n3 n4 g0 gs gn gm) (@HAppend.hAppend va_W va_W va_W _ (odW (xa 11) vo) ([((xa 5), .inl (X.2.1, 3, .inl fr))])))) sz) s (@HAppend.hAppend va_W va_W va_W _ (xW h0 nw sp xa y_88 y_89) (@HAppend.hAppend va_W va_W va_W _ (rcV X nw an sv dv n0 n1 n2 n3 n4 g0 gs gn gm) (@HAppend.hAppend va_W va_W va_W _ ([((xa 5), .inl (X.2.1, 3, .inl fr))]) (odW (xa 11) v_81)))) H locs := G
                  exact join_124 y_88 y_89 _ _ _  G hl
              · intro la_86 lb_87 H locs ls  G hl
                refine lv_iconst (v := 1) zx zb dX10_stumble_145 (by decide) ?_
                exact e_int S zr zlk (vp_nar_int _) G (la_86, lb_87, v_81, fr) [0, 1, 2, 3, 4, 5, 6, 7, 8, 9, 10, 11, 12, 13, 14, 15, 16, 18, 17] rfl rfl (Or.inr rfl) ((stuF_p ⟨⟨_, hj_1, rfl⟩, hw_3, hw_5, hw_7⟩).symm) dX10_stumble_146
            · refine k_it (v := 3) rfl ?_
              refine r_aald (C := RX8) (b := (an 4)) S G 2 3 rfl rfl (k_vp (by decide)) rfl dX10_stumble_54 ?_
              refine lv_astore (lv' := [(5, .ref (an 4)), (0, .ref h0), (1, .int 3), (2, .int x2), (3, .int 1), (4, .int x4)]) zx zb dX10_stumble_55 hl (by decide) rfl (fun ls hl => ?_)
              refine lv_aload_n zx zb dX10_stumble_57 rfl (lv_at hl 1 rfl) ?_
              refine r_get (C := RX10) (T := TX10) (N := 14) (ci := 8) (v := .ref (xa 11)) S in_X10_stumble_X10 G 0 rfl rfl 11 (by decide) lk_X10_stumble_65 rfl dX10_stumble_58 ?_
              refine lv_aload zx zb dX10_stumble_61 (lv_at hl 0 rfl) ?_
              refine lv_aload_n zx zb dX10_stumble_63 rfl (lv_at hl 1 rfl) ?_
              refine r_get (C := RX10) (T := TX10) (N := 14) (ci := 8) (v := .ref nw) S in_X10_stumble_X10 G 0 rfl rfl 0 (by decide) lk_X10_stumble_10 rfl dX10_stumble_64 ?_
              refine r_get (C := RX5) (T := TX5) (N := 8) (ci := 3) (v := .int (dv 0)) S in_X10_stumble_X5 G 1 rfl rfl 0 (by decide) lk_X10_stumble_140 rfl dX10_stumble_67 ?_
              refine lv_aload_n zx zb dX10_stumble_70 rfl (lv_at hl 1 rfl) ?_
              refine r_get (C := RX10) (T := TX10) (N := 14) (ci := 8) (v := .ref nw) S in_X10_stumble_X10 G 0 rfl rfl 0 (by decide) lk_X10_stumble_10 rfl dX10_stumble_71 ?_
              refine r_get (C := RX5) (T := TX5) (N := 8) (ci := 3) (v := .int (dv 1)) S in_X10_stumble_X5 G 1 rfl rfl 1 (by decide) lk_X10_stumble_110 rfl dX10_stumble_74 ?_
              refine lv_iload_n zx zb dX10_stumble_77 rfl (lv_at hl 4 rfl) ?_
              refine r_iadd (v := ((dv 1) + 1)) S rfl dX10_stumble_78 ?_
              refine lv_iload_n zx zb dX10_stumble_79 rfl (lv_at hl 3 rfl) ?_
              refine lv_iload zx zb dX10_stumble_80 (lv_at hl 5 rfl) ?_
              refine b_wv (cells' := 0) (slots' := 0) (wr := @HAppend.hAppend va_W va_W va_W _ (xW h0 nw sp xa la lb) (@HAppend.hAppend va_W va_W va_W _ ([(nw, .inr (3, [.int (dv 0), .int (dv 1), .int (nI n0), .ref (an 0), .ref (an 7), .ref (an 9), .ref (an 11), .ref (an 13)])), ((an 0), .inl (X.2.2.2.2, 6, .inr (.inr (.inr (.inr (rowQ an)))))), ((an 1), .inr (6, [.int (sv 0), .int (sv 1), .int (sv 2), .int (dv 10), .int (dv 11), .int (dv 12), .int (dv 13), .int (dv 14)])), ((an 2), .inr (6, [.int (sv 3), .int (sv 4), .int (sv 5), .int (dv 15), .int (dv 16), .int (dv 17), .int (dv 18), .int (dv 19)])), ((an 3), .inr (6, [.int (sv 6), .int (sv 7), .int (sv 8), .int (dv 20), .int (dv 21), .int (dv 22), .int (dv 23), .int (dv 24)])), ((an 5), .inr (6, [.int (sv 12), .int (sv 13), .int (sv 14), .int (dv 30), .int (dv 31), .int (dv 32), .int (dv 33), .int (dv 34)])), ((an 6), .inr (6, [.int (sv 15), .int (sv 16), .int (sv 17), .int (dv 35), .int (dv 36), .int (dv 37), .int (dv 38), .int (dv 39)])), ((an 7), .inr (2, [.ref (an 8), .int (nI n1)])), ((an 8), .inl (X.2.1, 248, .inl g0)), ((an 9), .inr (5, [.int 5, .int 0, .int 1, .ref (an 10), .int (nI n2)])), ((an 10), .inl (X.2.1, 25, .inl gs)), ((an 11), .inr (5, [.int 6, .int 1, .int 1, .ref (an 12), .int (nI n3)])), ((an 12), .inl (X.2.1, 30, .inl gn)), ((an 13), .inr (5, [.int 6, .int 0, .int 0, .ref (an 14), .int (nI n4)])), ((an 14), .inl (X.2.1, 30, .inl gm))]) ([((xa 5), .inl (X.2.1, 3, .inl fr))]))) G rfl rfl [17, 6] [0, 1, 2, 3, 4, 5, 7, 8, 9, 10, 11, 12, 13, 14, 15, 16, 18] rfl rfl rfl rfl (n_V (As := [.ref (an 4), .int (dv 0), .int ((dv 1) + 1), .int x2, .int x4]) (rest := []) (C := RX3) (T := TX3) (N := 8) (ci := 1) S G (s_pose l X (xa 11) vo (an 4) (fun k => sv (9 + k)) (fun k => dv (25 + k)) (dv 0) ((dv 1) + 1) x2 x4 H.size) gX10_stumble_X3_pose rfl rfl rfl hdV_X3_pose ⟨Nat.le_of_ble_eq_true rfl, Nat.le_of_ble_eq_true rfl⟩ [17, 6] rfl rfl 17 rfl rfl rfl hl.1 (Nat.le_of_ble_eq_true rfl) dX10_stumble_82 ⟨Nat.le_of_ble_eq_true rfl, Nat.le_of_ble_eq_true rfl⟩) (fun u_90 H locs hp_90 G => ?_)
              obtain ⟨v_90, rfl⟩ : ∃ z, z = u_90 := ⟨_, rfl⟩
              have hq_90 := hp_90
              have G : wd X (va_A (@HAppend.hAppend va_W va_W va_W _ (xW h0 nw sp xa la lb) (@HAppend.hAppend va_W va_W va_W _ (rcV X nw an sv dv n0 n1 n2 n3 n4 g0 gs gn gm) (@HAppend.hAppend va_W va_W va_W _ (odW (xa 11) vo) ([((xa 5), .inl (X.2.1, 3, .inl fr))])))) sz) (va_A (@HAppend.hAppend va_W va_W va_W _ (xW h0 nw sp xa la lb) (@HAppend.hAppend va_W va_W va_W _ (rcV X nw an sv dv n0 n1 n2 n3 n4 g0 gs gn gm) (@HAppend.hAppend va_W va_W va_W _ (odW (xa 11) vo) ([((xa 5), .inl (X.2.1, 3, .inl fr))])))) sz) s (@HAppend.hAppend va_W va_W va_W _ (xW h0 nw sp xa la lb) (@HAppend.hAppend va_W va_W va_W _ (rcV X nw an sv dv n0 n1 n2 n3 n4 g0 gs gn gm) (@HAppend.hAppend va_W va_W va_W _ ([((xa 5), .inl (X.2.1, 3, .inl fr))]) (odW (xa 11) v_90)))) H locs := wd_sub G [0, 1, 2, 3, 4, 5, 18, 6, 7, 8, 9, 10, 11, 12, 13, 14, 15, 16, 17] rfl rfl
              refine lv_aload_n zx zb dX10_stumble_85 rfl (lv_at hl 1 rfl) ?_
              refine r_get (C := RX10) (T := TX10) (N := 14) (ci := 8) (v := .ref (xa 11)) S in_X10_stumble_X10 G 0 rfl rfl 11 (by decide) lk_X10_stumble_65 rfl dX10_stumble_86 ?_
              refine lv_aload zx zb dX10_stumble_89 (lv_at hl 0 rfl) ?_
              refine r_get (C := RX8) (T := TX8) (N := 8) (ci := 6) (v := .int (dv 26)) S in_X10_stumble_X8 G 6 rfl rfl 4 (by decide) lk_X10_stumble_137 rfl dX10_stumble_91 ?_
              refine lv_aload zx zb dX10_stumble_94 (lv_at hl 0 rfl) ?_
              refine r_get (C := RX8) (T := TX8) (N := 8) (ci := 6) (v := .int (dv 28)) S in_X10_stumble_X8 G 6 rfl rfl 6 (by decide) lk_X10_stumble_240 rfl dX10_stumble_96 ?_
              refine lv_iload_n zx zb dX10_stumble_99 rfl (lv_at hl 4 rfl) ?_
              refine o_rl (cells' := 0) (slots' := 0) G rfl rfl (n_SN (As := [.ref (xa 11), .int (dv 26), .int (dv 28), .int 1]) (rest := []) (host := "EggSpoons") S G (s_ways1 l X (xa 11) v_90 (dv 26) (dv 28) H.size) gX10_stumble_X3_ways_n243 rfl rfl rfl mm_X10_stumble_inX3 G.1.2.2.2.2.2.2.2.2.2.2.2 mm_X10_stumble_stX3_ways hdS_X3_ways ⟨Nat.le_of_ble_eq_true rfl, Nat.le_of_ble_eq_true rfl⟩ [18] rfl rfl rfl hl.1 (Nat.le_of_ble_eq_true rfl) dX10_stumble_100 ⟨Nat.le_of_ble_eq_true rfl, Nat.le_of_ble_eq_true rfl⟩) (fun r_91 u_91 H locs hp_91 G => ?_)
              have G : wd X (va_A (@HAppend.hAppend va_W va_W va_W _ (xW h0 nw sp xa la lb) (@HAppend.hAppend va_W va_W va_W _ (rcV X nw an sv dv n0 n1 n2 n3 n4 g0 gs gn gm) (@HAppend.hAppend va_W va_W va_W _ (odW (xa 11) vo) ([((xa 5), .inl (X.2.1, 3, .inl fr))])))) sz) (va_A (@HAppend.hAppend va_W va_W va_W _ (xW h0 nw sp xa la lb) (@HAppend.hAppend va_W va_W va_W _ (rcV X nw an sv dv n0 n1 n2 n3 n4 g0 gs gn gm) (@HAppend.hAppend va_W va_W va_W _ (odW (xa 11) vo) ([((xa 5), .inl (X.2.1, 3, .inl fr))])))) sz) s (@HAppend.hAppend va_W va_W va_W _ (xW h0 nw sp xa la lb) (@HAppend.hAppend va_W va_W va_W _ (rcV X nw an sv dv n0 n1 n2 n3 n4 g0 gs gn gm) (@HAppend.hAppend va_W va_W va_W _ ([((xa 5), .inl (X.2.1, 3, .inl fr))]) (odW (xa 11) v_90)))) H locs := G
              refine lv_lstore (lv' := [(6, .long r_91), (5, .ref (an 4)), (0, .ref h0), (1, .int 3), (2, .int x2), (3, .int 1), (4, .int x4)]) zx zb dX10_stumble_103 hl (by decide) rfl (fun ls hl => ?_)
              refine lv_iload_n zx zb dX10_stumble_105 rfl (lv_at hl 5 rfl) ?_
              refine o_rl (cells' := 0) (slots' := 0) G rfl rfl (n_S (As := [.int 1]) (rest := []) S G (s_tenTo l X 1 (by omega) H.size) gX10_stumble_X3_tenTo rfl rfl rfl hdS_X3_tenTo ⟨Nat.le_of_ble_eq_true rfl, Nat.le_of_ble_eq_true rfl⟩ [] rfl rfl rfl hl.1 (Nat.le_of_ble_eq_true rfl) dX10_stumble_106 ⟨Nat.le_of_ble_eq_true rfl, Nat.le_of_ble_eq_true rfl⟩) (fun r_92 u_92 H locs hp_92 G => ?_)
              have G : wd X (va_A (@HAppend.hAppend va_W va_W va_W _ (xW h0 nw sp xa la lb) (@HAppend.hAppend va_W va_W va_W _ (rcV X nw an sv dv n0 n1 n2 n3 n4 g0 gs gn gm) (@HAppend.hAppend va_W va_W va_W _ (odW (xa 11) vo) ([((xa 5), .inl (X.2.1, 3, .inl fr))])))) sz) (va_A (@HAppend.hAppend va_W va_W va_W _ (xW h0 nw sp xa la lb) (@HAppend.hAppend va_W va_W va_W _ (rcV X nw an sv dv n0 n1 n2 n3 n4 g0 gs gn gm) (@HAppend.hAppend va_W va_W va_W _ (odW (xa 11) vo) ([((xa 5), .inl (X.2.1, 3, .inl fr))])))) sz) s (@HAppend.hAppend va_W va_W va_W _ (xW h0 nw sp xa la lb) (@HAppend.hAppend va_W va_W va_W _ (rcV X nw an sv dv n0 n1 n2 n3 n4 g0 gs gn gm) (@HAppend.hAppend va_W va_W va_W _ ([((xa 5), .inl (X.2.1, 3, .inl fr))]) (odW (xa 11) v_90)))) H locs := G
              refine lv_lstore (lv' := [(8, .long r_92), (6, .long r_91), (5, .ref (an 4)), (0, .ref h0), (1, .int 3), (2, .int x2), (3, .int 1), (4, .int x4)]) zx zb dX10_stumble_109 hl (by decide) rfl (fun ls hl => ?_)
              refine lv_lload zx zb dX10_stumble_111 (lv_at hl 1 rfl) ?_
              refine lv_lload zx zb dX10_stumble_113 (lv_at hl 0 rfl) ?_
              refine o_rl (cells' := 0) (slots' := 0) G rfl rfl (n_S (As := [.long r_91, .long r_92]) (rest := []) S G (s_commonPart l X r_91 r_92 H.size) gX10_stumble_X3_commonPart rfl rfl rfl hdS_X3_commonPart ⟨Nat.le_of_ble_eq_true rfl, Nat.le_of_ble_eq_true rfl⟩ [] rfl rfl rfl hl.1 (Nat.le_of_ble_eq_true rfl) dX10_stumble_115 ⟨Nat.le_of_ble_eq_true rfl, Nat.le_of_ble_eq_true rfl⟩) (fun r_93 u_93 H locs hp_93 G => ?_)
              have G : wd X (va_A (@HAppend.hAppend va_W va_W va_W _ (xW h0 nw sp xa la lb) (@HAppend.hAppend va_W va_W va_W _ (rcV X nw an sv dv n0 n1 n2 n3 n4 g0 gs gn gm) (@HAppend.hAppend va_W va_W va_W _ (odW (xa 11) vo) ([((xa 5), .inl (X.2.1, 3, .inl fr))])))) sz) (va_A (@HAppend.hAppend va_W va_W va_W _ (xW h0 nw sp xa la lb) (@HAppend.hAppend va_W va_W va_W _ (rcV X nw an sv dv n0 n1 n2 n3 n4 g0 gs gn gm) (@HAppend.hAppend va_W va_W va_W _ (odW (xa 11) vo) ([((xa 5), .inl (X.2.1, 3, .inl fr))])))) sz) s (@HAppend.hAppend va_W va_W va_W _ (xW h0 nw sp xa la lb) (@HAppend.hAppend va_W va_W va_W _ (rcV X nw an sv dv n0 n1 n2 n3 n4 g0 gs gn gm) (@HAppend.hAppend va_W va_W va_W _ ([((xa 5), .inl (X.2.1, 3, .inl fr))]) (odW (xa 11) v_90)))) H locs := G
              refine lv_lstore (lv' := [(10, .long r_93), (8, .long r_92), (6, .long r_91), (5, .ref (an 4)), (0, .ref h0), (1, .int 3), (2, .int x2), (3, .int 1), (4, .int x4)]) zx zb dX10_stumble_118 hl (by decide) rfl (fun ls hl => ?_)
              refine lv_lload zx zb dX10_stumble_120 (lv_at hl 0 rfl) ?_
              refine lv_lconst (v := (Int32.toInt64 0)) zx zb dX10_stumble_122 (by decide) ?_
              refine W.lcmp zx zb dX10_stumble_123 ?_
              refine k_cutW (PP := fun Wx => ∀ (la_95 : Int64) (lb_96 : Int64) (H : Heap) (locs : List Loc) (ls : Array Slot), wd X (va_A (@HAppend.hAppend va_W va_W va_W _ (xW h0 nw sp xa la lb) (@HAppend.hAppend va_W va_W va_W _ (rcV X nw an sv dv n0 n1 n2 n3 n4 g0 gs gn gm) (@HAppend.hAppend va_W va_W va_W _ (odW (xa 11) vo) ([((xa 5), .inl (X.2.1, 3, .inl fr))])))) sz) (va_A (@HAppend.hAppend va_W va_W va_W _ (xW h0 nw sp xa la lb) (@HAppend.hAppend va_W va_W va_W _ (rcV X nw an sv dv n0 n1 n2 n3 n4 g0 gs gn gm) (@HAppend.hAppend va_W va_W va_W _ (odW (xa 11) vo) ([((xa 5), .inl (X.2.1, 3, .inl fr))])))) sz) s (@HAppend.hAppend va_W va_W va_W _ (xW h0 nw sp xa la_95 lb_96) (@HAppend.hAppend va_W va_W va_W _ (rcV X nw an sv dv n0 n1 n2 n3 n4 g0 gs gn gm) (@HAppend.hAppend va_W va_W va_W _ ([((xa 5), .inl (X.2.1, 3, .inl fr))]) (odW (xa 11) v_90)))) H locs → lv_has ls 12 [(10, .long r_93), (8, .long r_92), (6, .long r_91), (5, .ref (an 4)), (0, .ref h0), (1, .int 3), (2, .int x2), (3, .int 1), (4, .int x4)] → Wx (F0 m 145 ls []) H locs) ?_ ?_
              · intro join_124
                refine lv_if_le (tgt := 145) zx zb dX10_stumble_124 (by decide) (fun c_94 => ?_) (fun c_94 => ?_)
                · exact join_124 la lb _ _ _  G hl
                · refine lv_aload_n zx zb dX10_stumble_127 rfl (lv_at hl 4 rfl) ?_
                  refine lv_lload zx zb dX10_stumble_128 (lv_at hl 2 rfl) ?_
                  refine lv_lload zx zb dX10_stumble_130 (lv_at hl 0 rfl) ?_
                  refine lv_ldiv zx zb dX10_stumble_132 (k_lnz2 c_94) ?_
                  refine k_ldE (fun y_97 => ?_)
                  refine r_put (C := RX10) (T := TX10) (N := 14) (ci := 8) (v := .long y_97) S in_X10_stumble_X10 tyX10_ok nmX10 G 0 rfl rfl 6 (by decide) lk_X10_stumble_38 rfl rfl rfl (Nat.le_of_ble_eq_true rfl) dX10_stumble_133 (fun H locs G => ?_)
                  have G : wd X (va_A (@HAppend.hAppend va_W va_W va_W _ (xW h0 nw sp xa la lb) (@HAppend.hAppend va_W va_W va_W _ (rcV X nw an sv dv n0 n1 n2 n3 n4 g0 gs gn gm) (@HAppend.hAppend va_W va_W va_W _ (odW (xa 11) vo) ([((xa 5), .inl (X.2.1, 3, .inl fr))])))) sz) (va_A (@HAppend.hAppend va_W va_W va_W _ (xW h0 nw sp xa la lb) (@HAppend.hAppend va_W va_W va_W _ (rcV X nw an sv dv n0 n1 n2 n3 n4 g0 gs gn gm) (@HAppend.hAppend va_W va_W va_W _ (odW (xa 11) vo) ([((xa 5), .inl (X.2.1, 3, .inl fr))])))) sz) s (@HAppend.hAppend va_W va_W va_W _ (xW h0 nw sp xa y_97 lb) (@HAppend.hAppend va_W va_W va_W _ (rcV X nw an sv dv n0 n1 n2 n3 n4 g0 gs gn gm) (@HAppend.hAppend va_W va_W va_W _ ([((xa 5), .inl (X.2.1, 3, .inl fr))]) (odW (xa 11) v_90)))) H locs := G
                  refine lv_aload_n zx zb dX10_stumble_136 rfl (lv_at hl 4 rfl) ?_
                  refine lv_lload zx zb dX10_stumble_137 (lv_at hl 1 rfl) ?_
                  refine lv_lload zx zb dX10_stumble_139 (lv_at hl 0 rfl) ?_
                  refine lv_ldiv zx zb dX10_stumble_141 (k_lnz2 c_94) ?_
                  refine k_ldE (fun y_98 => ?_)
                  refine r_put (C := RX10) (T := TX10) (N := 14) (ci := 8) (v := .long y_98) S in_X10_stumble_X10 tyX10_ok nmX10 G 0 rfl rfl 7 (by decide) lk_X10_stumble_42 rfl rfl rfl (Nat.le_of_ble_eq_true rfl) dX10_stumble_142 (fun H locs G => ?_)
                  have G : wd X (va_A (@HAppend.hAppend va_W va_W va_W _ (xW h0 nw sp xa la lb) (@HAppend.hAppend va_W va_W va_W _ (rcV X nw an sv dv n0 n1 n2 n3 n4 g0 gs gn gm) (@HAppend.hAppend va_W va_W va_W _ (odW (xa 11) vo) ([((xa 5), .inl (X.2.1, 3, .inl fr))])))) sz) (va_A (@HAppend.hAppend va_W va_W va_W _ (xW h0 nw sp xa la lb) (@HAppend.hAppend va_W va_W va_W _ (rcV X nw an sv dv n0 n1 n2 n3 n4 g0 gs gn gm) (@HAppend.hAppend va_W va_W va_W _ (odW (xa 11) vo) ([((xa 5), .inl (X.2.1, 3, .inl fr))])))) sz) s (@HAppend.hAppend va_W va_W va_W _ (xW h0 nw sp xa y_97 y_98) (@HAppend.hAppend va_W va_W va_W _ (rcV X nw an sv dv n0 n1 n2 n3 n4 g0 gs gn gm) (@HAppend.hAppend va_W va_W va_W _ ([((xa 5), .inl (X.2.1, 3, .inl fr))]) (odW (xa 11) v_90)))) H locs := G
                  exact join_124 y_97 y_98 _ _ _  G hl
              · intro la_95 lb_96 H locs ls  G hl
                refine lv_iconst (v := 1) zx zb dX10_stumble_145 (by decide) ?_
                exact e_int S zr zlk (vp_nar_int _) G (la_95, lb_96, v_90, fr) [0, 1, 2, 3, 4, 5, 6, 7, 8, 9, 10, 11, 12, 13, 14, 15, 16, 18, 17] rfl rfl (Or.inr rfl) ((stuF_p ⟨⟨_, hj_1, rfl⟩, hw_3, hw_5, hw_7⟩).symm) dX10_stumble_146
            · refine k_it (v := 4) rfl ?_
              refine r_aald (C := RX8) (b := (an 5)) S G 2 3 rfl rfl (k_vp (by decide)) rfl dX10_stumble_54 ?_
              refine lv_astore (lv' := [(5, .ref (an 5)), (0, .ref h0), (1, .int 4), (2, .int x2), (3, .int 1), (4, .int x4)]) zx zb dX10_stumble_55 hl (by decide) rfl (fun ls hl => ?_)
              refine lv_aload_n zx zb dX10_stumble_57 rfl (lv_at hl 1 rfl) ?_
              refine r_get (C := RX10) (T := TX10) (N := 14) (ci := 8) (v := .ref (xa 11)) S in_X10_stumble_X10 G 0 rfl rfl 11 (by decide) lk_X10_stumble_65 rfl dX10_stumble_58 ?_
              refine lv_aload zx zb dX10_stumble_61 (lv_at hl 0 rfl) ?_
              refine lv_aload_n zx zb dX10_stumble_63 rfl (lv_at hl 1 rfl) ?_
              refine r_get (C := RX10) (T := TX10) (N := 14) (ci := 8) (v := .ref nw) S in_X10_stumble_X10 G 0 rfl rfl 0 (by decide) lk_X10_stumble_10 rfl dX10_stumble_64 ?_
              refine r_get (C := RX5) (T := TX5) (N := 8) (ci := 3) (v := .int (dv 0)) S in_X10_stumble_X5 G 1 rfl rfl 0 (by decide) lk_X10_stumble_140 rfl dX10_stumble_67 ?_
              refine lv_aload_n zx zb dX10_stumble_70 rfl (lv_at hl 1 rfl) ?_
              refine r_get (C := RX10) (T := TX10) (N := 14) (ci := 8) (v := .ref nw) S in_X10_stumble_X10 G 0 rfl rfl 0 (by decide) lk_X10_stumble_10 rfl dX10_stumble_71 ?_
              refine r_get (C := RX5) (T := TX5) (N := 8) (ci := 3) (v := .int (dv 1)) S in_X10_stumble_X5 G 1 rfl rfl 1 (by decide) lk_X10_stumble_110 rfl dX10_stumble_74 ?_
              refine lv_iload_n zx zb dX10_stumble_77 rfl (lv_at hl 4 rfl) ?_
              refine r_iadd (v := ((dv 1) + 1)) S rfl dX10_stumble_78 ?_
              refine lv_iload_n zx zb dX10_stumble_79 rfl (lv_at hl 3 rfl) ?_
              refine lv_iload zx zb dX10_stumble_80 (lv_at hl 5 rfl) ?_
              refine b_wv (cells' := 0) (slots' := 0) (wr := @HAppend.hAppend va_W va_W va_W _ (xW h0 nw sp xa la lb) (@HAppend.hAppend va_W va_W va_W _ ([(nw, .inr (3, [.int (dv 0), .int (dv 1), .int (nI n0), .ref (an 0), .ref (an 7), .ref (an 9), .ref (an 11), .ref (an 13)])), ((an 0), .inl (X.2.2.2.2, 6, .inr (.inr (.inr (.inr (rowQ an)))))), ((an 1), .inr (6, [.int (sv 0), .int (sv 1), .int (sv 2), .int (dv 10), .int (dv 11), .int (dv 12), .int (dv 13), .int (dv 14)])), ((an 2), .inr (6, [.int (sv 3), .int (sv 4), .int (sv 5), .int (dv 15), .int (dv 16), .int (dv 17), .int (dv 18), .int (dv 19)])), ((an 3), .inr (6, [.int (sv 6), .int (sv 7), .int (sv 8), .int (dv 20), .int (dv 21), .int (dv 22), .int (dv 23), .int (dv 24)])), ((an 4), .inr (6, [.int (sv 9), .int (sv 10), .int (sv 11), .int (dv 25), .int (dv 26), .int (dv 27), .int (dv 28), .int (dv 29)])), ((an 6), .inr (6, [.int (sv 15), .int (sv 16), .int (sv 17), .int (dv 35), .int (dv 36), .int (dv 37), .int (dv 38), .int (dv 39)])), ((an 7), .inr (2, [.ref (an 8), .int (nI n1)])), ((an 8), .inl (X.2.1, 248, .inl g0)), ((an 9), .inr (5, [.int 5, .int 0, .int 1, .ref (an 10), .int (nI n2)])), ((an 10), .inl (X.2.1, 25, .inl gs)), ((an 11), .inr (5, [.int 6, .int 1, .int 1, .ref (an 12), .int (nI n3)])), ((an 12), .inl (X.2.1, 30, .inl gn)), ((an 13), .inr (5, [.int 6, .int 0, .int 0, .ref (an 14), .int (nI n4)])), ((an 14), .inl (X.2.1, 30, .inl gm))]) ([((xa 5), .inl (X.2.1, 3, .inl fr))]))) G rfl rfl [17, 7] [0, 1, 2, 3, 4, 5, 6, 8, 9, 10, 11, 12, 13, 14, 15, 16, 18] rfl rfl rfl rfl (n_V (As := [.ref (an 5), .int (dv 0), .int ((dv 1) + 1), .int x2, .int x4]) (rest := []) (C := RX3) (T := TX3) (N := 8) (ci := 1) S G (s_pose l X (xa 11) vo (an 5) (fun k => sv (12 + k)) (fun k => dv (30 + k)) (dv 0) ((dv 1) + 1) x2 x4 H.size) gX10_stumble_X3_pose rfl rfl rfl hdV_X3_pose ⟨Nat.le_of_ble_eq_true rfl, Nat.le_of_ble_eq_true rfl⟩ [17, 7] rfl rfl 17 rfl rfl rfl hl.1 (Nat.le_of_ble_eq_true rfl) dX10_stumble_82 ⟨Nat.le_of_ble_eq_true rfl, Nat.le_of_ble_eq_true rfl⟩) (fun u_99 H locs hp_99 G => ?_)
              obtain ⟨v_99, rfl⟩ : ∃ z, z = u_99 := ⟨_, rfl⟩
              have hq_99 := hp_99
              have G : wd X (va_A (@HAppend.hAppend va_W va_W va_W _ (xW h0 nw sp xa la lb) (@HAppend.hAppend va_W va_W va_W _ (rcV X nw an sv dv n0 n1 n2 n3 n4 g0 gs gn gm) (@HAppend.hAppend va_W va_W va_W _ (odW (xa 11) vo) ([((xa 5), .inl (X.2.1, 3, .inl fr))])))) sz) (va_A (@HAppend.hAppend va_W va_W va_W _ (xW h0 nw sp xa la lb) (@HAppend.hAppend va_W va_W va_W _ (rcV X nw an sv dv n0 n1 n2 n3 n4 g0 gs gn gm) (@HAppend.hAppend va_W va_W va_W _ (odW (xa 11) vo) ([((xa 5), .inl (X.2.1, 3, .inl fr))])))) sz) s (@HAppend.hAppend va_W va_W va_W _ (xW h0 nw sp xa la lb) (@HAppend.hAppend va_W va_W va_W _ (rcV X nw an sv dv n0 n1 n2 n3 n4 g0 gs gn gm) (@HAppend.hAppend va_W va_W va_W _ ([((xa 5), .inl (X.2.1, 3, .inl fr))]) (odW (xa 11) v_99)))) H locs := wd_sub G [0, 1, 2, 3, 4, 5, 6, 18, 7, 8, 9, 10, 11, 12, 13, 14, 15, 16, 17] rfl rfl
              refine lv_aload_n zx zb dX10_stumble_85 rfl (lv_at hl 1 rfl) ?_
              refine r_get (C := RX10) (T := TX10) (N := 14) (ci := 8) (v := .ref (xa 11)) S in_X10_stumble_X10 G 0 rfl rfl 11 (by decide) lk_X10_stumble_65 rfl dX10_stumble_86 ?_
              refine lv_aload zx zb dX10_stumble_89 (lv_at hl 0 rfl) ?_
              refine r_get (C := RX8) (T := TX8) (N := 8) (ci := 6) (v := .int (dv 31)) S in_X10_stumble_X8 G 7 rfl rfl 4 (by decide) lk_X10_stumble_137 rfl dX10_stumble_91 ?_
              refine lv_aload zx zb dX10_stumble_94 (lv_at hl 0 rfl) ?_
              refine r_get (C := RX8) (T := TX8) (N := 8) (ci := 6) (v := .int (dv 33)) S in_X10_stumble_X8 G 7 rfl rfl 6 (by decide) lk_X10_stumble_240 rfl dX10_stumble_96 ?_
              refine lv_iload_n zx zb dX10_stumble_99 rfl (lv_at hl 4 rfl) ?_
              refine o_rl (cells' := 0) (slots' := 0) G rfl rfl (n_SN (As := [.ref (xa 11), .int (dv 31), .int (dv 33), .int 1]) (rest := []) (host := "EggSpoons") S G (s_ways1 l X (xa 11) v_99 (dv 31) (dv 33) H.size) gX10_stumble_X3_ways_n243 rfl rfl rfl mm_X10_stumble_inX3 G.1.2.2.2.2.2.2.2.2.2.2.2 mm_X10_stumble_stX3_ways hdS_X3_ways ⟨Nat.le_of_ble_eq_true rfl, Nat.le_of_ble_eq_true rfl⟩ [18] rfl rfl rfl hl.1 (Nat.le_of_ble_eq_true rfl) dX10_stumble_100 ⟨Nat.le_of_ble_eq_true rfl, Nat.le_of_ble_eq_true rfl⟩) (fun r_100 u_100 H locs hp_100 G => ?_)
              have G : wd X (va_A (@HAppend.hAppend va_W va_W va_W _ (xW h0 nw sp xa la lb) (@HAppend.hAppend va_W va_W va_W _ (rcV X nw an sv dv n0 n1 n2 n3 n4 g0 gs gn gm) (@HAppend.hAppend va_W va_W va_W _ (odW (xa 11) vo) ([((xa 5), .inl (X.2.1, 3, .inl fr))])))) sz) (va_A (@HAppend.hAppend va_W va_W va_W _ (xW h0 nw sp xa la lb) (@HAppend.hAppend va_W va_W va_W _ (rcV X nw an sv dv n0 n1 n2 n3 n4 g0 gs gn gm) (@HAppend.hAppend va_W va_W va_W _ (odW (xa 11) vo) ([((xa 5), .inl (X.2.1, 3, .inl fr))])))) sz) s (@HAppend.hAppend va_W va_W va_W _ (xW h0 nw sp xa la lb) (@HAppend.hAppend va_W va_W va_W _ (rcV X nw an sv dv n0 n1 n2 n3 n4 g0 gs gn gm) (@HAppend.hAppend va_W va_W va_W _ ([((xa 5), .inl (X.2.1, 3, .inl fr))]) (odW (xa 11) v_99)))) H locs := G
              refine lv_lstore (lv' := [(6, .long r_100), (5, .ref (an 5)), (0, .ref h0), (1, .int 4), (2, .int x2), (3, .int 1), (4, .int x4)]) zx zb dX10_stumble_103 hl (by decide) rfl (fun ls hl => ?_)
              refine lv_iload_n zx zb dX10_stumble_105 rfl (lv_at hl 5 rfl) ?_
              refine o_rl (cells' := 0) (slots' := 0) G rfl rfl (n_S (As := [.int 1]) (rest := []) S G (s_tenTo l X 1 (by omega) H.size) gX10_stumble_X3_tenTo rfl rfl rfl hdS_X3_tenTo ⟨Nat.le_of_ble_eq_true rfl, Nat.le_of_ble_eq_true rfl⟩ [] rfl rfl rfl hl.1 (Nat.le_of_ble_eq_true rfl) dX10_stumble_106 ⟨Nat.le_of_ble_eq_true rfl, Nat.le_of_ble_eq_true rfl⟩) (fun r_101 u_101 H locs hp_101 G => ?_)
              have G : wd X (va_A (@HAppend.hAppend va_W va_W va_W _ (xW h0 nw sp xa la lb) (@HAppend.hAppend va_W va_W va_W _ (rcV X nw an sv dv n0 n1 n2 n3 n4 g0 gs gn gm) (@HAppend.hAppend va_W va_W va_W _ (odW (xa 11) vo) ([((xa 5), .inl (X.2.1, 3, .inl fr))])))) sz) (va_A (@HAppend.hAppend va_W va_W va_W _ (xW h0 nw sp xa la lb) (@HAppend.hAppend va_W va_W va_W _ (rcV X nw an sv dv n0 n1 n2 n3 n4 g0 gs gn gm) (@HAppend.hAppend va_W va_W va_W _ (odW (xa 11) vo) ([((xa 5), .inl (X.2.1, 3, .inl fr))])))) sz) s (@HAppend.hAppend va_W va_W va_W _ (xW h0 nw sp xa la lb) (@HAppend.hAppend va_W va_W va_W _ (rcV X nw an sv dv n0 n1 n2 n3 n4 g0 gs gn gm) (@HAppend.hAppend va_W va_W va_W _ ([((xa 5), .inl (X.2.1, 3, .inl fr))]) (odW (xa 11) v_99)))) H locs := G
              refine lv_lstore (lv' := [(8, .long r_101), (6, .long r_100), (5, .ref (an 5)), (0, .ref h0), (1, .int 4), (2, .int x2), (3, .int 1), (4, .int x4)]) zx zb dX10_stumble_109 hl (by decide) rfl (fun ls hl => ?_)
              refine lv_lload zx zb dX10_stumble_111 (lv_at hl 1 rfl) ?_
              refine lv_lload zx zb dX10_stumble_113 (lv_at hl 0 rfl) ?_
              refine o_rl (cells' := 0) (slots' := 0) G rfl rfl (n_S (As := [.long r_100, .long r_101]) (rest := []) S G (s_commonPart l X r_100 r_101 H.size) gX10_stumble_X3_commonPart rfl rfl rfl hdS_X3_commonPart ⟨Nat.le_of_ble_eq_true rfl, Nat.le_of_ble_eq_true rfl⟩ [] rfl rfl rfl hl.1 (Nat.le_of_ble_eq_true rfl) dX10_stumble_115 ⟨Nat.le_of_ble_eq_true rfl, Nat.le_of_ble_eq_true rfl⟩) (fun r_102 u_102 H locs hp_102 G => ?_)
              have G : wd X (va_A (@HAppend.hAppend va_W va_W va_W _ (xW h0 nw sp xa la lb) (@HAppend.hAppend va_W va_W va_W _ (rcV X nw an sv dv n0 n1 n2 n3 n4 g0 gs gn gm) (@HAppend.hAppend va_W va_W va_W _ (odW (xa 11) vo) ([((xa 5), .inl (X.2.1, 3, .inl fr))])))) sz) (va_A (@HAppend.hAppend va_W va_W va_W _ (xW h0 nw sp xa la lb) (@HAppend.hAppend va_W va_W va_W _ (rcV X nw an sv dv n0 n1 n2 n3 n4 g0 gs gn gm) (@HAppend.hAppend va_W va_W va_W _ (odW (xa 11) vo) ([((xa 5), .inl (X.2.1, 3, .inl fr))])))) sz) s (@HAppend.hAppend va_W va_W va_W _ (xW h0 nw sp xa la lb) (@HAppend.hAppend va_W va_W va_W _ (rcV X nw an sv dv n0 n1 n2 n3 n4 g0 gs gn gm) (@HAppend.hAppend va_W va_W va_W _ ([((xa 5), .inl (X.2.1, 3, .inl fr))]) (odW (xa 11) v_99)))) H locs := G
              refine lv_lstore (lv' := [(10, .long r_102), (8, .long r_101), (6, .long r_100), (5, .ref (an 5)), (0, .ref h0), (1, .int 4), (2, .int x2), (3, .int 1), (4, .int x4)]) zx zb dX10_stumble_118 hl (by decide) rfl (fun ls hl => ?_)
              refine lv_lload zx zb dX10_stumble_120 (lv_at hl 0 rfl) ?_
              refine lv_lconst (v := (Int32.toInt64 0)) zx zb dX10_stumble_122 (by decide) ?_
              refine W.lcmp zx zb dX10_stumble_123 ?_
              refine k_cutW (PP := fun Wx => ∀ (la_104 : Int64) (lb_105 : Int64) (H : Heap) (locs : List Loc) (ls : Array Slot), wd X (va_A (@HAppend.hAppend va_W va_W va_W _ (xW h0 nw sp xa la lb) (@HAppend.hAppend va_W va_W va_W _ (rcV X nw an sv dv n0 n1 n2 n3 n4 g0 gs gn gm) (@HAppend.hAppend va_W va_W va_W _ (odW (xa 11) vo) ([((xa 5), .inl (X.2.1, 3, .inl fr))])))) sz) (va_A (@HAppend.hAppend va_W va_W va_W _ (xW h0 nw sp xa la lb) (@HAppend.hAppend va_W va_W va_W _ (rcV X nw an sv dv n0 n1 n2 n3 n4 g0 gs gn gm) (@HAppend.hAppend va_W va_W va_W _ (odW (xa 11) vo) ([((xa 5), .inl (X.2.1, 3, .inl fr))])))) sz) s (@HAppend.hAppend va_W va_W va_W _ (xW h0 nw sp xa la_104 lb_105) (@HAppend.hAppend va_W va_W va_W _ (rcV X nw an sv dv n0 n1 n2 n3 n4 g0 gs gn gm) (@HAppend.hAppend va_W va_W va_W _ ([((xa 5), .inl (X.2.1, 3, .inl fr))]) (odW (xa 11) v_99)))) H locs → lv_has ls 12 [(10, .long r_102), (8, .long r_101), (6, .long r_100), (5, .ref (an 5)), (0, .ref h0), (1, .int 4), (2, .int x2), (3, .int 1), (4, .int x4)] → Wx (F0 m 145 ls []) H locs) ?_ ?_
              · intro join_124
                refine lv_if_le (tgt := 145) zx zb dX10_stumble_124 (by decide) (fun c_103 => ?_) (fun c_103 => ?_)
                · exact join_124 la lb _ _ _  G hl
                · refine lv_aload_n zx zb dX10_stumble_127 rfl (lv_at hl 4 rfl) ?_
                  refine lv_lload zx zb dX10_stumble_128 (lv_at hl 2 rfl) ?_
                  refine lv_lload zx zb dX10_stumble_130 (lv_at hl 0 rfl) ?_
                  refine lv_ldiv zx zb dX10_stumble_132 (k_lnz2 c_103) ?_
                  refine k_ldE (fun y_106 => ?_)
                  refine r_put (C := RX10) (T := TX10) (N := 14) (ci := 8) (v := .long y_106) S in_X10_stumble_X10 tyX10_ok nmX10 G 0 rfl rfl 6 (by decide) lk_X10_stumble_38 rfl rfl rfl (Nat.le_of_ble_eq_true rfl) dX10_stumble_133 (fun H locs G => ?_)
                  have G : wd X (va_A (@HAppend.hAppend va_W va_W va_W _ (xW h0 nw sp xa la lb) (@HAppend.hAppend va_W va_W va_W _ (rcV X nw an sv dv n0 n1 n2 n3 n4 g0 gs gn gm) (@HAppend.hAppend va_W va_W va_W _ (odW (xa 11) vo) ([((xa 5), .inl (X.2.1, 3, .inl fr))])))) sz) (va_A (@HAppend.hAppend va_W va_W va_W _ (xW h0 nw sp xa la lb) (@HAppend.hAppend va_W va_W va_W _ (rcV X nw an sv dv n0 n1 n2 n3 n4 g0 gs gn gm) (@HAppend.hAppend va_W va_W va_W _ (odW (xa 11) vo) ([((xa 5), .inl (X.2.1, 3, .inl fr))])))) sz) s (@HAppend.hAppend va_W va_W va_W _ (xW h0 nw sp xa y_106 lb) (@HAppend.hAppend va_W va_W va_W _ (rcV X nw an sv dv n0 n1 n2 n3 n4 g0 gs gn gm) (@HAppend.hAppend va_W va_W va_W _ ([((xa 5), .inl (X.2.1, 3, .inl fr))]) (odW (xa 11) v_99)))) H locs := G
                  refine lv_aload_n zx zb dX10_stumble_136 rfl (lv_at hl 4 rfl) ?_
                  refine lv_lload zx zb dX10_stumble_137 (lv_at hl 1 rfl) ?_
                  refine lv_lload zx zb dX10_stumble_139 (lv_at hl 0 rfl) ?_
                  refine lv_ldiv zx zb dX10_stumble_141 (k_lnz2 c_103) ?_
                  refine k_ldE (fun y_107 => ?_)
                  refine r_put (C := RX10) (T := TX10) (N := 14) (ci := 8) (v := .long y_107) S in_X10_stumble_X10 tyX10_ok nmX10 G 0 rfl rfl 7 (by decide) lk_X10_stumble_42 rfl rfl rfl (Nat.le_of_ble_eq_true rfl) dX10_stumble_142 (fun H locs G => ?_)
                  have G : wd X (va_A (@HAppend.hAppend va_W va_W va_W _ (xW h0 nw sp xa la lb) (@HAppend.hAppend va_W va_W va_W _ (rcV X nw an sv dv n0 n1 n2 n3 n4 g0 gs gn gm) (@HAppend.hAppend va_W va_W va_W _ (odW (xa 11) vo) ([((xa 5), .inl (X.2.1, 3, .inl fr))])))) sz) (va_A (@HAppend.hAppend va_W va_W va_W _ (xW h0 nw sp xa la lb) (@HAppend.hAppend va_W va_W va_W _ (rcV X nw an sv dv n0 n1 n2 n3 n4 g0 gs gn gm) (@HAppend.hAppend va_W va_W va_W _ (odW (xa 11) vo) ([((xa 5), .inl (X.2.1, 3, .inl fr))])))) sz) s (@HAppend.hAppend va_W va_W va_W _ (xW h0 nw sp xa y_106 y_107) (@HAppend.hAppend va_W va_W va_W _ (rcV X nw an sv dv n0 n1 n2 n3 n4 g0 gs gn gm) (@HAppend.hAppend va_W va_W va_W _ ([((xa 5), .inl (X.2.1, 3, .inl fr))]) (odW (xa 11) v_99)))) H locs := G
                  exact join_124 y_106 y_107 _ _ _  G hl
              · intro la_104 lb_105 H locs ls  G hl
                refine lv_iconst (v := 1) zx zb dX10_stumble_145 (by decide) ?_
                exact e_int S zr zlk (vp_nar_int _) G (la_104, lb_105, v_99, fr) [0, 1, 2, 3, 4, 5, 6, 7, 8, 9, 10, 11, 12, 13, 14, 15, 16, 18, 17] rfl rfl (Or.inr rfl) ((stuF_p ⟨⟨_, hj_1, rfl⟩, hw_3, hw_5, hw_7⟩).symm) dX10_stumble_146
            · refine k_it (v := 5) rfl ?_
              refine r_aald (C := RX8) (b := (an 6)) S G 2 3 rfl rfl (k_vp (by decide)) rfl dX10_stumble_54 ?_
              refine lv_astore (lv' := [(5, .ref (an 6)), (0, .ref h0), (1, .int 5), (2, .int x2), (3, .int 1), (4, .int x4)]) zx zb dX10_stumble_55 hl (by decide) rfl (fun ls hl => ?_)
              refine lv_aload_n zx zb dX10_stumble_57 rfl (lv_at hl 1 rfl) ?_
              refine r_get (C := RX10) (T := TX10) (N := 14) (ci := 8) (v := .ref (xa 11)) S in_X10_stumble_X10 G 0 rfl rfl 11 (by decide) lk_X10_stumble_65 rfl dX10_stumble_58 ?_
              refine lv_aload zx zb dX10_stumble_61 (lv_at hl 0 rfl) ?_
              refine lv_aload_n zx zb dX10_stumble_63 rfl (lv_at hl 1 rfl) ?_
              refine r_get (C := RX10) (T := TX10) (N := 14) (ci := 8) (v := .ref nw) S in_X10_stumble_X10 G 0 rfl rfl 0 (by decide) lk_X10_stumble_10 rfl dX10_stumble_64 ?_
              refine r_get (C := RX5) (T := TX5) (N := 8) (ci := 3) (v := .int (dv 0)) S in_X10_stumble_X5 G 1 rfl rfl 0 (by decide) lk_X10_stumble_140 rfl dX10_stumble_67 ?_
              refine lv_aload_n zx zb dX10_stumble_70 rfl (lv_at hl 1 rfl) ?_
              refine r_get (C := RX10) (T := TX10) (N := 14) (ci := 8) (v := .ref nw) S in_X10_stumble_X10 G 0 rfl rfl 0 (by decide) lk_X10_stumble_10 rfl dX10_stumble_71 ?_
              refine r_get (C := RX5) (T := TX5) (N := 8) (ci := 3) (v := .int (dv 1)) S in_X10_stumble_X5 G 1 rfl rfl 1 (by decide) lk_X10_stumble_110 rfl dX10_stumble_74 ?_
              refine lv_iload_n zx zb dX10_stumble_77 rfl (lv_at hl 4 rfl) ?_
              refine r_iadd (v := ((dv 1) + 1)) S rfl dX10_stumble_78 ?_
              refine lv_iload_n zx zb dX10_stumble_79 rfl (lv_at hl 3 rfl) ?_
              refine lv_iload zx zb dX10_stumble_80 (lv_at hl 5 rfl) ?_
              refine b_wv (cells' := 0) (slots' := 0) (wr := @HAppend.hAppend va_W va_W va_W _ (xW h0 nw sp xa la lb) (@HAppend.hAppend va_W va_W va_W _ ([(nw, .inr (3, [.int (dv 0), .int (dv 1), .int (nI n0), .ref (an 0), .ref (an 7), .ref (an 9), .ref (an 11), .ref (an 13)])), ((an 0), .inl (X.2.2.2.2, 6, .inr (.inr (.inr (.inr (rowQ an)))))), ((an 1), .inr (6, [.int (sv 0), .int (sv 1), .int (sv 2), .int (dv 10), .int (dv 11), .int (dv 12), .int (dv 13), .int (dv 14)])), ((an 2), .inr (6, [.int (sv 3), .int (sv 4), .int (sv 5), .int (dv 15), .int (dv 16), .int (dv 17), .int (dv 18), .int (dv 19)])), ((an 3), .inr (6, [.int (sv 6), .int (sv 7), .int (sv 8), .int (dv 20), .int (dv 21), .int (dv 22), .int (dv 23), .int (dv 24)])), ((an 4), .inr (6, [.int (sv 9), .int (sv 10), .int (sv 11), .int (dv 25), .int (dv 26), .int (dv 27), .int (dv 28), .int (dv 29)])), ((an 5), .inr (6, [.int (sv 12), .int (sv 13), .int (sv 14), .int (dv 30), .int (dv 31), .int (dv 32), .int (dv 33), .int (dv 34)])), ((an 7), .inr (2, [.ref (an 8), .int (nI n1)])), ((an 8), .inl (X.2.1, 248, .inl g0)), ((an 9), .inr (5, [.int 5, .int 0, .int 1, .ref (an 10), .int (nI n2)])), ((an 10), .inl (X.2.1, 25, .inl gs)), ((an 11), .inr (5, [.int 6, .int 1, .int 1, .ref (an 12), .int (nI n3)])), ((an 12), .inl (X.2.1, 30, .inl gn)), ((an 13), .inr (5, [.int 6, .int 0, .int 0, .ref (an 14), .int (nI n4)])), ((an 14), .inl (X.2.1, 30, .inl gm))]) ([((xa 5), .inl (X.2.1, 3, .inl fr))]))) G rfl rfl [17, 8] [0, 1, 2, 3, 4, 5, 6, 7, 9, 10, 11, 12, 13, 14, 15, 16, 18] rfl rfl rfl rfl (n_V (As := [.ref (an 6), .int (dv 0), .int ((dv 1) + 1), .int x2, .int x4]) (rest := []) (C := RX3) (T := TX3) (N := 8) (ci := 1) S G (s_pose l X (xa 11) vo (an 6) (fun k => sv (15 + k)) (fun k => dv (35 + k)) (dv 0) ((dv 1) + 1) x2 x4 H.size) gX10_stumble_X3_pose rfl rfl rfl hdV_X3_pose ⟨Nat.le_of_ble_eq_true rfl, Nat.le_of_ble_eq_true rfl⟩ [17, 8] rfl rfl 17 rfl rfl rfl hl.1 (Nat.le_of_ble_eq_true rfl) dX10_stumble_82 ⟨Nat.le_of_ble_eq_true rfl, Nat.le_of_ble_eq_true rfl⟩) (fun u_108 H locs hp_108 G => ?_)
              obtain ⟨v_108, rfl⟩ : ∃ z, z = u_108 := ⟨_, rfl⟩
              have hq_108 := hp_108
              have G : wd X (va_A (@HAppend.hAppend va_W va_W va_W _ (xW h0 nw sp xa la lb) (@HAppend.hAppend va_W va_W va_W _ (rcV X nw an sv dv n0 n1 n2 n3 n4 g0 gs gn gm) (@HAppend.hAppend va_W va_W va_W _ (odW (xa 11) vo) ([((xa 5), .inl (X.2.1, 3, .inl fr))])))) sz) (va_A (@HAppend.hAppend va_W va_W va_W _ (xW h0 nw sp xa la lb) (@HAppend.hAppend va_W va_W va_W _ (rcV X nw an sv dv n0 n1 n2 n3 n4 g0 gs gn gm) (@HAppend.hAppend va_W va_W va_W _ (odW (xa 11) vo) ([((xa 5), .inl (X.2.1, 3, .inl fr))])))) sz) s (@HAppend.hAppend va_W va_W va_W _ (xW h0 nw sp xa la lb) (@HAppend.hAppend va_W va_W va_W _ (rcV X nw an sv dv n0 n1 n2 n3 n4 g0 gs gn gm) (@HAppend.hAppend va_W va_W va_W _ ([((xa 5), .inl (X.2.1, 3, .inl fr))]) (odW (xa 11) v_108)))) H locs := wd_sub G [0, 1, 2, 3, 4, 5, 6, 7, 18, 8, 9, 10, 11, 12, 13, 14, 15, 16, 17] rfl rfl
              refine lv_aload_n zx zb dX10_stumble_85 rfl (lv_at hl 1 rfl) ?_
              refine r_get (C := RX10) (T := TX10) (N := 14) (ci := 8) (v := .ref (xa 11)) S in_X10_stumble_X10 G 0 rfl rfl 11 (by decide) lk_X10_stumble_65 rfl dX10_stumble_86 ?_
              refine lv_aload zx zb dX10_stumble_89 (lv_at hl 0 rfl) ?_
              refine r_get (C := RX8) (T := TX8) (N := 8) (ci := 6) (v := .int (dv 36)) S in_X10_stumble_X8 G 8 rfl rfl 4 (by decide) lk_X10_stumble_137 rfl dX10_stumble_91 ?_
              refine lv_aload zx zb dX10_stumble_94 (lv_at hl 0 rfl) ?_
              refine r_get (C := RX8) (T := TX8) (N := 8) (ci := 6) (v := .int (dv 38)) S in_X10_stumble_X8 G 8 rfl rfl 6 (by decide) lk_X10_stumble_240 rfl dX10_stumble_96 ?_
              refine lv_iload_n zx zb dX10_stumble_99 rfl (lv_at hl 4 rfl) ?_
              refine o_rl (cells' := 0) (slots' := 0) G rfl rfl (n_SN (As := [.ref (xa 11), .int (dv 36), .int (dv 38), .int 1]) (rest := []) (host := "EggSpoons") S G (s_ways1 l X (xa 11) v_108 (dv 36) (dv 38) H.size) gX10_stumble_X3_ways_n243 rfl rfl rfl mm_X10_stumble_inX3 G.1.2.2.2.2.2.2.2.2.2.2.2 mm_X10_stumble_stX3_ways hdS_X3_ways ⟨Nat.le_of_ble_eq_true rfl, Nat.le_of_ble_eq_true rfl⟩ [18] rfl rfl rfl hl.1 (Nat.le_of_ble_eq_true rfl) dX10_stumble_100 ⟨Nat.le_of_ble_eq_true rfl, Nat.le_of_ble_eq_true rfl⟩) (fun r_109 u_109 H locs hp_109 G => ?_)
              have G : wd X (va_A (@HAppend.hAppend va_W va_W va_W _ (xW h0 nw sp xa la lb) (@HAppend.hAppend va_W va_W va_W _ (rcV X nw an sv dv n0 n1 n2 n3 n4 g0 gs gn gm) (@HAppend.hAppend va_W va_W va_W _ (odW (xa 11) vo) ([((xa 5), .inl (X.2.1, 3, .inl fr))])))) sz) (va_A (@HAppend.hAppend va_W va_W va_W _ (xW h0 nw sp xa la lb) (@HAppend.hAppend va_W va_W va_W _ (rcV X nw an sv dv n0 n1 n2 n3 n4 g0 gs gn gm) (@HAppend.hAppend va_W va_W va_W _ (odW (xa 11) vo) ([((xa 5), .inl (X.2.1, 3, .inl fr))])))) sz) s (@HAppend.hAppend va_W va_W va_W _ (xW h0 nw sp xa la lb) (@HAppend.hAppend va_W va_W va_W _ (rcV X nw an sv dv n0 n1 n2 n3 n4 g0 gs gn gm) (@HAppend.hAppend va_W va_W va_W _ ([((xa 5), .inl (X.2.1, 3, .inl fr))]) (odW (xa 11) v_108)))) H locs := G
              refine lv_lstore (lv' := [(6, .long r_109), (5, .ref (an 6)), (0, .ref h0), (1, .int 5), (2, .int x2), (3, .int 1), (4, .int x4)]) zx zb dX10_stumble_103 hl (by decide) rfl (fun ls hl => ?_)
              refine lv_iload_n zx zb dX10_stumble_105 rfl (lv_at hl 5 rfl) ?_
              refine o_rl (cells' := 0) (slots' := 0) G rfl rfl (n_S (As := [.int 1]) (rest := []) S G (s_tenTo l X 1 (by omega) H.size) gX10_stumble_X3_tenTo rfl rfl rfl hdS_X3_tenTo ⟨Nat.le_of_ble_eq_true rfl, Nat.le_of_ble_eq_true rfl⟩ [] rfl rfl rfl hl.1 (Nat.le_of_ble_eq_true rfl) dX10_stumble_106 ⟨Nat.le_of_ble_eq_true rfl, Nat.le_of_ble_eq_true rfl⟩) (fun r_110 u_110 H locs hp_110 G => ?_)
              have G : wd X (va_A (@HAppend.hAppend va_W va_W va_W _ (xW h0 nw sp xa la lb) (@HAppend.hAppend va_W va_W va_W _ (rcV X nw an sv dv n0 n1 n2 n3 n4 g0 gs gn gm) (@HAppend.hAppend va_W va_W va_W _ (odW (xa 11) vo) ([((xa 5), .inl (X.2.1, 3, .inl fr))])))) sz) (va_A (@HAppend.hAppend va_W va_W va_W _ (xW h0 nw sp xa la lb) (@HAppend.hAppend va_W va_W va_W _ (rcV X nw an sv dv n0 n1 n2 n3 n4 g0 gs gn gm) (@HAppend.hAppend va_W va_W va_W _ (odW (xa 11) vo) ([((xa 5), .inl (X.2.1, 3, .inl fr))])))) sz) s (@HAppend.hAppend va_W va_W va_W _ (xW h0 nw sp xa la lb) (@HAppend.hAppend va_W va_W va_W _ (rcV X nw an sv dv n0 n1 n2 n3 n4 g0 gs gn gm) (@HAppend.hAppend va_W va_W va_W _ ([((xa 5), .inl (X.2.1, 3, .inl fr))]) (odW (xa 11) v_108)))) H locs := G
              refine lv_lstore (lv' := [(8, .long r_110), (6, .long r_109), (5, .ref (an 6)), (0, .ref h0), (1, .int 5), (2, .int x2), (3, .int 1), (4, .int x4)]) zx zb dX10_stumble_109 hl (by decide) rfl (fun ls hl => ?_)
              refine lv_lload zx zb dX10_stumble_111 (lv_at hl 1 rfl) ?_
              refine lv_lload zx zb dX10_stumble_113 (lv_at hl 0 rfl) ?_
              refine o_rl (cells' := 0) (slots' := 0) G rfl rfl (n_S (As := [.long r_109, .long r_110]) (rest := []) S G (s_commonPart l X r_109 r_110 H.size) gX10_stumble_X3_commonPart rfl rfl rfl hdS_X3_commonPart ⟨Nat.le_of_ble_eq_true rfl, Nat.le_of_ble_eq_true rfl⟩ [] rfl rfl rfl hl.1 (Nat.le_of_ble_eq_true rfl) dX10_stumble_115 ⟨Nat.le_of_ble_eq_true rfl, Nat.le_of_ble_eq_true rfl⟩) (fun r_111 u_111 H locs hp_111 G => ?_)
              have G : wd X (va_A (@HAppend.hAppend va_W va_W va_W _ (xW h0 nw sp xa la lb) (@HAppend.hAppend va_W va_W va_W _ (rcV X nw an sv dv n0 n1 n2 n3 n4 g0 gs gn gm) (@HAppend.hAppend va_W va_W va_W _ (odW (xa 11) vo) ([((xa 5), .inl (X.2.1, 3, .inl fr))])))) sz) (va_A (@HAppend.hAppend va_W va_W va_W _ (xW h0 nw sp xa la lb) (@HAppend.hAppend va_W va_W va_W _ (rcV X nw an sv dv n0 n1 n2 n3 n4 g0 gs gn gm) (@HAppend.hAppend va_W va_W va_W _ (odW (xa 11) vo) ([((xa 5), .inl (X.2.1, 3, .inl fr))])))) sz) s (@HAppend.hAppend va_W va_W va_W _ (xW h0 nw sp xa la lb) (@HAppend.hAppend va_W va_W va_W _ (rcV X nw an sv dv n0 n1 n2 n3 n4 g0 gs gn gm) (@HAppend.hAppend va_W va_W va_W _ ([((xa 5), .inl (X.2.1, 3, .inl fr))]) (odW (xa 11) v_108)))) H locs := G
              refine lv_lstore (lv' := [(10, .long r_111), (8, .long r_110), (6, .long r_109), (5, .ref (an 6)), (0, .ref h0), (1, .int 5), (2, .int x2), (3, .int 1), (4, .int x4)]) zx zb dX10_stumble_118 hl (by decide) rfl (fun ls hl => ?_)
              refine lv_lload zx zb dX10_stumble_120 (lv_at hl 0 rfl) ?_
              refine lv_lconst (v := (Int32.toInt64 0)) zx zb dX10_stumble_122 (by decide) ?_
              refine W.lcmp zx zb dX10_stumble_123 ?_
              refine k_cutW (PP := fun Wx => ∀ (la_113 : Int64) (lb_114 : Int64) (H : Heap) (locs : List Loc) (ls : Array Slot), wd X (va_A (@HAppend.hAppend va_W va_W va_W _ (xW h0 nw sp xa la lb) (@HAppend.hAppend va_W va_W va_W _ (rcV X nw an sv dv n0 n1 n2 n3 n4 g0 gs gn gm) (@HAppend.hAppend va_W va_W va_W _ (odW (xa 11) vo) ([((xa 5), .inl (X.2.1, 3, .inl fr))])))) sz) (va_A (@HAppend.hAppend va_W va_W va_W _ (xW h0 nw sp xa la lb) (@HAppend.hAppend va_W va_W va_W _ (rcV X nw an sv dv n0 n1 n2 n3 n4 g0 gs gn gm) (@HAppend.hAppend va_W va_W va_W _ (odW (xa 11) vo) ([((xa 5), .inl (X.2.1, 3, .inl fr))])))) sz) s (@HAppend.hAppend va_W va_W va_W _ (xW h0 nw sp xa la_113 lb_114) (@HAppend.hAppend va_W va_W va_W _ (rcV X nw an sv dv n0 n1 n2 n3 n4 g0 gs gn gm) (@HAppend.hAppend va_W va_W va_W _ ([((xa 5), .inl (X.2.1, 3, .inl fr))]) (odW (xa 11) v_108)))) H locs → lv_has ls 12 [(10, .long r_111), (8, .long r_110), (6, .long r_109), (5, .ref (an 6)), (0, .ref h0), (1, .int 5), (2, .int x2), (3, .int 1), (4, .int x4)] → Wx (F0 m 145 ls []) H locs) ?_ ?_
              · intro join_124
                refine lv_if_le (tgt := 145) zx zb dX10_stumble_124 (by decide) (fun c_112 => ?_) (fun c_112 => ?_)
                · exact join_124 la lb _ _ _  G hl
                · refine lv_aload_n zx zb dX10_stumble_127 rfl (lv_at hl 4 rfl) ?_
                  refine lv_lload zx zb dX10_stumble_128 (lv_at hl 2 rfl) ?_
                  refine lv_lload zx zb dX10_stumble_130 (lv_at hl 0 rfl) ?_
                  refine lv_ldiv zx zb dX10_stumble_132 (k_lnz2 c_112) ?_
                  refine k_ldE (fun y_115 => ?_)
                  refine r_put (C := RX10) (T := TX10) (N := 14) (ci := 8) (v := .long y_115) S in_X10_stumble_X10 tyX10_ok nmX10 G 0 rfl rfl 6 (by decide) lk_X10_stumble_38 rfl rfl rfl (Nat.le_of_ble_eq_true rfl) dX10_stumble_133 (fun H locs G => ?_)
                  have G : wd X (va_A (@HAppend.hAppend va_W va_W va_W _ (xW h0 nw sp xa la lb) (@HAppend.hAppend va_W va_W va_W _ (rcV X nw an sv dv n0 n1 n2 n3 n4 g0 gs gn gm) (@HAppend.hAppend va_W va_W va_W _ (odW (xa 11) vo) ([((xa 5), .inl (X.2.1, 3, .inl fr))])))) sz) (va_A (@HAppend.hAppend va_W va_W va_W _ (xW h0 nw sp xa la lb) (@HAppend.hAppend va_W va_W va_W _ (rcV X nw an sv dv n0 n1 n2 n3 n4 g0 gs gn gm) (@HAppend.hAppend va_W va_W va_W _ (odW (xa 11) vo) ([((xa 5), .inl (X.2.1, 3, .inl fr))])))) sz) s (@HAppend.hAppend va_W va_W va_W _ (xW h0 nw sp xa y_115 lb) (@HAppend.hAppend va_W va_W va_W _ (rcV X nw an sv dv n0 n1 n2 n3 n4 g0 gs gn gm) (@HAppend.hAppend va_W va_W va_W _ ([((xa 5), .inl (X.2.1, 3, .inl fr))]) (odW (xa 11) v_108)))) H locs := G
                  refine lv_aload_n zx zb dX10_stumble_136 rfl (lv_at hl 4 rfl) ?_
                  refine lv_lload zx zb dX10_stumble_137 (lv_at hl 1 rfl) ?_
                  refine lv_lload zx zb dX10_stumble_139 (lv_at hl 0 rfl) ?_
                  refine lv_ldiv zx zb dX10_stumble_141 (k_lnz2 c_112) ?_
                  refine k_ldE (fun y_116 => ?_)
                  refine r_put (C := RX10) (T := TX10) (N := 14) (ci := 8) (v := .long y_116) S in_X10_stumble_X10 tyX10_ok nmX10 G 0 rfl rfl 7 (by decide) lk_X10_stumble_42 rfl rfl rfl (Nat.le_of_ble_eq_true rfl) dX10_stumble_142 (fun H locs G => ?_)
                  have G : wd X (va_A (@HAppend.hAppend va_W va_W va_W _ (xW h0 nw sp xa la lb) (@HAppend.hAppend va_W va_W va_W _ (rcV X nw an sv dv n0 n1 n2 n3 n4 g0 gs gn gm) (@HAppend.hAppend va_W va_W va_W _ (odW (xa 11) vo) ([((xa 5), .inl (X.2.1, 3, .inl fr))])))) sz) (va_A (@HAppend.hAppend va_W va_W va_W _ (xW h0 nw sp xa la lb) (@HAppend.hAppend va_W va_W va_W _ (rcV X nw an sv dv n0 n1 n2 n3 n4 g0 gs gn gm) (@HAppend.hAppend va_W va_W va_W _ (odW (xa 11) vo) ([((xa 5), .inl (X.2.1, 3, .inl fr))])))) sz) s (@HAppend.hAppend va_W va_W va_W _ (xW h0 nw sp xa y_115 y_116) (@HAppend.hAppend va_W va_W va_W _ (rcV X nw an sv dv n0 n1 n2 n3 n4 g0 gs gn gm) (@HAppend.hAppend va_W va_W va_W _ ([((xa 5), .inl (X.2.1, 3, .inl fr))]) (odW (xa 11) v_108)))) H locs := G
                  exact join_124 y_115 y_116 _ _ _  G hl
              · intro la_113 lb_114 H locs ls  G hl
                refine lv_iconst (v := 1) zx zb dX10_stumble_145 (by decide) ?_
                exact e_int S zr zlk (vp_nar_int _) G (la_113, lb_114, v_108, fr) [0, 1, 2, 3, 4, 5, 6, 7, 8, 9, 10, 11, 12, 13, 14, 15, 16, 18, 17] rfl rfl (Or.inr rfl) ((stuF_p ⟨⟨_, hj_1, rfl⟩, hw_3, hw_5, hw_7⟩).symm) dX10_stumble_146
          · have hl : lv_has ls 12 [(0, .ref h0), (1, .int (nI j_1)), (2, .int x2), (3, .int 2), (4, .int x4)] := hl
            refine lv_aload_n zx zb dX10_stumble_46 rfl (lv_at hl 0 rfl) ?_
            refine r_get (C := RX10) (T := TX10) (N := 14) (ci := 8) (v := .ref nw) S in_X10_stumble_X10 G 0 rfl rfl 0 (by decide) lk_X10_stumble_10 rfl dX10_stumble_47 ?_
            refine r_get (C := RX5) (T := TX5) (N := 8) (ci := 3) (v := .ref (an 0)) S in_X10_stumble_X5 G 1 rfl rfl 3 (by decide) lk_X10_stumble_126 rfl dX10_stumble_50 ?_
            refine lv_iload_n zx zb dX10_stumble_53 rfl (lv_at hl 1 rfl) ?_
            rcases k_6c (show j_1 < 6 by omega) with rfl | rfl | rfl | rfl | rfl | rfl
            · refine k_it (v := 0) rfl ?_
              refine r_aald (C := RX8) (b := (an 1)) S G 2 3 rfl rfl (k_vp (by decide)) rfl dX10_stumble_54 ?_
              refine lv_astore (lv' := [(5, .ref (an 1)), (0, .ref h0), (1, .int 0), (2, .int x2), (3, .int 2), (4, .int x4)]) zx zb dX10_stumble_55 hl (by decide) rfl (fun ls hl => ?_)
              refine lv_aload_n zx zb dX10_stumble_57 rfl (lv_at hl 1 rfl) ?_
              refine r_get (C := RX10) (T := TX10) (N := 14) (ci := 8) (v := .ref (xa 11)) S in_X10_stumble_X10 G 0 rfl rfl 11 (by decide) lk_X10_stumble_65 rfl dX10_stumble_58 ?_
              refine lv_aload zx zb dX10_stumble_61 (lv_at hl 0 rfl) ?_
              refine lv_aload_n zx zb dX10_stumble_63 rfl (lv_at hl 1 rfl) ?_
              refine r_get (C := RX10) (T := TX10) (N := 14) (ci := 8) (v := .ref nw) S in_X10_stumble_X10 G 0 rfl rfl 0 (by decide) lk_X10_stumble_10 rfl dX10_stumble_64 ?_
              refine r_get (C := RX5) (T := TX5) (N := 8) (ci := 3) (v := .int (dv 0)) S in_X10_stumble_X5 G 1 rfl rfl 0 (by decide) lk_X10_stumble_140 rfl dX10_stumble_67 ?_
              refine lv_aload_n zx zb dX10_stumble_70 rfl (lv_at hl 1 rfl) ?_
              refine r_get (C := RX10) (T := TX10) (N := 14) (ci := 8) (v := .ref nw) S in_X10_stumble_X10 G 0 rfl rfl 0 (by decide) lk_X10_stumble_10 rfl dX10_stumble_71 ?_
              refine r_get (C := RX5) (T := TX5) (N := 8) (ci := 3) (v := .int (dv 1)) S in_X10_stumble_X5 G 1 rfl rfl 1 (by decide) lk_X10_stumble_110 rfl dX10_stumble_74 ?_
              refine lv_iload_n zx zb dX10_stumble_77 rfl (lv_at hl 4 rfl) ?_
              refine r_iadd (v := ((dv 1) + 2)) S rfl dX10_stumble_78 ?_
              refine lv_iload_n zx zb dX10_stumble_79 rfl (lv_at hl 3 rfl) ?_
              refine lv_iload zx zb dX10_stumble_80 (lv_at hl 5 rfl) ?_
              refine b_wv (cells' := 0) (slots' := 0) (wr := @HAppend.hAppend va_W va_W va_W _ (xW h0 nw sp xa la lb) (@HAppend.hAppend va_W va_W va_W _ ([(nw, .inr (3, [.int (dv 0), .int (dv 1), .int (nI n0), .ref (an 0), .ref (an 7), .ref (an 9), .ref (an 11), .ref (an 13)])), ((an 0), .inl (X.2.2.2.2, 6, .inr (.inr (.inr (.inr (rowQ an)))))), ((an 2), .inr (6, [.int (sv 3), .int (sv 4), .int (sv 5), .int (dv 15), .int (dv 16), .int (dv 17), .int (dv 18), .int (dv 19)])), ((an 3), .inr (6, [.int (sv 6), .int (sv 7), .int (sv 8), .int (dv 20), .int (dv 21), .int (dv 22), .int (dv 23), .int (dv 24)])), ((an 4), .inr (6, [.int (sv 9), .int (sv 10), .int (sv 11), .int (dv 25), .int (dv 26), .int (dv 27), .int (dv 28), .int (dv 29)])), ((an 5), .inr (6, [.int (sv 12), .int (sv 13), .int (sv 14), .int (dv 30), .int (dv 31), .int (dv 32), .int (dv 33), .int (dv 34)])), ((an 6), .inr (6, [.int (sv 15), .int (sv 16), .int (sv 17), .int (dv 35), .int (dv 36), .int (dv 37), .int (dv 38), .int (dv 39)])), ((an 7), .inr (2, [.ref (an 8), .int (nI n1)])), ((an 8), .inl (X.2.1, 248, .inl g0)), ((an 9), .inr (5, [.int 5, .int 0, .int 1, .ref (an 10), .int (nI n2)])), ((an 10), .inl (X.2.1, 25, .inl gs)), ((an 11), .inr (5, [.int 6, .int 1, .int 1, .ref (an 12), .int (nI n3)])), ((an 12), .inl (X.2.1, 30, .inl gn)), ((an 13), .inr (5, [.int 6, .int 0, .int 0, .ref (an 14), .int (nI n4)])), ((an 14), .inl (X.2.1, 30, .inl gm))]) ([((xa 5), .inl (X.2.1, 3, .inl fr))]))) G rfl rfl [17, 3] [0, 1, 2, 4, 5, 6, 7, 8, 9, 10, 11, 12, 13, 14, 15, 16, 18] rfl rfl rfl rfl (n_V (As := [.ref (an 1), .int (dv 0), .int ((dv 1) + 2), .int x2, .int x4]) (rest := []) (C := RX3) (T := TX3) (N := 8) (ci := 1) S G (s_pose l X (xa 11) vo (an 1) (fun k => sv (0 + k)) (fun k => dv (10 + k)) (dv 0) ((dv 1) + 2) x2 x4 H.size) gX10_stumble_X3_pose rfl rfl rfl hdV_X3_pose ⟨Nat.le_of_ble_eq_true rfl, Nat.le_of_ble_eq_true rfl⟩ [17, 3] rfl rfl 17 rfl rfl rfl hl.1 (Nat.le_of_ble_eq_true rfl) dX10_stumble_82 ⟨Nat.le_of_ble_eq_true rfl, Nat.le_of_ble_eq_true rfl⟩) (fun u_117 H locs hp_117 G => ?_)
              obtain ⟨v_117, rfl⟩ : ∃ z, z = u_117 := ⟨_, rfl⟩
              have hq_117 := hp_117
              have G : wd X (va_A (@HAppend.hAppend va_W va_W va_W _ (xW h0 nw sp xa la lb) (@HAppend.hAppend va_W va_W va_W _ (rcV X nw an sv dv n0 n1 n2 n3 n4 g0 gs gn gm) (@HAppend.hAppend va_W va_W va_W _ (odW (xa 11) vo) ([((xa 5), .inl (X.2.1, 3, .inl fr))])))) sz) (va_A (@HAppend.hAppend va_W va_W va_W _ (xW h0 nw sp xa la lb) (@HAppend.hAppend va_W va_W va_W _ (rcV X nw an sv dv n0 n1 n2 n3 n4 g0 gs gn gm) (@HAppend.hAppend va_W va_W va_W _ (odW (xa 11) vo) ([((xa 5), .inl (X.2.1, 3, .inl fr))])))) sz) s (@HAppend.hAppend va_W va_W va_W _ (xW h0 nw sp xa la lb) (@HAppend.hAppend va_W va_W va_W _ (rcV X nw an sv dv n0 n1 n2 n3 n4 g0 gs gn gm) (@HAppend.hAppend va_W va_W va_W _ ([((xa 5), .inl (X.2.1, 3, .inl fr))]) (odW (xa 11) v_117)))) H locs := wd_sub G [0, 1, 2, 18, 3, 4, 5, 6, 7, 8, 9, 10, 11, 12, 13, 14, 15, 16, 17] rfl rfl
              refine lv_aload_n zx zb dX10_stumble_85 rfl (lv_at hl 1 rfl) ?_
              refine r_get (C := RX10) (T := TX10) (N := 14) (ci := 8) (v := .ref (xa 11)) S in_X10_stumble_X10 G 0 rfl rfl 11 (by decide) lk_X10_stumble_65 rfl dX10_stumble_86 ?_
              refine lv_aload zx zb dX10_stumble_89 (lv_at hl 0 rfl) ?_
              refine r_get (C := RX8) (T := TX8) (N := 8) (ci := 6) (v := .int (dv 11)) S in_X10_stumble_X8 G 3 rfl rfl 4 (by decide) lk_X10_stumble_137 rfl dX10_stumble_91 ?_
              refine lv_aload zx zb dX10_stumble_94 (lv_at hl 0 rfl) ?_
              refine r_get (C := RX8) (T := TX8) (N := 8) (ci := 6) (v := .int (dv 13)) S in_X10_stumble_X8 G 3 rfl rfl 6 (by decide) lk_X10_stumble_240 rfl dX10_stumble_96 ?_
              refine lv_iload_n zx zb dX10_stumble_99 rfl (lv_at hl 4 rfl) ?_
              refine o_rl (cells' := 0) (slots' := 0) G rfl rfl (n_SN (As := [.ref (xa 11), .int (dv 11), .int (dv 13), .int 2]) (rest := []) (host := "EggSpoons") S G (s_ways2 l X (xa 11) v_117 (dv 11) (dv 13) H.size) gX10_stumble_X3_ways_n243 rfl rfl rfl mm_X10_stumble_inX3 G.1.2.2.2.2.2.2.2.2.2.2.2 mm_X10_stumble_stX3_ways hdS_X3_ways ⟨Nat.le_of_ble_eq_true rfl, Nat.le_of_ble_eq_true rfl⟩ [18] rfl rfl rfl hl.1 (Nat.le_of_ble_eq_true rfl) dX10_stumble_100 ⟨Nat.le_of_ble_eq_true rfl, Nat.le_of_ble_eq_true rfl⟩) (fun r_118 u_118 H locs hp_118 G => ?_)
              have G : wd X (va_A (@HAppend.hAppend va_W va_W va_W _ (xW h0 nw sp xa la lb) (@HAppend.hAppend va_W va_W va_W _ (rcV X nw an sv dv n0 n1 n2 n3 n4 g0 gs gn gm) (@HAppend.hAppend va_W va_W va_W _ (odW (xa 11) vo) ([((xa 5), .inl (X.2.1, 3, .inl fr))])))) sz) (va_A (@HAppend.hAppend va_W va_W va_W _ (xW h0 nw sp xa la lb) (@HAppend.hAppend va_W va_W va_W _ (rcV X nw an sv dv n0 n1 n2 n3 n4 g0 gs gn gm) (@HAppend.hAppend va_W va_W va_W _ (odW (xa 11) vo) ([((xa 5), .inl (X.2.1, 3, .inl fr))])))) sz) s (@HAppend.hAppend va_W va_W va_W _ (xW h0 nw sp xa la lb) (@HAppend.hAppend va_W va_W va_W _ (rcV X nw an sv dv n0 n1 n2 n3 n4 g0 gs gn gm) (@HAppend.hAppend va_W va_W va_W _ ([((xa 5), .inl (X.2.1, 3, .inl fr))]) (odW (xa 11) v_117)))) H locs := G
              refine lv_lstore (lv' := [(6, .long r_118), (5, .ref (an 1)), (0, .ref h0), (1, .int 0), (2, .int x2), (3, .int 2), (4, .int x4)]) zx zb dX10_stumble_103 hl (by decide) rfl (fun ls hl => ?_)
              refine lv_iload_n zx zb dX10_stumble_105 rfl (lv_at hl 5 rfl) ?_
              refine o_rl (cells' := 0) (slots' := 0) G rfl rfl (n_S (As := [.int 2]) (rest := []) S G (s_tenTo l X 2 (by omega) H.size) gX10_stumble_X3_tenTo rfl rfl rfl hdS_X3_tenTo ⟨Nat.le_of_ble_eq_true rfl, Nat.le_of_ble_eq_true rfl⟩ [] rfl rfl rfl hl.1 (Nat.le_of_ble_eq_true rfl) dX10_stumble_106 ⟨Nat.le_of_ble_eq_true rfl, Nat.le_of_ble_eq_true rfl⟩) (fun r_119 u_119 H locs hp_119 G => ?_)
              have G : wd X (va_A (@HAppend.hAppend va_W va_W va_W _ (xW h0 nw sp xa la lb) (@HAppend.hAppend va_W va_W va_W _ (rcV X nw an sv dv n0 n1 n2 n3 n4 g0 gs gn gm) (@HAppend.hAppend va_W va_W va_W _ (odW (xa 11) vo) ([((xa 5), .inl (X.2.1, 3, .inl fr))])))) sz) (va_A (@HAppend.hAppend va_W va_W va_W _ (xW h0 nw sp xa la lb) (@HAppend.hAppend va_W va_W va_W _ (rcV X nw an sv dv n0 n1 n2 n3 n4 g0 gs gn gm) (@HAppend.hAppend va_W va_W va_W _ (odW (xa 11) vo) ([((xa 5), .inl (X.2.1, 3, .inl fr))])))) sz) s (@HAppend.hAppend va_W va_W va_W _ (xW h0 nw sp xa la lb) (@HAppend.hAppend va_W va_W va_W _ (rcV X nw an sv dv n0 n1 n2 n3 n4 g0 gs gn gm) (@HAppend.hAppend va_W va_W va_W _ ([((xa 5), .inl (X.2.1, 3, .inl fr))]) (odW (xa 11) v_117)))) H locs := G
              refine lv_lstore (lv' := [(8, .long r_119), (6, .long r_118), (5, .ref (an 1)), (0, .ref h0), (1, .int 0), (2, .int x2), (3, .int 2), (4, .int x4)]) zx zb dX10_stumble_109 hl (by decide) rfl (fun ls hl => ?_)
              refine lv_lload zx zb dX10_stumble_111 (lv_at hl 1 rfl) ?_
              refine lv_lload zx zb dX10_stumble_113 (lv_at hl 0 rfl) ?_
              refine o_rl (cells' := 0) (slots' := 0) G rfl rfl (n_S (As := [.long r_118, .long r_119]) (rest := []) S G (s_commonPart l X r_118 r_119 H.size) gX10_stumble_X3_commonPart rfl rfl rfl hdS_X3_commonPart ⟨Nat.le_of_ble_eq_true rfl, Nat.le_of_ble_eq_true rfl⟩ [] rfl rfl rfl hl.1 (Nat.le_of_ble_eq_true rfl) dX10_stumble_115 ⟨Nat.le_of_ble_eq_true rfl, Nat.le_of_ble_eq_true rfl⟩) (fun r_120 u_120 H locs hp_120 G => ?_)
              have G : wd X (va_A (@HAppend.hAppend va_W va_W va_W _ (xW h0 nw sp xa la lb) (@HAppend.hAppend va_W va_W va_W _ (rcV X nw an sv dv n0 n1 n2 n3 n4 g0 gs gn gm) (@HAppend.hAppend va_W va_W va_W _ (odW (xa 11) vo) ([((xa 5), .inl (X.2.1, 3, .inl fr))])))) sz) (va_A (@HAppend.hAppend va_W va_W va_W _ (xW h0 nw sp xa la lb) (@HAppend.hAppend va_W va_W va_W _ (rcV X nw an sv dv n0 n1 n2 n3 n4 g0 gs gn gm) (@HAppend.hAppend va_W va_W va_W _ (odW (xa 11) vo) ([((xa 5), .inl (X.2.1, 3, .inl fr))])))) sz) s (@HAppend.hAppend va_W va_W va_W _ (xW h0 nw sp xa la lb) (@HAppend.hAppend va_W va_W va_W _ (rcV X nw an sv dv n0 n1 n2 n3 n4 g0 gs gn gm) (@HAppend.hAppend va_W va_W va_W _ ([((xa 5), .inl (X.2.1, 3, .inl fr))]) (odW (xa 11) v_117)))) H locs := G
              refine lv_lstore (lv' := [(10, .long r_120), (8, .long r_119), (6, .long r_118), (5, .ref (an 1)), (0, .ref h0), (1, .int 0), (2, .int x2), (3, .int 2), (4, .int x4)]) zx zb dX10_stumble_118 hl (by decide) rfl (fun ls hl => ?_)
              refine lv_lload zx zb dX10_stumble_120 (lv_at hl 0 rfl) ?_
              refine lv_lconst (v := (Int32.toInt64 0)) zx zb dX10_stumble_122 (by decide) ?_
              refine W.lcmp zx zb dX10_stumble_123 ?_
              refine k_cutW (PP := fun Wx => ∀ (la_122 : Int64) (lb_123 : Int64) (H : Heap) (locs : List Loc) (ls : Array Slot), wd X (va_A (@HAppend.hAppend va_W va_W va_W _ (xW h0 nw sp xa la lb) (@HAppend.hAppend va_W va_W va_W _ (rcV X nw an sv dv n0 n1 n2 n3 n4 g0 gs gn gm) (@HAppend.hAppend va_W va_W va_W _ (odW (xa 11) vo) ([((xa 5), .inl (X.2.1, 3, .inl fr))])))) sz) (va_A (@HAppend.hAppend va_W va_W va_W _ (xW h0 nw sp xa la lb) (@HAppend.hAppend va_W va_W va_W _ (rcV X nw an sv dv n0 n1 n2 n3 n4 g0 gs gn gm) (@HAppend.hAppend va_W va_W va_W _ (odW (xa 11) vo) ([((xa 5), .inl (X.2.1, 3, .inl fr))])))) sz) s (@HAppend.hAppend va_W va_W va_W _ (xW h0 nw sp xa la_122 lb_123) (@HAppend.hAppend va_W va_W va_W _ (rcV X nw an sv dv n0 n1 n2 n3 n4 g0 gs gn gm) (@HAppend.hAppend va_W va_W va_W _ ([((xa 5), .inl (X.2.1, 3, .inl fr))]) (odW (xa 11) v_117)))) H locs → lv_has ls 12 [(10, .long r_120), (8, .long r_119), (6, .long r_118), (5, .ref (an 1)), (0, .ref h0), (1, .int 0), (2, .int x2), (3, .int 2), (4, .int x4)] → Wx (F0 m 145 ls []) H locs) ?_ ?_
              · intro join_124
                refine lv_if_le (tgt := 145) zx zb dX10_stumble_124 (by decide) (fun c_121 => ?_) (fun c_121 => ?_)
                · exact join_124 la lb _ _ _  G hl
                · refine lv_aload_n zx zb dX10_stumble_127 rfl (lv_at hl 4 rfl) ?_
                  refine lv_lload zx zb dX10_stumble_128 (lv_at hl 2 rfl) ?_
                  refine lv_lload zx zb dX10_stumble_130 (lv_at hl 0 rfl) ?_
                  refine lv_ldiv zx zb dX10_stumble_132 (k_lnz2 c_121) ?_
                  refine k_ldE (fun y_124 => ?_)
                  refine r_put (C := RX10) (T := TX10) (N := 14) (ci := 8) (v := .long y_124) S in_X10_stumble_X10 tyX10_ok nmX10 G 0 rfl rfl 6 (by decide) lk_X10_stumble_38 rfl rfl rfl (Nat.le_of_ble_eq_true rfl) dX10_stumble_133 (fun H locs G => ?_)
                  have G : wd X (va_A (@HAppend.hAppend va_W va_W va_W _ (xW h0 nw sp xa la lb) (@HAppend.hAppend va_W va_W va_W _ (rcV X nw an sv dv n0 n1 n2 n3 n4 g0 gs gn gm) (@HAppend.hAppend va_W va_W va_W _ (odW (xa 11) vo) ([((xa 5), .inl (X.2.1, 3, .inl fr))])))) sz) (va_A (@HAppend.hAppend va_W va_W va_W _ (xW h0 nw sp xa la lb) (@HAppend.hAppend va_W va_W va_W _ (rcV X nw an sv dv n0 n1 n2 n3 n4 g0 gs gn gm) (@HAppend.hAppend va_W va_W va_W _ (odW (xa 11) vo) ([((xa 5), .inl (X.2.1, 3, .inl fr))])))) sz) s (@HAppend.hAppend va_W va_W va_W _ (xW h0 nw sp xa y_124 lb) (@HAppend.hAppend va_W va_W va_W _ (rcV X nw an sv dv n0 n1 n2 n3 n4 g0 gs gn gm) (@HAppend.hAppend va_W va_W va_W _ ([((xa 5), .inl (X.2.1, 3, .inl fr))]) (odW (xa 11) v_117)))) H locs := G
                  refine lv_aload_n zx zb dX10_stumble_136 rfl (lv_at hl 4 rfl) ?_
                  refine lv_lload zx zb dX10_stumble_137 (lv_at hl 1 rfl) ?_
                  refine lv_lload zx zb dX10_stumble_139 (lv_at hl 0 rfl) ?_
                  refine lv_ldiv zx zb dX10_stumble_141 (k_lnz2 c_121) ?_
                  refine k_ldE (fun y_125 => ?_)
                  refine r_put (C := RX10) (T := TX10) (N := 14) (ci := 8) (v := .long y_125) S in_X10_stumble_X10 tyX10_ok nmX10 G 0 rfl rfl 7 (by decide) lk_X10_stumble_42 rfl rfl rfl (Nat.le_of_ble_eq_true rfl) dX10_stumble_142 (fun H locs G => ?_)
                  have G : wd X (va_A (@HAppend.hAppend va_W va_W va_W _ (xW h0 nw sp xa la lb) (@HAppend.hAppend va_W va_W va_W _ (rcV X nw an sv dv n0 n1 n2 n3 n4 g0 gs gn gm) (@HAppend.hAppend va_W va_W va_W _ (odW (xa 11) vo) ([((xa 5), .inl (X.2.1, 3, .inl fr))])))) sz) (va_A (@HAppend.hAppend va_W va_W va_W _ (xW h0 nw sp xa la lb) (@HAppend.hAppend va_W va_W va_W _ (rcV X nw an sv dv n0 n1 n2 n3 n4 g0 gs gn gm) (@HAppend.hAppend va_W va_W va_W _ (odW (xa 11) vo) ([((xa 5), .inl (X.2.1, 3, .inl fr))])))) sz) s (@HAppend.hAppend va_W va_W va_W _ (xW h0 nw sp xa y_124 y_125) (@HAppend.hAppend va_W va_W va_W _ (rcV X nw an sv dv n0 n1 n2 n3 n4 g0 gs gn gm) (@HAppend.hAppend va_W va_W va_W _ ([((xa 5), .inl (X.2.1, 3, .inl fr))]) (odW (xa 11) v_117)))) H locs := G
                  exact join_124 y_124 y_125 _ _ _  G hl
              · intro la_122 lb_123 H locs ls  G hl
                refine lv_iconst (v := 1) zx zb dX10_stumble_145 (by decide) ?_
                exact e_int S zr zlk (vp_nar_int _) G (la_122, lb_123, v_117, fr) [0, 1, 2, 3, 4, 5, 6, 7, 8, 9, 10, 11, 12, 13, 14, 15, 16, 18, 17] rfl rfl (Or.inr rfl) ((stuF_p ⟨⟨_, hj_1, rfl⟩, hw_3, hw_5, hw_7⟩).symm) dX10_stumble_146
            · refine k_it (v := 1) rfl ?_
              refine r_aald (C := RX8) (b := (an 2)) S G 2 3 rfl rfl (k_vp (by decide)) rfl dX10_stumble_54 ?_
              refine lv_astore (lv' := [(5, .ref (an 2)), (0, .ref h0), (1, .int 1), (2, .int x2), (3, .int 2), (4, .int x4)]) zx zb dX10_stumble_55 hl (by decide) rfl (fun ls hl => ?_)
              refine lv_aload_n zx zb dX10_stumble_57 rfl (lv_at hl 1 rfl) ?_
              refine r_get (C := RX10) (T := TX10) (N := 14) (ci := 8) (v := .ref (xa 11)) S in_X10_stumble_X10 G 0 rfl rfl 11 (by decide) lk_X10_stumble_65 rfl dX10_stumble_58 ?_
              refine lv_aload zx zb dX10_stumble_61 (lv_at hl 0 rfl) ?_
              refine lv_aload_n zx zb dX10_stumble_63 rfl (lv_at hl 1 rfl) ?_
              refine r_get (C := RX10) (T := TX10) (N := 14) (ci := 8) (v := .ref nw) S in_X10_stumble_X10 G 0 rfl rfl 0 (by decide) lk_X10_stumble_10 rfl dX10_stumble_64 ?_
              refine r_get (C := RX5) (T := TX5) (N := 8) (ci := 3) (v := .int (dv 0)) S in_X10_stumble_X5 G 1 rfl rfl 0 (by decide) lk_X10_stumble_140 rfl dX10_stumble_67 ?_
              refine lv_aload_n zx zb dX10_stumble_70 rfl (lv_at hl 1 rfl) ?_
              refine r_get (C := RX10) (T := TX10) (N := 14) (ci := 8) (v := .ref nw) S in_X10_stumble_X10 G 0 rfl rfl 0 (by decide) lk_X10_stumble_10 rfl dX10_stumble_71 ?_
              refine r_get (C := RX5) (T := TX5) (N := 8) (ci := 3) (v := .int (dv 1)) S in_X10_stumble_X5 G 1 rfl rfl 1 (by decide) lk_X10_stumble_110 rfl dX10_stumble_74 ?_
              refine lv_iload_n zx zb dX10_stumble_77 rfl (lv_at hl 4 rfl) ?_
              refine r_iadd (v := ((dv 1) + 2)) S rfl dX10_stumble_78 ?_
              refine lv_iload_n zx zb dX10_stumble_79 rfl (lv_at hl 3 rfl) ?_
              refine lv_iload zx zb dX10_stumble_80 (lv_at hl 5 rfl) ?_
              refine b_wv (cells' := 0) (slots' := 0) (wr := @HAppend.hAppend va_W va_W va_W _ (xW h0 nw sp xa la lb) (@HAppend.hAppend va_W va_W va_W _ ([(nw, .inr (3, [.int (dv 0), .int (dv 1), .int (nI n0), .ref (an 0), .ref (an 7), .ref (an 9), .ref (an 11), .ref (an 13)])), ((an 0), .inl (X.2.2.2.2, 6, .inr (.inr (.inr (.inr (rowQ an)))))), ((an 1), .inr (6, [.int (sv 0), .int (sv 1), .int (sv 2), .int (dv 10), .int (dv 11), .int (dv 12), .int (dv 13), .int (dv 14)])), ((an 3), .inr (6, [.int (sv 6), .int (sv 7), .int (sv 8), .int (dv 20), .int (dv 21), .int (dv 22), .int (dv 23), .int (dv 24)])), ((an 4), .inr (6, [.int (sv 9), .int (sv 10), .int (sv 11), .int (dv 25), .int (dv 26), .int (dv 27), .int (dv 28), .int (dv 29)])), ((an 5), .inr (6, [.int (sv 12), .int (sv 13), .int (sv 14), .int (dv 30), .int (dv 31), .int (dv 32), .int (dv 33), .int (dv 34)])), ((an 6), .inr (6, [.int (sv 15), .int (sv 16), .int (sv 17), .int (dv 35), .int (dv 36), .int (dv 37), .int (dv 38), .int (dv 39)])), ((an 7), .inr (2, [.ref (an 8), .int (nI n1)])), ((an 8), .inl (X.2.1, 248, .inl g0)), ((an 9), .inr (5, [.int 5, .int 0, .int 1, .ref (an 10), .int (nI n2)])), ((an 10), .inl (X.2.1, 25, .inl gs)), ((an 11), .inr (5, [.int 6, .int 1, .int 1, .ref (an 12), .int (nI n3)])), ((an 12), .inl (X.2.1, 30, .inl gn)), ((an 13), .inr (5, [.int 6, .int 0, .int 0, .ref (an 14), .int (nI n4)])), ((an 14), .inl (X.2.1, 30, .inl gm))]) ([((xa 5), .inl (X.2.1, 3, .inl fr))]))) G rfl rfl [17, 4] [0, 1, 2, 3, 5, 6, 7, 8, 9, 10, 11, 12, 13, 14, 15, 16, 18] rfl rfl rfl rfl (n_V (As := [.ref (an 2), .int (dv 0), .int ((dv 1) + 2), .int x2, .int x4]) (rest := []) (C := RX3) (T := TX3) (N := 8) (ci := 1) S G (s_pose l X (xa 11) vo (an 2) (fun k => sv (3 + k)) (fun k => dv (15 + k)) (dv 0) ((dv 1) + 2) x2 x4 H.size) gX10_stumble_X3_pose rfl rfl rfl hdV_X3_pose ⟨Nat.le_of_ble_eq_true rfl, Nat.le_of_ble_eq_true rfl⟩ [17, 4] rfl rfl 17 rfl rfl rfl hl.1 (Nat.le_of_ble_eq_true rfl) dX10_stumble_82 ⟨Nat.le_of_ble_eq_true rfl, Nat.le_of_ble_eq_true rfl⟩) (fun u_126 H locs hp_126 G => ?_)
              obtain ⟨v_126, rfl⟩ : ∃ z, z = u_126 := ⟨_, rfl⟩
              have hq_126 := hp_126
              have G : wd X (va_A (@HAppend.hAppend va_W va_W va_W _ (xW h0 nw sp xa la lb) (@HAppend.hAppend va_W va_W va_W _ (rcV X nw an sv dv n0 n1 n2 n3 n4 g0 gs gn gm) (@HAppend.hAppend va_W va_W va_W _ (odW (xa 11) vo) ([((xa 5), .inl (X.2.1, 3, .inl fr))])))) sz) (va_A (@HAppend.hAppend va_W va_W va_W _ (xW h0 nw sp xa la lb) (@HAppend.hAppend va_W va_W va_W _ (rcV X nw an sv dv n0 n1 n2 n3 n4 g0 gs gn gm) (@HAppend.hAppend va_W va_W va_W _ (odW (xa 11) vo) ([((xa 5), .inl (X.2.1, 3, .inl fr))])))) sz) s (@HAppend.hAppend va_W va_W va_W _ (xW h0 nw sp xa la lb) (@HAppend.hAppend va_W va_W va_W _ (rcV X nw an sv dv n0 n1 n2 n3 n4 g0 gs gn gm) (@HAppend.hAppend va_W va_W va_W _ ([((xa 5), .inl (X.2.1, 3, .inl fr))]) (odW (xa 11) v_126)))) H locs := wd_sub G [0, 1, 2, 3, 18, 4, 5, 6, 7, 8, 9, 10, 11, 12, 13, 14, 15, 16, 17] rfl rfl
              refine lv_aload_n zx zb dX10_stumble_85 rfl (lv_at hl 1 rfl) ?_
              refine r_get (C := RX10) (T := TX10) (N := 14) (ci := 8) (v := .ref (xa 11)) S in_X10_stumble_X10 G 0 rfl rfl 11 (by decide) lk_X10_stumble_65 rfl dX10_stumble_86 ?_
              refine lv_aload zx zb dX10_stumble_89 (lv_at hl 0 rfl) ?_
              refine r_get (C := RX8) (T := TX8) (N := 8) (ci := 6) (v := .int (dv 16)) S in_X10_stumble_X8 G 4 rfl rfl 4 (by decide) lk_X10_stumble_137 rfl dX10_stumble_91 ?_
              refine lv_aload zx zb dX10_stumble_94 (lv_at hl 0 rfl) ?_
              refine r_get (C := RX8) (T := TX8) (N := 8) (ci := 6) (v := .int (dv 18)) S in_X10_stumble_X8 G 4 rfl rfl 6 (by decide) lk_X10_stumble_240 rfl dX10_stumble_96 ?_
              refine lv_iload_n zx zb dX10_stumble_99 rfl (lv_at hl 4 rfl) ?_
              refine o_rl (cells' := 0) (slots' := 0) G rfl rfl (n_SN (As := [.ref (xa 11), .int (dv 16), .int (dv 18), .int 2]) (rest := []) (host := "EggSpoons") S G (s_ways2 l X (xa 11) v_126 (dv 16) (dv 18) H.size) gX10_stumble_X3_ways_n243 rfl rfl rfl mm_X10_stumble_inX3 G.1.2.2.2.2.2.2.2.2.2.2.2 mm_X10_stumble_stX3_ways hdS_X3_ways ⟨Nat.le_of_ble_eq_true rfl, Nat.le_of_ble_eq_true rfl⟩ [18] rfl rfl rfl hl.1 (Nat.le_of_ble_eq_true rfl) dX10_stumble_100 ⟨Nat.le_of_ble_eq_true rfl, Nat.le_of_ble_eq_true rfl⟩) (fun r_127 u_127 H locs hp_127 G => ?_)
              have G : wd X (va_A (@HAppend.hAppend va_W va_W va_W _ (xW h0 nw sp xa la lb) (@HAppend.hAppend va_W va_W va_W _ (rcV X nw an sv dv n0 n1 n2 n3 n4 g0 gs gn gm) (@HAppend.hAppend va_W va_W va_W _ (odW (xa 11) vo) ([((xa 5), .inl (X.2.1, 3, .inl fr))])))) sz) (va_A (@HAppend.hAppend va_W va_W va_W _ (xW h0 nw sp xa la lb) (@HAppend.hAppend va_W va_W va_W _ (rcV X nw an sv dv n0 n1 n2 n3 n4 g0 gs gn gm) (@HAppend.hAppend va_W va_W va_W _ (odW (xa 11) vo) ([((xa 5), .inl (X.2.1, 3, .inl fr))])))) sz) s (@HAppend.hAppend va_W va_W va_W _ (xW h0 nw sp xa la lb) (@HAppend.hAppend va_W va_W va_W _ (rcV X nw an sv dv n0 n1 n2 n3 n4 g0 gs gn gm) (@HAppend.hAppend va_W va_W va_W _ ([((xa 5), .inl (X.2.1, 3, .inl fr))]) (odW (xa 11) v_126)))) H locs := G
              refine lv_lstore (lv' := [(6, .long r_127), (5, .ref (an 2)), (0, .ref h0), (1, .int 1), (2, .int x2), (3, .int 2), (4, .int x4)]) zx zb dX10_stumble_103 hl (by decide) rfl (fun ls hl => ?_)
              refine lv_iload_n zx zb dX10_stumble_105 rfl (lv_at hl 5 rfl) ?_
              refine o_rl (cells' := 0) (slots' := 0) G rfl rfl (n_S (As := [.int 2]) (rest := []) S G (s_tenTo l X 2 (by omega) H.size) gX10_stumble_X3_tenTo rfl rfl rfl hdS_X3_tenTo ⟨Nat.le_of_ble_eq_true rfl, Nat.le_of_ble_eq_true rfl⟩ [] rfl rfl rfl hl.1 (Nat.le_of_ble_eq_true rfl) dX10_stumble_106 ⟨Nat.le_of_ble_eq_true rfl, Nat.le_of_ble_eq_true rfl⟩) (fun r_128 u_128 H locs hp_128 G => ?_)
              have G : wd X (va_A (@HAppend.hAppend va_W va_W va_W _ (xW h0 nw sp xa la lb) (@HAppend.hAppend va_W va_W va_W _ (rcV X nw an sv dv n0 n1 n2 n3 n4 g0 gs gn gm) (@HAppend.hAppend va_W va_W va_W _ (odW (xa 11) vo) ([((xa 5), .inl (X.2.1, 3, .inl fr))])))) sz) (va_A (@HAppend.hAppend va_W va_W va_W _ (xW h0 nw sp xa la lb) (@HAppend.hAppend va_W va_W va_W _ (rcV X nw an sv dv n0 n1 n2 n3 n4 g0 gs gn gm) (@HAppend.hAppend va_W va_W va_W _ (odW (xa 11) vo) ([((xa 5), .inl (X.2.1, 3, .inl fr))])))) sz) s (@HAppend.hAppend va_W va_W va_W _ (xW h0 nw sp xa la lb) (@HAppend.hAppend va_W va_W va_W _ (rcV X nw an sv dv n0 n1 n2 n3 n4 g0 gs gn gm) (@HAppend.hAppend va_W va_W va_W _ ([((xa 5), .inl (X.2.1, 3, .inl fr))]) (odW (xa 11) v_126)))) H locs := G
              refine lv_lstore (lv' := [(8, .long r_128), (6, .long r_127), (5, .ref (an 2)), (0, .ref h0), (1, .int 1), (2, .int x2), (3, .int 2), (4, .int x4)]) zx zb dX10_stumble_109 hl (by decide) rfl (fun ls hl => ?_)
              refine lv_lload zx zb dX10_stumble_111 (lv_at hl 1 rfl) ?_
              refine lv_lload zx zb dX10_stumble_113 (lv_at hl 0 rfl) ?_
              refine o_rl (cells' := 0) (slots' := 0) G rfl rfl (n_S (As := [.long r_127, .long r_128]) (rest := []) S G (s_commonPart l X r_127 r_128 H.size) gX10_stumble_X3_commonPart rfl rfl rfl hdS_X3_commonPart ⟨Nat.le_of_ble_eq_true rfl, Nat.le_of_ble_eq_true rfl⟩ [] rfl rfl rfl hl.1 (Nat.le_of_ble_eq_true rfl) dX10_stumble_115 ⟨Nat.le_of_ble_eq_true rfl, Nat.le_of_ble_eq_true rfl⟩) (fun r_129 u_129 H locs hp_129 G => ?_)
              have G : wd X (va_A (@HAppend.hAppend va_W va_W va_W _ (xW h0 nw sp xa la lb) (@HAppend.hAppend va_W va_W va_W _ (rcV X nw an sv dv n0 n1 n2 n3 n4 g0 gs gn gm) (@HAppend.hAppend va_W va_W va_W _ (odW (xa 11) vo) ([((xa 5), .inl (X.2.1, 3, .inl fr))])))) sz) (va_A (@HAppend.hAppend va_W va_W va_W _ (xW h0 nw sp xa la lb) (@HAppend.hAppend va_W va_W va_W _ (rcV X nw an sv dv n0 n1 n2 n3 n4 g0 gs gn gm) (@HAppend.hAppend va_W va_W va_W _ (odW (xa 11) vo) ([((xa 5), .inl (X.2.1, 3, .inl fr))])))) sz) s (@HAppend.hAppend va_W va_W va_W _ (xW h0 nw sp xa la lb) (@HAppend.hAppend va_W va_W va_W _ (rcV X nw an sv dv n0 n1 n2 n3 n4 g0 gs gn gm) (@HAppend.hAppend va_W va_W va_W _ ([((xa 5), .inl (X.2.1, 3, .inl fr))]) (odW (xa 11) v_126)))) H locs := G
              refine lv_lstore (lv' := [(10, .long r_129), (8, .long r_128), (6, .long r_127), (5, .ref (an 2)), (0, .ref h0), (1, .int 1), (2, .int x2), (3, .int 2), (4, .int x4)]) zx zb dX10_stumble_118 hl (by decide) rfl (fun ls hl => ?_)
              refine lv_lload zx zb dX10_stumble_120 (lv_at hl 0 rfl) ?_
              refine lv_lconst (v := (Int32.toInt64 0)) zx zb dX10_stumble_122 (by decide) ?_
              refine W.lcmp zx zb dX10_stumble_123 ?_
              refine k_cutW (PP := fun Wx => ∀ (la_131 : Int64) (lb_132 : Int64) (H : Heap) (locs : List Loc) (ls : Array Slot), wd X (va_A (@HAppend.hAppend va_W va_W va_W _ (xW h0 nw sp xa la lb) (@HAppend.hAppend va_W va_W va_W _ (rcV X nw an sv dv n0 n1 n2 n3 n4 g0 gs gn gm) (@HAppend.hAppend va_W va_W va_W _ (odW (xa 11) vo) ([((xa 5), .inl (X.2.1, 3, .inl fr))])))) sz) (va_A (@HAppend.hAppend va_W va_W va_W _ (xW h0 nw sp xa la lb) (@HAppend.hAppend va_W va_W va_W _ (rcV X nw an sv dv n0 n1 n2 n3 n4 g0 gs gn gm) (@HAppend.hAppend va_W va_W va_W _ (odW (xa 11) vo) ([((xa 5), .inl (X.2.1, 3, .inl fr))])))) sz) s (@HAppend.hAppend va_W va_W va_W _ (xW h0 nw sp xa la_131 lb_132) (@HAppend.hAppend va_W va_W va_W _ (rcV X nw an sv dv n0 n1 n2 n3 n4 g0 gs gn gm) (@HAppend.hAppend va_W va_W va_W _ ([((xa 5), .inl (X.2.1, 3, .inl fr))]) (odW (xa 11) v_126)))) H locs → lv_has ls 12 [(10, .long r_129), (8, .long r_128), (6, .long r_127), (5, .ref (an 2)), (0, .ref h0), (1, .int 1), (2, .int x2), (3, .int 2), (4, .int x4)] → Wx (F0 m 145 ls []) H locs) ?_ ?_
              · intro join_124
                refine lv_if_le (tgt := 145) zx zb dX10_stumble_124 (by decide) (fun c_130 => ?_) (fun c_130 => ?_)
                · exact join_124 la lb _ _ _  G hl
                · refine lv_aload_n zx zb dX10_stumble_127 rfl (lv_at hl 4 rfl) ?_
                  refine lv_lload zx zb dX10_stumble_128 (lv_at hl 2 rfl) ?_
                  refine lv_lload zx zb dX10_stumble_130 (lv_at hl 0 rfl) ?_
                  refine lv_ldiv zx zb dX10_stumble_132 (k_lnz2 c_130) ?_
                  refine k_ldE (fun y_133 => ?_)
                  refine r_put (C := RX10) (T := TX10) (N := 14) (ci := 8) (v := .long y_133) S in_X10_stumble_X10 tyX10_ok nmX10 G 0 rfl rfl 6 (by decide) lk_X10_stumble_38 rfl rfl rfl (Nat.le_of_ble_eq_true rfl) dX10_stumble_133 (fun H locs G => ?_)
                  have G : wd X (va_A (@HAppend.hAppend va_W va_W va_W _ (xW h0 nw sp xa la lb) (@HAppend.hAppend va_W va_W va_W _ (rcV X nw an sv dv n0 n1 n2 n3 n4 g0 gs gn gm) (@HAppend.hAppend va_W va_W va_W _ (odW (xa 11) vo) ([((xa 5), .inl (X.2.1, 3, .inl fr))])))) sz) (va_A (@HAppend.hAppend va_W va_W va_W _ (xW h0 nw sp xa la lb) (@HAppend.hAppend va_W va_W va_W _ (rcV X nw an sv dv n0 n1 n2 n3 n4 g0 gs gn gm) (@HAppend.hAppend va_W va_W va_W _ (odW (xa 11) vo) ([((xa 5), .inl (X.2.1, 3, .inl fr))])))) sz) s (@HAppend.hAppend va_W va_W va_W _ (xW h0 nw sp xa y_133 lb) (@HAppend.hAppend va_W va_W va_W _ (rcV X nw an sv dv n0 n1 n2 n3 n4 g0 gs gn gm) (@HAppend.hAppend va_W va_W va_W _ ([((xa 5), .inl (X.2.1, 3, .inl fr))]) (odW (xa 11) v_126)))) H locs := G
                  refine lv_aload_n zx zb dX10_stumble_136 rfl (lv_at hl 4 rfl) ?_
                  refine lv_lload zx zb dX10_stumble_137 (lv_at hl 1 rfl) ?_
                  refine lv_lload zx zb dX10_stumble_139 (lv_at hl 0 rfl) ?_
                  refine lv_ldiv zx zb dX10_stumble_141 (k_lnz2 c_130) ?_
                  refine k_ldE (fun y_134 => ?_)
                  refine r_put (C := RX10) (T := TX10) (N := 14) (ci := 8) (v := .long y_134) S in_X10_stumble_X10 tyX10_ok nmX10 G 0 rfl rfl 7 (by decide) lk_X10_stumble_42 rfl rfl rfl (Nat.le_of_ble_eq_true rfl) dX10_stumble_142 (fun H locs G => ?_)
                  have G : wd X (va_A (@HAppend.hAppend va_W va_W va_W _ (xW h0 nw sp xa la lb) (@HAppend.hAppend va_W va_W va_W _ (rcV X nw an sv dv n0 n1 n2 n3 n4 g0 gs gn gm) (@HAppend.hAppend va_W va_W va_W _ (odW (xa 11) vo) ([((xa 5), .inl (X.2.1, 3, .inl fr))])))) sz) (va_A (@HAppend.hAppend va_W va_W va_W _ (xW h0 nw sp xa la lb) (@HAppend.hAppend va_W va_W va_W _ (rcV X nw an sv dv n0 n1 n2 n3 n4 g0 gs gn gm) (@HAppend.hAppend va_W va_W va_W _ (odW (xa 11) vo) ([((xa 5), .inl (X.2.1, 3, .inl fr))])))) sz) s (@HAppend.hAppend va_W va_W va_W _ (xW h0 nw sp xa y_133 y_134) (@HAppend.hAppend va_W va_W va_W _ (rcV X nw an sv dv n0 n1 n2 n3 n4 g0 gs gn gm) (@HAppend.hAppend va_W va_W va_W _ ([((xa 5), .inl (X.2.1, 3, .inl fr))]) (odW (xa 11) v_126)))) H locs := G
                  exact join_124 y_133 y_134 _ _ _  G hl
              · intro la_131 lb_132 H locs ls  G hl
                refine lv_iconst (v := 1) zx zb dX10_stumble_145 (by decide) ?_
                exact e_int S zr zlk (vp_nar_int _) G (la_131, lb_132, v_126, fr) [0, 1, 2, 3, 4, 5, 6, 7, 8, 9, 10, 11, 12, 13, 14, 15, 16, 18, 17] rfl rfl (Or.inr rfl) ((stuF_p ⟨⟨_, hj_1, rfl⟩, hw_3, hw_5, hw_7⟩).symm) dX10_stumble_146
            · refine k_it (v := 2) rfl ?_
              refine r_aald (C := RX8) (b := (an 3)) S G 2 3 rfl rfl (k_vp (by decide)) rfl dX10_stumble_54 ?_
              refine lv_astore (lv' := [(5, .ref (an 3)), (0, .ref h0), (1, .int 2), (2, .int x2), (3, .int 2), (4, .int x4)]) zx zb dX10_stumble_55 hl (by decide) rfl (fun ls hl => ?_)
              refine lv_aload_n zx zb dX10_stumble_57 rfl (lv_at hl 1 rfl) ?_
              refine r_get (C := RX10) (T := TX10) (N := 14) (ci := 8) (v := .ref (xa 11)) S in_X10_stumble_X10 G 0 rfl rfl 11 (by decide) lk_X10_stumble_65 rfl dX10_stumble_58 ?_
              refine lv_aload zx zb dX10_stumble_61 (lv_at hl 0 rfl) ?_
              refine lv_aload_n zx zb dX10_stumble_63 rfl (lv_at hl 1 rfl) ?_
              refine r_get (C := RX10) (T := TX10) (N := 14) (ci := 8) (v := .ref nw) S in_X10_stumble_X10 G 0 rfl rfl 0 (by decide) lk_X10_stumble_10 rfl dX10_stumble_64 ?_
              refine r_get (C := RX5) (T := TX5) (N := 8) (ci := 3) (v := .int (dv 0)) S in_X10_stumble_X5 G 1 rfl rfl 0 (by decide) lk_X10_stumble_140 rfl dX10_stumble_67 ?_
              refine lv_aload_n zx zb dX10_stumble_70 rfl (lv_at hl 1 rfl) ?_
              refine r_get (C := RX10) (T := TX10) (N := 14) (ci := 8) (v := .ref nw) S in_X10_stumble_X10 G 0 rfl rfl 0 (by decide) lk_X10_stumble_10 rfl dX10_stumble_71 ?_
              refine r_get (C := RX5) (T := TX5) (N := 8) (ci := 3) (v := .int (dv 1)) S in_X10_stumble_X5 G 1 rfl rfl 1 (by decide) lk_X10_stumble_110 rfl dX10_stumble_74 ?_
              refine lv_iload_n zx zb dX10_stumble_77 rfl (lv_at hl 4 rfl) ?_
              refine r_iadd (v := ((dv 1) + 2)) S rfl dX10_stumble_78 ?_
              refine lv_iload_n zx zb dX10_stumble_79 rfl (lv_at hl 3 rfl) ?_
              refine lv_iload zx zb dX10_stumble_80 (lv_at hl 5 rfl) ?_
              refine b_wv (cells' := 0) (slots' := 0) (wr := @HAppend.hAppend va_W va_W va_W _ (xW h0 nw sp xa la lb) (@HAppend.hAppend va_W va_W va_W _ ([(nw, .inr (3, [.int (dv 0), .int (dv 1), .int (nI n0), .ref (an 0), .ref (an 7), .ref (an 9), .ref (an 11), .ref (an 13)])), ((an 0), .inl (X.2.2.2.2, 6, .inr (.inr (.inr (.inr (rowQ an)))))), ((an 1), .inr (6, [.int (sv 0), .int (sv 1), .int (sv 2), .int (dv 10), .int (dv 11), .int (dv 12), .int (dv 13), .int (dv 14)])), ((an 2), .inr (6, [.int (sv 3), .int (sv 4), .int (sv 5), .int (dv 15), .int (dv 16), .int (dv 17), .int (dv 18), .int (dv 19)])), ((an 4), .inr (6, [.int (sv 9), .int (sv 10), .int (sv 11), .int (dv 25), .int (dv 26), .int (dv 27), .int (dv 28), .int (dv 29)])), ((an 5), .inr (6, [.int (sv 12), .int (sv 13), .int (sv 14), .int (dv 30), .int (dv 31), .int (dv 32), .int (dv 33), .int (dv 34)])), ((an 6), .inr (6, [.int (sv 15), .int (sv 16), .int (sv 17), .int (dv 35), .int (dv 36), .int (dv 37), .int (dv 38), .int (dv 39)])), ((an 7), .inr (2, [.ref (an 8), .int (nI n1)])), ((an 8), .inl (X.2.1, 248, .inl g0)), ((an 9), .inr (5, [.int 5, .int 0, .int 1, .ref (an 10), .int (nI n2)])), ((an 10), .inl (X.2.1, 25, .inl gs)), ((an 11), .inr (5, [.int 6, .int 1, .int 1, .ref (an 12), .int (nI n3)])), ((an 12), .inl (X.2.1, 30, .inl gn)), ((an 13), .inr (5, [.int 6, .int 0, .int 0, .ref (an 14), .int (nI n4)])), ((an 14), .inl (X.2.1, 30, .inl gm))]) ([((xa 5), .inl (X.2.1, 3, .inl fr))]))) G rfl rfl [17, 5] [0, 1, 2, 3, 4, 6, 7, 8, 9, 10, 11, 12, 13, 14, 15, 16, 18] rfl rfl rfl rfl (n_V (As := [.ref (an 3), .int (dv 0), .int ((dv 1) + 2), .int x2, .int x4]) (rest := []) (C := RX3) (T := TX3) (N := 8) (ci := 1) S G (s_pose l X (xa 11) vo (an 3) (fun k => sv (6 + k)) (fun k => dv (20 + k)) (dv 0) ((dv 1) + 2) x2 x4 H.size) gX10_stumble_X3_pose rfl rfl rfl hdV_X3_pose ⟨Nat.le_of_ble_eq_true rfl, Nat.le_of_ble_eq_true rfl⟩ [17, 5] rfl rfl 17 rfl rfl rfl hl.1 (Nat.le_of_ble_eq_true rfl) dX10_stumble_82 ⟨Nat.le_of_ble_eq_true rfl, Nat.le_of_ble_eq_true rfl⟩) (fun u_135 H locs hp_135 G => ?_)
              obtain ⟨v_135, rfl⟩ : ∃ z, z = u_135 := ⟨_, rfl⟩
              have hq_135 := hp_135
              have G : wd X (va_A (@HAppend.hAppend va_W va_W va_W _ (xW h0 nw sp xa la lb) (@HAppend.hAppend va_W va_W va_W _ (rcV X nw an sv dv n0 n1 n2 n3 n4 g0 gs gn gm) (@HAppend.hAppend va_W va_W va_W _ (odW (xa 11) vo) ([((xa 5), .inl (X.2.1, 3, .inl fr))])))) sz) (va_A (@HAppend.hAppend va_W va_W va_W _ (xW h0 nw sp xa la lb) (@HAppend.hAppend va_W va_W va_W _ (rcV X nw an sv dv n0 n1 n2 n3 n4 g0 gs gn gm) (@HAppend.hAppend va_W va_W va_W _ (odW (xa 11) vo) ([((xa 5), .inl (X.2.1, 3, .inl fr))])))) sz) s (@HAppend.hAppend va_W va_W va_W _ (xW h0 nw sp xa la lb) (@HAppend.hAppend va_W va_W va_W _ (rcV X nw an sv dv n0 n1 n2 n3 n4 g0 gs gn gm) (@HAppend.hAppend va_W va_W va_W _ ([((xa 5), .inl (X.2.1, 3, .inl fr))]) (odW (xa 11) v_135)))) H locs := wd_sub G [0, 1, 2, 3, 4, 18, 5, 6, 7, 8, 9, 10, 11, 12, 13, 14, 15, 16, 17] rfl rfl
              refine lv_aload_n zx zb dX10_stumble_85 rfl (lv_at hl 1 rfl) ?_
              refine r_get (C := RX10) (T := TX10) (N := 14) (ci := 8) (v := .ref (xa 11)) S in_X10_stumble_X10 G 0 rfl rfl 11 (by decide) lk_X10_stumble_65 rfl dX10_stumble_86 ?_
              refine lv_aload zx zb dX10_stumble_89 (lv_at hl 0 rfl) ?_
              refine r_get (C := RX8) (T := TX8) (N := 8) (ci := 6) (v := .int (dv 21)) S in_X10_stumble_X8 G 5 rfl rfl 4 (by decide) lk_X10_stumble_137 rfl dX10_stumble_91 ?_
              refine lv_aload zx zb dX10_stumble_94 (lv_at hl 0 rfl) ?_
              refine r_get (C := RX8) (T := TX8) (N := 8) (ci := 6) (v := .int (dv 23)) S in_X10_stumble_X8 G 5 rfl rfl 6 (by decide) lk_X10_stumble_240 rfl dX10_stumble_96 ?_
              refine lv_iload_n zx zb dX10_stumble_99 rfl (lv_at hl 4 rfl) ?_
              refine o_rl (cells' := 0) (slots' := 0) G rfl rfl (n_SN (As := [.ref (xa 11), .int (dv 21), .int (dv 23), .int 2]) (rest := []) (host := "EggSpoons") S G (s_ways2 l X (xa 11) v_135 (dv 21) (dv 23) H.size) gX10_stumble_X3_ways_n243 rfl rfl rfl mm_X10_stumble_inX3 G.1.2.2.2.2.2.2.2.2.2.2.2 mm_X10_stumble_stX3_ways hdS_X3_ways ⟨Nat.le_of_ble_eq_true rfl, Nat.le_of_ble_eq_true rfl⟩ [18] rfl rfl rfl hl.1 (Nat.le_of_ble_eq_true rfl) dX10_stumble_100 ⟨Nat.le_of_ble_eq_true rfl, Nat.le_of_ble_eq_true rfl⟩) (fun r_136 u_136 H locs hp_136 G => ?_)
              have G : wd X (va_A (@HAppend.hAppend va_W va_W va_W _ (xW h0 nw sp xa la lb) (@HAppend.hAppend va_W va_W va_W _ (rcV X nw an sv dv n0 n1 n2 n3 n4 g0 gs gn gm) (@HAppend.hAppend va_W va_W va_W _ (odW (xa 11) vo) ([((xa 5), .inl (X.2.1, 3, .inl fr))])))) sz) (va_A (@HAppend.hAppend va_W va_W va_W _ (xW h0 nw sp xa la lb) (@HAppend.hAppend va_W va_W va_W _ (rcV X nw an sv dv n0 n1 n2 n3 n4 g0 gs gn gm) (@HAppend.hAppend va_W va_W va_W _ (odW (xa 11) vo) ([((xa 5), .inl (X.2.1, 3, .inl fr))])))) sz) s (@HAppend.hAppend va_W va_W va_W _ (xW h0 nw sp xa la lb) (@HAppend.hAppend va_W va_W va_W _ (rcV X nw an sv dv n0 n1 n2 n3 n4 g0 gs gn gm) (@HAppend.hAppend va_W va_W va_W _ ([((xa 5), .inl (X.2.1, 3, .inl fr))]) (odW (xa 11) v_135)))) H locs := G
              refine lv_lstore (lv' := [(6, .long r_136), (5, .ref (an 3)), (0, .ref h0), (1, .int 2), (2, .int x2), (3, .int 2), (4, .int x4)]) zx zb dX10_stumble_103 hl (by decide) rfl (fun ls hl => ?_)
              refine lv_iload_n zx zb dX10_stumble_105 rfl (lv_at hl 5 rfl) ?_
              refine o_rl (cells' := 0) (slots' := 0) G rfl rfl (n_S (As := [.int 2]) (rest := []) S G (s_tenTo l X 2 (by omega) H.size) gX10_stumble_X3_tenTo rfl rfl rfl hdS_X3_tenTo ⟨Nat.le_of_ble_eq_true rfl, Nat.le_of_ble_eq_true rfl⟩ [] rfl rfl rfl hl.1 (Nat.le_of_ble_eq_true rfl) dX10_stumble_106 ⟨Nat.le_of_ble_eq_true rfl, Nat.le_of_ble_eq_true rfl⟩) (fun r_137 u_137 H locs hp_137 G => ?_)
              have G : wd X (va_A (@HAppend.hAppend va_W va_W va_W _ (xW h0 nw sp xa la lb) (@HAppend.hAppend va_W va_W va_W _ (rcV X nw an sv dv n0 n1 n2 n3 n4 g0 gs gn gm) (@HAppend.hAppend va_W va_W va_W _ (odW (xa 11) vo) ([((xa 5), .inl (X.2.1, 3, .inl fr))])))) sz) (va_A (@HAppend.hAppend va_W va_W va_W _ (xW h0 nw sp xa la lb) (@HAppend.hAppend va_W va_W va_W _ (rcV X nw an sv dv n0 n1 n2 n3 n4 g0 gs gn gm) (@HAppend.hAppend va_W va_W va_W _ (odW (xa 11) vo) ([((xa 5), .inl (X.2.1, 3, .inl fr))])))) sz) s (@HAppend.hAppend va_W va_W va_W _ (xW h0 nw sp xa la lb) (@HAppend.hAppend va_W va_W va_W _ (rcV X nw an sv dv n0 n1 n2 n3 n4 g0 gs gn gm) (@HAppend.hAppend va_W va_W va_W _ ([((xa 5), .inl (X.2.1, 3, .inl fr))]) (odW (xa 11) v_135)))) H locs := G
              refine lv_lstore (lv' := [(8, .long r_137), (6, .long r_136), (5, .ref (an 3)), (0, .ref h0), (1, .int 2), (2, .int x2), (3, .int 2), (4, .int x4)]) zx zb dX10_stumble_109 hl (by decide) rfl (fun ls hl => ?_)
              refine lv_lload zx zb dX10_stumble_111 (lv_at hl 1 rfl) ?_
              refine lv_lload zx zb dX10_stumble_113 (lv_at hl 0 rfl) ?_
              refine o_rl (cells' := 0) (slots' := 0) G rfl rfl (n_S (As := [.long r_136, .long r_137]) (rest := []) S G (s_commonPart l X r_136 r_137 H.size) gX10_stumble_X3_commonPart rfl rfl rfl hdS_X3_commonPart ⟨Nat.le_of_ble_eq_true rfl, Nat.le_of_ble_eq_true rfl⟩ [] rfl rfl rfl hl.1 (Nat.le_of_ble_eq_true rfl) dX10_stumble_115 ⟨Nat.le_of_ble_eq_true rfl, Nat.le_of_ble_eq_true rfl⟩) (fun r_138 u_138 H locs hp_138 G => ?_)
              have G : wd X (va_A (@HAppend.hAppend va_W va_W va_W _ (xW h0 nw sp xa la lb) (@HAppend.hAppend va_W va_W va_W _ (rcV X nw an sv dv n0 n1 n2 n3 n4 g0 gs gn gm) (@HAppend.hAppend va_W va_W va_W _ (odW (xa 11) vo) ([((xa 5), .inl (X.2.1, 3, .inl fr))])))) sz) (va_A (@HAppend.hAppend va_W va_W va_W _ (xW h0 nw sp xa la lb) (@HAppend.hAppend va_W va_W va_W _ (rcV X nw an sv dv n0 n1 n2 n3 n4 g0 gs gn gm) (@HAppend.hAppend va_W va_W va_W _ (odW (xa 11) vo) ([((xa 5), .inl (X.2.1, 3, .inl fr))])))) sz) s (@HAppend.hAppend va_W va_W va_W _ (xW h0 nw sp xa la lb) (@HAppend.hAppend va_W va_W va_W _ (rcV X nw an sv dv n0 n1 n2 n3 n4 g0 gs gn gm) (@HAppend.hAppend va_W va_W va_W _ ([((xa 5), .inl (X.2.1, 3, .inl fr))]) (odW (xa 11) v_135)))) H locs := G
              refine lv_lstore (lv' := [(10, .long r_138), (8, .long r_137), (6, .long r_136), (5, .ref (an 3)), (0, .ref h0), (1, .int 2), (2, .int x2), (3, .int 2), (4, .int x4)]) zx zb dX10_stumble_118 hl (by decide) rfl (fun ls hl => ?_)
              refine lv_lload zx zb dX10_stumble_120 (lv_at hl 0 rfl) ?_
              refine lv_lconst (v := (Int32.toInt64 0)) zx zb dX10_stumble_122 (by decide) ?_
              refine W.lcmp zx zb dX10_stumble_123 ?_
              refine k_cutW (PP := fun Wx => ∀ (la_140 : Int64) (lb_141 : Int64) (H : Heap) (locs : List Loc) (ls : Array Slot), wd X (va_A (@HAppend.hAppend va_W va_W va_W _ (xW h0 nw sp xa la lb) (@HAppend.hAppend va_W va_W va_W _ (rcV X nw an sv dv n0 n1 n2 n3 n4 g0 gs gn gm) (@HAppend.hAppend va_W va_W va_W _ (odW (xa 11) vo) ([((xa 5), .inl (X.2.1, 3, .inl fr))])))) sz) (va_A (@HAppend.hAppend va_W va_W va_W _ (xW h0 nw sp xa la lb) (@HAppend.hAppend va_W va_W va_W _ (rcV X nw an sv dv n0 n1 n2 n3 n4 g0 gs gn gm) (@HAppend.hAppend va_W va_W va_W _ (odW (xa 11) vo) ([((xa 5), .inl (X.2.1, 3, .inl fr))])))) sz) s (@HAppend.hAppend va_W va_W va_W _ (xW h0 nw sp xa la_140 lb_141) (@HAppend.hAppend va_W va_W va_W _ (rcV X nw an sv dv n0 n1 n2 n3 n4 g0 gs gn gm) (@HAppend.hAppend va_W va_W va_W _ ([((xa 5), .inl (X.2.1, 3, .inl fr))]) (odW (xa 11) v_135)))) H locs → lv_has ls 12 [(10, .long r_138), (8, .long r_137), (6, .long r_136), (5, .ref (an 3)), (0, .ref h0), (1, .int 2), (2, .int x2), (3, .int 2), (4, .int x4)] → Wx (F0 m 145 ls []) H locs) ?_ ?_
              · intro join_124
                refine lv_if_le (tgt := 145) zx zb dX10_stumble_124 (by decide) (fun c_139 => ?_) (fun c_139 => ?_)
                · exact join_124 la lb _ _ _  G hl
                · refine lv_aload_n zx zb dX10_stumble_127 rfl (lv_at hl 4 rfl) ?_
                  refine lv_lload zx zb dX10_stumble_128 (lv_at hl 2 rfl) ?_
                  refine lv_lload zx zb dX10_stumble_130 (lv_at hl 0 rfl) ?_
                  refine lv_ldiv zx zb dX10_stumble_132 (k_lnz2 c_139) ?_
                  refine k_ldE (fun y_142 => ?_)
                  refine r_put (C := RX10) (T := TX10) (N := 14) (ci := 8) (v := .long y_142) S in_X10_stumble_X10 tyX10_ok nmX10 G 0 rfl rfl 6 (by decide) lk_X10_stumble_38 rfl rfl rfl (Nat.le_of_ble_eq_true rfl) dX10_stumble_133 (fun H locs G => ?_)
                  have G : wd X (va_A (@HAppend.hAppend va_W va_W va_W _ (xW h0 nw sp xa la lb) (@HAppend.hAppend va_W va_W va_W _ (rcV X nw an sv dv n0 n1 n2 n3 n4 g0 gs gn gm) (@HAppend.hAppend va_W va_W va_W _ (odW (xa 11) vo) ([((xa 5), .inl (X.2.1, 3, .inl fr))])))) sz) (va_A (@HAppend.hAppend va_W va_W va_W _ (xW h0 nw sp xa la lb) (@HAppend.hAppend va_W va_W va_W _ (rcV X nw an sv dv n0 n1 n2 n3 n4 g0 gs gn gm) (@HAppend.hAppend va_W va_W va_W _ (odW (xa 11) vo) ([((xa 5), .inl (X.2.1, 3, .inl fr))])))) sz) s (@HAppend.hAppend va_W va_W va_W _ (xW h0 nw sp xa y_142 lb) (@HAppend.hAppend va_W va_W va_W _ (rcV X nw an sv dv n0 n1 n2 n3 n4 g0 gs gn gm) (@HAppend.hAppend va_W va_W va_W _ ([((xa 5), .inl (X.2.1, 3, .inl fr))]) (odW (xa 11) v_135)))) H locs := G
                  refine lv_aload_n zx zb dX10_stumble_136 rfl (lv_at hl 4 rfl) ?_
                  refine lv_lload zx zb dX10_stumble_137 (lv_at hl 1 rfl) ?_
                  refine lv_lload zx zb dX10_stumble_139 (lv_at hl 0 rfl) ?_
                  refine lv_ldiv zx zb dX10_stumble_141 (k_lnz2 c_139) ?_
                  refine k_ldE (fun y_143 => ?_)
                  refine r_put (C := RX10) (T := TX10) (N := 14) (ci := 8) (v := .long y_143) S in_X10_stumble_X10 tyX10_ok nmX10 G 0 rfl rfl 7 (by decide) lk_X10_stumble_42 rfl rfl rfl (Nat.le_of_ble_eq_true rfl) dX10_stumble_142 (fun H locs G => ?_)
                  have G : wd X (va_A (@HAppend.hAppend va_W va_W va_W _ (xW h0 nw sp xa la lb) (@HAppend.hAppend va_W va_W va_W _ (rcV X nw an sv dv n0 n1 n2 n3 n4 g0 gs gn gm) (@HAppend.hAppend va_W va_W va_W _ (odW (xa 11) vo) ([((xa 5), .inl (X.2.1, 3, .inl fr))])))) sz) (va_A (@HAppend.hAppend va_W va_W va_W _ (xW h0 nw sp xa la lb) (@HAppend.hAppend va_W va_W va_W _ (rcV X nw an sv dv n0 n1 n2 n3 n4 g0 gs gn gm) (@HAppend.hAppend va_W va_W va_W _ (odW (xa 11) vo) ([((xa 5), .inl (X.2.1, 3, .inl fr))])))) sz) s (@HAppend.hAppend va_W va_W va_W _ (xW h0 nw sp xa y_142 y_143) (@HAppend.hAppend va_W va_W va_W _ (rcV X nw an sv dv n0 n1 n2 n3 n4 g0 gs gn gm) (@HAppend.hAppend va_W va_W va_W _ ([((xa 5), .inl (X.2.1, 3, .inl fr))]) (odW (xa 11) v_135)))) H locs := G
                  exact join_124 y_142 y_143 _ _ _  G hl
              · intro la_140 lb_141 H locs ls  G hl
                refine lv_iconst (v := 1) zx zb dX10_stumble_145 (by decide) ?_
                exact e_int S zr zlk (vp_nar_int _) G (la_140, lb_141, v_135, fr) [0, 1, 2, 3, 4, 5, 6, 7, 8, 9, 10, 11, 12, 13, 14, 15, 16, 18, 17] rfl rfl (Or.inr rfl) ((stuF_p ⟨⟨_, hj_1, rfl⟩, hw_3, hw_5, hw_7⟩).symm) dX10_stumble_146
            · refine k_it (v := 3) rfl ?_
              refine r_aald (C := RX8) (b := (an 4)) S G 2 3 rfl rfl (k_vp (by decide)) rfl dX10_stumble_54 ?_
              refine lv_astore (lv' := [(5, .ref (an 4)), (0, .ref h0), (1, .int 3), (2, .int x2), (3, .int 2), (4, .int x4)]) zx zb dX10_stumble_55 hl (by decide) rfl (fun ls hl => ?_)
              refine lv_aload_n zx zb dX10_stumble_57 rfl (lv_at hl 1 rfl) ?_
              refine r_get (C := RX10) (T := TX10) (N := 14) (ci := 8) (v := .ref (xa 11)) S in_X10_stumble_X10 G 0 rfl rfl 11 (by decide) lk_X10_stumble_65 rfl dX10_stumble_58 ?_
              refine lv_aload zx zb dX10_stumble_61 (lv_at hl 0 rfl) ?_
              refine lv_aload_n zx zb dX10_stumble_63 rfl (lv_at hl 1 rfl) ?_
              refine r_get (C := RX10) (T := TX10) (N := 14) (ci := 8) (v := .ref nw) S in_X10_stumble_X10 G 0 rfl rfl 0 (by decide) lk_X10_stumble_10 rfl dX10_stumble_64 ?_
              refine r_get (C := RX5) (T := TX5) (N := 8) (ci := 3) (v := .int (dv 0)) S in_X10_stumble_X5 G 1 rfl rfl 0 (by decide) lk_X10_stumble_140 rfl dX10_stumble_67 ?_
              refine lv_aload_n zx zb dX10_stumble_70 rfl (lv_at hl 1 rfl) ?_
              refine r_get (C := RX10) (T := TX10) (N := 14) (ci := 8) (v := .ref nw) S in_X10_stumble_X10 G 0 rfl rfl 0 (by decide) lk_X10_stumble_10 rfl dX10_stumble_71 ?_
              refine r_get (C := RX5) (T := TX5) (N := 8) (ci := 3) (v := .int (dv 1)) S in_X10_stumble_X5 G 1 rfl rfl 1 (by decide) lk_X10_stumble_110 rfl dX10_stumble_74 ?_
              refine lv_iload_n zx zb dX10_stumble_77 rfl (lv_at hl 4 rfl) ?_
              refine r_iadd (v := ((dv 1) + 2)) S rfl dX10_stumble_78 ?_
              refine lv_iload_n zx zb dX10_stumble_79 rfl (lv_at hl 3 rfl) ?_
              refine lv_iload zx zb dX10_stumble_80 (lv_at hl 5 rfl) ?_
              refine b_wv (cells' := 0) (slots' := 0) (wr := @HAppend.hAppend va_W va_W va_W _ (xW h0 nw sp xa la lb) (@HAppend.hAppend va_W va_W va_W _ ([(nw, .inr (3, [.int (dv 0), .int (dv 1), .int (nI n0), .ref (an 0), .ref (an 7), .ref (an 9), .ref (an 11), .ref (an 13)])), ((an 0), .inl (X.2.2.2.2, 6, .inr (.inr (.inr (.inr (rowQ an)))))), ((an 1), .inr (6, [.int (sv 0), .int (sv 1), .int (sv 2), .int (dv 10), .int (dv 11), .int (dv 12), .int (dv 13), .int (dv 14)])), ((an 2), .inr (6, [.int (sv 3), .int (sv 4), .int (sv 5), .int (dv 15), .int (dv 16), .int (dv 17), .int (dv 18), .int (dv 19)])), ((an 3), .inr (6, [.int (sv 6), .int (sv 7), .int (sv 8), .int (dv 20), .int (dv 21), .int (dv 22), .int (dv 23), .int (dv 24)])), ((an 5), .inr (6, [.int (sv 12), .int (sv 13), .int (sv 14), .int (dv 30), .int (dv 31), .int (dv 32), .int (dv 33), .int (dv 34)])), ((an 6), .inr (6, [.int (sv 15), .int (sv 16), .int (sv 17), .int (dv 35), .int (dv 36), .int (dv 37), .int (dv 38), .int (dv 39)])), ((an 7), .inr (2, [.ref (an 8), .int (nI n1)])), ((an 8), .inl (X.2.1, 248, .inl g0)), ((an 9), .inr (5, [.int 5, .int 0, .int 1, .ref (an 10), .int (nI n2)])), ((an 10), .inl (X.2.1, 25, .inl gs)), ((an 11), .inr (5, [.int 6, .int 1, .int 1, .ref (an 12), .int (nI n3)])), ((an 12), .inl (X.2.1, 30, .inl gn)), ((an 13), .inr (5, [.int 6, .int 0, .int 0, .ref (an 14), .int (nI n4)])), ((an 14), .inl (X.2.1, 30, .inl gm))]) ([((xa 5), .inl (X.2.1, 3, .inl fr))]))) G rfl rfl [17, 6] [0, 1, 2, 3, 4, 5, 7, 8, 9, 10, 11, 12, 13, 14, 15, 16, 18] rfl rfl rfl rfl (n_V (As := [.ref (an 4), .int (dv 0), .int ((dv 1) + 2), .int x2, .int x4]) (rest := []) (C := RX3) (T := TX3) (N := 8) (ci := 1) S G (s_pose l X (xa 11) vo (an 4) (fun k => sv (9 + k)) (fun k => dv (25 + k)) (dv 0) ((dv 1) + 2) x2 x4 H.size) gX10_stumble_X3_pose rfl rfl rfl hdV_X3_pose ⟨Nat.le_of_ble_eq_true rfl, Nat.le_of_ble_eq_true rfl⟩ [17, 6] rfl rfl 17 rfl rfl rfl hl.1 (Nat.le_of_ble_eq_true rfl) dX10_stumble_82 ⟨Nat.le_of_ble_eq_true rfl, Nat.le_of_ble_eq_true rfl⟩) (fun u_144 H locs hp_144 G => ?_)
              obtain ⟨v_144, rfl⟩ : ∃ z, z = u_144 := ⟨_, rfl⟩
              have hq_144 := hp_144
              have G : wd X (va_A (@HAppend.hAppend va_W va_W va_W _ (xW h0 nw sp xa la lb) (@HAppend.hAppend va_W va_W va_W _ (rcV X nw an sv dv n0 n1 n2 n3 n4 g0 gs gn gm) (@HAppend.hAppend va_W va_W va_W _ (odW (xa 11) vo) ([((xa 5), .inl (X.2.1, 3, .inl fr))])))) sz) (va_A (@HAppend.hAppend va_W va_W va_W _ (xW h0 nw sp xa la lb) (@HAppend.hAppend va_W va_W va_W _ (rcV X nw an sv dv n0 n1 n2 n3 n4 g0 gs gn gm) (@HAppend.hAppend va_W va_W va_W _ (odW (xa 11) vo) ([((xa 5), .inl (X.2.1, 3, .inl fr))])))) sz) s (@HAppend.hAppend va_W va_W va_W _ (xW h0 nw sp xa la lb) (@HAppend.hAppend va_W va_W va_W _ (rcV X nw an sv dv n0 n1 n2 n3 n4 g0 gs gn gm) (@HAppend.hAppend va_W va_W va_W _ ([((xa 5), .inl (X.2.1, 3, .inl fr))]) (odW (xa 11) v_144)))) H locs := wd_sub G [0, 1, 2, 3, 4, 5, 18, 6, 7, 8, 9, 10, 11, 12, 13, 14, 15, 16, 17] rfl rfl
              refine lv_aload_n zx zb dX10_stumble_85 rfl (lv_at hl 1 rfl) ?_
              refine r_get (C := RX10) (T := TX10) (N := 14) (ci := 8) (v := .ref (xa 11)) S in_X10_stumble_X10 G 0 rfl rfl 11 (by decide) lk_X10_stumble_65 rfl dX10_stumble_86 ?_
              refine lv_aload zx zb dX10_stumble_89 (lv_at hl 0 rfl) ?_
              refine r_get (C := RX8) (T := TX8) (N := 8) (ci := 6) (v := .int (dv 26)) S in_X10_stumble_X8 G 6 rfl rfl 4 (by decide) lk_X10_stumble_137 rfl dX10_stumble_91 ?_
              refine lv_aload zx zb dX10_stumble_94 (lv_at hl 0 rfl) ?_
              refine r_get (C := RX8) (T := TX8) (N := 8) (ci := 6) (v := .int (dv 28)) S in_X10_stumble_X8 G 6 rfl rfl 6 (by decide) lk_X10_stumble_240 rfl dX10_stumble_96 ?_
              refine lv_iload_n zx zb dX10_stumble_99 rfl (lv_at hl 4 rfl) ?_
              refine o_rl (cells' := 0) (slots' := 0) G rfl rfl (n_SN (As := [.ref (xa 11), .int (dv 26), .int (dv 28), .int 2]) (rest := []) (host := "EggSpoons") S G (s_ways2 l X (xa 11) v_144 (dv 26) (dv 28) H.size) gX10_stumble_X3_ways_n243 rfl rfl rfl mm_X10_stumble_inX3 G.1.2.2.2.2.2.2.2.2.2.2.2 mm_X10_stumble_stX3_ways hdS_X3_ways ⟨Nat.le_of_ble_eq_true rfl, Nat.le_of_ble_eq_true rfl⟩ [18] rfl rfl rfl hl.1 (Nat.le_of_ble_eq_true rfl) dX10_stumble_100 ⟨Nat.le_of_ble_eq_true rfl, Nat.le_of_ble_eq_true rfl⟩) (fun r_145 u_145 H locs hp_145 G => ?_)
              have G : wd X (va_A (@HAppend.hAppend va_W va_W va_W _ (xW h0 nw sp xa la lb) (@HAppend.hAppend va_W va_W va_W _ (rcV X nw an sv dv n0 n1 n2 n3 n4 g0 gs gn gm) (@HAppend.hAppend va_W va_W va_W _ (odW (xa 11) vo) ([((xa 5), .inl (X.2.1, 3, .inl fr))])))) sz) (va_A (@HAppend.hAppend va_W va_W va_W _ (xW h0 nw sp xa la lb) (@HAppend.hAppend va_W va_W va_W _ (rcV X nw an sv dv n0 n1 n2 n3 n4 g0 gs gn gm) (@HAppend.hAppend va_W va_W va_W _ (odW (xa 11) vo) ([((xa 5), .inl (X.2.1, 3, .inl fr))])))) sz) s (@HAppend.hAppend va_W va_W va_W _ (xW h0 nw sp xa la lb) (@HAppend.hAppend va_W va_W va_W _ (rcV X nw an sv dv n0 n1 n2 n3 n4 g0 gs gn gm) (@HAppend.hAppend va_W va_W va_W _ ([((xa 5), .inl (X.2.1, 3, .inl fr))]) (odW (xa 11) v_144)))) H locs := G
              refine lv_lstore (lv' := [(6, .long r_145), (5, .ref (an 4)), (0, .ref h0), (1, .int 3), (2, .int x2), (3, .int 2), (4, .int x4)]) zx zb dX10_stumble_103 hl (by decide) rfl (fun ls hl => ?_)
              refine lv_iload_n zx zb dX10_stumble_105 rfl (lv_at hl 5 rfl) ?_
              refine o_rl (cells' := 0) (slots' := 0) G rfl rfl (n_S (As := [.int 2]) (rest := []) S G (s_tenTo l X 2 (by omega) H.size) gX10_stumble_X3_tenTo rfl rfl rfl hdS_X3_tenTo ⟨Nat.le_of_ble_eq_true rfl, Nat.le_of_ble_eq_true rfl⟩ [] rfl rfl rfl hl.1 (Nat.le_of_ble_eq_true rfl) dX10_stumble_106 ⟨Nat.le_of_ble_eq_true rfl, Nat.le_of_ble_eq_true rfl⟩) (fun r_146 u_146 H locs hp_146 G => ?_)
              have G : wd X (va_A (@HAppend.hAppend va_W va_W va_W _ (xW h0 nw sp xa la lb) (@HAppend.hAppend va_W va_W va_W _ (rcV X nw an sv dv n0 n1 n2 n3 n4 g0 gs gn gm) (@HAppend.hAppend va_W va_W va_W _ (odW (xa 11) vo) ([((xa 5), .inl (X.2.1, 3, .inl fr))])))) sz) (va_A (@HAppend.hAppend va_W va_W va_W _ (xW h0 nw sp xa la lb) (@HAppend.hAppend va_W va_W va_W _ (rcV X nw an sv dv n0 n1 n2 n3 n4 g0 gs gn gm) (@HAppend.hAppend va_W va_W va_W _ (odW (xa 11) vo) ([((xa 5), .inl (X.2.1, 3, .inl fr))])))) sz) s (@HAppend.hAppend va_W va_W va_W _ (xW h0 nw sp xa la lb) (@HAppend.hAppend va_W va_W va_W _ (rcV X nw an sv dv n0 n1 n2 n3 n4 g0 gs gn gm) (@HAppend.hAppend va_W va_W va_W _ ([((xa 5), .inl (X.2.1, 3, .inl fr))]) (odW (xa 11) v_144)))) H locs := G
              refine lv_lstore (lv' := [(8, .long r_146), (6, .long r_145), (5, .ref (an 4)), (0, .ref h0), (1, .int 3), (2, .int x2), (3, .int 2), (4, .int x4)]) zx zb dX10_stumble_109 hl (by decide) rfl (fun ls hl => ?_)
              refine lv_lload zx zb dX10_stumble_111 (lv_at hl 1 rfl) ?_
              refine lv_lload zx zb dX10_stumble_113 (lv_at hl 0 rfl) ?_
              refine o_rl (cells' := 0) (slots' := 0) G rfl rfl (n_S (As := [.long r_145, .long r_146]) (rest := []) S G (s_commonPart l X r_145 r_146 H.size) gX10_stumble_X3_commonPart rfl rfl rfl hdS_X3_commonPart ⟨Nat.le_of_ble_eq_true rfl, Nat.le_of_ble_eq_true rfl⟩ [] rfl rfl rfl hl.1 (Nat.le_of_ble_eq_true rfl) dX10_stumble_115 ⟨Nat.le_of_ble_eq_true rfl, Nat.le_of_ble_eq_true rfl⟩) (fun r_147 u_147 H locs hp_147 G => ?_)
              have G : wd X (va_A (@HAppend.hAppend va_W va_W va_W _ (xW h0 nw sp xa la lb) (@HAppend.hAppend va_W va_W va_W _ (rcV X nw an sv dv n0 n1 n2 n3 n4 g0 gs gn gm) (@HAppend.hAppend va_W va_W va_W _ (odW (xa 11) vo) ([((xa 5), .inl (X.2.1, 3, .inl fr))])))) sz) (va_A (@HAppend.hAppend va_W va_W va_W _ (xW h0 nw sp xa la lb) (@HAppend.hAppend va_W va_W va_W _ (rcV X nw an sv dv n0 n1 n2 n3 n4 g0 gs gn gm) (@HAppend.hAppend va_W va_W va_W _ (odW (xa 11) vo) ([((xa 5), .inl (X.2.1, 3, .inl fr))])))) sz) s (@HAppend.hAppend va_W va_W va_W _ (xW h0 nw sp xa la lb) (@HAppend.hAppend va_W va_W va_W _ (rcV X nw an sv dv n0 n1 n2 n3 n4 g0 gs gn gm) (@HAppend.hAppend va_W va_W va_W _ ([((xa 5), .inl (X.2.1, 3, .inl fr))]) (odW (xa 11) v_144)))) H locs := G
              refine lv_lstore (lv' := [(10, .long r_147), (8, .long r_146), (6, .long r_145), (5, .ref (an 4)), (0, .ref h0), (1, .int 3), (2, .int x2), (3, .int 2), (4, .int x4)]) zx zb dX10_stumble_118 hl (by decide) rfl (fun ls hl => ?_)
              refine lv_lload zx zb dX10_stumble_120 (lv_at hl 0 rfl) ?_
              refine lv_lconst (v := (Int32.toInt64 0)) zx zb dX10_stumble_122 (by decide) ?_
              refine W.lcmp zx zb dX10_stumble_123 ?_
              refine k_cutW (PP := fun Wx => ∀ (la_149 : Int64) (lb_150 : Int64) (H : Heap) (locs : List Loc) (ls : Array Slot), wd X (va_A (@HAppend.hAppend va_W va_W va_W _ (xW h0 nw sp xa la lb) (@HAppend.hAppend va_W va_W va_W _ (rcV X nw an sv dv n0 n1 n2 n3 n4 g0 gs gn gm) (@HAppend.hAppend va_W va_W va_W _ (odW (xa 11) vo) ([((xa 5), .inl (X.2.1, 3, .inl fr))])))) sz) (va_A (@HAppend.hAppend va_W va_W va_W _ (xW h0 nw sp xa la lb) (@HAppend.hAppend va_W va_W va_W _ (rcV X nw an sv dv n0 n1 n2 n3 n4 g0 gs gn gm) (@HAppend.hAppend va_W va_W va_W _ (odW (xa 11) vo) ([((xa 5), .inl (X.2.1, 3, .inl fr))])))) sz) s (@HAppend.hAppend va_W va_W va_W _ (xW h0 nw sp xa la_149 lb_150) (@HAppend.hAppend va_W va_W va_W _ (rcV X nw an sv dv n0 n1 n2 n3 n4 g0 gs gn gm) (@HAppend.hAppend va_W va_W va_W _ ([((xa 5), .inl (X.2.1, 3, .inl fr))]) (odW (xa 11) v_144)))) H locs → lv_has ls 12 [(10, .long r_147), (8, .long r_146), (6, .long r_145), (5, .ref (an 4)), (0, .ref h0), (1, .int 3), (2, .int x2), (3, .int 2), (4, .int x4)] → Wx (F0 m 145 ls []) H locs) ?_ ?_
              · intro join_124
                refine lv_if_le (tgt := 145) zx zb dX10_stumble_124 (by decide) (fun c_148 => ?_) (fun c_148 => ?_)
                · exact join_124 la lb _ _ _  G hl
                · refine lv_aload_n zx zb dX10_stumble_127 rfl (lv_at hl 4 rfl) ?_
                  refine lv_lload zx zb dX10_stumble_128 (lv_at hl 2 rfl) ?_
                  refine lv_lload zx zb dX10_stumble_130 (lv_at hl 0 rfl) ?_
                  refine lv_ldiv zx zb dX10_stumble_132 (k_lnz2 c_148) ?_
                  refine k_ldE (fun y_151 => ?_)
                  refine r_put (C := RX10) (T := TX10) (N := 14) (ci := 8) (v := .long y_151) S in_X10_stumble_X10 tyX10_ok nmX10 G 0 rfl rfl 6 (by decide) lk_X10_stumble_38 rfl rfl rfl (Nat.le_of_ble_eq_true rfl) dX10_stumble_133 (fun H locs G => ?_)
                  have G : wd X (va_A (@HAppend.hAppend va_W va_W va_W _ (xW h0 nw sp xa la lb) (@HAppend.hAppend va_W va_W va_W _ (rcV X nw an sv dv n0 n1 n2 n3 n4 g0 gs gn gm) (@HAppend.hAppend va_W va_W va_W _ (odW (xa 11) vo) ([((xa 5), .inl (X.2.1, 3, .inl fr))])))) sz) (va_A (@HAppend.hAppend va_W va_W va_W _ (xW h0 nw sp xa la lb) (@HAppend.hAppend va_W va_W va_W _ (rcV X nw an sv dv n0 n1 n2 n3 n4 g0 gs gn gm) (@HAppend.hAppend va_W va_W va_W _ (odW (xa 11) vo) ([((xa 5), .inl (X.2.1, 3, .inl fr))])))) sz) s (@HAppend.hAppend va_W va_W va_W _ (xW h0 nw sp xa y_151 lb) (@HAppend.hAppend va_W va_W va_W _ (rcV X nw an sv dv n0 n1 n2 n3 n4 g0 gs gn gm) (@HAppend.hAppend va_W va_W va_W _ ([((xa 5), .inl (X.2.1, 3, .inl fr))]) (odW (xa 11) v_144)))) H locs := G
                  refine lv_aload_n zx zb dX10_stumble_136 rfl (lv_at hl 4 rfl) ?_
                  refine lv_lload zx zb dX10_stumble_137 (lv_at hl 1 rfl) ?_
                  refine lv_lload zx zb dX10_stumble_139 (lv_at hl 0 rfl) ?_
                  refine lv_ldiv zx zb dX10_stumble_141 (k_lnz2 c_148) ?_
                  refine k_ldE (fun y_152 => ?_)
                  refine r_put (C := RX10) (T := TX10) (N := 14) (ci := 8) (v := .long y_152) S in_X10_stumble_X10 tyX10_ok nmX10 G 0 rfl rfl 7 (by decide) lk_X10_stumble_42 rfl rfl rfl (Nat.le_of_ble_eq_true rfl) dX10_stumble_142 (fun H locs G => ?_)
                  have G : wd X (va_A (@HAppend.hAppend va_W va_W va_W _ (xW h0 nw sp xa la lb) (@HAppend.hAppend va_W va_W va_W _ (rcV X nw an sv dv n0 n1 n2 n3 n4 g0 gs gn gm) (@HAppend.hAppend va_W va_W va_W _ (odW (xa 11) vo) ([((xa 5), .inl (X.2.1, 3, .inl fr))])))) sz) (va_A (@HAppend.hAppend va_W va_W va_W _ (xW h0 nw sp xa la lb) (@HAppend.hAppend va_W va_W va_W _ (rcV X nw an sv dv n0 n1 n2 n3 n4 g0 gs gn gm) (@HAppend.hAppend va_W va_W va_W _ (odW (xa 11) vo) ([((xa 5), .inl (X.2.1, 3, .inl fr))])))) sz) s (@HAppend.hAppend va_W va_W va_W _ (xW h0 nw sp xa y_151 y_152) (@HAppend.hAppend va_W va_W va_W _ (rcV X nw an sv dv n0 n1 n2 n3 n4 g0 gs gn gm) (@HAppend.hAppend va_W va_W va_W _ ([((xa 5), .inl (X.2.1, 3, .inl fr))]) (odW (xa 11) v_144)))) H locs := G
                  exact join_124 y_151 y_152 _ _ _  G hl
              · intro la_149 lb_150 H locs ls  G hl
                refine lv_iconst (v := 1) zx zb dX10_stumble_145 (by decide) ?_
                exact e_int S zr zlk (vp_nar_int _) G (la_149, lb_150, v_144, fr) [0, 1, 2, 3, 4, 5, 6, 7, 8, 9, 10, 11, 12, 13, 14, 15, 16, 18, 17] rfl rfl (Or.inr rfl) ((stuF_p ⟨⟨_, hj_1, rfl⟩, hw_3, hw_5, hw_7⟩).symm) dX10_stumble_146
            · refine k_it (v := 4) rfl ?_
              refine r_aald (C := RX8) (b := (an 5)) S G 2 3 rfl rfl (k_vp (by decide)) rfl dX10_stumble_54 ?_
              refine lv_astore (lv' := [(5, .ref (an 5)), (0, .ref h0), (1, .int 4), (2, .int x2), (3, .int 2), (4, .int x4)]) zx zb dX10_stumble_55 hl (by decide) rfl (fun ls hl => ?_)
              refine lv_aload_n zx zb dX10_stumble_57 rfl (lv_at hl 1 rfl) ?_
              refine r_get (C := RX10) (T := TX10) (N := 14) (ci := 8) (v := .ref (xa 11)) S in_X10_stumble_X10 G 0 rfl rfl 11 (by decide) lk_X10_stumble_65 rfl dX10_stumble_58 ?_
              refine lv_aload zx zb dX10_stumble_61 (lv_at hl 0 rfl) ?_
              refine lv_aload_n zx zb dX10_stumble_63 rfl (lv_at hl 1 rfl) ?_
              refine r_get (C := RX10) (T := TX10) (N := 14) (ci := 8) (v := .ref nw) S in_X10_stumble_X10 G 0 rfl rfl 0 (by decide) lk_X10_stumble_10 rfl dX10_stumble_64 ?_
              refine r_get (C := RX5) (T := TX5) (N := 8) (ci := 3) (v := .int (dv 0)) S in_X10_stumble_X5 G 1 rfl rfl 0 (by decide) lk_X10_stumble_140 rfl dX10_stumble_67 ?_
              refine lv_aload_n zx zb dX10_stumble_70 rfl (lv_at hl 1 rfl) ?_
              refine r_get (C := RX10) (T := TX10) (N := 14) (ci := 8) (v := .ref nw) S in_X10_stumble_X10 G 0 rfl rfl 0 (by decide) lk_X10_stumble_10 rfl dX10_stumble_71 ?_
              refine r_get (C := RX5) (T := TX5) (N := 8) (ci := 3) (v := .int (dv 1)) S in_X10_stumble_X5 G 1 rfl rfl 1 (by decide) lk_X10_stumble_110 rfl dX10_stumble_74 ?_
              refine lv_iload_n zx zb dX10_stumble_77 rfl (lv_at hl 4 rfl) ?_
              refine r_iadd (v := ((dv 1) + 2)) S rfl dX10_stumble_78 ?_
              refine lv_iload_n zx zb dX10_stumble_79 rfl (lv_at hl 3 rfl) ?_
              refine lv_iload zx zb dX10_stumble_80 (lv_at hl 5 rfl) ?_
              refine b_wv (cells' := 0) (slots' := 0) (wr := @HAppend.hAppend va_W va_W va_W _ (xW h0 nw sp xa la lb) (@HAppend.hAppend va_W va_W va_W _ ([(nw, .inr (3, [.int (dv 0), .int (dv 1), .int (nI n0), .ref (an 0), .ref (an 7), .ref (an 9), .ref (an 11), .ref (an 13)])), ((an 0), .inl (X.2.2.2.2, 6, .inr (.inr (.inr (.inr (rowQ an)))))), ((an 1), .inr (6, [.int (sv 0), .int (sv 1), .int (sv 2), .int (dv 10), .int (dv 11), .int (dv 12), .int (dv 13), .int (dv 14)])), ((an 2), .inr (6, [.int (sv 3), .int (sv 4), .int (sv 5), .int (dv 15), .int (dv 16), .int (dv 17), .int (dv 18), .int (dv 19)])), ((an 3), .inr (6, [.int (sv 6), .int (sv 7), .int (sv 8), .int (dv 20), .int (dv 21), .int (dv 22), .int (dv 23), .int (dv 24)])), ((an 4), .inr (6, [.int (sv 9), .int (sv 10), .int (sv 11), .int (dv 25), .int (dv 26), .int (dv 27), .int (dv 28), .int (dv 29)])), ((an 6), .inr (6, [.int (sv 15), .int (sv 16), .int (sv 17), .int (dv 35), .int (dv 36), .int (dv 37), .int (dv 38), .int (dv 39)])), ((an 7), .inr (2, [.ref (an 8), .int (nI n1)])), ((an 8), .inl (X.2.1, 248, .inl g0)), ((an 9), .inr (5, [.int 5, .int 0, .int 1, .ref (an 10), .int (nI n2)])), ((an 10), .inl (X.2.1, 25, .inl gs)), ((an 11), .inr (5, [.int 6, .int 1, .int 1, .ref (an 12), .int (nI n3)])), ((an 12), .inl (X.2.1, 30, .inl gn)), ((an 13), .inr (5, [.int 6, .int 0, .int 0, .ref (an 14), .int (nI n4)])), ((an 14), .inl (X.2.1, 30, .inl gm))]) ([((xa 5), .inl (X.2.1, 3, .inl fr))]))) G rfl rfl [17, 7] [0, 1, 2, 3, 4, 5, 6, 8, 9, 10, 11, 12, 13, 14, 15, 16, 18] rfl rfl rfl rfl (n_V (As := [.ref (an 5), .int (dv 0), .int ((dv 1) + 2), .int x2, .int x4]) (rest := []) (C := RX3) (T := TX3) (N := 8) (ci := 1) S G (s_pose l X (xa 11) vo (an 5) (fun k => sv (12 + k)) (fun k => dv (30 + k)) (dv 0) ((dv 1) + 2) x2 x4 H.size) gX10_stumble_X3_pose rfl rfl rfl hdV_X3_pose ⟨Nat.le_of_ble_eq_true rfl, Nat.le_of_ble_eq_true rfl⟩ [17, 7] rfl rfl 17 rfl rfl rfl hl.1 (Nat.le_of_ble_eq_true rfl) dX10_stumble_82 ⟨Nat.le_of_ble_eq_true rfl, Nat.le_of_ble_eq_true rfl⟩) (fun u_153 H locs hp_153 G => ?_)
              obtain ⟨v_153, rfl⟩ : ∃ z, z = u_153 := ⟨_, rfl⟩
              have hq_153 := hp_153
              have G : wd X (va_A (@HAppend.hAppend va_W va_W va_W _ (xW h0 nw sp xa la lb) (@HAppend.hAppend va_W va_W va_W _ (rcV X nw an sv dv n0 n1 n2 n3 n4 g0 gs gn gm) (@HAppend.hAppend va_W va_W va_W _ (odW (xa 11) vo) ([((xa 5), .inl (X.2.1, 3, .inl fr))])))) sz) (va_A (@HAppend.hAppend va_W va_W va_W _ (xW h0 nw sp xa la lb) (@HAppend.hAppend va_W va_W va_W _ (rcV X nw an sv dv n0 n1 n2 n3 n4 g0 gs gn gm) (@HAppend.hAppend va_W va_W va_W _ (odW (xa 11) vo) ([((xa 5), .inl (X.2.1, 3, .inl fr))])))) sz) s (@HAppend.hAppend va_W va_W va_W _ (xW h0 nw sp xa la lb) (@HAppend.hAppend va_W va_W va_W _ (rcV X nw an sv dv n0 n1 n2 n3 n4 g0 gs gn gm) (@HAppend.hAppend va_W va_W va_W _ ([((xa 5), .inl (X.2.1, 3, .inl fr))]) (odW (xa 11) v_153)))) H locs := wd_sub G [0, 1, 2, 3, 4, 5, 6, 18, 7, 8, 9, 10, 11, 12, 13, 14, 15, 16, 17] rfl rfl
              refine lv_aload_n zx zb dX10_stumble_85 rfl (lv_at hl 1 rfl) ?_
              refine r_get (C := RX10) (T := TX10) (N := 14) (ci := 8) (v := .ref (xa 11)) S in_X10_stumble_X10 G 0 rfl rfl 11 (by decide) lk_X10_stumble_65 rfl dX10_stumble_86 ?_
              refine lv_aload zx zb dX10_stumble_89 (lv_at hl 0 rfl) ?_
              refine r_get (C := RX8) (T := TX8) (N := 8) (ci := 6) (v := .int (dv 31)) S in_X10_stumble_X8 G 7 rfl rfl 4 (by decide) lk_X10_stumble_137 rfl dX10_stumble_91 ?_
              refine lv_aload zx zb dX10_stumble_94 (lv_at hl 0 rfl) ?_
              refine r_get (C := RX8) (T := TX8) (N := 8) (ci := 6) (v := .int (dv 33)) S in_X10_stumble_X8 G 7 rfl rfl 6 (by decide) lk_X10_stumble_240 rfl dX10_stumble_96 ?_
              refine lv_iload_n zx zb dX10_stumble_99 rfl (lv_at hl 4 rfl) ?_
              refine o_rl (cells' := 0) (slots' := 0) G rfl rfl (n_SN (As := [.ref (xa 11), .int (dv 31), .int (dv 33), .int 2]) (rest := []) (host := "EggSpoons") S G (s_ways2 l X (xa 11) v_153 (dv 31) (dv 33) H.size) gX10_stumble_X3_ways_n243 rfl rfl rfl mm_X10_stumble_inX3 G.1.2.2.2.2.2.2.2.2.2.2.2 mm_X10_stumble_stX3_ways hdS_X3_ways ⟨Nat.le_of_ble_eq_true rfl, Nat.le_of_ble_eq_true rfl⟩ [18] rfl rfl rfl hl.1 (Nat.le_of_ble_eq_true rfl) dX10_stumble_100 ⟨Nat.le_of_ble_eq_true rfl, Nat.le_of_ble_eq_true rfl⟩) (fun r_154 u_154 H locs hp_154 G => ?_)
              have G : wd X (va_A (@HAppend.hAppend va_W va_W va_W _ (xW h0 nw sp xa la lb) (@HAppend.hAppend va_W va_W va_W _ (rcV X nw an sv dv n0 n1 n2 n3 n4 g0 gs gn gm) (@HAppend.hAppend va_W va_W va_W _ (odW (xa 11) vo) ([((xa 5), .inl (X.2.1, 3, .inl fr))])))) sz) (va_A (@HAppend.hAppend va_W va_W va_W _ (xW h0 nw sp xa la lb) (@HAppend.hAppend va_W va_W va_W _ (rcV X nw an sv dv n0 n1 n2 n3 n4 g0 gs gn gm) (@HAppend.hAppend va_W va_W va_W _ (odW (xa 11) vo) ([((xa 5), .inl (X.2.1, 3, .inl fr))])))) sz) s (@HAppend.hAppend va_W va_W va_W _ (xW h0 nw sp xa la lb) (@HAppend.hAppend va_W va_W va_W _ (rcV X nw an sv dv n0 n1 n2 n3 n4 g0 gs gn gm) (@HAppend.hAppend va_W va_W va_W _ ([((xa 5), .inl (X.2.1, 3, .inl fr))]) (odW (xa 11) v_153)))) H locs := G
              refine lv_lstore (lv' := [(6, .long r_154), (5, .ref (an 5)), (0, .ref h0), (1, .int 4), (2, .int x2), (3, .int 2), (4, .int x4)]) zx zb dX10_stumble_103 hl (by decide) rfl (fun ls hl => ?_)
              refine lv_iload_n zx zb dX10_stumble_105 rfl (lv_at hl 5 rfl) ?_
              refine o_rl (cells' := 0) (slots' := 0) G rfl rfl (n_S (As := [.int 2]) (rest := []) S G (s_tenTo l X 2 (by omega) H.size) gX10_stumble_X3_tenTo rfl rfl rfl hdS_X3_tenTo ⟨Nat.le_of_ble_eq_true rfl, Nat.le_of_ble_eq_true rfl⟩ [] rfl rfl rfl hl.1 (Nat.le_of_ble_eq_true rfl) dX10_stumble_106 ⟨Nat.le_of_ble_eq_true rfl, Nat.le_of_ble_eq_true rfl⟩) (fun r_155 u_155 H locs hp_155 G => ?_)
              have G : wd X (va_A (@HAppend.hAppend va_W va_W va_W _ (xW h0 nw sp xa la lb) (@HAppend.hAppend va_W va_W va_W _ (rcV X nw an sv dv n0 n1 n2 n3 n4 g0 gs gn gm) (@HAppend.hAppend va_W va_W va_W _ (odW (xa 11) vo) ([((xa 5), .inl (X.2.1, 3, .inl fr))])))) sz) (va_A (@HAppend.hAppend va_W va_W va_W _ (xW h0 nw sp xa la lb) (@HAppend.hAppend va_W va_W va_W _ (rcV X nw an sv dv n0 n1 n2 n3 n4 g0 gs gn gm) (@HAppend.hAppend va_W va_W va_W _ (odW (xa 11) vo) ([((xa 5), .inl (X.2.1, 3, .inl fr))])))) sz) s (@HAppend.hAppend va_W va_W va_W _ (xW h0 nw sp xa la lb) (@HAppend.hAppend va_W va_W va_W _ (rcV X nw an sv dv n0 n1 n2 n3 n4 g0 gs gn gm) (@HAppend.hAppend va_W va_W va_W _ ([((xa 5), .inl (X.2.1, 3, .inl fr))]) (odW (xa 11) v_153)))) H locs := G
              refine lv_lstore (lv' := [(8, .long r_155), (6, .long r_154), (5, .ref (an 5)), (0, .ref h0), (1, .int 4), (2, .int x2), (3, .int 2), (4, .int x4)]) zx zb dX10_stumble_109 hl (by decide) rfl (fun ls hl => ?_)
              refine lv_lload zx zb dX10_stumble_111 (lv_at hl 1 rfl) ?_
              refine lv_lload zx zb dX10_stumble_113 (lv_at hl 0 rfl) ?_
              refine o_rl (cells' := 0) (slots' := 0) G rfl rfl (n_S (As := [.long r_154, .long r_155]) (rest := []) S G (s_commonPart l X r_154 r_155 H.size) gX10_stumble_X3_commonPart rfl rfl rfl hdS_X3_commonPart ⟨Nat.le_of_ble_eq_true rfl, Nat.le_of_ble_eq_true rfl⟩ [] rfl rfl rfl hl.1 (Nat.le_of_ble_eq_true rfl) dX10_stumble_115 ⟨Nat.le_of_ble_eq_true rfl, Nat.le_of_ble_eq_true rfl⟩) (fun r_156 u_156 H locs hp_156 G => ?_)
              have G : wd X (va_A (@HAppend.hAppend va_W va_W va_W _ (xW h0 nw sp xa la lb) (@HAppend.hAppend va_W va_W va_W _ (rcV X nw an sv dv n0 n1 n2 n3 n4 g0 gs gn gm) (@HAppend.hAppend va_W va_W va_W _ (odW (xa 11) vo) ([((xa 5), .inl (X.2.1, 3, .inl fr))])))) sz) (va_A (@HAppend.hAppend va_W va_W va_W _ (xW h0 nw sp xa la lb) (@HAppend.hAppend va_W va_W va_W _ (rcV X nw an sv dv n0 n1 n2 n3 n4 g0 gs gn gm) (@HAppend.hAppend va_W va_W va_W _ (odW (xa 11) vo) ([((xa 5), .inl (X.2.1, 3, .inl fr))])))) sz) s (@HAppend.hAppend va_W va_W va_W _ (xW h0 nw sp xa la lb) (@HAppend.hAppend va_W va_W va_W _ (rcV X nw an sv dv n0 n1 n2 n3 n4 g0 gs gn gm) (@HAppend.hAppend va_W va_W va_W _ ([((xa 5), .inl (X.2.1, 3, .inl fr))]) (odW (xa 11) v_153)))) H locs := G
              refine lv_lstore (lv' := [(10, .long r_156), (8, .long r_155), (6, .long r_154), (5, .ref (an 5)), (0, .ref h0), (1, .int 4), (2, .int x2), (3, .int 2), (4, .int x4)]) zx zb dX10_stumble_118 hl (by decide) rfl (fun ls hl => ?_)
              refine lv_lload zx zb dX10_stumble_120 (lv_at hl 0 rfl) ?_
              refine lv_lconst (v := (Int32.toInt64 0)) zx zb dX10_stumble_122 (by decide) ?_
              refine W.lcmp zx zb dX10_stumble_123 ?_
              refine k_cutW (PP := fun Wx => ∀ (la_158 : Int64) (lb_159 : Int64) (H : Heap) (locs : List Loc) (ls : Array Slot), wd X (va_A (@HAppend.hAppend va_W va_W va_W _ (xW h0 nw sp xa la lb) (@HAppend.hAppend va_W va_W va_W _ (rcV X nw an sv dv n0 n1 n2 n3 n4 g0 gs gn gm) (@HAppend.hAppend va_W va_W va_W _ (odW (xa 11) vo) ([((xa 5), .inl (X.2.1, 3, .inl fr))])))) sz) (va_A (@HAppend.hAppend va_W va_W va_W _ (xW h0 nw sp xa la lb) (@HAppend.hAppend va_W va_W va_W _ (rcV X nw an sv dv n0 n1 n2 n3 n4 g0 gs gn gm) (@HAppend.hAppend va_W va_W va_W _ (odW (xa 11) vo) ([((xa 5), .inl (X.2.1, 3, .inl fr))])))) sz) s (@HAppend.hAppend va_W va_W va_W _ (xW h0 nw sp xa la_158 lb_159) (@HAppend.hAppend va_W va_W va_W _ (rcV X nw an sv dv n0 n1 n2 n3 n4 g0 gs gn gm) (@HAppend.hAppend va_W va_W va_W _ ([((xa 5), .inl (X.2.1, 3, .inl fr))]) (odW (xa 11) v_153)))) H locs → lv_has ls 12 [(10, .long r_156), (8, .long r_155), (6, .long r_154), (5, .ref (an 5)), (0, .ref h0), (1, .int 4), (2, .int x2), (3, .int 2), (4, .int x4)] → Wx (F0 m 145 ls []) H locs) ?_ ?_
              · intro join_124
                refine lv_if_le (tgt := 145) zx zb dX10_stumble_124 (by decide) (fun c_157 => ?_) (fun c_157 => ?_)
                · exact join_124 la lb _ _ _  G hl
                · refine lv_aload_n zx zb dX10_stumble_127 rfl (lv_at hl 4 rfl) ?_
                  refine lv_lload zx zb dX10_stumble_128 (lv_at hl 2 rfl) ?_
                  refine lv_lload zx zb dX10_stumble_130 (lv_at hl 0 rfl) ?_
                  refine lv_ldiv zx zb dX10_stumble_132 (k_lnz2 c_157) ?_
                  refine k_ldE (fun y_160 => ?_)
                  refine r_put (C := RX10) (T := TX10) (N := 14) (ci := 8) (v := .long y_160) S in_X10_stumble_X10 tyX10_ok nmX10 G 0 rfl rfl 6 (by decide) lk_X10_stumble_38 rfl rfl rfl (Nat.le_of_ble_eq_true rfl) dX10_stumble_133 (fun H locs G => ?_)
                  have G : wd X (va_A (@HAppend.hAppend va_W va_W va_W _ (xW h0 nw sp xa la lb) (@HAppend.hAppend va_W va_W va_W _ (rcV X nw an sv dv n0 n1 n2 n3 n4 g0 gs gn gm) (@HAppend.hAppend va_W va_W va_W _ (odW (xa 11) vo) ([((xa 5), .inl (X.2.1, 3, .inl fr))])))) sz) (va_A (@HAppend.hAppend va_W va_W va_W _ (xW h0 nw sp xa la lb) (@HAppend.hAppend va_W va_W va_W _ (rcV X nw an sv dv n0 n1 n2 n3 n4 g0 gs gn gm) (@HAppend.hAppend va_W va_W va_W _ (odW (xa 11) vo) ([((xa 5), .inl (X.2.1, 3, .inl fr))])))) sz) s (@HAppend.hAppend va_W va_W va_W _ (xW h0 nw sp xa y_160 lb) (@HAppend.hAppend va_W va_W va_W _ (rcV X nw an sv dv n0 n1 n2 n3 n4 g0 gs gn gm) (@HAppend.hAppend va_W va_W va_W _ ([((xa 5), .inl (X.2.1, 3, .inl fr))]) (odW (xa 11) v_153)))) H locs := G
                  refine lv_aload_n zx zb dX10_stumble_136 rfl (lv_at hl 4 rfl) ?_
                  refine lv_lload zx zb dX10_stumble_137 (lv_at hl 1 rfl) ?_
                  refine lv_lload zx zb dX10_stumble_139 (lv_at hl 0 rfl) ?_
                  refine lv_ldiv zx zb dX10_stumble_141 (k_lnz2 c_157) ?_
                  refine k_ldE (fun y_161 => ?_)
                  refine r_put (C := RX10) (T := TX10) (N := 14) (ci := 8) (v := .long y_161) S in_X10_stumble_X10 tyX10_ok nmX10 G 0 rfl rfl 7 (by decide) lk_X10_stumble_42 rfl rfl rfl (Nat.le_of_ble_eq_true rfl) dX10_stumble_142 (fun H locs G => ?_)
                  have G : wd X (va_A (@HAppend.hAppend va_W va_W va_W _ (xW h0 nw sp xa la lb) (@HAppend.hAppend va_W va_W va_W _ (rcV X nw an sv dv n0 n1 n2 n3 n4 g0 gs gn gm) (@HAppend.hAppend va_W va_W va_W _ (odW (xa 11) vo) ([((xa 5), .inl (X.2.1, 3, .inl fr))])))) sz) (va_A (@HAppend.hAppend va_W va_W va_W _ (xW h0 nw sp xa la lb) (@HAppend.hAppend va_W va_W va_W _ (rcV X nw an sv dv n0 n1 n2 n3 n4 g0 gs gn gm) (@HAppend.hAppend va_W va_W va_W _ (odW (xa 11) vo) ([((xa 5), .inl (X.2.1, 3, .inl fr))])))) sz) s (@HAppend.hAppend va_W va_W va_W _ (xW h0 nw sp xa y_160 y_161) (@HAppend.hAppend va_W va_W va_W _ (rcV X nw an sv dv n0 n1 n2 n3 n4 g0 gs gn gm) (@HAppend.hAppend va_W va_W va_W _ ([((xa 5), .inl (X.2.1, 3, .inl fr))]) (odW (xa 11) v_153)))) H locs := G
                  exact join_124 y_160 y_161 _ _ _  G hl
              · intro la_158 lb_159 H locs ls  G hl
                refine lv_iconst (v := 1) zx zb dX10_stumble_145 (by decide) ?_
                exact e_int S zr zlk (vp_nar_int _) G (la_158, lb_159, v_153, fr) [0, 1, 2, 3, 4, 5, 6, 7, 8, 9, 10, 11, 12, 13, 14, 15, 16, 18, 17] rfl rfl (Or.inr rfl) ((stuF_p ⟨⟨_, hj_1, rfl⟩, hw_3, hw_5, hw_7⟩).symm) dX10_stumble_146
            · refine k_it (v := 5) rfl ?_
              refine r_aald (C := RX8) (b := (an 6)) S G 2 3 rfl rfl (k_vp (by decide)) rfl dX10_stumble_54 ?_
              refine lv_astore (lv' := [(5, .ref (an 6)), (0, .ref h0), (1, .int 5), (2, .int x2), (3, .int 2), (4, .int x4)]) zx zb dX10_stumble_55 hl (by decide) rfl (fun ls hl => ?_)
              refine lv_aload_n zx zb dX10_stumble_57 rfl (lv_at hl 1 rfl) ?_
              refine r_get (C := RX10) (T := TX10) (N := 14) (ci := 8) (v := .ref (xa 11)) S in_X10_stumble_X10 G 0 rfl rfl 11 (by decide) lk_X10_stumble_65 rfl dX10_stumble_58 ?_
              refine lv_aload zx zb dX10_stumble_61 (lv_at hl 0 rfl) ?_
              refine lv_aload_n zx zb dX10_stumble_63 rfl (lv_at hl 1 rfl) ?_
              refine r_get (C := RX10) (T := TX10) (N := 14) (ci := 8) (v := .ref nw) S in_X10_stumble_X10 G 0 rfl rfl 0 (by decide) lk_X10_stumble_10 rfl dX10_stumble_64 ?_
              refine r_get (C := RX5) (T := TX5) (N := 8) (ci := 3) (v := .int (dv 0)) S in_X10_stumble_X5 G 1 rfl rfl 0 (by decide) lk_X10_stumble_140 rfl dX10_stumble_67 ?_
              refine lv_aload_n zx zb dX10_stumble_70 rfl (lv_at hl 1 rfl) ?_
              refine r_get (C := RX10) (T := TX10) (N := 14) (ci := 8) (v := .ref nw) S in_X10_stumble_X10 G 0 rfl rfl 0 (by decide) lk_X10_stumble_10 rfl dX10_stumble_71 ?_
              refine r_get (C := RX5) (T := TX5) (N := 8) (ci := 3) (v := .int (dv 1)) S in_X10_stumble_X5 G 1 rfl rfl 1 (by decide) lk_X10_stumble_110 rfl dX10_stumble_74 ?_
              refine lv_iload_n zx zb dX10_stumble_77 rfl (lv_at hl 4 rfl) ?_
              refine r_iadd (v := ((dv 1) + 2)) S rfl dX10_stumble_78 ?_
              refine lv_iload_n zx zb dX10_stumble_79 rfl (lv_at hl 3 rfl) ?_
              refine lv_iload zx zb dX10_stumble_80 (lv_at hl 5 rfl) ?_
              refine b_wv (cells' := 0) (slots' := 0) (wr := @HAppend.hAppend va_W va_W va_W _ (xW h0 nw sp xa la lb) (@HAppend.hAppend va_W va_W va_W _ ([(nw, .inr (3, [.int (dv 0), .int (dv 1), .int (nI n0), .ref (an 0), .ref (an 7), .ref (an 9), .ref (an 11), .ref (an 13)])), ((an 0), .inl (X.2.2.2.2, 6, .inr (.inr (.inr (.inr (rowQ an)))))), ((an 1), .inr (6, [.int (sv 0), .int (sv 1), .int (sv 2), .int (dv 10), .int (dv 11), .int (dv 12), .int (dv 13), .int (dv 14)])), ((an 2), .inr (6, [.int (sv 3), .int (sv 4), .int (sv 5), .int (dv 15), .int (dv 16), .int (dv 17), .int (dv 18), .int (dv 19)])), ((an 3), .inr (6, [.int (sv 6), .int (sv 7), .int (sv 8), .int (dv 20), .int (dv 21), .int (dv 22), .int (dv 23), .int (dv 24)])), ((an 4), .inr (6, [.int (sv 9), .int (sv 10), .int (sv 11), .int (dv 25), .int (dv 26), .int (dv 27), .int (dv 28), .int (dv 29)])), ((an 5), .inr (6, [.int (sv 12), .int (sv 13), .int (sv 14), .int (dv 30), .int (dv 31), .int (dv 32), .int (dv 33), .int (dv 34)])), ((an 7), .inr (2, [.ref (an 8), .int (nI n1)])), ((an 8), .inl (X.2.1, 248, .inl g0)), ((an 9), .inr (5, [.int 5, .int 0, .int 1, .ref (an 10), .int (nI n2)])), ((an 10), .inl (X.2.1, 25, .inl gs)), ((an 11), .inr (5, [.int 6, .int 1, .int 1, .ref (an 12), .int (nI n3)])), ((an 12), .inl (X.2.1, 30, .inl gn)), ((an 13), .inr (5, [.int 6, .int 0, .int 0, .ref (an 14), .int (nI n4)])), ((an 14), .inl (X.2.1, 30, .inl gm))]) ([((xa 5), .inl (X.2.1, 3, .inl fr))]))) G rfl rfl [17, 8] [0, 1, 2, 3, 4, 5, 6, 7, 9, 10, 11, 12, 13, 14, 15, 16, 18] rfl rfl rfl rfl (n_V (As := [.ref (an 6), .int (dv 0), .int ((dv 1) + 2), .int x2, .int x4]) (rest := []) (C := RX3) (T := TX3) (N := 8) (ci := 1) S G (s_pose l X (xa 11) vo (an 6) (fun k => sv (15 + k)) (fun k => dv (35 + k)) (dv 0) ((dv 1) + 2) x2 x4 H.size) gX10_stumble_X3_pose rfl rfl rfl hdV_X3_pose ⟨Nat.le_of_ble_eq_true rfl, Nat.le_of_ble_eq_true rfl⟩ [17, 8] rfl rfl 17 rfl rfl rfl hl.1 (Nat.le_of_ble_eq_true rfl) dX10_stumble_82 ⟨Nat.le_of_ble_eq_true rfl, Nat.le_of_ble_eq_true rfl⟩) (fun u_162 H locs hp_162 G => ?_)
              obtain ⟨v_162, rfl⟩ : ∃ z, z = u_162 := ⟨_, rfl⟩
              have hq_162 := hp_162
              have G : wd X (va_A (@HAppend.hAppend va_W va_W va_W _ (xW h0 nw sp xa la lb) (@HAppend.hAppend va_W va_W va_W _ (rcV X nw an sv dv n0 n1 n2 n3 n4 g0 gs gn gm) (@HAppend.hAppend va_W va_W va_W _ (odW (xa 11) vo) ([((xa 5), .inl (X.2.1, 3, .inl fr))])))) sz) (va_A (@HAppend.hAppend va_W va_W va_W _ (xW h0 nw sp xa la lb) (@HAppend.hAppend va_W va_W va_W _ (rcV X nw an sv dv n0 n1 n2 n3 n4 g0 gs gn gm) (@HAppend.hAppend va_W va_W va_W _ (odW (xa 11) vo) ([((xa 5), .inl (X.2.1, 3, .inl fr))])))) sz) s (@HAppend.hAppend va_W va_W va_W _ (xW h0 nw sp xa la lb) (@HAppend.hAppend va_W va_W va_W _ (rcV X nw an sv dv n0 n1 n2 n3 n4 g0 gs gn gm) (@HAppend.hAppend va_W va_W va_W _ ([((xa 5), .inl (X.2.1, 3, .inl fr))]) (odW (xa 11) v_162)))) H locs := wd_sub G [0, 1, 2, 3, 4, 5, 6, 7, 18, 8, 9, 10, 11, 12, 13, 14, 15, 16, 17] rfl rfl
              refine lv_aload_n zx zb dX10_stumble_85 rfl (lv_at hl 1 rfl) ?_
              refine r_get (C := RX10) (T := TX10) (N := 14) (ci := 8) (v := .ref (xa 11)) S in_X10_stumble_X10 G 0 rfl rfl 11 (by decide) lk_X10_stumble_65 rfl dX10_stumble_86 ?_
              refine lv_aload zx zb dX10_stumble_89 (lv_at hl 0 rfl) ?_
              refine r_get (C := RX8) (T := TX8) (N := 8) (ci := 6) (v := .int (dv 36)) S in_X10_stumble_X8 G 8 rfl rfl 4 (by decide) lk_X10_stumble_137 rfl dX10_stumble_91 ?_
              refine lv_aload zx zb dX10_stumble_94 (lv_at hl 0 rfl) ?_
              refine r_get (C := RX8) (T := TX8) (N := 8) (ci := 6) (v := .int (dv 38)) S in_X10_stumble_X8 G 8 rfl rfl 6 (by decide) lk_X10_stumble_240 rfl dX10_stumble_96 ?_
              refine lv_iload_n zx zb dX10_stumble_99 rfl (lv_at hl 4 rfl) ?_
              refine o_rl (cells' := 0) (slots' := 0) G rfl rfl (n_SN (As := [.ref (xa 11), .int (dv 36), .int (dv 38), .int 2]) (rest := []) (host := "EggSpoons") S G (s_ways2 l X (xa 11) v_162 (dv 36) (dv 38) H.size) gX10_stumble_X3_ways_n243 rfl rfl rfl mm_X10_stumble_inX3 G.1.2.2.2.2.2.2.2.2.2.2.2 mm_X10_stumble_stX3_ways hdS_X3_ways ⟨Nat.le_of_ble_eq_true rfl, Nat.le_of_ble_eq_true rfl⟩ [18] rfl rfl rfl hl.1 (Nat.le_of_ble_eq_true rfl) dX10_stumble_100 ⟨Nat.le_of_ble_eq_true rfl, Nat.le_of_ble_eq_true rfl⟩) (fun r_163 u_163 H locs hp_163 G => ?_)
              have G : wd X (va_A (@HAppend.hAppend va_W va_W va_W _ (xW h0 nw sp xa la lb) (@HAppend.hAppend va_W va_W va_W _ (rcV X nw an sv dv n0 n1 n2 n3 n4 g0 gs gn gm) (@HAppend.hAppend va_W va_W va_W _ (odW (xa 11) vo) ([((xa 5), .inl (X.2.1, 3, .inl fr))])))) sz) (va_A (@HAppend.hAppend va_W va_W va_W _ (xW h0 nw sp xa la lb) (@HAppend.hAppend va_W va_W va_W _ (rcV X nw an sv dv n0 n1 n2 n3 n4 g0 gs gn gm) (@HAppend.hAppend va_W va_W va_W _ (odW (xa 11) vo) ([((xa 5), .inl (X.2.1, 3, .inl fr))])))) sz) s (@HAppend.hAppend va_W va_W va_W _ (xW h0 nw sp xa la lb) (@HAppend.hAppend va_W va_W va_W _ (rcV X nw an sv dv n0 n1 n2 n3 n4 g0 gs gn gm) (@HAppend.hAppend va_W va_W va_W _ ([((xa 5), .inl (X.2.1, 3, .inl fr))]) (odW (xa 11) v_162)))) H locs := G
              refine lv_lstore (lv' := [(6, .long r_163), (5, .ref (an 6)), (0, .ref h0), (1, .int 5), (2, .int x2), (3, .int 2), (4, .int x4)]) zx zb dX10_stumble_103 hl (by decide) rfl (fun ls hl => ?_)
              refine lv_iload_n zx zb dX10_stumble_105 rfl (lv_at hl 5 rfl) ?_
              refine o_rl (cells' := 0) (slots' := 0) G rfl rfl (n_S (As := [.int 2]) (rest := []) S G (s_tenTo l X 2 (by omega) H.size) gX10_stumble_X3_tenTo rfl rfl rfl hdS_X3_tenTo ⟨Nat.le_of_ble_eq_true rfl, Nat.le_of_ble_eq_true rfl⟩ [] rfl rfl rfl hl.1 (Nat.le_of_ble_eq_true rfl) dX10_stumble_106 ⟨Nat.le_of_ble_eq_true rfl, Nat.le_of_ble_eq_true rfl⟩) (fun r_164 u_164 H locs hp_164 G => ?_)
              have G : wd X (va_A (@HAppend.hAppend va_W va_W va_W _ (xW h0 nw sp xa la lb) (@HAppend.hAppend va_W va_W va_W _ (rcV X nw an sv dv n0 n1 n2 n3 n4 g0 gs gn gm) (@HAppend.hAppend va_W va_W va_W _ (odW (xa 11) vo) ([((xa 5), .inl (X.2.1, 3, .inl fr))])))) sz) (va_A (@HAppend.hAppend va_W va_W va_W _ (xW h0 nw sp xa la lb) (@HAppend.hAppend va_W va_W va_W _ (rcV X nw an sv dv n0 n1 n2 n3 n4 g0 gs gn gm) (@HAppend.hAppend va_W va_W va_W _ (odW (xa 11) vo) ([((xa 5), .inl (X.2.1, 3, .inl fr))])))) sz) s (@HAppend.hAppend va_W va_W va_W _ (xW h0 nw sp xa la lb) (@HAppend.hAppend va_W va_W va_W _ (rcV X nw an sv dv n0 n1 n2 n3 n4 g0 gs gn gm) (@HAppend.hAppend va_W va_W va_W _ ([((xa 5), .inl (X.2.1, 3, .inl fr))]) (odW (xa 11) v_162)))) H locs := G
              refine lv_lstore (lv' := [(8, .long r_164), (6, .long r_163), (5, .ref (an 6)), (0, .ref h0), (1, .int 5), (2, .int x2), (3, .int 2), (4, .int x4)]) zx zb dX10_stumble_109 hl (by decide) rfl (fun ls hl => ?_)
              refine lv_lload zx zb dX10_stumble_111 (lv_at hl 1 rfl) ?_
              refine lv_lload zx zb dX10_stumble_113 (lv_at hl 0 rfl) ?_
              refine o_rl (cells' := 0) (slots' := 0) G rfl rfl (n_S (As := [.long r_163, .long r_164]) (rest := []) S G (s_commonPart l X r_163 r_164 H.size) gX10_stumble_X3_commonPart rfl rfl rfl hdS_X3_commonPart ⟨Nat.le_of_ble_eq_true rfl, Nat.le_of_ble_eq_true rfl⟩ [] rfl rfl rfl hl.1 (Nat.le_of_ble_eq_true rfl) dX10_stumble_115 ⟨Nat.le_of_ble_eq_true rfl, Nat.le_of_ble_eq_true rfl⟩) (fun r_165 u_165 H locs hp_165 G => ?_)
              have G : wd X (va_A (@HAppend.hAppend va_W va_W va_W _ (xW h0 nw sp xa la lb) (@HAppend.hAppend va_W va_W va_W _ (rcV X nw an sv dv n0 n1 n2 n3 n4 g0 gs gn gm) (@HAppend.hAppend va_W va_W va_W _ (odW (xa 11) vo) ([((xa 5), .inl (X.2.1, 3, .inl fr))])))) sz) (va_A (@HAppend.hAppend va_W va_W va_W _ (xW h0 nw sp xa la lb) (@HAppend.hAppend va_W va_W va_W _ (rcV X nw an sv dv n0 n1 n2 n3 n4 g0 gs gn gm) (@HAppend.hAppend va_W va_W va_W _ (odW (xa 11) vo) ([((xa 5), .inl (X.2.1, 3, .inl fr))])))) sz) s (@HAppend.hAppend va_W va_W va_W _ (xW h0 nw sp xa la lb) (@HAppend.hAppend va_W va_W va_W _ (rcV X nw an sv dv n0 n1 n2 n3 n4 g0 gs gn gm) (@HAppend.hAppend va_W va_W va_W _ ([((xa 5), .inl (X.2.1, 3, .inl fr))]) (odW (xa 11) v_162)))) H locs := G
              refine lv_lstore (lv' := [(10, .long r_165), (8, .long r_164), (6, .long r_163), (5, .ref (an 6)), (0, .ref h0), (1, .int 5), (2, .int x2), (3, .int 2), (4, .int x4)]) zx zb dX10_stumble_118 hl (by decide) rfl (fun ls hl => ?_)
              refine lv_lload zx zb dX10_stumble_120 (lv_at hl 0 rfl) ?_
              refine lv_lconst (v := (Int32.toInt64 0)) zx zb dX10_stumble_122 (by decide) ?_
              refine W.lcmp zx zb dX10_stumble_123 ?_
              refine k_cutW (PP := fun Wx => ∀ (la_167 : Int64) (lb_168 : Int64) (H : Heap) (locs : List Loc) (ls : Array Slot), wd X (va_A (@HAppend.hAppend va_W va_W va_W _ (xW h0 nw sp xa la lb) (@HAppend.hAppend va_W va_W va_W _ (rcV X nw an sv dv n0 n1 n2 n3 n4 g0 gs gn gm) (@HAppend.hAppend va_W va_W va_W _ (odW (xa 11) vo) ([((xa 5), .inl (X.2.1, 3, .inl fr))])))) sz) (va_A (@HAppend.hAppend va_W va_W va_W _ (xW h0 nw sp xa la lb) (@HAppend.hAppend va_W va_W va_W _ (rcV X nw an sv dv n0 n1 n2 n3 n4 g0 gs gn gm) (@HAppend.hAppend va_W va_W va_W _ (odW (xa 11) vo) ([((xa 5), .inl (X.2.1, 3, .inl fr))])))) sz) s (@HAppend.hAppend va_W va_W va_W _ (xW h0 nw sp xa la_167 lb_168) (@HAppend.hAppend va_W va_W va_W _ (rcV X nw an sv dv n0 n1 n2 n3 n4 g0 gs gn gm) (@HAppend.hAppend va_W va_W va_W _ ([((xa 5), .inl (X.2.1, 3, .inl fr))]) (odW (xa 11) v_162)))) H locs → lv_has ls 12 [(10, .long r_165), (8, .long r_164), (6, .long r_163), (5, .ref (an 6)), (0, .ref h0), (1, .int 5), (2, .int x2), (3, .int 2), (4, .int x4)] → Wx (F0 m 145 ls []) H locs) ?_ ?_
              · intro join_124
                refine lv_if_le (tgt := 145) zx zb dX10_stumble_124 (by decide) (fun c_166 => ?_) (fun c_166 => ?_)
                · exact join_124 la lb _ _ _  G hl
                · refine lv_aload_n zx zb dX10_stumble_127 rfl (lv_at hl 4 rfl) ?_
                  refine lv_lload zx zb dX10_stumble_128 (lv_at hl 2 rfl) ?_
                  refine lv_lload zx zb dX10_stumble_130 (lv_at hl 0 rfl) ?_
                  refine lv_ldiv zx zb dX10_stumble_132 (k_lnz2 c_166) ?_
                  refine k_ldE (fun y_169 => ?_)
                  refine r_put (C := RX10) (T := TX10) (N := 14) (ci := 8) (v := .long y_169) S in_X10_stumble_X10 tyX10_ok nmX10 G 0 rfl rfl 6 (by decide) lk_X10_stumble_38 rfl rfl rfl (Nat.le_of_ble_eq_true rfl) dX10_stumble_133 (fun H locs G => ?_)
                  have G : wd X (va_A (@HAppend.hAppend va_W va_W va_W _ (xW h0 nw sp xa la lb) (@HAppend.hAppend va_W va_W va_W _ (rcV X nw an sv dv n0 n1 n2 n3 n4 g0 gs gn gm) (@HAppend.hAppend va_W va_W va_W _ (odW (xa 11) vo) ([((xa 5), .inl (X.2.1, 3, .inl fr))])))) sz) (va_A (@HAppend.hAppend va_W va_W va_W _ (xW h0 nw sp xa la lb) (@HAppend.hAppend va_W va_W va_W _ (rcV X nw an sv dv n0 n1 n2 n3 n4 g0 gs gn gm) (@HAppend.hAppend va_W va_W va_W _ (odW (xa 11) vo) ([((xa 5), .inl (X.2.1, 3, .inl fr))])))) sz) s (@HAppend.hAppend va_W va_W va_W _ (xW h0 nw sp xa y_169 lb) (@HAppend.hAppend va_W va_W va_W _ (rcV X nw an sv dv n0 n1 n2 n3 n4 g0 gs gn gm) (@HAppend.hAppend va_W va_W va_W _ ([((xa 5), .inl (X.2.1, 3, .inl fr))]) (odW (xa 11) v_162)))) H locs := G
                  refine lv_aload_n zx zb dX10_stumble_136 rfl (lv_at hl 4 rfl) ?_
                  refine lv_lload zx zb dX10_stumble_137 (lv_at hl 1 rfl) ?_
                  refine lv_lload zx zb dX10_stumble_139 (lv_at hl 0 rfl) ?_
                  refine lv_ldiv zx zb dX10_stumble_141 (k_lnz2 c_166) ?_
                  refine k_ldE (fun y_170 => ?_)
                  refine r_put (C := RX10) (T := TX10) (N := 14) (ci := 8) (v := .long y_170) S in_X10_stumble_X10 tyX10_ok nmX10 G 0 rfl rfl 7 (by decide) lk_X10_stumble_42 rfl rfl rfl (Nat.le_of_ble_eq_true rfl) dX10_stumble_142 (fun H locs G => ?_)
                  have G : wd X (va_A (@HAppend.hAppend va_W va_W va_W _ (xW h0 nw sp xa la lb) (@HAppend.hAppend va_W va_W va_W _ (rcV X nw an sv dv n0 n1 n2 n3 n4 g0 gs gn gm) (@HAppend.hAppend va_W va_W va_W _ (odW (xa 11) vo) ([((xa 5), .inl (X.2.1, 3, .inl fr))])))) sz) (va_A (@HAppend.hAppend va_W va_W va_W _ (xW h0 nw sp xa la lb) (@HAppend.hAppend va_W va_W va_W _ (rcV X nw an sv dv n0 n1 n2 n3 n4 g0 gs gn gm) (@HAppend.hAppend va_W va_W va_W _ (odW (xa 11) vo) ([((xa 5), .inl (X.2.1, 3, .inl fr))])))) sz) s (@HAppend.hAppend va_W va_W va_W _ (xW h0 nw sp xa y_169 y_170) (@HAppend.hAppend va_W va_W va_W _ (rcV X nw an sv dv n0 n1 n2 n3 n4 g0 gs gn gm) (@HAppend.hAppend va_W va_W va_W _ ([((xa 5), .inl (X.2.1, 3, .inl fr))]) (odW (xa 11) v_162)))) H locs := G
                  exact join_124 y_169 y_170 _ _ _  G hl
              · intro la_167 lb_168 H locs ls  G hl
                refine lv_iconst (v := 1) zx zb dX10_stumble_145 (by decide) ?_
                exact e_int S zr zlk (vp_nar_int _) G (la_167, lb_168, v_162, fr) [0, 1, 2, 3, 4, 5, 6, 7, 8, 9, 10, 11, 12, 13, 14, 15, 16, 18, 17] rfl rfl (Or.inr rfl) ((stuF_p ⟨⟨_, hj_1, rfl⟩, hw_3, hw_5, hw_7⟩).symm) dX10_stumble_146
          · have hl : lv_has ls 12 [(0, .ref h0), (1, .int (nI j_1)), (2, .int x2), (3, .int 3), (4, .int x4)] := hl
            refine lv_aload_n zx zb dX10_stumble_46 rfl (lv_at hl 0 rfl) ?_
            refine r_get (C := RX10) (T := TX10) (N := 14) (ci := 8) (v := .ref nw) S in_X10_stumble_X10 G 0 rfl rfl 0 (by decide) lk_X10_stumble_10 rfl dX10_stumble_47 ?_
            refine r_get (C := RX5) (T := TX5) (N := 8) (ci := 3) (v := .ref (an 0)) S in_X10_stumble_X5 G 1 rfl rfl 3 (by decide) lk_X10_stumble_126 rfl dX10_stumble_50 ?_
            refine lv_iload_n zx zb dX10_stumble_53 rfl (lv_at hl 1 rfl) ?_
            rcases k_6c (show j_1 < 6 by omega) with rfl | rfl | rfl | rfl | rfl | rfl
            · refine k_it (v := 0) rfl ?_
              refine r_aald (C := RX8) (b := (an 1)) S G 2 3 rfl rfl (k_vp (by decide)) rfl dX10_stumble_54 ?_
              refine lv_astore (lv' := [(5, .ref (an 1)), (0, .ref h0), (1, .int 0), (2, .int x2), (3, .int 3), (4, .int x4)]) zx zb dX10_stumble_55 hl (by decide) rfl (fun ls hl => ?_)
              refine lv_aload_n zx zb dX10_stumble_57 rfl (lv_at hl 1 rfl) ?_
              refine r_get (C := RX10) (T := TX10) (N := 14) (ci := 8) (v := .ref (xa 11)) S in_X10_stumble_X10 G 0 rfl rfl 11 (by decide) lk_X10_stumble_65 rfl dX10_stumble_58 ?_
              refine lv_aload zx zb dX10_stumble_61 (lv_at hl 0 rfl) ?_
              refine lv_aload_n zx zb dX10_stumble_63 rfl (lv_at hl 1 rfl) ?_
              refine r_get (C := RX10) (T := TX10) (N := 14) (ci := 8) (v := .ref nw) S in_X10_stumble_X10 G 0 rfl rfl 0 (by decide) lk_X10_stumble_10 rfl dX10_stumble_64 ?_
              refine r_get (C := RX5) (T := TX5) (N := 8) (ci := 3) (v := .int (dv 0)) S in_X10_stumble_X5 G 1 rfl rfl 0 (by decide) lk_X10_stumble_140 rfl dX10_stumble_67 ?_
              refine lv_aload_n zx zb dX10_stumble_70 rfl (lv_at hl 1 rfl) ?_
              refine r_get (C := RX10) (T := TX10) (N := 14) (ci := 8) (v := .ref nw) S in_X10_stumble_X10 G 0 rfl rfl 0 (by decide) lk_X10_stumble_10 rfl dX10_stumble_71 ?_
              refine r_get (C := RX5) (T := TX5) (N := 8) (ci := 3) (v := .int (dv 1)) S in_X10_stumble_X5 G 1 rfl rfl 1 (by decide) lk_X10_stumble_110 rfl dX10_stumble_74 ?_
              refine lv_iload_n zx zb dX10_stumble_77 rfl (lv_at hl 4 rfl) ?_
              refine r_iadd (v := ((dv 1) + 3)) S rfl dX10_stumble_78 ?_
              refine lv_iload_n zx zb dX10_stumble_79 rfl (lv_at hl 3 rfl) ?_
              refine lv_iload zx zb dX10_stumble_80 (lv_at hl 5 rfl) ?_
              refine b_wv (cells' := 0) (slots' := 0) (wr := @HAppend.hAppend va_W va_W va_W _ (xW h0 nw sp xa la lb) (@HAppend.hAppend va_W va_W va_W _ ([(nw, .inr (3, [.int (dv 0), .int (dv 1), .int (nI n0), .ref (an 0), .ref (an 7), .ref (an 9), .ref (an 11), .ref (an 13)])), ((an 0), .inl (X.2.2.2.2, 6, .inr (.inr (.inr (.inr (rowQ an)))))), ((an 2), .inr (6, [.int (sv 3), .int (sv 4), .int (sv 5), .int (dv 15), .int (dv 16), .int (dv 17), .int (dv 18), .int (dv 19)])), ((an 3), .inr (6, [.int (sv 6), .int (sv 7), .int (sv 8), .int (dv 20), .int (dv 21), .int (dv 22), .int (dv 23), .int (dv 24)])), ((an 4), .inr (6, [.int (sv 9), .int (sv 10), .int (sv 11), .int (dv 25), .int (dv 26), .int (dv 27), .int (dv 28), .int (dv 29)])), ((an 5), .inr (6, [.int (sv 12), .int (sv 13), .int (sv 14), .int (dv 30), .int (dv 31), .int (dv 32), .int (dv 33), .int (dv 34)])), ((an 6), .inr (6, [.int (sv 15), .int (sv 16), .int (sv 17), .int (dv 35), .int (dv 36), .int (dv 37), .int (dv 38), .int (dv 39)])), ((an 7), .inr (2, [.ref (an 8), .int (nI n1)])), ((an 8), .inl (X.2.1, 248, .inl g0)), ((an 9), .inr (5, [.int 5, .int 0, .int 1, .ref (an 10), .int (nI n2)])), ((an 10), .inl (X.2.1, 25, .inl gs)), ((an 11), .inr (5, [.int 6, .int 1, .int 1, .ref (an 12), .int (nI n3)])), ((an 12), .inl (X.2.1, 30, .inl gn)), ((an 13), .inr (5, [.int 6, .int 0, .int 0, .ref (an 14), .int (nI n4)])), ((an 14), .inl (X.2.1, 30, .inl gm))]) ([((xa 5), .inl (X.2.1, 3, .inl fr))]))) G rfl rfl [17, 3] [0, 1, 2, 4, 5, 6, 7, 8, 9, 10, 11, 12, 13, 14, 15, 16, 18] rfl rfl rfl rfl (n_V (As := [.ref (an 1), .int (dv 0), .int ((dv 1) + 3), .int x2, .int x4]) (rest := []) (C := RX3) (T := TX3) (N := 8) (ci := 1) S G (s_pose l X (xa 11) vo (an 1) (fun k => sv (0 + k)) (fun k => dv (10 + k)) (dv 0) ((dv 1) + 3) x2 x4 H.size) gX10_stumble_X3_pose rfl rfl rfl hdV_X3_pose ⟨Nat.le_of_ble_eq_true rfl, Nat.le_of_ble_eq_true rfl⟩ [17, 3] rfl rfl 17 rfl rfl rfl hl.1 (Nat.le_of_ble_eq_true rfl) dX10_stumble_82 ⟨Nat.le_of_ble_eq_true rfl, Nat.le_of_ble_eq_true rfl⟩) (fun u_171 H locs hp_171 G => ?_)
              obtain ⟨v_171, rfl⟩ : ∃ z, z = u_171 := ⟨_, rfl⟩
              have hq_171 := hp_171
              have G : wd X (va_A (@HAppend.hAppend va_W va_W va_W _ (xW h0 nw sp xa la lb) (@HAppend.hAppend va_W va_W va_W _ (rcV X nw an sv dv n0 n1 n2 n3 n4 g0 gs gn gm) (@HAppend.hAppend va_W va_W va_W _ (odW (xa 11) vo) ([((xa 5), .inl (X.2.1, 3, .inl fr))])))) sz) (va_A (@HAppend.hAppend va_W va_W va_W _ (xW h0 nw sp xa la lb) (@HAppend.hAppend va_W va_W va_W _ (rcV X nw an sv dv n0 n1 n2 n3 n4 g0 gs gn gm) (@HAppend.hAppend va_W va_W va_W _ (odW (xa 11) vo) ([((xa 5), .inl (X.2.1, 3, .inl fr))])))) sz) s (@HAppend.hAppend va_W va_W va_W _ (xW h0 nw sp xa la lb) (@HAppend.hAppend va_W va_W va_W _ (rcV X nw an sv dv n0 n1 n2 n3 n4 g0 gs gn gm) (@HAppend.hAppend va_W va_W va_W _ ([((xa 5), .inl (X.2.1, 3, .inl fr))]) (odW (xa 11) v_171)))) H locs := wd_sub G [0, 1, 2, 18, 3, 4, 5, 6, 7, 8, 9, 10, 11, 12, 13, 14, 15, 16, 17] rfl rfl
              refine lv_aload_n zx zb dX10_stumble_85 rfl (lv_at hl 1 rfl) ?_
              refine r_get (C := RX10) (T := TX10) (N := 14) (ci := 8) (v := .ref (xa 11)) S in_X10_stumble_X10 G 0 rfl rfl 11 (by decide) lk_X10_stumble_65 rfl dX10_stumble_86 ?_
              refine lv_aload zx zb dX10_stumble_89 (lv_at hl 0 rfl) ?_
              refine r_get (C := RX8) (T := TX8) (N := 8) (ci := 6) (v := .int (dv 11)) S in_X10_stumble_X8 G 3 rfl rfl 4 (by decide) lk_X10_stumble_137 rfl dX10_stumble_91 ?_
              refine lv_aload zx zb dX10_stumble_94 (lv_at hl 0 rfl) ?_
              refine r_get (C := RX8) (T := TX8) (N := 8) (ci := 6) (v := .int (dv 13)) S in_X10_stumble_X8 G 3 rfl rfl 6 (by decide) lk_X10_stumble_240 rfl dX10_stumble_96 ?_
              refine lv_iload_n zx zb dX10_stumble_99 rfl (lv_at hl 4 rfl) ?_
              refine o_rl (cells' := 0) (slots' := 0) G rfl rfl (n_SN (As := [.ref (xa 11), .int (dv 11), .int (dv 13), .int 3]) (rest := []) (host := "EggSpoons") S G (s_ways3 l X (xa 11) v_171 (dv 11) (dv 13) H.size) gX10_stumble_X3_ways_n243 rfl rfl rfl mm_X10_stumble_inX3 G.1.2.2.2.2.2.2.2.2.2.2.2 mm_X10_stumble_stX3_ways hdS_X3_ways ⟨Nat.le_of_ble_eq_true rfl, Nat.le_of_ble_eq_true rfl⟩ [18] rfl rfl rfl hl.1 (Nat.le_of_ble_eq_true rfl) dX10_stumble_100 ⟨Nat.le_of_ble_eq_true rfl, Nat.le_of_ble_eq_true rfl⟩) (fun r_172 u_172 H locs hp_172 G => ?_)
              have G : wd X (va_A (@HAppend.hAppend va_W va_W va_W _ (xW h0 nw sp xa la lb) (@HAppend.hAppend va_W va_W va_W _ (rcV X nw an sv dv n0 n1 n2 n3 n4 g0 gs gn gm) (@HAppend.hAppend va_W va_W va_W _ (odW (xa 11) vo) ([((xa 5), .inl (X.2.1, 3, .inl fr))])))) sz) (va_A (@HAppend.hAppend va_W va_W va_W _ (xW h0 nw sp xa la lb) (@HAppend.hAppend va_W va_W va_W _ (rcV X nw an sv dv n0 n1 n2 n3 n4 g0 gs gn gm) (@HAppend.hAppend va_W va_W va_W _ (odW (xa 11) vo) ([((xa 5), .inl (X.2.1, 3, .inl fr))])))) sz) s (@HAppend.hAppend va_W va_W va_W _ (xW h0 nw sp xa la lb) (@HAppend.hAppend va_W va_W va_W _ (rcV X nw an sv dv n0 n1 n2 n3 n4 g0 gs gn gm) (@HAppend.hAppend va_W va_W va_W _ ([((xa 5), .inl (X.2.1, 3, .inl fr))]) (odW (xa 11) v_171)))) H locs := G
              refine lv_lstore (lv' := [(6, .long r_172), (5, .ref (an 1)), (0, .ref h0), (1, .int 0), (2, .int x2), (3, .int 3), (4, .int x4)]) zx zb dX10_stumble_103 hl (by decide) rfl (fun ls hl => ?_)
              refine lv_iload_n zx zb dX10_stumble_105 rfl (lv_at hl 5 rfl) ?_
              refine o_rl (cells' := 0) (slots' := 0) G rfl rfl (n_S (As := [.int 3]) (rest := []) S G (s_tenTo l X 3 (by omega) H.size) gX10_stumble_X3_tenTo rfl rfl rfl hdS_X3_tenTo ⟨Nat.le_of_ble_eq_true rfl, Nat.le_of_ble_eq_true rfl⟩ [] rfl rfl rfl hl.1 (Nat.le_of_ble_eq_true rfl) dX10_stumble_106 ⟨Nat.le_of_ble_eq_true rfl, Nat.le_of_ble_eq_true rfl⟩) (fun r_173 u_173 H locs hp_173 G => ?_)
              have G : wd X (va_A (@HAppend.hAppend va_W va_W va_W _ (xW h0 nw sp xa la lb) (@HAppend.hAppend va_W va_W va_W _ (rcV X nw an sv dv n0 n1 n2 n3 n4 g0 gs gn gm) (@HAppend.hAppend va_W va_W va_W _ (odW (xa 11) vo) ([((xa 5), .inl (X.2.1, 3, .inl fr))])))) sz) (va_A (@HAppend.hAppend va_W va_W va_W _ (xW h0 nw sp xa la lb) (@HAppend.hAppend va_W va_W va_W _ (rcV X nw an sv dv n0 n1 n2 n3 n4 g0 gs gn gm) (@HAppend.hAppend va_W va_W va_W _ (odW (xa 11) vo) ([((xa 5), .inl (X.2.1, 3, .inl fr))])))) sz) s (@HAppend.hAppend va_W va_W va_W _ (xW h0 nw sp xa la lb) (@HAppend.hAppend va_W va_W va_W _ (rcV X nw an sv dv n0 n1 n2 n3 n4 g0 gs gn gm) (@HAppend.hAppend va_W va_W va_W _ ([((xa 5), .inl (X.2.1, 3, .inl fr))]) (odW (xa 11) v_171)))) H locs := G
              refine lv_lstore (lv' := [(8, .long r_173), (6, .long r_172), (5, .ref (an 1)), (0, .ref h0), (1, .int 0), (2, .int x2), (3, .int 3), (4, .int x4)]) zx zb dX10_stumble_109 hl (by decide) rfl (fun ls hl => ?_)
              refine lv_lload zx zb dX10_stumble_111 (lv_at hl 1 rfl) ?_
              refine lv_lload zx zb dX10_stumble_113 (lv_at hl 0 rfl) ?_
              refine o_rl (cells' := 0) (slots' := 0) G rfl rfl (n_S (As := [.long r_172, .long r_173]) (rest := []) S G (s_commonPart l X r_172 r_173 H.size) gX10_stumble_X3_commonPart rfl rfl rfl hdS_X3_commonPart ⟨Nat.le_of_ble_eq_true rfl, Nat.le_of_ble_eq_true rfl⟩ [] rfl rfl rfl hl.1 (Nat.le_of_ble_eq_true rfl) dX10_stumble_115 ⟨Nat.le_of_ble_eq_true rfl, Nat.le_of_ble_eq_true rfl⟩) (fun r_174 u_174 H locs hp_174 G => ?_)
              have G : wd X (va_A (@HAppend.hAppend va_W va_W va_W _ (xW h0 nw sp xa la lb) (@HAppend.hAppend va_W va_W va_W _ (rcV X nw an sv dv n0 n1 n2 n3 n4 g0 gs gn gm) (@HAppend.hAppend va_W va_W va_W _ (odW (xa 11) vo) ([((xa 5), .inl (X.2.1, 3, .inl fr))])))) sz) (va_A (@HAppend.hAppend va_W va_W va_W _ (xW h0 nw sp xa la lb) (@HAppend.hAppend va_W va_W va_W _ (rcV X nw an sv dv n0 n1 n2 n3 n4 g0 gs gn gm) (@HAppend.hAppend va_W va_W va_W _ (odW (xa 11) vo) ([((xa 5), .inl (X.2.1, 3, .inl fr))])))) sz) s (@HAppend.hAppend va_W va_W va_W _ (xW h0 nw sp xa la lb) (@HAppend.hAppend va_W va_W va_W _ (rcV X nw an sv dv n0 n1 n2 n3 n4 g0 gs gn gm) (@HAppend.hAppend va_W va_W va_W _ ([((xa 5), .inl (X.2.1, 3, .inl fr))]) (odW (xa 11) v_171)))) H locs := G
              refine lv_lstore (lv' := [(10, .long r_174), (8, .long r_173), (6, .long r_172), (5, .ref (an 1)), (0, .ref h0), (1, .int 0), (2, .int x2), (3, .int 3), (4, .int x4)]) zx zb dX10_stumble_118 hl (by decide) rfl (fun ls hl => ?_)
              refine lv_lload zx zb dX10_stumble_120 (lv_at hl 0 rfl) ?_
              refine lv_lconst (v := (Int32.toInt64 0)) zx zb dX10_stumble_122 (by decide) ?_
              refine W.lcmp zx zb dX10_stumble_123 ?_
              refine k_cutW (PP := fun Wx => ∀ (la_176 : Int64) (lb_177 : Int64) (H : Heap) (locs : List Loc) (ls : Array Slot), wd X (va_A (@HAppend.hAppend va_W va_W va_W _ (xW h0 nw sp xa la lb) (@HAppend.hAppend va_W va_W va_W _ (rcV X nw an sv dv n0 n1 n2 n3 n4 g0 gs gn gm) (@HAppend.hAppend va_W va_W va_W _ (odW (xa 11) vo) ([((xa 5), .inl (X.2.1, 3, .inl fr))])))) sz) (va_A (@HAppend.hAppend va_W va_W va_W _ (xW h0 nw sp xa la lb) (@HAppend.hAppend va_W va_W va_W _ (rcV X nw an sv dv n0 n1 n2 n3 n4 g0 gs gn gm) (@HAppend.hAppend va_W va_W va_W _ (odW (xa 11) vo) ([((xa 5), .inl (X.2.1, 3, .inl fr))])))) sz) s (@HAppend.hAppend va_W va_W va_W _ (xW h0 nw sp xa la_176 lb_177) (@HAppend.hAppend va_W va_W va_W _ (rcV X nw an sv dv n0 n1 n2 n3 n4 g0 gs gn gm) (@HAppend.hAppend va_W va_W va_W _ ([((xa 5), .inl (X.2.1, 3, .inl fr))]) (odW (xa 11) v_171)))) H locs → lv_has ls 12 [(10, .long r_174), (8, .long r_173), (6, .long r_172), (5, .ref (an 1)), (0, .ref h0), (1, .int 0), (2, .int x2), (3, .int 3), (4, .int x4)] → Wx (F0 m 145 ls []) H locs) ?_ ?_
              · intro join_124
                refine lv_if_le (tgt := 145) zx zb dX10_stumble_124 (by decide) (fun c_175 => ?_) (fun c_175 => ?_)
                · exact join_124 la lb _ _ _  G hl
                · refine lv_aload_n zx zb dX10_stumble_127 rfl (lv_at hl 4 rfl) ?_
                  refine lv_lload zx zb dX10_stumble_128 (lv_at hl 2 rfl) ?_
                  refine lv_lload zx zb dX10_stumble_130 (lv_at hl 0 rfl) ?_
                  refine lv_ldiv zx zb dX10_stumble_132 (k_lnz2 c_175) ?_
                  refine k_ldE (fun y_178 => ?_)
                  refine r_put (C := RX10) (T := TX10) (N := 14) (ci := 8) (v := .long y_178) S in_X10_stumble_X10 tyX10_ok nmX10 G 0 rfl rfl 6 (by decide) lk_X10_stumble_38 rfl rfl rfl (Nat.le_of_ble_eq_true rfl) dX10_stumble_133 (fun H locs G => ?_)
                  have G : wd X (va_A (@HAppend.hAppend va_W va_W va_W _ (xW h0 nw sp xa la lb) (@HAppend.hAppend va_W va_W va_W _ (rcV X nw an sv dv n0 n1 n2 n3 n4 g0 gs gn gm) (@HAppend.hAppend va_W va_W va_W _ (odW (xa 11) vo) ([((xa 5), .inl (X.2.1, 3, .inl fr))])))) sz) (va_A (@HAppend.hAppend va_W va_W va_W _ (xW h0 nw sp xa la lb) (@HAppend.hAppend va_W va_W va_W _ (rcV X nw an sv dv n0 n1 n2 n3 n4 g0 gs gn gm) (@HAppend.hAppend va_W va_W va_W _ (odW (xa 11) vo) ([((xa 5), .inl (X.2.1, 3, .inl fr))])))) sz) s (@HAppend.hAppend va_W va_W va_W _ (xW h0 nw sp xa y_178 lb) (@HAppend.hAppend va_W va_W va_W _ (rcV X nw an sv dv n0 n1 n2 n3 n4 g0 gs gn gm) (@HAppend.hAppend va_W va_W va_W _ ([((xa 5), .inl (X.2.1, 3, .inl fr))]) (odW (xa 11) v_171)))) H locs := G
                  refine lv_aload_n zx zb dX10_stumble_136 rfl (lv_at hl 4 rfl) ?_
                  refine lv_lload zx zb dX10_stumble_137 (lv_at hl 1 rfl) ?_
                  refine lv_lload zx zb dX10_stumble_139 (lv_at hl 0 rfl) ?_
                  refine lv_ldiv zx zb dX10_stumble_141 (k_lnz2 c_175) ?_
                  refine k_ldE (fun y_179 => ?_)
                  refine r_put (C := RX10) (T := TX10) (N := 14) (ci := 8) (v := .long y_179) S in_X10_stumble_X10 tyX10_ok nmX10 G 0 rfl rfl 7 (by decide) lk_X10_stumble_42 rfl rfl rfl (Nat.le_of_ble_eq_true rfl) dX10_stumble_142 (fun H locs G => ?_)
                  have G : wd X (va_A (@HAppend.hAppend va_W va_W va_W _ (xW h0 nw sp xa la lb) (@HAppend.hAppend va_W va_W va_W _ (rcV X nw an sv dv n0 n1 n2 n3 n4 g0 gs gn gm) (@HAppend.hAppend va_W va_W va_W _ (odW (xa 11) vo) ([((xa 5), .inl (X.2.1, 3, .inl fr))])))) sz) (va_A (@HAppend.hAppend va_W va_W va_W _ (xW h0 nw sp xa la lb) (@HAppend.hAppend va_W va_W va_W _ (rcV X nw an sv dv n0 n1 n2 n3 n4 g0 gs gn gm) (@HAppend.hAppend va_W va_W va_W _ (odW (xa 11) vo) ([((xa 5), .inl (X.2.1, 3, .inl fr))])))) sz) s (@HAppend.hAppend va_W va_W va_W _ (xW h0 nw sp xa y_178 y_179) (@HAppend.hAppend va_W va_W va_W _ (rcV X nw an sv dv n0 n1 n2 n3 n4 g0 gs gn gm) (@HAppend.hAppend va_W va_W va_W _ ([((xa 5), .inl (X.2.1, 3, .inl fr))]) (odW (xa 11) v_171)))) H locs := G
                  exact join_124 y_178 y_179 _ _ _  G hl
              · intro la_176 lb_177 H locs ls  G hl
                refine lv_iconst (v := 1) zx zb dX10_stumble_145 (by decide) ?_
                exact e_int S zr zlk (vp_nar_int _) G (la_176, lb_177, v_171, fr) [0, 1, 2, 3, 4, 5, 6, 7, 8, 9, 10, 11, 12, 13, 14, 15, 16, 18, 17] rfl rfl (Or.inr rfl) ((stuF_p ⟨⟨_, hj_1, rfl⟩, hw_3, hw_5, hw_7⟩).symm) dX10_stumble_146
            · refine k_it (v := 1) rfl ?_
              refine r_aald (C := RX8) (b := (an 2)) S G 2 3 rfl rfl (k_vp (by decide)) rfl dX10_stumble_54 ?_
              refine lv_astore (lv' := [(5, .ref (an 2)), (0, .ref h0), (1, .int 1), (2, .int x2), (3, .int 3), (4, .int x4)]) zx zb dX10_stumble_55 hl (by decide) rfl (fun ls hl => ?_)
              refine lv_aload_n zx zb dX10_stumble_57 rfl (lv_at hl 1 rfl) ?_
              refine r_get (C := RX10) (T := TX10) (N := 14) (ci := 8) (v := .ref (xa 11)) S in_X10_stumble_X10 G 0 rfl rfl 11 (by decide) lk_X10_stumble_65 rfl dX10_stumble_58 ?_
              refine lv_aload zx zb dX10_stumble_61 (lv_at hl 0 rfl) ?_
              refine lv_aload_n zx zb dX10_stumble_63 rfl (lv_at hl 1 rfl) ?_
              refine r_get (C := RX10) (T := TX10) (N := 14) (ci := 8) (v := .ref nw) S in_X10_stumble_X10 G 0 rfl rfl 0 (by decide) lk_X10_stumble_10 rfl dX10_stumble_64 ?_
              refine r_get (C := RX5) (T := TX5) (N := 8) (ci := 3) (v := .int (dv 0)) S in_X10_stumble_X5 G 1 rfl rfl 0 (by decide) lk_X10_stumble_140 rfl dX10_stumble_67 ?_
              refine lv_aload_n zx zb dX10_stumble_70 rfl (lv_at hl 1 rfl) ?_
              refine r_get (C := RX10) (T := TX10) (N := 14) (ci := 8) (v := .ref nw) S in_X10_stumble_X10 G 0 rfl rfl 0 (by decide) lk_X10_stumble_10 rfl dX10_stumble_71 ?_
              refine r_get (C := RX5) (T := TX5) (N := 8) (ci := 3) (v := .int (dv 1)) S in_X10_stumble_X5 G 1 rfl rfl 1 (by decide) lk_X10_stumble_110 rfl dX10_stumble_74 ?_
              refine lv_iload_n zx zb dX10_stumble_77 rfl (lv_at hl 4 rfl) ?_
              refine r_iadd (v := ((dv 1) + 3)) S rfl dX10_stumble_78 ?_
              refine lv_iload_n zx zb dX10_stumble_79 rfl (lv_at hl 3 rfl) ?_
              refine lv_iload zx zb dX10_stumble_80 (lv_at hl 5 rfl) ?_
              refine b_wv (cells' := 0) (slots' := 0) (wr := @HAppend.hAppend va_W va_W va_W _ (xW h0 nw sp xa la lb) (@HAppend.hAppend va_W va_W va_W _ ([(nw, .inr (3, [.int (dv 0), .int (dv 1), .int (nI n0), .ref (an 0), .ref (an 7), .ref (an 9), .ref (an 11), .ref (an 13)])), ((an 0), .inl (X.2.2.2.2, 6, .inr (.inr (.inr (.inr (rowQ an)))))), ((an 1), .inr (6, [.int (sv 0), .int (sv 1), .int (sv 2), .int (dv 10), .int (dv 11), .int (dv 12), .int (dv 13), .int (dv 14)])), ((an 3), .inr (6, [.int (sv 6), .int (sv 7), .int (sv 8), .int (dv 20), .int (dv 21), .int (dv 22), .int (dv 23), .int (dv 24)])), ((an 4), .inr (6, [.int (sv 9), .int (sv 10), .int (sv 11), .int (dv 25), .int (dv 26), .int (dv 27), .int (dv 28), .int (dv 29)])), ((an 5), .inr (6, [.int (sv 12), .int (sv 13), .int (sv 14), .int (dv 30), .int (dv 31), .int (dv 32), .int (dv 33), .int (dv 34)])), ((an 6), .inr (6, [.int (sv 15), .int (sv 16), .int (sv 17), .int (dv 35), .int (dv 36), .int (dv 37), .int (dv 38), .int (dv 39)])), ((an 7), .inr (2, [.ref (an 8), .int (nI n1)])), ((an 8), .inl (X.2.1, 248, .inl g0)), ((an 9), .inr (5, [.int 5, .int 0, .int 1, .ref (an 10), .int (nI n2)])), ((an 10), .inl (X.2.1, 25, .inl gs)), ((an 11), .inr (5, [.int 6, .int 1, .int 1, .ref (an 12), .int (nI n3)])), ((an 12), .inl (X.2.1, 30, .inl gn)), ((an 13), .inr (5, [.int 6, .int 0, .int 0, .ref (an 14), .int (nI n4)])), ((an 14), .inl (X.2.1, 30, .inl gm))]) ([((xa 5), .inl (X.2.1, 3, .inl fr))]))) G rfl rfl [17, 4] [0, 1, 2, 3, 5, 6, 7, 8, 9, 10, 11, 12, 13, 14, 15, 16, 18] rfl rfl rfl rfl (n_V (As := [.ref (an 2), .int (dv 0), .int ((dv 1) + 3), .int x2, .int x4]) (rest := []) (C := RX3) (T := TX3) (N := 8) (ci := 1) S G (s_pose l X (xa 11) vo (an 2) (fun k => sv (3 + k)) (fun k => dv (15 + k)) (dv 0) ((dv 1) + 3) x2 x4 H.size) gX10_stumble_X3_pose rfl rfl rfl hdV_X3_pose ⟨Nat.le_of_ble_eq_true rfl, Nat.le_of_ble_eq_true rfl⟩ [17, 4] rfl rfl 17 rfl rfl rfl hl.1 (Nat.le_of_ble_eq_true rfl) dX10_stumble_82 ⟨Nat.le_of_ble_eq_true rfl, Nat.le_of_ble_eq_true rfl⟩) (fun u_180 H locs hp_180 G => ?_)
              obtain ⟨v_180, rfl⟩ : ∃ z, z = u_180 := ⟨_, rfl⟩
              have hq_180 := hp_180
              have G : wd X (va_A (@HAppend.hAppend va_W va_W va_W _ (xW h0 nw sp xa la lb) (@HAppend.hAppend va_W va_W va_W _ (rcV X nw an sv dv n0 n1 n2 n3 n4 g0 gs gn gm) (@HAppend.hAppend va_W va_W va_W _ (odW (xa 11) vo) ([((xa 5), .inl (X.2.1, 3, .inl fr))])))) sz) (va_A (@HAppend.hAppend va_W va_W va_W _ (xW h0 nw sp xa la lb) (@HAppend.hAppend va_W va_W va_W _ (rcV X nw an sv dv n0 n1 n2 n3 n4 g0 gs gn gm) (@HAppend.hAppend va_W va_W va_W _ (odW (xa 11) vo) ([((xa 5), .inl (X.2.1, 3, .inl fr))])))) sz) s (@HAppend.hAppend va_W va_W va_W _ (xW h0 nw sp xa la lb) (@HAppend.hAppend va_W va_W va_W _ (rcV X nw an sv dv n0 n1 n2 n3 n4 g0 gs gn gm) (@HAppend.hAppend va_W va_W va_W _ ([((xa 5), .inl (X.2.1, 3, .inl fr))]) (odW (xa 11) v_180)))) H locs := wd_sub G [0, 1, 2, 3, 18, 4, 5, 6, 7, 8, 9, 10, 11, 12, 13, 14, 15, 16, 17] rfl rfl
              refine lv_aload_n zx zb dX10_stumble_85 rfl (lv_at hl 1 rfl) ?_
              refine r_get (C := RX10) (T := TX10) (N := 14) (ci := 8) (v := .ref (xa 11)) S in_X10_stumble_X10 G 0 rfl rfl 11 (by decide) lk_X10_stumble_65 rfl dX10_stumble_86 ?_
              refine lv_aload zx zb dX10_stumble_89 (lv_at hl 0 rfl) ?_
              refine r_get (C := RX8) (T := TX8) (N := 8) (ci := 6) (v := .int (dv 16)) S in_X10_stumble_X8 G 4 rfl rfl 4 (by decide) lk_X10_stumble_137 rfl dX10_stumble_91 ?_
              refine lv_aload zx zb dX10_stumble_94 (lv_at hl 0 rfl) ?_
              refine r_get (C := RX8) (T := TX8) (N := 8) (ci := 6) (v := .int (dv 18)) S in_X10_stumble_X8 G 4 rfl rfl 6 (by decide) lk_X10_stumble_240 rfl dX10_stumble_96 ?_
              refine lv_iload_n zx zb dX10_stumble_99 rfl (lv_at hl 4 rfl) ?_
              refine o_rl (cells' := 0) (slots' := 0) G rfl rfl (n_SN (As := [.ref (xa 11), .int (dv 16), .int (dv 18), .int 3]) (rest := []) (host := "EggSpoons") S G (s_ways3 l X (xa 11) v_180 (dv 16) (dv 18) H.size) gX10_stumble_X3_ways_n243 rfl rfl rfl mm_X10_stumble_inX3 G.1.2.2.2.2.2.2.2.2.2.2.2 mm_X10_stumble_stX3_ways hdS_X3_ways ⟨Nat.le_of_ble_eq_true rfl, Nat.le_of_ble_eq_true rfl⟩ [18] rfl rfl rfl hl.1 (Nat.le_of_ble_eq_true rfl) dX10_stumble_100 ⟨Nat.le_of_ble_eq_true rfl, Nat.le_of_ble_eq_true rfl⟩) (fun r_181 u_181 H locs hp_181 G => ?_)
              have G : wd X (va_A (@HAppend.hAppend va_W va_W va_W _ (xW h0 nw sp xa la lb) (@HAppend.hAppend va_W va_W va_W _ (rcV X nw an sv dv n0 n1 n2 n3 n4 g0 gs gn gm) (@HAppend.hAppend va_W va_W va_W _ (odW (xa 11) vo) ([((xa 5), .inl (X.2.1, 3, .inl fr))])))) sz) (va_A (@HAppend.hAppend va_W va_W va_W _ (xW h0 nw sp xa la lb) (@HAppend.hAppend va_W va_W va_W _ (rcV X nw an sv dv n0 n1 n2 n3 n4 g0 gs gn gm) (@HAppend.hAppend va_W va_W va_W _ (odW (xa 11) vo) ([((xa 5), .inl (X.2.1, 3, .inl fr))])))) sz) s (@HAppend.hAppend va_W va_W va_W _ (xW h0 nw sp xa la lb) (@HAppend.hAppend va_W va_W va_W _ (rcV X nw an sv dv n0 n1 n2 n3 n4 g0 gs gn gm) (@HAppend.hAppend va_W va_W va_W _ ([((xa 5), .inl (X.2.1, 3, .inl fr))]) (odW (xa 11) v_180)))) H locs := G
              refine lv_lstore (lv' := [(6, .long r_181), (5, .ref (an 2)), (0, .ref h0), (1, .int 1), (2, .int x2), (3, .int 3), (4, .int x4)]) zx zb dX10_stumble_103 hl (by decide) rfl (fun ls hl => ?_)
              refine lv_iload_n zx zb dX10_stumble_105 rfl (lv_at hl 5 rfl) ?_
              refine o_rl (cells' := 0) (slots' := 0) G rfl rfl (n_S (As := [.int 3]) (rest := []) S G (s_tenTo l X 3 (by omega) H.size) gX10_stumble_X3_tenTo rfl rfl rfl hdS_X3_tenTo ⟨Nat.le_of_ble_eq_true rfl, Nat.le_of_ble_eq_true rfl⟩ [] rfl rfl rfl hl.1 (Nat.le_of_ble_eq_true rfl) dX10_stumble_106 ⟨Nat.le_of_ble_eq_true rfl, Nat.le_of_ble_eq_true rfl⟩) (fun r_182 u_182 H locs hp_182 G => ?_)
              have G : wd X (va_A (@HAppend.hAppend va_W va_W va_W _ (xW h0 nw sp xa la lb) (@HAppend.hAppend va_W va_W va_W _ (rcV X nw an sv dv n0 n1 n2 n3 n4 g0 gs gn gm) (@HAppend.hAppend va_W va_W va_W _ (odW (xa 11) vo) ([((xa 5), .inl (X.2.1, 3, .inl fr))])))) sz) (va_A (@HAppend.hAppend va_W va_W va_W _ (xW h0 nw sp xa la lb) (@HAppend.hAppend va_W va_W va_W _ (rcV X nw an sv dv n0 n1 n2 n3 n4 g0 gs gn gm) (@HAppend.hAppend va_W va_W va_W _ (odW (xa 11) vo) ([((xa 5), .inl (X.2.1, 3, .inl fr))])))) sz) s (@HAppend.hAppend va_W va_W va_W _ (xW h0 nw sp xa la lb) (@HAppend.hAppend va_W va_W va_W _ (rcV X nw an sv dv n0 n1 n2 n3 n4 g0 gs gn gm) (@HAppend.hAppend va_W va_W va_W _ ([((xa 5), .inl (X.2.1, 3, .inl fr))]) (odW (xa 11) v_180)))) H locs := G
              refine lv_lstore (lv' := [(8, .long r_182), (6, .long r_181), (5, .ref (an 2)), (0, .ref h0), (1, .int 1), (2, .int x2), (3, .int 3), (4, .int x4)]) zx zb dX10_stumble_109 hl (by decide) rfl (fun ls hl => ?_)
              refine lv_lload zx zb dX10_stumble_111 (lv_at hl 1 rfl) ?_
              refine lv_lload zx zb dX10_stumble_113 (lv_at hl 0 rfl) ?_
              refine o_rl (cells' := 0) (slots' := 0) G rfl rfl (n_S (As := [.long r_181, .long r_182]) (rest := []) S G (s_commonPart l X r_181 r_182 H.size) gX10_stumble_X3_commonPart rfl rfl rfl hdS_X3_commonPart ⟨Nat.le_of_ble_eq_true rfl, Nat.le_of_ble_eq_true rfl⟩ [] rfl rfl rfl hl.1 (Nat.le_of_ble_eq_true rfl) dX10_stumble_115 ⟨Nat.le_of_ble_eq_true rfl, Nat.le_of_ble_eq_true rfl⟩) (fun r_183 u_183 H locs hp_183 G => ?_)
              have G : wd X (va_A (@HAppend.hAppend va_W va_W va_W _ (xW h0 nw sp xa la lb) (@HAppend.hAppend va_W va_W va_W _ (rcV X nw an sv dv n0 n1 n2 n3 n4 g0 gs gn gm) (@HAppend.hAppend va_W va_W va_W _ (odW (xa 11) vo) ([((xa 5), .inl (X.2.1, 3, .inl fr))])))) sz) (va_A (@HAppend.hAppend va_W va_W va_W _ (xW h0 nw sp xa la lb) (@HAppend.hAppend va_W va_W va_W _ (rcV X nw an sv dv n0 n1 n2 n3 n4 g0 gs gn gm) (@HAppend.hAppend va_W va_W va_W _ (odW (xa 11) vo) ([((xa 5), .inl (X.2.1, 3, .inl fr))])))) sz) s (@HAppend.hAppend va_W va_W va_W _ (xW h0 nw sp xa la lb) (@HAppend.hAppend va_W va_W va_W _ (rcV X nw an sv dv n0 n1 n2 n3 n4 g0 gs gn gm) (@HAppend.hAppend va_W va_W va_W _ ([((xa 5), .inl (X.2.1, 3, .inl fr))]) (odW (xa 11) v_180)))) H locs := G
              refine lv_lstore (lv' := [(10, .long r_183), (8, .long r_182), (6, .long r_181), (5, .ref (an 2)), (0, .ref h0), (1, .int 1), (2, .int x2), (3, .int 3), (4, .int x4)]) zx zb dX10_stumble_118 hl (by decide) rfl (fun ls hl => ?_)
              refine lv_lload zx zb dX10_stumble_120 (lv_at hl 0 rfl) ?_
              refine lv_lconst (v := (Int32.toInt64 0)) zx zb dX10_stumble_122 (by decide) ?_
              refine W.lcmp zx zb dX10_stumble_123 ?_
              refine k_cutW (PP := fun Wx => ∀ (la_185 : Int64) (lb_186 : Int64) (H : Heap) (locs : List Loc) (ls : Array Slot), wd X (va_A (@HAppend.hAppend va_W va_W va_W _ (xW h0 nw sp xa la lb) (@HAppend.hAppend va_W va_W va_W _ (rcV X nw an sv dv n0 n1 n2 n3 n4 g0 gs gn gm) (@HAppend.hAppend va_W va_W va_W _ (odW (xa 11) vo) ([((xa 5), .inl (X.2.1, 3, .inl fr))])))) sz) (va_A (@HAppend.hAppend va_W va_W va_W _ (xW h0 nw sp xa la lb) (@HAppend.hAppend va_W va_W va_W _ (rcV X nw an sv dv n0 n1 n2 n3 n4 g0 gs gn gm) (@HAppend.hAppend va_W va_W va_W _ (odW (xa 11) vo) ([((xa 5), .inl (X.2.1, 3, .inl fr))])))) sz) s (@HAppend.hAppend va_W va_W va_W _ (xW h0 nw sp xa la_185 lb_186) (@HAppend.hAppend va_W va_W va_W _ (rcV X nw an sv dv n0 n1 n2 n3 n4 g0 gs gn gm) (@HAppend.hAppend va_W va_W va_W _ ([((xa 5), .inl (X.2.1, 3, .inl fr))]) (odW (xa 11) v_180)))) H locs → lv_has ls 12 [(10, .long r_183), (8, .long r_182), (6, .long r_181), (5, .ref (an 2)), (0, .ref h0), (1, .int 1), (2, .int x2), (3, .int 3), (4, .int x4)] → Wx (F0 m 145 ls []) H locs) ?_ ?_
              · intro join_124
                refine lv_if_le (tgt := 145) zx zb dX10_stumble_124 (by decide) (fun c_184 => ?_) (fun c_184 => ?_)
                · exact join_124 la lb _ _ _  G hl
                · refine lv_aload_n zx zb dX10_stumble_127 rfl (lv_at hl 4 rfl) ?_
                  refine lv_lload zx zb dX10_stumble_128 (lv_at hl 2 rfl) ?_
                  refine lv_lload zx zb dX10_stumble_130 (lv_at hl 0 rfl) ?_
                  refine lv_ldiv zx zb dX10_stumble_132 (k_lnz2 c_184) ?_
                  refine k_ldE (fun y_187 => ?_)
                  refine r_put (C := RX10) (T := TX10) (N := 14) (ci := 8) (v := .long y_187) S in_X10_stumble_X10 tyX10_ok nmX10 G 0 rfl rfl 6 (by decide) lk_X10_stumble_38 rfl rfl rfl (Nat.le_of_ble_eq_true rfl) dX10_stumble_133 (fun H locs G => ?_)
                  have G : wd X (va_A (@HAppend.hAppend va_W va_W va_W _ (xW h0 nw sp xa la lb) (@HAppend.hAppend va_W va_W va_W _ (rcV X nw an sv dv n0 n1 n2 n3 n4 g0 gs gn gm) (@HAppend.hAppend va_W va_W va_W _ (odW (xa 11) vo) ([((xa 5), .inl (X.2.1, 3, .inl fr))])))) sz) (va_A (@HAppend.hAppend va_W va_W va_W _ (xW h0 nw sp xa la lb) (@HAppend.hAppend va_W va_W va_W _ (rcV X nw an sv dv n0 n1 n2 n3 n4 g0 gs gn gm) (@HAppend.hAppend va_W va_W va_W _ (odW (xa 11) vo) ([((xa 5), .inl (X.2.1, 3, .inl fr))])))) sz) s (@HAppend.hAppend va_W va_W va_W _ (xW h0 nw sp xa y_187 lb) (@HAppend.hAppend va_W va_W va_W _ (rcV X nw an sv dv n0 n1 n2 n3 n4 g0 gs gn gm) (@HAppend.hAppend va_W va_W va_W _ ([((xa 5), .inl (X.2.1, 3, .inl fr))]) (odW (xa 11) v_180)))) H locs := G
                  refine lv_aload_n zx zb dX10_stumble_136 rfl (lv_at hl 4 rfl) ?_
                  refine lv_lload zx zb dX10_stumble_137 (lv_at hl 1 rfl) ?_
                  refine lv_lload zx zb dX10_stumble_139 (lv_at hl 0 rfl) ?_
                  refine lv_ldiv zx zb dX10_stumble_141 (k_lnz2 c_184) ?_
                  refine k_ldE (fun y_188 => ?_)
                  refine r_put (C := RX10) (T := TX10) (N := 14) (ci := 8) (v := .long y_188) S in_X10_stumble_X10 tyX10_ok nmX10 G 0 rfl rfl 7 (by decide) lk_X10_stumble_42 rfl rfl rfl (Nat.le_of_ble_eq_true rfl) dX10_stumble_142 (fun H locs G => ?_)
                  have G : wd X (va_A (@HAppend.hAppend va_W va_W va_W _ (xW h0 nw sp xa la lb) (@HAppend.hAppend va_W va_W va_W _ (rcV X nw an sv dv n0 n1 n2 n3 n4 g0 gs gn gm) (@HAppend.hAppend va_W va_W va_W _ (odW (xa 11) vo) ([((xa 5), .inl (X.2.1, 3, .inl fr))])))) sz) (va_A (@HAppend.hAppend va_W va_W va_W _ (xW h0 nw sp xa la lb) (@HAppend.hAppend va_W va_W va_W _ (rcV X nw an sv dv n0 n1 n2 n3 n4 g0 gs gn gm) (@HAppend.hAppend va_W va_W va_W _ (odW (xa 11) vo) ([((xa 5), .inl (X.2.1, 3, .inl fr))])))) sz) s (@HAppend.hAppend va_W va_W va_W _ (xW h0 nw sp xa y_187 y_188) (@HAppend.hAppend va_W va_W va_W _ (rcV X nw an sv dv n0 n1 n2 n3 n4 g0 gs gn gm) (@HAppend.hAppend va_W va_W va_W _ ([((xa 5), .inl (X.2.1, 3, .inl fr))]) (odW (xa 11) v_180)))) H locs := G
                  exact join_124 y_187 y_188 _ _ _  G hl
              · intro la_185 lb_186 H locs ls  G hl
                refine lv_iconst (v := 1) zx zb dX10_stumble_145 (by decide) ?_
                exact e_int S zr zlk (vp_nar_int _) G (la_185, lb_186, v_180, fr) [0, 1, 2, 3, 4, 5, 6, 7, 8, 9, 10, 11, 12, 13, 14, 15, 16, 18, 17] rfl rfl (Or.inr rfl) ((stuF_p ⟨⟨_, hj_1, rfl⟩, hw_3, hw_5, hw_7⟩).symm) dX10_stumble_146
            · refine k_it (v := 2) rfl ?_
              refine r_aald (C := RX8) (b := (an 3)) S G 2 3 rfl rfl (k_vp (by decide)) rfl dX10_stumble_54 ?_
              refine lv_astore (lv' := [(5, .ref (an 3)), (0, .ref h0), (1, .int 2), (2, .int x2), (3, .int 3), (4, .int x4)]) zx zb dX10_stumble_55 hl (by decide) rfl (fun ls hl => ?_)
              refine lv_aload_n zx zb dX10_stumble_57 rfl (lv_at hl 1 rfl) ?_
              refine r_get (C := RX10) (T := TX10) (N := 14) (ci := 8) (v := .ref (xa 11)) S in_X10_stumble_X10 G 0 rfl rfl 11 (by decide) lk_X10_stumble_65 rfl dX10_stumble_58 ?_
              refine lv_aload zx zb dX10_stumble_61 (lv_at hl 0 rfl) ?_
              refine lv_aload_n zx zb dX10_stumble_63 rfl (lv_at hl 1 rfl) ?_
              refine r_get (C := RX10) (T := TX10) (N := 14) (ci := 8) (v := .ref nw) S in_X10_stumble_X10 G 0 rfl rfl 0 (by decide) lk_X10_stumble_10 rfl dX10_stumble_64 ?_
              refine r_get (C := RX5) (T := TX5) (N := 8) (ci := 3) (v := .int (dv 0)) S in_X10_stumble_X5 G 1 rfl rfl 0 (by decide) lk_X10_stumble_140 rfl dX10_stumble_67 ?_
              refine lv_aload_n zx zb dX10_stumble_70 rfl (lv_at hl 1 rfl) ?_
              refine r_get (C := RX10) (T := TX10) (N := 14) (ci := 8) (v := .ref nw) S in_X10_stumble_X10 G 0 rfl rfl 0 (by decide) lk_X10_stumble_10 rfl dX10_stumble_71 ?_
              refine r_get (C := RX5) (T := TX5) (N := 8) (ci := 3) (v := .int (dv 1)) S in_X10_stumble_X5 G 1 rfl rfl 1 (by decide) lk_X10_stumble_110 rfl dX10_stumble_74 ?_
              refine lv_iload_n zx zb dX10_stumble_77 rfl (lv_at hl 4 rfl) ?_
              refine r_iadd (v := ((dv 1) + 3)) S rfl dX10_stumble_78 ?_
              refine lv_iload_n zx zb dX10_stumble_79 rfl (lv_at hl 3 rfl) ?_
              refine lv_iload zx zb dX10_stumble_80 (lv_at hl 5 rfl) ?_
              refine b_wv (cells' := 0) (slots' := 0) (wr := @HAppend.hAppend va_W va_W va_W _ (xW h0 nw sp xa la lb) (@HAppend.hAppend va_W va_W va_W _ ([(nw, .inr (3, [.int (dv 0), .int (dv 1), .int (nI n0), .ref (an 0), .ref (an 7), .ref (an 9), .ref (an 11), .ref (an 13)])), ((an 0), .inl (X.2.2.2.2, 6, .inr (.inr (.inr (.inr (rowQ an)))))), ((an 1), .inr (6, [.int (sv 0), .int (sv 1), .int (sv 2), .int (dv 10), .int (dv 11), .int (dv 12), .int (dv 13), .int (dv 14)])), ((an 2), .inr (6, [.int (sv 3), .int (sv 4), .int (sv 5), .int (dv 15), .int (dv 16), .int (dv 17), .int (dv 18), .int (dv 19)])), ((an 4), .inr (6, [.int (sv 9), .int (sv 10), .int (sv 11), .int (dv 25), .int (dv 26), .int (dv 27), .int (dv 28), .int (dv 29)])), ((an 5), .inr (6, [.int (sv 12), .int (sv 13), .int (sv 14), .int (dv 30), .int (dv 31), .int (dv 32), .int (dv 33), .int (dv 34)])), ((an 6), .inr (6, [.int (sv 15), .int (sv 16), .int (sv 17), .int (dv 35), .int (dv 36), .int (dv 37), .int (dv 38), .int (dv 39)])), ((an 7), .inr (2, [.ref (an 8), .int (nI n1)])), ((an 8), .inl (X.2.1, 248, .inl g0)), ((an 9), .inr (5, [.int 5, .int 0, .int 1, .ref (an 10), .int (nI n2)])), ((an 10), .inl (X.2.1, 25, .inl gs)), ((an 11), .inr (5, [.int 6, .int 1, .int 1, .ref (an 12), .int (nI n3)])), ((an 12), .inl (X.2.1, 30, .inl gn)), ((an 13), .inr (5, [.int 6, .int 0, .int 0, .ref (an 14), .int (nI n4)])), ((an 14), .inl (X.2.1, 30, .inl gm))]) ([((xa 5), .inl (X.2.1, 3, .inl fr))]))) G rfl rfl [17, 5] [0, 1, 2, 3, 4, 6, 7, 8, 9, 10, 11, 12, 13, 14, 15, 16, 18] rfl rfl rfl rfl (n_V (As := [.ref (an 3), .int (dv 0), .int ((dv 1) + 3), .int x2, .int x4]) (rest := []) (C := RX3) (T := TX3) (N := 8) (ci := 1) S G (s_pose l X (xa 11) vo (an 3) (fun k => sv (6 + k)) (fun k => dv (20 + k)) (dv 0) ((dv 1) + 3) x2 x4 H.size) gX10_stumble_X3_pose rfl rfl rfl hdV_X3_pose ⟨Nat.le_of_ble_eq_true rfl, Nat.le_of_ble_eq_true rfl⟩ [17, 5] rfl rfl 17 rfl rfl rfl hl.1 (Nat.le_of_ble_eq_true rfl) dX10_stumble_82 ⟨Nat.le_of_ble_eq_true rfl, Nat.le_of_ble_eq_true rfl⟩) (fun u_189 H locs hp_189 G => ?_)
              obtain ⟨v_189, rfl⟩ : ∃ z, z = u_189 := ⟨_, rfl⟩
              have hq_189 := hp_189
              have G : wd X (va_A (@HAppend.hAppend va_W va_W va_W _ (xW h0 nw sp xa la lb) (@HAppend.hAppend va_W va_W va_W _ (rcV X nw an sv dv n0 n1 n2 n3 n4 g0 gs gn gm) (@HAppend.hAppend va_W va_W va_W _ (odW (xa 11) vo) ([((xa 5), .inl (X.2.1, 3, .inl fr))])))) sz) (va_A (@HAppend.hAppend va_W va_W va_W _ (xW h0 nw sp xa la lb) (@HAppend.hAppend va_W va_W va_W _ (rcV X nw an sv dv n0 n1 n2 n3 n4 g0 gs gn gm) (@HAppend.hAppend va_W va_W va_W _ (odW (xa 11) vo) ([((xa 5), .inl (X.2.1, 3, .inl fr))])))) sz) s (@HAppend.hAppend va_W va_W va_W _ (xW h0 nw sp xa la lb) (@HAppend.hAppend va_W va_W va_W _ (rcV X nw an sv dv n0 n1 n2 n3 n4 g0 gs gn gm) (@HAppend.hAppend va_W va_W va_W _ ([((xa 5), .inl (X.2.1, 3, .inl fr))]) (odW (xa 11) v_189)))) H locs := wd_sub G [0, 1, 2, 3, 4, 18, 5, 6, 7, 8, 9, 10, 11, 12, 13, 14, 15, 16, 17] rfl rfl
              refine lv_aload_n zx zb dX10_stumble_85 rfl (lv_at hl 1 rfl) ?_
              refine r_get (C := RX10) (T := TX10) (N := 14) (ci := 8) (v := .ref (xa 11)) S in_X10_stumble_X10 G 0 rfl rfl 11 (by decide) lk_X10_stumble_65 rfl dX10_stumble_86 ?_
              refine lv_aload zx zb dX10_stumble_89 (lv_at hl 0 rfl) ?_
              refine r_get (C := RX8) (T := TX8) (N := 8) (ci := 6) (v := .int (dv 21)) S in_X10_stumble_X8 G 5 rfl rfl 4 (by decide) lk_X10_stumble_137 rfl dX10_stumble_91 ?_
              refine lv_aload zx zb dX10_stumble_94 (lv_at hl 0 rfl) ?_
              refine r_get (C := RX8) (T := TX8) (N := 8) (ci := 6) (v := .int (dv 23)) S in_X10_stumble_X8 G 5 rfl rfl 6 (by decide) lk_X10_stumble_240 rfl dX10_stumble_96 ?_
              refine lv_iload_n zx zb dX10_stumble_99 rfl (lv_at hl 4 rfl) ?_
              refine o_rl (cells' := 0) (slots' := 0) G rfl rfl (n_SN (As := [.ref (xa 11), .int (dv 21), .int (dv 23), .int 3]) (rest := []) (host := "EggSpoons") S G (s_ways3 l X (xa 11) v_189 (dv 21) (dv 23) H.size) gX10_stumble_X3_ways_n243 rfl rfl rfl mm_X10_stumble_inX3 G.1.2.2.2.2.2.2.2.2.2.2.2 mm_X10_stumble_stX3_ways hdS_X3_ways ⟨Nat.le_of_ble_eq_true rfl, Nat.le_of_ble_eq_true rfl⟩ [18] rfl rfl rfl hl.1 (Nat.le_of_ble_eq_true rfl) dX10_stumble_100 ⟨Nat.le_of_ble_eq_true rfl, Nat.le_of_ble_eq_true rfl⟩) (fun r_190 u_190 H locs hp_190 G => ?_)
              have G : wd X (va_A (@HAppend.hAppend va_W va_W va_W _ (xW h0 nw sp xa la lb) (@HAppend.hAppend va_W va_W va_W _ (rcV X nw an sv dv n0 n1 n2 n3 n4 g0 gs gn gm) (@HAppend.hAppend va_W va_W va_W _ (odW (xa 11) vo) ([((xa 5), .inl (X.2.1, 3, .inl fr))])))) sz) (va_A (@HAppend.hAppend va_W va_W va_W _ (xW h0 nw sp xa la lb) (@HAppend.hAppend va_W va_W va_W _ (rcV X nw an sv dv n0 n1 n2 n3 n4 g0 gs gn gm) (@HAppend.hAppend va_W va_W va_W _ (odW (xa 11) vo) ([((xa 5), .inl (X.2.1, 3, .inl fr))])))) sz) s (@HAppend.hAppend va_W va_W va_W _ (xW h0 nw sp xa la lb) (@HAppend.hAppend va_W va_W va_W _ (rcV X nw an sv dv n0 n1 n2 n3 n4 g0 gs gn gm) (@HAppend.hAppend va_W va_W va_W _ ([((xa 5), .inl (X.2.1, 3, .inl fr))]) (odW (xa 11) v_189)))) H locs := G
              refine lv_lstore (lv' := [(6, .long r_190), (5, .ref (an 3)), (0, .ref h0), (1, .int 2), (2, .int x2), (3, .int 3), (4, .int x4)]) zx zb dX10_stumble_103 hl (by decide) rfl (fun ls hl => ?_)
              refine lv_iload_n zx zb dX10_stumble_105 rfl (lv_at hl 5 rfl) ?_
              refine o_rl (cells' := 0) (slots' := 0) G rfl rfl (n_S (As := [.int 3]) (rest := []) S G (s_tenTo l X 3 (by omega) H.size) gX10_stumble_X3_tenTo rfl rfl rfl hdS_X3_tenTo ⟨Nat.le_of_ble_eq_true rfl, Nat.le_of_ble_eq_true rfl⟩ [] rfl rfl rfl hl.1 (Nat.le_of_ble_eq_true rfl) dX10_stumble_106 ⟨Nat.le_of_ble_eq_true rfl, Nat.le_of_ble_eq_true rfl⟩) (fun r_191 u_191 H locs hp_191 G => ?_)
              have G : wd X (va_A (@HAppend.hAppend va_W va_W va_W _ (xW h0 nw sp xa la lb) (@HAppend.hAppend va_W va_W va_W _ (rcV X nw an sv dv n0 n1 n2 n3 n4 g0 gs gn gm) (@HAppend.hAppend va_W va_W va_W _ (odW (xa 11) vo) ([((xa 5), .inl (X.2.1, 3, .inl fr))])))) sz) (va_A (@HAppend.hAppend va_W va_W va_W _ (xW h0 nw sp xa la lb) (@HAppend.hAppend va_W va_W va_W _ (rcV X nw an sv dv n0 n1 n2 n3 n4 g0 gs gn gm) (@HAppend.hAppend va_W va_W va_W _ (odW (xa 11) vo) ([((xa 5), .inl (X.2.1, 3, .inl fr))])))) sz) s (@HAppend.hAppend va_W va_W va_W _ (xW h0 nw sp xa la lb) (@HAppend.hAppend va_W va_W va_W _ (rcV X nw an sv dv n0 n1 n2 n3 n4 g0 gs gn gm) (@HAppend.hAppend va_W va_W va_W _ ([((xa 5), .inl (X.2.1, 3, .inl fr))]) (odW (xa 11) v_189)))) H locs := G
              refine lv_lstore (lv' := [(8, .long r_191), (6, .long r_190), (5, .ref (an 3)), (0, .ref h0), (1, .int 2), (2, .int x2), (3, .int 3), (4, .int x4)]) zx zb dX10_stumble_109 hl (by decide) rfl (fun ls hl => ?_)
              refine lv_lload zx zb dX10_stumble_111 (lv_at hl 1 rfl) ?_
              refine lv_lload zx zb dX10_stumble_113 (lv_at hl 0 rfl) ?_
              refine o_rl (cells' := 0) (slots' := 0) G rfl rfl (n_S (As := [.long r_190, .long r_191]) (rest := []) S G (s_commonPart l X r_190 r_191 H.size) gX10_stumble_X3_commonPart rfl rfl rfl hdS_X3_commonPart ⟨Nat.le_of_ble_eq_true rfl, Nat.le_of_ble_eq_true rfl⟩ [] rfl rfl rfl hl.1 (Nat.le_of_ble_eq_true rfl) dX10_stumble_115 ⟨Nat.le_of_ble_eq_true rfl, Nat.le_of_ble_eq_true rfl⟩) (fun r_192 u_192 H locs hp_192 G => ?_)
              have G : wd X (va_A (@HAppend.hAppend va_W va_W va_W _ (xW h0 nw sp xa la lb) (@HAppend.hAppend va_W va_W va_W _ (rcV X nw an sv dv n0 n1 n2 n3 n4 g0 gs gn gm) (@HAppend.hAppend va_W va_W va_W _ (odW (xa 11) vo) ([((xa 5), .inl (X.2.1, 3, .inl fr))])))) sz) (va_A (@HAppend.hAppend va_W va_W va_W _ (xW h0 nw sp xa la lb) (@HAppend.hAppend va_W va_W va_W _ (rcV X nw an sv dv n0 n1 n2 n3 n4 g0 gs gn gm) (@HAppend.hAppend va_W va_W va_W _ (odW (xa 11) vo) ([((xa 5), .inl (X.2.1, 3, .inl fr))])))) sz) s (@HAppend.hAppend va_W va_W va_W _ (xW h0 nw sp xa la lb) (@HAppend.hAppend va_W va_W va_W _ (rcV X nw an sv dv n0 n1 n2 n3 n4 g0 gs gn gm) (@HAppend.hAppend va_W va_W va_W _ ([((xa 5), .inl (X.2.1, 3, .inl fr))]) (odW (xa 11) v_189)))) H locs := G
              refine lv_lstore (lv' := [(10, .long r_192), (8, .long r_191), (6, .long r_190), (5, .ref (an 3)), (0, .ref h0), (1, .int 2), (2, .int x2), (3, .int 3), (4, .int x4)]) zx zb dX10_stumble_118 hl (by decide) rfl (fun ls hl => ?_)
              refine lv_lload zx zb dX10_stumble_120 (lv_at hl 0 rfl) ?_
              refine lv_lconst (v := (Int32.toInt64 0)) zx zb dX10_stumble_122 (by decide) ?_
              refine W.lcmp zx zb dX10_stumble_123 ?_
              refine k_cutW (PP := fun Wx => ∀ (la_194 : Int64) (lb_195 : Int64) (H : Heap) (locs : List Loc) (ls : Array Slot), wd X (va_A (@HAppend.hAppend va_W va_W va_W _ (xW h0 nw sp xa la lb) (@HAppend.hAppend va_W va_W va_W _ (rcV X nw an sv dv n0 n1 n2 n3 n4 g0 gs gn gm) (@HAppend.hAppend va_W va_W va_W _ (odW (xa 11) vo) ([((xa 5), .inl (X.2.1, 3, .inl fr))])))) sz) (va_A (@HAppend.hAppend va_W va_W va_W _ (xW h0 nw sp xa la lb) (@HAppend.hAppend va_W va_W va_W _ (rcV X nw an sv dv n0 n1 n2 n3 n4 g0 gs gn gm) (@HAppend.hAppend va_W va_W va_W _ (odW (xa 11) vo) ([((xa 5), .inl (X.2.1, 3, .inl fr))])))) sz) s (@HAppend.hAppend va_W va_W va_W _ (xW h0 nw sp xa la_194 lb_195) (@HAppend.hAppend va_W va_W va_W _ (rcV X nw an sv dv n0 n1 n2 n3 n4 g0 gs gn gm) (@HAppend.hAppend va_W va_W va_W _ ([((xa 5), .inl (X.2.1, 3, .inl fr))]) (odW (xa 11) v_189)))) H locs → lv_has ls 12 [(10, .long r_192), (8, .long r_191), (6, .long r_190), (5, .ref (an 3)), (0, .ref h0), (1, .int 2), (2, .int x2), (3, .int 3), (4, .int x4)] → Wx (F0 m 145 ls []) H locs) ?_ ?_
              · intro join_124
                refine lv_if_le (tgt := 145) zx zb dX10_stumble_124 (by decide) (fun c_193 => ?_) (fun c_193 => ?_)
                · exact join_124 la lb _ _ _  G hl
                · refine lv_aload_n zx zb dX10_stumble_127 rfl (lv_at hl 4 rfl) ?_
                  refine lv_lload zx zb dX10_stumble_128 (lv_at hl 2 rfl) ?_
                  refine lv_lload zx zb dX10_stumble_130 (lv_at hl 0 rfl) ?_
                  refine lv_ldiv zx zb dX10_stumble_132 (k_lnz2 c_193) ?_
                  refine k_ldE (fun y_196 => ?_)
                  refine r_put (C := RX10) (T := TX10) (N := 14) (ci := 8) (v := .long y_196) S in_X10_stumble_X10 tyX10_ok nmX10 G 0 rfl rfl 6 (by decide) lk_X10_stumble_38 rfl rfl rfl (Nat.le_of_ble_eq_true rfl) dX10_stumble_133 (fun H locs G => ?_)
                  have G : wd X (va_A (@HAppend.hAppend va_W va_W va_W _ (xW h0 nw sp xa la lb) (@HAppend.hAppend va_W va_W va_W _ (rcV X nw an sv dv n0 n1 n2 n3 n4 g0 gs gn gm) (@HAppend.hAppend va_W va_W va_W _ (odW (xa 11) vo) ([((xa 5), .inl (X.2.1, 3, .inl fr))])))) sz) (va_A (@HAppend.hAppend va_W va_W va_W _ (xW h0 nw sp xa la lb) (@HAppend.hAppend va_W va_W va_W _ (rcV X nw an sv dv n0 n1 n2 n3 n4 g0 gs gn gm) (@HAppend.hAppend va_W va_W va_W _ (odW (xa 11) vo) ([((xa 5), .inl (X.2.1, 3, .inl fr))])))) sz) s (@HAppend.hAppend va_W va_W va_W _ (xW h0 nw sp xa y_196 lb) (@HAppend.hAppend va_W va_W va_W _ (rcV X nw an sv dv n0 n1 n2 n3 n4 g0 gs gn gm) (@HAppend.hAppend va_W va_W va_W _ ([((xa 5), .inl (X.2.1, 3, .inl fr))]) (odW (xa 11) v_189)))) H locs := G
                  refine lv_aload_n zx zb dX10_stumble_136 rfl (lv_at hl 4 rfl) ?_
                  refine lv_lload zx zb dX10_stumble_137 (lv_at hl 1 rfl) ?_
                  refine lv_lload zx zb dX10_stumble_139 (lv_at hl 0 rfl) ?_
                  refine lv_ldiv zx zb dX10_stumble_141 (k_lnz2 c_193) ?_
                  refine k_ldE (fun y_197 => ?_)
                  refine r_put (C := RX10) (T := TX10) (N := 14) (ci := 8) (v := .long y_197) S in_X10_stumble_X10 tyX10_ok nmX10 G 0 rfl rfl 7 (by decide) lk_X10_stumble_42 rfl rfl rfl (Nat.le_of_ble_eq_true rfl) dX10_stumble_142 (fun H locs G => ?_)
                  have G : wd X (va_A (@HAppend.hAppend va_W va_W va_W _ (xW h0 nw sp xa la lb) (@HAppend.hAppend va_W va_W va_W _ (rcV X nw an sv dv n0 n1 n2 n3 n4 g0 gs gn gm) (@HAppend.hAppend va_W va_W va_W _ (odW (xa 11) vo) ([((xa 5), .inl (X.2.1, 3, .inl fr))])))) sz) (va_A (@HAppend.hAppend va_W va_W va_W _ (xW h0 nw sp xa la lb) (@HAppend.hAppend va_W va_W va_W _ (rcV X nw an sv dv n0 n1 n2 n3 n4 g0 gs gn gm) (@HAppend.hAppend va_W va_W va_W _ (odW (xa 11) vo) ([((xa 5), .inl (X.2.1, 3, .inl fr))])))) sz) s (@HAppend.hAppend va_W va_W va_W _ (xW h0 nw sp xa y_196 y_197) (@HAppend.hAppend va_W va_W va_W _ (rcV X nw an sv dv n0 n1 n2 n3 n4 g0 gs gn gm) (@HAppend.hAppend va_W va_W va_W _ ([((xa 5), .inl (X.2.1, 3, .inl fr))]) (odW (xa 11) v_189)))) H locs := G
                  exact join_124 y_196 y_197 _ _ _  G hl
              · intro la_194 lb_195 H locs ls  G hl
                refine lv_iconst (v := 1) zx zb dX10_stumble_145 (by decide) ?_
                exact e_int S zr zlk (vp_nar_int _) G (la_194, lb_195, v_189, fr) [0, 1, 2, 3, 4, 5, 6, 7, 8, 9, 10, 11, 12, 13, 14, 15, 16, 18, 17] rfl rfl (Or.inr rfl) ((stuF_p ⟨⟨_, hj_1, rfl⟩, hw_3, hw_5, hw_7⟩).symm) dX10_stumble_146
            · refine k_it (v := 3) rfl ?_
              refine r_aald (C := RX8) (b := (an 4)) S G 2 3 rfl rfl (k_vp (by decide)) rfl dX10_stumble_54 ?_
              refine lv_astore (lv' := [(5, .ref (an 4)), (0, .ref h0), (1, .int 3), (2, .int x2), (3, .int 3), (4, .int x4)]) zx zb dX10_stumble_55 hl (by decide) rfl (fun ls hl => ?_)
              refine lv_aload_n zx zb dX10_stumble_57 rfl (lv_at hl 1 rfl) ?_
              refine r_get (C := RX10) (T := TX10) (N := 14) (ci := 8) (v := .ref (xa 11)) S in_X10_stumble_X10 G 0 rfl rfl 11 (by decide) lk_X10_stumble_65 rfl dX10_stumble_58 ?_
              refine lv_aload zx zb dX10_stumble_61 (lv_at hl 0 rfl) ?_
              refine lv_aload_n zx zb dX10_stumble_63 rfl (lv_at hl 1 rfl) ?_
              refine r_get (C := RX10) (T := TX10) (N := 14) (ci := 8) (v := .ref nw) S in_X10_stumble_X10 G 0 rfl rfl 0 (by decide) lk_X10_stumble_10 rfl dX10_stumble_64 ?_
              refine r_get (C := RX5) (T := TX5) (N := 8) (ci := 3) (v := .int (dv 0)) S in_X10_stumble_X5 G 1 rfl rfl 0 (by decide) lk_X10_stumble_140 rfl dX10_stumble_67 ?_
              refine lv_aload_n zx zb dX10_stumble_70 rfl (lv_at hl 1 rfl) ?_
              refine r_get (C := RX10) (T := TX10) (N := 14) (ci := 8) (v := .ref nw) S in_X10_stumble_X10 G 0 rfl rfl 0 (by decide) lk_X10_stumble_10 rfl dX10_stumble_71 ?_
              refine r_get (C := RX5) (T := TX5) (N := 8) (ci := 3) (v := .int (dv 1)) S in_X10_stumble_X5 G 1 rfl rfl 1 (by decide) lk_X10_stumble_110 rfl dX10_stumble_74 ?_
              refine lv_iload_n zx zb dX10_stumble_77 rfl (lv_at hl 4 rfl) ?_
              refine r_iadd (v := ((dv 1) + 3)) S rfl dX10_stumble_78 ?_
              refine lv_iload_n zx zb dX10_stumble_79 rfl (lv_at hl 3 rfl) ?_
              refine lv_iload zx zb dX10_stumble_80 (lv_at hl 5 rfl) ?_
              refine b_wv (cells' := 0) (slots' := 0) (wr := @HAppend.hAppend va_W va_W va_W _ (xW h0 nw sp xa la lb) (@HAppend.hAppend va_W va_W va_W _ ([(nw, .inr (3, [.int (dv 0), .int (dv 1), .int (nI n0), .ref (an 0), .ref (an 7), .ref (an 9), .ref (an 11), .ref (an 13)])), ((an 0), .inl (X.2.2.2.2, 6, .inr (.inr (.inr (.inr (rowQ an)))))), ((an 1), .inr (6, [.int (sv 0), .int (sv 1), .int (sv 2), .int (dv 10), .int (dv 11), .int (dv 12), .int (dv 13), .int (dv 14)])), ((an 2), .inr (6, [.int (sv 3), .int (sv 4), .int (sv 5), .int (dv 15), .int (dv 16), .int (dv 17), .int (dv 18), .int (dv 19)])), ((an 3), .inr (6, [.int (sv 6), .int (sv 7), .int (sv 8), .int (dv 20), .int (dv 21), .int (dv 22), .int (dv 23), .int (dv 24)])), ((an 5), .inr (6, [.int (sv 12), .int (sv 13), .int (sv 14), .int (dv 30), .int (dv 31), .int (dv 32), .int (dv 33), .int (dv 34)])), ((an 6), .inr (6, [.int (sv 15), .int (sv 16), .int (sv 17), .int (dv 35), .int (dv 36), .int (dv 37), .int (dv 38), .int (dv 39)])), ((an 7), .inr (2, [.ref (an 8), .int (nI n1)])), ((an 8), .inl (X.2.1, 248, .inl g0)), ((an 9), .inr (5, [.int 5, .int 0, .int 1, .ref (an 10), .int (nI n2)])), ((an 10), .inl (X.2.1, 25, .inl gs)), ((an 11), .inr (5, [.int 6, .int 1, .int 1, .ref (an 12), .int (nI n3)])), ((an 12), .inl (X.2.1, 30, .inl gn)), ((an 13), .inr (5, [.int 6, .int 0, .int 0, .ref (an 14), .int (nI n4)])), ((an 14), .inl (X.2.1, 30, .inl gm))]) ([((xa 5), .inl (X.2.1, 3, .inl fr))]))) G rfl rfl [17, 6] [0, 1, 2, 3, 4, 5, 7, 8, 9, 10, 11, 12, 13, 14, 15, 16, 18] rfl rfl rfl rfl (n_V (As := [.ref (an 4), .int (dv 0), .int ((dv 1) + 3), .int x2, .int x4]) (rest := []) (C := RX3) (T := TX3) (N := 8) (ci := 1) S G (s_pose l X (xa 11) vo (an 4) (fun k => sv (9 + k)) (fun k => dv (25 + k)) (dv 0) ((dv 1) + 3) x2 x4 H.size) gX10_stumble_X3_pose rfl rfl rfl hdV_X3_pose ⟨Nat.le_of_ble_eq_true rfl, Nat.le_of_ble_eq_true rfl⟩ [17, 6] rfl rfl 17 rfl rfl rfl hl.1 (Nat.le_of_ble_eq_true rfl) dX10_stumble_82 ⟨Nat.le_of_ble_eq_true rfl, Nat.le_of_ble_eq_true rfl⟩) (fun u_198 H locs hp_198 G => ?_)
              obtain ⟨v_198, rfl⟩ : ∃ z, z = u_198 := ⟨_, rfl⟩
              have hq_198 := hp_198
              have G : wd X (va_A (@HAppend.hAppend va_W va_W va_W _ (xW h0 nw sp xa la lb) (@HAppend.hAppend va_W va_W va_W _ (rcV X nw an sv dv n0 n1 n2 n3 n4 g0 gs gn gm) (@HAppend.hAppend va_W va_W va_W _ (odW (xa 11) vo) ([((xa 5), .inl (X.2.1, 3, .inl fr))])))) sz) (va_A (@HAppend.hAppend va_W va_W va_W _ (xW h0 nw sp xa la lb) (@HAppend.hAppend va_W va_W va_W _ (rcV X nw an sv dv n0 n1 n2 n3 n4 g0 gs gn gm) (@HAppend.hAppend va_W va_W va_W _ (odW (xa 11) vo) ([((xa 5), .inl (X.2.1, 3, .inl fr))])))) sz) s (@HAppend.hAppend va_W va_W va_W _ (xW h0 nw sp xa la lb) (@HAppend.hAppend va_W va_W va_W _ (rcV X nw an sv dv n0 n1 n2 n3 n4 g0 gs gn gm) (@HAppend.hAppend va_W va_W va_W _ ([((xa 5), .inl (X.2.1, 3, .inl fr))]) (odW (xa 11) v_198)))) H locs := wd_sub G [0, 1, 2, 3, 4, 5, 18, 6, 7, 8, 9, 10, 11, 12, 13, 14, 15, 16, 17] rfl rfl
              refine lv_aload_n zx zb dX10_stumble_85 rfl (lv_at hl 1 rfl) ?_
              refine r_get (C := RX10) (T := TX10) (N := 14) (ci := 8) (v := .ref (xa 11)) S in_X10_stumble_X10 G 0 rfl rfl 11 (by decide) lk_X10_stumble_65 rfl dX10_stumble_86 ?_
              refine lv_aload zx zb dX10_stumble_89 (lv_at hl 0 rfl) ?_
              refine r_get (C := RX8) (T := TX8) (N := 8) (ci := 6) (v := .int (dv 26)) S in_X10_stumble_X8 G 6 rfl rfl 4 (by decide) lk_X10_stumble_137 rfl dX10_stumble_91 ?_
              refine lv_aload zx zb dX10_stumble_94 (lv_at hl 0 rfl) ?_
              refine r_get (C := RX8) (T := TX8) (N := 8) (ci := 6) (v := .int (dv 28)) S in_X10_stumble_X8 G 6 rfl rfl 6 (by decide) lk_X10_stumble_240 rfl dX10_stumble_96 ?_
              refine lv_iload_n zx zb dX10_stumble_99 rfl (lv_at hl 4 rfl) ?_
              refine o_rl (cells' := 0) (slots' := 0) G rfl rfl (n_SN (As := [.ref (xa 11), .int (dv 26), .int (dv 28), .int 3]) (rest := []) (host := "EggSpoons") S G (s_ways3 l X (xa 11) v_198 (dv 26) (dv 28) H.size) gX10_stumble_X3_ways_n243 rfl rfl rfl mm_X10_stumble_inX3 G.1.2.2.2.2.2.2.2.2.2.2.2 mm_X10_stumble_stX3_ways hdS_X3_ways ⟨Nat.le_of_ble_eq_true rfl, Nat.le_of_ble_eq_true rfl⟩ [18] rfl rfl rfl hl.1 (Nat.le_of_ble_eq_true rfl) dX10_stumble_100 ⟨Nat.le_of_ble_eq_true rfl, Nat.le_of_ble_eq_true rfl⟩) (fun r_199 u_199 H locs hp_199 G => ?_)
              have G : wd X (va_A (@HAppend.hAppend va_W va_W va_W _ (xW h0 nw sp xa la lb) (@HAppend.hAppend va_W va_W va_W _ (rcV X nw an sv dv n0 n1 n2 n3 n4 g0 gs gn gm) (@HAppend.hAppend va_W va_W va_W _ (odW (xa 11) vo) ([((xa 5), .inl (X.2.1, 3, .inl fr))])))) sz) (va_A (@HAppend.hAppend va_W va_W va_W _ (xW h0 nw sp xa la lb) (@HAppend.hAppend va_W va_W va_W _ (rcV X nw an sv dv n0 n1 n2 n3 n4 g0 gs gn gm) (@HAppend.hAppend va_W va_W va_W _ (odW (xa 11) vo) ([((xa 5), .inl (X.2.1, 3, .inl fr))])))) sz) s (@HAppend.hAppend va_W va_W va_W _ (xW h0 nw sp xa la lb) (@HAppend.hAppend va_W va_W va_W _ (rcV X nw an sv dv n0 n1 n2 n3 n4 g0 gs gn gm) (@HAppend.hAppend va_W va_W va_W _ ([((xa 5), .inl (X.2.1, 3, .inl fr))]) (odW (xa 11) v_198)))) H locs := G
              refine lv_lstore (lv' := [(6, .long r_199), (5, .ref (an 4)), (0, .ref h0), (1, .int 3), (2, .int x2), (3, .int 3), (4, .int x4)]) zx zb dX10_stumble_103 hl (by decide) rfl (fun ls hl => ?_)
              refine lv_iload_n zx zb dX10_stumble_105 rfl (lv_at hl 5 rfl) ?_
              refine o_rl (cells' := 0) (slots' := 0) G rfl rfl (n_S (As := [.int 3]) (rest := []) S G (s_tenTo l X 3 (by omega) H.size) gX10_stumble_X3_tenTo rfl rfl rfl hdS_X3_tenTo ⟨Nat.le_of_ble_eq_true rfl, Nat.le_of_ble_eq_true rfl⟩ [] rfl rfl rfl hl.1 (Nat.le_of_ble_eq_true rfl) dX10_stumble_106 ⟨Nat.le_of_ble_eq_true rfl, Nat.le_of_ble_eq_true rfl⟩) (fun r_200 u_200 H locs hp_200 G => ?_)
              have G : wd X (va_A (@HAppend.hAppend va_W va_W va_W _ (xW h0 nw sp xa la lb) (@HAppend.hAppend va_W va_W va_W _ (rcV X nw an sv dv n0 n1 n2 n3 n4 g0 gs gn gm) (@HAppend.hAppend va_W va_W va_W _ (odW (xa 11) vo) ([((xa 5), .inl (X.2.1, 3, .inl fr))])))) sz) (va_A (@HAppend.hAppend va_W va_W va_W _ (xW h0 nw sp xa la lb) (@HAppend.hAppend va_W va_W va_W _ (rcV X nw an sv dv n0 n1 n2 n3 n4 g0 gs gn gm) (@HAppend.hAppend va_W va_W va_W _ (odW (xa 11) vo) ([((xa 5), .inl (X.2.1, 3, .inl fr))])))) sz) s (@HAppend.hAppend va_W va_W va_W _ (xW h0 nw sp xa la lb) (@HAppend.hAppend va_W va_W va_W _ (rcV X nw an sv dv n0 n1 n2 n3 n4 g0 gs gn gm) (@HAppend.hAppend va_W va_W va_W _ ([((xa 5), .inl (X.2.1, 3, .inl fr))]) (odW (xa 11) v_198)))) H locs := G
              refine lv_lstore (lv' := [(8, .long r_200), (6, .long r_199), (5, .ref (an 4)), (0, .ref h0), (1, .int 3), (2, .int x2), (3, .int 3), (4, .int x4)]) zx zb dX10_stumble_109 hl (by decide) rfl (fun ls hl => ?_)
              refine lv_lload zx zb dX10_stumble_111 (lv_at hl 1 rfl) ?_
              refine lv_lload zx zb dX10_stumble_113 (lv_at hl 0 rfl) ?_
              refine o_rl (cells' := 0) (slots' := 0) G rfl rfl (n_S (As := [.long r_199, .long r_200]) (rest := []) S G (s_commonPart l X r_199 r_200 H.size) gX10_stumble_X3_commonPart rfl rfl rfl hdS_X3_commonPart ⟨Nat.le_of_ble_eq_true rfl, Nat.le_of_ble_eq_true rfl⟩ [] rfl rfl rfl hl.1 (Nat.le_of_ble_eq_true rfl) dX10_stumble_115 ⟨Nat.le_of_ble_eq_true rfl, Nat.le_of_ble_eq_true rfl⟩) (fun r_201 u_201 H locs hp_201 G => ?_)
              have G : wd X (va_A (@HAppend.hAppend va_W va_W va_W _ (xW h0 nw sp xa la lb) (@HAppend.hAppend va_W va_W va_W _ (rcV X nw an sv dv n0 n1 n2 n3 n4 g0 gs gn gm) (@HAppend.hAppend va_W va_W va_W _ (odW (xa 11) vo) ([((xa 5), .inl (X.2.1, 3, .inl fr))])))) sz) (va_A (@HAppend.hAppend va_W va_W va_W _ (xW h0 nw sp xa la lb) (@HAppend.hAppend va_W va_W va_W _ (rcV X nw an sv dv n0 n1 n2 n3 n4 g0 gs gn gm) (@HAppend.hAppend va_W va_W va_W _ (odW (xa 11) vo) ([((xa 5), .inl (X.2.1, 3, .inl fr))])))) sz) s (@HAppend.hAppend va_W va_W va_W _ (xW h0 nw sp xa la lb) (@HAppend.hAppend va_W va_W va_W _ (rcV X nw an sv dv n0 n1 n2 n3 n4 g0 gs gn gm) (@HAppend.hAppend va_W va_W va_W _ ([((xa 5), .inl (X.2.1, 3, .inl fr))]) (odW (xa 11) v_198)))) H locs := G
              refine lv_lstore (lv' := [(10, .long r_201), (8, .long r_200), (6, .long r_199), (5, .ref (an 4)), (0, .ref h0), (1, .int 3), (2, .int x2), (3, .int 3), (4, .int x4)]) zx zb dX10_stumble_118 hl (by decide) rfl (fun ls hl => ?_)
              refine lv_lload zx zb dX10_stumble_120 (lv_at hl 0 rfl) ?_
              refine lv_lconst (v := (Int32.toInt64 0)) zx zb dX10_stumble_122 (by decide) ?_
              refine W.lcmp zx zb dX10_stumble_123 ?_
              refine k_cutW (PP := fun Wx => ∀ (la_203 : Int64) (lb_204 : Int64) (H : Heap) (locs : List Loc) (ls : Array Slot), wd X (va_A (@HAppend.hAppend va_W va_W va_W _ (xW h0 nw sp xa la lb) (@HAppend.hAppend va_W va_W va_W _ (rcV X nw an sv dv n0 n1 n2 n3 n4 g0 gs gn gm) (@HAppend.hAppend va_W va_W va_W _ (odW (xa 11) vo) ([((xa 5), .inl (X.2.1, 3, .inl fr))])))) sz) (va_A (@HAppend.hAppend va_W va_W va_W _ (xW h0 nw sp xa la lb) (@HAppend.hAppend va_W va_W va_W _ (rcV X nw an sv dv n0 n1 n2 n3 n4 g0 gs gn gm) (@HAppend.hAppend va_W va_W va_W _ (odW (xa 11) vo) ([((xa 5), .inl (X.2.1, 3, .inl fr))])))) sz) s (@HAppend.hAppend va_W va_W va_W _ (xW h0 nw sp xa la_203 lb_204) (@HAppend.hAppend va_W va_W va_W _ (rcV X nw an sv dv n0 n1 n2 n3 n4 g0 gs gn gm) (@HAppend.hAppend va_W va_W va_W _ ([((xa 5), .inl (X.2.1, 3, .inl fr))]) (odW (xa 11) v_198)))) H locs → lv_has ls 12 [(10, .long r_201), (8, .long r_200), (6, .long r_199), (5, .ref (an 4)), (0, .ref h0), (1, .int 3), (2, .int x2), (3, .int 3), (4, .int x4)] → Wx (F0 m 145 ls []) H locs) ?_ ?_
              · intro join_124
                refine lv_if_le (tgt := 145) zx zb dX10_stumble_124 (by decide) (fun c_202 => ?_) (fun c_202 => ?_)
                · exact join_124 la lb _ _ _  G hl
                · refine lv_aload_n zx zb dX10_stumble_127 rfl (lv_at hl 4 rfl) ?_
                  refine lv_lload zx zb dX10_stumble_128 (lv_at hl 2 rfl) ?_
                  refine lv_lload zx zb dX10_stumble_130 (lv_at hl 0 rfl) ?_
                  refine lv_ldiv zx zb dX10_stumble_132 (k_lnz2 c_202) ?_
                  refine k_ldE (fun y_205 => ?_)
                  refine r_put (C := RX10) (T := TX10) (N := 14) (ci := 8) (v := .long y_205) S in_X10_stumble_X10 tyX10_ok nmX10 G 0 rfl rfl 6 (by decide) lk_X10_stumble_38 rfl rfl rfl (Nat.le_of_ble_eq_true rfl) dX10_stumble_133 (fun H locs G => ?_)
                  have G : wd X (va_A (@HAppend.hAppend va_W va_W va_W _ (xW h0 nw sp xa la lb) (@HAppend.hAppend va_W va_W va_W _ (rcV X nw an sv dv n0 n1 n2 n3 n4 g0 gs gn gm) (@HAppend.hAppend va_W va_W va_W _ (odW (xa 11) vo) ([((xa 5), .inl (X.2.1, 3, .inl fr))])))) sz) (va_A (@HAppend.hAppend va_W va_W va_W _ (xW h0 nw sp xa la lb) (@HAppend.hAppend va_W va_W va_W _ (rcV X nw an sv dv n0 n1 n2 n3 n4 g0 gs gn gm) (@HAppend.hAppend va_W va_W va_W _ (odW (xa 11) vo) ([((xa 5), .inl (X.2.1, 3, .inl fr))])))) sz) s (@HAppend.hAppend va_W va_W va_W _ (xW h0 nw sp xa y_205 lb) (@HAppend.hAppend va_W va_W va_W _ (rcV X nw an sv dv n0 n1 n2 n3 n4 g0 gs gn gm) (@HAppend.hAppend va_W va_W va_W _ ([((xa 5), .inl (X.2.1, 3, .inl fr))]) (odW (xa 11) v_198)))) H locs := G
                  refine lv_aload_n zx zb dX10_stumble_136 rfl (lv_at hl 4 rfl) ?_
                  refine lv_lload zx zb dX10_stumble_137 (lv_at hl 1 rfl) ?_
                  refine lv_lload zx zb dX10_stumble_139 (lv_at hl 0 rfl) ?_
                  refine lv_ldiv zx zb dX10_stumble_141 (k_lnz2 c_202) ?_
                  refine k_ldE (fun y_206 => ?_)
                  refine r_put (C := RX10) (T := TX10) (N := 14) (ci := 8) (v := .long y_206) S in_X10_stumble_X10 tyX10_ok nmX10 G 0 rfl rfl 7 (by decide) lk_X10_stumble_42 rfl rfl rfl (Nat.le_of_ble_eq_true rfl) dX10_stumble_142 (fun H locs G => ?_)
                  have G : wd X (va_A (@HAppend.hAppend va_W va_W va_W _ (xW h0 nw sp xa la lb) (@HAppend.hAppend va_W va_W va_W _ (rcV X nw an sv dv n0 n1 n2 n3 n4 g0 gs gn gm) (@HAppend.hAppend va_W va_W va_W _ (odW (xa 11) vo) ([((xa 5), .inl (X.2.1, 3, .inl fr))])))) sz) (va_A (@HAppend.hAppend va_W va_W va_W _ (xW h0 nw sp xa la lb) (@HAppend.hAppend va_W va_W va_W _ (rcV X nw an sv dv n0 n1 n2 n3 n4 g0 gs gn gm) (@HAppend.hAppend va_W va_W va_W _ (odW (xa 11) vo) ([((xa 5), .inl (X.2.1, 3, .inl fr))])))) sz) s (@HAppend.hAppend va_W va_W va_W _ (xW h0 nw sp xa y_205 y_206) (@HAppend.hAppend va_W va_W va_W _ (rcV X nw an sv dv n0 n1 n2 n3 n4 g0 gs gn gm) (@HAppend.hAppend va_W va_W va_W _ ([((xa 5), .inl (X.2.1, 3, .inl fr))]) (odW (xa 11) v_198)))) H locs := G
                  exact join_124 y_205 y_206 _ _ _  G hl
              · intro la_203 lb_204 H locs ls  G hl
                refine lv_iconst (v := 1) zx zb dX10_stumble_145 (by decide) ?_
                exact e_int S zr zlk (vp_nar_int _) G (la_203, lb_204, v_198, fr) [0, 1, 2, 3, 4, 5, 6, 7, 8, 9, 10, 11, 12, 13, 14, 15, 16, 18, 17] rfl rfl (Or.inr rfl) ((stuF_p ⟨⟨_, hj_1, rfl⟩, hw_3, hw_5, hw_7⟩).symm) dX10_stumble_146
            · refine k_it (v := 4) rfl ?_
              refine r_aald (C := RX8) (b := (an 5)) S G 2 3 rfl rfl (k_vp (by decide)) rfl dX10_stumble_54 ?_
              refine lv_astore (lv' := [(5, .ref (an 5)), (0, .ref h0), (1, .int 4), (2, .int x2), (3, .int 3), (4, .int x4)]) zx zb dX10_stumble_55 hl (by decide) rfl (fun ls hl => ?_)
              refine lv_aload_n zx zb dX10_stumble_57 rfl (lv_at hl 1 rfl) ?_
              refine r_get (C := RX10) (T := TX10) (N := 14) (ci := 8) (v := .ref (xa 11)) S in_X10_stumble_X10 G 0 rfl rfl 11 (by decide) lk_X10_stumble_65 rfl dX10_stumble_58 ?_
              refine lv_aload zx zb dX10_stumble_61 (lv_at hl 0 rfl) ?_
              refine lv_aload_n zx zb dX10_stumble_63 rfl (lv_at hl 1 rfl) ?_
              refine r_get (C := RX10) (T := TX10) (N := 14) (ci := 8) (v := .ref nw) S in_X10_stumble_X10 G 0 rfl rfl 0 (by decide) lk_X10_stumble_10 rfl dX10_stumble_64 ?_
              refine r_get (C := RX5) (T := TX5) (N := 8) (ci := 3) (v := .int (dv 0)) S in_X10_stumble_X5 G 1 rfl rfl 0 (by decide) lk_X10_stumble_140 rfl dX10_stumble_67 ?_
              refine lv_aload_n zx zb dX10_stumble_70 rfl (lv_at hl 1 rfl) ?_
              refine r_get (C := RX10) (T := TX10) (N := 14) (ci := 8) (v := .ref nw) S in_X10_stumble_X10 G 0 rfl rfl 0 (by decide) lk_X10_stumble_10 rfl dX10_stumble_71 ?_
              refine r_get (C := RX5) (T := TX5) (N := 8) (ci := 3) (v := .int (dv 1)) S in_X10_stumble_X5 G 1 rfl rfl 1 (by decide) lk_X10_stumble_110 rfl dX10_stumble_74 ?_
              refine lv_iload_n zx zb dX10_stumble_77 rfl (lv_at hl 4 rfl) ?_
              refine r_iadd (v := ((dv 1) + 3)) S rfl dX10_stumble_78 ?_
              refine lv_iload_n zx zb dX10_stumble_79 rfl (lv_at hl 3 rfl) ?_
              refine lv_iload zx zb dX10_stumble_80 (lv_at hl 5 rfl) ?_
              refine b_wv (cells' := 0) (slots' := 0) (wr := @HAppend.hAppend va_W va_W va_W _ (xW h0 nw sp xa la lb) (@HAppend.hAppend va_W va_W va_W _ ([(nw, .inr (3, [.int (dv 0), .int (dv 1), .int (nI n0), .ref (an 0), .ref (an 7), .ref (an 9), .ref (an 11), .ref (an 13)])), ((an 0), .inl (X.2.2.2.2, 6, .inr (.inr (.inr (.inr (rowQ an)))))), ((an 1), .inr (6, [.int (sv 0), .int (sv 1), .int (sv 2), .int (dv 10), .int (dv 11), .int (dv 12), .int (dv 13), .int (dv 14)])), ((an 2), .inr (6, [.int (sv 3), .int (sv 4), .int (sv 5), .int (dv 15), .int (dv 16), .int (dv 17), .int (dv 18), .int (dv 19)])), ((an 3), .inr (6, [.int (sv 6), .int (sv 7), .int (sv 8), .int (dv 20), .int (dv 21), .int (dv 22), .int (dv 23), .int (dv 24)])), ((an 4), .inr (6, [.int (sv 9), .int (sv 10), .int (sv 11), .int (dv 25), .int (dv 26), .int (dv 27), .int (dv 28), .int (dv 29)])), ((an 6), .inr (6, [.int (sv 15), .int (sv 16), .int (sv 17), .int (dv 35), .int (dv 36), .int (dv 37), .int (dv 38), .int (dv 39)])), ((an 7), .inr (2, [.ref (an 8), .int (nI n1)])), ((an 8), .inl (X.2.1, 248, .inl g0)), ((an 9), .inr (5, [.int 5, .int 0, .int 1, .ref (an 10), .int (nI n2)])), ((an 10), .inl (X.2.1, 25, .inl gs)), ((an 11), .inr (5, [.int 6, .int 1, .int 1, .ref (an 12), .int (nI n3)])), ((an 12), .inl (X.2.1, 30, .inl gn)), ((an 13), .inr (5, [.int 6, .int 0, .int 0, .ref (an 14), .int (nI n4)])), ((an 14), .inl (X.2.1, 30, .inl gm))]) ([((xa 5), .inl (X.2.1, 3, .inl fr))]))) G rfl rfl [17, 7] [0, 1, 2, 3, 4, 5, 6, 8, 9, 10, 11, 12, 13, 14, 15, 16, 18] rfl rfl rfl rfl (n_V (As := [.ref (an 5), .int (dv 0), .int ((dv 1) + 3), .int x2, .int x4]) (rest := []) (C := RX3) (T := TX3) (N := 8) (ci := 1) S G (s_pose l X (xa 11) vo (an 5) (fun k => sv (12 + k)) (fun k => dv (30 + k)) (dv 0) ((dv 1) + 3) x2 x4 H.size) gX10_stumble_X3_pose rfl rfl rfl hdV_X3_pose ⟨Nat.le_of_ble_eq_true rfl, Nat.le_of_ble_eq_true rfl⟩ [17, 7] rfl rfl 17 rfl rfl rfl hl.1 (Nat.le_of_ble_eq_true rfl) dX10_stumble_82 ⟨Nat.le_of_ble_eq_true rfl, Nat.le_of_ble_eq_true rfl⟩) (fun u_207 H locs hp_207 G => ?_)
              obtain ⟨v_207, rfl⟩ : ∃ z, z = u_207 := ⟨_, rfl⟩
              have hq_207 := hp_207
              have G : wd X (va_A (@HAppend.hAppend va_W va_W va_W _ (xW h0 nw sp xa la lb) (@HAppend.hAppend va_W va_W va_W _ (rcV X nw an sv dv n0 n1 n2 n3 n4 g0 gs gn gm) (@HAppend.hAppend va_W va_W va_W _ (odW (xa 11) vo) ([((xa 5), .inl (X.2.1, 3, .inl fr))])))) sz) (va_A (@HAppend.hAppend va_W va_W va_W _ (xW h0 nw sp xa la lb) (@HAppend.hAppend va_W va_W va_W _ (rcV X nw an sv dv n0 n1 n2 n3 n4 g0 gs gn gm) (@HAppend.hAppend va_W va_W va_W _ (odW (xa 11) vo) ([((xa 5), .inl (X.2.1, 3, .inl fr))])))) sz) s (@HAppend.hAppend va_W va_W va_W _ (xW h0 nw sp xa la lb) (@HAppend.hAppend va_W va_W va_W _ (rcV X nw an sv dv n0 n1 n2 n3 n4 g0 gs gn gm) (@HAppend.hAppend va_W va_W va_W _ ([((xa 5), .inl (X.2.1, 3, .inl fr))]) (odW (xa 11) v_207)))) H locs := wd_sub G [0, 1, 2, 3, 4, 5, 6, 18, 7, 8, 9, 10, 11, 12, 13, 14, 15, 16, 17] rfl rfl
              refine lv_aload_n zx zb dX10_stumble_85 rfl (lv_at hl 1 rfl) ?_
              refine r_get (C := RX10) (T := TX10) (N := 14) (ci := 8) (v := .ref (xa 11)) S in_X10_stumble_X10 G 0 rfl rfl 11 (by decide) lk_X10_stumble_65 rfl dX10_stumble_86 ?_
              refine lv_aload zx zb dX10_stumble_89 (lv_at hl 0 rfl) ?_
              refine r_get (C := RX8) (T := TX8) (N := 8) (ci := 6) (v := .int (dv 31)) S in_X10_stumble_X8 G 7 rfl rfl 4 (by decide) lk_X10_stumble_137 rfl dX10_stumble_91 ?_
              refine lv_aload zx zb dX10_stumble_94 (lv_at hl 0 rfl) ?_
              refine r_get (C := RX8) (T := TX8) (N := 8) (ci := 6) (v := .int (dv 33)) S in_X10_stumble_X8 G 7 rfl rfl 6 (by decide) lk_X10_stumble_240 rfl dX10_stumble_96 ?_
              refine lv_iload_n zx zb dX10_stumble_99 rfl (lv_at hl 4 rfl) ?_
              refine o_rl (cells' := 0) (slots' := 0) G rfl rfl (n_SN (As := [.ref (xa 11), .int (dv 31), .int (dv 33), .int 3]) (rest := []) (host := "EggSpoons") S G (s_ways3 l X (xa 11) v_207 (dv 31) (dv 33) H.size) gX10_stumble_X3_ways_n243 rfl rfl rfl mm_X10_stumble_inX3 G.1.2.2.2.2.2.2.2.2.2.2.2 mm_X10_stumble_stX3_ways hdS_X3_ways ⟨Nat.le_of_ble_eq_true rfl, Nat.le_of_ble_eq_true rfl⟩ [18] rfl rfl rfl hl.1 (Nat.le_of_ble_eq_true rfl) dX10_stumble_100 ⟨Nat.le_of_ble_eq_true rfl, Nat.le_of_ble_eq_true rfl⟩) (fun r_208 u_208 H locs hp_208 G => ?_)
              have G : wd X (va_A (@HAppend.hAppend va_W va_W va_W _ (xW h0 nw sp xa la lb) (@HAppend.hAppend va_W va_W va_W _ (rcV X nw an sv dv n0 n1 n2 n3 n4 g0 gs gn gm) (@HAppend.hAppend va_W va_W va_W _ (odW (xa 11) vo) ([((xa 5), .inl (X.2.1, 3, .inl fr))])))) sz) (va_A (@HAppend.hAppend va_W va_W va_W _ (xW h0 nw sp xa la lb) (@HAppend.hAppend va_W va_W va_W _ (rcV X nw an sv dv n0 n1 n2 n3 n4 g0 gs gn gm) (@HAppend.hAppend va_W va_W va_W _ (odW (xa 11) vo) ([((xa 5), .inl (X.2.1, 3, .inl fr))])))) sz) s (@HAppend.hAppend va_W va_W va_W _ (xW h0 nw sp xa la lb) (@HAppend.hAppend va_W va_W va_W _ (rcV X nw an sv dv n0 n1 n2 n3 n4 g0 gs gn gm) (@HAppend.hAppend va_W va_W va_W _ ([((xa 5), .inl (X.2.1, 3, .inl fr))]) (odW (xa 11) v_207)))) H locs := G
              refine lv_lstore (lv' := [(6, .long r_208), (5, .ref (an 5)), (0, .ref h0), (1, .int 4), (2, .int x2), (3, .int 3), (4, .int x4)]) zx zb dX10_stumble_103 hl (by decide) rfl (fun ls hl => ?_)
              refine lv_iload_n zx zb dX10_stumble_105 rfl (lv_at hl 5 rfl) ?_
              refine o_rl (cells' := 0) (slots' := 0) G rfl rfl (n_S (As := [.int 3]) (rest := []) S G (s_tenTo l X 3 (by omega) H.size) gX10_stumble_X3_tenTo rfl rfl rfl hdS_X3_tenTo ⟨Nat.le_of_ble_eq_true rfl, Nat.le_of_ble_eq_true rfl⟩ [] rfl rfl rfl hl.1 (Nat.le_of_ble_eq_true rfl) dX10_stumble_106 ⟨Nat.le_of_ble_eq_true rfl, Nat.le_of_ble_eq_true rfl⟩) (fun r_209 u_209 H locs hp_209 G => ?_)
              have G : wd X (va_A (@HAppend.hAppend va_W va_W va_W _ (xW h0 nw sp xa la lb) (@HAppend.hAppend va_W va_W va_W _ (rcV X nw an sv dv n0 n1 n2 n3 n4 g0 gs gn gm) (@HAppend.hAppend va_W va_W va_W _ (odW (xa 11) vo) ([((xa 5), .inl (X.2.1, 3, .inl fr))])))) sz) (va_A (@HAppend.hAppend va_W va_W va_W _ (xW h0 nw sp xa la lb) (@HAppend.hAppend va_W va_W va_W _ (rcV X nw an sv dv n0 n1 n2 n3 n4 g0 gs gn gm) (@HAppend.hAppend va_W va_W va_W _ (odW (xa 11) vo) ([((xa 5), .inl (X.2.1, 3, .inl fr))])))) sz) s (@HAppend.hAppend va_W va_W va_W _ (xW h0 nw sp xa la lb) (@HAppend.hAppend va_W va_W va_W _ (rcV X nw an sv dv n0 n1 n2 n3 n4 g0 gs gn gm) (@HAppend.hAppend va_W va_W va_W _ ([((xa 5), .inl (X.2.1, 3, .inl fr))]) (odW (xa 11) v_207)))) H locs := G
              refine lv_lstore (lv' := [(8, .long r_209), (6, .long r_208), (5, .ref (an 5)), (0, .ref h0), (1, .int 4), (2, .int x2), (3, .int 3), (4, .int x4)]) zx zb dX10_stumble_109 hl (by decide) rfl (fun ls hl => ?_)
              refine lv_lload zx zb dX10_stumble_111 (lv_at hl 1 rfl) ?_
              refine lv_lload zx zb dX10_stumble_113 (lv_at hl 0 rfl) ?_
              refine o_rl (cells' := 0) (slots' := 0) G rfl rfl (n_S (As := [.long r_208, .long r_209]) (rest := []) S G (s_commonPart l X r_208 r_209 H.size) gX10_stumble_X3_commonPart rfl rfl rfl hdS_X3_commonPart ⟨Nat.le_of_ble_eq_true rfl, Nat.le_of_ble_eq_true rfl⟩ [] rfl rfl rfl hl.1 (Nat.le_of_ble_eq_true rfl) dX10_stumble_115 ⟨Nat.le_of_ble_eq_true rfl, Nat.le_of_ble_eq_true rfl⟩) (fun r_210 u_210 H locs hp_210 G => ?_)
              have G : wd X (va_A (@HAppend.hAppend va_W va_W va_W _ (xW h0 nw sp xa la lb) (@HAppend.hAppend va_W va_W va_W _ (rcV X nw an sv dv n0 n1 n2 n3 n4 g0 gs gn gm) (@HAppend.hAppend va_W va_W va_W _ (odW (xa 11) vo) ([((xa 5), .inl (X.2.1, 3, .inl fr))])))) sz) (va_A (@HAppend.hAppend va_W va_W va_W _ (xW h0 nw sp xa la lb) (@HAppend.hAppend va_W va_W va_W _ (rcV X nw an sv dv n0 n1 n2 n3 n4 g0 gs gn gm) (@HAppend.hAppend va_W va_W va_W _ (odW (xa 11) vo) ([((xa 5), .inl (X.2.1, 3, .inl fr))])))) sz) s (@HAppend.hAppend va_W va_W va_W _ (xW h0 nw sp xa la lb) (@HAppend.hAppend va_W va_W va_W _ (rcV X nw an sv dv n0 n1 n2 n3 n4 g0 gs gn gm) (@HAppend.hAppend va_W va_W va_W _ ([((xa 5), .inl (X.2.1, 3, .inl fr))]) (odW (xa 11) v_207)))) H locs := G
              refine lv_lstore (lv' := [(10, .long r_210), (8, .long r_209), (6, .long r_208), (5, .ref (an 5)), (0, .ref h0), (1, .int 4), (2, .int x2), (3, .int 3), (4, .int x4)]) zx zb dX10_stumble_118 hl (by decide) rfl (fun ls hl => ?_)
              refine lv_lload zx zb dX10_stumble_120 (lv_at hl 0 rfl) ?_
              refine lv_lconst (v := (Int32.toInt64 0)) zx zb dX10_stumble_122 (by decide) ?_
              refine W.lcmp zx zb dX10_stumble_123 ?_
              refine k_cutW (PP := fun Wx => ∀ (la_212 : Int64) (lb_213 : Int64) (H : Heap) (locs : List Loc) (ls : Array Slot), wd X (va_A (@HAppend.hAppend va_W va_W va_W _ (xW h0 nw sp xa la lb) (@HAppend.hAppend va_W va_W va_W _ (rcV X nw an sv dv n0 n1 n2 n3 n4 g0 gs gn gm) (@HAppend.hAppend va_W va_W va_W _ (odW (xa 11) vo) ([((xa 5), .inl (X.2.1, 3, .inl fr))])))) sz) (va_A (@HAppend.hAppend va_W va_W va_W _ (xW h0 nw sp xa la lb) (@HAppend.hAppend va_W va_W va_W _ (rcV X nw an sv dv n0 n1 n2 n3 n4 g0 gs gn gm) (@HAppend.hAppend va_W va_W va_W _ (odW (xa 11) vo) ([((xa 5), .inl (X.2.1, 3, .inl fr))])))) sz) s (@HAppend.hAppend va_W va_W va_W _ (xW h0 nw sp xa la_212 lb_213) (@HAppend.hAppend va_W va_W va_W _ (rcV X nw an sv dv n0 n1 n2 n3 n4 g0 gs gn gm) (@HAppend.hAppend va_W va_W va_W _ ([((xa 5), .inl (X.2.1, 3, .inl fr))]) (odW (xa 11) v_207)))) H locs → lv_has ls 12 [(10, .long r_210), (8, .long r_209), (6, .long r_208), (5, .ref (an 5)), (0, .ref h0), (1, .int 4), (2, .int x2), (3, .int 3), (4, .int x4)] → Wx (F0 m 145 ls []) H locs) ?_ ?_
              · intro join_124
                refine lv_if_le (tgt := 145) zx zb dX10_stumble_124 (by decide) (fun c_211 => ?_) (fun c_211 => ?_)
                · exact join_124 la lb _ _ _  G hl
                · refine lv_aload_n zx zb dX10_stumble_127 rfl (lv_at hl 4 rfl) ?_
                  refine lv_lload zx zb dX10_stumble_128 (lv_at hl 2 rfl) ?_
                  refine lv_lload zx zb dX10_stumble_130 (lv_at hl 0 rfl) ?_
                  refine lv_ldiv zx zb dX10_stumble_132 (k_lnz2 c_211) ?_
                  refine k_ldE (fun y_214 => ?_)
                  refine r_put (C := RX10) (T := TX10) (N := 14) (ci := 8) (v := .long y_214) S in_X10_stumble_X10 tyX10_ok nmX10 G 0 rfl rfl 6 (by decide) lk_X10_stumble_38 rfl rfl rfl (Nat.le_of_ble_eq_true rfl) dX10_stumble_133 (fun H locs G => ?_)
                  have G : wd X (va_A (@HAppend.hAppend va_W va_W va_W _ (xW h0 nw sp xa la lb) (@HAppend.hAppend va_W va_W va_W _ (rcV X nw an sv dv n0 n1 n2 n3 n4 g0 gs gn gm) (@HAppend.hAppend va_W va_W va_W _ (odW (xa 11) vo) ([((xa 5), .inl (X.2.1, 3, .inl fr))])))) sz) (va_A (@HAppend.hAppend va_W va_W va_W _ (xW h0 nw sp xa la lb) (@HAppend.hAppend va_W va_W va_W _ (rcV X nw an sv dv n0 n1 n2 n3 n4 g0 gs gn gm) (@HAppend.hAppend va_W va_W va_W _ (odW (xa 11) vo) ([((xa 5), .inl (X.2.1, 3, .inl fr))])))) sz) s (@HAppend.hAppend va_W va_W va_W _ (xW h0 nw sp xa y_214 lb) (@HAppend.hAppend va_W va_W va_W _ (rcV X nw an sv dv n0 n1 n2 n3 n4 g0 gs gn gm) (@HAppend.hAppend va_W va_W va_W _ ([((xa 5), .inl (X.2.1, 3, .inl fr))]) (odW (xa 11) v_207)))) H locs := G
                  refine lv_aload_n zx zb dX10_stumble_136 rfl (lv_at hl 4 rfl) ?_
                  refine lv_lload zx zb dX10_stumble_137 (lv_at hl 1 rfl) ?_
                  refine lv_lload zx zb dX10_stumble_139 (lv_at hl 0 rfl) ?_
                  refine lv_ldiv zx zb dX10_stumble_141 (k_lnz2 c_211) ?_
                  refine k_ldE (fun y_215 => ?_)
                  refine r_put (C := RX10) (T := TX10) (N := 14) (ci := 8) (v := .long y_215) S in_X10_stumble_X10 tyX10_ok nmX10 G 0 rfl rfl 7 (by decide) lk_X10_stumble_42 rfl rfl rfl (Nat.le_of_ble_eq_true rfl) dX10_stumble_142 (fun H locs G => ?_)
                  have G : wd X (va_A (@HAppend.hAppend va_W va_W va_W _ (xW h0 nw sp xa la lb) (@HAppend.hAppend va_W va_W va_W _ (rcV X nw an sv dv n0 n1 n2 n3 n4 g0 gs gn gm) (@HAppend.hAppend va_W va_W va_W _ (odW (xa 11) vo) ([((xa 5), .inl (X.2.1, 3, .inl fr))])))) sz) (va_A (@HAppend.hAppend va_W va_W va_W _ (xW h0 nw sp xa la lb) (@HAppend.hAppend va_W va_W va_W _ (rcV X nw an sv dv n0 n1 n2 n3 n4 g0 gs gn gm) (@HAppend.hAppend va_W va_W va_W _ (odW (xa 11) vo) ([((xa 5), .inl (X.2.1, 3, .inl fr))])))) sz) s (@HAppend.hAppend va_W va_W va_W _ (xW h0 nw sp xa y_214 y_215) (@HAppend.hAppend va_W va_W va_W _ (rcV X nw an sv dv n0 n1 n2 n3 n4 g0 gs gn gm) (@HAppend.hAppend va_W va_W va_W _ ([((xa 5), .inl (X.2.1, 3, .inl fr))]) (odW (xa 11) v_207)))) H locs := G
                  exact join_124 y_214 y_215 _ _ _  G hl
              · intro la_212 lb_213 H locs ls  G hl
                refine lv_iconst (v := 1) zx zb dX10_stumble_145 (by decide) ?_
                exact e_int S zr zlk (vp_nar_int _) G (la_212, lb_213, v_207, fr) [0, 1, 2, 3, 4, 5, 6, 7, 8, 9, 10, 11, 12, 13, 14, 15, 16, 18, 17] rfl rfl (Or.inr rfl) ((stuF_p ⟨⟨_, hj_1, rfl⟩, hw_3, hw_5, hw_7⟩).symm) dX10_stumble_146
            · refine k_it (v := 5) rfl ?_
              refine r_aald (C := RX8) (b := (an 6)) S G 2 3 rfl rfl (k_vp (by decide)) rfl dX10_stumble_54 ?_
              refine lv_astore (lv' := [(5, .ref (an 6)), (0, .ref h0), (1, .int 5), (2, .int x2), (3, .int 3), (4, .int x4)]) zx zb dX10_stumble_55 hl (by decide) rfl (fun ls hl => ?_)
              refine lv_aload_n zx zb dX10_stumble_57 rfl (lv_at hl 1 rfl) ?_
              refine r_get (C := RX10) (T := TX10) (N := 14) (ci := 8) (v := .ref (xa 11)) S in_X10_stumble_X10 G 0 rfl rfl 11 (by decide) lk_X10_stumble_65 rfl dX10_stumble_58 ?_
              refine lv_aload zx zb dX10_stumble_61 (lv_at hl 0 rfl) ?_
              refine lv_aload_n zx zb dX10_stumble_63 rfl (lv_at hl 1 rfl) ?_
              refine r_get (C := RX10) (T := TX10) (N := 14) (ci := 8) (v := .ref nw) S in_X10_stumble_X10 G 0 rfl rfl 0 (by decide) lk_X10_stumble_10 rfl dX10_stumble_64 ?_
              refine r_get (C := RX5) (T := TX5) (N := 8) (ci := 3) (v := .int (dv 0)) S in_X10_stumble_X5 G 1 rfl rfl 0 (by decide) lk_X10_stumble_140 rfl dX10_stumble_67 ?_
              refine lv_aload_n zx zb dX10_stumble_70 rfl (lv_at hl 1 rfl) ?_
              refine r_get (C := RX10) (T := TX10) (N := 14) (ci := 8) (v := .ref nw) S in_X10_stumble_X10 G 0 rfl rfl 0 (by decide) lk_X10_stumble_10 rfl dX10_stumble_71 ?_
              refine r_get (C := RX5) (T := TX5) (N := 8) (ci := 3) (v := .int (dv 1)) S in_X10_stumble_X5 G 1 rfl rfl 1 (by decide) lk_X10_stumble_110 rfl dX10_stumble_74 ?_
              refine lv_iload_n zx zb dX10_stumble_77 rfl (lv_at hl 4 rfl) ?_
              refine r_iadd (v := ((dv 1) + 3)) S rfl dX10_stumble_78 ?_
              refine lv_iload_n zx zb dX10_stumble_79 rfl (lv_at hl 3 rfl) ?_
              refine lv_iload zx zb dX10_stumble_80 (lv_at hl 5 rfl) ?_
              refine b_wv (cells' := 0) (slots' := 0) (wr := @HAppend.hAppend va_W va_W va_W _ (xW h0 nw sp xa la lb) (@HAppend.hAppend va_W va_W va_W _ ([(nw, .inr (3, [.int (dv 0), .int (dv 1), .int (nI n0), .ref (an 0), .ref (an 7), .ref (an 9), .ref (an 11), .ref (an 13)])), ((an 0), .inl (X.2.2.2.2, 6, .inr (.inr (.inr (.inr (rowQ an)))))), ((an 1), .inr (6, [.int (sv 0), .int (sv 1), .int (sv 2), .int (dv 10), .int (dv 11), .int (dv 12), .int (dv 13), .int (dv 14)])), ((an 2), .inr (6, [.int (sv 3), .int (sv 4), .int (sv 5), .int (dv 15), .int (dv 16), .int (dv 17), .int (dv 18), .int (dv 19)])), ((an 3), .inr (6, [.int (sv 6), .int (sv 7), .int (sv 8), .int (dv 20), .int (dv 21), .int (dv 22), .int (dv 23), .int (dv 24)])), ((an 4), .inr (6, [.int (sv 9), .int (sv 10), .int (sv 11), .int (dv 25), .int (dv 26), .int (dv 27), .int (dv 28), .int (dv 29)])), ((an 5), .inr (6, [.int (sv 12), .int (sv 13), .int (sv 14), .int (dv 30), .int (dv 31), .int (dv 32), .int (dv 33), .int (dv 34)])), ((an 7), .inr (2, [.ref (an 8), .int (nI n1)])), ((an 8), .inl (X.2.1, 248, .inl g0)), ((an 9), .inr (5, [.int 5, .int 0, .int 1, .ref (an 10), .int (nI n2)])), ((an 10), .inl (X.2.1, 25, .inl gs)), ((an 11), .inr (5, [.int 6, .int 1, .int 1, .ref (an 12), .int (nI n3)])), ((an 12), .inl (X.2.1, 30, .inl gn)), ((an 13), .inr (5, [.int 6, .int 0, .int 0, .ref (an 14), .int (nI n4)])), ((an 14), .inl (X.2.1, 30, .inl gm))]) ([((xa 5), .inl (X.2.1, 3, .inl fr))]))) G rfl rfl [17, 8] [0, 1, 2, 3, 4, 5, 6, 7, 9, 10, 11, 12, 13, 14, 15, 16, 18] rfl rfl rfl rfl (n_V (As := [.ref (an 6), .int (dv 0), .int ((dv 1) + 3), .int x2, .int x4]) (rest := []) (C := RX3) (T := TX3) (N := 8) (ci := 1) S G (s_pose l X (xa 11) vo (an 6) (fun k => sv (15 + k)) (fun k => dv (35 + k)) (dv 0) ((dv 1) + 3) x2 x4 H.size) gX10_stumble_X3_pose rfl rfl rfl hdV_X3_pose ⟨Nat.le_of_ble_eq_true rfl, Nat.le_of_ble_eq_true rfl⟩ [17, 8] rfl rfl 17 rfl rfl rfl hl.1 (Nat.le_of_ble_eq_true rfl) dX10_stumble_82 ⟨Nat.le_of_ble_eq_true rfl, Nat.le_of_ble_eq_true rfl⟩) (fun u_216 H locs hp_216 G => ?_)
              obtain ⟨v_216, rfl⟩ : ∃ z, z = u_216 := ⟨_, rfl⟩
              have hq_216 := hp_216
              have G : wd X (va_A (@HAppend.hAppend va_W va_W va_W _ (xW h0 nw sp xa la lb) (@HAppend.hAppend va_W va_W va_W _ (rcV X nw an sv dv n0 n1 n2 n3 n4 g0 gs gn gm) (@HAppend.hAppend va_W va_W va_W _ (odW (xa 11) vo) ([((xa 5), .inl (X.2.1, 3, .inl fr))])))) sz) (va_A (@HAppend.hAppend va_W va_W va_W _ (xW h0 nw sp xa la lb) (@HAppend.hAppend va_W va_W va_W _ (rcV X nw an sv dv n0 n1 n2 n3 n4 g0 gs gn gm) (@HAppend.hAppend va_W va_W va_W _ (odW (xa 11) vo) ([((xa 5), .inl (X.2.1, 3, .inl fr))])))) sz) s (@HAppend.hAppend va_W va_W va_W _ (xW h0 nw sp xa la lb) (@HAppend.hAppend va_W va_W va_W _ (rcV X nw an sv dv n0 n1 n2 n3 n4 g0 gs gn gm) (@HAppend.hAppend va_W va_W va_W _ ([((xa 5), .inl (X.2.1, 3, .inl fr))]) (odW (xa 11) v_216)))) H locs := wd_sub G [0, 1, 2, 3, 4, 5, 6, 7, 18, 8, 9, 10, 11, 12, 13, 14, 15, 16, 17] rfl rfl
              refine lv_aload_n zx zb dX10_stumble_85 rfl (lv_at hl 1 rfl) ?_
              refine r_get (C := RX10) (T := TX10) (N := 14) (ci := 8) (v := .ref (xa 11)) S in_X10_stumble_X10 G 0 rfl rfl 11 (by decide) lk_X10_stumble_65 rfl dX10_stumble_86 ?_
              refine lv_aload zx zb dX10_stumble_89 (lv_at hl 0 rfl) ?_
              refine r_get (C := RX8) (T := TX8) (N := 8) (ci := 6) (v := .int (dv 36)) S in_X10_stumble_X8 G 8 rfl rfl 4 (by decide) lk_X10_stumble_137 rfl dX10_stumble_91 ?_
              refine lv_aload zx zb dX10_stumble_94 (lv_at hl 0 rfl) ?_
              refine r_get (C := RX8) (T := TX8) (N := 8) (ci := 6) (v := .int (dv 38)) S in_X10_stumble_X8 G 8 rfl rfl 6 (by decide) lk_X10_stumble_240 rfl dX10_stumble_96 ?_
              refine lv_iload_n zx zb dX10_stumble_99 rfl (lv_at hl 4 rfl) ?_
              refine o_rl (cells' := 0) (slots' := 0) G rfl rfl (n_SN (As := [.ref (xa 11), .int (dv 36), .int (dv 38), .int 3]) (rest := []) (host := "EggSpoons") S G (s_ways3 l X (xa 11) v_216 (dv 36) (dv 38) H.size) gX10_stumble_X3_ways_n243 rfl rfl rfl mm_X10_stumble_inX3 G.1.2.2.2.2.2.2.2.2.2.2.2 mm_X10_stumble_stX3_ways hdS_X3_ways ⟨Nat.le_of_ble_eq_true rfl, Nat.le_of_ble_eq_true rfl⟩ [18] rfl rfl rfl hl.1 (Nat.le_of_ble_eq_true rfl) dX10_stumble_100 ⟨Nat.le_of_ble_eq_true rfl, Nat.le_of_ble_eq_true rfl⟩) (fun r_217 u_217 H locs hp_217 G => ?_)
              have G : wd X (va_A (@HAppend.hAppend va_W va_W va_W _ (xW h0 nw sp xa la lb) (@HAppend.hAppend va_W va_W va_W _ (rcV X nw an sv dv n0 n1 n2 n3 n4 g0 gs gn gm) (@HAppend.hAppend va_W va_W va_W _ (odW (xa 11) vo) ([((xa 5), .inl (X.2.1, 3, .inl fr))])))) sz) (va_A (@HAppend.hAppend va_W va_W va_W _ (xW h0 nw sp xa la lb) (@HAppend.hAppend va_W va_W va_W _ (rcV X nw an sv dv n0 n1 n2 n3 n4 g0 gs gn gm) (@HAppend.hAppend va_W va_W va_W _ (odW (xa 11) vo) ([((xa 5), .inl (X.2.1, 3, .inl fr))])))) sz) s (@HAppend.hAppend va_W va_W va_W _ (xW h0 nw sp xa la lb) (@HAppend.hAppend va_W va_W va_W _ (rcV X nw an sv dv n0 n1 n2 n3 n4 g0 gs gn gm) (@HAppend.hAppend va_W va_W va_W _ ([((xa 5), .inl (X.2.1, 3, .inl fr))]) (odW (xa 11) v_216)))) H locs := G
              refine lv_lstore (lv' := [(6, .long r_217), (5, .ref (an 6)), (0, .ref h0), (1, .int 5), (2, .int x2), (3, .int 3), (4, .int x4)]) zx zb dX10_stumble_103 hl (by decide) rfl (fun ls hl => ?_)
              refine lv_iload_n zx zb dX10_stumble_105 rfl (lv_at hl 5 rfl) ?_
              refine o_rl (cells' := 0) (slots' := 0) G rfl rfl (n_S (As := [.int 3]) (rest := []) S G (s_tenTo l X 3 (by omega) H.size) gX10_stumble_X3_tenTo rfl rfl rfl hdS_X3_tenTo ⟨Nat.le_of_ble_eq_true rfl, Nat.le_of_ble_eq_true rfl⟩ [] rfl rfl rfl hl.1 (Nat.le_of_ble_eq_true rfl) dX10_stumble_106 ⟨Nat.le_of_ble_eq_true rfl, Nat.le_of_ble_eq_true rfl⟩) (fun r_218 u_218 H locs hp_218 G => ?_)
              have G : wd X (va_A (@HAppend.hAppend va_W va_W va_W _ (xW h0 nw sp xa la lb) (@HAppend.hAppend va_W va_W va_W _ (rcV X nw an sv dv n0 n1 n2 n3 n4 g0 gs gn gm) (@HAppend.hAppend va_W va_W va_W _ (odW (xa 11) vo) ([((xa 5), .inl (X.2.1, 3, .inl fr))])))) sz) (va_A (@HAppend.hAppend va_W va_W va_W _ (xW h0 nw sp xa la lb) (@HAppend.hAppend va_W va_W va_W _ (rcV X nw an sv dv n0 n1 n2 n3 n4 g0 gs gn gm) (@HAppend.hAppend va_W va_W va_W _ (odW (xa 11) vo) ([((xa 5), .inl (X.2.1, 3, .inl fr))])))) sz) s (@HAppend.hAppend va_W va_W va_W _ (xW h0 nw sp xa la lb) (@HAppend.hAppend va_W va_W va_W _ (rcV X nw an sv dv n0 n1 n2 n3 n4 g0 gs gn gm) (@HAppend.hAppend va_W va_W va_W _ ([((xa 5), .inl (X.2.1, 3, .inl fr))]) (odW (xa 11) v_216)))) H locs := G
              refine lv_lstore (lv' := [(8, .long r_218), (6, .long r_217), (5, .ref (an 6)), (0, .ref h0), (1, .int 5), (2, .int x2), (3, .int 3), (4, .int x4)]) zx zb dX10_stumble_109 hl (by decide) rfl (fun ls hl => ?_)
              refine lv_lload zx zb dX10_stumble_111 (lv_at hl 1 rfl) ?_
              refine lv_lload zx zb dX10_stumble_113 (lv_at hl 0 rfl) ?_
              refine o_rl (cells' := 0) (slots' := 0) G rfl rfl (n_S (As := [.long r_217, .long r_218]) (rest := []) S G (s_commonPart l X r_217 r_218 H.size) gX10_stumble_X3_commonPart rfl rfl rfl hdS_X3_commonPart ⟨Nat.le_of_ble_eq_true rfl, Nat.le_of_ble_eq_true rfl⟩ [] rfl rfl rfl hl.1 (Nat.le_of_ble_eq_true rfl) dX10_stumble_115 ⟨Nat.le_of_ble_eq_true rfl, Nat.le_of_ble_eq_true rfl⟩) (fun r_219 u_219 H locs hp_219 G => ?_)
              have G : wd X (va_A (@HAppend.hAppend va_W va_W va_W _ (xW h0 nw sp xa la lb) (@HAppend.hAppend va_W va_W va_W _ (rcV X nw an sv dv n0 n1 n2 n3 n4 g0 gs gn gm) (@HAppend.hAppend va_W va_W va_W _ (odW (xa 11) vo) ([((xa 5), .inl (X.2.1, 3, .inl fr))])))) sz) (va_A (@HAppend.hAppend va_W va_W va_W _ (xW h0 nw sp xa la lb) (@HAppend.hAppend va_W va_W va_W _ (rcV X nw an sv dv n0 n1 n2 n3 n4 g0 gs gn gm) (@HAppend.hAppend va_W va_W va_W _ (odW (xa 11) vo) ([((xa 5), .inl (X.2.1, 3, .inl fr))])))) sz) s (@HAppend.hAppend va_W va_W va_W _ (xW h0 nw sp xa la lb) (@HAppend.hAppend va_W va_W va_W _ (rcV X nw an sv dv n0 n1 n2 n3 n4 g0 gs gn gm) (@HAppend.hAppend va_W va_W va_W _ ([((xa 5), .inl (X.2.1, 3, .inl fr))]) (odW (xa 11) v_216)))) H locs := G
              refine lv_lstore (lv' := [(10, .long r_219), (8, .long r_218), (6, .long r_217), (5, .ref (an 6)), (0, .ref h0), (1, .int 5), (2, .int x2), (3, .int 3), (4, .int x4)]) zx zb dX10_stumble_118 hl (by decide) rfl (fun ls hl => ?_)
              refine lv_lload zx zb dX10_stumble_120 (lv_at hl 0 rfl) ?_
              refine lv_lconst (v := (Int32.toInt64 0)) zx zb dX10_stumble_122 (by decide) ?_
              refine W.lcmp zx zb dX10_stumble_123 ?_
              refine k_cutW (PP := fun Wx => ∀ (la_221 : Int64) (lb_222 : Int64) (H : Heap) (locs : List Loc) (ls : Array Slot), wd X (va_A (@HAppend.hAppend va_W va_W va_W _ (xW h0 nw sp xa la lb) (@HAppend.hAppend va_W va_W va_W _ (rcV X nw an sv dv n0 n1 n2 n3 n4 g0 gs gn gm) (@HAppend.hAppend va_W va_W va_W _ (odW (xa 11) vo) ([((xa 5), .inl (X.2.1, 3, .inl fr))])))) sz) (va_A (@HAppend.hAppend va_W va_W va_W _ (xW h0 nw sp xa la lb) (@HAppend.hAppend va_W va_W va_W _ (rcV X nw an sv dv n0 n1 n2 n3 n4 g0 gs gn gm) (@HAppend.hAppend va_W va_W va_W _ (odW (xa 11) vo) ([((xa 5), .inl (X.2.1, 3, .inl fr))])))) sz) s (@HAppend.hAppend va_W va_W va_W _ (xW h0 nw sp xa la_221 lb_222) (@HAppend.hAppend va_W va_W va_W _ (rcV X nw an sv dv n0 n1 n2 n3 n4 g0 gs gn gm) (@HAppend.hAppend va_W va_W va_W _ ([((xa 5), .inl (X.2.1, 3, .inl fr))]) (odW (xa 11) v_216)))) H locs → lv_has ls 12 [(10, .long r_219), (8, .long r_218), (6, .long r_217), (5, .ref (an 6)), (0, .ref h0), (1, .int 5), (2, .int x2), (3, .int 3), (4, .int x4)] → Wx (F0 m 145 ls []) H locs) ?_ ?_
              · intro join_124
                refine lv_if_le (tgt := 145) zx zb dX10_stumble_124 (by decide) (fun c_220 => ?_) (fun c_220 => ?_)
                · exact join_124 la lb _ _ _  G hl
                · refine lv_aload_n zx zb dX10_stumble_127 rfl (lv_at hl 4 rfl) ?_
                  refine lv_lload zx zb dX10_stumble_128 (lv_at hl 2 rfl) ?_
                  refine lv_lload zx zb dX10_stumble_130 (lv_at hl 0 rfl) ?_
                  refine lv_ldiv zx zb dX10_stumble_132 (k_lnz2 c_220) ?_
                  refine k_ldE (fun y_223 => ?_)
                  refine r_put (C := RX10) (T := TX10) (N := 14) (ci := 8) (v := .long y_223) S in_X10_stumble_X10 tyX10_ok nmX10 G 0 rfl rfl 6 (by decide) lk_X10_stumble_38 rfl rfl rfl (Nat.le_of_ble_eq_true rfl) dX10_stumble_133 (fun H locs G => ?_)
                  have G : wd X (va_A (@HAppend.hAppend va_W va_W va_W _ (xW h0 nw sp xa la lb) (@HAppend.hAppend va_W va_W va_W _ (rcV X nw an sv dv n0 n1 n2 n3 n4 g0 gs gn gm) (@HAppend.hAppend va_W va_W va_W _ (odW (xa 11) vo) ([((xa 5), .inl (X.2.1, 3, .inl fr))])))) sz) (va_A (@HAppend.hAppend va_W va_W va_W _ (xW h0 nw sp xa la lb) (@HAppend.hAppend va_W va_W va_W _ (rcV X nw an sv dv n0 n1 n2 n3 n4 g0 gs gn gm) (@HAppend.hAppend va_W va_W va_W _ (odW (xa 11) vo) ([((xa 5), .inl (X.2.1, 3, .inl fr))])))) sz) s (@HAppend.hAppend va_W va_W va_W _ (xW h0 nw sp xa y_223 lb) (@HAppend.hAppend va_W va_W va_W _ (rcV X nw an sv dv n0 n1 n2 n3 n4 g0 gs gn gm) (@HAppend.hAppend va_W va_W va_W _ ([((xa 5), .inl (X.2.1, 3, .inl fr))]) (odW (xa 11) v_216)))) H locs := G
                  refine lv_aload_n zx zb dX10_stumble_136 rfl (lv_at hl 4 rfl) ?_
                  refine lv_lload zx zb dX10_stumble_137 (lv_at hl 1 rfl) ?_
                  refine lv_lload zx zb dX10_stumble_139 (lv_at hl 0 rfl) ?_
                  refine lv_ldiv zx zb dX10_stumble_141 (k_lnz2 c_220) ?_
                  refine k_ldE (fun y_224 => ?_)
                  refine r_put (C := RX10) (T := TX10) (N := 14) (ci := 8) (v := .long y_224) S in_X10_stumble_X10 tyX10_ok nmX10 G 0 rfl rfl 7 (by decide) lk_X10_stumble_42 rfl rfl rfl (Nat.le_of_ble_eq_true rfl) dX10_stumble_142 (fun H locs G => ?_)
                  have G : wd X (va_A (@HAppend.hAppend va_W va_W va_W _ (xW h0 nw sp xa la lb) (@HAppend.hAppend va_W va_W va_W _ (rcV X nw an sv dv n0 n1 n2 n3 n4 g0 gs gn gm) (@HAppend.hAppend va_W va_W va_W _ (odW (xa 11) vo) ([((xa 5), .inl (X.2.1, 3, .inl fr))])))) sz) (va_A (@HAppend.hAppend va_W va_W va_W _ (xW h0 nw sp xa la lb) (@HAppend.hAppend va_W va_W va_W _ (rcV X nw an sv dv n0 n1 n2 n3 n4 g0 gs gn gm) (@HAppend.hAppend va_W va_W va_W _ (odW (xa 11) vo) ([((xa 5), .inl (X.2.1, 3, .inl fr))])))) sz) s (@HAppend.hAppend va_W va_W va_W _ (xW h0 nw sp xa y_223 y_224) (@HAppend.hAppend va_W va_W va_W _ (rcV X nw an sv dv n0 n1 n2 n3 n4 g0 gs gn gm) (@HAppend.hAppend va_W va_W va_W _ ([((xa 5), .inl (X.2.1, 3, .inl fr))]) (odW (xa 11) v_216)))) H locs := G
                  exact join_124 y_223 y_224 _ _ _  G hl
              · intro la_221 lb_222 H locs ls  G hl
                refine lv_iconst (v := 1) zx zb dX10_stumble_145 (by decide) ?_
                exact e_int S zr zlk (vp_nar_int _) G (la_221, lb_222, v_216, fr) [0, 1, 2, 3, 4, 5, 6, 7, 8, 9, 10, 11, 12, 13, 14, 15, 16, 18, 17] rfl rfl (Or.inr rfl) ((stuF_p ⟨⟨_, hj_1, rfl⟩, hw_3, hw_5, hw_7⟩).symm) dX10_stumble_146
          · have hl : lv_has ls 12 [(0, .ref h0), (1, .int (nI j_1)), (2, .int x2), (3, .int 4), (4, .int x4)] := hl
            refine lv_aload_n zx zb dX10_stumble_46 rfl (lv_at hl 0 rfl) ?_
            refine r_get (C := RX10) (T := TX10) (N := 14) (ci := 8) (v := .ref nw) S in_X10_stumble_X10 G 0 rfl rfl 0 (by decide) lk_X10_stumble_10 rfl dX10_stumble_47 ?_
            refine r_get (C := RX5) (T := TX5) (N := 8) (ci := 3) (v := .ref (an 0)) S in_X10_stumble_X5 G 1 rfl rfl 3 (by decide) lk_X10_stumble_126 rfl dX10_stumble_50 ?_
            refine lv_iload_n zx zb dX10_stumble_53 rfl (lv_at hl 1 rfl) ?_
            rcases k_6c (show j_1 < 6 by omega) with rfl | rfl | rfl | rfl | rfl | rfl
            · refine k_it (v := 0) rfl ?_
              refine r_aald (C := RX8) (b := (an 1)) S G 2 3 rfl rfl (k_vp (by decide)) rfl dX10_stumble_54 ?_
              refine lv_astore (lv' := [(5, .ref (an 1)), (0, .ref h0), (1, .int 0), (2, .int x2), (3, .int 4), (4, .int x4)]) zx zb dX10_stumble_55 hl (by decide) rfl (fun ls hl => ?_)
              refine lv_aload_n zx zb dX10_stumble_57 rfl (lv_at hl 1 rfl) ?_
              refine r_get (C := RX10) (T := TX10) (N := 14) (ci := 8) (v := .ref (xa 11)) S in_X10_stumble_X10 G 0 rfl rfl 11 (by decide) lk_X10_stumble_65 rfl dX10_stumble_58 ?_
              refine lv_aload zx zb dX10_stumble_61 (lv_at hl 0 rfl) ?_
              refine lv_aload_n zx zb dX10_stumble_63 rfl (lv_at hl 1 rfl) ?_
              refine r_get (C := RX10) (T := TX10) (N := 14) (ci := 8) (v := .ref nw) S in_X10_stumble_X10 G 0 rfl rfl 0 (by decide) lk_X10_stumble_10 rfl dX10_stumble_64 ?_
              refine r_get (C := RX5) (T := TX5) (N := 8) (ci := 3) (v := .int (dv 0)) S in_X10_stumble_X5 G 1 rfl rfl 0 (by decide) lk_X10_stumble_140 rfl dX10_stumble_67 ?_
              refine lv_aload_n zx zb dX10_stumble_70 rfl (lv_at hl 1 rfl) ?_
              refine r_get (C := RX10) (T := TX10) (N := 14) (ci := 8) (v := .ref nw) S in_X10_stumble_X10 G 0 rfl rfl 0 (by decide) lk_X10_stumble_10 rfl dX10_stumble_71 ?_
              refine r_get (C := RX5) (T := TX5) (N := 8) (ci := 3) (v := .int (dv 1)) S in_X10_stumble_X5 G 1 rfl rfl 1 (by decide) lk_X10_stumble_110 rfl dX10_stumble_74 ?_
              refine lv_iload_n zx zb dX10_stumble_77 rfl (lv_at hl 4 rfl) ?_
              refine r_iadd (v := ((dv 1) + 4)) S rfl dX10_stumble_78 ?_
              refine lv_iload_n zx zb dX10_stumble_79 rfl (lv_at hl 3 rfl) ?_
              refine lv_iload zx zb dX10_stumble_80 (lv_at hl 5 rfl) ?_
              refine b_wv (cells' := 0) (slots' := 0) (wr := @HAppend.hAppend va_W va_W va_W _ (xW h0 nw sp xa la lb) (@HAppend.hAppend va_W va_W va_W _ ([(nw, .inr (3, [.int (dv 0), .int (dv 1), .int (nI n0), .ref (an 0), .ref (an 7), .ref (an 9), .ref (an 11), .ref (an 13)])), ((an 0), .inl (X.2.2.2.2, 6, .inr (.inr (.inr (.inr (rowQ an)))))), ((an 2), .inr (6, [.int (sv 3), .int (sv 4), .int (sv 5), .int (dv 15), .int (dv 16), .int (dv 17), .int (dv 18), .int (dv 19)])), ((an 3), .inr (6, [.int (sv 6), .int (sv 7), .int (sv 8), .int (dv 20), .int (dv 21), .int (dv 22), .int (dv 23), .int (dv 24)])), ((an 4), .inr (6, [.int (sv 9), .int (sv 10), .int (sv 11), .int (dv 25), .int (dv 26), .int (dv 27), .int (dv 28), .int (dv 29)])), ((an 5), .inr (6, [.int (sv 12), .int (sv 13), .int (sv 14), .int (dv 30), .int (dv 31), .int (dv 32), .int (dv 33), .int (dv 34)])), ((an 6), .inr (6, [.int (sv 15), .int (sv 16), .int (sv 17), .int (dv 35), .int (dv 36), .int (dv 37), .int (dv 38), .int (dv 39)])), ((an 7), .inr (2, [.ref (an 8), .int (nI n1)])), ((an 8), .inl (X.2.1, 248, .inl g0)), ((an 9), .inr (5, [.int 5, .int 0, .int 1, .ref (an 10), .int (nI n2)])), ((an 10), .inl (X.2.1, 25, .inl gs)), ((an 11), .inr (5, [.int 6, .int 1, .int 1, .ref (an 12), .int (nI n3)])), ((an 12), .inl (X.2.1, 30, .inl gn)), ((an 13), .inr (5, [.int 6, .int 0, .int 0, .ref (an 14), .int (nI n4)])), ((an 14), .inl (X.2.1, 30, .inl gm))]) ([((xa 5), .inl (X.2.1, 3, .inl fr))]))) G rfl rfl [17, 3] [0, 1, 2, 4, 5, 6, 7, 8, 9, 10, 11, 12, 13, 14, 15, 16, 18] rfl rfl rfl rfl (n_V (As := [.ref (an 1), .int (dv 0), .int ((dv 1) + 4), .int x2, .int x4]) (rest := []) (C := RX3) (T := TX3) (N := 8) (ci := 1) S G (s_pose l X (xa 11) vo (an 1) (fun k => sv (0 + k)) (fun k => dv (10 + k)) (dv 0) ((dv 1) + 4) x2 x4 H.size) gX10_stumble_X3_pose rfl rfl rfl hdV_X3_pose ⟨Nat.le_of_ble_eq_true rfl, Nat.le_of_ble_eq_true rfl⟩ [17, 3] rfl rfl 17 rfl rfl rfl hl.1 (Nat.le_of_ble_eq_true rfl) dX10_stumble_82 ⟨Nat.le_of_ble_eq_true rfl, Nat.le_of_ble_eq_true rfl⟩) (fun u_225 H locs hp_225 G => ?_)
              obtain ⟨v_225, rfl⟩ : ∃ z, z = u_225 := ⟨_, rfl⟩
              have hq_225 := hp_225
              have G : wd X (va_A (@HAppend.hAppend va_W va_W va_W _ (xW h0 nw sp xa la lb) (@HAppend.hAppend va_W va_W va_W _ (rcV X nw an sv dv n0 n1 n2 n3 n4 g0 gs gn gm) (@HAppend.hAppend va_W va_W va_W _ (odW (xa 11) vo) ([((xa 5), .inl (X.2.1, 3, .inl fr))])))) sz) (va_A (@HAppend.hAppend va_W va_W va_W _ (xW h0 nw sp xa la lb) (@HAppend.hAppend va_W va_W va_W _ (rcV X nw an sv dv n0 n1 n2 n3 n4 g0 gs gn gm) (@HAppend.hAppend va_W va_W va_W _ (odW (xa 11) vo) ([((xa 5), .inl (X.2.1, 3, .inl fr))])))) sz) s (@HAppend.hAppend va_W va_W va_W _ (xW h0 nw sp xa la lb) (@HAppend.hAppend va_W va_W va_W _ (rcV X nw an sv dv n0 n1 n2 n3 n4 g0 gs gn gm) (@HAppend.hAppend va_W va_W va_W _ ([((xa 5), .inl (X.2.1, 3, .inl fr))]) (odW (xa 11) v_225)))) H locs := wd_sub G [0, 1, 2, 18, 3, 4, 5, 6, 7, 8, 9, 10, 11, 12, 13, 14, 15, 16, 17] rfl rfl
              refine lv_aload_n zx zb dX10_stumble_85 rfl (lv_at hl 1 rfl) ?_
              refine r_get (C := RX10) (T := TX10) (N := 14) (ci := 8) (v := .ref (xa 11)) S in_X10_stumble_X10 G 0 rfl rfl 11 (by decide) lk_X10_stumble_65 rfl dX10_stumble_86 ?_
              refine lv_aload zx zb dX10_stumble_89 (lv_at hl 0 rfl) ?_
              refine r_get (C := RX8) (T := TX8) (N := 8) (ci := 6) (v := .int (dv 11)) S in_X10_stumble_X8 G 3 rfl rfl 4 (by decide) lk_X10_stumble_137 rfl dX10_stumble_91 ?_
              refine lv_aload zx zb dX10_stumble_94 (lv_at hl 0 rfl) ?_
              refine r_get (C := RX8) (T := TX8) (N := 8) (ci := 6) (v := .int (dv 13)) S in_X10_stumble_X8 G 3 rfl rfl 6 (by decide) lk_X10_stumble_240 rfl dX10_stumble_96 ?_
              refine lv_iload_n zx zb dX10_stumble_99 rfl (lv_at hl 4 rfl) ?_
              refine o_rl (cells' := 0) (slots' := 0) G rfl rfl (n_SN (As := [.ref (xa 11), .int (dv 11), .int (dv 13), .int 4]) (rest := []) (host := "EggSpoons") S G (s_ways4 l X (xa 11) v_225 (dv 11) (dv 13) H.size) gX10_stumble_X3_ways_n243 rfl rfl rfl mm_X10_stumble_inX3 G.1.2.2.2.2.2.2.2.2.2.2.2 mm_X10_stumble_stX3_ways hdS_X3_ways ⟨Nat.le_of_ble_eq_true rfl, Nat.le_of_ble_eq_true rfl⟩ [18] rfl rfl rfl hl.1 (Nat.le_of_ble_eq_true rfl) dX10_stumble_100 ⟨Nat.le_of_ble_eq_true rfl, Nat.le_of_ble_eq_true rfl⟩) (fun r_226 u_226 H locs hp_226 G => ?_)
              have G : wd X (va_A (@HAppend.hAppend va_W va_W va_W _ (xW h0 nw sp xa la lb) (@HAppend.hAppend va_W va_W va_W _ (rcV X nw an sv dv n0 n1 n2 n3 n4 g0 gs gn gm) (@HAppend.hAppend va_W va_W va_W _ (odW (xa 11) vo) ([((xa 5), .inl (X.2.1, 3, .inl fr))])))) sz) (va_A (@HAppend.hAppend va_W va_W va_W _ (xW h0 nw sp xa la lb) (@HAppend.hAppend va_W va_W va_W _ (rcV X nw an sv dv n0 n1 n2 n3 n4 g0 gs gn gm) (@HAppend.hAppend va_W va_W va_W _ (odW (xa 11) vo) ([((xa 5), .inl (X.2.1, 3, .inl fr))])))) sz) s (@HAppend.hAppend va_W va_W va_W _ (xW h0 nw sp xa la lb) (@HAppend.hAppend va_W va_W va_W _ (rcV X nw an sv dv n0 n1 n2 n3 n4 g0 gs gn gm) (@HAppend.hAppend va_W va_W va_W _ ([((xa 5), .inl (X.2.1, 3, .inl fr))]) (odW (xa 11) v_225)))) H locs := G
              refine lv_lstore (lv' := [(6, .long r_226), (5, .ref (an 1)), (0, .ref h0), (1, .int 0), (2, .int x2), (3, .int 4), (4, .int x4)]) zx zb dX10_stumble_103 hl (by decide) rfl (fun ls hl => ?_)
              refine lv_iload_n zx zb dX10_stumble_105 rfl (lv_at hl 5 rfl) ?_
              refine o_rl (cells' := 0) (slots' := 0) G rfl rfl (n_S (As := [.int 4]) (rest := []) S G (s_tenTo l X 4 (by omega) H.size) gX10_stumble_X3_tenTo rfl rfl rfl hdS_X3_tenTo ⟨Nat.le_of_ble_eq_true rfl, Nat.le_of_ble_eq_true rfl⟩ [] rfl rfl rfl hl.1 (Nat.le_of_ble_eq_true rfl) dX10_stumble_106 ⟨Nat.le_of_ble_eq_true rfl, Nat.le_of_ble_eq_true rfl⟩) (fun r_227 u_227 H locs hp_227 G => ?_)
              have G : wd X (va_A (@HAppend.hAppend va_W va_W va_W _ (xW h0 nw sp xa la lb) (@HAppend.hAppend va_W va_W va_W _ (rcV X nw an sv dv n0 n1 n2 n3 n4 g0 gs gn gm) (@HAppend.hAppend va_W va_W va_W _ (odW (xa 11) vo) ([((xa 5), .inl (X.2.1, 3, .inl fr))])))) sz) (va_A (@HAppend.hAppend va_W va_W va_W _ (xW h0 nw sp xa la lb) (@HAppend.hAppend va_W va_W va_W _ (rcV X nw an sv dv n0 n1 n2 n3 n4 g0 gs gn gm) (@HAppend.hAppend va_W va_W va_W _ (odW (xa 11) vo) ([((xa 5), .inl (X.2.1, 3, .inl fr))])))) sz) s (@HAppend.hAppend va_W va_W va_W _ (xW h0 nw sp xa la lb) (@HAppend.hAppend va_W va_W va_W _ (rcV X nw an sv dv n0 n1 n2 n3 n4 g0 gs gn gm) (@HAppend.hAppend va_W va_W va_W _ ([((xa 5), .inl (X.2.1, 3, .inl fr))]) (odW (xa 11) v_225)))) H locs := G
              refine lv_lstore (lv' := [(8, .long r_227), (6, .long r_226), (5, .ref (an 1)), (0, .ref h0), (1, .int 0), (2, .int x2), (3, .int 4), (4, .int x4)]) zx zb dX10_stumble_109 hl (by decide) rfl (fun ls hl => ?_)
              refine lv_lload zx zb dX10_stumble_111 (lv_at hl 1 rfl) ?_
              refine lv_lload zx zb dX10_stumble_113 (lv_at hl 0 rfl) ?_
              refine o_rl (cells' := 0) (slots' := 0) G rfl rfl (n_S (As := [.long r_226, .long r_227]) (rest := []) S G (s_commonPart l X r_226 r_227 H.size) gX10_stumble_X3_commonPart rfl rfl rfl hdS_X3_commonPart ⟨Nat.le_of_ble_eq_true rfl, Nat.le_of_ble_eq_true rfl⟩ [] rfl rfl rfl hl.1 (Nat.le_of_ble_eq_true rfl) dX10_stumble_115 ⟨Nat.le_of_ble_eq_true rfl, Nat.le_of_ble_eq_true rfl⟩) (fun r_228 u_228 H locs hp_228 G => ?_)
              have G : wd X (va_A (@HAppend.hAppend va_W va_W va_W _ (xW h0 nw sp xa la lb) (@HAppend.hAppend va_W va_W va_W _ (rcV X nw an sv dv n0 n1 n2 n3 n4 g0 gs gn gm) (@HAppend.hAppend va_W va_W va_W _ (odW (xa 11) vo) ([((xa 5), .inl (X.2.1, 3, .inl fr))])))) sz) (va_A (@HAppend.hAppend va_W va_W va_W _ (xW h0 nw sp xa la lb) (@HAppend.hAppend va_W va_W va_W _ (rcV X nw an sv dv n0 n1 n2 n3 n4 g0 gs gn gm) (@HAppend.hAppend va_W va_W va_W _ (odW (xa 11) vo) ([((xa 5), .inl (X.2.1, 3, .inl fr))])))) sz) s (@HAppend.hAppend va_W va_W va_W _ (xW h0 nw sp xa la lb) (@HAppend.hAppend va_W va_W va_W _ (rcV X nw an sv dv n0 n1 n2 n3 n4 g0 gs gn gm) (@HAppend.hAppend va_W va_W va_W _ ([((xa 5), .inl (X.2.1, 3, .inl fr))]) (odW (xa 11) v_225)))) H locs := G
              refine lv_lstore (lv' := [(10, .long r_228), (8, .long r_227), (6, .long r_226), (5, .ref (an 1)), (0, .ref h0), (1, .int 0), (2, .int x2), (3, .int 4), (4, .int x4)]) zx zb dX10_stumble_118 hl (by decide) rfl (fun ls hl => ?_)
              refine lv_lload zx zb dX10_stumble_120 (lv_at hl 0 rfl) ?_
              refine lv_lconst (v := (Int32.toInt64 0)) zx zb dX10_stumble_122 (by decide) ?_
              refine W.lcmp zx zb dX10_stumble_123 ?_
              refine k_cutW (PP := fun Wx => ∀ (la_230 : Int64) (lb_231 : Int64) (H : Heap) (locs : List Loc) (ls : Array Slot), wd X (va_A (@HAppend.hAppend va_W va_W va_W _ (xW h0 nw sp xa la lb) (@HAppend.hAppend va_W va_W va_W _ (rcV X nw an sv dv n0 n1 n2 n3 n4 g0 gs gn gm) (@HAppend.hAppend va_W va_W va_W _ (odW (xa 11) vo) ([((xa 5), .inl (X.2.1, 3, .inl fr))])))) sz) (va_A (@HAppend.hAppend va_W va_W va_W _ (xW h0 nw sp xa la lb) (@HAppend.hAppend va_W va_W va_W _ (rcV X nw an sv dv n0 n1 n2 n3 n4 g0 gs gn gm) (@HAppend.hAppend va_W va_W va_W _ (odW (xa 11) vo) ([((xa 5), .inl (X.2.1, 3, .inl fr))])))) sz) s (@HAppend.hAppend va_W va_W va_W _ (xW h0 nw sp xa la_230 lb_231) (@HAppend.hAppend va_W va_W va_W _ (rcV X nw an sv dv n0 n1 n2 n3 n4 g0 gs gn gm) (@HAppend.hAppend va_W va_W va_W _ ([((xa 5), .inl (X.2.1, 3, .inl fr))]) (odW (xa 11) v_225)))) H locs → lv_has ls 12 [(10, .long r_228), (8, .long r_227), (6, .long r_226), (5, .ref (an 1)), (0, .ref h0), (1, .int 0), (2, .int x2), (3, .int 4), (4, .int x4)] → Wx (F0 m 145 ls []) H locs) ?_ ?_
              · intro join_124
                refine lv_if_le (tgt := 145) zx zb dX10_stumble_124 (by decide) (fun c_229 => ?_) (fun c_229 => ?_)
                · exact join_124 la lb _ _ _  G hl
                · refine lv_aload_n zx zb dX10_stumble_127 rfl (lv_at hl 4 rfl) ?_
                  refine lv_lload zx zb dX10_stumble_128 (lv_at hl 2 rfl) ?_
                  refine lv_lload zx zb dX10_stumble_130 (lv_at hl 0 rfl) ?_
                  refine lv_ldiv zx zb dX10_stumble_132 (k_lnz2 c_229) ?_
                  refine k_ldE (fun y_232 => ?_)
                  refine r_put (C := RX10) (T := TX10) (N := 14) (ci := 8) (v := .long y_232) S in_X10_stumble_X10 tyX10_ok nmX10 G 0 rfl rfl 6 (by decide) lk_X10_stumble_38 rfl rfl rfl (Nat.le_of_ble_eq_true rfl) dX10_stumble_133 (fun H locs G => ?_)
                  have G : wd X (va_A (@HAppend.hAppend va_W va_W va_W _ (xW h0 nw sp xa la lb) (@HAppend.hAppend va_W va_W va_W _ (rcV X nw an sv dv n0 n1 n2 n3 n4 g0 gs gn gm) (@HAppend.hAppend va_W va_W va_W _ (odW (xa 11) vo) ([((xa 5), .inl (X.2.1, 3, .inl fr))])))) sz) (va_A (@HAppend.hAppend va_W va_W va_W _ (xW h0 nw sp xa la lb) (@HAppend.hAppend va_W va_W va_W _ (rcV X nw an sv dv n0 n1 n2 n3 n4 g0 gs gn gm) (@HAppend.hAppend va_W va_W va_W _ (odW (xa 11) vo) ([((xa 5), .inl (X.2.1, 3, .inl fr))])))) sz) s (@HAppend.hAppend va_W va_W va_W _ (xW h0 nw sp xa y_232 lb) (@HAppend.hAppend va_W va_W va_W _ (rcV X nw an sv dv n0 n1 n2 n3 n4 g0 gs gn gm) (@HAppend.hAppend va_W va_W va_W _ ([((xa 5), .inl (X.2.1, 3, .inl fr))]) (odW (xa 11) v_225)))) H locs := G
                  refine lv_aload_n zx zb dX10_stumble_136 rfl (lv_at hl 4 rfl) ?_
                  refine lv_lload zx zb dX10_stumble_137 (lv_at hl 1 rfl) ?_
                  refine lv_lload zx zb dX10_stumble_139 (lv_at hl 0 rfl) ?_
                  refine lv_ldiv zx zb dX10_stumble_141 (k_lnz2 c_229) ?_
                  refine k_ldE (fun y_233 => ?_)
                  refine r_put (C := RX10) (T := TX10) (N := 14) (ci := 8) (v := .long y_233) S in_X10_stumble_X10 tyX10_ok nmX10 G 0 rfl rfl 7 (by decide) lk_X10_stumble_42 rfl rfl rfl (Nat.le_of_ble_eq_true rfl) dX10_stumble_142 (fun H locs G => ?_)
                  have G : wd X (va_A (@HAppend.hAppend va_W va_W va_W _ (xW h0 nw sp xa la lb) (@HAppend.hAppend va_W va_W va_W _ (rcV X nw an sv dv n0 n1 n2 n3 n4 g0 gs gn gm) (@HAppend.hAppend va_W va_W va_W _ (odW (xa 11) vo) ([((xa 5), .inl (X.2.1, 3, .inl fr))])))) sz) (va_A (@HAppend.hAppend va_W va_W va_W _ (xW h0 nw sp xa la lb) (@HAppend.hAppend va_W va_W va_W _ (rcV X nw an sv dv n0 n1 n2 n3 n4 g0 gs gn gm) (@HAppend.hAppend va_W va_W va_W _ (odW (xa 11) vo) ([((xa 5), .inl (X.2.1, 3, .inl fr))])))) sz) s (@HAppend.hAppend va_W va_W va_W _ (xW h0 nw sp xa y_232 y_233) (@HAppend.hAppend va_W va_W va_W _ (rcV X nw an sv dv n0 n1 n2 n3 n4 g0 gs gn gm) (@HAppend.hAppend va_W va_W va_W _ ([((xa 5), .inl (X.2.1, 3, .inl fr))]) (odW (xa 11) v_225)))) H locs := G
                  exact join_124 y_232 y_233 _ _ _  G hl
              · intro la_230 lb_231 H locs ls  G hl
                refine lv_iconst (v := 1) zx zb dX10_stumble_145 (by decide) ?_
                exact e_int S zr zlk (vp_nar_int _) G (la_230, lb_231, v_225, fr) [0, 1, 2, 3, 4, 5, 6, 7, 8, 9, 10, 11, 12, 13, 14, 15, 16, 18, 17] rfl rfl (Or.inr rfl) ((stuF_p ⟨⟨_, hj_1, rfl⟩, hw_3, hw_5, hw_7⟩).symm) dX10_stumble_146
            · refine k_it (v := 1) rfl ?_
              refine r_aald (C := RX8) (b := (an 2)) S G 2 3 rfl rfl (k_vp (by decide)) rfl dX10_stumble_54 ?_
              refine lv_astore (lv' := [(5, .ref (an 2)), (0, .ref h0), (1, .int 1), (2, .int x2), (3, .int 4), (4, .int x4)]) zx zb dX10_stumble_55 hl (by decide) rfl (fun ls hl => ?_)
              refine lv_aload_n zx zb dX10_stumble_57 rfl (lv_at hl 1 rfl) ?_
              refine r_get (C := RX10) (T := TX10) (N := 14) (ci := 8) (v := .ref (xa 11)) S in_X10_stumble_X10 G 0 rfl rfl 11 (by decide) lk_X10_stumble_65 rfl dX10_stumble_58 ?_
              refine lv_aload zx zb dX10_stumble_61 (lv_at hl 0 rfl) ?_
              refine lv_aload_n zx zb dX10_stumble_63 rfl (lv_at hl 1 rfl) ?_
              refine r_get (C := RX10) (T := TX10) (N := 14) (ci := 8) (v := .ref nw) S in_X10_stumble_X10 G 0 rfl rfl 0 (by decide) lk_X10_stumble_10 rfl dX10_stumble_64 ?_
              refine r_get (C := RX5) (T := TX5) (N := 8) (ci := 3) (v := .int (dv 0)) S in_X10_stumble_X5 G 1 rfl rfl 0 (by decide) lk_X10_stumble_140 rfl dX10_stumble_67 ?_
              refine lv_aload_n zx zb dX10_stumble_70 rfl (lv_at hl 1 rfl) ?_
              refine r_get (C := RX10) (T := TX10) (N := 14) (ci := 8) (v := .ref nw) S in_X10_stumble_X10 G 0 rfl rfl 0 (by decide) lk_X10_stumble_10 rfl dX10_stumble_71 ?_
              refine r_get (C := RX5) (T := TX5) (N := 8) (ci := 3) (v := .int (dv 1)) S in_X10_stumble_X5 G 1 rfl rfl 1 (by decide) lk_X10_stumble_110 rfl dX10_stumble_74 ?_
              refine lv_iload_n zx zb dX10_stumble_77 rfl (lv_at hl 4 rfl) ?_
              refine r_iadd (v := ((dv 1) + 4)) S rfl dX10_stumble_78 ?_
              refine lv_iload_n zx zb dX10_stumble_79 rfl (lv_at hl 3 rfl) ?_
              refine lv_iload zx zb dX10_stumble_80 (lv_at hl 5 rfl) ?_
              refine b_wv (cells' := 0) (slots' := 0) (wr := @HAppend.hAppend va_W va_W va_W _ (xW h0 nw sp xa la lb) (@HAppend.hAppend va_W va_W va_W _ ([(nw, .inr (3, [.int (dv 0), .int (dv 1), .int (nI n0), .ref (an 0), .ref (an 7), .ref (an 9), .ref (an 11), .ref (an 13)])), ((an 0), .inl (X.2.2.2.2, 6, .inr (.inr (.inr (.inr (rowQ an)))))), ((an 1), .inr (6, [.int (sv 0), .int (sv 1), .int (sv 2), .int (dv 10), .int (dv 11), .int (dv 12), .int (dv 13), .int (dv 14)])), ((an 3), .inr (6, [.int (sv 6), .int (sv 7), .int (sv 8), .int (dv 20), .int (dv 21), .int (dv 22), .int (dv 23), .int (dv 24)])), ((an 4), .inr (6, [.int (sv 9), .int (sv 10), .int (sv 11), .int (dv 25), .int (dv 26), .int (dv 27), .int (dv 28), .int (dv 29)])), ((an 5), .inr (6, [.int (sv 12), .int (sv 13), .int (sv 14), .int (dv 30), .int (dv 31), .int (dv 32), .int (dv 33), .int (dv 34)])), ((an 6), .inr (6, [.int (sv 15), .int (sv 16), .int (sv 17), .int (dv 35), .int (dv 36), .int (dv 37), .int (dv 38), .int (dv 39)])), ((an 7), .inr (2, [.ref (an 8), .int (nI n1)])), ((an 8), .inl (X.2.1, 248, .inl g0)), ((an 9), .inr (5, [.int 5, .int 0, .int 1, .ref (an 10), .int (nI n2)])), ((an 10), .inl (X.2.1, 25, .inl gs)), ((an 11), .inr (5, [.int 6, .int 1, .int 1, .ref (an 12), .int (nI n3)])), ((an 12), .inl (X.2.1, 30, .inl gn)), ((an 13), .inr (5, [.int 6, .int 0, .int 0, .ref (an 14), .int (nI n4)])), ((an 14), .inl (X.2.1, 30, .inl gm))]) ([((xa 5), .inl (X.2.1, 3, .inl fr))]))) G rfl rfl [17, 4] [0, 1, 2, 3, 5, 6, 7, 8, 9, 10, 11, 12, 13, 14, 15, 16, 18] rfl rfl rfl rfl (n_V (As := [.ref (an 2), .int (dv 0), .int ((dv 1) + 4), .int x2, .int x4]) (rest := []) (C := RX3) (T := TX3) (N := 8) (ci := 1) S G (s_pose l X (xa 11) vo (an 2) (fun k => sv (3 + k)) (fun k => dv (15 + k)) (dv 0) ((dv 1) + 4) x2 x4 H.size) gX10_stumble_X3_pose rfl rfl rfl hdV_X3_pose ⟨Nat.le_of_ble_eq_true rfl, Nat.le_of_ble_eq_true rfl⟩ [17, 4] rfl rfl 17 rfl rfl rfl hl.1 (Nat.le_of_ble_eq_true rfl) dX10_stumble_82 ⟨Nat.le_of_ble_eq_true rfl, Nat.le_of_ble_eq_true rfl⟩) (fun u_234 H locs hp_234 G => ?_)
              obtain ⟨v_234, rfl⟩ : ∃ z, z = u_234 := ⟨_, rfl⟩
              have hq_234 := hp_234
              have G : wd X (va_A (@HAppend.hAppend va_W va_W va_W _ (xW h0 nw sp xa la lb) (@HAppend.hAppend va_W va_W va_W _ (rcV X nw an sv dv n0 n1 n2 n3 n4 g0 gs gn gm) (@HAppend.hAppend va_W va_W va_W _ (odW (xa 11) vo) ([((xa 5), .inl (X.2.1, 3, .inl fr))])))) sz) (va_A (@HAppend.hAppend va_W va_W va_W _ (xW h0 nw sp xa la lb) (@HAppend.hAppend va_W va_W va_W _ (rcV X nw an sv dv n0 n1 n2 n3 n4 g0 gs gn gm) (@HAppend.hAppend va_W va_W va_W _ (odW (xa 11) vo) ([((xa 5), .inl (X.2.1, 3, .inl fr))])))) sz) s (@HAppend.hAppend va_W va_W va_W _ (xW h0 nw sp xa la lb) (@HAppend.hAppend va_W va_W va_W _ (rcV X nw an sv dv n0 n1 n2 n3 n4 g0 gs gn gm) (@HAppend.hAppend va_W va_W va_W _ ([((xa 5), .inl (X.2.1, 3, .inl fr))]) (odW (xa 11) v_234)))) H locs := wd_sub G [0, 1, 2, 3, 18, 4, 5, 6, 7, 8, 9, 10, 11, 12, 13, 14, 15, 16, 17] rfl rfl
              refine lv_aload_n zx zb dX10_stumble_85 rfl (lv_at hl 1 rfl) ?_
              refine r_get (C := RX10) (T := TX10) (N := 14) (ci := 8) (v := .ref (xa 11)) S in_X10_stumble_X10 G 0 rfl rfl 11 (by decide) lk_X10_stumble_65 rfl dX10_stumble_86 ?_
              refine lv_aload zx zb dX10_stumble_89 (lv_at hl 0 rfl) ?_
              refine r_get (C := RX8) (T := TX8) (N := 8) (ci := 6) (v := .int (dv 16)) S in_X10_stumble_X8 G 4 rfl rfl 4 (by decide) lk_X10_stumble_137 rfl dX10_stumble_91 ?_
              refine lv_aload zx zb dX10_stumble_94 (lv_at hl 0 rfl) ?_
              refine r_get (C := RX8) (T := TX8) (N := 8) (ci := 6) (v := .int (dv 18)) S in_X10_stumble_X8 G 4 rfl rfl 6 (by decide) lk_X10_stumble_240 rfl dX10_stumble_96 ?_
              refine lv_iload_n zx zb dX10_stumble_99 rfl (lv_at hl 4 rfl) ?_
              refine o_rl (cells' := 0) (slots' := 0) G rfl rfl (n_SN (As := [.ref (xa 11), .int (dv 16), .int (dv 18), .int 4]) (rest := []) (host := "EggSpoons") S G (s_ways4 l X (xa 11) v_234 (dv 16) (dv 18) H.size) gX10_stumble_X3_ways_n243 rfl rfl rfl mm_X10_stumble_inX3 G.1.2.2.2.2.2.2.2.2.2.2.2 mm_X10_stumble_stX3_ways hdS_X3_ways ⟨Nat.le_of_ble_eq_true rfl, Nat.le_of_ble_eq_true rfl⟩ [18] rfl rfl rfl hl.1 (Nat.le_of_ble_eq_true rfl) dX10_stumble_100 ⟨Nat.le_of_ble_eq_true rfl, Nat.le_of_ble_eq_true rfl⟩) (fun r_235 u_235 H locs hp_235 G => ?_)
              have G : wd X (va_A (@HAppend.hAppend va_W va_W va_W _ (xW h0 nw sp xa la lb) (@HAppend.hAppend va_W va_W va_W _ (rcV X nw an sv dv n0 n1 n2 n3 n4 g0 gs gn gm) (@HAppend.hAppend va_W va_W va_W _ (odW (xa 11) vo) ([((xa 5), .inl (X.2.1, 3, .inl fr))])))) sz) (va_A (@HAppend.hAppend va_W va_W va_W _ (xW h0 nw sp xa la lb) (@HAppend.hAppend va_W va_W va_W _ (rcV X nw an sv dv n0 n1 n2 n3 n4 g0 gs gn gm) (@HAppend.hAppend va_W va_W va_W _ (odW (xa 11) vo) ([((xa 5), .inl (X.2.1, 3, .inl fr))])))) sz) s (@HAppend.hAppend va_W va_W va_W _ (xW h0 nw sp xa la lb) (@HAppend.hAppend va_W va_W va_W _ (rcV X nw an sv dv n0 n1 n2 n3 n4 g0 gs gn gm) (@HAppend.hAppend va_W va_W va_W _ ([((xa 5), .inl (X.2.1, 3, .inl fr))]) (odW (xa 11) v_234)))) H locs := G
              refine lv_lstore (lv' := [(6, .long r_235), (5, .ref (an 2)), (0, .ref h0), (1, .int 1), (2, .int x2), (3, .int 4), (4, .int x4)]) zx zb dX10_stumble_103 hl (by decide) rfl (fun ls hl => ?_)
              refine lv_iload_n zx zb dX10_stumble_105 rfl (lv_at hl 5 rfl) ?_
              refine o_rl (cells' := 0) (slots' := 0) G rfl rfl (n_S (As := [.int 4]) (rest := []) S G (s_tenTo l X 4 (by omega) H.size) gX10_stumble_X3_tenTo rfl rfl rfl hdS_X3_tenTo ⟨Nat.le_of_ble_eq_true rfl, Nat.le_of_ble_eq_true rfl⟩ [] rfl rfl rfl hl.1 (Nat.le_of_ble_eq_true rfl) dX10_stumble_106 ⟨Nat.le_of_ble_eq_true rfl, Nat.le_of_ble_eq_true rfl⟩) (fun r_236 u_236 H locs hp_236 G => ?_)
              have G : wd X (va_A (@HAppend.hAppend va_W va_W va_W _ (xW h0 nw sp xa la lb) (@HAppend.hAppend va_W va_W va_W _ (rcV X nw an sv dv n0 n1 n2 n3 n4 g0 gs gn gm) (@HAppend.hAppend va_W va_W va_W _ (odW (xa 11) vo) ([((xa 5), .inl (X.2.1, 3, .inl fr))])))) sz) (va_A (@HAppend.hAppend va_W va_W va_W _ (xW h0 nw sp xa la lb) (@HAppend.hAppend va_W va_W va_W _ (rcV X nw an sv dv n0 n1 n2 n3 n4 g0 gs gn gm) (@HAppend.hAppend va_W va_W va_W _ (odW (xa 11) vo) ([((xa 5), .inl (X.2.1, 3, .inl fr))])))) sz) s (@HAppend.hAppend va_W va_W va_W _ (xW h0 nw sp xa la lb) (@HAppend.hAppend va_W va_W va_W _ (rcV X nw an sv dv n0 n1 n2 n3 n4 g0 gs gn gm) (@HAppend.hAppend va_W va_W va_W _ ([((xa 5), .inl (X.2.1, 3, .inl fr))]) (odW (xa 11) v_234)))) H locs := G
              refine lv_lstore (lv' := [(8, .long r_236), (6, .long r_235), (5, .ref (an 2)), (0, .ref h0), (1, .int 1), (2, .int x2), (3, .int 4), (4, .int x4)]) zx zb dX10_stumble_109 hl (by decide) rfl (fun ls hl => ?_)
              refine lv_lload zx zb dX10_stumble_111 (lv_at hl 1 rfl) ?_
              refine lv_lload zx zb dX10_stumble_113 (lv_at hl 0 rfl) ?_
              refine o_rl (cells' := 0) (slots' := 0) G rfl rfl (n_S (As := [.long r_235, .long r_236]) (rest := []) S G (s_commonPart l X r_235 r_236 H.size) gX10_stumble_X3_commonPart rfl rfl rfl hdS_X3_commonPart ⟨Nat.le_of_ble_eq_true rfl, Nat.le_of_ble_eq_true rfl⟩ [] rfl rfl rfl hl.1 (Nat.le_of_ble_eq_true rfl) dX10_stumble_115 ⟨Nat.le_of_ble_eq_true rfl, Nat.le_of_ble_eq_true rfl⟩) (fun r_237 u_237 H locs hp_237 G => ?_)
              have G : wd X (va_A (@HAppend.hAppend va_W va_W va_W _ (xW h0 nw sp xa la lb) (@HAppend.hAppend va_W va_W va_W _ (rcV X nw an sv dv n0 n1 n2 n3 n4 g0 gs gn gm) (@HAppend.hAppend va_W va_W va_W _ (odW (xa 11) vo) ([((xa 5), .inl (X.2.1, 3, .inl fr))])))) sz) (va_A (@HAppend.hAppend va_W va_W va_W _ (xW h0 nw sp xa la lb) (@HAppend.hAppend va_W va_W va_W _ (rcV X nw an sv dv n0 n1 n2 n3 n4 g0 gs gn gm) (@HAppend.hAppend va_W va_W va_W _ (odW (xa 11) vo) ([((xa 5), .inl (X.2.1, 3, .inl fr))])))) sz) s (@HAppend.hAppend va_W va_W va_W _ (xW h0 nw sp xa la lb) (@HAppend.hAppend va_W va_W va_W _ (rcV X nw an sv dv n0 n1 n2 n3 n4 g0 gs gn gm) (@HAppend.hAppend va_W va_W va_W _ ([((xa 5), .inl (X.2.1, 3, .inl fr))]) (odW (xa 11) v_234)))) H locs := G
              refine lv_lstore (lv' := [(10, .long r_237), (8, .long r_236), (6, .long r_235), (5, .ref (an 2)), (0, .ref h0), (1, .int 1), (2, .int x2), (3, .int 4), (4, .int x4)]) zx zb dX10_stumble_118 hl (by decide) rfl (fun ls hl => ?_)
              refine lv_lload zx zb dX10_stumble_120 (lv_at hl 0 rfl) ?_
              refine lv_lconst (v := (Int32.toInt64 0)) zx zb dX10_stumble_122 (by decide) ?_
              refine W.lcmp zx zb dX10_stumble_123 ?_
              refine k_cutW (PP := fun Wx => ∀ (la_239 : Int64) (lb_240 : Int64) (H : Heap) (locs : List Loc) (ls : Array Slot), wd X (va_A (@HAppend.hAppend va_W va_W va_W _ (xW h0 nw sp xa la lb) (@HAppend.hAppend va_W va_W va_W _ (rcV X nw an sv dv n0 n1 n2 n3 n4 g0 gs gn gm) (@HAppend.hAppend va_W va_W va_W _ (odW (xa 11) vo) ([((xa 5), .inl (X.2.1, 3, .inl fr))])))) sz) (va_A (@HAppend.hAppend va_W va_W va_W _ (xW h0 nw sp xa la lb) (@HAppend.hAppend va_W va_W va_W _ (rcV X nw an sv dv n0 n1 n2 n3 n4 g0 gs gn gm) (@HAppend.hAppend va_W va_W va_W _ (odW (xa 11) vo) ([((xa 5), .inl (X.2.1, 3, .inl fr))])))) sz) s (@HAppend.hAppend va_W va_W va_W _ (xW h0 nw sp xa la_239 lb_240) (@HAppend.hAppend va_W va_W va_W _ (rcV X nw an sv dv n0 n1 n2 n3 n4 g0 gs gn gm) (@HAppend.hAppend va_W va_W va_W _ ([((xa 5), .inl (X.2.1, 3, .inl fr))]) (odW (xa 11) v_234)))) H locs → lv_has ls 12 [(10, .long r_237), (8, .long r_236), (6, .long r_235), (5, .ref (an 2)), (0, .ref h0), (1, .int 1), (2, .int x2), (3, .int 4), (4, .int x4)] → Wx (F0 m 145 ls []) H locs) ?_ ?_
              · intro join_124
                refine lv_if_le (tgt := 145) zx zb dX10_stumble_124 (by decide) (fun c_238 => ?_) (fun c_238 => ?_)
                · exact join_124 la lb _ _ _  G hl
                · refine lv_aload_n zx zb dX10_stumble_127 rfl (lv_at hl 4 rfl) ?_
                  refine lv_lload zx zb dX10_stumble_128 (lv_at hl 2 rfl) ?_
                  refine lv_lload zx zb dX10_stumble_130 (lv_at hl 0 rfl) ?_
                  refine lv_ldiv zx zb dX10_stumble_132 (k_lnz2 c_238) ?_
                  refine k_ldE (fun y_241 => ?_)
                  refine r_put (C := RX10) (T := TX10) (N := 14) (ci := 8) (v := .long y_241) S in_X10_stumble_X10 tyX10_ok nmX10 G 0 rfl rfl 6 (by decide) lk_X10_stumble_38 rfl rfl rfl (Nat.le_of_ble_eq_true rfl) dX10_stumble_133 (fun H locs G => ?_)
                  have G : wd X (va_A (@HAppend.hAppend va_W va_W va_W _ (xW h0 nw sp xa la lb) (@HAppend.hAppend va_W va_W va_W _ (rcV X nw an sv dv n0 n1 n2 n3 n4 g0 gs gn gm) (@HAppend.hAppend va_W va_W va_W _ (odW (xa 11) vo) ([((xa 5), .inl (X.2.1, 3, .inl fr))])))) sz) (va_A (@HAppend.hAppend va_W va_W va_W _ (xW h0 nw sp xa la lb) (@HAppend.hAppend va_W va_W va_W _ (rcV X nw an sv dv n0 n1 n2 n3 n4 g0 gs gn gm) (@HAppend.hAppend va_W va_W va_W _ (odW (xa 11) vo) ([((xa 5), .inl (X.2.1, 3, .inl fr))])))) sz) s (@HAppend.hAppend va_W va_W va_W _ (xW h0 nw sp xa y_241 lb) (@HAppend.hAppend va_W va_W va_W _ (rcV X nw an sv dv n0 n1 n2 n3 n4 g0 gs gn gm) (@HAppend.hAppend va_W va_W va_W _ ([((xa 5), .inl (X.2.1, 3, .inl fr))]) (odW (xa 11) v_234)))) H locs := G
                  refine lv_aload_n zx zb dX10_stumble_136 rfl (lv_at hl 4 rfl) ?_
                  refine lv_lload zx zb dX10_stumble_137 (lv_at hl 1 rfl) ?_
                  refine lv_lload zx zb dX10_stumble_139 (lv_at hl 0 rfl) ?_
                  refine lv_ldiv zx zb dX10_stumble_141 (k_lnz2 c_238) ?_
                  refine k_ldE (fun y_242 => ?_)
                  refine r_put (C := RX10) (T := TX10) (N := 14) (ci := 8) (v := .long y_242) S in_X10_stumble_X10 tyX10_ok nmX10 G 0 rfl rfl 7 (by decide) lk_X10_stumble_42 rfl rfl rfl (Nat.le_of_ble_eq_true rfl) dX10_stumble_142 (fun H locs G => ?_)
                  have G : wd X (va_A (@HAppend.hAppend va_W va_W va_W _ (xW h0 nw sp xa la lb) (@HAppend.hAppend va_W va_W va_W _ (rcV X nw an sv dv n0 n1 n2 n3 n4 g0 gs gn gm) (@HAppend.hAppend va_W va_W va_W _ (odW (xa 11) vo) ([((xa 5), .inl (X.2.1, 3, .inl fr))])))) sz) (va_A (@HAppend.hAppend va_W va_W va_W _ (xW h0 nw sp xa la lb) (@HAppend.hAppend va_W va_W va_W _ (rcV X nw an sv dv n0 n1 n2 n3 n4 g0 gs gn gm) (@HAppend.hAppend va_W va_W va_W _ (odW (xa 11) vo) ([((xa 5), .inl (X.2.1, 3, .inl fr))])))) sz) s (@HAppend.hAppend va_W va_W va_W _ (xW h0 nw sp xa y_241 y_242) (@HAppend.hAppend va_W va_W va_W _ (rcV X nw an sv dv n0 n1 n2 n3 n4 g0 gs gn gm) (@HAppend.hAppend va_W va_W va_W _ ([((xa 5), .inl (X.2.1, 3, .inl fr))]) (odW (xa 11) v_234)))) H locs := G
                  exact join_124 y_241 y_242 _ _ _  G hl
              · intro la_239 lb_240 H locs ls  G hl
                refine lv_iconst (v := 1) zx zb dX10_stumble_145 (by decide) ?_
                exact e_int S zr zlk (vp_nar_int _) G (la_239, lb_240, v_234, fr) [0, 1, 2, 3, 4, 5, 6, 7, 8, 9, 10, 11, 12, 13, 14, 15, 16, 18, 17] rfl rfl (Or.inr rfl) ((stuF_p ⟨⟨_, hj_1, rfl⟩, hw_3, hw_5, hw_7⟩).symm) dX10_stumble_146
            · refine k_it (v := 2) rfl ?_
              refine r_aald (C := RX8) (b := (an 3)) S G 2 3 rfl rfl (k_vp (by decide)) rfl dX10_stumble_54 ?_
              refine lv_astore (lv' := [(5, .ref (an 3)), (0, .ref h0), (1, .int 2), (2, .int x2), (3, .int 4), (4, .int x4)]) zx zb dX10_stumble_55 hl (by decide) rfl (fun ls hl => ?_)
              refine lv_aload_n zx zb dX10_stumble_57 rfl (lv_at hl 1 rfl) ?_
              refine r_get (C := RX10) (T := TX10) (N := 14) (ci := 8) (v := .ref (xa 11)) S in_X10_stumble_X10 G 0 rfl rfl 11 (by decide) lk_X10_stumble_65 rfl dX10_stumble_58 ?_
              refine lv_aload zx zb dX10_stumble_61 (lv_at hl 0 rfl) ?_
              refine lv_aload_n zx zb dX10_stumble_63 rfl (lv_at hl 1 rfl) ?_
              refine r_get (C := RX10) (T := TX10) (N := 14) (ci := 8) (v := .ref nw) S in_X10_stumble_X10 G 0 rfl rfl 0 (by decide) lk_X10_stumble_10 rfl dX10_stumble_64 ?_
              refine r_get (C := RX5) (T := TX5) (N := 8) (ci := 3) (v := .int (dv 0)) S in_X10_stumble_X5 G 1 rfl rfl 0 (by decide) lk_X10_stumble_140 rfl dX10_stumble_67 ?_
              refine lv_aload_n zx zb dX10_stumble_70 rfl (lv_at hl 1 rfl) ?_
              refine r_get (C := RX10) (T := TX10) (N := 14) (ci := 8) (v := .ref nw) S in_X10_stumble_X10 G 0 rfl rfl 0 (by decide) lk_X10_stumble_10 rfl dX10_stumble_71 ?_
              refine r_get (C := RX5) (T := TX5) (N := 8) (ci := 3) (v := .int (dv 1)) S in_X10_stumble_X5 G 1 rfl rfl 1 (by decide) lk_X10_stumble_110 rfl dX10_stumble_74 ?_
              refine lv_iload_n zx zb dX10_stumble_77 rfl (lv_at hl 4 rfl) ?_
              refine r_iadd (v := ((dv 1) + 4)) S rfl dX10_stumble_78 ?_
              refine lv_iload_n zx zb dX10_stumble_79 rfl (lv_at hl 3 rfl) ?_
              refine lv_iload zx zb dX10_stumble_80 (lv_at hl 5 rfl) ?_
              refine b_wv (cells' := 0) (slots' := 0) (wr := @HAppend.hAppend va_W va_W va_W _ (xW h0 nw sp xa la lb) (@HAppend.hAppend va_W va_W va_W _ ([(nw, .inr (3, [.int (dv 0), .int (dv 1), .int (nI n0), .ref (an 0), .ref (an 7), .ref (an 9), .ref (an 11), .ref (an 13)])), ((an 0), .inl (X.2.2.2.2, 6, .inr (.inr (.inr (.inr (rowQ an)))))), ((an 1), .inr (6, [.int (sv 0), .int (sv 1), .int (sv 2), .int (dv 10), .int (dv 11), .int (dv 12), .int (dv 13), .int (dv 14)])), ((an 2), .inr (6, [.int (sv 3), .int (sv 4), .int (sv 5), .int (dv 15), .int (dv 16), .int (dv 17), .int (dv 18), .int (dv 19)])), ((an 4), .inr (6, [.int (sv 9), .int (sv 10), .int (sv 11), .int (dv 25), .int (dv 26), .int (dv 27), .int (dv 28), .int (dv 29)])), ((an 5), .inr (6, [.int (sv 12), .int (sv 13), .int (sv 14), .int (dv 30), .int (dv 31), .int (dv 32), .int (dv 33), .int (dv 34)])), ((an 6), .inr (6, [.int (sv 15), .int (sv 16), .int (sv 17), .int (dv 35), .int (dv 36), .int (dv 37), .int (dv 38), .int (dv 39)])), ((an 7), .inr (2, [.ref (an 8), .int (nI n1)])), ((an 8), .inl (X.2.1, 248, .inl g0)), ((an 9), .inr (5, [.int 5, .int 0, .int 1, .ref (an 10), .int (nI n2)])), ((an 10), .inl (X.2.1, 25, .inl gs)), ((an 11), .inr (5, [.int 6, .int 1, .int 1, .ref (an 12), .int (nI n3)])), ((an 12), .inl (X.2.1, 30, .inl gn)), ((an 13), .inr (5, [.int 6, .int 0, .int 0, .ref (an 14), .int (nI n4)])), ((an 14), .inl (X.2.1, 30, .inl gm))]) ([((xa 5), .inl (X.2.1, 3, .inl fr))]))) G rfl rfl [17, 5] [0, 1, 2, 3, 4, 6, 7, 8, 9, 10, 11, 12, 13, 14, 15, 16, 18] rfl rfl rfl rfl (n_V (As := [.ref (an 3), .int (dv 0), .int ((dv 1) + 4), .int x2, .int x4]) (rest := []) (C := RX3) (T := TX3) (N := 8) (ci := 1) S G (s_pose l X (xa 11) vo (an 3) (fun k => sv (6 + k)) (fun k => dv (20 + k)) (dv 0) ((dv 1) + 4) x2 x4 H.size) gX10_stumble_X3_pose rfl rfl rfl hdV_X3_pose ⟨Nat.le_of_ble_eq_true rfl, Nat.le_of_ble_eq_true rfl⟩ [17, 5] rfl rfl 17 rfl rfl rfl hl.1 (Nat.le_of_ble_eq_true rfl) dX10_stumble_82 ⟨Nat.le_of_ble_eq_true rfl, Nat.le_of_ble_eq_true rfl⟩) (fun u_243 H locs hp_243 G => ?_)
              obtain ⟨v_243, rfl⟩ : ∃ z, z = u_243 := ⟨_, rfl⟩
              have hq_243 := hp_243
              have G : wd X (va_A (@HAppend.hAppend va_W va_W va_W _ (xW h0 nw sp xa la lb) (@HAppend.hAppend va_W va_W va_W _ (rcV X nw an sv dv n0 n1 n2 n3 n4 g0 gs gn gm) (@HAppend.hAppend va_W va_W va_W _ (odW (xa 11) vo) ([((xa 5), .inl (X.2.1, 3, .inl fr))])))) sz) (va_A (@HAppend.hAppend va_W va_W va_W _ (xW h0 nw sp xa la lb) (@HAppend.hAppend va_W va_W va_W _ (rcV X nw an sv dv n0 n1 n2 n3 n4 g0 gs gn gm) (@HAppend.hAppend va_W va_W va_W _ (odW (xa 11) vo) ([((xa 5), .inl (X.2.1, 3, .inl fr))])))) sz) s (@HAppend.hAppend va_W va_W va_W _ (xW h0 nw sp xa la lb) (@HAppend.hAppend va_W va_W va_W _ (rcV X nw an sv dv n0 n1 n2 n3 n4 g0 gs gn gm) (@HAppend.hAppend va_W va_W va_W _ ([((xa 5), .inl (X.2.1, 3, .inl fr))]) (odW (xa 11) v_243)))) H locs := wd_sub G [0, 1, 2, 3, 4, 18, 5, 6, 7, 8, 9, 10, 11, 12, 13, 14, 15, 16, 17] rfl rfl
              refine lv_aload_n zx zb dX10_stumble_85 rfl (lv_at hl 1 rfl) ?_
              refine r_get (C := RX10) (T := TX10) (N := 14) (ci := 8) (v := .ref (xa 11)) S in_X10_stumble_X10 G 0 rfl rfl 11 (by decide) lk_X10_stumble_65 rfl dX10_stumble_86 ?_
              refine lv_aload zx zb dX10_stumble_89 (lv_at hl 0 rfl) ?_
              refine r_get (C := RX8) (T := TX8) (N := 8) (ci := 6) (v := .int (dv 21)) S in_X10_stumble_X8 G 5 rfl rfl 4 (by decide) lk_X10_stumble_137 rfl dX10_stumble_91 ?_
              refine lv_aload zx zb dX10_stumble_94 (lv_at hl 0 rfl) ?_
              refine r_get (C := RX8) (T := TX8) (N := 8) (ci := 6) (v := .int (dv 23)) S in_X10_stumble_X8 G 5 rfl rfl 6 (by decide) lk_X10_stumble_240 rfl dX10_stumble_96 ?_
              refine lv_iload_n zx zb dX10_stumble_99 rfl (lv_at hl 4 rfl) ?_
              refine o_rl (cells' := 0) (slots' := 0) G rfl rfl (n_SN (As := [.ref (xa 11), .int (dv 21), .int (dv 23), .int 4]) (rest := []) (host := "EggSpoons") S G (s_ways4 l X (xa 11) v_243 (dv 21) (dv 23) H.size) gX10_stumble_X3_ways_n243 rfl rfl rfl mm_X10_stumble_inX3 G.1.2.2.2.2.2.2.2.2.2.2.2 mm_X10_stumble_stX3_ways hdS_X3_ways ⟨Nat.le_of_ble_eq_true rfl, Nat.le_of_ble_eq_true rfl⟩ [18] rfl rfl rfl hl.1 (Nat.le_of_ble_eq_true rfl) dX10_stumble_100 ⟨Nat.le_of_ble_eq_true rfl, Nat.le_of_ble_eq_true rfl⟩) (fun r_244 u_244 H locs hp_244 G => ?_)
              have G : wd X (va_A (@HAppend.hAppend va_W va_W va_W _ (xW h0 nw sp xa la lb) (@HAppend.hAppend va_W va_W va_W _ (rcV X nw an sv dv n0 n1 n2 n3 n4 g0 gs gn gm) (@HAppend.hAppend va_W va_W va_W _ (odW (xa 11) vo) ([((xa 5), .inl (X.2.1, 3, .inl fr))])))) sz) (va_A (@HAppend.hAppend va_W va_W va_W _ (xW h0 nw sp xa la lb) (@HAppend.hAppend va_W va_W va_W _ (rcV X nw an sv dv n0 n1 n2 n3 n4 g0 gs gn gm) (@HAppend.hAppend va_W va_W va_W _ (odW (xa 11) vo) ([((xa 5), .inl (X.2.1, 3, .inl fr))])))) sz) s (@HAppend.hAppend va_W va_W va_W _ (xW h0 nw sp xa la lb) (@HAppend.hAppend va_W va_W va_W _ (rcV X nw an sv dv n0 n1 n2 n3 n4 g0 gs gn gm) (@HAppend.hAppend va_W va_W va_W _ ([((xa 5), .inl (X.2.1, 3, .inl fr))]) (odW (xa 11) v_243)))) H locs := G
              refine lv_lstore (lv' := [(6, .long r_244), (5, .ref (an 3)), (0, .ref h0), (1, .int 2), (2, .int x2), (3, .int 4), (4, .int x4)]) zx zb dX10_stumble_103 hl (by decide) rfl (fun ls hl => ?_)
              refine lv_iload_n zx zb dX10_stumble_105 rfl (lv_at hl 5 rfl) ?_
              refine o_rl (cells' := 0) (slots' := 0) G rfl rfl (n_S (As := [.int 4]) (rest := []) S G (s_tenTo l X 4 (by omega) H.size) gX10_stumble_X3_tenTo rfl rfl rfl hdS_X3_tenTo ⟨Nat.le_of_ble_eq_true rfl, Nat.le_of_ble_eq_true rfl⟩ [] rfl rfl rfl hl.1 (Nat.le_of_ble_eq_true rfl) dX10_stumble_106 ⟨Nat.le_of_ble_eq_true rfl, Nat.le_of_ble_eq_true rfl⟩) (fun r_245 u_245 H locs hp_245 G => ?_)
              have G : wd X (va_A (@HAppend.hAppend va_W va_W va_W _ (xW h0 nw sp xa la lb) (@HAppend.hAppend va_W va_W va_W _ (rcV X nw an sv dv n0 n1 n2 n3 n4 g0 gs gn gm) (@HAppend.hAppend va_W va_W va_W _ (odW (xa 11) vo) ([((xa 5), .inl (X.2.1, 3, .inl fr))])))) sz) (va_A (@HAppend.hAppend va_W va_W va_W _ (xW h0 nw sp xa la lb) (@HAppend.hAppend va_W va_W va_W _ (rcV X nw an sv dv n0 n1 n2 n3 n4 g0 gs gn gm) (@HAppend.hAppend va_W va_W va_W _ (odW (xa 11) vo) ([((xa 5), .inl (X.2.1, 3, .inl fr))])))) sz) s (@HAppend.hAppend va_W va_W va_W _ (xW h0 nw sp xa la lb) (@HAppend.hAppend va_W va_W va_W _ (rcV X nw an sv dv n0 n1 n2 n3 n4 g0 gs gn gm) (@HAppend.hAppend va_W va_W va_W _ ([((xa 5), .inl (X.2.1, 3, .inl fr))]) (odW (xa 11) v_243)))) H locs := G
              refine lv_lstore (lv' := [(8, .long r_245), (6, .long r_244), (5, .ref (an 3)), (0, .ref h0), (1, .int 2), (2, .int x2), (3, .int 4), (4, .int x4)]) zx zb dX10_stumble_109 hl (by decide) rfl (fun ls hl => ?_)
              refine lv_lload zx zb dX10_stumble_111 (lv_at hl 1 rfl) ?_
              refine lv_lload zx zb dX10_stumble_113 (lv_at hl 0 rfl) ?_
              refine o_rl (cells' := 0) (slots' := 0) G rfl rfl (n_S (As := [.long r_244, .long r_245]) (rest := []) S G (s_commonPart l X r_244 r_245 H.size) gX10_stumble_X3_commonPart rfl rfl rfl hdS_X3_commonPart ⟨Nat.le_of_ble_eq_true rfl, Nat.le_of_ble_eq_true rfl⟩ [] rfl rfl rfl hl.1 (Nat.le_of_ble_eq_true rfl) dX10_stumble_115 ⟨Nat.le_of_ble_eq_true rfl, Nat.le_of_ble_eq_true rfl⟩) (fun r_246 u_246 H locs hp_246 G => ?_)
              have G : wd X (va_A (@HAppend.hAppend va_W va_W va_W _ (xW h0 nw sp xa la lb) (@HAppend.hAppend va_W va_W va_W _ (rcV X nw an sv dv n0 n1 n2 n3 n4 g0 gs gn gm) (@HAppend.hAppend va_W va_W va_W _ (odW (xa 11) vo) ([((xa 5), .inl (X.2.1, 3, .inl fr))])))) sz) (va_A (@HAppend.hAppend va_W va_W va_W _ (xW h0 nw sp xa la lb) (@HAppend.hAppend va_W va_W va_W _ (rcV X nw an sv dv n0 n1 n2 n3 n4 g0 gs gn gm) (@HAppend.hAppend va_W va_W va_W _ (odW (xa 11) vo) ([((xa 5), .inl (X.2.1, 3, .inl fr))])))) sz) s (@HAppend.hAppend va_W va_W va_W _ (xW h0 nw sp xa la lb) (@HAppend.hAppend va_W va_W va_W _ (rcV X nw an sv dv n0 n1 n2 n3 n4 g0 gs gn gm) (@HAppend.hAppend va_W va_W va_W _ ([((xa 5), .inl (X.2.1, 3, .inl fr))]) (odW (xa 11) v_243)))) H locs := G
              refine lv_lstore (lv' := [(10, .long r_246), (8, .long r_245), (6, .long r_244), (5, .ref (an 3)), (0, .ref h0), (1, .int 2), (2, .int x2), (3, .int 4), (4, .int x4)]) zx zb dX10_stumble_118 hl (by decide) rfl (fun ls hl => ?_)
              refine lv_lload zx zb dX10_stumble_120 (lv_at hl 0 rfl) ?_
              refine lv_lconst (v := (Int32.toInt64 0)) zx zb dX10_stumble_122 (by decide) ?_
              refine W.lcmp zx zb dX10_stumble_123 ?_
              refine k_cutW (PP := fun Wx => ∀ (la_248 : Int64) (lb_249 : Int64) (H : Heap) (locs : List Loc) (ls : Array Slot), wd X (va_A (@HAppend.hAppend va_W va_W va_W _ (xW h0 nw sp xa la lb) (@HAppend.hAppend va_W va_W va_W _ (rcV X nw an sv dv n0 n1 n2 n3 n4 g0 gs gn gm) (@HAppend.hAppend va_W va_W va_W _ (odW (xa 11) vo) ([((xa 5), .inl (X.2.1, 3, .inl fr))])))) sz) (va_A (@HAppend.hAppend va_W va_W va_W _ (xW h0 nw sp xa la lb) (@HAppend.hAppend va_W va_W va_W _ (rcV X nw an sv dv n0 n1 n2 n3 n4 g0 gs gn gm) (@HAppend.hAppend va_W va_W va_W _ (odW (xa 11) vo) ([((xa 5), .inl (X.2.1, 3, .inl fr))])))) sz) s (@HAppend.hAppend va_W va_W va_W _ (xW h0 nw sp xa la_248 lb_249) (@HAppend.hAppend va_W va_W va_W _ (rcV X nw an sv dv n0 n1 n2 n3 n4 g0 gs gn gm) (@HAppend.hAppend va_W va_W va_W _ ([((xa 5), .inl (X.2.1, 3, .inl fr))]) (odW (xa 11) v_243)))) H locs → lv_has ls 12 [(10, .long r_246), (8, .long r_245), (6, .long r_244), (5, .ref (an 3)), (0, .ref h0), (1, .int 2), (2, .int x2), (3, .int 4), (4, .int x4)] → Wx (F0 m 145 ls []) H locs) ?_ ?_
              · intro join_124
                refine lv_if_le (tgt := 145) zx zb dX10_stumble_124 (by decide) (fun c_247 => ?_) (fun c_247 => ?_)
                · exact join_124 la lb _ _ _  G hl
                · refine lv_aload_n zx zb dX10_stumble_127 rfl (lv_at hl 4 rfl) ?_
                  refine lv_lload zx zb dX10_stumble_128 (lv_at hl 2 rfl) ?_
                  refine lv_lload zx zb dX10_stumble_130 (lv_at hl 0 rfl) ?_
                  refine lv_ldiv zx zb dX10_stumble_132 (k_lnz2 c_247) ?_
                  refine k_ldE (fun y_250 => ?_)
                  refine r_put (C := RX10) (T := TX10) (N := 14) (ci := 8) (v := .long y_250) S in_X10_stumble_X10 tyX10_ok nmX10 G 0 rfl rfl 6 (by decide) lk_X10_stumble_38 rfl rfl rfl (Nat.le_of_ble_eq_true rfl) dX10_stumble_133 (fun H locs G => ?_)
                  have G : wd X (va_A (@HAppend.hAppend va_W va_W va_W _ (xW h0 nw sp xa la lb) (@HAppend.hAppend va_W va_W va_W _ (rcV X nw an sv dv n0 n1 n2 n3 n4 g0 gs gn gm) (@HAppend.hAppend va_W va_W va_W _ (odW (xa 11) vo) ([((xa 5), .inl (X.2.1, 3, .inl fr))])))) sz) (va_A (@HAppend.hAppend va_W va_W va_W _ (xW h0 nw sp xa la lb) (@HAppend.hAppend va_W va_W va_W _ (rcV X nw an sv dv n0 n1 n2 n3 n4 g0 gs gn gm) (@HAppend.hAppend va_W va_W va_W _ (odW (xa 11) vo) ([((xa 5), .inl (X.2.1, 3, .inl fr))])))) sz) s (@HAppend.hAppend va_W va_W va_W _ (xW h0 nw sp xa y_250 lb) (@HAppend.hAppend va_W va_W va_W _ (rcV X nw an sv dv n0 n1 n2 n3 n4 g0 gs gn gm) (@HAppend.hAppend va_W va_W va_W _ ([((xa 5), .inl (X.2.1, 3, .inl fr))]) (odW (xa 11) v_243)))) H locs := G
                  refine lv_aload_n zx zb dX10_stumble_136 rfl (lv_at hl 4 rfl) ?_
                  refine lv_lload zx zb dX10_stumble_137 (lv_at hl 1 rfl) ?_
                  refine lv_lload zx zb dX10_stumble_139 (lv_at hl 0 rfl) ?_
                  refine lv_ldiv zx zb dX10_stumble_141 (k_lnz2 c_247) ?_
                  refine k_ldE (fun y_251 => ?_)
                  refine r_put (C := RX10) (T := TX10) (N := 14) (ci := 8) (v := .long y_251) S in_X10_stumble_X10 tyX10_ok nmX10 G 0 rfl rfl 7 (by decide) lk_X10_stumble_42 rfl rfl rfl (Nat.le_of_ble_eq_true rfl) dX10_stumble_142 (fun H locs G => ?_)
                  have G : wd X (va_A (@HAppend.hAppend va_W va_W va_W _ (xW h0 nw sp xa la lb) (@HAppend.hAppend va_W va_W va_W _ (rcV X nw an sv dv n0 n1 n2 n3 n4 g0 gs gn gm) (@HAppend.hAppend va_W va_W va_W _ (odW (xa 11) vo) ([((xa 5), .inl (X.2.1, 3, .inl fr))])))) sz) (va_A (@HAppend.hAppend va_W va_W va_W _ (xW h0 nw sp xa la lb) (@HAppend.hAppend va_W va_W va_W _ (rcV X nw an sv dv n0 n1 n2 n3 n4 g0 gs gn gm) (@HAppend.hAppend va_W va_W va_W _ (odW (xa 11) vo) ([((xa 5), .inl (X.2.1, 3, .inl fr))])))) sz) s (@HAppend.hAppend va_W va_W va_W _ (xW h0 nw sp xa y_250 y_251) (@HAppend.hAppend va_W va_W va_W _ (rcV X nw an sv dv n0 n1 n2 n3 n4 g0 gs gn gm) (@HAppend.hAppend va_W va_W va_W _ ([((xa 5), .inl (X.2.1, 3, .inl fr))]) (odW (xa 11) v_243)))) H locs := G
                  exact join_124 y_250 y_251 _ _ _  G hl
              · intro la_248 lb_249 H locs ls  G hl
                refine lv_iconst (v := 1) zx zb dX10_stumble_145 (by decide) ?_
                exact e_int S zr zlk (vp_nar_int _) G (la_248, lb_249, v_243, fr) [0, 1, 2, 3, 4, 5, 6, 7, 8, 9, 10, 11, 12, 13, 14, 15, 16, 18, 17] rfl rfl (Or.inr rfl) ((stuF_p ⟨⟨_, hj_1, rfl⟩, hw_3, hw_5, hw_7⟩).symm) dX10_stumble_146
            · refine k_it (v := 3) rfl ?_
              refine r_aald (C := RX8) (b := (an 4)) S G 2 3 rfl rfl (k_vp (by decide)) rfl dX10_stumble_54 ?_
              refine lv_astore (lv' := [(5, .ref (an 4)), (0, .ref h0), (1, .int 3), (2, .int x2), (3, .int 4), (4, .int x4)]) zx zb dX10_stumble_55 hl (by decide) rfl (fun ls hl => ?_)
              refine lv_aload_n zx zb dX10_stumble_57 rfl (lv_at hl 1 rfl) ?_
              refine r_get (C := RX10) (T := TX10) (N := 14) (ci := 8) (v := .ref (xa 11)) S in_X10_stumble_X10 G 0 rfl rfl 11 (by decide) lk_X10_stumble_65 rfl dX10_stumble_58 ?_
              refine lv_aload zx zb dX10_stumble_61 (lv_at hl 0 rfl) ?_
              refine lv_aload_n zx zb dX10_stumble_63 rfl (lv_at hl 1 rfl) ?_
              refine r_get (C := RX10) (T := TX10) (N := 14) (ci := 8) (v := .ref nw) S in_X10_stumble_X10 G 0 rfl rfl 0 (by decide) lk_X10_stumble_10 rfl dX10_stumble_64 ?_
              refine r_get (C := RX5) (T := TX5) (N := 8) (ci := 3) (v := .int (dv 0)) S in_X10_stumble_X5 G 1 rfl rfl 0 (by decide) lk_X10_stumble_140 rfl dX10_stumble_67 ?_
              refine lv_aload_n zx zb dX10_stumble_70 rfl (lv_at hl 1 rfl) ?_
              refine r_get (C := RX10) (T := TX10) (N := 14) (ci := 8) (v := .ref nw) S in_X10_stumble_X10 G 0 rfl rfl 0 (by decide) lk_X10_stumble_10 rfl dX10_stumble_71 ?_
              refine r_get (C := RX5) (T := TX5) (N := 8) (ci := 3) (v := .int (dv 1)) S in_X10_stumble_X5 G 1 rfl rfl 1 (by decide) lk_X10_stumble_110 rfl dX10_stumble_74 ?_
              refine lv_iload_n zx zb dX10_stumble_77 rfl (lv_at hl 4 rfl) ?_
              refine r_iadd (v := ((dv 1) + 4)) S rfl dX10_stumble_78 ?_
              refine lv_iload_n zx zb dX10_stumble_79 rfl (lv_at hl 3 rfl) ?_
              refine lv_iload zx zb dX10_stumble_80 (lv_at hl 5 rfl) ?_
              refine b_wv (cells' := 0) (slots' := 0) (wr := @HAppend.hAppend va_W va_W va_W _ (xW h0 nw sp xa la lb) (@HAppend.hAppend va_W va_W va_W _ ([(nw, .inr (3, [.int (dv 0), .int (dv 1), .int (nI n0), .ref (an 0), .ref (an 7), .ref (an 9), .ref (an 11), .ref (an 13)])), ((an 0), .inl (X.2.2.2.2, 6, .inr (.inr (.inr (.inr (rowQ an)))))), ((an 1), .inr (6, [.int (sv 0), .int (sv 1), .int (sv 2), .int (dv 10), .int (dv 11), .int (dv 12), .int (dv 13), .int (dv 14)])), ((an 2), .inr (6, [.int (sv 3), .int (sv 4), .int (sv 5), .int (dv 15), .int (dv 16), .int (dv 17), .int (dv 18), .int (dv 19)])), ((an 3), .inr (6, [.int (sv 6), .int (sv 7), .int (sv 8), .int (dv 20), .int (dv 21), .int (dv 22), .int (dv 23), .int (dv 24)])), ((an 5), .inr (6, [.int (sv 12), .int (sv 13), .int (sv 14), .int (dv 30), .int (dv 31), .int (dv 32), .int (dv 33), .int (dv 34)])), ((an 6), .inr (6, [.int (sv 15), .int (sv 16), .int (sv 17), .int (dv 35), .int (dv 36), .int (dv 37), .int (dv 38), .int (dv 39)])), ((an 7), .inr (2, [.ref (an 8), .int (nI n1)])), ((an 8), .inl (X.2.1, 248, .inl g0)), ((an 9), .inr (5, [.int 5, .int 0, .int 1, .ref (an 10), .int (nI n2)])), ((an 10), .inl (X.2.1, 25, .inl gs)), ((an 11), .inr (5, [.int 6, .int 1, .int 1, .ref (an 12), .int (nI n3)])), ((an 12), .inl (X.2.1, 30, .inl gn)), ((an 13), .inr (5, [.int 6, .int 0, .int 0, .ref (an 14), .int (nI n4)])), ((an 14), .inl (X.2.1, 30, .inl gm))]) ([((xa 5), .inl (X.2.1, 3, .inl fr))]))) G rfl rfl [17, 6] [0, 1, 2, 3, 4, 5, 7, 8, 9, 10, 11, 12, 13, 14, 15, 16, 18] rfl rfl rfl rfl (n_V (As := [.ref (an 4), .int (dv 0), .int ((dv 1) + 4), .int x2, .int x4]) (rest := []) (C := RX3) (T := TX3) (N := 8) (ci := 1) S G (s_pose l X (xa 11) vo (an 4) (fun k => sv (9 + k)) (fun k => dv (25 + k)) (dv 0) ((dv 1) + 4) x2 x4 H.size) gX10_stumble_X3_pose rfl rfl rfl hdV_X3_pose ⟨Nat.le_of_ble_eq_true rfl, Nat.le_of_ble_eq_true rfl⟩ [17, 6] rfl rfl 17 rfl rfl rfl hl.1 (Nat.le_of_ble_eq_true rfl) dX10_stumble_82 ⟨Nat.le_of_ble_eq_true rfl, Nat.le_of_ble_eq_true rfl⟩) (fun u_252 H locs hp_252 G => ?_)
              obtain ⟨v_252, rfl⟩ : ∃ z, z = u_252 := ⟨_, rfl⟩
              have hq_252 := hp_252
              have G : wd X (va_A (@HAppend.hAppend va_W va_W va_W _ (xW h0 nw sp xa la lb) (@HAppend.hAppend va_W va_W va_W _ (rcV X nw an sv dv n0 n1 n2 n3 n4 g0 gs gn gm) (@HAppend.hAppend va_W va_W va_W _ (odW (xa 11) vo) ([((xa 5), .inl (X.2.1, 3, .inl fr))])))) sz) (va_A (@HAppend.hAppend va_W va_W va_W _ (xW h0 nw sp xa la lb) (@HAppend.hAppend va_W va_W va_W _ (rcV X nw an sv dv n0 n1 n2 n3 n4 g0 gs gn gm) (@HAppend.hAppend va_W va_W va_W _ (odW (xa 11) vo) ([((xa 5), .inl (X.2.1, 3, .inl fr))])))) sz) s (@HAppend.hAppend va_W va_W va_W _ (xW h0 nw sp xa la lb) (@HAppend.hAppend va_W va_W va_W _ (rcV X nw an sv dv n0 n1 n2 n3 n4 g0 gs gn gm) (@HAppend.hAppend va_W va_W va_W _ ([((xa 5), .inl (X.2.1, 3, .inl fr))]) (odW (xa 11) v_252)))) H locs := wd_sub G [0, 1, 2, 3, 4, 5, 18, 6, 7, 8, 9, 10, 11, 12, 13, 14, 15, 16, 17] rfl rfl
              refine lv_aload_n zx zb dX10_stumble_85 rfl (lv_at hl 1 rfl) ?_
              refine r_get (C := RX10) (T := TX10) (N := 14) (ci := 8) (v := .ref (xa 11)) S in_X10_stumble_X10 G 0 rfl rfl 11 (by decide) lk_X10_stumble_65 rfl dX10_stumble_86 ?_
              refine lv_aload zx zb dX10_stumble_89 (lv_at hl 0 rfl) ?_
              refine r_get (C := RX8) (T := TX8) (N := 8) (ci := 6) (v := .int (dv 26)) S in_X10_stumble_X8 G 6 rfl rfl 4 (by decide) lk_X10_stumble_137 rfl dX10_stumble_91 ?_
              refine lv_aload zx zb dX10_stumble_94 (lv_at hl 0 rfl) ?_
              refine r_get (C := RX8) (T := TX8) (N := 8) (ci := 6) (v := .int (dv 28)) S in_X10_stumble_X8 G 6 rfl rfl 6 (by decide) lk_X10_stumble_240 rfl dX10_stumble_96 ?_
              refine lv_iload_n zx zb dX10_stumble_99 rfl (lv_at hl 4 rfl) ?_
              refine o_rl (cells' := 0) (slots' := 0) G rfl rfl (n_SN (As := [.ref (xa 11), .int (dv 26), .int (dv 28), .int 4]) (rest := []) (host := "EggSpoons") S G (s_ways4 l X (xa 11) v_252 (dv 26) (dv 28) H.size) gX10_stumble_X3_ways_n243 rfl rfl rfl mm_X10_stumble_inX3 G.1.2.2.2.2.2.2.2.2.2.2.2 mm_X10_stumble_stX3_ways hdS_X3_ways ⟨Nat.le_of_ble_eq_true rfl, Nat.le_of_ble_eq_true rfl⟩ [18] rfl rfl rfl hl.1 (Nat.le_of_ble_eq_true rfl) dX10_stumble_100 ⟨Nat.le_of_ble_eq_true rfl, Nat.le_of_ble_eq_true rfl⟩) (fun r_253 u_253 H locs hp_253 G => ?_)
              have G : wd X (va_A (@HAppend.hAppend va_W va_W va_W _ (xW h0 nw sp xa la lb) (@HAppend.hAppend va_W va_W va_W _ (rcV X nw an sv dv n0 n1 n2 n3 n4 g0 gs gn gm) (@HAppend.hAppend va_W va_W va_W _ (odW (xa 11) vo) ([((xa 5), .inl (X.2.1, 3, .inl fr))])))) sz) (va_A (@HAppend.hAppend va_W va_W va_W _ (xW h0 nw sp xa la lb) (@HAppend.hAppend va_W va_W va_W _ (rcV X nw an sv dv n0 n1 n2 n3 n4 g0 gs gn gm) (@HAppend.hAppend va_W va_W va_W _ (odW (xa 11) vo) ([((xa 5), .inl (X.2.1, 3, .inl fr))])))) sz) s (@HAppend.hAppend va_W va_W va_W _ (xW h0 nw sp xa la lb) (@HAppend.hAppend va_W va_W va_W _ (rcV X nw an sv dv n0 n1 n2 n3 n4 g0 gs gn gm) (@HAppend.hAppend va_W va_W va_W _ ([((xa 5), .inl (X.2.1, 3, .inl fr))]) (odW (xa 11) v_252)))) H locs := G
              refine lv_lstore (lv' := [(6, .long r_253), (5, .ref (an 4)), (0, .ref h0), (1, .int 3), (2, .int x2), (3, .int 4), (4, .int x4)]) zx zb dX10_stumble_103 hl (by decide) rfl (fun ls hl => ?_)
              refine lv_iload_n zx zb dX10_stumble_105 rfl (lv_at hl 5 rfl) ?_
              refine o_rl (cells' := 0) (slots' := 0) G rfl rfl (n_S (As := [.int 4]) (rest := []) S G (s_tenTo l X 4 (by omega) H.size) gX10_stumble_X3_tenTo rfl rfl rfl hdS_X3_tenTo ⟨Nat.le_of_ble_eq_true rfl, Nat.le_of_ble_eq_true rfl⟩ [] rfl rfl rfl hl.1 (Nat.le_of_ble_eq_true rfl) dX10_stumble_106 ⟨Nat.le_of_ble_eq_true rfl, Nat.le_of_ble_eq_true rfl⟩) (fun r_254 u_254 H locs hp_254 G => ?_)
              have G : wd X (va_A (@HAppend.hAppend va_W va_W va_W _ (xW h0 nw sp xa la lb) (@HAppend.hAppend va_W va_W va_W _ (rcV X nw an sv dv n0 n1 n2 n3 n4 g0 gs gn gm) (@HAppend.hAppend va_W va_W va_W _ (odW (xa 11) vo) ([((xa 5), .inl (X.2.1, 3, .inl fr))])))) sz) (va_A (@HAppend.hAppend va_W va_W va_W _ (xW h0 nw sp xa la lb) (@HAppend.hAppend va_W va_W va_W _ (rcV X nw an sv dv n0 n1 n2 n3 n4 g0 gs gn gm) (@HAppend.hAppend va_W va_W va_W _ (odW (xa 11) vo) ([((xa 5), .inl (X.2.1, 3, .inl fr))])))) sz) s (@HAppend.hAppend va_W va_W va_W _ (xW h0 nw sp xa la lb) (@HAppend.hAppend va_W va_W va_W _ (rcV X nw an sv dv n0 n1 n2 n3 n4 g0 gs gn gm) (@HAppend.hAppend va_W va_W va_W _ ([((xa 5), .inl (X.2.1, 3, .inl fr))]) (odW (xa 11) v_252)))) H locs := G
              refine lv_lstore (lv' := [(8, .long r_254), (6, .long r_253), (5, .ref (an 4)), (0, .ref h0), (1, .int 3), (2, .int x2), (3, .int 4), (4, .int x4)]) zx zb dX10_stumble_109 hl (by decide) rfl (fun ls hl => ?_)
              refine lv_lload zx zb dX10_stumble_111 (lv_at hl 1 rfl) ?_
              refine lv_lload zx zb dX10_stumble_113 (lv_at hl 0 rfl) ?_
              refine o_rl (cells' := 0) (slots' := 0) G rfl rfl (n_S (As := [.long r_253, .long r_254]) (rest := []) S G (s_commonPart l X r_253 r_254 H.size) gX10_stumble_X3_commonPart rfl rfl rfl hdS_X3_commonPart ⟨Nat.le_of_ble_eq_true rfl, Nat.le_of_ble_eq_true rfl⟩ [] rfl rfl rfl hl.1 (Nat.le_of_ble_eq_true rfl) dX10_stumble_115 ⟨Nat.le_of_ble_eq_true rfl, Nat.le_of_ble_eq_true rfl⟩) (fun r_255 u_255 H locs hp_255 G => ?_)
              have G : wd X (va_A (@HAppend.hAppend va_W va_W va_W _ (xW h0 nw sp xa la lb) (@HAppend.hAppend va_W va_W va_W _ (rcV X nw an sv dv n0 n1 n2 n3 n4 g0 gs gn gm) (@HAppend.hAppend va_W va_W va_W _ (odW (xa 11) vo) ([((xa 5), .inl (X.2.1, 3, .inl fr))])))) sz) (va_A (@HAppend.hAppend va_W va_W va_W _ (xW h0 nw sp xa la lb) (@HAppend.hAppend va_W va_W va_W _ (rcV X nw an sv dv n0 n1 n2 n3 n4 g0 gs gn gm) (@HAppend.hAppend va_W va_W va_W _ (odW (xa 11) vo) ([((xa 5), .inl (X.2.1, 3, .inl fr))])))) sz) s (@HAppend.hAppend va_W va_W va_W _ (xW h0 nw sp xa la lb) (@HAppend.hAppend va_W va_W va_W _ (rcV X nw an sv dv n0 n1 n2 n3 n4 g0 gs gn gm) (@HAppend.hAppend va_W va_W va_W _ ([((xa 5), .inl (X.2.1, 3, .inl fr))]) (odW (xa 11) v_252)))) H locs := G
              refine lv_lstore (lv' := [(10, .long r_255), (8, .long r_254), (6, .long r_253), (5, .ref (an 4)), (0, .ref h0), (1, .int 3), (2, .int x2), (3, .int 4), (4, .int x4)]) zx zb dX10_stumble_118 hl (by decide) rfl (fun ls hl => ?_)
              refine lv_lload zx zb dX10_stumble_120 (lv_at hl 0 rfl) ?_
              refine lv_lconst (v := (Int32.toInt64 0)) zx zb dX10_stumble_122 (by decide) ?_
              refine W.lcmp zx zb dX10_stumble_123 ?_
              refine k_cutW (PP := fun Wx => ∀ (la_257 : Int64) (lb_258 : Int64) (H : Heap) (locs : List Loc) (ls : Array Slot), wd X (va_A (@HAppend.hAppend va_W va_W va_W _ (xW h0 nw sp xa la lb) (@HAppend.hAppend va_W va_W va_W _ (rcV X nw an sv dv n0 n1 n2 n3 n4 g0 gs gn gm) (@HAppend.hAppend va_W va_W va_W _ (odW (xa 11) vo) ([((xa 5), .inl (X.2.1, 3, .inl fr))])))) sz) (va_A (@HAppend.hAppend va_W va_W va_W _ (xW h0 nw sp xa la lb) (@HAppend.hAppend va_W va_W va_W _ (rcV X nw an sv dv n0 n1 n2 n3 n4 g0 gs gn gm) (@HAppend.hAppend va_W va_W va_W _ (odW (xa 11) vo) ([((xa 5), .inl (X.2.1, 3, .inl fr))])))) sz) s (@HAppend.hAppend va_W va_W va_W _ (xW h0 nw sp xa la_257 lb_258) (@HAppend.hAppend va_W va_W va_W _ (rcV X nw an sv dv n0 n1 n2 n3 n4 g0 gs gn gm) (@HAppend.hAppend va_W va_W va_W _ ([((xa 5), .inl (X.2.1, 3, .inl fr))]) (odW (xa 11) v_252)))) H locs → lv_has ls 12 [(10, .long r_255), (8, .long r_254), (6, .long r_253), (5, .ref (an 4)), (0, .ref h0), (1, .int 3), (2, .int x2), (3, .int 4), (4, .int x4)] → Wx (F0 m 145 ls []) H locs) ?_ ?_
              · intro join_124
                refine lv_if_le (tgt := 145) zx zb dX10_stumble_124 (by decide) (fun c_256 => ?_) (fun c_256 => ?_)
                · exact join_124 la lb _ _ _  G hl
                · refine lv_aload_n zx zb dX10_stumble_127 rfl (lv_at hl 4 rfl) ?_
                  refine lv_lload zx zb dX10_stumble_128 (lv_at hl 2 rfl) ?_
                  refine lv_lload zx zb dX10_stumble_130 (lv_at hl 0 rfl) ?_
                  refine lv_ldiv zx zb dX10_stumble_132 (k_lnz2 c_256) ?_
                  refine k_ldE (fun y_259 => ?_)
                  refine r_put (C := RX10) (T := TX10) (N := 14) (ci := 8) (v := .long y_259) S in_X10_stumble_X10 tyX10_ok nmX10 G 0 rfl rfl 6 (by decide) lk_X10_stumble_38 rfl rfl rfl (Nat.le_of_ble_eq_true rfl) dX10_stumble_133 (fun H locs G => ?_)
                  have G : wd X (va_A (@HAppend.hAppend va_W va_W va_W _ (xW h0 nw sp xa la lb) (@HAppend.hAppend va_W va_W va_W _ (rcV X nw an sv dv n0 n1 n2 n3 n4 g0 gs gn gm) (@HAppend.hAppend va_W va_W va_W _ (odW (xa 11) vo) ([((xa 5), .inl (X.2.1, 3, .inl fr))])))) sz) (va_A (@HAppend.hAppend va_W va_W va_W _ (xW h0 nw sp xa la lb) (@HAppend.hAppend va_W va_W va_W _ (rcV X nw an sv dv n0 n1 n2 n3 n4 g0 gs gn gm) (@HAppend.hAppend va_W va_W va_W _ (odW (xa 11) vo) ([((xa 5), .inl (X.2.1, 3, .inl fr))])))) sz) s (@HAppend.hAppend va_W va_W va_W _ (xW h0 nw sp xa y_259 lb) (@HAppend.hAppend va_W va_W va_W _ (rcV X nw an sv dv n0 n1 n2 n3 n4 g0 gs gn gm) (@HAppend.hAppend va_W va_W va_W _ ([((xa 5), .inl (X.2.1, 3, .inl fr))]) (odW (xa 11) v_252)))) H locs := G
                  refine lv_aload_n zx zb dX10_stumble_136 rfl (lv_at hl 4 rfl) ?_
                  refine lv_lload zx zb dX10_stumble_137 (lv_at hl 1 rfl) ?_
                  refine lv_lload zx zb dX10_stumble_139 (lv_at hl 0 rfl) ?_
                  refine lv_ldiv zx zb dX10_stumble_141 (k_lnz2 c_256) ?_
                  refine k_ldE (fun y_260 => ?_)
                  refine r_put (C := RX10) (T := TX10) (N := 14) (ci := 8) (v := .long y_260) S in_X10_stumble_X10 tyX10_ok nmX10 G 0 rfl rfl 7 (by decide) lk_X10_stumble_42 rfl rfl rfl (Nat.le_of_ble_eq_true rfl) dX10_stumble_142 (fun H locs G => ?_)
                  have G : wd X (va_A (@HAppend.hAppend va_W va_W va_W _ (xW h0 nw sp xa la lb) (@HAppend.hAppend va_W va_W va_W _ (rcV X nw an sv dv n0 n1 n2 n3 n4 g0 gs gn gm) (@HAppend.hAppend va_W va_W va_W _ (odW (xa 11) vo) ([((xa 5), .inl (X.2.1, 3, .inl fr))])))) sz) (va_A (@HAppend.hAppend va_W va_W va_W _ (xW h0 nw sp xa la lb) (@HAppend.hAppend va_W va_W va_W _ (rcV X nw an sv dv n0 n1 n2 n3 n4 g0 gs gn gm) (@HAppend.hAppend va_W va_W va_W _ (odW (xa 11) vo) ([((xa 5), .inl (X.2.1, 3, .inl fr))])))) sz) s (@HAppend.hAppend va_W va_W va_W _ (xW h0 nw sp xa y_259 y_260) (@HAppend.hAppend va_W va_W va_W _ (rcV X nw an sv dv n0 n1 n2 n3 n4 g0 gs gn gm) (@HAppend.hAppend va_W va_W va_W _ ([((xa 5), .inl (X.2.1, 3, .inl fr))]) (odW (xa 11) v_252)))) H locs := G
                  exact join_124 y_259 y_260 _ _ _  G hl
              · intro la_257 lb_258 H locs ls  G hl
                refine lv_iconst (v := 1) zx zb dX10_stumble_145 (by decide) ?_
                exact e_int S zr zlk (vp_nar_int _) G (la_257, lb_258, v_252, fr) [0, 1, 2, 3, 4, 5, 6, 7, 8, 9, 10, 11, 12, 13, 14, 15, 16, 18, 17] rfl rfl (Or.inr rfl) ((stuF_p ⟨⟨_, hj_1, rfl⟩, hw_3, hw_5, hw_7⟩).symm) dX10_stumble_146
            · refine k_it (v := 4) rfl ?_
              refine r_aald (C := RX8) (b := (an 5)) S G 2 3 rfl rfl (k_vp (by decide)) rfl dX10_stumble_54 ?_
              refine lv_astore (lv' := [(5, .ref (an 5)), (0, .ref h0), (1, .int 4), (2, .int x2), (3, .int 4), (4, .int x4)]) zx zb dX10_stumble_55 hl (by decide) rfl (fun ls hl => ?_)
              refine lv_aload_n zx zb dX10_stumble_57 rfl (lv_at hl 1 rfl) ?_
              refine r_get (C := RX10) (T := TX10) (N := 14) (ci := 8) (v := .ref (xa 11)) S in_X10_stumble_X10 G 0 rfl rfl 11 (by decide) lk_X10_stumble_65 rfl dX10_stumble_58 ?_
              refine lv_aload zx zb dX10_stumble_61 (lv_at hl 0 rfl) ?_
              refine lv_aload_n zx zb dX10_stumble_63 rfl (lv_at hl 1 rfl) ?_
              refine r_get (C := RX10) (T := TX10) (N := 14) (ci := 8) (v := .ref nw) S in_X10_stumble_X10 G 0 rfl rfl 0 (by decide) lk_X10_stumble_10 rfl dX10_stumble_64 ?_
              refine r_get (C := RX5) (T := TX5) (N := 8) (ci := 3) (v := .int (dv 0)) S in_X10_stumble_X5 G 1 rfl rfl 0 (by decide) lk_X10_stumble_140 rfl dX10_stumble_67 ?_
              refine lv_aload_n zx zb dX10_stumble_70 rfl (lv_at hl 1 rfl) ?_
              refine r_get (C := RX10) (T := TX10) (N := 14) (ci := 8) (v := .ref nw) S in_X10_stumble_X10 G 0 rfl rfl 0 (by decide) lk_X10_stumble_10 rfl dX10_stumble_71 ?_
              refine r_get (C := RX5) (T := TX5) (N := 8) (ci := 3) (v := .int (dv 1)) S in_X10_stumble_X5 G 1 rfl rfl 1 (by decide) lk_X10_stumble_110 rfl dX10_stumble_74 ?_
              refine lv_iload_n zx zb dX10_stumble_77 rfl (lv_at hl 4 rfl) ?_
              refine r_iadd (v := ((dv 1) + 4)) S rfl dX10_stumble_78 ?_
              refine lv_iload_n zx zb dX10_stumble_79 rfl (lv_at hl 3 rfl) ?_
              refine lv_iload zx zb dX10_stumble_80 (lv_at hl 5 rfl) ?_
              refine b_wv (cells' := 0) (slots' := 0) (wr := @HAppend.hAppend va_W va_W va_W _ (xW h0 nw sp xa la lb) (@HAppend.hAppend va_W va_W va_W _ ([(nw, .inr (3, [.int (dv 0), .int (dv 1), .int (nI n0), .ref (an 0), .ref (an 7), .ref (an 9), .ref (an 11), .ref (an 13)])), ((an 0), .inl (X.2.2.2.2, 6, .inr (.inr (.inr (.inr (rowQ an)))))), ((an 1), .inr (6, [.int (sv 0), .int (sv 1), .int (sv 2), .int (dv 10), .int (dv 11), .int (dv 12), .int (dv 13), .int (dv 14)])), ((an 2), .inr (6, [.int (sv 3), .int (sv 4), .int (sv 5), .int (dv 15), .int (dv 16), .int (dv 17), .int (dv 18), .int (dv 19)])), ((an 3), .inr (6, [.int (sv 6), .int (sv 7), .int (sv 8), .int (dv 20), .int (dv 21), .int (dv 22), .int (dv 23), .int (dv 24)])), ((an 4), .inr (6, [.int (sv 9), .int (sv 10), .int (sv 11), .int (dv 25), .int (dv 26), .int (dv 27), .int (dv 28), .int (dv 29)])), ((an 6), .inr (6, [.int (sv 15), .int (sv 16), .int (sv 17), .int (dv 35), .int (dv 36), .int (dv 37), .int (dv 38), .int (dv 39)])), ((an 7), .inr (2, [.ref (an 8), .int (nI n1)])), ((an 8), .inl (X.2.1, 248, .inl g0)), ((an 9), .inr (5, [.int 5, .int 0, .int 1, .ref (an 10), .int (nI n2)])), ((an 10), .inl (X.2.1, 25, .inl gs)), ((an 11), .inr (5, [.int 6, .int 1, .int 1, .ref (an 12), .int (nI n3)])), ((an 12), .inl (X.2.1, 30, .inl gn)), ((an 13), .inr (5, [.int 6, .int 0, .int 0, .ref (an 14), .int (nI n4)])), ((an 14), .inl (X.2.1, 30, .inl gm))]) ([((xa 5), .inl (X.2.1, 3, .inl fr))]))) G rfl rfl [17, 7] [0, 1, 2, 3, 4, 5, 6, 8, 9, 10, 11, 12, 13, 14, 15, 16, 18] rfl rfl rfl rfl (n_V (As := [.ref (an 5), .int (dv 0), .int ((dv 1) + 4), .int x2, .int x4]) (rest := []) (C := RX3) (T := TX3) (N := 8) (ci := 1) S G (s_pose l X (xa 11) vo (an 5) (fun k => sv (12 + k)) (fun k => dv (30 + k)) (dv 0) ((dv 1) + 4) x2 x4 H.size) gX10_stumble_X3_pose rfl rfl rfl hdV_X3_pose ⟨Nat.le_of_ble_eq_true rfl, Nat.le_of_ble_eq_true rfl⟩ [17, 7] rfl rfl 17 rfl rfl rfl hl.1 (Nat.le_of_ble_eq_true rfl) dX10_stumble_82 ⟨Nat.le_of_ble_eq_true rfl, Nat.le_of_ble_eq_true rfl⟩) (fun u_261 H locs hp_261 G => ?_)
              obtain ⟨v_261, rfl⟩ : ∃ z, z = u_261 := ⟨_, rfl⟩
              have hq_261 := hp_261
              have G : wd X (va_A (@HAppend.hAppend va_W va_W va_W _ (xW h0 nw sp xa la lb) (@HAppend.hAppend va_W va_W va_W _ (rcV X nw an sv dv n0 n1 n2 n3 n4 g0 gs gn gm) (@HAppend.hAppend va_W va_W va_W _ (odW (xa 11) vo) ([((xa 5), .inl (X.2.1, 3, .inl fr))])))) sz) (va_A (@HAppend.hAppend va_W va_W va_W _ (xW h0 nw sp xa la lb) (@HAppend.hAppend va_W va_W va_W _ (rcV X nw an sv dv n0 n1 n2 n3 n4 g0 gs gn gm) (@HAppend.hAppend va_W va_W va_W _ (odW (xa 11) vo) ([((xa 5), .inl (X.2.1, 3, .inl fr))])))) sz) s (@HAppend.hAppend va_W va_W va_W _ (xW h0 nw sp xa la lb) (@HAppend.hAppend va_W va_W va_W _ (rcV X nw an sv dv n0 n1 n2 n3 n4 g0 gs gn gm) (@HAppend.hAppend va_W va_W va_W _ ([((xa 5), .inl (X.2.1, 3, .inl fr))]) (odW (xa 11) v_261)))) H locs := wd_sub G [0, 1, 2, 3, 4, 5, 6, 18, 7, 8, 9, 10, 11, 12, 13, 14, 15, 16, 17] rfl rfl
              refine lv_aload_n zx zb dX10_stumble_85 rfl (lv_at hl 1 rfl) ?_
              refine r_get (C := RX10) (T := TX10) (N := 14) (ci := 8) (v := .ref (xa 11)) S in_X10_stumble_X10 G 0 rfl rfl 11 (by decide) lk_X10_stumble_65 rfl dX10_stumble_86 ?_
              refine lv_aload zx zb dX10_stumble_89 (lv_at hl 0 rfl) ?_
              refine r_get (C := RX8) (T := TX8) (N := 8) (ci := 6) (v := .int (dv 31)) S in_X10_stumble_X8 G 7 rfl rfl 4 (by decide) lk_X10_stumble_137 rfl dX10_stumble_91 ?_
              refine lv_aload zx zb dX10_stumble_94 (lv_at hl 0 rfl) ?_
              refine r_get (C := RX8) (T := TX8) (N := 8) (ci := 6) (v := .int (dv 33)) S in_X10_stumble_X8 G 7 rfl rfl 6 (by decide) lk_X10_stumble_240 rfl dX10_stumble_96 ?_
              refine lv_iload_n zx zb dX10_stumble_99 rfl (lv_at hl 4 rfl) ?_
              refine o_rl (cells' := 0) (slots' := 0) G rfl rfl (n_SN (As := [.ref (xa 11), .int (dv 31), .int (dv 33), .int 4]) (rest := []) (host := "EggSpoons") S G (s_ways4 l X (xa 11) v_261 (dv 31) (dv 33) H.size) gX10_stumble_X3_ways_n243 rfl rfl rfl mm_X10_stumble_inX3 G.1.2.2.2.2.2.2.2.2.2.2.2 mm_X10_stumble_stX3_ways hdS_X3_ways ⟨Nat.le_of_ble_eq_true rfl, Nat.le_of_ble_eq_true rfl⟩ [18] rfl rfl rfl hl.1 (Nat.le_of_ble_eq_true rfl) dX10_stumble_100 ⟨Nat.le_of_ble_eq_true rfl, Nat.le_of_ble_eq_true rfl⟩) (fun r_262 u_262 H locs hp_262 G => ?_)
              have G : wd X (va_A (@HAppend.hAppend va_W va_W va_W _ (xW h0 nw sp xa la lb) (@HAppend.hAppend va_W va_W va_W _ (rcV X nw an sv dv n0 n1 n2 n3 n4 g0 gs gn gm) (@HAppend.hAppend va_W va_W va_W _ (odW (xa 11) vo) ([((xa 5), .inl (X.2.1, 3, .inl fr))])))) sz) (va_A (@HAppend.hAppend va_W va_W va_W _ (xW h0 nw sp xa la lb) (@HAppend.hAppend va_W va_W va_W _ (rcV X nw an sv dv n0 n1 n2 n3 n4 g0 gs gn gm) (@HAppend.hAppend va_W va_W va_W _ (odW (xa 11) vo) ([((xa 5), .inl (X.2.1, 3, .inl fr))])))) sz) s (@HAppend.hAppend va_W va_W va_W _ (xW h0 nw sp xa la lb) (@HAppend.hAppend va_W va_W va_W _ (rcV X nw an sv dv n0 n1 n2 n3 n4 g0 gs gn gm) (@HAppend.hAppend va_W va_W va_W _ ([((xa 5), .inl (X.2.1, 3, .inl fr))]) (odW (xa 11) v_261)))) H locs := G
              refine lv_lstore (lv' := [(6, .long r_262), (5, .ref (an 5)), (0, .ref h0), (1, .int 4), (2, .int x2), (3, .int 4), (4, .int x4)]) zx zb dX10_stumble_103 hl (by decide) rfl (fun ls hl => ?_)
              refine lv_iload_n zx zb dX10_stumble_105 rfl (lv_at hl 5 rfl) ?_
              refine o_rl (cells' := 0) (slots' := 0) G rfl rfl (n_S (As := [.int 4]) (rest := []) S G (s_tenTo l X 4 (by omega) H.size) gX10_stumble_X3_tenTo rfl rfl rfl hdS_X3_tenTo ⟨Nat.le_of_ble_eq_true rfl, Nat.le_of_ble_eq_true rfl⟩ [] rfl rfl rfl hl.1 (Nat.le_of_ble_eq_true rfl) dX10_stumble_106 ⟨Nat.le_of_ble_eq_true rfl, Nat.le_of_ble_eq_true rfl⟩) (fun r_263 u_263 H locs hp_263 G => ?_)
              have G : wd X (va_A (@HAppend.hAppend va_W va_W va_W _ (xW h0 nw sp xa la lb) (@HAppend.hAppend va_W va_W va_W _ (rcV X nw an sv dv n0 n1 n2 n3 n4 g0 gs gn gm) (@HAppend.hAppend va_W va_W va_W _ (odW (xa 11) vo) ([((xa 5), .inl (X.2.1, 3, .inl fr))])))) sz) (va_A (@HAppend.hAppend va_W va_W va_W _ (xW h0 nw sp xa la lb) (@HAppend.hAppend va_W va_W va_W _ (rcV X nw an sv dv n0 n1 n2 n3 n4 g0 gs gn gm) (@HAppend.hAppend va_W va_W va_W _ (odW (xa 11) vo) ([((xa 5), .inl (X.2.1, 3, .inl fr))])))) sz) s (@HAppend.hAppend va_W va_W va_W _ (xW h0 nw sp xa la lb) (@HAppend.hAppend va_W va_W va_W _ (rcV X nw an sv dv n0 n1 n2 n3 n4 g0 gs gn gm) (@HAppend.hAppend va_W va_W va_W _ ([((xa 5), .inl (X.2.1, 3, .inl fr))]) (odW (xa 11) v_261)))) H locs := G
              refine lv_lstore (lv' := [(8, .long r_263), (6, .long r_262), (5, .ref (an 5)), (0, .ref h0), (1, .int 4), (2, .int x2), (3, .int 4), (4, .int x4)]) zx zb dX10_stumble_109 hl (by decide) rfl (fun ls hl => ?_)
              refine lv_lload zx zb dX10_stumble_111 (lv_at hl 1 rfl) ?_
              refine lv_lload zx zb dX10_stumble_113 (lv_at hl 0 rfl) ?_
              refine o_rl (cells' := 0) (slots' := 0) G rfl rfl (n_S (As := [.long r_262, .long r_263]) (rest := []) S G (s_commonPart l X r_262 r_263 H.size) gX10_stumble_X3_commonPart rfl rfl rfl hdS_X3_commonPart ⟨Nat.le_of_ble_eq_true rfl, Nat.le_of_ble_eq_true rfl⟩ [] rfl rfl rfl hl.1 (Nat.le_of_ble_eq_true rfl) dX10_stumble_115 ⟨Nat.le_of_ble_eq_true rfl, Nat.le_of_ble_eq_true rfl⟩) (fun r_264 u_264 H locs hp_264 G => ?_)
              have G : wd X (va_A (@HAppend.hAppend va_W va_W va_W _ (xW h0 nw sp xa la lb) (@HAppend.hAppend va_W va_W va_W _ (rcV X nw an sv dv n0 n1 n2 n3 n4 g0 gs gn gm) (@HAppend.hAppend va_W va_W va_W _ (odW (xa 11) vo) ([((xa 5), .inl (X.2.1, 3, .inl fr))])))) sz) (va_A (@HAppend.hAppend va_W va_W va_W _ (xW h0 nw sp xa la lb) (@HAppend.hAppend va_W va_W va_W _ (rcV X nw an sv dv n0 n1 n2 n3 n4 g0 gs gn gm) (@HAppend.hAppend va_W va_W va_W _ (odW (xa 11) vo) ([((xa 5), .inl (X.2.1, 3, .inl fr))])))) sz) s (@HAppend.hAppend va_W va_W va_W _ (xW h0 nw sp xa la lb) (@HAppend.hAppend va_W va_W va_W _ (rcV X nw an sv dv n0 n1 n2 n3 n4 g0 gs gn gm) (@HAppend.hAppend va_W va_W va_W _ ([((xa 5), .inl (X.2.1, 3, .inl fr))]) (odW (xa 11) v_261)))) H locs := G
              refine lv_lstore (lv' := [(10, .long r_264), (8, .long r_263), (6, .long r_262), (5, .ref (an 5)), (0, .ref h0), (1, .int 4), (2, .int x2), (3, .int 4), (4, .int x4)]) zx zb dX10_stumble_118 hl (by decide) rfl (fun ls hl => ?_)
              refine lv_lload zx zb dX10_stumble_120 (lv_at hl 0 rfl) ?_
              refine lv_lconst (v := (Int32.toInt64 0)) zx zb dX10_stumble_122 (by decide) ?_
              refine W.lcmp zx zb dX10_stumble_123 ?_
              refine k_cutW (PP := fun Wx => ∀ (la_266 : Int64) (lb_267 : Int64) (H : Heap) (locs : List Loc) (ls : Array Slot), wd X (va_A (@HAppend.hAppend va_W va_W va_W _ (xW h0 nw sp xa la lb) (@HAppend.hAppend va_W va_W va_W _ (rcV X nw an sv dv n0 n1 n2 n3 n4 g0 gs gn gm) (@HAppend.hAppend va_W va_W va_W _ (odW (xa 11) vo) ([((xa 5), .inl (X.2.1, 3, .inl fr))])))) sz) (va_A (@HAppend.hAppend va_W va_W va_W _ (xW h0 nw sp xa la lb) (@HAppend.hAppend va_W va_W va_W _ (rcV X nw an sv dv n0 n1 n2 n3 n4 g0 gs gn gm) (@HAppend.hAppend va_W va_W va_W _ (odW (xa 11) vo) ([((xa 5), .inl (X.2.1, 3, .inl fr))])))) sz) s (@HAppend.hAppend va_W va_W va_W _ (xW h0 nw sp xa la_266 lb_267) (@HAppend.hAppend va_W va_W va_W _ (rcV X nw an sv dv n0 n1 n2 n3 n4 g0 gs gn gm) (@HAppend.hAppend va_W va_W va_W _ ([((xa 5), .inl (X.2.1, 3, .inl fr))]) (odW (xa 11) v_261)))) H locs → lv_has ls 12 [(10, .long r_264), (8, .long r_263), (6, .long r_262), (5, .ref (an 5)), (0, .ref h0), (1, .int 4), (2, .int x2), (3, .int 4), (4, .int x4)] → Wx (F0 m 145 ls []) H locs) ?_ ?_
              · intro join_124
                refine lv_if_le (tgt := 145) zx zb dX10_stumble_124 (by decide) (fun c_265 => ?_) (fun c_265 => ?_)
                · exact join_124 la lb _ _ _  G hl
                · refine lv_aload_n zx zb dX10_stumble_127 rfl (lv_at hl 4 rfl) ?_
                  refine lv_lload zx zb dX10_stumble_128 (lv_at hl 2 rfl) ?_
                  refine lv_lload zx zb dX10_stumble_130 (lv_at hl 0 rfl) ?_
                  refine lv_ldiv zx zb dX10_stumble_132 (k_lnz2 c_265) ?_
                  refine k_ldE (fun y_268 => ?_)
                  refine r_put (C := RX10) (T := TX10) (N := 14) (ci := 8) (v := .long y_268) S in_X10_stumble_X10 tyX10_ok nmX10 G 0 rfl rfl 6 (by decide) lk_X10_stumble_38 rfl rfl rfl (Nat.le_of_ble_eq_true rfl) dX10_stumble_133 (fun H locs G => ?_)
                  have G : wd X (va_A (@HAppend.hAppend va_W va_W va_W _ (xW h0 nw sp xa la lb) (@HAppend.hAppend va_W va_W va_W _ (rcV X nw an sv dv n0 n1 n2 n3 n4 g0 gs gn gm) (@HAppend.hAppend va_W va_W va_W _ (odW (xa 11) vo) ([((xa 5), .inl (X.2.1, 3, .inl fr))])))) sz) (va_A (@HAppend.hAppend va_W va_W va_W _ (xW h0 nw sp xa la lb) (@HAppend.hAppend va_W va_W va_W _ (rcV X nw an sv dv n0 n1 n2 n3 n4 g0 gs gn gm) (@HAppend.hAppend va_W va_W va_W _ (odW (xa 11) vo) ([((xa 5), .inl (X.2.1, 3, .inl fr))])))) sz) s (@HAppend.hAppend va_W va_W va_W _ (xW h0 nw sp xa y_268 lb) (@HAppend.hAppend va_W va_W va_W _ (rcV X nw an sv dv n0 n1 n2 n3 n4 g0 gs gn gm) (@HAppend.hAppend va_W va_W va_W _ ([((xa 5), .inl (X.2.1, 3, .inl fr))]) (odW (xa 11) v_261)))) H locs := G
                  refine lv_aload_n zx zb dX10_stumble_136 rfl (lv_at hl 4 rfl) ?_
                  refine lv_lload zx zb dX10_stumble_137 (lv_at hl 1 rfl) ?_
                  refine lv_lload zx zb dX10_stumble_139 (lv_at hl 0 rfl) ?_
                  refine lv_ldiv zx zb dX10_stumble_141 (k_lnz2 c_265) ?_
                  refine k_ldE (fun y_269 => ?_)
                  refine r_put (C := RX10) (T := TX10) (N := 14) (ci := 8) (v := .long y_269) S in_X10_stumble_X10 tyX10_ok nmX10 G 0 rfl rfl 7 (by decide) lk_X10_stumble_42 rfl rfl rfl (Nat.le_of_ble_eq_true rfl) dX10_stumble_142 (fun H locs G => ?_)
                  have G : wd X (va_A (@HAppend.hAppend va_W va_W va_W _ (xW h0 nw sp xa la lb) (@HAppend.hAppend va_W va_W va_W _ (rcV X nw an sv dv n0 n1 n2 n3 n4 g0 gs gn gm) (@HAppend.hAppend va_W va_W va_W _ (odW (xa 11) vo) ([((xa 5), .inl (X.2.1, 3, .inl fr))])))) sz) (va_A (@HAppend.hAppend va_W va_W va_W _ (xW h0 nw sp xa la lb) (@HAppend.hAppend va_W va_W va_W _ (rcV X nw an sv dv n0 n1 n2 n3 n4 g0 gs gn gm) (@HAppend.hAppend va_W va_W va_W _ (odW (xa 11) vo) ([((xa 5), .inl (X.2.1, 3, .inl fr))])))) sz) s (@HAppend.hAppend va_W va_W va_W _ (xW h0 nw sp xa y_268 y_269) (@HAppend.hAppend va_W va_W va_W _ (rcV X nw an sv dv n0 n1 n2 n3 n4 g0 gs gn gm) (@HAppend.hAppend va_W va_W va_W _ ([((xa 5), .inl (X.2.1, 3, .inl fr))]) (odW (xa 11) v_261)))) H locs := G
                  exact join_124 y_268 y_269 _ _ _  G hl
              · intro la_266 lb_267 H locs ls  G hl
                refine lv_iconst (v := 1) zx zb dX10_stumble_145 (by decide) ?_
                exact e_int S zr zlk (vp_nar_int _) G (la_266, lb_267, v_261, fr) [0, 1, 2, 3, 4, 5, 6, 7, 8, 9, 10, 11, 12, 13, 14, 15, 16, 18, 17] rfl rfl (Or.inr rfl) ((stuF_p ⟨⟨_, hj_1, rfl⟩, hw_3, hw_5, hw_7⟩).symm) dX10_stumble_146
            · refine k_it (v := 5) rfl ?_
              refine r_aald (C := RX8) (b := (an 6)) S G 2 3 rfl rfl (k_vp (by decide)) rfl dX10_stumble_54 ?_
              refine lv_astore (lv' := [(5, .ref (an 6)), (0, .ref h0), (1, .int 5), (2, .int x2), (3, .int 4), (4, .int x4)]) zx zb dX10_stumble_55 hl (by decide) rfl (fun ls hl => ?_)
              refine lv_aload_n zx zb dX10_stumble_57 rfl (lv_at hl 1 rfl) ?_
              refine r_get (C := RX10) (T := TX10) (N := 14) (ci := 8) (v := .ref (xa 11)) S in_X10_stumble_X10 G 0 rfl rfl 11 (by decide) lk_X10_stumble_65 rfl dX10_stumble_58 ?_
              refine lv_aload zx zb dX10_stumble_61 (lv_at hl 0 rfl) ?_
              refine lv_aload_n zx zb dX10_stumble_63 rfl (lv_at hl 1 rfl) ?_
              refine r_get (C := RX10) (T := TX10) (N := 14) (ci := 8) (v := .ref nw) S in_X10_stumble_X10 G 0 rfl rfl 0 (by decide) lk_X10_stumble_10 rfl dX10_stumble_64 ?_
              refine r_get (C := RX5) (T := TX5) (N := 8) (ci := 3) (v := .int (dv 0)) S in_X10_stumble_X5 G 1 rfl rfl 0 (by decide) lk_X10_stumble_140 rfl dX10_stumble_67 ?_
              refine lv_aload_n zx zb dX10_stumble_70 rfl (lv_at hl 1 rfl) ?_
              refine r_get (C := RX10) (T := TX10) (N := 14) (ci := 8) (v := .ref nw) S in_X10_stumble_X10 G 0 rfl rfl 0 (by decide) lk_X10_stumble_10 rfl dX10_stumble_71 ?_
              refine r_get (C := RX5) (T := TX5) (N := 8) (ci := 3) (v := .int (dv 1)) S in_X10_stumble_X5 G 1 rfl rfl 1 (by decide) lk_X10_stumble_110 rfl dX10_stumble_74 ?_
              refine lv_iload_n zx zb dX10_stumble_77 rfl (lv_at hl 4 rfl) ?_
              refine r_iadd (v := ((dv 1) + 4)) S rfl dX10_stumble_78 ?_
              refine lv_iload_n zx zb dX10_stumble_79 rfl (lv_at hl 3 rfl) ?_
              refine lv_iload zx zb dX10_stumble_80 (lv_at hl 5 rfl) ?_
              refine b_wv (cells' := 0) (slots' := 0) (wr := @HAppend.hAppend va_W va_W va_W _ (xW h0 nw sp xa la lb) (@HAppend.hAppend va_W va_W va_W _ ([(nw, .inr (3, [.int (dv 0), .int (dv 1), .int (nI n0), .ref (an 0), .ref (an 7), .ref (an 9), .ref (an 11), .ref (an 13)])), ((an 0), .inl (X.2.2.2.2, 6, .inr (.inr (.inr (.inr (rowQ an)))))), ((an 1), .inr (6, [.int (sv 0), .int (sv 1), .int (sv 2), .int (dv 10), .int (dv 11), .int (dv 12), .int (dv 13), .int (dv 14)])), ((an 2), .inr (6, [.int (sv 3), .int (sv 4), .int (sv 5), .int (dv 15), .int (dv 16), .int (dv 17), .int (dv 18), .int (dv 19)])), ((an 3), .inr (6, [.int (sv 6), .int (sv 7), .int (sv 8), .int (dv 20), .int (dv 21), .int (dv 22), .int (dv 23), .int (dv 24)])), ((an 4), .inr (6, [.int (sv 9), .int (sv 10), .int (sv 11), .int (dv 25), .int (dv 26), .int (dv 27), .int (dv 28), .int (dv 29)])), ((an 5), .inr (6, [.int (sv 12), .int (sv 13), .int (sv 14), .int (dv 30), .int (dv 31), .int (dv 32), .int (dv 33), .int (dv 34)])), ((an 7), .inr (2, [.ref (an 8), .int (nI n1)])), ((an 8), .inl (X.2.1, 248, .inl g0)), ((an 9), .inr (5, [.int 5, .int 0, .int 1, .ref (an 10), .int (nI n2)])), ((an 10), .inl (X.2.1, 25, .inl gs)), ((an 11), .inr (5, [.int 6, .int 1, .int 1, .ref (an 12), .int (nI n3)])), ((an 12), .inl (X.2.1, 30, .inl gn)), ((an 13), .inr (5, [.int 6, .int 0, .int 0, .ref (an 14), .int (nI n4)])), ((an 14), .inl (X.2.1, 30, .inl gm))]) ([((xa 5), .inl (X.2.1, 3, .inl fr))]))) G rfl rfl [17, 8] [0, 1, 2, 3, 4, 5, 6, 7, 9, 10, 11, 12, 13, 14, 15, 16, 18] rfl rfl rfl rfl (n_V (As := [.ref (an 6), .int (dv 0), .int ((dv 1) + 4), .int x2, .int x4]) (rest := []) (C := RX3) (T := TX3) (N := 8) (ci := 1) S G (s_pose l X (xa 11) vo (an 6) (fun k => sv (15 + k)) (fun k => dv (35 + k)) (dv 0) ((dv 1) + 4) x2 x4 H.size) gX10_stumble_X3_pose rfl rfl rfl hdV_X3_pose ⟨Nat.le_of_ble_eq_true rfl, Nat.le_of_ble_eq_true rfl⟩ [17, 8] rfl rfl 17 rfl rfl rfl hl.1 (Nat.le_of_ble_eq_true rfl) dX10_stumble_82 ⟨Nat.le_of_ble_eq_true rfl, Nat.le_of_ble_eq_true rfl⟩) (fun u_270 H locs hp_270 G => ?_)
              obtain ⟨v_270, rfl⟩ : ∃ z, z = u_270 := ⟨_, rfl⟩
              have hq_270 := hp_270
              have G : wd X (va_A (@HAppend.hAppend va_W va_W va_W _ (xW h0 nw sp xa la lb) (@HAppend.hAppend va_W va_W va_W _ (rcV X nw an sv dv n0 n1 n2 n3 n4 g0 gs gn gm) (@HAppend.hAppend va_W va_W va_W _ (odW (xa 11) vo) ([((xa 5), .inl (X.2.1, 3, .inl fr))])))) sz) (va_A (@HAppend.hAppend va_W va_W va_W _ (xW h0 nw sp xa la lb) (@HAppend.hAppend va_W va_W va_W _ (rcV X nw an sv dv n0 n1 n2 n3 n4 g0 gs gn gm) (@HAppend.hAppend va_W va_W va_W _ (odW (xa 11) vo) ([((xa 5), .inl (X.2.1, 3, .inl fr))])))) sz) s (@HAppend.hAppend va_W va_W va_W _ (xW h0 nw sp xa la lb) (@HAppend.hAppend va_W va_W va_W _ (rcV X nw an sv dv n0 n1 n2 n3 n4 g0 gs gn gm) (@HAppend.hAppend va_W va_W va_W _ ([((xa 5), .inl (X.2.1, 3, .inl fr))]) (odW (xa 11) v_270)))) H locs := wd_sub G [0, 1, 2, 3, 4, 5, 6, 7, 18, 8, 9, 10, 11, 12, 13, 14, 15, 16, 17] rfl rfl
              refine lv_aload_n zx zb dX10_stumble_85 rfl (lv_at hl 1 rfl) ?_
              refine r_get (C := RX10) (T := TX10) (N := 14) (ci := 8) (v := .ref (xa 11)) S in_X10_stumble_X10 G 0 rfl rfl 11 (by decide) lk_X10_stumble_65 rfl dX10_stumble_86 ?_
              refine lv_aload zx zb dX10_stumble_89 (lv_at hl 0 rfl) ?_
              refine r_get (C := RX8) (T := TX8) (N := 8) (ci := 6) (v := .int (dv 36)) S in_X10_stumble_X8 G 8 rfl rfl 4 (by decide) lk_X10_stumble_137 rfl dX10_stumble_91 ?_
              refine lv_aload zx zb dX10_stumble_94 (lv_at hl 0 rfl) ?_
              refine r_get (C := RX8) (T := TX8) (N := 8) (ci := 6) (v := .int (dv 38)) S in_X10_stumble_X8 G 8 rfl rfl 6 (by decide) lk_X10_stumble_240 rfl dX10_stumble_96 ?_
              refine lv_iload_n zx zb dX10_stumble_99 rfl (lv_at hl 4 rfl) ?_
              refine o_rl (cells' := 0) (slots' := 0) G rfl rfl (n_SN (As := [.ref (xa 11), .int (dv 36), .int (dv 38), .int 4]) (rest := []) (host := "EggSpoons") S G (s_ways4 l X (xa 11) v_270 (dv 36) (dv 38) H.size) gX10_stumble_X3_ways_n243 rfl rfl rfl mm_X10_stumble_inX3 G.1.2.2.2.2.2.2.2.2.2.2.2 mm_X10_stumble_stX3_ways hdS_X3_ways ⟨Nat.le_of_ble_eq_true rfl, Nat.le_of_ble_eq_true rfl⟩ [18] rfl rfl rfl hl.1 (Nat.le_of_ble_eq_true rfl) dX10_stumble_100 ⟨Nat.le_of_ble_eq_true rfl, Nat.le_of_ble_eq_true rfl⟩) (fun r_271 u_271 H locs hp_271 G => ?_)
              have G : wd X (va_A (@HAppend.hAppend va_W va_W va_W _ (xW h0 nw sp xa la lb) (@HAppend.hAppend va_W va_W va_W _ (rcV X nw an sv dv n0 n1 n2 n3 n4 g0 gs gn gm) (@HAppend.hAppend va_W va_W va_W _ (odW (xa 11) vo) ([((xa 5), .inl (X.2.1, 3, .inl fr))])))) sz) (va_A (@HAppend.hAppend va_W va_W va_W _ (xW h0 nw sp xa la lb) (@HAppend.hAppend va_W va_W va_W _ (rcV X nw an sv dv n0 n1 n2 n3 n4 g0 gs gn gm) (@HAppend.hAppend va_W va_W va_W _ (odW (xa 11) vo) ([((xa 5), .inl (X.2.1, 3, .inl fr))])))) sz) s (@HAppend.hAppend va_W va_W va_W _ (xW h0 nw sp xa la lb) (@HAppend.hAppend va_W va_W va_W _ (rcV X nw an sv dv n0 n1 n2 n3 n4 g0 gs gn gm) (@HAppend.hAppend va_W va_W va_W _ ([((xa 5), .inl (X.2.1, 3, .inl fr))]) (odW (xa 11) v_270)))) H locs := G
              refine lv_lstore (lv' := [(6, .long r_271), (5, .ref (an 6)), (0, .ref h0), (1, .int 5), (2, .int x2), (3, .int 4), (4, .int x4)]) zx zb dX10_stumble_103 hl (by decide) rfl (fun ls hl => ?_)
              refine lv_iload_n zx zb dX10_stumble_105 rfl (lv_at hl 5 rfl) ?_
              refine o_rl (cells' := 0) (slots' := 0) G rfl rfl (n_S (As := [.int 4]) (rest := []) S G (s_tenTo l X 4 (by omega) H.size) gX10_stumble_X3_tenTo rfl rfl rfl hdS_X3_tenTo ⟨Nat.le_of_ble_eq_true rfl, Nat.le_of_ble_eq_true rfl⟩ [] rfl rfl rfl hl.1 (Nat.le_of_ble_eq_true rfl) dX10_stumble_106 ⟨Nat.le_of_ble_eq_true rfl, Nat.le_of_ble_eq_true rfl⟩) (fun r_272 u_272 H locs hp_272 G => ?_)
              have G : wd X (va_A (@HAppend.hAppend va_W va_W va_W _ (xW h0 nw sp xa la lb) (@HAppend.hAppend va_W va_W va_W _ (rcV X nw an sv dv n0 n1 n2 n3 n4 g0 gs gn gm) (@HAppend.hAppend va_W va_W va_W _ (odW (xa 11) vo) ([((xa 5), .inl (X.2.1, 3, .inl fr))])))) sz) (va_A (@HAppend.hAppend va_W va_W va_W _ (xW h0 nw sp xa la lb) (@HAppend.hAppend va_W va_W va_W _ (rcV X nw an sv dv n0 n1 n2 n3 n4 g0 gs gn gm) (@HAppend.hAppend va_W va_W va_W _ (odW (xa 11) vo) ([((xa 5), .inl (X.2.1, 3, .inl fr))])))) sz) s (@HAppend.hAppend va_W va_W va_W _ (xW h0 nw sp xa la lb) (@HAppend.hAppend va_W va_W va_W _ (rcV X nw an sv dv n0 n1 n2 n3 n4 g0 gs gn gm) (@HAppend.hAppend va_W va_W va_W _ ([((xa 5), .inl (X.2.1, 3, .inl fr))]) (odW (xa 11) v_270)))) H locs := G
              refine lv_lstore (lv' := [(8, .long r_272), (6, .long r_271), (5, .ref (an 6)), (0, .ref h0), (1, .int 5), (2, .int x2), (3, .int 4), (4, .int x4)]) zx zb dX10_stumble_109 hl (by decide) rfl (fun ls hl => ?_)
              refine lv_lload zx zb dX10_stumble_111 (lv_at hl 1 rfl) ?_
              refine lv_lload zx zb dX10_stumble_113 (lv_at hl 0 rfl) ?_
              refine o_rl (cells' := 0) (slots' := 0) G rfl rfl (n_S (As := [.long r_271, .long r_272]) (rest := []) S G (s_commonPart l X r_271 r_272 H.size) gX10_stumble_X3_commonPart rfl rfl rfl hdS_X3_commonPart ⟨Nat.le_of_ble_eq_true rfl, Nat.le_of_ble_eq_true rfl⟩ [] rfl rfl rfl hl.1 (Nat.le_of_ble_eq_true rfl) dX10_stumble_115 ⟨Nat.le_of_ble_eq_true rfl, Nat.le_of_ble_eq_true rfl⟩) (fun r_273 u_273 H locs hp_273 G => ?_)
              have G : wd X (va_A (@HAppend.hAppend va_W va_W va_W _ (xW h0 nw sp xa la lb) (@HAppend.hAppend va_W va_W va_W _ (rcV X nw an sv dv n0 n1 n2 n3 n4 g0 gs gn gm) (@HAppend.hAppend va_W va_W va_W _ (odW (xa 11) vo) ([((xa 5), .inl (X.2.1, 3, .inl fr))])))) sz) (va_A (@HAppend.hAppend va_W va_W va_W _ (xW h0 nw sp xa la lb) (@HAppend.hAppend va_W va_W va_W _ (rcV X nw an sv dv n0 n1 n2 n3 n4 g0 gs gn gm) (@HAppend.hAppend va_W va_W va_W _ (odW (xa 11) vo) ([((xa 5), .inl (X.2.1, 3, .inl fr))])))) sz) s (@HAppend.hAppend va_W va_W va_W _ (xW h0 nw sp xa la lb) (@HAppend.hAppend va_W va_W va_W _ (rcV X nw an sv dv n0 n1 n2 n3 n4 g0 gs gn gm) (@HAppend.hAppend va_W va_W va_W _ ([((xa 5), .inl (X.2.1, 3, .inl fr))]) (odW (xa 11) v_270)))) H locs := G
              refine lv_lstore (lv' := [(10, .long r_273), (8, .long r_272), (6, .long r_271), (5, .ref (an 6)), (0, .ref h0), (1, .int 5), (2, .int x2), (3, .int 4), (4, .int x4)]) zx zb dX10_stumble_118 hl (by decide) rfl (fun ls hl => ?_)
              refine lv_lload zx zb dX10_stumble_120 (lv_at hl 0 rfl) ?_
              refine lv_lconst (v := (Int32.toInt64 0)) zx zb dX10_stumble_122 (by decide) ?_
              refine W.lcmp zx zb dX10_stumble_123 ?_
              refine k_cutW (PP := fun Wx => ∀ (la_275 : Int64) (lb_276 : Int64) (H : Heap) (locs : List Loc) (ls : Array Slot), wd X (va_A (@HAppend.hAppend va_W va_W va_W _ (xW h0 nw sp xa la lb) (@HAppend.hAppend va_W va_W va_W _ (rcV X nw an sv dv n0 n1 n2 n3 n4 g0 gs gn gm) (@HAppend.hAppend va_W va_W va_W _ (odW (xa 11) vo) ([((xa 5), .inl (X.2.1, 3, .inl fr))])))) sz) (va_A (@HAppend.hAppend va_W va_W va_W _ (xW h0 nw sp xa la lb) (@HAppend.hAppend va_W va_W va_W _ (rcV X nw an sv dv n0 n1 n2 n3 n4 g0 gs gn gm) (@HAppend.hAppend va_W va_W va_W _ (odW (xa 11) vo) ([((xa 5), .inl (X.2.1, 3, .inl fr))])))) sz) s (@HAppend.hAppend va_W va_W va_W _ (xW h0 nw sp xa la_275 lb_276) (@HAppend.hAppend va_W va_W va_W _ (rcV X nw an sv dv n0 n1 n2 n3 n4 g0 gs gn gm) (@HAppend.hAppend va_W va_W va_W _ ([((xa 5), .inl (X.2.1, 3, .inl fr))]) (odW (xa 11) v_270)))) H locs → lv_has ls 12 [(10, .long r_273), (8, .long r_272), (6, .long r_271), (5, .ref (an 6)), (0, .ref h0), (1, .int 5), (2, .int x2), (3, .int 4), (4, .int x4)] → Wx (F0 m 145 ls []) H locs) ?_ ?_
              · intro join_124
                refine lv_if_le (tgt := 145) zx zb dX10_stumble_124 (by decide) (fun c_274 => ?_) (fun c_274 => ?_)
                · exact join_124 la lb _ _ _  G hl
                · refine lv_aload_n zx zb dX10_stumble_127 rfl (lv_at hl 4 rfl) ?_
                  refine lv_lload zx zb dX10_stumble_128 (lv_at hl 2 rfl) ?_
                  refine lv_lload zx zb dX10_stumble_130 (lv_at hl 0 rfl) ?_
                  refine lv_ldiv zx zb dX10_stumble_132 (k_lnz2 c_274) ?_
                  refine k_ldE (fun y_277 => ?_)
                  refine r_put (C := RX10) (T := TX10) (N := 14) (ci := 8) (v := .long y_277) S in_X10_stumble_X10 tyX10_ok nmX10 G 0 rfl rfl 6 (by decide) lk_X10_stumble_38 rfl rfl rfl (Nat.le_of_ble_eq_true rfl) dX10_stumble_133 (fun H locs G => ?_)
                  have G : wd X (va_A (@HAppend.hAppend va_W va_W va_W _ (xW h0 nw sp xa la lb) (@HAppend.hAppend va_W va_W va_W _ (rcV X nw an sv dv n0 n1 n2 n3 n4 g0 gs gn gm) (@HAppend.hAppend va_W va_W va_W _ (odW (xa 11) vo) ([((xa 5), .inl (X.2.1, 3, .inl fr))])))) sz) (va_A (@HAppend.hAppend va_W va_W va_W _ (xW h0 nw sp xa la lb) (@HAppend.hAppend va_W va_W va_W _ (rcV X nw an sv dv n0 n1 n2 n3 n4 g0 gs gn gm) (@HAppend.hAppend va_W va_W va_W _ (odW (xa 11) vo) ([((xa 5), .inl (X.2.1, 3, .inl fr))])))) sz) s (@HAppend.hAppend va_W va_W va_W _ (xW h0 nw sp xa y_277 lb) (@HAppend.hAppend va_W va_W va_W _ (rcV X nw an sv dv n0 n1 n2 n3 n4 g0 gs gn gm) (@HAppend.hAppend va_W va_W va_W _ ([((xa 5), .inl (X.2.1, 3, .inl fr))]) (odW (xa 11) v_270)))) H locs := G
                  refine lv_aload_n zx zb dX10_stumble_136 rfl (lv_at hl 4 rfl) ?_
                  refine lv_lload zx zb dX10_stumble_137 (lv_at hl 1 rfl) ?_
                  refine lv_lload zx zb dX10_stumble_139 (lv_at hl 0 rfl) ?_
                  refine lv_ldiv zx zb dX10_stumble_141 (k_lnz2 c_274) ?_
                  refine k_ldE (fun y_278 => ?_)
                  refine r_put (C := RX10) (T := TX10) (N := 14) (ci := 8) (v := .long y_278) S in_X10_stumble_X10 tyX10_ok nmX10 G 0 rfl rfl 7 (by decide) lk_X10_stumble_42 rfl rfl rfl (Nat.le_of_ble_eq_true rfl) dX10_stumble_142 (fun H locs G => ?_)
                  have G : wd X (va_A (@HAppend.hAppend va_W va_W va_W _ (xW h0 nw sp xa la lb) (@HAppend.hAppend va_W va_W va_W _ (rcV X nw an sv dv n0 n1 n2 n3 n4 g0 gs gn gm) (@HAppend.hAppend va_W va_W va_W _ (odW (xa 11) vo) ([((xa 5), .inl (X.2.1, 3, .inl fr))])))) sz) (va_A (@HAppend.hAppend va_W va_W va_W _ (xW h0 nw sp xa la lb) (@HAppend.hAppend va_W va_W va_W _ (rcV X nw an sv dv n0 n1 n2 n3 n4 g0 gs gn gm) (@HAppend.hAppend va_W va_W va_W _ (odW (xa 11) vo) ([((xa 5), .inl (X.2.1, 3, .inl fr))])))) sz) s (@HAppend.hAppend va_W va_W va_W _ (xW h0 nw sp xa y_277 y_278) (@HAppend.hAppend va_W va_W va_W _ (rcV X nw an sv dv n0 n1 n2 n3 n4 g0 gs gn gm) (@HAppend.hAppend va_W va_W va_W _ ([((xa 5), .inl (X.2.1, 3, .inl fr))]) (odW (xa 11) v_270)))) H locs := G
                  exact join_124 y_277 y_278 _ _ _  G hl
              · intro la_275 lb_276 H locs ls  G hl
                refine lv_iconst (v := 1) zx zb dX10_stumble_145 (by decide) ?_
                exact e_int S zr zlk (vp_nar_int _) G (la_275, lb_276, v_270, fr) [0, 1, 2, 3, 4, 5, 6, 7, 8, 9, 10, 11, 12, 13, 14, 15, 16, 18, 17] rfl rfl (Or.inr rfl) ((stuF_p ⟨⟨_, hj_1, rfl⟩, hw_3, hw_5, hw_7⟩).symm) dX10_stumble_146
          · have hl : lv_has ls 12 [(0, .ref h0), (1, .int (nI j_1)), (2, .int x2), (3, .int 5), (4, .int x4)] := hl
            refine lv_aload_n zx zb dX10_stumble_46 rfl (lv_at hl 0 rfl) ?_
            refine r_get (C := RX10) (T := TX10) (N := 14) (ci := 8) (v := .ref nw) S in_X10_stumble_X10 G 0 rfl rfl 0 (by decide) lk_X10_stumble_10 rfl dX10_stumble_47 ?_
            refine r_get (C := RX5) (T := TX5) (N := 8) (ci := 3) (v := .ref (an 0)) S in_X10_stumble_X5 G 1 rfl rfl 3 (by decide) lk_X10_stumble_126 rfl dX10_stumble_50 ?_
            refine lv_iload_n zx zb dX10_stumble_53 rfl (lv_at hl 1 rfl) ?_
            rcases k_6c (show j_1 < 6 by omega) with rfl | rfl | rfl | rfl | rfl | rfl
            · refine k_it (v := 0) rfl ?_
              refine r_aald (C := RX8) (b := (an 1)) S G 2 3 rfl rfl (k_vp (by decide)) rfl dX10_stumble_54 ?_
              refine lv_astore (lv' := [(5, .ref (an 1)), (0, .ref h0), (1, .int 0), (2, .int x2), (3, .int 5), (4, .int x4)]) zx zb dX10_stumble_55 hl (by decide) rfl (fun ls hl => ?_)
              refine lv_aload_n zx zb dX10_stumble_57 rfl (lv_at hl 1 rfl) ?_
              refine r_get (C := RX10) (T := TX10) (N := 14) (ci := 8) (v := .ref (xa 11)) S in_X10_stumble_X10 G 0 rfl rfl 11 (by decide) lk_X10_stumble_65 rfl dX10_stumble_58 ?_
              refine lv_aload zx zb dX10_stumble_61 (lv_at hl 0 rfl) ?_
              refine lv_aload_n zx zb dX10_stumble_63 rfl (lv_at hl 1 rfl) ?_
              refine r_get (C := RX10) (T := TX10) (N := 14) (ci := 8) (v := .ref nw) S in_X10_stumble_X10 G 0 rfl rfl 0 (by decide) lk_X10_stumble_10 rfl dX10_stumble_64 ?_
              refine r_get (C := RX5) (T := TX5) (N := 8) (ci := 3) (v := .int (dv 0)) S in_X10_stumble_X5 G 1 rfl rfl 0 (by decide) lk_X10_stumble_140 rfl dX10_stumble_67 ?_
              refine lv_aload_n zx zb dX10_stumble_70 rfl (lv_at hl 1 rfl) ?_
              refine r_get (C := RX10) (T := TX10) (N := 14) (ci := 8) (v := .ref nw) S in_X10_stumble_X10 G 0 rfl rfl 0 (by decide) lk_X10_stumble_10 rfl dX10_stumble_71 ?_
              refine r_get (C := RX5) (T := TX5) (N := 8) (ci := 3) (v := .int (dv 1)) S in_X10_stumble_X5 G 1 rfl rfl 1 (by decide) lk_X10_stumble_110 rfl dX10_stumble_74 ?_
              refine lv_iload_n zx zb dX10_stumble_77 rfl (lv_at hl 4 rfl) ?_
              refine r_iadd (v := ((dv 1) + 5)) S rfl dX10_stumble_78 ?_
              refine lv_iload_n zx zb dX10_stumble_79 rfl (lv_at hl 3 rfl) ?_
              refine lv_iload zx zb dX10_stumble_80 (lv_at hl 5 rfl) ?_
              refine b_wv (cells' := 0) (slots' := 0) (wr := @HAppend.hAppend va_W va_W va_W _ (xW h0 nw sp xa la lb) (@HAppend.hAppend va_W va_W va_W _ ([(nw, .inr (3, [.int (dv 0), .int (dv 1), .int (nI n0), .ref (an 0), .ref (an 7), .ref (an 9), .ref (an 11), .ref (an 13)])), ((an 0), .inl (X.2.2.2.2, 6, .inr (.inr (.inr (.inr (rowQ an)))))), ((an 2), .inr (6, [.int (sv 3), .int (sv 4), .int (sv 5), .int (dv 15), .int (dv 16), .int (dv 17), .int (dv 18), .int (dv 19)])), ((an 3), .inr (6, [.int (sv 6), .int (sv 7), .int (sv 8), .int (dv 20), .int (dv 21), .int (dv 22), .int (dv 23), .int (dv 24)])), ((an 4), .inr (6, [.int (sv 9), .int (sv 10), .int (sv 11), .int (dv 25), .int (dv 26), .int (dv 27), .int (dv 28), .int (dv 29)])), ((an 5), .inr (6, [.int (sv 12), .int (sv 13), .int (sv 14), .int (dv 30), .int (dv 31), .int (dv 32), .int (dv 33), .int (dv 34)])), ((an 6), .inr (6, [.int (sv 15), .int (sv 16), .int (sv 17), .int (dv 35), .int (dv 36), .int (dv 37), .int (dv 38), .int (dv 39)])), ((an 7), .inr (2, [.ref (an 8), .int (nI n1)])), ((an 8), .inl (X.2.1, 248, .inl g0)), ((an 9), .inr (5, [.int 5, .int 0, .int 1, .ref (an 10), .int (nI n2)])), ((an 10), .inl (X.2.1, 25, .inl gs)), ((an 11), .inr (5, [.int 6, .int 1, .int 1, .ref (an 12), .int (nI n3)])), ((an 12), .inl (X.2.1, 30, .inl gn)), ((an 13), .inr (5, [.int 6, .int 0, .int 0, .ref (an 14), .int (nI n4)])), ((an 14), .inl (X.2.1, 30, .inl gm))]) ([((xa 5), .inl (X.2.1, 3, .inl fr))]))) G rfl rfl [17, 3] [0, 1, 2, 4, 5, 6, 7, 8, 9, 10, 11, 12, 13, 14, 15, 16, 18] rfl rfl rfl rfl (n_V (As := [.ref (an 1), .int (dv 0), .int ((dv 1) + 5), .int x2, .int x4]) (rest := []) (C := RX3) (T := TX3) (N := 8) (ci := 1) S G (s_pose l X (xa 11) vo (an 1) (fun k => sv (0 + k)) (fun k => dv (10 + k)) (dv 0) ((dv 1) + 5) x2 x4 H.size) gX10_stumble_X3_pose rfl rfl rfl hdV_X3_pose ⟨Nat.le_of_ble_eq_true rfl, Nat.le_of_ble_eq_true rfl⟩ [17, 3] rfl rfl 17 rfl rfl rfl hl.1 (Nat.le_of_ble_eq_true rfl) dX10_stumble_82 ⟨Nat.le_of_ble_eq_true rfl, Nat.le_of_ble_eq_true rfl⟩) (fun u_279 H locs hp_279 G => ?_)
              obtain ⟨v_279, rfl⟩ : ∃ z, z = u_279 := ⟨_, rfl⟩
              have hq_279 := hp_279
              have G : wd X (va_A (@HAppend.hAppend va_W va_W va_W _ (xW h0 nw sp xa la lb) (@HAppend.hAppend va_W va_W va_W _ (rcV X nw an sv dv n0 n1 n2 n3 n4 g0 gs gn gm) (@HAppend.hAppend va_W va_W va_W _ (odW (xa 11) vo) ([((xa 5), .inl (X.2.1, 3, .inl fr))])))) sz) (va_A (@HAppend.hAppend va_W va_W va_W _ (xW h0 nw sp xa la lb) (@HAppend.hAppend va_W va_W va_W _ (rcV X nw an sv dv n0 n1 n2 n3 n4 g0 gs gn gm) (@HAppend.hAppend va_W va_W va_W _ (odW (xa 11) vo) ([((xa 5), .inl (X.2.1, 3, .inl fr))])))) sz) s (@HAppend.hAppend va_W va_W va_W _ (xW h0 nw sp xa la lb) (@HAppend.hAppend va_W va_W va_W _ (rcV X nw an sv dv n0 n1 n2 n3 n4 g0 gs gn gm) (@HAppend.hAppend va_W va_W va_W _ ([((xa 5), .inl (X.2.1, 3, .inl fr))]) (odW (xa 11) v_279)))) H locs := wd_sub G [0, 1, 2, 18, 3, 4, 5, 6, 7, 8, 9, 10, 11, 12, 13, 14, 15, 16, 17] rfl rfl
              refine lv_aload_n zx zb dX10_stumble_85 rfl (lv_at hl 1 rfl) ?_
              refine r_get (C := RX10) (T := TX10) (N := 14) (ci := 8) (v := .ref (xa 11)) S in_X10_stumble_X10 G 0 rfl rfl 11 (by decide) lk_X10_stumble_65 rfl dX10_stumble_86 ?_
              refine lv_aload zx zb dX10_stumble_89 (lv_at hl 0 rfl) ?_
              refine r_get (C := RX8) (T := TX8) (N := 8) (ci := 6) (v := .int (dv 11)) S in_X10_stumble_X8 G 3 rfl rfl 4 (by decide) lk_X10_stumble_137 rfl dX10_stumble_91 ?_
              refine lv_aload zx zb dX10_stumble_94 (lv_at hl 0 rfl) ?_
              refine r_get (C := RX8) (T := TX8) (N := 8) (ci := 6) (v := .int (dv 13)) S in_X10_stumble_X8 G 3 rfl rfl 6 (by decide) lk_X10_stumble_240 rfl dX10_stumble_96 ?_
              refine lv_iload_n zx zb dX10_stumble_99 rfl (lv_at hl 4 rfl) ?_
              refine o_rl (cells' := 0) (slots' := 0) G rfl rfl (n_SN (As := [.ref (xa 11), .int (dv 11), .int (dv 13), .int 5]) (rest := []) (host := "EggSpoons") S G (s_ways5 l X (xa 11) v_279 (dv 11) (dv 13) H.size) gX10_stumble_X3_ways_n243 rfl rfl rfl mm_X10_stumble_inX3 G.1.2.2.2.2.2.2.2.2.2.2.2 mm_X10_stumble_stX3_ways hdS_X3_ways ⟨Nat.le_of_ble_eq_true rfl, Nat.le_of_ble_eq_true rfl⟩ [18] rfl rfl rfl hl.1 (Nat.le_of_ble_eq_true rfl) dX10_stumble_100 ⟨Nat.le_of_ble_eq_true rfl, Nat.le_of_ble_eq_true rfl⟩) (fun r_280 u_280 H locs hp_280 G => ?_)
              have G : wd X (va_A (@HAppend.hAppend va_W va_W va_W _ (xW h0 nw sp xa la lb) (@HAppend.hAppend va_W va_W va_W _ (rcV X nw an sv dv n0 n1 n2 n3 n4 g0 gs gn gm) (@HAppend.hAppend va_W va_W va_W _ (odW (xa 11) vo) ([((xa 5), .inl (X.2.1, 3, .inl fr))])))) sz) (va_A (@HAppend.hAppend va_W va_W va_W _ (xW h0 nw sp xa la lb) (@HAppend.hAppend va_W va_W va_W _ (rcV X nw an sv dv n0 n1 n2 n3 n4 g0 gs gn gm) (@HAppend.hAppend va_W va_W va_W _ (odW (xa 11) vo) ([((xa 5), .inl (X.2.1, 3, .inl fr))])))) sz) s (@HAppend.hAppend va_W va_W va_W _ (xW h0 nw sp xa la lb) (@HAppend.hAppend va_W va_W va_W _ (rcV X nw an sv dv n0 n1 n2 n3 n4 g0 gs gn gm) (@HAppend.hAppend va_W va_W va_W _ ([((xa 5), .inl (X.2.1, 3, .inl fr))]) (odW (xa 11) v_279)))) H locs := G
              refine lv_lstore (lv' := [(6, .long r_280), (5, .ref (an 1)), (0, .ref h0), (1, .int 0), (2, .int x2), (3, .int 5), (4, .int x4)]) zx zb dX10_stumble_103 hl (by decide) rfl (fun ls hl => ?_)
              refine lv_iload_n zx zb dX10_stumble_105 rfl (lv_at hl 5 rfl) ?_
              refine o_rl (cells' := 0) (slots' := 0) G rfl rfl (n_S (As := [.int 5]) (rest := []) S G (s_tenTo l X 5 (by omega) H.size) gX10_stumble_X3_tenTo rfl rfl rfl hdS_X3_tenTo ⟨Nat.le_of_ble_eq_true rfl, Nat.le_of_ble_eq_true rfl⟩ [] rfl rfl rfl hl.1 (Nat.le_of_ble_eq_true rfl) dX10_stumble_106 ⟨Nat.le_of_ble_eq_true rfl, Nat.le_of_ble_eq_true rfl⟩) (fun r_281 u_281 H locs hp_281 G => ?_)
              have G : wd X (va_A (@HAppend.hAppend va_W va_W va_W _ (xW h0 nw sp xa la lb) (@HAppend.hAppend va_W va_W va_W _ (rcV X nw an sv dv n0 n1 n2 n3 n4 g0 gs gn gm) (@HAppend.hAppend va_W va_W va_W _ (odW (xa 11) vo) ([((xa 5), .inl (X.2.1, 3, .inl fr))])))) sz) (va_A (@HAppend.hAppend va_W va_W va_W _ (xW h0 nw sp xa la lb) (@HAppend.hAppend va_W va_W va_W _ (rcV X nw an sv dv n0 n1 n2 n3 n4 g0 gs gn gm) (@HAppend.hAppend va_W va_W va_W _ (odW (xa 11) vo) ([((xa 5), .inl (X.2.1, 3, .inl fr))])))) sz) s (@HAppend.hAppend va_W va_W va_W _ (xW h0 nw sp xa la lb) (@HAppend.hAppend va_W va_W va_W _ (rcV X nw an sv dv n0 n1 n2 n3 n4 g0 gs gn gm) (@HAppend.hAppend va_W va_W va_W _ ([((xa 5), .inl (X.2.1, 3, .inl fr))]) (odW (xa 11) v_279)))) H locs := G
              refine lv_lstore (lv' := [(8, .long r_281), (6, .long r_280), (5, .ref (an 1)), (0, .ref h0), (1, .int 0), (2, .int x2), (3, .int 5), (4, .int x4)]) zx zb dX10_stumble_109 hl (by decide) rfl (fun ls hl => ?_)
              refine lv_lload zx zb dX10_stumble_111 (lv_at hl 1 rfl) ?_
              refine lv_lload zx zb dX10_stumble_113 (lv_at hl 0 rfl) ?_
              refine o_rl (cells' := 0) (slots' := 0) G rfl rfl (n_S (As := [.long r_280, .long r_281]) (rest := []) S G (s_commonPart l X r_280 r_281 H.size) gX10_stumble_X3_commonPart rfl rfl rfl hdS_X3_commonPart ⟨Nat.le_of_ble_eq_true rfl, Nat.le_of_ble_eq_true rfl⟩ [] rfl rfl rfl hl.1 (Nat.le_of_ble_eq_true rfl) dX10_stumble_115 ⟨Nat.le_of_ble_eq_true rfl, Nat.le_of_ble_eq_true rfl⟩) (fun r_282 u_282 H locs hp_282 G => ?_)
              have G : wd X (va_A (@HAppend.hAppend va_W va_W va_W _ (xW h0 nw sp xa la lb) (@HAppend.hAppend va_W va_W va_W _ (rcV X nw an sv dv n0 n1 n2 n3 n4 g0 gs gn gm) (@HAppend.hAppend va_W va_W va_W _ (odW (xa 11) vo) ([((xa 5), .inl (X.2.1, 3, .inl fr))])))) sz) (va_A (@HAppend.hAppend va_W va_W va_W _ (xW h0 nw sp xa la lb) (@HAppend.hAppend va_W va_W va_W _ (rcV X nw an sv dv n0 n1 n2 n3 n4 g0 gs gn gm) (@HAppend.hAppend va_W va_W va_W _ (odW (xa 11) vo) ([((xa 5), .inl (X.2.1, 3, .inl fr))])))) sz) s (@HAppend.hAppend va_W va_W va_W _ (xW h0 nw sp xa la lb) (@HAppend.hAppend va_W va_W va_W _ (rcV X nw an sv dv n0 n1 n2 n3 n4 g0 gs gn gm) (@HAppend.hAppend va_W va_W va_W _ ([((xa 5), .inl (X.2.1, 3, .inl fr))]) (odW (xa 11) v_279)))) H locs := G
              refine lv_lstore (lv' := [(10, .long r_282), (8, .long r_281), (6, .long r_280), (5, .ref (an 1)), (0, .ref h0), (1, .int 0), (2, .int x2), (3, .int 5), (4, .int x4)]) zx zb dX10_stumble_118 hl (by decide) rfl (fun ls hl => ?_)
              refine lv_lload zx zb dX10_stumble_120 (lv_at hl 0 rfl) ?_
              refine lv_lconst (v := (Int32.toInt64 0)) zx zb dX10_stumble_122 (by decide) ?_
              refine W.lcmp zx zb dX10_stumble_123 ?_
              refine k_cutW (PP := fun Wx => ∀ (la_284 : Int64) (lb_285 : Int64) (H : Heap) (locs : List Loc) (ls : Array Slot), wd X (va_A (@HAppend.hAppend va_W va_W va_W _ (xW h0 nw sp xa la lb) (@HAppend.hAppend va_W va_W va_W _ (rcV X nw an sv dv n0 n1 n2 n3 n4 g0 gs gn gm) (@HAppend.hAppend va_W va_W va_W _ (odW (xa 11) vo) ([((xa 5), .inl (X.2.1, 3, .inl fr))])))) sz) (va_A (@HAppend.hAppend va_W va_W va_W _ (xW h0 nw sp xa la lb) (@HAppend.hAppend va_W va_W va_W _ (rcV X nw an sv dv n0 n1 n2 n3 n4 g0 gs gn gm) (@HAppend.hAppend va_W va_W va_W _ (odW (xa 11) vo) ([((xa 5), .inl (X.2.1, 3, .inl fr))])))) sz) s (@HAppend.hAppend va_W va_W va_W _ (xW h0 nw sp xa la_284 lb_285) (@HAppend.hAppend va_W va_W va_W _ (rcV X nw an sv dv n0 n1 n2 n3 n4 g0 gs gn gm) (@HAppend.hAppend va_W va_W va_W _ ([((xa 5), .inl (X.2.1, 3, .inl fr))]) (odW (xa 11) v_279)))) H locs → lv_has ls 12 [(10, .long r_282), (8, .long r_281), (6, .long r_280), (5, .ref (an 1)), (0, .ref h0), (1, .int 0), (2, .int x2), (3, .int 5), (4, .int x4)] → Wx (F0 m 145 ls []) H locs) ?_ ?_
              · intro join_124
                refine lv_if_le (tgt := 145) zx zb dX10_stumble_124 (by decide) (fun c_283 => ?_) (fun c_283 => ?_)
                · exact join_124 la lb _ _ _  G hl
                · refine lv_aload_n zx zb dX10_stumble_127 rfl (lv_at hl 4 rfl) ?_
                  refine lv_lload zx zb dX10_stumble_128 (lv_at hl 2 rfl) ?_
                  refine lv_lload zx zb dX10_stumble_130 (lv_at hl 0 rfl) ?_
                  refine lv_ldiv zx zb dX10_stumble_132 (k_lnz2 c_283) ?_
                  refine k_ldE (fun y_286 => ?_)
                  refine r_put (C := RX10) (T := TX10) (N := 14) (ci := 8) (v := .long y_286) S in_X10_stumble_X10 tyX10_ok nmX10 G 0 rfl rfl 6 (by decide) lk_X10_stumble_38 rfl rfl rfl (Nat.le_of_ble_eq_true rfl) dX10_stumble_133 (fun H locs G => ?_)
                  have G : wd X (va_A (@HAppend.hAppend va_W va_W va_W _ (xW h0 nw sp xa la lb) (@HAppend.hAppend va_W va_W va_W _ (rcV X nw an sv dv n0 n1 n2 n3 n4 g0 gs gn gm) (@HAppend.hAppend va_W va_W va_W _ (odW (xa 11) vo) ([((xa 5), .inl (X.2.1, 3, .inl fr))])))) sz) (va_A (@HAppend.hAppend va_W va_W va_W _ (xW h0 nw sp xa la lb) (@HAppend.hAppend va_W va_W va_W _ (rcV X nw an sv dv n0 n1 n2 n3 n4 g0 gs gn gm) (@HAppend.hAppend va_W va_W va_W _ (odW (xa 11) vo) ([((xa 5), .inl (X.2.1, 3, .inl fr))])))) sz) s (@HAppend.hAppend va_W va_W va_W _ (xW h0 nw sp xa y_286 lb) (@HAppend.hAppend va_W va_W va_W _ (rcV X nw an sv dv n0 n1 n2 n3 n4 g0 gs gn gm) (@HAppend.hAppend va_W va_W va_W _ ([((xa 5), .inl (X.2.1, 3, .inl fr))]) (odW (xa 11) v_279)))) H locs := G
                  refine lv_aload_n zx zb dX10_stumble_136 rfl (lv_at hl 4 rfl) ?_
                  refine lv_lload zx zb dX10_stumble_137 (lv_at hl 1 rfl) ?_
                  refine lv_lload zx zb dX10_stumble_139 (lv_at hl 0 rfl) ?_
                  refine lv_ldiv zx zb dX10_stumble_141 (k_lnz2 c_283) ?_
                  refine k_ldE (fun y_287 => ?_)
                  refine r_put (C := RX10) (T := TX10) (N := 14) (ci := 8) (v := .long y_287) S in_X10_stumble_X10 tyX10_ok nmX10 G 0 rfl rfl 7 (by decide) lk_X10_stumble_42 rfl rfl rfl (Nat.le_of_ble_eq_true rfl) dX10_stumble_142 (fun H locs G => ?_)
                  have G : wd X (va_A (@HAppend.hAppend va_W va_W va_W _ (xW h0 nw sp xa la lb) (@HAppend.hAppend va_W va_W va_W _ (rcV X nw an sv dv n0 n1 n2 n3 n4 g0 gs gn gm) (@HAppend.hAppend va_W va_W va_W _ (odW (xa 11) vo) ([((xa 5), .inl (X.2.1, 3, .inl fr))])))) sz) (va_A (@HAppend.hAppend va_W va_W va_W _ (xW h0 nw sp xa la lb) (@HAppend.hAppend va_W va_W va_W _ (rcV X nw an sv dv n0 n1 n2 n3 n4 g0 gs gn gm) (@HAppend.hAppend va_W va_W va_W _ (odW (xa 11) vo) ([((xa 5), .inl (X.2.1, 3, .inl fr))])))) sz) s (@HAppend.hAppend va_W va_W va_W _ (xW h0 nw sp xa y_286 y_287) (@HAppend.hAppend va_W va_W va_W _ (rcV X nw an sv dv n0 n1 n2 n3 n4 g0 gs gn gm) (@HAppend.hAppend va_W va_W va_W _ ([((xa 5), .inl (X.2.1, 3, .inl fr))]) (odW (xa 11) v_279)))) H locs := G
                  exact join_124 y_286 y_287 _ _ _  G hl
              · intro la_284 lb_285 H locs ls  G hl
                refine lv_iconst (v := 1) zx zb dX10_stumble_145 (by decide) ?_
                exact e_int S zr zlk (vp_nar_int _) G (la_284, lb_285, v_279, fr) [0, 1, 2, 3, 4, 5, 6, 7, 8, 9, 10, 11, 12, 13, 14, 15, 16, 18, 17] rfl rfl (Or.inr rfl) ((stuF_p ⟨⟨_, hj_1, rfl⟩, hw_3, hw_5, hw_7⟩).symm) dX10_stumble_146
            · refine k_it (v := 1) rfl ?_
              refine r_aald (C := RX8) (b := (an 2)) S G 2 3 rfl rfl (k_vp (by decide)) rfl dX10_stumble_54 ?_
              refine lv_astore (lv' := [(5, .ref (an 2)), (0, .ref h0), (1, .int 1), (2, .int x2), (3, .int 5), (4, .int x4)]) zx zb dX10_stumble_55 hl (by decide) rfl (fun ls hl => ?_)
              refine lv_aload_n zx zb dX10_stumble_57 rfl (lv_at hl 1 rfl) ?_
              refine r_get (C := RX10) (T := TX10) (N := 14) (ci := 8) (v := .ref (xa 11)) S in_X10_stumble_X10 G 0 rfl rfl 11 (by decide) lk_X10_stumble_65 rfl dX10_stumble_58 ?_
              refine lv_aload zx zb dX10_stumble_61 (lv_at hl 0 rfl) ?_
              refine lv_aload_n zx zb dX10_stumble_63 rfl (lv_at hl 1 rfl) ?_
              refine r_get (C := RX10) (T := TX10) (N := 14) (ci := 8) (v := .ref nw) S in_X10_stumble_X10 G 0 rfl rfl 0 (by decide) lk_X10_stumble_10 rfl dX10_stumble_64 ?_
              refine r_get (C := RX5) (T := TX5) (N := 8) (ci := 3) (v := .int (dv 0)) S in_X10_stumble_X5 G 1 rfl rfl 0 (by decide) lk_X10_stumble_140 rfl dX10_stumble_67 ?_
              refine lv_aload_n zx zb dX10_stumble_70 rfl (lv_at hl 1 rfl) ?_
              refine r_get (C := RX10) (T := TX10) (N := 14) (ci := 8) (v := .ref nw) S in_X10_stumble_X10 G 0 rfl rfl 0 (by decide) lk_X10_stumble_10 rfl dX10_stumble_71 ?_
              refine r_get (C := RX5) (T := TX5) (N := 8) (ci := 3) (v := .int (dv 1)) S in_X10_stumble_X5 G 1 rfl rfl 1 (by decide) lk_X10_stumble_110 rfl dX10_stumble_74 ?_
              refine lv_iload_n zx zb dX10_stumble_77 rfl (lv_at hl 4 rfl) ?_
              refine r_iadd (v := ((dv 1) + 5)) S rfl dX10_stumble_78 ?_
              refine lv_iload_n zx zb dX10_stumble_79 rfl (lv_at hl 3 rfl) ?_
              refine lv_iload zx zb dX10_stumble_80 (lv_at hl 5 rfl) ?_
              refine b_wv (cells' := 0) (slots' := 0) (wr := @HAppend.hAppend va_W va_W va_W _ (xW h0 nw sp xa la lb) (@HAppend.hAppend va_W va_W va_W _ ([(nw, .inr (3, [.int (dv 0), .int (dv 1), .int (nI n0), .ref (an 0), .ref (an 7), .ref (an 9), .ref (an 11), .ref (an 13)])), ((an 0), .inl (X.2.2.2.2, 6, .inr (.inr (.inr (.inr (rowQ an)))))), ((an 1), .inr (6, [.int (sv 0), .int (sv 1), .int (sv 2), .int (dv 10), .int (dv 11), .int (dv 12), .int (dv 13), .int (dv 14)])), ((an 3), .inr (6, [.int (sv 6), .int (sv 7), .int (sv 8), .int (dv 20), .int (dv 21), .int (dv 22), .int (dv 23), .int (dv 24)])), ((an 4), .inr (6, [.int (sv 9), .int (sv 10), .int (sv 11), .int (dv 25), .int (dv 26), .int (dv 27), .int (dv 28), .int (dv 29)])), ((an 5), .inr (6, [.int (sv 12), .int (sv 13), .int (sv 14), .int (dv 30), .int (dv 31), .int (dv 32), .int (dv 33), .int (dv 34)])), ((an 6), .inr (6, [.int (sv 15), .int (sv 16), .int (sv 17), .int (dv 35), .int (dv 36), .int (dv 37), .int (dv 38), .int (dv 39)])), ((an 7), .inr (2, [.ref (an 8), .int (nI n1)])), ((an 8), .inl (X.2.1, 248, .inl g0)), ((an 9), .inr (5, [.int 5, .int 0, .int 1, .ref (an 10), .int (nI n2)])), ((an 10), .inl (X.2.1, 25, .inl gs)), ((an 11), .inr (5, [.int 6, .int 1, .int 1, .ref (an 12), .int (nI n3)])), ((an 12), .inl (X.2.1, 30, .inl gn)), ((an 13), .inr (5, [.int 6, .int 0, .int 0, .ref (an 14), .int (nI n4)])), ((an 14), .inl (X.2.1, 30, .inl gm))]) ([((xa 5), .inl (X.2.1, 3, .inl fr))]))) G rfl rfl [17, 4] [0, 1, 2, 3, 5, 6, 7, 8, 9, 10, 11, 12, 13, 14, 15, 16, 18] rfl rfl rfl rfl (n_V (As := [.ref (an 2), .int (dv 0), .int ((dv 1) + 5), .int x2, .int x4]) (rest := []) (C := RX3) (T := TX3) (N := 8) (ci := 1) S G (s_pose l X (xa 11) vo (an 2) (fun k => sv (3 + k)) (fun k => dv (15 + k)) (dv 0) ((dv 1) + 5) x2 x4 H.size) gX10_stumble_X3_pose rfl rfl rfl hdV_X3_pose ⟨Nat.le_of_ble_eq_true rfl, Nat.le_of_ble_eq_true rfl⟩ [17, 4] rfl rfl 17 rfl rfl rfl hl.1 (Nat.le_of_ble_eq_true rfl) dX10_stumble_82 ⟨Nat.le_of_ble_eq_true rfl, Nat.le_of_ble_eq_true rfl⟩) (fun u_288 H locs hp_288 G => ?_)
              obtain ⟨v_288, rfl⟩ : ∃ z, z = u_288 := ⟨_, rfl⟩
              have hq_288 := hp_288
              have G : wd X (va_A (@HAppend.hAppend va_W va_W va_W _ (xW h0 nw sp xa la lb) (@HAppend.hAppend va_W va_W va_W _ (rcV X nw an sv dv n0 n1 n2 n3 n4 g0 gs gn gm) (@HAppend.hAppend va_W va_W va_W _ (odW (xa 11) vo) ([((xa 5), .inl (X.2.1, 3, .inl fr))])))) sz) (va_A (@HAppend.hAppend va_W va_W va_W _ (xW h0 nw sp xa la lb) (@HAppend.hAppend va_W va_W va_W _ (rcV X nw an sv dv n0 n1 n2 n3 n4 g0 gs gn gm) (@HAppend.hAppend va_W va_W va_W _ (odW (xa 11) vo) ([((xa 5), .inl (X.2.1, 3, .inl fr))])))) sz) s (@HAppend.hAppend va_W va_W va_W _ (xW h0 nw sp xa la lb) (@HAppend.hAppend va_W va_W va_W _ (rcV X nw an sv dv n0 n1 n2 n3 n4 g0 gs gn gm) (@HAppend.hAppend va_W va_W va_W _ ([((xa 5), .inl (X.2.1, 3, .inl fr))]) (odW (xa 11) v_288)))) H locs := wd_sub G [0, 1, 2, 3, 18, 4, 5, 6, 7, 8, 9, 10, 11, 12, 13, 14, 15, 16, 17] rfl rfl
              refine lv_aload_n zx zb dX10_stumble_85 rfl (lv_at hl 1 rfl) ?_
              refine r_get (C := RX10) (T := TX10) (N := 14) (ci := 8) (v := .ref (xa 11)) S in_X10_stumble_X10 G 0 rfl rfl 11 (by decide) lk_X10_stumble_65 rfl dX10_stumble_86 ?_
              refine lv_aload zx zb dX10_stumble_89 (lv_at hl 0 rfl) ?_
              refine r_get (C := RX8) (T := TX8) (N := 8) (ci := 6) (v := .int (dv 16)) S in_X10_stumble_X8 G 4 rfl rfl 4 (by decide) lk_X10_stumble_137 rfl dX10_stumble_91 ?_
              refine lv_aload zx zb dX10_stumble_94 (lv_at hl 0 rfl) ?_
              refine r_get (C := RX8) (T := TX8) (N := 8) (ci := 6) (v := .int (dv 18)) S in_X10_stumble_X8 G 4 rfl rfl 6 (by decide) lk_X10_stumble_240 rfl dX10_stumble_96 ?_
              refine lv_iload_n zx zb dX10_stumble_99 rfl (lv_at hl 4 rfl) ?_
              refine o_rl (cells' := 0) (slots' := 0) G rfl rfl (n_SN (As := [.ref (xa 11), .int (dv 16), .int (dv 18), .int 5]) (rest := []) (host := "EggSpoons") S G (s_ways5 l X (xa 11) v_288 (dv 16) (dv 18) H.size) gX10_stumble_X3_ways_n243 rfl rfl rfl mm_X10_stumble_inX3 G.1.2.2.2.2.2.2.2.2.2.2.2 mm_X10_stumble_stX3_ways hdS_X3_ways ⟨Nat.le_of_ble_eq_true rfl, Nat.le_of_ble_eq_true rfl⟩ [18] rfl rfl rfl hl.1 (Nat.le_of_ble_eq_true rfl) dX10_stumble_100 ⟨Nat.le_of_ble_eq_true rfl, Nat.le_of_ble_eq_true rfl⟩) (fun r_289 u_289 H locs hp_289 G => ?_)
              have G : wd X (va_A (@HAppend.hAppend va_W va_W va_W _ (xW h0 nw sp xa la lb) (@HAppend.hAppend va_W va_W va_W _ (rcV X nw an sv dv n0 n1 n2 n3 n4 g0 gs gn gm) (@HAppend.hAppend va_W va_W va_W _ (odW (xa 11) vo) ([((xa 5), .inl (X.2.1, 3, .inl fr))])))) sz) (va_A (@HAppend.hAppend va_W va_W va_W _ (xW h0 nw sp xa la lb) (@HAppend.hAppend va_W va_W va_W _ (rcV X nw an sv dv n0 n1 n2 n3 n4 g0 gs gn gm) (@HAppend.hAppend va_W va_W va_W _ (odW (xa 11) vo) ([((xa 5), .inl (X.2.1, 3, .inl fr))])))) sz) s (@HAppend.hAppend va_W va_W va_W _ (xW h0 nw sp xa la lb) (@HAppend.hAppend va_W va_W va_W _ (rcV X nw an sv dv n0 n1 n2 n3 n4 g0 gs gn gm) (@HAppend.hAppend va_W va_W va_W _ ([((xa 5), .inl (X.2.1, 3, .inl fr))]) (odW (xa 11) v_288)))) H locs := G
              refine lv_lstore (lv' := [(6, .long r_289), (5, .ref (an 2)), (0, .ref h0), (1, .int 1), (2, .int x2), (3, .int 5), (4, .int x4)]) zx zb dX10_stumble_103 hl (by decide) rfl (fun ls hl => ?_)
              refine lv_iload_n zx zb dX10_stumble_105 rfl (lv_at hl 5 rfl) ?_
              refine o_rl (cells' := 0) (slots' := 0) G rfl rfl (n_S (As := [.int 5]) (rest := []) S G (s_tenTo l X 5 (by omega) H.size) gX10_stumble_X3_tenTo rfl rfl rfl hdS_X3_tenTo ⟨Nat.le_of_ble_eq_true rfl, Nat.le_of_ble_eq_true rfl⟩ [] rfl rfl rfl hl.1 (Nat.le_of_ble_eq_true rfl) dX10_stumble_106 ⟨Nat.le_of_ble_eq_true rfl, Nat.le_of_ble_eq_true rfl⟩) (fun r_290 u_290 H locs hp_290 G => ?_)
              have G : wd X (va_A (@HAppend.hAppend va_W va_W va_W _ (xW h0 nw sp xa la lb) (@HAppend.hAppend va_W va_W va_W _ (rcV X nw an sv dv n0 n1 n2 n3 n4 g0 gs gn gm) (@HAppend.hAppend va_W va_W va_W _ (odW (xa 11) vo) ([((xa 5), .inl (X.2.1, 3, .inl fr))])))) sz) (va_A (@HAppend.hAppend va_W va_W va_W _ (xW h0 nw sp xa la lb) (@HAppend.hAppend va_W va_W va_W _ (rcV X nw an sv dv n0 n1 n2 n3 n4 g0 gs gn gm) (@HAppend.hAppend va_W va_W va_W _ (odW (xa 11) vo) ([((xa 5), .inl (X.2.1, 3, .inl fr))])))) sz) s (@HAppend.hAppend va_W va_W va_W _ (xW h0 nw sp xa la lb) (@HAppend.hAppend va_W va_W va_W _ (rcV X nw an sv dv n0 n1 n2 n3 n4 g0 gs gn gm) (@HAppend.hAppend va_W va_W va_W _ ([((xa 5), .inl (X.2.1, 3, .inl fr))]) (odW (xa 11) v_288)))) H locs := G
              refine lv_lstore (lv' := [(8, .long r_290), (6, .long r_289), (5, .ref (an 2)), (0, .ref h0), (1, .int 1), (2, .int x2), (3, .int 5), (4, .int x4)]) zx zb dX10_stumble_109 hl (by decide) rfl (fun ls hl => ?_)
              refine lv_lload zx zb dX10_stumble_111 (lv_at hl 1 rfl) ?_
              refine lv_lload zx zb dX10_stumble_113 (lv_at hl 0 rfl) ?_
              refine o_rl (cells' := 0) (slots' := 0) G rfl rfl (n_S (As := [.long r_289, .long r_290]) (rest := []) S G (s_commonPart l X r_289 r_290 H.size) gX10_stumble_X3_commonPart rfl rfl rfl hdS_X3_commonPart ⟨Nat.le_of_ble_eq_true rfl, Nat.le_of_ble_eq_true rfl⟩ [] rfl rfl rfl hl.1 (Nat.le_of_ble_eq_true rfl) dX10_stumble_115 ⟨Nat.le_of_ble_eq_true rfl, Nat.le_of_ble_eq_true rfl⟩) (fun r_291 u_291 H locs hp_291 G => ?_)
              have G : wd X (va_A (@HAppend.hAppend va_W va_W va_W _ (xW h0 nw sp xa la lb) (@HAppend.hAppend va_W va_W va_W _ (rcV X nw an sv dv n0 n1 n2 n3 n4 g0 gs gn gm) (@HAppend.hAppend va_W va_W va_W _ (odW (xa 11) vo) ([((xa 5), .inl (X.2.1, 3, .inl fr))])))) sz) (va_A (@HAppend.hAppend va_W va_W va_W _ (xW h0 nw sp xa la lb) (@HAppend.hAppend va_W va_W va_W _ (rcV X nw an sv dv n0 n1 n2 n3 n4 g0 gs gn gm) (@HAppend.hAppend va_W va_W va_W _ (odW (xa 11) vo) ([((xa 5), .inl (X.2.1, 3, .inl fr))])))) sz) s (@HAppend.hAppend va_W va_W va_W _ (xW h0 nw sp xa la lb) (@HAppend.hAppend va_W va_W va_W _ (rcV X nw an sv dv n0 n1 n2 n3 n4 g0 gs gn gm) (@HAppend.hAppend va_W va_W va_W _ ([((xa 5), .inl (X.2.1, 3, .inl fr))]) (odW (xa 11) v_288)))) H locs := G
              refine lv_lstore (lv' := [(10, .long r_291), (8, .long r_290), (6, .long r_289), (5, .ref (an 2)), (0, .ref h0), (1, .int 1), (2, .int x2), (3, .int 5), (4, .int x4)]) zx zb dX10_stumble_118 hl (by decide) rfl (fun ls hl => ?_)
              refine lv_lload zx zb dX10_stumble_120 (lv_at hl 0 rfl) ?_
              refine lv_lconst (v := (Int32.toInt64 0)) zx zb dX10_stumble_122 (by decide) ?_
              refine W.lcmp zx zb dX10_stumble_123 ?_
              refine k_cutW (PP := fun Wx => ∀ (la_293 : Int64) (lb_294 : Int64) (H : Heap) (locs : List Loc) (ls : Array Slot), wd X (va_A (@HAppend.hAppend va_W va_W va_W _ (xW h0 nw sp xa la lb) (@HAppend.hAppend va_W va_W va_W _ (rcV X nw an sv dv n0 n1 n2 n3 n4 g0 gs gn gm) (@HAppend.hAppend va_W va_W va_W _ (odW (xa 11) vo) ([((xa 5), .inl (X.2.1, 3, .inl fr))])))) sz) (va_A (@HAppend.hAppend va_W va_W va_W _ (xW h0 nw sp xa la lb) (@HAppend.hAppend va_W va_W va_W _ (rcV X nw an sv dv n0 n1 n2 n3 n4 g0 gs gn gm) (@HAppend.hAppend va_W va_W va_W _ (odW (xa 11) vo) ([((xa 5), .inl (X.2.1, 3, .inl fr))])))) sz) s (@HAppend.hAppend va_W va_W va_W _ (xW h0 nw sp xa la_293 lb_294) (@HAppend.hAppend va_W va_W va_W _ (rcV X nw an sv dv n0 n1 n2 n3 n4 g0 gs gn gm) (@HAppend.hAppend va_W va_W va_W _ ([((xa 5), .inl (X.2.1, 3, .inl fr))]) (odW (xa 11) v_288)))) H locs → lv_has ls 12 [(10, .long r_291), (8, .long r_290), (6, .long r_289), (5, .ref (an 2)), (0, .ref h0), (1, .int 1), (2, .int x2), (3, .int 5), (4, .int x4)] → Wx (F0 m 145 ls []) H locs) ?_ ?_
              · intro join_124
                refine lv_if_le (tgt := 145) zx zb dX10_stumble_124 (by decide) (fun c_292 => ?_) (fun c_292 => ?_)
                · exact join_124 la lb _ _ _  G hl
                · refine lv_aload_n zx zb dX10_stumble_127 rfl (lv_at hl 4 rfl) ?_
                  refine lv_lload zx zb dX10_stumble_128 (lv_at hl 2 rfl) ?_
                  refine lv_lload zx zb dX10_stumble_130 (lv_at hl 0 rfl) ?_
                  refine lv_ldiv zx zb dX10_stumble_132 (k_lnz2 c_292) ?_
                  refine k_ldE (fun y_295 => ?_)
                  refine r_put (C := RX10) (T := TX10) (N := 14) (ci := 8) (v := .long y_295) S in_X10_stumble_X10 tyX10_ok nmX10 G 0 rfl rfl 6 (by decide) lk_X10_stumble_38 rfl rfl rfl (Nat.le_of_ble_eq_true rfl) dX10_stumble_133 (fun H locs G => ?_)
                  have G : wd X (va_A (@HAppend.hAppend va_W va_W va_W _ (xW h0 nw sp xa la lb) (@HAppend.hAppend va_W va_W va_W _ (rcV X nw an sv dv n0 n1 n2 n3 n4 g0 gs gn gm) (@HAppend.hAppend va_W va_W va_W _ (odW (xa 11) vo) ([((xa 5), .inl (X.2.1, 3, .inl fr))])))) sz) (va_A (@HAppend.hAppend va_W va_W va_W _ (xW h0 nw sp xa la lb) (@HAppend.hAppend va_W va_W va_W _ (rcV X nw an sv dv n0 n1 n2 n3 n4 g0 gs gn gm) (@HAppend.hAppend va_W va_W va_W _ (odW (xa 11) vo) ([((xa 5), .inl (X.2.1, 3, .inl fr))])))) sz) s (@HAppend.hAppend va_W va_W va_W _ (xW h0 nw sp xa y_295 lb) (@HAppend.hAppend va_W va_W va_W _ (rcV X nw an sv dv n0 n1 n2 n3 n4 g0 gs gn gm) (@HAppend.hAppend va_W va_W va_W _ ([((xa 5), .inl (X.2.1, 3, .inl fr))]) (odW (xa 11) v_288)))) H locs := G
                  refine lv_aload_n zx zb dX10_stumble_136 rfl (lv_at hl 4 rfl) ?_
                  refine lv_lload zx zb dX10_stumble_137 (lv_at hl 1 rfl) ?_
                  refine lv_lload zx zb dX10_stumble_139 (lv_at hl 0 rfl) ?_
                  refine lv_ldiv zx zb dX10_stumble_141 (k_lnz2 c_292) ?_
                  refine k_ldE (fun y_296 => ?_)
                  refine r_put (C := RX10) (T := TX10) (N := 14) (ci := 8) (v := .long y_296) S in_X10_stumble_X10 tyX10_ok nmX10 G 0 rfl rfl 7 (by decide) lk_X10_stumble_42 rfl rfl rfl (Nat.le_of_ble_eq_true rfl) dX10_stumble_142 (fun H locs G => ?_)
                  have G : wd X (va_A (@HAppend.hAppend va_W va_W va_W _ (xW h0 nw sp xa la lb) (@HAppend.hAppend va_W va_W va_W _ (rcV X nw an sv dv n0 n1 n2 n3 n4 g0 gs gn gm) (@HAppend.hAppend va_W va_W va_W _ (odW (xa 11) vo) ([((xa 5), .inl (X.2.1, 3, .inl fr))])))) sz) (va_A (@HAppend.hAppend va_W va_W va_W _ (xW h0 nw sp xa la lb) (@HAppend.hAppend va_W va_W va_W _ (rcV X nw an sv dv n0 n1 n2 n3 n4 g0 gs gn gm) (@HAppend.hAppend va_W va_W va_W _ (odW (xa 11) vo) ([((xa 5), .inl (X.2.1, 3, .inl fr))])))) sz) s (@HAppend.hAppend va_W va_W va_W _ (xW h0 nw sp xa y_295 y_296) (@HAppend.hAppend va_W va_W va_W _ (rcV X nw an sv dv n0 n1 n2 n3 n4 g0 gs gn gm) (@HAppend.hAppend va_W va_W va_W _ ([((xa 5), .inl (X.2.1, 3, .inl fr))]) (odW (xa 11) v_288)))) H locs := G
                  exact join_124 y_295 y_296 _ _ _  G hl
              · intro la_293 lb_294 H locs ls  G hl
                refine lv_iconst (v := 1) zx zb dX10_stumble_145 (by decide) ?_
                exact e_int S zr zlk (vp_nar_int _) G (la_293, lb_294, v_288, fr) [0, 1, 2, 3, 4, 5, 6, 7, 8, 9, 10, 11, 12, 13, 14, 15, 16, 18, 17] rfl rfl (Or.inr rfl) ((stuF_p ⟨⟨_, hj_1, rfl⟩, hw_3, hw_5, hw_7⟩).symm) dX10_stumble_146
            · refine k_it (v := 2) rfl ?_
              refine r_aald (C := RX8) (b := (an 3)) S G 2 3 rfl rfl (k_vp (by decide)) rfl dX10_stumble_54 ?_
              refine lv_astore (lv' := [(5, .ref (an 3)), (0, .ref h0), (1, .int 2), (2, .int x2), (3, .int 5), (4, .int x4)]) zx zb dX10_stumble_55 hl (by decide) rfl (fun ls hl => ?_)
              refine lv_aload_n zx zb dX10_stumble_57 rfl (lv_at hl 1 rfl) ?_
              refine r_get (C := RX10) (T := TX10) (N := 14) (ci := 8) (v := .ref (xa 11)) S in_X10_stumble_X10 G 0 rfl rfl 11 (by decide) lk_X10_stumble_65 rfl dX10_stumble_58 ?_
              refine lv_aload zx zb dX10_stumble_61 (lv_at hl 0 rfl) ?_
              refine lv_aload_n zx zb dX10_stumble_63 rfl (lv_at hl 1 rfl) ?_
              refine r_get (C := RX10) (T := TX10) (N := 14) (ci := 8) (v := .ref nw) S in_X10_stumble_X10 G 0 rfl rfl 0 (by decide) lk_X10_stumble_10 rfl dX10_stumble_64 ?_
              refine r_get (C := RX5) (T := TX5) (N := 8) (ci := 3) (v := .int (dv 0)) S in_X10_stumble_X5 G 1 rfl rfl 0 (by decide) lk_X10_stumble_140 rfl dX10_stumble_67 ?_
              refine lv_aload_n zx zb dX10_stumble_70 rfl (lv_at hl 1 rfl) ?_
              refine r_get (C := RX10) (T := TX10) (N := 14) (ci := 8) (v := .ref nw) S in_X10_stumble_X10 G 0 rfl rfl 0 (by decide) lk_X10_stumble_10 rfl dX10_stumble_71 ?_
              refine r_get (C := RX5) (T := TX5) (N := 8) (ci := 3) (v := .int (dv 1)) S in_X10_stumble_X5 G 1 rfl rfl 1 (by decide) lk_X10_stumble_110 rfl dX10_stumble_74 ?_
              refine lv_iload_n zx zb dX10_stumble_77 rfl (lv_at hl 4 rfl) ?_
              refine r_iadd (v := ((dv 1) + 5)) S rfl dX10_stumble_78 ?_
              refine lv_iload_n zx zb dX10_stumble_79 rfl (lv_at hl 3 rfl) ?_
              refine lv_iload zx zb dX10_stumble_80 (lv_at hl 5 rfl) ?_
              refine b_wv (cells' := 0) (slots' := 0) (wr := @HAppend.hAppend va_W va_W va_W _ (xW h0 nw sp xa la lb) (@HAppend.hAppend va_W va_W va_W _ ([(nw, .inr (3, [.int (dv 0), .int (dv 1), .int (nI n0), .ref (an 0), .ref (an 7), .ref (an 9), .ref (an 11), .ref (an 13)])), ((an 0), .inl (X.2.2.2.2, 6, .inr (.inr (.inr (.inr (rowQ an)))))), ((an 1), .inr (6, [.int (sv 0), .int (sv 1), .int (sv 2), .int (dv 10), .int (dv 11), .int (dv 12), .int (dv 13), .int (dv 14)])), ((an 2), .inr (6, [.int (sv 3), .int (sv 4), .int (sv 5), .int (dv 15), .int (dv 16), .int (dv 17), .int (dv 18), .int (dv 19)])), ((an 4), .inr (6, [.int (sv 9), .int (sv 10), .int (sv 11), .int (dv 25), .int (dv 26), .int (dv 27), .int (dv 28), .int (dv 29)])), ((an 5), .inr (6, [.int (sv 12), .int (sv 13), .int (sv 14), .int (dv 30), .int (dv 31), .int (dv 32), .int (dv 33), .int (dv 34)])), ((an 6), .inr (6, [.int (sv 15), .int (sv 16), .int (sv 17), .int (dv 35), .int (dv 36), .int (dv 37), .int (dv 38), .int (dv 39)])), ((an 7), .inr (2, [.ref (an 8), .int (nI n1)])), ((an 8), .inl (X.2.1, 248, .inl g0)), ((an 9), .inr (5, [.int 5, .int 0, .int 1, .ref (an 10), .int (nI n2)])), ((an 10), .inl (X.2.1, 25, .inl gs)), ((an 11), .inr (5, [.int 6, .int 1, .int 1, .ref (an 12), .int (nI n3)])), ((an 12), .inl (X.2.1, 30, .inl gn)), ((an 13), .inr (5, [.int 6, .int 0, .int 0, .ref (an 14), .int (nI n4)])), ((an 14), .inl (X.2.1, 30, .inl gm))]) ([((xa 5), .inl (X.2.1, 3, .inl fr))]))) G rfl rfl [17, 5] [0, 1, 2, 3, 4, 6, 7, 8, 9, 10, 11, 12, 13, 14, 15, 16, 18] rfl rfl rfl rfl (n_V (As := [.ref (an 3), .int (dv 0), .int ((dv 1) + 5), .int x2, .int x4]) (rest := []) (C := RX3) (T := TX3) (N := 8) (ci := 1) S G (s_pose l X (xa 11) vo (an 3) (fun k => sv (6 + k)) (fun k => dv (20 + k)) (dv 0) ((dv 1) + 5) x2 x4 H.size) gX10_stumble_X3_pose rfl rfl rfl hdV_X3_pose ⟨Nat.le_of_ble_eq_true rfl, Nat.le_of_ble_eq_true rfl⟩ [17, 5] rfl rfl 17 rfl rfl rfl hl.1 (Nat.le_of_ble_eq_true rfl) dX10_stumble_82 ⟨Nat.le_of_ble_eq_true rfl, Nat.le_of_ble_eq_true rfl⟩) (fun u_297 H locs hp_297 G => ?_)
              obtain ⟨v_297, rfl⟩ : ∃ z, z = u_297 := ⟨_, rfl⟩
              have hq_297 := hp_297
              have G : wd X (va_A (@HAppend.hAppend va_W va_W va_W _ (xW h0 nw sp xa la lb) (@HAppend.hAppend va_W va_W va_W _ (rcV X nw an sv dv n0 n1 n2 n3 n4 g0 gs gn gm) (@HAppend.hAppend va_W va_W va_W _ (odW (xa 11) vo) ([((xa 5), .inl (X.2.1, 3, .inl fr))])))) sz) (va_A (@HAppend.hAppend va_W va_W va_W _ (xW h0 nw sp xa la lb) (@HAppend.hAppend va_W va_W va_W _ (rcV X nw an sv dv n0 n1 n2 n3 n4 g0 gs gn gm) (@HAppend.hAppend va_W va_W va_W _ (odW (xa 11) vo) ([((xa 5), .inl (X.2.1, 3, .inl fr))])))) sz) s (@HAppend.hAppend va_W va_W va_W _ (xW h0 nw sp xa la lb) (@HAppend.hAppend va_W va_W va_W _ (rcV X nw an sv dv n0 n1 n2 n3 n4 g0 gs gn gm) (@HAppend.hAppend va_W va_W va_W _ ([((xa 5), .inl (X.2.1, 3, .inl fr))]) (odW (xa 11) v_297)))) H locs := wd_sub G [0, 1, 2, 3, 4, 18, 5, 6, 7, 8, 9, 10, 11, 12, 13, 14, 15, 16, 17] rfl rfl
              refine lv_aload_n zx zb dX10_stumble_85 rfl (lv_at hl 1 rfl) ?_
              refine r_get (C := RX10) (T := TX10) (N := 14) (ci := 8) (v := .ref (xa 11)) S in_X10_stumble_X10 G 0 rfl rfl 11 (by decide) lk_X10_stumble_65 rfl dX10_stumble_86 ?_
              refine lv_aload zx zb dX10_stumble_89 (lv_at hl 0 rfl) ?_
              refine r_get (C := RX8) (T := TX8) (N := 8) (ci := 6) (v := .int (dv 21)) S in_X10_stumble_X8 G 5 rfl rfl 4 (by decide) lk_X10_stumble_137 rfl dX10_stumble_91 ?_
              refine lv_aload zx zb dX10_stumble_94 (lv_at hl 0 rfl) ?_
              refine r_get (C := RX8) (T := TX8) (N := 8) (ci := 6) (v := .int (dv 23)) S in_X10_stumble_X8 G 5 rfl rfl 6 (by decide) lk_X10_stumble_240 rfl dX10_stumble_96 ?_
              refine lv_iload_n zx zb dX10_stumble_99 rfl (lv_at hl 4 rfl) ?_
              refine o_rl (cells' := 0) (slots' := 0) G rfl rfl (n_SN (As := [.ref (xa 11), .int (dv 21), .int (dv 23), .int 5]) (rest := []) (host := "EggSpoons") S G (s_ways5 l X (xa 11) v_297 (dv 21) (dv 23) H.size) gX10_stumble_X3_ways_n243 rfl rfl rfl mm_X10_stumble_inX3 G.1.2.2.2.2.2.2.2.2.2.2.2 mm_X10_stumble_stX3_ways hdS_X3_ways ⟨Nat.le_of_ble_eq_true rfl, Nat.le_of_ble_eq_true rfl⟩ [18] rfl rfl rfl hl.1 (Nat.le_of_ble_eq_true rfl) dX10_stumble_100 ⟨Nat.le_of_ble_eq_true rfl, Nat.le_of_ble_eq_true rfl⟩) (fun r_298 u_298 H locs hp_298 G => ?_)
              have G : wd X (va_A (@HAppend.hAppend va_W va_W va_W _ (xW h0 nw sp xa la lb) (@HAppend.hAppend va_W va_W va_W _ (rcV X nw an sv dv n0 n1 n2 n3 n4 g0 gs gn gm) (@HAppend.hAppend va_W va_W va_W _ (odW (xa 11) vo) ([((xa 5), .inl (X.2.1, 3, .inl fr))])))) sz) (va_A (@HAppend.hAppend va_W va_W va_W _ (xW h0 nw sp xa la lb) (@HAppend.hAppend va_W va_W va_W _ (rcV X nw an sv dv n0 n1 n2 n3 n4 g0 gs gn gm) (@HAppend.hAppend va_W va_W va_W _ (odW (xa 11) vo) ([((xa 5), .inl (X.2.1, 3, .inl fr))])))) sz) s (@HAppend.hAppend va_W va_W va_W _ (xW h0 nw sp xa la lb) (@HAppend.hAppend va_W va_W va_W _ (rcV X nw an sv dv n0 n1 n2 n3 n4 g0 gs gn gm) (@HAppend.hAppend va_W va_W va_W _ ([((xa 5), .inl (X.2.1, 3, .inl fr))]) (odW (xa 11) v_297)))) H locs := G
              refine lv_lstore (lv' := [(6, .long r_298), (5, .ref (an 3)), (0, .ref h0), (1, .int 2), (2, .int x2), (3, .int 5), (4, .int x4)]) zx zb dX10_stumble_103 hl (by decide) rfl (fun ls hl => ?_)
              refine lv_iload_n zx zb dX10_stumble_105 rfl (lv_at hl 5 rfl) ?_
              refine o_rl (cells' := 0) (slots' := 0) G rfl rfl (n_S (As := [.int 5]) (rest := []) S G (s_tenTo l X 5 (by omega) H.size) gX10_stumble_X3_tenTo rfl rfl rfl hdS_X3_tenTo ⟨Nat.le_of_ble_eq_true rfl, Nat.le_of_ble_eq_true rfl⟩ [] rfl rfl rfl hl.1 (Nat.le_of_ble_eq_true rfl) dX10_stumble_106 ⟨Nat.le_of_ble_eq_true rfl, Nat.le_of_ble_eq_true rfl⟩) (fun r_299 u_299 H locs hp_299 G => ?_)
              have G : wd X (va_A (@HAppend.hAppend va_W va_W va_W _ (xW h0 nw sp xa la lb) (@HAppend.hAppend va_W va_W va_W _ (rcV X nw an sv dv n0 n1 n2 n3 n4 g0 gs gn gm) (@HAppend.hAppend va_W va_W va_W _ (odW (xa 11) vo) ([((xa 5), .inl (X.2.1, 3, .inl fr))])))) sz) (va_A (@HAppend.hAppend va_W va_W va_W _ (xW h0 nw sp xa la lb) (@HAppend.hAppend va_W va_W va_W _ (rcV X nw an sv dv n0 n1 n2 n3 n4 g0 gs gn gm) (@HAppend.hAppend va_W va_W va_W _ (odW (xa 11) vo) ([((xa 5), .inl (X.2.1, 3, .inl fr))])))) sz) s (@HAppend.hAppend va_W va_W va_W _ (xW h0 nw sp xa la lb) (@HAppend.hAppend va_W va_W va_W _ (rcV X nw an sv dv n0 n1 n2 n3 n4 g0 gs gn gm) (@HAppend.hAppend va_W va_W va_W _ ([((xa 5), .inl (X.2.1, 3, .inl fr))]) (odW (xa 11) v_297)))) H locs := G
              refine lv_lstore (lv' := [(8, .long r_299), (6, .long r_298), (5, .ref (an 3)), (0, .ref h0), (1, .int 2), (2, .int x2), (3, .int 5), (4, .int x4)]) zx zb dX10_stumble_109 hl (by decide) rfl (fun ls hl => ?_)
              refine lv_lload zx zb dX10_stumble_111 (lv_at hl 1 rfl) ?_
              refine lv_lload zx zb dX10_stumble_113 (lv_at hl 0 rfl) ?_
              refine o_rl (cells' := 0) (slots' := 0) G rfl rfl (n_S (As := [.long r_298, .long r_299]) (rest := []) S G (s_commonPart l X r_298 r_299 H.size) gX10_stumble_X3_commonPart rfl rfl rfl hdS_X3_commonPart ⟨Nat.le_of_ble_eq_true rfl, Nat.le_of_ble_eq_true rfl⟩ [] rfl rfl rfl hl.1 (Nat.le_of_ble_eq_true rfl) dX10_stumble_115 ⟨Nat.le_of_ble_eq_true rfl, Nat.le_of_ble_eq_true rfl⟩) (fun r_300 u_300 H locs hp_300 G => ?_)
              have G : wd X (va_A (@HAppend.hAppend va_W va_W va_W _ (xW h0 nw sp xa la lb) (@HAppend.hAppend va_W va_W va_W _ (rcV X nw an sv dv n0 n1 n2 n3 n4 g0 gs gn gm) (@HAppend.hAppend va_W va_W va_W _ (odW (xa 11) vo) ([((xa 5), .inl (X.2.1, 3, .inl fr))])))) sz) (va_A (@HAppend.hAppend va_W va_W va_W _ (xW h0 nw sp xa la lb) (@HAppend.hAppend va_W va_W va_W _ (rcV X nw an sv dv n0 n1 n2 n3 n4 g0 gs gn gm) (@HAppend.hAppend va_W va_W va_W _ (odW (xa 11) vo) ([((xa 5), .inl (X.2.1, 3, .inl fr))])))) sz) s (@HAppend.hAppend va_W va_W va_W _ (xW h0 nw sp xa la lb) (@HAppend.hAppend va_W va_W va_W _ (rcV X nw an sv dv n0 n1 n2 n3 n4 g0 gs gn gm) (@HAppend.hAppend va_W va_W va_W _ ([((xa 5), .inl (X.2.1, 3, .inl fr))]) (odW (xa 11) v_297)))) H locs := G
              refine lv_lstore (lv' := [(10, .long r_300), (8, .long r_299), (6, .long r_298), (5, .ref (an 3)), (0, .ref h0), (1, .int 2), (2, .int x2), (3, .int 5), (4, .int x4)]) zx zb dX10_stumble_118 hl (by decide) rfl (fun ls hl => ?_)
              refine lv_lload zx zb dX10_stumble_120 (lv_at hl 0 rfl) ?_
              refine lv_lconst (v := (Int32.toInt64 0)) zx zb dX10_stumble_122 (by decide) ?_
              refine W.lcmp zx zb dX10_stumble_123 ?_
              refine k_cutW (PP := fun Wx => ∀ (la_302 : Int64) (lb_303 : Int64) (H : Heap) (locs : List Loc) (ls : Array Slot), wd X (va_A (@HAppend.hAppend va_W va_W va_W _ (xW h0 nw sp xa la lb) (@HAppend.hAppend va_W va_W va_W _ (rcV X nw an sv dv n0 n1 n2 n3 n4 g0 gs gn gm) (@HAppend.hAppend va_W va_W va_W _ (odW (xa 11) vo) ([((xa 5), .inl (X.2.1, 3, .inl fr))])))) sz) (va_A (@HAppend.hAppend va_W va_W va_W _ (xW h0 nw sp xa la lb) (@HAppend.hAppend va_W va_W va_W _ (rcV X nw an sv dv n0 n1 n2 n3 n4 g0 gs gn gm) (@HAppend.hAppend va_W va_W va_W _ (odW (xa 11) vo) ([((xa 5), .inl (X.2.1, 3, .inl fr))])))) sz) s (@HAppend.hAppend va_W va_W va_W _ (xW h0 nw sp xa la_302 lb_303) (@HAppend.hAppend va_W va_W va_W _ (rcV X nw an sv dv n0 n1 n2 n3 n4 g0 gs gn gm) (@HAppend.hAppend va_W va_W va_W _ ([((xa 5), .inl (X.2.1, 3, .inl fr))]) (odW (xa 11) v_297)))) H locs → lv_has ls 12 [(10, .long r_300), (8, .long r_299), (6, .long r_298), (5, .ref (an 3)), (0, .ref h0), (1, .int 2), (2, .int x2), (3, .int 5), (4, .int x4)] → Wx (F0 m 145 ls []) H locs) ?_ ?_
              · intro join_124
                refine lv_if_le (tgt := 145) zx zb dX10_stumble_124 (by decide) (fun c_301 => ?_) (fun c_301 => ?_)
                · exact join_124 la lb _ _ _  G hl
                · refine lv_aload_n zx zb dX10_stumble_127 rfl (lv_at hl 4 rfl) ?_
                  refine lv_lload zx zb dX10_stumble_128 (lv_at hl 2 rfl) ?_
                  refine lv_lload zx zb dX10_stumble_130 (lv_at hl 0 rfl) ?_
                  refine lv_ldiv zx zb dX10_stumble_132 (k_lnz2 c_301) ?_
                  refine k_ldE (fun y_304 => ?_)
                  refine r_put (C := RX10) (T := TX10) (N := 14) (ci := 8) (v := .long y_304) S in_X10_stumble_X10 tyX10_ok nmX10 G 0 rfl rfl 6 (by decide) lk_X10_stumble_38 rfl rfl rfl (Nat.le_of_ble_eq_true rfl) dX10_stumble_133 (fun H locs G => ?_)
                  have G : wd X (va_A (@HAppend.hAppend va_W va_W va_W _ (xW h0 nw sp xa la lb) (@HAppend.hAppend va_W va_W va_W _ (rcV X nw an sv dv n0 n1 n2 n3 n4 g0 gs gn gm) (@HAppend.hAppend va_W va_W va_W _ (odW (xa 11) vo) ([((xa 5), .inl (X.2.1, 3, .inl fr))])))) sz) (va_A (@HAppend.hAppend va_W va_W va_W _ (xW h0 nw sp xa la lb) (@HAppend.hAppend va_W va_W va_W _ (rcV X nw an sv dv n0 n1 n2 n3 n4 g0 gs gn gm) (@HAppend.hAppend va_W va_W va_W _ (odW (xa 11) vo) ([((xa 5), .inl (X.2.1, 3, .inl fr))])))) sz) s (@HAppend.hAppend va_W va_W va_W _ (xW h0 nw sp xa y_304 lb) (@HAppend.hAppend va_W va_W va_W _ (rcV X nw an sv dv n0 n1 n2 n3 n4 g0 gs gn gm) (@HAppend.hAppend va_W va_W va_W _ ([((xa 5), .inl (X.2.1, 3, .inl fr))]) (odW (xa 11) v_297)))) H locs := G
                  refine lv_aload_n zx zb dX10_stumble_136 rfl (lv_at hl 4 rfl) ?_
                  refine lv_lload zx zb dX10_stumble_137 (lv_at hl 1 rfl) ?_
                  refine lv_lload zx zb dX10_stumble_139 (lv_at hl 0 rfl) ?_
                  refine lv_ldiv zx zb dX10_stumble_141 (k_lnz2 c_301) ?_
                  refine k_ldE (fun y_305 => ?_)
                  refine r_put (C := RX10) (T := TX10) (N := 14) (ci := 8) (v := .long y_305) S in_X10_stumble_X10 tyX10_ok nmX10 G 0 rfl rfl 7 (by decide) lk_X10_stumble_42 rfl rfl rfl (Nat.le_of_ble_eq_true rfl) dX10_stumble_142 (fun H locs G => ?_)
                  have G : wd X (va_A (@HAppend.hAppend va_W va_W va_W _ (xW h0 nw sp xa la lb) (@HAppend.hAppend va_W va_W va_W _ (rcV X nw an sv dv n0 n1 n2 n3 n4 g0 gs gn gm) (@HAppend.hAppend va_W va_W va_W _ (odW (xa 11) vo) ([((xa 5), .inl (X.2.1, 3, .inl fr))])))) sz) (va_A (@HAppend.hAppend va_W va_W va_W _ (xW h0 nw sp xa la lb) (@HAppend.hAppend va_W va_W va_W _ (rcV X nw an sv dv n0 n1 n2 n3 n4 g0 gs gn gm) (@HAppend.hAppend va_W va_W va_W _ (odW (xa 11) vo) ([((xa 5), .inl (X.2.1, 3, .inl fr))])))) sz) s (@HAppend.hAppend va_W va_W va_W _ (xW h0 nw sp xa y_304 y_305) (@HAppend.hAppend va_W va_W va_W _ (rcV X nw an sv dv n0 n1 n2 n3 n4 g0 gs gn gm) (@HAppend.hAppend va_W va_W va_W _ ([((xa 5), .inl (X.2.1, 3, .inl fr))]) (odW (xa 11) v_297)))) H locs := G
                  exact join_124 y_304 y_305 _ _ _  G hl
              · intro la_302 lb_303 H locs ls  G hl
                refine lv_iconst (v := 1) zx zb dX10_stumble_145 (by decide) ?_
                exact e_int S zr zlk (vp_nar_int _) G (la_302, lb_303, v_297, fr) [0, 1, 2, 3, 4, 5, 6, 7, 8, 9, 10, 11, 12, 13, 14, 15, 16, 18, 17] rfl rfl (Or.inr rfl) ((stuF_p ⟨⟨_, hj_1, rfl⟩, hw_3, hw_5, hw_7⟩).symm) dX10_stumble_146
            · refine k_it (v := 3) rfl ?_
              refine r_aald (C := RX8) (b := (an 4)) S G 2 3 rfl rfl (k_vp (by decide)) rfl dX10_stumble_54 ?_
              refine lv_astore (lv' := [(5, .ref (an 4)), (0, .ref h0), (1, .int 3), (2, .int x2), (3, .int 5), (4, .int x4)]) zx zb dX10_stumble_55 hl (by decide) rfl (fun ls hl => ?_)
              refine lv_aload_n zx zb dX10_stumble_57 rfl (lv_at hl 1 rfl) ?_
              refine r_get (C := RX10) (T := TX10) (N := 14) (ci := 8) (v := .ref (xa 11)) S in_X10_stumble_X10 G 0 rfl rfl 11 (by decide) lk_X10_stumble_65 rfl dX10_stumble_58 ?_
              refine lv_aload zx zb dX10_stumble_61 (lv_at hl 0 rfl) ?_
              refine lv_aload_n zx zb dX10_stumble_63 rfl (lv_at hl 1 rfl) ?_
              refine r_get (C := RX10) (T := TX10) (N := 14) (ci := 8) (v := .ref nw) S in_X10_stumble_X10 G 0 rfl rfl 0 (by decide) lk_X10_stumble_10 rfl dX10_stumble_64 ?_
              refine r_get (C := RX5) (T := TX5) (N := 8) (ci := 3) (v := .int (dv 0)) S in_X10_stumble_X5 G 1 rfl rfl 0 (by decide) lk_X10_stumble_140 rfl dX10_stumble_67 ?_
              refine lv_aload_n zx zb dX10_stumble_70 rfl (lv_at hl 1 rfl) ?_
              refine r_get (C := RX10) (T := TX10) (N := 14) (ci := 8) (v := .ref nw) S in_X10_stumble_X10 G 0 rfl rfl 0 (by decide) lk_X10_stumble_10 rfl dX10_stumble_71 ?_
              refine r_get (C := RX5) (T := TX5) (N := 8) (ci := 3) (v := .int (dv 1)) S in_X10_stumble_X5 G 1 rfl rfl 1 (by decide) lk_X10_stumble_110 rfl dX10_stumble_74 ?_
              refine lv_iload_n zx zb dX10_stumble_77 rfl (lv_at hl 4 rfl) ?_
              refine r_iadd (v := ((dv 1) + 5)) S rfl dX10_stumble_78 ?_
              refine lv_iload_n zx zb dX10_stumble_79 rfl (lv_at hl 3 rfl) ?_
              refine lv_iload zx zb dX10_stumble_80 (lv_at hl 5 rfl) ?_
              refine b_wv (cells' := 0) (slots' := 0) (wr := @HAppend.hAppend va_W va_W va_W _ (xW h0 nw sp xa la lb) (@HAppend.hAppend va_W va_W va_W _ ([(nw, .inr (3, [.int (dv 0), .int (dv 1), .int (nI n0), .ref (an 0), .ref (an 7), .ref (an 9), .ref (an 11), .ref (an 13)])), ((an 0), .inl (X.2.2.2.2, 6, .inr (.inr (.inr (.inr (rowQ an)))))), ((an 1), .inr (6, [.int (sv 0), .int (sv 1), .int (sv 2), .int (dv 10), .int (dv 11), .int (dv 12), .int (dv 13), .int (dv 14)])), ((an 2), .inr (6, [.int (sv 3), .int (sv 4), .int (sv 5), .int (dv 15), .int (dv 16), .int (dv 17), .int (dv 18), .int (dv 19)])), ((an 3), .inr (6, [.int (sv 6), .int (sv 7), .int (sv 8), .int (dv 20), .int (dv 21), .int (dv 22), .int (dv 23), .int (dv 24)])), ((an 5), .inr (6, [.int (sv 12), .int (sv 13), .int (sv 14), .int (dv 30), .int (dv 31), .int (dv 32), .int (dv 33), .int (dv 34)])), ((an 6), .inr (6, [.int (sv 15), .int (sv 16), .int (sv 17), .int (dv 35), .int (dv 36), .int (dv 37), .int (dv 38), .int (dv 39)])), ((an 7), .inr (2, [.ref (an 8), .int (nI n1)])), ((an 8), .inl (X.2.1, 248, .inl g0)), ((an 9), .inr (5, [.int 5, .int 0, .int 1, .ref (an 10), .int (nI n2)])), ((an 10), .inl (X.2.1, 25, .inl gs)), ((an 11), .inr (5, [.int 6, .int 1, .int 1, .ref (an 12), .int (nI n3)])), ((an 12), .inl (X.2.1, 30, .inl gn)), ((an 13), .inr (5, [.int 6, .int 0, .int 0, .ref (an 14), .int (nI n4)])), ((an 14), .inl (X.2.1, 30, .inl gm))]) ([((xa 5), .inl (X.2.1, 3, .inl fr))]))) G rfl rfl [17, 6] [0, 1, 2, 3, 4, 5, 7, 8, 9, 10, 11, 12, 13, 14, 15, 16, 18] rfl rfl rfl rfl (n_V (As := [.ref (an 4), .int (dv 0), .int ((dv 1) + 5), .int x2, .int x4]) (rest := []) (C := RX3) (T := TX3) (N := 8) (ci := 1) S G (s_pose l X (xa 11) vo (an 4) (fun k => sv (9 + k)) (fun k => dv (25 + k)) (dv 0) ((dv 1) + 5) x2 x4 H.size) gX10_stumble_X3_pose rfl rfl rfl hdV_X3_pose ⟨Nat.le_of_ble_eq_true rfl, Nat.le_of_ble_eq_true rfl⟩ [17, 6] rfl rfl 17 rfl rfl rfl hl.1 (Nat.le_of_ble_eq_true rfl) dX10_stumble_82 ⟨Nat.le_of_ble_eq_true rfl, Nat.le_of_ble_eq_true rfl⟩) (fun u_306 H locs hp_306 G => ?_)
              obtain ⟨v_306, rfl⟩ : ∃ z, z = u_306 := ⟨_, rfl⟩
              have hq_306 := hp_306
              have G : wd X (va_A (@HAppend.hAppend va_W va_W va_W _ (xW h0 nw sp xa la lb) (@HAppend.hAppend va_W va_W va_W _ (rcV X nw an sv dv n0 n1 n2 n3 n4 g0 gs gn gm) (@HAppend.hAppend va_W va_W va_W _ (odW (xa 11) vo) ([((xa 5), .inl (X.2.1, 3, .inl fr))])))) sz) (va_A (@HAppend.hAppend va_W va_W va_W _ (xW h0 nw sp xa la lb) (@HAppend.hAppend va_W va_W va_W _ (rcV X nw an sv dv n0 n1 n2 n3 n4 g0 gs gn gm) (@HAppend.hAppend va_W va_W va_W _ (odW (xa 11) vo) ([((xa 5), .inl (X.2.1, 3, .inl fr))])))) sz) s (@HAppend.hAppend va_W va_W va_W _ (xW h0 nw sp xa la lb) (@HAppend.hAppend va_W va_W va_W _ (rcV X nw an sv dv n0 n1 n2 n3 n4 g0 gs gn gm) (@HAppend.hAppend va_W va_W va_W _ ([((xa 5), .inl (X.2.1, 3, .inl fr))]) (odW (xa 11) v_306)))) H locs := wd_sub G [0, 1, 2, 3, 4, 5, 18, 6, 7, 8, 9, 10, 11, 12, 13, 14, 15, 16, 17] rfl rfl
              refine lv_aload_n zx zb dX10_stumble_85 rfl (lv_at hl 1 rfl) ?_
              refine r_get (C := RX10) (T := TX10) (N := 14) (ci := 8) (v := .ref (xa 11)) S in_X10_stumble_X10 G 0 rfl rfl 11 (by decide) lk_X10_stumble_65 rfl dX10_stumble_86 ?_
              refine lv_aload zx zb dX10_stumble_89 (lv_at hl 0 rfl) ?_
              refine r_get (C := RX8) (T := TX8) (N := 8) (ci := 6) (v := .int (dv 26)) S in_X10_stumble_X8 G 6 rfl rfl 4 (by decide) lk_X10_stumble_137 rfl dX10_stumble_91 ?_
              refine lv_aload zx zb dX10_stumble_94 (lv_at hl 0 rfl) ?_
              refine r_get (C := RX8) (T := TX8) (N := 8) (ci := 6) (v := .int (dv 28)) S in_X10_stumble_X8 G 6 rfl rfl 6 (by decide) lk_X10_stumble_240 rfl dX10_stumble_96 ?_
              refine lv_iload_n zx zb dX10_stumble_99 rfl (lv_at hl 4 rfl) ?_
              refine o_rl (cells' := 0) (slots' := 0) G rfl rfl (n_SN (As := [.ref (xa 11), .int (dv 26), .int (dv 28), .int 5]) (rest := []) (host := "EggSpoons") S G (s_ways5 l X (xa 11) v_306 (dv 26) (dv 28) H.size) gX10_stumble_X3_ways_n243 rfl rfl rfl mm_X10_stumble_inX3 G.1.2.2.2.2.2.2.2.2.2.2.2 mm_X10_stumble_stX3_ways hdS_X3_ways ⟨Nat.le_of_ble_eq_true rfl, Nat.le_of_ble_eq_true rfl⟩ [18] rfl rfl rfl hl.1 (Nat.le_of_ble_eq_true rfl) dX10_stumble_100 ⟨Nat.le_of_ble_eq_true rfl, Nat.le_of_ble_eq_true rfl⟩) (fun r_307 u_307 H locs hp_307 G => ?_)
              have G : wd X (va_A (@HAppend.hAppend va_W va_W va_W _ (xW h0 nw sp xa la lb) (@HAppend.hAppend va_W va_W va_W _ (rcV X nw an sv dv n0 n1 n2 n3 n4 g0 gs gn gm) (@HAppend.hAppend va_W va_W va_W _ (odW (xa 11) vo) ([((xa 5), .inl (X.2.1, 3, .inl fr))])))) sz) (va_A (@HAppend.hAppend va_W va_W va_W _ (xW h0 nw sp xa la lb) (@HAppend.hAppend va_W va_W va_W _ (rcV X nw an sv dv n0 n1 n2 n3 n4 g0 gs gn gm) (@HAppend.hAppend va_W va_W va_W _ (odW (xa 11) vo) ([((xa 5), .inl (X.2.1, 3, .inl fr))])))) sz) s (@HAppend.hAppend va_W va_W va_W _ (xW h0 nw sp xa la lb) (@HAppend.hAppend va_W va_W va_W _ (rcV X nw an sv dv n0 n1 n2 n3 n4 g0 gs gn gm) (@HAppend.hAppend va_W va_W va_W _ ([((xa 5), .inl (X.2.1, 3, .inl fr))]) (odW (xa 11) v_306)))) H locs := G
              refine lv_lstore (lv' := [(6, .long r_307), (5, .ref (an 4)), (0, .ref h0), (1, .int 3), (2, .int x2), (3, .int 5), (4, .int x4)]) zx zb dX10_stumble_103 hl (by decide) rfl (fun ls hl => ?_)
              refine lv_iload_n zx zb dX10_stumble_105 rfl (lv_at hl 5 rfl) ?_
              refine o_rl (cells' := 0) (slots' := 0) G rfl rfl (n_S (As := [.int 5]) (rest := []) S G (s_tenTo l X 5 (by omega) H.size) gX10_stumble_X3_tenTo rfl rfl rfl hdS_X3_tenTo ⟨Nat.le_of_ble_eq_true rfl, Nat.le_of_ble_eq_true rfl⟩ [] rfl rfl rfl hl.1 (Nat.le_of_ble_eq_true rfl) dX10_stumble_106 ⟨Nat.le_of_ble_eq_true rfl, Nat.le_of_ble_eq_true rfl⟩) (fun r_308 u_308 H locs hp_308 G => ?_)
              have G : wd X (va_A (@HAppend.hAppend va_W va_W va_W _ (xW h0 nw sp xa la lb) (@HAppend.hAppend va_W va_W va_W _ (rcV X nw an sv dv n0 n1 n2 n3 n4 g0 gs gn gm) (@HAppend.hAppend va_W va_W va_W _ (odW (xa 11) vo) ([((xa 5), .inl (X.2.1, 3, .inl fr))])))) sz) (va_A (@HAppend.hAppend va_W va_W va_W _ (xW h0 nw sp xa la lb) (@HAppend.hAppend va_W va_W va_W _ (rcV X nw an sv dv n0 n1 n2 n3 n4 g0 gs gn gm) (@HAppend.hAppend va_W va_W va_W _ (odW (xa 11) vo) ([((xa 5), .inl (X.2.1, 3, .inl fr))])))) sz) s (@HAppend.hAppend va_W va_W va_W _ (xW h0 nw sp xa la lb) (@HAppend.hAppend va_W va_W va_W _ (rcV X nw an sv dv n0 n1 n2 n3 n4 g0 gs gn gm) (@HAppend.hAppend va_W va_W va_W _ ([((xa 5), .inl (X.2.1, 3, .inl fr))]) (odW (xa 11) v_306)))) H locs := G
              refine lv_lstore (lv' := [(8, .long r_308), (6, .long r_307), (5, .ref (an 4)), (0, .ref h0), (1, .int 3), (2, .int x2), (3, .int 5), (4, .int x4)]) zx zb dX10_stumble_109 hl (by decide) rfl (fun ls hl => ?_)
              refine lv_lload zx zb dX10_stumble_111 (lv_at hl 1 rfl) ?_
              refine lv_lload zx zb dX10_stumble_113 (lv_at hl 0 rfl) ?_
              refine o_rl (cells' := 0) (slots' := 0) G rfl rfl (n_S (As := [.long r_307, .long r_308]) (rest := []) S G (s_commonPart l X r_307 r_308 H.size) gX10_stumble_X3_commonPart rfl rfl rfl hdS_X3_commonPart ⟨Nat.le_of_ble_eq_true rfl, Nat.le_of_ble_eq_true rfl⟩ [] rfl rfl rfl hl.1 (Nat.le_of_ble_eq_true rfl) dX10_stumble_115 ⟨Nat.le_of_ble_eq_true rfl, Nat.le_of_ble_eq_true rfl⟩) (fun r_309 u_309 H locs hp_309 G => ?_)
              have G : wd X (va_A (@HAppend.hAppend va_W va_W va_W _ (xW h0 nw sp xa la lb) (@HAppend.hAppend va_W va_W va_W _ (rcV X nw an sv dv n0 n1 n2 n3 n4 g0 gs gn gm) (@HAppend.hAppend va_W va_W va_W _ (odW (xa 11) vo) ([((xa 5), .inl (X.2.1, 3, .inl fr))])))) sz) (va_A (@HAppend.hAppend va_W va_W va_W _ (xW h0 nw sp xa la lb) (@HAppend.hAppend va_W va_W va_W _ (rcV X nw an sv dv n0 n1 n2 n3 n4 g0 gs gn gm) (@HAppend.hAppend va_W va_W va_W _ (odW (xa 11) vo) ([((xa 5), .inl (X.2.1, 3, .inl fr))])))) sz) s (@HAppend.hAppend va_W va_W va_W _ (xW h0 nw sp xa la lb) (@HAppend.hAppend va_W va_W va_W _ (rcV X nw an sv dv n0 n1 n2 n3 n4 g0 gs gn gm) (@HAppend.hAppend va_W va_W va_W _ ([((xa 5), .inl (X.2.1, 3, .inl fr))]) (odW (xa 11) v_306)))) H locs := G
              refine lv_lstore (lv' := [(10, .long r_309), (8, .long r_308), (6, .long r_307), (5, .ref (an 4)), (0, .ref h0), (1, .int 3), (2, .int x2), (3, .int 5), (4, .int x4)]) zx zb dX10_stumble_118 hl (by decide) rfl (fun ls hl => ?_)
              refine lv_lload zx zb dX10_stumble_120 (lv_at hl 0 rfl) ?_
              refine lv_lconst (v := (Int32.toInt64 0)) zx zb dX10_stumble_122 (by decide) ?_
              refine W.lcmp zx zb dX10_stumble_123 ?_
              refine k_cutW (PP := fun Wx => ∀ (la_311 : Int64) (lb_312 : Int64) (H : Heap) (locs : List Loc) (ls : Array Slot), wd X (va_A (@HAppend.hAppend va_W va_W va_W _ (xW h0 nw sp xa la lb) (@HAppend.hAppend va_W va_W va_W _ (rcV X nw an sv dv n0 n1 n2 n3 n4 g0 gs gn gm) (@HAppend.hAppend va_W va_W va_W _ (odW (xa 11) vo) ([((xa 5), .inl (X.2.1, 3, .inl fr))])))) sz) (va_A (@HAppend.hAppend va_W va_W va_W _ (xW h0 nw sp xa la lb) (@HAppend.hAppend va_W va_W va_W _ (rcV X nw an sv dv n0 n1 n2 n3 n4 g0 gs gn gm) (@HAppend.hAppend va_W va_W va_W _ (odW (xa 11) vo) ([((xa 5), .inl (X.2.1, 3, .inl fr))])))) sz) s (@HAppend.hAppend va_W va_W va_W _ (xW h0 nw sp xa la_311 lb_312) (@HAppend.hAppend va_W va_W va_W _ (rcV X nw an sv dv n0 n1 n2 n3 n4 g0 gs gn gm) (@HAppend.hAppend va_W va_W va_W _ ([((xa 5), .inl (X.2.1, 3, .inl fr))]) (odW (xa 11) v_306)))) H locs → lv_has ls 12 [(10, .long r_309), (8, .long r_308), (6, .long r_307), (5, .ref (an 4)), (0, .ref h0), (1, .int 3), (2, .int x2), (3, .int 5), (4, .int x4)] → Wx (F0 m 145 ls []) H locs) ?_ ?_
              · intro join_124
                refine lv_if_le (tgt := 145) zx zb dX10_stumble_124 (by decide) (fun c_310 => ?_) (fun c_310 => ?_)
                · exact join_124 la lb _ _ _  G hl
                · refine lv_aload_n zx zb dX10_stumble_127 rfl (lv_at hl 4 rfl) ?_
                  refine lv_lload zx zb dX10_stumble_128 (lv_at hl 2 rfl) ?_
                  refine lv_lload zx zb dX10_stumble_130 (lv_at hl 0 rfl) ?_
                  refine lv_ldiv zx zb dX10_stumble_132 (k_lnz2 c_310) ?_
                  refine k_ldE (fun y_313 => ?_)
                  refine r_put (C := RX10) (T := TX10) (N := 14) (ci := 8) (v := .long y_313) S in_X10_stumble_X10 tyX10_ok nmX10 G 0 rfl rfl 6 (by decide) lk_X10_stumble_38 rfl rfl rfl (Nat.le_of_ble_eq_true rfl) dX10_stumble_133 (fun H locs G => ?_)
                  have G : wd X (va_A (@HAppend.hAppend va_W va_W va_W _ (xW h0 nw sp xa la lb) (@HAppend.hAppend va_W va_W va_W _ (rcV X nw an sv dv n0 n1 n2 n3 n4 g0 gs gn gm) (@HAppend.hAppend va_W va_W va_W _ (odW (xa 11) vo) ([((xa 5), .inl (X.2.1, 3, .inl fr))])))) sz) (va_A (@HAppend.hAppend va_W va_W va_W _ (xW h0 nw sp xa la lb) (@HAppend.hAppend va_W va_W va_W _ (rcV X nw an sv dv n0 n1 n2 n3 n4 g0 gs gn gm) (@HAppend.hAppend va_W va_W va_W _ (odW (xa 11) vo) ([((xa 5), .inl (X.2.1, 3, .inl fr))])))) sz) s (@HAppend.hAppend va_W va_W va_W _ (xW h0 nw sp xa y_313 lb) (@HAppend.hAppend va_W va_W va_W _ (rcV X nw an sv dv n0 n1 n2 n3 n4 g0 gs gn gm) (@HAppend.hAppend va_W va_W va_W _ ([((xa 5), .inl (X.2.1, 3, .inl fr))]) (odW (xa 11) v_306)))) H locs := G
                  refine lv_aload_n zx zb dX10_stumble_136 rfl (lv_at hl 4 rfl) ?_
                  refine lv_lload zx zb dX10_stumble_137 (lv_at hl 1 rfl) ?_
                  refine lv_lload zx zb dX10_stumble_139 (lv_at hl 0 rfl) ?_
                  refine lv_ldiv zx zb dX10_stumble_141 (k_lnz2 c_310) ?_
                  refine k_ldE (fun y_314 => ?_)
                  refine r_put (C := RX10) (T := TX10) (N := 14) (ci := 8) (v := .long y_314) S in_X10_stumble_X10 tyX10_ok nmX10 G 0 rfl rfl 7 (by decide) lk_X10_stumble_42 rfl rfl rfl (Nat.le_of_ble_eq_true rfl) dX10_stumble_142 (fun H locs G => ?_)
                  have G : wd X (va_A (@HAppend.hAppend va_W va_W va_W _ (xW h0 nw sp xa la lb) (@HAppend.hAppend va_W va_W va_W _ (rcV X nw an sv dv n0 n1 n2 n3 n4 g0 gs gn gm) (@HAppend.hAppend va_W va_W va_W _ (odW (xa 11) vo) ([((xa 5), .inl (X.2.1, 3, .inl fr))])))) sz) (va_A (@HAppend.hAppend va_W va_W va_W _ (xW h0 nw sp xa la lb) (@HAppend.hAppend va_W va_W va_W _ (rcV X nw an sv dv n0 n1 n2 n3 n4 g0 gs gn gm) (@HAppend.hAppend va_W va_W va_W _ (odW (xa 11) vo) ([((xa 5), .inl (X.2.1, 3, .inl fr))])))) sz) s (@HAppend.hAppend va_W va_W va_W _ (xW h0 nw sp xa y_313 y_314) (@HAppend.hAppend va_W va_W va_W _ (rcV X nw an sv dv n0 n1 n2 n3 n4 g0 gs gn gm) (@HAppend.hAppend va_W va_W va_W _ ([((xa 5), .inl (X.2.1, 3, .inl fr))]) (odW (xa 11) v_306)))) H locs := G
                  exact join_124 y_313 y_314 _ _ _  G hl
              · intro la_311 lb_312 H locs ls  G hl
                refine lv_iconst (v := 1) zx zb dX10_stumble_145 (by decide) ?_
                exact e_int S zr zlk (vp_nar_int _) G (la_311, lb_312, v_306, fr) [0, 1, 2, 3, 4, 5, 6, 7, 8, 9, 10, 11, 12, 13, 14, 15, 16, 18, 17] rfl rfl (Or.inr rfl) ((stuF_p ⟨⟨_, hj_1, rfl⟩, hw_3, hw_5, hw_7⟩).symm) dX10_stumble_146
            · refine k_it (v := 4) rfl ?_
              refine r_aald (C := RX8) (b := (an 5)) S G 2 3 rfl rfl (k_vp (by decide)) rfl dX10_stumble_54 ?_
              refine lv_astore (lv' := [(5, .ref (an 5)), (0, .ref h0), (1, .int 4), (2, .int x2), (3, .int 5), (4, .int x4)]) zx zb dX10_stumble_55 hl (by decide) rfl (fun ls hl => ?_)
              refine lv_aload_n zx zb dX10_stumble_57 rfl (lv_at hl 1 rfl) ?_
              refine r_get (C := RX10) (T := TX10) (N := 14) (ci := 8) (v := .ref (xa 11)) S in_X10_stumble_X10 G 0 rfl rfl 11 (by decide) lk_X10_stumble_65 rfl dX10_stumble_58 ?_
              refine lv_aload zx zb dX10_stumble_61 (lv_at hl 0 rfl) ?_
              refine lv_aload_n zx zb dX10_stumble_63 rfl (lv_at hl 1 rfl) ?_
              refine r_get (C := RX10) (T := TX10) (N := 14) (ci := 8) (v := .ref nw) S in_X10_stumble_X10 G 0 rfl rfl 0 (by decide) lk_X10_stumble_10 rfl dX10_stumble_64 ?_
              refine r_get (C := RX5) (T := TX5) (N := 8) (ci := 3) (v := .int (dv 0)) S in_X10_stumble_X5 G 1 rfl rfl 0 (by decide) lk_X10_stumble_140 rfl dX10_stumble_67 ?_
              refine lv_aload_n zx zb dX10_stumble_70 rfl (lv_at hl 1 rfl) ?_
              refine r_get (C := RX10) (T := TX10) (N := 14) (ci := 8) (v := .ref nw) S in_X10_stumble_X10 G 0 rfl rfl 0 (by decide) lk_X10_stumble_10 rfl dX10_stumble_71 ?_
              refine r_get (C := RX5) (T := TX5) (N := 8) (ci := 3) (v := .int (dv 1)) S in_X10_stumble_X5 G 1 rfl rfl 1 (by decide) lk_X10_stumble_110 rfl dX10_stumble_74 ?_
              refine lv_iload_n zx zb dX10_stumble_77 rfl (lv_at hl 4 rfl) ?_
              refine r_iadd (v := ((dv 1) + 5)) S rfl dX10_stumble_78 ?_
              refine lv_iload_n zx zb dX10_stumble_79 rfl (lv_at hl 3 rfl) ?_
              refine lv_iload zx zb dX10_stumble_80 (lv_at hl 5 rfl) ?_
              refine b_wv (cells' := 0) (slots' := 0) (wr := @HAppend.hAppend va_W va_W va_W _ (xW h0 nw sp xa la lb) (@HAppend.hAppend va_W va_W va_W _ ([(nw, .inr (3, [.int (dv 0), .int (dv 1), .int (nI n0), .ref (an 0), .ref (an 7), .ref (an 9), .ref (an 11), .ref (an 13)])), ((an 0), .inl (X.2.2.2.2, 6, .inr (.inr (.inr (.inr (rowQ an)))))), ((an 1), .inr (6, [.int (sv 0), .int (sv 1), .int (sv 2), .int (dv 10), .int (dv 11), .int (dv 12), .int (dv 13), .int (dv 14)])), ((an 2), .inr (6, [.int (sv 3), .int (sv 4), .int (sv 5), .int (dv 15), .int (dv 16), .int (dv 17), .int (dv 18), .int (dv 19)])), ((an 3), .inr (6, [.int (sv 6), .int (sv 7), .int (sv 8), .int (dv 20), .int (dv 21), .int (dv 22), .int (dv 23), .int (dv 24)])), ((an 4), .inr (6, [.int (sv 9), .int (sv 10), .int (sv 11), .int (dv 25), .int (dv 26), .int (dv 27), .int (dv 28), .int (dv 29)])), ((an 6), .inr (6, [.int (sv 15), .int (sv 16), .int (sv 17), .int (dv 35), .int (dv 36), .int (dv 37), .int (dv 38), .int (dv 39)])), ((an 7), .inr (2, [.ref (an 8), .int (nI n1)])), ((an 8), .inl (X.2.1, 248, .inl g0)), ((an 9), .inr (5, [.int 5, .int 0, .int 1, .ref (an 10), .int (nI n2)])), ((an 10), .inl (X.2.1, 25, .inl gs)), ((an 11), .inr (5, [.int 6, .int 1, .int 1, .ref (an 12), .int (nI n3)])), ((an 12), .inl (X.2.1, 30, .inl gn)), ((an 13), .inr (5, [.int 6, .int 0, .int 0, .ref (an 14), .int (nI n4)])), ((an 14), .inl (X.2.1, 30, .inl gm))]) ([((xa 5), .inl (X.2.1, 3, .inl fr))]))) G rfl rfl [17, 7] [0, 1, 2, 3, 4, 5, 6, 8, 9, 10, 11, 12, 13, 14, 15, 16, 18] rfl rfl rfl rfl (n_V (As := [.ref (an 5), .int (dv 0), .int ((dv 1) + 5), .int x2, .int x4]) (rest := []) (C := RX3) (T := TX3) (N := 8) (ci := 1) S G (s_pose l X (xa 11) vo (an 5) (fun k => sv (12 + k)) (fun k => dv (30 + k)) (dv 0) ((dv 1) + 5) x2 x4 H.size) gX10_stumble_X3_pose rfl rfl rfl hdV_X3_pose ⟨Nat.le_of_ble_eq_true rfl, Nat.le_of_ble_eq_true rfl⟩ [17, 7] rfl rfl 17 rfl rfl rfl hl.1 (Nat.le_of_ble_eq_true rfl) dX10_stumble_82 ⟨Nat.le_of_ble_eq_true rfl, Nat.le_of_ble_eq_true rfl⟩) (fun u_315 H locs hp_315 G => ?_)
              obtain ⟨v_315, rfl⟩ : ∃ z, z = u_315 := ⟨_, rfl⟩
              have hq_315 := hp_315
              have G : wd X (va_A (@HAppend.hAppend va_W va_W va_W _ (xW h0 nw sp xa la lb) (@HAppend.hAppend va_W va_W va_W _ (rcV X nw an sv dv n0 n1 n2 n3 n4 g0 gs gn gm) (@HAppend.hAppend va_W va_W va_W _ (odW (xa 11) vo) ([((xa 5), .inl (X.2.1, 3, .inl fr))])))) sz) (va_A (@HAppend.hAppend va_W va_W va_W _ (xW h0 nw sp xa la lb) (@HAppend.hAppend va_W va_W va_W _ (rcV X nw an sv dv n0 n1 n2 n3 n4 g0 gs gn gm) (@HAppend.hAppend va_W va_W va_W _ (odW (xa 11) vo) ([((xa 5), .inl (X.2.1, 3, .inl fr))])))) sz) s (@HAppend.hAppend va_W va_W va_W _ (xW h0 nw sp xa la lb) (@HAppend.hAppend va_W va_W va_W _ (rcV X nw an sv dv n0 n1 n2 n3 n4 g0 gs gn gm) (@HAppend.hAppend va_W va_W va_W _ ([((xa 5), .inl (X.2.1, 3, .inl fr))]) (odW (xa 11) v_315)))) H locs := wd_sub G [0, 1, 2, 3, 4, 5, 6, 18, 7, 8, 9, 10, 11, 12, 13, 14, 15, 16, 17] rfl rfl
              refine lv_aload_n zx zb dX10_stumble_85 rfl (lv_at hl 1 rfl) ?_
              refine r_get (C := RX10) (T := TX10) (N := 14) (ci := 8) (v := .ref (xa 11)) S in_X10_stumble_X10 G 0 rfl rfl 11 (by decide) lk_X10_stumble_65 rfl dX10_stumble_86 ?_
              refine lv_aload zx zb dX10_stumble_89 (lv_at hl 0 rfl) ?_
              refine r_get (C := RX8) (T := TX8) (N := 8) (ci := 6) (v := .int (dv 31)) S in_X10_stumble_X8 G 7 rfl rfl 4 (by decide) lk_X10_stumble_137 rfl dX10_stumble_91 ?_
              refine lv_aload zx zb dX10_stumble_94 (lv_at hl 0 rfl) ?_
              refine r_get (C := RX8) (T := TX8) (N := 8) (ci := 6) (v := .int (dv 33)) S in_X10_stumble_X8 G 7 rfl rfl 6 (by decide) lk_X10_stumble_240 rfl dX10_stumble_96 ?_
              refine lv_iload_n zx zb dX10_stumble_99 rfl (lv_at hl 4 rfl) ?_
              refine o_rl (cells' := 0) (slots' := 0) G rfl rfl (n_SN (As := [.ref (xa 11), .int (dv 31), .int (dv 33), .int 5]) (rest := []) (host := "EggSpoons") S G (s_ways5 l X (xa 11) v_315 (dv 31) (dv 33) H.size) gX10_stumble_X3_ways_n243 rfl rfl rfl mm_X10_stumble_inX3 G.1.2.2.2.2.2.2.2.2.2.2.2 mm_X10_stumble_stX3_ways hdS_X3_ways ⟨Nat.le_of_ble_eq_true rfl, Nat.le_of_ble_eq_true rfl⟩ [18] rfl rfl rfl hl.1 (Nat.le_of_ble_eq_true rfl) dX10_stumble_100 ⟨Nat.le_of_ble_eq_true rfl, Nat.le_of_ble_eq_true rfl⟩) (fun r_316 u_316 H locs hp_316 G => ?_)
              have G : wd X (va_A (@HAppend.hAppend va_W va_W va_W _ (xW h0 nw sp xa la lb) (@HAppend.hAppend va_W va_W va_W _ (rcV X nw an sv dv n0 n1 n2 n3 n4 g0 gs gn gm) (@HAppend.hAppend va_W va_W va_W _ (odW (xa 11) vo) ([((xa 5), .inl (X.2.1, 3, .inl fr))])))) sz) (va_A (@HAppend.hAppend va_W va_W va_W _ (xW h0 nw sp xa la lb) (@HAppend.hAppend va_W va_W va_W _ (rcV X nw an sv dv n0 n1 n2 n3 n4 g0 gs gn gm) (@HAppend.hAppend va_W va_W va_W _ (odW (xa 11) vo) ([((xa 5), .inl (X.2.1, 3, .inl fr))])))) sz) s (@HAppend.hAppend va_W va_W va_W _ (xW h0 nw sp xa la lb) (@HAppend.hAppend va_W va_W va_W _ (rcV X nw an sv dv n0 n1 n2 n3 n4 g0 gs gn gm) (@HAppend.hAppend va_W va_W va_W _ ([((xa 5), .inl (X.2.1, 3, .inl fr))]) (odW (xa 11) v_315)))) H locs := G
              refine lv_lstore (lv' := [(6, .long r_316), (5, .ref (an 5)), (0, .ref h0), (1, .int 4), (2, .int x2), (3, .int 5), (4, .int x4)]) zx zb dX10_stumble_103 hl (by decide) rfl (fun ls hl => ?_)
              refine lv_iload_n zx zb dX10_stumble_105 rfl (lv_at hl 5 rfl) ?_
              refine o_rl (cells' := 0) (slots' := 0) G rfl rfl (n_S (As := [.int 5]) (rest := []) S G (s_tenTo l X 5 (by omega) H.size) gX10_stumble_X3_tenTo rfl rfl rfl hdS_X3_tenTo ⟨Nat.le_of_ble_eq_true rfl, Nat.le_of_ble_eq_true rfl⟩ [] rfl rfl rfl hl.1 (Nat.le_of_ble_eq_true rfl) dX10_stumble_106 ⟨Nat.le_of_ble_eq_true rfl, Nat.le_of_ble_eq_true rfl⟩) (fun r_317 u_317 H locs hp_317 G => ?_)
              have G : wd X (va_A (@HAppend.hAppend va_W va_W va_W _ (xW h0 nw sp xa la lb) (@HAppend.hAppend va_W va_W va_W _ (rcV X nw an sv dv n0 n1 n2 n3 n4 g0 gs gn gm) (@HAppend.hAppend va_W va_W va_W _ (odW (xa 11) vo) ([((xa 5), .inl (X.2.1, 3, .inl fr))])))) sz) (va_A (@HAppend.hAppend va_W va_W va_W _ (xW h0 nw sp xa la lb) (@HAppend.hAppend va_W va_W va_W _ (rcV X nw an sv dv n0 n1 n2 n3 n4 g0 gs gn gm) (@HAppend.hAppend va_W va_W va_W _ (odW (xa 11) vo) ([((xa 5), .inl (X.2.1, 3, .inl fr))])))) sz) s (@HAppend.hAppend va_W va_W va_W _ (xW h0 nw sp xa la lb) (@HAppend.hAppend va_W va_W va_W _ (rcV X nw an sv dv n0 n1 n2 n3 n4 g0 gs gn gm) (@HAppend.hAppend va_W va_W va_W _ ([((xa 5), .inl (X.2.1, 3, .inl fr))]) (odW (xa 11) v_315)))) H locs := G
              refine lv_lstore (lv' := [(8, .long r_317), (6, .long r_316), (5, .ref (an 5)), (0, .ref h0), (1, .int 4), (2, .int x2), (3, .int 5), (4, .int x4)]) zx zb dX10_stumble_109 hl (by decide) rfl (fun ls hl => ?_)
              refine lv_lload zx zb dX10_stumble_111 (lv_at hl 1 rfl) ?_
              refine lv_lload zx zb dX10_stumble_113 (lv_at hl 0 rfl) ?_
              refine o_rl (cells' := 0) (slots' := 0) G rfl rfl (n_S (As := [.long r_316, .long r_317]) (rest := []) S G (s_commonPart l X r_316 r_317 H.size) gX10_stumble_X3_commonPart rfl rfl rfl hdS_X3_commonPart ⟨Nat.le_of_ble_eq_true rfl, Nat.le_of_ble_eq_true rfl⟩ [] rfl rfl rfl hl.1 (Nat.le_of_ble_eq_true rfl) dX10_stumble_115 ⟨Nat.le_of_ble_eq_true rfl, Nat.le_of_ble_eq_true rfl⟩) (fun r_318 u_318 H locs hp_318 G => ?_)
              have G : wd X (va_A (@HAppend.hAppend va_W va_W va_W _ (xW h0 nw sp xa la lb) (@HAppend.hAppend va_W va_W va_W _ (rcV X nw an sv dv n0 n1 n2 n3 n4 g0 gs gn gm) (@HAppend.hAppend va_W va_W va_W _ (odW (xa 11) vo) ([((xa 5), .inl (X.2.1, 3, .inl fr))])))) sz) (va_A (@HAppend.hAppend va_W va_W va_W _ (xW h0 nw sp xa la lb) (@HAppend.hAppend va_W va_W va_W _ (rcV X nw an sv dv n0 n1 n2 n3 n4 g0 gs gn gm) (@HAppend.hAppend va_W va_W va_W _ (odW (xa 11) vo) ([((xa 5), .inl (X.2.1, 3, .inl fr))])))) sz) s (@HAppend.hAppend va_W va_W va_W _ (xW h0 nw sp xa la lb) (@HAppend.hAppend va_W va_W va_W _ (rcV X nw an sv dv n0 n1 n2 n3 n4 g0 gs gn gm) (@HAppend.hAppend va_W va_W va_W _ ([((xa 5), .inl (X.2.1, 3, .inl fr))]) (odW (xa 11) v_315)))) H locs := G
              refine lv_lstore (lv' := [(10, .long r_318), (8, .long r_317), (6, .long r_316), (5, .ref (an 5)), (0, .ref h0), (1, .int 4), (2, .int x2), (3, .int 5), (4, .int x4)]) zx zb dX10_stumble_118 hl (by decide) rfl (fun ls hl => ?_)
              refine lv_lload zx zb dX10_stumble_120 (lv_at hl 0 rfl) ?_
              refine lv_lconst (v := (Int32.toInt64 0)) zx zb dX10_stumble_122 (by decide) ?_
              refine W.lcmp zx zb dX10_stumble_123 ?_
              refine k_cutW (PP := fun Wx => ∀ (la_320 : Int64) (lb_321 : Int64) (H : Heap) (locs : List Loc) (ls : Array Slot), wd X (va_A (@HAppend.hAppend va_W va_W va_W _ (xW h0 nw sp xa la lb) (@HAppend.hAppend va_W va_W va_W _ (rcV X nw an sv dv n0 n1 n2 n3 n4 g0 gs gn gm) (@HAppend.hAppend va_W va_W va_W _ (odW (xa 11) vo) ([((xa 5), .inl (X.2.1, 3, .inl fr))])))) sz) (va_A (@HAppend.hAppend va_W va_W va_W _ (xW h0 nw sp xa la lb) (@HAppend.hAppend va_W va_W va_W _ (rcV X nw an sv dv n0 n1 n2 n3 n4 g0 gs gn gm) (@HAppend.hAppend va_W va_W va_W _ (odW (xa 11) vo) ([((xa 5), .inl (X.2.1, 3, .inl fr))])))) sz) s (@HAppend.hAppend va_W va_W va_W _ (xW h0 nw sp xa la_320 lb_321) (@HAppend.hAppend va_W va_W va_W _ (rcV X nw an sv dv n0 n1 n2 n3 n4 g0 gs gn gm) (@HAppend.hAppend va_W va_W va_W _ ([((xa 5), .inl (X.2.1, 3, .inl fr))]) (odW (xa 11) v_315)))) H locs → lv_has ls 12 [(10, .long r_318), (8, .long r_317), (6, .long r_316), (5, .ref (an 5)), (0, .ref h0), (1, .int 4), (2, .int x2), (3, .int 5), (4, .int x4)] → Wx (F0 m 145 ls []) H locs) ?_ ?_
              · intro join_124
                refine lv_if_le (tgt := 145) zx zb dX10_stumble_124 (by decide) (fun c_319 => ?_) (fun c_319 => ?_)
                · exact join_124 la lb _ _ _  G hl
                · refine lv_aload_n zx zb dX10_stumble_127 rfl (lv_at hl 4 rfl) ?_
                  refine lv_lload zx zb dX10_stumble_128 (lv_at hl 2 rfl) ?_
                  refine lv_lload zx zb dX10_stumble_130 (lv_at hl 0 rfl) ?_
                  refine lv_ldiv zx zb dX10_stumble_132 (k_lnz2 c_319) ?_
                  refine k_ldE (fun y_322 => ?_)
                  refine r_put (C := RX10) (T := TX10) (N := 14) (ci := 8) (v := .long y_322) S in_X10_stumble_X10 tyX10_ok nmX10 G 0 rfl rfl 6 (by decide) lk_X10_stumble_38 rfl rfl rfl (Nat.le_of_ble_eq_true rfl) dX10_stumble_133 (fun H locs G => ?_)
                  have G : wd X (va_A (@HAppend.hAppend va_W va_W va_W _ (xW h0 nw sp xa la lb) (@HAppend.hAppend va_W va_W va_W _ (rcV X nw an sv dv n0 n1 n2 n3 n4 g0 gs gn gm) (@HAppend.hAppend va_W va_W va_W _ (odW (xa 11) vo) ([((xa 5), .inl (X.2.1, 3, .inl fr))])))) sz) (va_A (@HAppend.hAppend va_W va_W va_W _ (xW h0 nw sp xa la lb) (@HAppend.hAppend va_W va_W va_W _ (rcV X nw an sv dv n0 n1 n2 n3 n4 g0 gs gn gm) (@HAppend.hAppend va_W va_W va_W _ (odW (xa 11) vo) ([((xa 5), .inl (X.2.1, 3, .inl fr))])))) sz) s (@HAppend.hAppend va_W va_W va_W _ (xW h0 nw sp xa y_322 lb) (@HAppend.hAppend va_W va_W va_W _ (rcV X nw an sv dv n0 n1 n2 n3 n4 g0 gs gn gm) (@HAppend.hAppend va_W va_W va_W _ ([((xa 5), .inl (X.2.1, 3, .inl fr))]) (odW (xa 11) v_315)))) H locs := G
                  refine lv_aload_n zx zb dX10_stumble_136 rfl (lv_at hl 4 rfl) ?_
                  refine lv_lload zx zb dX10_stumble_137 (lv_at hl 1 rfl) ?_
                  refine lv_lload zx zb dX10_stumble_139 (lv_at hl 0 rfl) ?_
                  refine lv_ldiv zx zb dX10_stumble_141 (k_lnz2 c_319) ?_
                  refine k_ldE (fun y_323 => ?_)
                  refine r_put (C := RX10) (T := TX10) (N := 14) (ci := 8) (v := .long y_323) S in_X10_stumble_X10 tyX10_ok nmX10 G 0 rfl rfl 7 (by decide) lk_X10_stumble_42 rfl rfl rfl (Nat.le_of_ble_eq_true rfl) dX10_stumble_142 (fun H locs G => ?_)
                  have G : wd X (va_A (@HAppend.hAppend va_W va_W va_W _ (xW h0 nw sp xa la lb) (@HAppend.hAppend va_W va_W va_W _ (rcV X nw an sv dv n0 n1 n2 n3 n4 g0 gs gn gm) (@HAppend.hAppend va_W va_W va_W _ (odW (xa 11) vo) ([((xa 5), .inl (X.2.1, 3, .inl fr))])))) sz) (va_A (@HAppend.hAppend va_W va_W va_W _ (xW h0 nw sp xa la lb) (@HAppend.hAppend va_W va_W va_W _ (rcV X nw an sv dv n0 n1 n2 n3 n4 g0 gs gn gm) (@HAppend.hAppend va_W va_W va_W _ (odW (xa 11) vo) ([((xa 5), .inl (X.2.1, 3, .inl fr))])))) sz) s (@HAppend.hAppend va_W va_W va_W _ (xW h0 nw sp xa y_322 y_323) (@HAppend.hAppend va_W va_W va_W _ (rcV X nw an sv dv n0 n1 n2 n3 n4 g0 gs gn gm) (@HAppend.hAppend va_W va_W va_W _ ([((xa 5), .inl (X.2.1, 3, .inl fr))]) (odW (xa 11) v_315)))) H locs := G
                  exact join_124 y_322 y_323 _ _ _  G hl
              · intro la_320 lb_321 H locs ls  G hl
                refine lv_iconst (v := 1) zx zb dX10_stumble_145 (by decide) ?_
                exact e_int S zr zlk (vp_nar_int _) G (la_320, lb_321, v_315, fr) [0, 1, 2, 3, 4, 5, 6, 7, 8, 9, 10, 11, 12, 13, 14, 15, 16, 18, 17] rfl rfl (Or.inr rfl) ((stuF_p ⟨⟨_, hj_1, rfl⟩, hw_3, hw_5, hw_7⟩).symm) dX10_stumble_146
            · refine k_it (v := 5) rfl ?_
              refine r_aald (C := RX8) (b := (an 6)) S G 2 3 rfl rfl (k_vp (by decide)) rfl dX10_stumble_54 ?_
              refine lv_astore (lv' := [(5, .ref (an 6)), (0, .ref h0), (1, .int 5), (2, .int x2), (3, .int 5), (4, .int x4)]) zx zb dX10_stumble_55 hl (by decide) rfl (fun ls hl => ?_)
              refine lv_aload_n zx zb dX10_stumble_57 rfl (lv_at hl 1 rfl) ?_
              refine r_get (C := RX10) (T := TX10) (N := 14) (ci := 8) (v := .ref (xa 11)) S in_X10_stumble_X10 G 0 rfl rfl 11 (by decide) lk_X10_stumble_65 rfl dX10_stumble_58 ?_
              refine lv_aload zx zb dX10_stumble_61 (lv_at hl 0 rfl) ?_
              refine lv_aload_n zx zb dX10_stumble_63 rfl (lv_at hl 1 rfl) ?_
              refine r_get (C := RX10) (T := TX10) (N := 14) (ci := 8) (v := .ref nw) S in_X10_stumble_X10 G 0 rfl rfl 0 (by decide) lk_X10_stumble_10 rfl dX10_stumble_64 ?_
              refine r_get (C := RX5) (T := TX5) (N := 8) (ci := 3) (v := .int (dv 0)) S in_X10_stumble_X5 G 1 rfl rfl 0 (by decide) lk_X10_stumble_140 rfl dX10_stumble_67 ?_
              refine lv_aload_n zx zb dX10_stumble_70 rfl (lv_at hl 1 rfl) ?_
              refine r_get (C := RX10) (T := TX10) (N := 14) (ci := 8) (v := .ref nw) S in_X10_stumble_X10 G 0 rfl rfl 0 (by decide) lk_X10_stumble_10 rfl dX10_stumble_71 ?_
              refine r_get (C := RX5) (T := TX5) (N := 8) (ci := 3) (v := .int (dv 1)) S in_X10_stumble_X5 G 1 rfl rfl 1 (by decide) lk_X10_stumble_110 rfl dX10_stumble_74 ?_
              refine lv_iload_n zx zb dX10_stumble_77 rfl (lv_at hl 4 rfl) ?_
              refine r_iadd (v := ((dv 1) + 5)) S rfl dX10_stumble_78 ?_
              refine lv_iload_n zx zb dX10_stumble_79 rfl (lv_at hl 3 rfl) ?_
              refine lv_iload zx zb dX10_stumble_80 (lv_at hl 5 rfl) ?_
              refine b_wv (cells' := 0) (slots' := 0) (wr := @HAppend.hAppend va_W va_W va_W _ (xW h0 nw sp xa la lb) (@HAppend.hAppend va_W va_W va_W _ ([(nw, .inr (3, [.int (dv 0), .int (dv 1), .int (nI n0), .ref (an 0), .ref (an 7), .ref (an 9), .ref (an 11), .ref (an 13)])), ((an 0), .inl (X.2.2.2.2, 6, .inr (.inr (.inr (.inr (rowQ an)))))), ((an 1), .inr (6, [.int (sv 0), .int (sv 1), .int (sv 2), .int (dv 10), .int (dv 11), .int (dv 12), .int (dv 13), .int (dv 14)])), ((an 2), .inr (6, [.int (sv 3), .int (sv 4), .int (sv 5), .int (dv 15), .int (dv 16), .int (dv 17), .int (dv 18), .int (dv 19)])), ((an 3), .inr (6, [.int (sv 6), .int (sv 7), .int (sv 8), .int (dv 20), .int (dv 21), .int (dv 22), .int (dv 23), .int (dv 24)])), ((an 4), .inr (6, [.int (sv 9), .int (sv 10), .int (sv 11), .int (dv 25), .int (dv 26), .int (dv 27), .int (dv 28), .int (dv 29)])), ((an 5), .inr (6, [.int (sv 12), .int (sv 13), .int (sv 14), .int (dv 30), .int (dv 31), .int (dv 32), .int (dv 33), .int (dv 34)])), ((an 7), .inr (2, [.ref (an 8), .int (nI n1)])), ((an 8), .inl (X.2.1, 248, .inl g0)), ((an 9), .inr (5, [.int 5, .int 0, .int 1, .ref (an 10), .int (nI n2)])), ((an 10), .inl (X.2.1, 25, .inl gs)), ((an 11), .inr (5, [.int 6, .int 1, .int 1, .ref (an 12), .int (nI n3)])), ((an 12), .inl (X.2.1, 30, .inl gn)), ((an 13), .inr (5, [.int 6, .int 0, .int 0, .ref (an 14), .int (nI n4)])), ((an 14), .inl (X.2.1, 30, .inl gm))]) ([((xa 5), .inl (X.2.1, 3, .inl fr))]))) G rfl rfl [17, 8] [0, 1, 2, 3, 4, 5, 6, 7, 9, 10, 11, 12, 13, 14, 15, 16, 18] rfl rfl rfl rfl (n_V (As := [.ref (an 6), .int (dv 0), .int ((dv 1) + 5), .int x2, .int x4]) (rest := []) (C := RX3) (T := TX3) (N := 8) (ci := 1) S G (s_pose l X (xa 11) vo (an 6) (fun k => sv (15 + k)) (fun k => dv (35 + k)) (dv 0) ((dv 1) + 5) x2 x4 H.size) gX10_stumble_X3_pose rfl rfl rfl hdV_X3_pose ⟨Nat.le_of_ble_eq_true rfl, Nat.le_of_ble_eq_true rfl⟩ [17, 8] rfl rfl 17 rfl rfl rfl hl.1 (Nat.le_of_ble_eq_true rfl) dX10_stumble_82 ⟨Nat.le_of_ble_eq_true rfl, Nat.le_of_ble_eq_true rfl⟩) (fun u_324 H locs hp_324 G => ?_)
              obtain ⟨v_324, rfl⟩ : ∃ z, z = u_324 := ⟨_, rfl⟩
              have hq_324 := hp_324
              have G : wd X (va_A (@HAppend.hAppend va_W va_W va_W _ (xW h0 nw sp xa la lb) (@HAppend.hAppend va_W va_W va_W _ (rcV X nw an sv dv n0 n1 n2 n3 n4 g0 gs gn gm) (@HAppend.hAppend va_W va_W va_W _ (odW (xa 11) vo) ([((xa 5), .inl (X.2.1, 3, .inl fr))])))) sz) (va_A (@HAppend.hAppend va_W va_W va_W _ (xW h0 nw sp xa la lb) (@HAppend.hAppend va_W va_W va_W _ (rcV X nw an sv dv n0 n1 n2 n3 n4 g0 gs gn gm) (@HAppend.hAppend va_W va_W va_W _ (odW (xa 11) vo) ([((xa 5), .inl (X.2.1, 3, .inl fr))])))) sz) s (@HAppend.hAppend va_W va_W va_W _ (xW h0 nw sp xa la lb) (@HAppend.hAppend va_W va_W va_W _ (rcV X nw an sv dv n0 n1 n2 n3 n4 g0 gs gn gm) (@HAppend.hAppend va_W va_W va_W _ ([((xa 5), .inl (X.2.1, 3, .inl fr))]) (odW (xa 11) v_324)))) H locs := wd_sub G [0, 1, 2, 3, 4, 5, 6, 7, 18, 8, 9, 10, 11, 12, 13, 14, 15, 16, 17] rfl rfl
              refine lv_aload_n zx zb dX10_stumble_85 rfl (lv_at hl 1 rfl) ?_
              refine r_get (C := RX10) (T := TX10) (N := 14) (ci := 8) (v := .ref (xa 11)) S in_X10_stumble_X10 G 0 rfl rfl 11 (by decide) lk_X10_stumble_65 rfl dX10_stumble_86 ?_
              refine lv_aload zx zb dX10_stumble_89 (lv_at hl 0 rfl) ?_
              refine r_get (C := RX8) (T := TX8) (N := 8) (ci := 6) (v := .int (dv 36)) S in_X10_stumble_X8 G 8 rfl rfl 4 (by decide) lk_X10_stumble_137 rfl dX10_stumble_91 ?_
              refine lv_aload zx zb dX10_stumble_94 (lv_at hl 0 rfl) ?_
              refine r_get (C := RX8) (T := TX8) (N := 8) (ci := 6) (v := .int (dv 38)) S in_X10_stumble_X8 G 8 rfl rfl 6 (by decide) lk_X10_stumble_240 rfl dX10_stumble_96 ?_
              refine lv_iload_n zx zb dX10_stumble_99 rfl (lv_at hl 4 rfl) ?_
              refine o_rl (cells' := 0) (slots' := 0) G rfl rfl (n_SN (As := [.ref (xa 11), .int (dv 36), .int (dv 38), .int 5]) (rest := []) (host := "EggSpoons") S G (s_ways5 l X (xa 11) v_324 (dv 36) (dv 38) H.size) gX10_stumble_X3_ways_n243 rfl rfl rfl mm_X10_stumble_inX3 G.1.2.2.2.2.2.2.2.2.2.2.2 mm_X10_stumble_stX3_ways hdS_X3_ways ⟨Nat.le_of_ble_eq_true rfl, Nat.le_of_ble_eq_true rfl⟩ [18] rfl rfl rfl hl.1 (Nat.le_of_ble_eq_true rfl) dX10_stumble_100 ⟨Nat.le_of_ble_eq_true rfl, Nat.le_of_ble_eq_true rfl⟩) (fun r_325 u_325 H locs hp_325 G => ?_)
              have G : wd X (va_A (@HAppend.hAppend va_W va_W va_W _ (xW h0 nw sp xa la lb) (@HAppend.hAppend va_W va_W va_W _ (rcV X nw an sv dv n0 n1 n2 n3 n4 g0 gs gn gm) (@HAppend.hAppend va_W va_W va_W _ (odW (xa 11) vo) ([((xa 5), .inl (X.2.1, 3, .inl fr))])))) sz) (va_A (@HAppend.hAppend va_W va_W va_W _ (xW h0 nw sp xa la lb) (@HAppend.hAppend va_W va_W va_W _ (rcV X nw an sv dv n0 n1 n2 n3 n4 g0 gs gn gm) (@HAppend.hAppend va_W va_W va_W _ (odW (xa 11) vo) ([((xa 5), .inl (X.2.1, 3, .inl fr))])))) sz) s (@HAppend.hAppend va_W va_W va_W _ (xW h0 nw sp xa la lb) (@HAppend.hAppend va_W va_W va_W _ (rcV X nw an sv dv n0 n1 n2 n3 n4 g0 gs gn gm) (@HAppend.hAppend va_W va_W va_W _ ([((xa 5), .inl (X.2.1, 3, .inl fr))]) (odW (xa 11) v_324)))) H locs := G
              refine lv_lstore (lv' := [(6, .long r_325), (5, .ref (an 6)), (0, .ref h0), (1, .int 5), (2, .int x2), (3, .int 5), (4, .int x4)]) zx zb dX10_stumble_103 hl (by decide) rfl (fun ls hl => ?_)
              refine lv_iload_n zx zb dX10_stumble_105 rfl (lv_at hl 5 rfl) ?_
              refine o_rl (cells' := 0) (slots' := 0) G rfl rfl (n_S (As := [.int 5]) (rest := []) S G (s_tenTo l X 5 (by omega) H.size) gX10_stumble_X3_tenTo rfl rfl rfl hdS_X3_tenTo ⟨Nat.le_of_ble_eq_true rfl, Nat.le_of_ble_eq_true rfl⟩ [] rfl rfl rfl hl.1 (Nat.le_of_ble_eq_true rfl) dX10_stumble_106 ⟨Nat.le_of_ble_eq_true rfl, Nat.le_of_ble_eq_true rfl⟩) (fun r_326 u_326 H locs hp_326 G => ?_)
              have G : wd X (va_A (@HAppend.hAppend va_W va_W va_W _ (xW h0 nw sp xa la lb) (@HAppend.hAppend va_W va_W va_W _ (rcV X nw an sv dv n0 n1 n2 n3 n4 g0 gs gn gm) (@HAppend.hAppend va_W va_W va_W _ (odW (xa 11) vo) ([((xa 5), .inl (X.2.1, 3, .inl fr))])))) sz) (va_A (@HAppend.hAppend va_W va_W va_W _ (xW h0 nw sp xa la lb) (@HAppend.hAppend va_W va_W va_W _ (rcV X nw an sv dv n0 n1 n2 n3 n4 g0 gs gn gm) (@HAppend.hAppend va_W va_W va_W _ (odW (xa 11) vo) ([((xa 5), .inl (X.2.1, 3, .inl fr))])))) sz) s (@HAppend.hAppend va_W va_W va_W _ (xW h0 nw sp xa la lb) (@HAppend.hAppend va_W va_W va_W _ (rcV X nw an sv dv n0 n1 n2 n3 n4 g0 gs gn gm) (@HAppend.hAppend va_W va_W va_W _ ([((xa 5), .inl (X.2.1, 3, .inl fr))]) (odW (xa 11) v_324)))) H locs := G
              refine lv_lstore (lv' := [(8, .long r_326), (6, .long r_325), (5, .ref (an 6)), (0, .ref h0), (1, .int 5), (2, .int x2), (3, .int 5), (4, .int x4)]) zx zb dX10_stumble_109 hl (by decide) rfl (fun ls hl => ?_)
              refine lv_lload zx zb dX10_stumble_111 (lv_at hl 1 rfl) ?_
              refine lv_lload zx zb dX10_stumble_113 (lv_at hl 0 rfl) ?_
              refine o_rl (cells' := 0) (slots' := 0) G rfl rfl (n_S (As := [.long r_325, .long r_326]) (rest := []) S G (s_commonPart l X r_325 r_326 H.size) gX10_stumble_X3_commonPart rfl rfl rfl hdS_X3_commonPart ⟨Nat.le_of_ble_eq_true rfl, Nat.le_of_ble_eq_true rfl⟩ [] rfl rfl rfl hl.1 (Nat.le_of_ble_eq_true rfl) dX10_stumble_115 ⟨Nat.le_of_ble_eq_true rfl, Nat.le_of_ble_eq_true rfl⟩) (fun r_327 u_327 H locs hp_327 G => ?_)
              have G : wd X (va_A (@HAppend.hAppend va_W va_W va_W _ (xW h0 nw sp xa la lb) (@HAppend.hAppend va_W va_W va_W _ (rcV X nw an sv dv n0 n1 n2 n3 n4 g0 gs gn gm) (@HAppend.hAppend va_W va_W va_W _ (odW (xa 11) vo) ([((xa 5), .inl (X.2.1, 3, .inl fr))])))) sz) (va_A (@HAppend.hAppend va_W va_W va_W _ (xW h0 nw sp xa la lb) (@HAppend.hAppend va_W va_W va_W _ (rcV X nw an sv dv n0 n1 n2 n3 n4 g0 gs gn gm) (@HAppend.hAppend va_W va_W va_W _ (odW (xa 11) vo) ([((xa 5), .inl (X.2.1, 3, .inl fr))])))) sz) s (@HAppend.hAppend va_W va_W va_W _ (xW h0 nw sp xa la lb) (@HAppend.hAppend va_W va_W va_W _ (rcV X nw an sv dv n0 n1 n2 n3 n4 g0 gs gn gm) (@HAppend.hAppend va_W va_W va_W _ ([((xa 5), .inl (X.2.1, 3, .inl fr))]) (odW (xa 11) v_324)))) H locs := G
              refine lv_lstore (lv' := [(10, .long r_327), (8, .long r_326), (6, .long r_325), (5, .ref (an 6)), (0, .ref h0), (1, .int 5), (2, .int x2), (3, .int 5), (4, .int x4)]) zx zb dX10_stumble_118 hl (by decide) rfl (fun ls hl => ?_)
              refine lv_lload zx zb dX10_stumble_120 (lv_at hl 0 rfl) ?_
              refine lv_lconst (v := (Int32.toInt64 0)) zx zb dX10_stumble_122 (by decide) ?_
              refine W.lcmp zx zb dX10_stumble_123 ?_
              refine k_cutW (PP := fun Wx => ∀ (la_329 : Int64) (lb_330 : Int64) (H : Heap) (locs : List Loc) (ls : Array Slot), wd X (va_A (@HAppend.hAppend va_W va_W va_W _ (xW h0 nw sp xa la lb) (@HAppend.hAppend va_W va_W va_W _ (rcV X nw an sv dv n0 n1 n2 n3 n4 g0 gs gn gm) (@HAppend.hAppend va_W va_W va_W _ (odW (xa 11) vo) ([((xa 5), .inl (X.2.1, 3, .inl fr))])))) sz) (va_A (@HAppend.hAppend va_W va_W va_W _ (xW h0 nw sp xa la lb) (@HAppend.hAppend va_W va_W va_W _ (rcV X nw an sv dv n0 n1 n2 n3 n4 g0 gs gn gm) (@HAppend.hAppend va_W va_W va_W _ (odW (xa 11) vo) ([((xa 5), .inl (X.2.1, 3, .inl fr))])))) sz) s (@HAppend.hAppend va_W va_W va_W _ (xW h0 nw sp xa la_329 lb_330) (@HAppend.hAppend va_W va_W va_W _ (rcV X nw an sv dv n0 n1 n2 n3 n4 g0 gs gn gm) (@HAppend.hAppend va_W va_W va_W _ ([((xa 5), .inl (X.2.1, 3, .inl fr))]) (odW (xa 11) v_324)))) H locs → lv_has ls 12 [(10, .long r_327), (8, .long r_326), (6, .long r_325), (5, .ref (an 6)), (0, .ref h0), (1, .int 5), (2, .int x2), (3, .int 5), (4, .int x4)] → Wx (F0 m 145 ls []) H locs) ?_ ?_
              · intro join_124
                refine lv_if_le (tgt := 145) zx zb dX10_stumble_124 (by decide) (fun c_328 => ?_) (fun c_328 => ?_)
                · exact join_124 la lb _ _ _  G hl
                · refine lv_aload_n zx zb dX10_stumble_127 rfl (lv_at hl 4 rfl) ?_
                  refine lv_lload zx zb dX10_stumble_128 (lv_at hl 2 rfl) ?_
                  refine lv_lload zx zb dX10_stumble_130 (lv_at hl 0 rfl) ?_
                  refine lv_ldiv zx zb dX10_stumble_132 (k_lnz2 c_328) ?_
                  refine k_ldE (fun y_331 => ?_)
                  refine r_put (C := RX10) (T := TX10) (N := 14) (ci := 8) (v := .long y_331) S in_X10_stumble_X10 tyX10_ok nmX10 G 0 rfl rfl 6 (by decide) lk_X10_stumble_38 rfl rfl rfl (Nat.le_of_ble_eq_true rfl) dX10_stumble_133 (fun H locs G => ?_)
                  have G : wd X (va_A (@HAppend.hAppend va_W va_W va_W _ (xW h0 nw sp xa la lb) (@HAppend.hAppend va_W va_W va_W _ (rcV X nw an sv dv n0 n1 n2 n3 n4 g0 gs gn gm) (@HAppend.hAppend va_W va_W va_W _ (odW (xa 11) vo) ([((xa 5), .inl (X.2.1, 3, .inl fr))])))) sz) (va_A (@HAppend.hAppend va_W va_W va_W _ (xW h0 nw sp xa la lb) (@HAppend.hAppend va_W va_W va_W _ (rcV X nw an sv dv n0 n1 n2 n3 n4 g0 gs gn gm) (@HAppend.hAppend va_W va_W va_W _ (odW (xa 11) vo) ([((xa 5), .inl (X.2.1, 3, .inl fr))])))) sz) s (@HAppend.hAppend va_W va_W va_W _ (xW h0 nw sp xa y_331 lb) (@HAppend.hAppend va_W va_W va_W _ (rcV X nw an sv dv n0 n1 n2 n3 n4 g0 gs gn gm) (@HAppend.hAppend va_W va_W va_W _ ([((xa 5), .inl (X.2.1, 3, .inl fr))]) (odW (xa 11) v_324)))) H locs := G
                  refine lv_aload_n zx zb dX10_stumble_136 rfl (lv_at hl 4 rfl) ?_
                  refine lv_lload zx zb dX10_stumble_137 (lv_at hl 1 rfl) ?_
                  refine lv_lload zx zb dX10_stumble_139 (lv_at hl 0 rfl) ?_
                  refine lv_ldiv zx zb dX10_stumble_141 (k_lnz2 c_328) ?_
                  refine k_ldE (fun y_332 => ?_)
                  refine r_put (C := RX10) (T := TX10) (N := 14) (ci := 8) (v := .long y_332) S in_X10_stumble_X10 tyX10_ok nmX10 G 0 rfl rfl 7 (by decide) lk_X10_stumble_42 rfl rfl rfl (Nat.le_of_ble_eq_true rfl) dX10_stumble_142 (fun H locs G => ?_)
                  have G : wd X (va_A (@HAppend.hAppend va_W va_W va_W _ (xW h0 nw sp xa la lb) (@HAppend.hAppend va_W va_W va_W _ (rcV X nw an sv dv n0 n1 n2 n3 n4 g0 gs gn gm) (@HAppend.hAppend va_W va_W va_W _ (odW (xa 11) vo) ([((xa 5), .inl (X.2.1, 3, .inl fr))])))) sz) (va_A (@HAppend.hAppend va_W va_W va_W _ (xW h0 nw sp xa la lb) (@HAppend.hAppend va_W va_W va_W _ (rcV X nw an sv dv n0 n1 n2 n3 n4 g0 gs gn gm) (@HAppend.hAppend va_W va_W va_W _ (odW (xa 11) vo) ([((xa 5), .inl (X.2.1, 3, .inl fr))])))) sz) s (@HAppend.hAppend va_W va_W va_W _ (xW h0 nw sp xa y_331 y_332) (@HAppend.hAppend va_W va_W va_W _ (rcV X nw an sv dv n0 n1 n2 n3 n4 g0 gs gn gm) (@HAppend.hAppend va_W va_W va_W _ ([((xa 5), .inl (X.2.1, 3, .inl fr))]) (odW (xa 11) v_324)))) H locs := G
                  exact join_124 y_331 y_332 _ _ _  G hl
              · intro la_329 lb_330 H locs ls  G hl
                refine lv_iconst (v := 1) zx zb dX10_stumble_145 (by decide) ?_
                exact e_int S zr zlk (vp_nar_int _) G (la_329, lb_330, v_324, fr) [0, 1, 2, 3, 4, 5, 6, 7, 8, 9, 10, 11, 12, 13, 14, 15, 16, 18, 17] rfl rfl (Or.inr rfl) ((stuF_p ⟨⟨_, hj_1, rfl⟩, hw_3, hw_5, hw_7⟩).symm) dX10_stumble_146
          · have hl : lv_has ls 12 [(0, .ref h0), (1, .int (nI j_1)), (2, .int x2), (3, .int 6), (4, .int x4)] := hl
            refine lv_aload_n zx zb dX10_stumble_46 rfl (lv_at hl 0 rfl) ?_
            refine r_get (C := RX10) (T := TX10) (N := 14) (ci := 8) (v := .ref nw) S in_X10_stumble_X10 G 0 rfl rfl 0 (by decide) lk_X10_stumble_10 rfl dX10_stumble_47 ?_
            refine r_get (C := RX5) (T := TX5) (N := 8) (ci := 3) (v := .ref (an 0)) S in_X10_stumble_X5 G 1 rfl rfl 3 (by decide) lk_X10_stumble_126 rfl dX10_stumble_50 ?_
            refine lv_iload_n zx zb dX10_stumble_53 rfl (lv_at hl 1 rfl) ?_
            rcases k_6c (show j_1 < 6 by omega) with rfl | rfl | rfl | rfl | rfl | rfl
            · refine k_it (v := 0) rfl ?_
              refine r_aald (C := RX8) (b := (an 1)) S G 2 3 rfl rfl (k_vp (by decide)) rfl dX10_stumble_54 ?_
              refine lv_astore (lv' := [(5, .ref (an 1)), (0, .ref h0), (1, .int 0), (2, .int x2), (3, .int 6), (4, .int x4)]) zx zb dX10_stumble_55 hl (by decide) rfl (fun ls hl => ?_)
              refine lv_aload_n zx zb dX10_stumble_57 rfl (lv_at hl 1 rfl) ?_
              refine r_get (C := RX10) (T := TX10) (N := 14) (ci := 8) (v := .ref (xa 11)) S in_X10_stumble_X10 G 0 rfl rfl 11 (by decide) lk_X10_stumble_65 rfl dX10_stumble_58 ?_
              refine lv_aload zx zb dX10_stumble_61 (lv_at hl 0 rfl) ?_
              refine lv_aload_n zx zb dX10_stumble_63 rfl (lv_at hl 1 rfl) ?_
              refine r_get (C := RX10) (T := TX10) (N := 14) (ci := 8) (v := .ref nw) S in_X10_stumble_X10 G 0 rfl rfl 0 (by decide) lk_X10_stumble_10 rfl dX10_stumble_64 ?_
              refine r_get (C := RX5) (T := TX5) (N := 8) (ci := 3) (v := .int (dv 0)) S in_X10_stumble_X5 G 1 rfl rfl 0 (by decide) lk_X10_stumble_140 rfl dX10_stumble_67 ?_
              refine lv_aload_n zx zb dX10_stumble_70 rfl (lv_at hl 1 rfl) ?_
              refine r_get (C := RX10) (T := TX10) (N := 14) (ci := 8) (v := .ref nw) S in_X10_stumble_X10 G 0 rfl rfl 0 (by decide) lk_X10_stumble_10 rfl dX10_stumble_71 ?_
              refine r_get (C := RX5) (T := TX5) (N := 8) (ci := 3) (v := .int (dv 1)) S in_X10_stumble_X5 G 1 rfl rfl 1 (by decide) lk_X10_stumble_110 rfl dX10_stumble_74 ?_
              refine lv_iload_n zx zb dX10_stumble_77 rfl (lv_at hl 4 rfl) ?_
              refine r_iadd (v := ((dv 1) + 6)) S rfl dX10_stumble_78 ?_
              refine lv_iload_n zx zb dX10_stumble_79 rfl (lv_at hl 3 rfl) ?_
              refine lv_iload zx zb dX10_stumble_80 (lv_at hl 5 rfl) ?_
              refine b_wv (cells' := 0) (slots' := 0) (wr := @HAppend.hAppend va_W va_W va_W _ (xW h0 nw sp xa la lb) (@HAppend.hAppend va_W va_W va_W _ ([(nw, .inr (3, [.int (dv 0), .int (dv 1), .int (nI n0), .ref (an 0), .ref (an 7), .ref (an 9), .ref (an 11), .ref (an 13)])), ((an 0), .inl (X.2.2.2.2, 6, .inr (.inr (.inr (.inr (rowQ an)))))), ((an 2), .inr (6, [.int (sv 3), .int (sv 4), .int (sv 5), .int (dv 15), .int (dv 16), .int (dv 17), .int (dv 18), .int (dv 19)])), ((an 3), .inr (6, [.int (sv 6), .int (sv 7), .int (sv 8), .int (dv 20), .int (dv 21), .int (dv 22), .int (dv 23), .int (dv 24)])), ((an 4), .inr (6, [.int (sv 9), .int (sv 10), .int (sv 11), .int (dv 25), .int (dv 26), .int (dv 27), .int (dv 28), .int (dv 29)])), ((an 5), .inr (6, [.int (sv 12), .int (sv 13), .int (sv 14), .int (dv 30), .int (dv 31), .int (dv 32), .int (dv 33), .int (dv 34)])), ((an 6), .inr (6, [.int (sv 15), .int (sv 16), .int (sv 17), .int (dv 35), .int (dv 36), .int (dv 37), .int (dv 38), .int (dv 39)])), ((an 7), .inr (2, [.ref (an 8), .int (nI n1)])), ((an 8), .inl (X.2.1, 248, .inl g0)), ((an 9), .inr (5, [.int 5, .int 0, .int 1, .ref (an 10), .int (nI n2)])), ((an 10), .inl (X.2.1, 25, .inl gs)), ((an 11), .inr (5, [.int 6, .int 1, .int 1, .ref (an 12), .int (nI n3)])), ((an 12), .inl (X.2.1, 30, .inl gn)), ((an 13), .inr (5, [.int 6, .int 0, .int 0, .ref (an 14), .int (nI n4)])), ((an 14), .inl (X.2.1, 30, .inl gm))]) ([((xa 5), .inl (X.2.1, 3, .inl fr))]))) G rfl rfl [17, 3] [0, 1, 2, 4, 5, 6, 7, 8, 9, 10, 11, 12, 13, 14, 15, 16, 18] rfl rfl rfl rfl (n_V (As := [.ref (an 1), .int (dv 0), .int ((dv 1) + 6), .int x2, .int x4]) (rest := []) (C := RX3) (T := TX3) (N := 8) (ci := 1) S G (s_pose l X (xa 11) vo (an 1) (fun k => sv (0 + k)) (fun k => dv (10 + k)) (dv 0) ((dv 1) + 6) x2 x4 H.size) gX10_stumble_X3_pose rfl rfl rfl hdV_X3_pose ⟨Nat.le_of_ble_eq_true rfl, Nat.le_of_ble_eq_true rfl⟩ [17, 3] rfl rfl 17 rfl rfl rfl hl.1 (Nat.le_of_ble_eq_true rfl) dX10_stumble_82 ⟨Nat.le_of_ble_eq_true rfl, Nat.le_of_ble_eq_true rfl⟩) (fun u_333 H locs hp_333 G => ?_)
              obtain ⟨v_333, rfl⟩ : ∃ z, z = u_333 := ⟨_, rfl⟩
              have hq_333 := hp_333
              have G : wd X (va_A (@HAppend.hAppend va_W va_W va_W _ (xW h0 nw sp xa la lb) (@HAppend.hAppend va_W va_W va_W _ (rcV X nw an sv dv n0 n1 n2 n3 n4 g0 gs gn gm) (@HAppend.hAppend va_W va_W va_W _ (odW (xa 11) vo) ([((xa 5), .inl (X.2.1, 3, .inl fr))])))) sz) (va_A (@HAppend.hAppend va_W va_W va_W _ (xW h0 nw sp xa la lb) (@HAppend.hAppend va_W va_W va_W _ (rcV X nw an sv dv n0 n1 n2 n3 n4 g0 gs gn gm) (@HAppend.hAppend va_W va_W va_W _ (odW (xa 11) vo) ([((xa 5), .inl (X.2.1, 3, .inl fr))])))) sz) s (@HAppend.hAppend va_W va_W va_W _ (xW h0 nw sp xa la lb) (@HAppend.hAppend va_W va_W va_W _ (rcV X nw an sv dv n0 n1 n2 n3 n4 g0 gs gn gm) (@HAppend.hAppend va_W va_W va_W _ ([((xa 5), .inl (X.2.1, 3, .inl fr))]) (odW (xa 11) v_333)))) H locs := wd_sub G [0, 1, 2, 18, 3, 4, 5, 6, 7, 8, 9, 10, 11, 12, 13, 14, 15, 16, 17] rfl rfl
              refine lv_aload_n zx zb dX10_stumble_85 rfl (lv_at hl 1 rfl) ?_
              refine r_get (C := RX10) (T := TX10) (N := 14) (ci := 8) (v := .ref (xa 11)) S in_X10_stumble_X10 G 0 rfl rfl 11 (by decide) lk_X10_stumble_65 rfl dX10_stumble_86 ?_
              refine lv_aload zx zb dX10_stumble_89 (lv_at hl 0 rfl) ?_
              refine r_get (C := RX8) (T := TX8) (N := 8) (ci := 6) (v := .int (dv 11)) S in_X10_stumble_X8 G 3 rfl rfl 4 (by decide) lk_X10_stumble_137 rfl dX10_stumble_91 ?_
              refine lv_aload zx zb dX10_stumble_94 (lv_at hl 0 rfl) ?_
              refine r_get (C := RX8) (T := TX8) (N := 8) (ci := 6) (v := .int (dv 13)) S in_X10_stumble_X8 G 3 rfl rfl 6 (by decide) lk_X10_stumble_240 rfl dX10_stumble_96 ?_
              refine lv_iload_n zx zb dX10_stumble_99 rfl (lv_at hl 4 rfl) ?_
              refine o_rl (cells' := 0) (slots' := 0) G rfl rfl (n_SN (As := [.ref (xa 11), .int (dv 11), .int (dv 13), .int 6]) (rest := []) (host := "EggSpoons") S G (s_ways6 l X (xa 11) v_333 (dv 11) (dv 13) H.size) gX10_stumble_X3_ways_n243 rfl rfl rfl mm_X10_stumble_inX3 G.1.2.2.2.2.2.2.2.2.2.2.2 mm_X10_stumble_stX3_ways hdS_X3_ways ⟨Nat.le_of_ble_eq_true rfl, Nat.le_of_ble_eq_true rfl⟩ [18] rfl rfl rfl hl.1 (Nat.le_of_ble_eq_true rfl) dX10_stumble_100 ⟨Nat.le_of_ble_eq_true rfl, Nat.le_of_ble_eq_true rfl⟩) (fun r_334 u_334 H locs hp_334 G => ?_)
              have G : wd X (va_A (@HAppend.hAppend va_W va_W va_W _ (xW h0 nw sp xa la lb) (@HAppend.hAppend va_W va_W va_W _ (rcV X nw an sv dv n0 n1 n2 n3 n4 g0 gs gn gm) (@HAppend.hAppend va_W va_W va_W _ (odW (xa 11) vo) ([((xa 5), .inl (X.2.1, 3, .inl fr))])))) sz) (va_A (@HAppend.hAppend va_W va_W va_W _ (xW h0 nw sp xa la lb) (@HAppend.hAppend va_W va_W va_W _ (rcV X nw an sv dv n0 n1 n2 n3 n4 g0 gs gn gm) (@HAppend.hAppend va_W va_W va_W _ (odW (xa 11) vo) ([((xa 5), .inl (X.2.1, 3, .inl fr))])))) sz) s (@HAppend.hAppend va_W va_W va_W _ (xW h0 nw sp xa la lb) (@HAppend.hAppend va_W va_W va_W _ (rcV X nw an sv dv n0 n1 n2 n3 n4 g0 gs gn gm) (@HAppend.hAppend va_W va_W va_W _ ([((xa 5), .inl (X.2.1, 3, .inl fr))]) (odW (xa 11) v_333)))) H locs := G
              refine lv_lstore (lv' := [(6, .long r_334), (5, .ref (an 1)), (0, .ref h0), (1, .int 0), (2, .int x2), (3, .int 6), (4, .int x4)]) zx zb dX10_stumble_103 hl (by decide) rfl (fun ls hl => ?_)
              refine lv_iload_n zx zb dX10_stumble_105 rfl (lv_at hl 5 rfl) ?_
              refine o_rl (cells' := 0) (slots' := 0) G rfl rfl (n_S (As := [.int 6]) (rest := []) S G (s_tenTo l X 6 (by omega) H.size) gX10_stumble_X3_tenTo rfl rfl rfl hdS_X3_tenTo ⟨Nat.le_of_ble_eq_true rfl, Nat.le_of_ble_eq_true rfl⟩ [] rfl rfl rfl hl.1 (Nat.le_of_ble_eq_true rfl) dX10_stumble_106 ⟨Nat.le_of_ble_eq_true rfl, Nat.le_of_ble_eq_true rfl⟩) (fun r_335 u_335 H locs hp_335 G => ?_)
              have G : wd X (va_A (@HAppend.hAppend va_W va_W va_W _ (xW h0 nw sp xa la lb) (@HAppend.hAppend va_W va_W va_W _ (rcV X nw an sv dv n0 n1 n2 n3 n4 g0 gs gn gm) (@HAppend.hAppend va_W va_W va_W _ (odW (xa 11) vo) ([((xa 5), .inl (X.2.1, 3, .inl fr))])))) sz) (va_A (@HAppend.hAppend va_W va_W va_W _ (xW h0 nw sp xa la lb) (@HAppend.hAppend va_W va_W va_W _ (rcV X nw an sv dv n0 n1 n2 n3 n4 g0 gs gn gm) (@HAppend.hAppend va_W va_W va_W _ (odW (xa 11) vo) ([((xa 5), .inl (X.2.1, 3, .inl fr))])))) sz) s (@HAppend.hAppend va_W va_W va_W _ (xW h0 nw sp xa la lb) (@HAppend.hAppend va_W va_W va_W _ (rcV X nw an sv dv n0 n1 n2 n3 n4 g0 gs gn gm) (@HAppend.hAppend va_W va_W va_W _ ([((xa 5), .inl (X.2.1, 3, .inl fr))]) (odW (xa 11) v_333)))) H locs := G
              refine lv_lstore (lv' := [(8, .long r_335), (6, .long r_334), (5, .ref (an 1)), (0, .ref h0), (1, .int 0), (2, .int x2), (3, .int 6), (4, .int x4)]) zx zb dX10_stumble_109 hl (by decide) rfl (fun ls hl => ?_)
              refine lv_lload zx zb dX10_stumble_111 (lv_at hl 1 rfl) ?_
              refine lv_lload zx zb dX10_stumble_113 (lv_at hl 0 rfl) ?_
              refine o_rl (cells' := 0) (slots' := 0) G rfl rfl (n_S (As := [.long r_334, .long r_335]) (rest := []) S G (s_commonPart l X r_334 r_335 H.size) gX10_stumble_X3_commonPart rfl rfl rfl hdS_X3_commonPart ⟨Nat.le_of_ble_eq_true rfl, Nat.le_of_ble_eq_true rfl⟩ [] rfl rfl rfl hl.1 (Nat.le_of_ble_eq_true rfl) dX10_stumble_115 ⟨Nat.le_of_ble_eq_true rfl, Nat.le_of_ble_eq_true rfl⟩) (fun r_336 u_336 H locs hp_336 G => ?_)
              have G : wd X (va_A (@HAppend.hAppend va_W va_W va_W _ (xW h0 nw sp xa la lb) (@HAppend.hAppend va_W va_W va_W _ (rcV X nw an sv dv n0 n1 n2 n3 n4 g0 gs gn gm) (@HAppend.hAppend va_W va_W va_W _ (odW (xa 11) vo) ([((xa 5), .inl (X.2.1, 3, .inl fr))])))) sz) (va_A (@HAppend.hAppend va_W va_W va_W _ (xW h0 nw sp xa la lb) (@HAppend.hAppend va_W va_W va_W _ (rcV X nw an sv dv n0 n1 n2 n3 n4 g0 gs gn gm) (@HAppend.hAppend va_W va_W va_W _ (odW (xa 11) vo) ([((xa 5), .inl (X.2.1, 3, .inl fr))])))) sz) s (@HAppend.hAppend va_W va_W va_W _ (xW h0 nw sp xa la lb) (@HAppend.hAppend va_W va_W va_W _ (rcV X nw an sv dv n0 n1 n2 n3 n4 g0 gs gn gm) (@HAppend.hAppend va_W va_W va_W _ ([((xa 5), .inl (X.2.1, 3, .inl fr))]) (odW (xa 11) v_333)))) H locs := G
              refine lv_lstore (lv' := [(10, .long r_336), (8, .long r_335), (6, .long r_334), (5, .ref (an 1)), (0, .ref h0), (1, .int 0), (2, .int x2), (3, .int 6), (4, .int x4)]) zx zb dX10_stumble_118 hl (by decide) rfl (fun ls hl => ?_)
              refine lv_lload zx zb dX10_stumble_120 (lv_at hl 0 rfl) ?_
              refine lv_lconst (v := (Int32.toInt64 0)) zx zb dX10_stumble_122 (by decide) ?_
              refine W.lcmp zx zb dX10_stumble_123 ?_
              refine k_cutW (PP := fun Wx => ∀ (la_338 : Int64) (lb_339 : Int64) (H : Heap) (locs : List Loc) (ls : Array Slot), wd X (va_A (@HAppend.hAppend va_W va_W va_W _ (xW h0 nw sp xa la lb) (@HAppend.hAppend va_W va_W va_W _ (rcV X nw an sv dv n0 n1 n2 n3 n4 g0 gs gn gm) (@HAppend.hAppend va_W va_W va_W _ (odW (xa 11) vo) ([((xa 5), .inl (X.2.1, 3, .inl fr))])))) sz) (va_A (@HAppend.hAppend va_W va_W va_W _ (xW h0 nw sp xa la lb) (@HAppend.hAppend va_W va_W va_W _ (rcV X nw an sv dv n0 n1 n2 n3 n4 g0 gs gn gm) (@HAppend.hAppend va_W va_W va_W _ (odW (xa 11) vo) ([((xa 5), .inl (X.2.1, 3, .inl fr))])))) sz) s (@HAppend.hAppend va_W va_W va_W _ (xW h0 nw sp xa la_338 lb_339) (@HAppend.hAppend va_W va_W va_W _ (rcV X nw an sv dv n0 n1 n2 n3 n4 g0 gs gn gm) (@HAppend.hAppend va_W va_W va_W _ ([((xa 5), .inl (X.2.1, 3, .inl fr))]) (odW (xa 11) v_333)))) H locs → lv_has ls 12 [(10, .long r_336), (8, .long r_335), (6, .long r_334), (5, .ref (an 1)), (0, .ref h0), (1, .int 0), (2, .int x2), (3, .int 6), (4, .int x4)] → Wx (F0 m 145 ls []) H locs) ?_ ?_
              · intro join_124
                refine lv_if_le (tgt := 145) zx zb dX10_stumble_124 (by decide) (fun c_337 => ?_) (fun c_337 => ?_)
                · exact join_124 la lb _ _ _  G hl
                · refine lv_aload_n zx zb dX10_stumble_127 rfl (lv_at hl 4 rfl) ?_
                  refine lv_lload zx zb dX10_stumble_128 (lv_at hl 2 rfl) ?_
                  refine lv_lload zx zb dX10_stumble_130 (lv_at hl 0 rfl) ?_
                  refine lv_ldiv zx zb dX10_stumble_132 (k_lnz2 c_337) ?_
                  refine k_ldE (fun y_340 => ?_)
                  refine r_put (C := RX10) (T := TX10) (N := 14) (ci := 8) (v := .long y_340) S in_X10_stumble_X10 tyX10_ok nmX10 G 0 rfl rfl 6 (by decide) lk_X10_stumble_38 rfl rfl rfl (Nat.le_of_ble_eq_true rfl) dX10_stumble_133 (fun H locs G => ?_)
                  have G : wd X (va_A (@HAppend.hAppend va_W va_W va_W _ (xW h0 nw sp xa la lb) (@HAppend.hAppend va_W va_W va_W _ (rcV X nw an sv dv n0 n1 n2 n3 n4 g0 gs gn gm) (@HAppend.hAppend va_W va_W va_W _ (odW (xa 11) vo) ([((xa 5), .inl (X.2.1, 3, .inl fr))])))) sz) (va_A (@HAppend.hAppend va_W va_W va_W _ (xW h0 nw sp xa la lb) (@HAppend.hAppend va_W va_W va_W _ (rcV X nw an sv dv n0 n1 n2 n3 n4 g0 gs gn gm) (@HAppend.hAppend va_W va_W va_W _ (odW (xa 11) vo) ([((xa 5), .inl (X.2.1, 3, .inl fr))])))) sz) s (@HAppend.hAppend va_W va_W va_W _ (xW h0 nw sp xa y_340 lb) (@HAppend.hAppend va_W va_W va_W _ (rcV X nw an sv dv n0 n1 n2 n3 n4 g0 gs gn gm) (@HAppend.hAppend va_W va_W va_W _ ([((xa 5), .inl (X.2.1, 3, .inl fr))]) (odW (xa 11) v_333)))) H locs := G
                  refine lv_aload_n zx zb dX10_stumble_136 rfl (lv_at hl 4 rfl) ?_
                  refine lv_lload zx zb dX10_stumble_137 (lv_at hl 1 rfl) ?_
                  refine lv_lload zx zb dX10_stumble_139 (lv_at hl 0 rfl) ?_
                  refine lv_ldiv zx zb dX10_stumble_141 (k_lnz2 c_337) ?_
                  refine k_ldE (fun y_341 => ?_)
                  refine r_put (C := RX10) (T := TX10) (N := 14) (ci := 8) (v := .long y_341) S in_X10_stumble_X10 tyX10_ok nmX10 G 0 rfl rfl 7 (by decide) lk_X10_stumble_42 rfl rfl rfl (Nat.le_of_ble_eq_true rfl) dX10_stumble_142 (fun H locs G => ?_)
                  have G : wd X (va_A (@HAppend.hAppend va_W va_W va_W _ (xW h0 nw sp xa la lb) (@HAppend.hAppend va_W va_W va_W _ (rcV X nw an sv dv n0 n1 n2 n3 n4 g0 gs gn gm) (@HAppend.hAppend va_W va_W va_W _ (odW (xa 11) vo) ([((xa 5), .inl (X.2.1, 3, .inl fr))])))) sz) (va_A (@HAppend.hAppend va_W va_W va_W _ (xW h0 nw sp xa la lb) (@HAppend.hAppend va_W va_W va_W _ (rcV X nw an sv dv n0 n1 n2 n3 n4 g0 gs gn gm) (@HAppend.hAppend va_W va_W va_W _ (odW (xa 11) vo) ([((xa 5), .inl (X.2.1, 3, .inl fr))])))) sz) s (@HAppend.hAppend va_W va_W va_W _ (xW h0 nw sp xa y_340 y_341) (@HAppend.hAppend va_W va_W va_W _ (rcV X nw an sv dv n0 n1 n2 n3 n4 g0 gs gn gm) (@HAppend.hAppend va_W va_W va_W _ ([((xa 5), .inl (X.2.1, 3, .inl fr))]) (odW (xa 11) v_333)))) H locs := G
                  exact join_124 y_340 y_341 _ _ _  G hl
              · intro la_338 lb_339 H locs ls  G hl
                refine lv_iconst (v := 1) zx zb dX10_stumble_145 (by decide) ?_
                exact e_int S zr zlk (vp_nar_int _) G (la_338, lb_339, v_333, fr) [0, 1, 2, 3, 4, 5, 6, 7, 8, 9, 10, 11, 12, 13, 14, 15, 16, 18, 17] rfl rfl (Or.inr rfl) ((stuF_p ⟨⟨_, hj_1, rfl⟩, hw_3, hw_5, hw_7⟩).symm) dX10_stumble_146
            · refine k_it (v := 1) rfl ?_
              refine r_aald (C := RX8) (b := (an 2)) S G 2 3 rfl rfl (k_vp (by decide)) rfl dX10_stumble_54 ?_
              refine lv_astore (lv' := [(5, .ref (an 2)), (0, .ref h0), (1, .int 1), (2, .int x2), (3, .int 6), (4, .int x4)]) zx zb dX10_stumble_55 hl (by decide) rfl (fun ls hl => ?_)
              refine lv_aload_n zx zb dX10_stumble_57 rfl (lv_at hl 1 rfl) ?_
              refine r_get (C := RX10) (T := TX10) (N := 14) (ci := 8) (v := .ref (xa 11)) S in_X10_stumble_X10 G 0 rfl rfl 11 (by decide) lk_X10_stumble_65 rfl dX10_stumble_58 ?_
              refine lv_aload zx zb dX10_stumble_61 (lv_at hl 0 rfl) ?_
              refine lv_aload_n zx zb dX10_stumble_63 rfl (lv_at hl 1 rfl) ?_
              refine r_get (C := RX10) (T := TX10) (N := 14) (ci := 8) (v := .ref nw) S in_X10_stumble_X10 G 0 rfl rfl 0 (by decide) lk_X10_stumble_10 rfl dX10_stumble_64 ?_
              refine r_get (C := RX5) (T := TX5) (N := 8) (ci := 3) (v := .int (dv 0)) S in_X10_stumble_X5 G 1 rfl rfl 0 (by decide) lk_X10_stumble_140 rfl dX10_stumble_67 ?_
              refine lv_aload_n zx zb dX10_stumble_70 rfl (lv_at hl 1 rfl) ?_
              refine r_get (C := RX10) (T := TX10) (N := 14) (ci := 8) (v := .ref nw) S in_X10_stumble_X10 G 0 rfl rfl 0 (by decide) lk_X10_stumble_10 rfl dX10_stumble_71 ?_
              refine r_get (C := RX5) (T := TX5) (N := 8) (ci := 3) (v := .int (dv 1)) S in_X10_stumble_X5 G 1 rfl rfl 1 (by decide) lk_X10_stumble_110 rfl dX10_stumble_74 ?_
              refine lv_iload_n zx zb dX10_stumble_77 rfl (lv_at hl 4 rfl) ?_
              refine r_iadd (v := ((dv 1) + 6)) S rfl dX10_stumble_78 ?_
              refine lv_iload_n zx zb dX10_stumble_79 rfl (lv_at hl 3 rfl) ?_
              refine lv_iload zx zb dX10_stumble_80 (lv_at hl 5 rfl) ?_
              refine b_wv (cells' := 0) (slots' := 0) (wr := @HAppend.hAppend va_W va_W va_W _ (xW h0 nw sp xa la lb) (@HAppend.hAppend va_W va_W va_W _ ([(nw, .inr (3, [.int (dv 0), .int (dv 1), .int (nI n0), .ref (an 0), .ref (an 7), .ref (an 9), .ref (an 11), .ref (an 13)])), ((an 0), .inl (X.2.2.2.2, 6, .inr (.inr (.inr (.inr (rowQ an)))))), ((an 1), .inr (6, [.int (sv 0), .int (sv 1), .int (sv 2), .int (dv 10), .int (dv 11), .int (dv 12), .int (dv 13), .int (dv 14)])), ((an 3), .inr (6, [.int (sv 6), .int (sv 7), .int (sv 8), .int (dv 20), .int (dv 21), .int (dv 22), .int (dv 23), .int (dv 24)])), ((an 4), .inr (6, [.int (sv 9), .int (sv 10), .int (sv 11), .int (dv 25), .int (dv 26), .int (dv 27), .int (dv 28), .int (dv 29)])), ((an 5), .inr (6, [.int (sv 12), .int (sv 13), .int (sv 14), .int (dv 30), .int (dv 31), .int (dv 32), .int (dv 33), .int (dv 34)])), ((an 6), .inr (6, [.int (sv 15), .int (sv 16), .int (sv 17), .int (dv 35), .int (dv 36), .int (dv 37), .int (dv 38), .int (dv 39)])), ((an 7), .inr (2, [.ref (an 8), .int (nI n1)])), ((an 8), .inl (X.2.1, 248, .inl g0)), ((an 9), .inr (5, [.int 5, .int 0, .int 1, .ref (an 10), .int (nI n2)])), ((an 10), .inl (X.2.1, 25, .inl gs)), ((an 11), .inr (5, [.int 6, .int 1, .int 1, .ref (an 12), .int (nI n3)])), ((an 12), .inl (X.2.1, 30, .inl gn)), ((an 13), .inr (5, [.int 6, .int 0, .int 0, .ref (an 14), .int (nI n4)])), ((an 14), .inl (X.2.1, 30, .inl gm))]) ([((xa 5), .inl (X.2.1, 3, .inl fr))]))) G rfl rfl [17, 4] [0, 1, 2, 3, 5, 6, 7, 8, 9, 10, 11, 12, 13, 14, 15, 16, 18] rfl rfl rfl rfl (n_V (As := [.ref (an 2), .int (dv 0), .int ((dv 1) + 6), .int x2, .int x4]) (rest := []) (C := RX3) (T := TX3) (N := 8) (ci := 1) S G (s_pose l X (xa 11) vo (an 2) (fun k => sv (3 + k)) (fun k => dv (15 + k)) (dv 0) ((dv 1) + 6) x2 x4 H.size) gX10_stumble_X3_pose rfl rfl rfl hdV_X3_pose ⟨Nat.le_of_ble_eq_true rfl, Nat.le_of_ble_eq_true rfl⟩ [17, 4] rfl rfl 17 rfl rfl rfl hl.1 (Nat.le_of_ble_eq_true rfl) dX10_stumble_82 ⟨Nat.le_of_ble_eq_true rfl, Nat.le_of_ble_eq_true rfl⟩) (fun u_342 H locs hp_342 G => ?_)
              obtain ⟨v_342, rfl⟩ : ∃ z, z = u_342 := ⟨_, rfl⟩
              have hq_342 := hp_342
              have G : wd X (va_A (@HAppend.hAppend va_W va_W va_W _ (xW h0 nw sp xa la lb) (@HAppend.hAppend va_W va_W va_W _ (rcV X nw an sv dv n0 n1 n2 n3 n4 g0 gs gn gm) (@HAppend.hAppend va_W va_W va_W _ (odW (xa 11) vo) ([((xa 5), .inl (X.2.1, 3, .inl fr))])))) sz) (va_A (@HAppend.hAppend va_W va_W va_W _ (xW h0 nw sp xa la lb) (@HAppend.hAppend va_W va_W va_W _ (rcV X nw an sv dv n0 n1 n2 n3 n4 g0 gs gn gm) (@HAppend.hAppend va_W va_W va_W _ (odW (xa 11) vo) ([((xa 5), .inl (X.2.1, 3, .inl fr))])))) sz) s (@HAppend.hAppend va_W va_W va_W _ (xW h0 nw sp xa la lb) (@HAppend.hAppend va_W va_W va_W _ (rcV X nw an sv dv n0 n1 n2 n3 n4 g0 gs gn gm) (@HAppend.hAppend va_W va_W va_W _ ([((xa 5), .inl (X.2.1, 3, .inl fr))]) (odW (xa 11) v_342)))) H locs := wd_sub G [0, 1, 2, 3, 18, 4, 5, 6, 7, 8, 9, 10, 11, 12, 13, 14, 15, 16, 17] rfl rfl
              refine lv_aload_n zx zb dX10_stumble_85 rfl (lv_at hl 1 rfl) ?_
              refine r_get (C := RX10) (T := TX10) (N := 14) (ci := 8) (v := .ref (xa 11)) S in_X10_stumble_X10 G 0 rfl rfl 11 (by decide) lk_X10_stumble_65 rfl dX10_stumble_86 ?_
              refine lv_aload zx zb dX10_stumble_89 (lv_at hl 0 rfl) ?_
              refine r_get (C := RX8) (T := TX8) (N := 8) (ci := 6) (v := .int (dv 16)) S in_X10_stumble_X8 G 4 rfl rfl 4 (by decide) lk_X10_stumble_137 rfl dX10_stumble_91 ?_
              refine lv_aload zx zb dX10_stumble_94 (lv_at hl 0 rfl) ?_
              refine r_get (C := RX8) (T := TX8) (N := 8) (ci := 6) (v := .int (dv 18)) S in_X10_stumble_X8 G 4 rfl rfl 6 (by decide) lk_X10_stumble_240 rfl dX10_stumble_96 ?_
              refine lv_iload_n zx zb dX10_stumble_99 rfl (lv_at hl 4 rfl) ?_
              refine o_rl (cells' := 0) (slots' := 0) G rfl rfl (n_SN (As := [.ref (xa 11), .int (dv 16), .int (dv 18), .int 6]) (rest := []) (host := "EggSpoons") S G (s_ways6 l X (xa 11) v_342 (dv 16) (dv 18) H.size) gX10_stumble_X3_ways_n243 rfl rfl rfl mm_X10_stumble_inX3 G.1.2.2.2.2.2.2.2.2.2.2.2 mm_X10_stumble_stX3_ways hdS_X3_ways ⟨Nat.le_of_ble_eq_true rfl, Nat.le_of_ble_eq_true rfl⟩ [18] rfl rfl rfl hl.1 (Nat.le_of_ble_eq_true rfl) dX10_stumble_100 ⟨Nat.le_of_ble_eq_true rfl, Nat.le_of_ble_eq_true rfl⟩) (fun r_343 u_343 H locs hp_343 G => ?_)
              have G : wd X (va_A (@HAppend.hAppend va_W va_W va_W _ (xW h0 nw sp xa la lb) (@HAppend.hAppend va_W va_W va_W _ (rcV X nw an sv dv n0 n1 n2 n3 n4 g0 gs gn gm) (@HAppend.hAppend va_W va_W va_W _ (odW (xa 11) vo) ([((xa 5), .inl (X.2.1, 3, .inl fr))])))) sz) (va_A (@HAppend.hAppend va_W va_W va_W _ (xW h0 nw sp xa la lb) (@HAppend.hAppend va_W va_W va_W _ (rcV X nw an sv dv n0 n1 n2 n3 n4 g0 gs gn gm) (@HAppend.hAppend va_W va_W va_W _ (odW (xa 11) vo) ([((xa 5), .inl (X.2.1, 3, .inl fr))])))) sz) s (@HAppend.hAppend va_W va_W va_W _ (xW h0 nw sp xa la lb) (@HAppend.hAppend va_W va_W va_W _ (rcV X nw an sv dv n0 n1 n2 n3 n4 g0 gs gn gm) (@HAppend.hAppend va_W va_W va_W _ ([((xa 5), .inl (X.2.1, 3, .inl fr))]) (odW (xa 11) v_342)))) H locs := G
              refine lv_lstore (lv' := [(6, .long r_343), (5, .ref (an 2)), (0, .ref h0), (1, .int 1), (2, .int x2), (3, .int 6), (4, .int x4)]) zx zb dX10_stumble_103 hl (by decide) rfl (fun ls hl => ?_)
              refine lv_iload_n zx zb dX10_stumble_105 rfl (lv_at hl 5 rfl) ?_
              refine o_rl (cells' := 0) (slots' := 0) G rfl rfl (n_S (As := [.int 6]) (rest := []) S G (s_tenTo l X 6 (by omega) H.size) gX10_stumble_X3_tenTo rfl rfl rfl hdS_X3_tenTo ⟨Nat.le_of_ble_eq_true rfl, Nat.le_of_ble_eq_true rfl⟩ [] rfl rfl rfl hl.1 (Nat.le_of_ble_eq_true rfl) dX10_stumble_106 ⟨Nat.le_of_ble_eq_true rfl, Nat.le_of_ble_eq_true rfl⟩) (fun r_344 u_344 H locs hp_344 G => ?_)
              have G : wd X (va_A (@HAppend.hAppend va_W va_W va_W _ (xW h0 nw sp xa la lb) (@HAppend.hAppend va_W va_W va_W _ (rcV X nw an sv dv n0 n1 n2 n3 n4 g0 gs gn gm) (@HAppend.hAppend va_W va_W va_W _ (odW (xa 11) vo) ([((xa 5), .inl (X.2.1, 3, .inl fr))])))) sz) (va_A (@HAppend.hAppend va_W va_W va_W _ (xW h0 nw sp xa la lb) (@HAppend.hAppend va_W va_W va_W _ (rcV X nw an sv dv n0 n1 n2 n3 n4 g0 gs gn gm) (@HAppend.hAppend va_W va_W va_W _ (odW (xa 11) vo) ([((xa 5), .inl (X.2.1, 3, .inl fr))])))) sz) s (@HAppend.hAppend va_W va_W va_W _ (xW h0 nw sp xa la lb) (@HAppend.hAppend va_W va_W va_W _ (rcV X nw an sv dv n0 n1 n2 n3 n4 g0 gs gn gm) (@HAppend.hAppend va_W va_W va_W _ ([((xa 5), .inl (X.2.1, 3, .inl fr))]) (odW (xa 11) v_342)))) H locs := G
              refine lv_lstore (lv' := [(8, .long r_344), (6, .long r_343), (5, .ref (an 2)), (0, .ref h0), (1, .int 1), (2, .int x2), (3, .int 6), (4, .int x4)]) zx zb dX10_stumble_109 hl (by decide) rfl (fun ls hl => ?_)
              refine lv_lload zx zb dX10_stumble_111 (lv_at hl 1 rfl) ?_
              refine lv_lload zx zb dX10_stumble_113 (lv_at hl 0 rfl) ?_
              refine o_rl (cells' := 0) (slots' := 0) G rfl rfl (n_S (As := [.long r_343, .long r_344]) (rest := []) S G (s_commonPart l X r_343 r_344 H.size) gX10_stumble_X3_commonPart rfl rfl rfl hdS_X3_commonPart ⟨Nat.le_of_ble_eq_true rfl, Nat.le_of_ble_eq_true rfl⟩ [] rfl rfl rfl hl.1 (Nat.le_of_ble_eq_true rfl) dX10_stumble_115 ⟨Nat.le_of_ble_eq_true rfl, Nat.le_of_ble_eq_true rfl⟩) (fun r_345 u_345 H locs hp_345 G => ?_)
              have G : wd X (va_A (@HAppend.hAppend va_W va_W va_W _ (xW h0 nw sp xa la lb) (@HAppend.hAppend va_W va_W va_W _ (rcV X nw an sv dv n0 n1 n2 n3 n4 g0 gs gn gm) (@HAppend.hAppend va_W va_W va_W _ (odW (xa 11) vo) ([((xa 5), .inl (X.2.1, 3, .inl fr))])))) sz) (va_A (@HAppend.hAppend va_W va_W va_W _ (xW h0 nw sp xa la lb) (@HAppend.hAppend va_W va_W va_W _ (rcV X nw an sv dv n0 n1 n2 n3 n4 g0 gs gn gm) (@HAppend.hAppend va_W va_W va_W _ (odW (xa 11) vo) ([((xa 5), .inl (X.2.1, 3, .inl fr))])))) sz) s (@HAppend.hAppend va_W va_W va_W _ (xW h0 nw sp xa la lb) (@HAppend.hAppend va_W va_W va_W _ (rcV X nw an sv dv n0 n1 n2 n3 n4 g0 gs gn gm) (@HAppend.hAppend va_W va_W va_W _ ([((xa 5), .inl (X.2.1, 3, .inl fr))]) (odW (xa 11) v_342)))) H locs := G
              refine lv_lstore (lv' := [(10, .long r_345), (8, .long r_344), (6, .long r_343), (5, .ref (an 2)), (0, .ref h0), (1, .int 1), (2, .int x2), (3, .int 6), (4, .int x4)]) zx zb dX10_stumble_118 hl (by decide) rfl (fun ls hl => ?_)
              refine lv_lload zx zb dX10_stumble_120 (lv_at hl 0 rfl) ?_
              refine lv_lconst (v := (Int32.toInt64 0)) zx zb dX10_stumble_122 (by decide) ?_
              refine W.lcmp zx zb dX10_stumble_123 ?_
              refine k_cutW (PP := fun Wx => ∀ (la_347 : Int64) (lb_348 : Int64) (H : Heap) (locs : List Loc) (ls : Array Slot), wd X (va_A (@HAppend.hAppend va_W va_W va_W _ (xW h0 nw sp xa la lb) (@HAppend.hAppend va_W va_W va_W _ (rcV X nw an sv dv n0 n1 n2 n3 n4 g0 gs gn gm) (@HAppend.hAppend va_W va_W va_W _ (odW (xa 11) vo) ([((xa 5), .inl (X.2.1, 3, .inl fr))])))) sz) (va_A (@HAppend.hAppend va_W va_W va_W _ (xW h0 nw sp xa la lb) (@HAppend.hAppend va_W va_W va_W _ (rcV X nw an sv dv n0 n1 n2 n3 n4 g0 gs gn gm) (@HAppend.hAppend va_W va_W va_W _ (odW (xa 11) vo) ([((xa 5), .inl (X.2.1, 3, .inl fr))])))) sz) s (@HAppend.hAppend va_W va_W va_W _ (xW h0 nw sp xa la_347 lb_348) (@HAppend.hAppend va_W va_W va_W _ (rcV X nw an sv dv n0 n1 n2 n3 n4 g0 gs gn gm) (@HAppend.hAppend va_W va_W va_W _ ([((xa 5), .inl (X.2.1, 3, .inl fr))]) (odW (xa 11) v_342)))) H locs → lv_has ls 12 [(10, .long r_345), (8, .long r_344), (6, .long r_343), (5, .ref (an 2)), (0, .ref h0), (1, .int 1), (2, .int x2), (3, .int 6), (4, .int x4)] → Wx (F0 m 145 ls []) H locs) ?_ ?_
              · intro join_124
                refine lv_if_le (tgt := 145) zx zb dX10_stumble_124 (by decide) (fun c_346 => ?_) (fun c_346 => ?_)
                · exact join_124 la lb _ _ _  G hl
                · refine lv_aload_n zx zb dX10_stumble_127 rfl (lv_at hl 4 rfl) ?_
                  refine lv_lload zx zb dX10_stumble_128 (lv_at hl 2 rfl) ?_
                  refine lv_lload zx zb dX10_stumble_130 (lv_at hl 0 rfl) ?_
                  refine lv_ldiv zx zb dX10_stumble_132 (k_lnz2 c_346) ?_
                  refine k_ldE (fun y_349 => ?_)
                  refine r_put (C := RX10) (T := TX10) (N := 14) (ci := 8) (v := .long y_349) S in_X10_stumble_X10 tyX10_ok nmX10 G 0 rfl rfl 6 (by decide) lk_X10_stumble_38 rfl rfl rfl (Nat.le_of_ble_eq_true rfl) dX10_stumble_133 (fun H locs G => ?_)
                  have G : wd X (va_A (@HAppend.hAppend va_W va_W va_W _ (xW h0 nw sp xa la lb) (@HAppend.hAppend va_W va_W va_W _ (rcV X nw an sv dv n0 n1 n2 n3 n4 g0 gs gn gm) (@HAppend.hAppend va_W va_W va_W _ (odW (xa 11) vo) ([((xa 5), .inl (X.2.1, 3, .inl fr))])))) sz) (va_A (@HAppend.hAppend va_W va_W va_W _ (xW h0 nw sp xa la lb) (@HAppend.hAppend va_W va_W va_W _ (rcV X nw an sv dv n0 n1 n2 n3 n4 g0 gs gn gm) (@HAppend.hAppend va_W va_W va_W _ (odW (xa 11) vo) ([((xa 5), .inl (X.2.1, 3, .inl fr))])))) sz) s (@HAppend.hAppend va_W va_W va_W _ (xW h0 nw sp xa y_349 lb) (@HAppend.hAppend va_W va_W va_W _ (rcV X nw an sv dv n0 n1 n2 n3 n4 g0 gs gn gm) (@HAppend.hAppend va_W va_W va_W _ ([((xa 5), .inl (X.2.1, 3, .inl fr))]) (odW (xa 11) v_342)))) H locs := G
                  refine lv_aload_n zx zb dX10_stumble_136 rfl (lv_at hl 4 rfl) ?_
                  refine lv_lload zx zb dX10_stumble_137 (lv_at hl 1 rfl) ?_
                  refine lv_lload zx zb dX10_stumble_139 (lv_at hl 0 rfl) ?_
                  refine lv_ldiv zx zb dX10_stumble_141 (k_lnz2 c_346) ?_
                  refine k_ldE (fun y_350 => ?_)
                  refine r_put (C := RX10) (T := TX10) (N := 14) (ci := 8) (v := .long y_350) S in_X10_stumble_X10 tyX10_ok nmX10 G 0 rfl rfl 7 (by decide) lk_X10_stumble_42 rfl rfl rfl (Nat.le_of_ble_eq_true rfl) dX10_stumble_142 (fun H locs G => ?_)
                  have G : wd X (va_A (@HAppend.hAppend va_W va_W va_W _ (xW h0 nw sp xa la lb) (@HAppend.hAppend va_W va_W va_W _ (rcV X nw an sv dv n0 n1 n2 n3 n4 g0 gs gn gm) (@HAppend.hAppend va_W va_W va_W _ (odW (xa 11) vo) ([((xa 5), .inl (X.2.1, 3, .inl fr))])))) sz) (va_A (@HAppend.hAppend va_W va_W va_W _ (xW h0 nw sp xa la lb) (@HAppend.hAppend va_W va_W va_W _ (rcV X nw an sv dv n0 n1 n2 n3 n4 g0 gs gn gm) (@HAppend.hAppend va_W va_W va_W _ (odW (xa 11) vo) ([((xa 5), .inl (X.2.1, 3, .inl fr))])))) sz) s (@HAppend.hAppend va_W va_W va_W _ (xW h0 nw sp xa y_349 y_350) (@HAppend.hAppend va_W va_W va_W _ (rcV X nw an sv dv n0 n1 n2 n3 n4 g0 gs gn gm) (@HAppend.hAppend va_W va_W va_W _ ([((xa 5), .inl (X.2.1, 3, .inl fr))]) (odW (xa 11) v_342)))) H locs := G
                  exact join_124 y_349 y_350 _ _ _  G hl
              · intro la_347 lb_348 H locs ls  G hl
                refine lv_iconst (v := 1) zx zb dX10_stumble_145 (by decide) ?_
                exact e_int S zr zlk (vp_nar_int _) G (la_347, lb_348, v_342, fr) [0, 1, 2, 3, 4, 5, 6, 7, 8, 9, 10, 11, 12, 13, 14, 15, 16, 18, 17] rfl rfl (Or.inr rfl) ((stuF_p ⟨⟨_, hj_1, rfl⟩, hw_3, hw_5, hw_7⟩).symm) dX10_stumble_146
            · refine k_it (v := 2) rfl ?_
              refine r_aald (C := RX8) (b := (an 3)) S G 2 3 rfl rfl (k_vp (by decide)) rfl dX10_stumble_54 ?_
              refine lv_astore (lv' := [(5, .ref (an 3)), (0, .ref h0), (1, .int 2), (2, .int x2), (3, .int 6), (4, .int x4)]) zx zb dX10_stumble_55 hl (by decide) rfl (fun ls hl => ?_)
              refine lv_aload_n zx zb dX10_stumble_57 rfl (lv_at hl 1 rfl) ?_
              refine r_get (C := RX10) (T := TX10) (N := 14) (ci := 8) (v := .ref (xa 11)) S in_X10_stumble_X10 G 0 rfl rfl 11 (by decide) lk_X10_stumble_65 rfl dX10_stumble_58 ?_
              refine lv_aload zx zb dX10_stumble_61 (lv_at hl 0 rfl) ?_
              refine lv_aload_n zx zb dX10_stumble_63 rfl (lv_at hl 1 rfl) ?_
              refine r_get (C := RX10) (T := TX10) (N := 14) (ci := 8) (v := .ref nw) S in_X10_stumble_X10 G 0 rfl rfl 0 (by decide) lk_X10_stumble_10 rfl dX10_stumble_64 ?_
              refine r_get (C := RX5) (T := TX5) (N := 8) (ci := 3) (v := .int (dv 0)) S in_X10_stumble_X5 G 1 rfl rfl 0 (by decide) lk_X10_stumble_140 rfl dX10_stumble_67 ?_
              refine lv_aload_n zx zb dX10_stumble_70 rfl (lv_at hl 1 rfl) ?_
              refine r_get (C := RX10) (T := TX10) (N := 14) (ci := 8) (v := .ref nw) S in_X10_stumble_X10 G 0 rfl rfl 0 (by decide) lk_X10_stumble_10 rfl dX10_stumble_71 ?_
              refine r_get (C := RX5) (T := TX5) (N := 8) (ci := 3) (v := .int (dv 1)) S in_X10_stumble_X5 G 1 rfl rfl 1 (by decide) lk_X10_stumble_110 rfl dX10_stumble_74 ?_
              refine lv_iload_n zx zb dX10_stumble_77 rfl (lv_at hl 4 rfl) ?_
              refine r_iadd (v := ((dv 1) + 6)) S rfl dX10_stumble_78 ?_
              refine lv_iload_n zx zb dX10_stumble_79 rfl (lv_at hl 3 rfl) ?_
              refine lv_iload zx zb dX10_stumble_80 (lv_at hl 5 rfl) ?_
              refine b_wv (cells' := 0) (slots' := 0) (wr := @HAppend.hAppend va_W va_W va_W _ (xW h0 nw sp xa la lb) (@HAppend.hAppend va_W va_W va_W _ ([(nw, .inr (3, [.int (dv 0), .int (dv 1), .int (nI n0), .ref (an 0), .ref (an 7), .ref (an 9), .ref (an 11), .ref (an 13)])), ((an 0), .inl (X.2.2.2.2, 6, .inr (.inr (.inr (.inr (rowQ an)))))), ((an 1), .inr (6, [.int (sv 0), .int (sv 1), .int (sv 2), .int (dv 10), .int (dv 11), .int (dv 12), .int (dv 13), .int (dv 14)])), ((an 2), .inr (6, [.int (sv 3), .int (sv 4), .int (sv 5), .int (dv 15), .int (dv 16), .int (dv 17), .int (dv 18), .int (dv 19)])), ((an 4), .inr (6, [.int (sv 9), .int (sv 10), .int (sv 11), .int (dv 25), .int (dv 26), .int (dv 27), .int (dv 28), .int (dv 29)])), ((an 5), .inr (6, [.int (sv 12), .int (sv 13), .int (sv 14), .int (dv 30), .int (dv 31), .int (dv 32), .int (dv 33), .int (dv 34)])), ((an 6), .inr (6, [.int (sv 15), .int (sv 16), .int (sv 17), .int (dv 35), .int (dv 36), .int (dv 37), .int (dv 38), .int (dv 39)])), ((an 7), .inr (2, [.ref (an 8), .int (nI n1)])), ((an 8), .inl (X.2.1, 248, .inl g0)), ((an 9), .inr (5, [.int 5, .int 0, .int 1, .ref (an 10), .int (nI n2)])), ((an 10), .inl (X.2.1, 25, .inl gs)), ((an 11), .inr (5, [.int 6, .int 1, .int 1, .ref (an 12), .int (nI n3)])), ((an 12), .inl (X.2.1, 30, .inl gn)), ((an 13), .inr (5, [.int 6, .int 0, .int 0, .ref (an 14), .int (nI n4)])), ((an 14), .inl (X.2.1, 30, .inl gm))]) ([((xa 5), .inl (X.2.1, 3, .inl fr))]))) G rfl rfl [17, 5] [0, 1, 2, 3, 4, 6, 7, 8, 9, 10, 11, 12, 13, 14, 15, 16, 18] rfl rfl rfl rfl (n_V (As := [.ref (an 3), .int (dv 0), .int ((dv 1) + 6), .int x2, .int x4]) (rest := []) (C := RX3) (T := TX3) (N := 8) (ci := 1) S G (s_pose l X (xa 11) vo (an 3) (fun k => sv (6 + k)) (fun k => dv (20 + k)) (dv 0) ((dv 1) + 6) x2 x4 H.size) gX10_stumble_X3_pose rfl rfl rfl hdV_X3_pose ⟨Nat.le_of_ble_eq_true rfl, Nat.le_of_ble_eq_true rfl⟩ [17, 5] rfl rfl 17 rfl rfl rfl hl.1 (Nat.le_of_ble_eq_true rfl) dX10_stumble_82 ⟨Nat.le_of_ble_eq_true rfl, Nat.le_of_ble_eq_true rfl⟩) (fun u_351 H locs hp_351 G => ?_)
              obtain ⟨v_351, rfl⟩ : ∃ z, z = u_351 := ⟨_, rfl⟩
              have hq_351 := hp_351
              have G : wd X (va_A (@HAppend.hAppend va_W va_W va_W _ (xW h0 nw sp xa la lb) (@HAppend.hAppend va_W va_W va_W _ (rcV X nw an sv dv n0 n1 n2 n3 n4 g0 gs gn gm) (@HAppend.hAppend va_W va_W va_W _ (odW (xa 11) vo) ([((xa 5), .inl (X.2.1, 3, .inl fr))])))) sz) (va_A (@HAppend.hAppend va_W va_W va_W _ (xW h0 nw sp xa la lb) (@HAppend.hAppend va_W va_W va_W _ (rcV X nw an sv dv n0 n1 n2 n3 n4 g0 gs gn gm) (@HAppend.hAppend va_W va_W va_W _ (odW (xa 11) vo) ([((xa 5), .inl (X.2.1, 3, .inl fr))])))) sz) s (@HAppend.hAppend va_W va_W va_W _ (xW h0 nw sp xa la lb) (@HAppend.hAppend va_W va_W va_W _ (rcV X nw an sv dv n0 n1 n2 n3 n4 g0 gs gn gm) (@HAppend.hAppend va_W va_W va_W _ ([((xa 5), .inl (X.2.1, 3, .inl fr))]) (odW (xa 11) v_351)))) H locs := wd_sub G [0, 1, 2, 3, 4, 18, 5, 6, 7, 8, 9, 10, 11, 12, 13, 14, 15, 16, 17] rfl rfl
              refine lv_aload_n zx zb dX10_stumble_85 rfl (lv_at hl 1 rfl) ?_
              refine r_get (C := RX10) (T := TX10) (N := 14) (ci := 8) (v := .ref (xa 11)) S in_X10_stumble_X10 G 0 rfl rfl 11 (by decide) lk_X10_stumble_65 rfl dX10_stumble_86 ?_
              refine lv_aload zx zb dX10_stumble_89 (lv_at hl 0 rfl) ?_
              refine r_get (C := RX8) (T := TX8) (N := 8) (ci := 6) (v := .int (dv 21)) S in_X10_stumble_X8 G 5 rfl rfl 4 (by decide) lk_X10_stumble_137 rfl dX10_stumble_91 ?_
              refine lv_aload zx zb dX10_stumble_94 (lv_at hl 0 rfl) ?_
              refine r_get (C := RX8) (T := TX8) (N := 8) (ci := 6) (v := .int (dv 23)) S in_X10_stumble_X8 G 5 rfl rfl 6 (by decide) lk_X10_stumble_240 rfl dX10_stumble_96 ?_
              refine lv_iload_n zx zb dX10_stumble_99 rfl (lv_at hl 4 rfl) ?_
              refine o_rl (cells' := 0) (slots' := 0) G rfl rfl (n_SN (As := [.ref (xa 11), .int (dv 21), .int (dv 23), .int 6]) (rest := []) (host := "EggSpoons") S G (s_ways6 l X (xa 11) v_351 (dv 21) (dv 23) H.size) gX10_stumble_X3_ways_n243 rfl rfl rfl mm_X10_stumble_inX3 G.1.2.2.2.2.2.2.2.2.2.2.2 mm_X10_stumble_stX3_ways hdS_X3_ways ⟨Nat.le_of_ble_eq_true rfl, Nat.le_of_ble_eq_true rfl⟩ [18] rfl rfl rfl hl.1 (Nat.le_of_ble_eq_true rfl) dX10_stumble_100 ⟨Nat.le_of_ble_eq_true rfl, Nat.le_of_ble_eq_true rfl⟩) (fun r_352 u_352 H locs hp_352 G => ?_)
              have G : wd X (va_A (@HAppend.hAppend va_W va_W va_W _ (xW h0 nw sp xa la lb) (@HAppend.hAppend va_W va_W va_W _ (rcV X nw an sv dv n0 n1 n2 n3 n4 g0 gs gn gm) (@HAppend.hAppend va_W va_W va_W _ (odW (xa 11) vo) ([((xa 5), .inl (X.2.1, 3, .inl fr))])))) sz) (va_A (@HAppend.hAppend va_W va_W va_W _ (xW h0 nw sp xa la lb) (@HAppend.hAppend va_W va_W va_W _ (rcV X nw an sv dv n0 n1 n2 n3 n4 g0 gs gn gm) (@HAppend.hAppend va_W va_W va_W _ (odW (xa 11) vo) ([((xa 5), .inl (X.2.1, 3, .inl fr))])))) sz) s (@HAppend.hAppend va_W va_W va_W _ (xW h0 nw sp xa la lb) (@HAppend.hAppend va_W va_W va_W _ (rcV X nw an sv dv n0 n1 n2 n3 n4 g0 gs gn gm) (@HAppend.hAppend va_W va_W va_W _ ([((xa 5), .inl (X.2.1, 3, .inl fr))]) (odW (xa 11) v_351)))) H locs := G
              refine lv_lstore (lv' := [(6, .long r_352), (5, .ref (an 3)), (0, .ref h0), (1, .int 2), (2, .int x2), (3, .int 6), (4, .int x4)]) zx zb dX10_stumble_103 hl (by decide) rfl (fun ls hl => ?_)
              refine lv_iload_n zx zb dX10_stumble_105 rfl (lv_at hl 5 rfl) ?_
              refine o_rl (cells' := 0) (slots' := 0) G rfl rfl (n_S (As := [.int 6]) (rest := []) S G (s_tenTo l X 6 (by omega) H.size) gX10_stumble_X3_tenTo rfl rfl rfl hdS_X3_tenTo ⟨Nat.le_of_ble_eq_true rfl, Nat.le_of_ble_eq_true rfl⟩ [] rfl rfl rfl hl.1 (Nat.le_of_ble_eq_true rfl) dX10_stumble_106 ⟨Nat.le_of_ble_eq_true rfl, Nat.le_of_ble_eq_true rfl⟩) (fun r_353 u_353 H locs hp_353 G => ?_)
              have G : wd X (va_A (@HAppend.hAppend va_W va_W va_W _ (xW h0 nw sp xa la lb) (@HAppend.hAppend va_W va_W va_W _ (rcV X nw an sv dv n0 n1 n2 n3 n4 g0 gs gn gm) (@HAppend.hAppend va_W va_W va_W _ (odW (xa 11) vo) ([((xa 5), .inl (X.2.1, 3, .inl fr))])))) sz) (va_A (@HAppend.hAppend va_W va_W va_W _ (xW h0 nw sp xa la lb) (@HAppend.hAppend va_W va_W va_W _ (rcV X nw an sv dv n0 n1 n2 n3 n4 g0 gs gn gm) (@HAppend.hAppend va_W va_W va_W _ (odW (xa 11) vo) ([((xa 5), .inl (X.2.1, 3, .inl fr))])))) sz) s (@HAppend.hAppend va_W va_W va_W _ (xW h0 nw sp xa la lb) (@HAppend.hAppend va_W va_W va_W _ (rcV X nw an sv dv n0 n1 n2 n3 n4 g0 gs gn gm) (@HAppend.hAppend va_W va_W va_W _ ([((xa 5), .inl (X.2.1, 3, .inl fr))]) (odW (xa 11) v_351)))) H locs := G
              refine lv_lstore (lv' := [(8, .long r_353), (6, .long r_352), (5, .ref (an 3)), (0, .ref h0), (1, .int 2), (2, .int x2), (3, .int 6), (4, .int x4)]) zx zb dX10_stumble_109 hl (by decide) rfl (fun ls hl => ?_)
              refine lv_lload zx zb dX10_stumble_111 (lv_at hl 1 rfl) ?_
              refine lv_lload zx zb dX10_stumble_113 (lv_at hl 0 rfl) ?_
              refine o_rl (cells' := 0) (slots' := 0) G rfl rfl (n_S (As := [.long r_352, .long r_353]) (rest := []) S G (s_commonPart l X r_352 r_353 H.size) gX10_stumble_X3_commonPart rfl rfl rfl hdS_X3_commonPart ⟨Nat.le_of_ble_eq_true rfl, Nat.le_of_ble_eq_true rfl⟩ [] rfl rfl rfl hl.1 (Nat.le_of_ble_eq_true rfl) dX10_stumble_115 ⟨Nat.le_of_ble_eq_true rfl, Nat.le_of_ble_eq_true rfl⟩) (fun r_354 u_354 H locs hp_354 G => ?_)
              have G : wd X (va_A (@HAppend.hAppend va_W va_W va_W _ (xW h0 nw sp xa la lb) (@HAppend.hAppend va_W va_W va_W _ (rcV X nw an sv dv n0 n1 n2 n3 n4 g0 gs gn gm) (@HAppend.hAppend va_W va_W va_W _ (odW (xa 11) vo) ([((xa 5), .inl (X.2.1, 3, .inl fr))])))) sz) (va_A (@HAppend.hAppend va_W va_W va_W _ (xW h0 nw sp xa la lb) (@HAppend.hAppend va_W va_W va_W _ (rcV X nw an sv dv n0 n1 n2 n3 n4 g0 gs gn gm) (@HAppend.hAppend va_W va_W va_W _ (odW (xa 11) vo) ([((xa 5), .inl (X.2.1, 3, .inl fr))])))) sz) s (@HAppend.hAppend va_W va_W va_W _ (xW h0 nw sp xa la lb) (@HAppend.hAppend va_W va_W va_W _ (rcV X nw an sv dv n0 n1 n2 n3 n4 g0 gs gn gm) (@HAppend.hAppend va_W va_W va_W _ ([((xa 5), .inl (X.2.1, 3, .inl fr))]) (odW (xa 11) v_351)))) H locs := G
              refine lv_lstore (lv' := [(10, .long r_354), (8, .long r_353), (6, .long r_352), (5, .ref (an 3)), (0, .ref h0), (1, .int 2), (2, .int x2), (3, .int 6), (4, .int x4)]) zx zb dX10_stumble_118 hl (by decide) rfl (fun ls hl => ?_)
              refine lv_lload zx zb dX10_stumble_120 (lv_at hl 0 rfl) ?_
              refine lv_lconst (v := (Int32.toInt64 0)) zx zb dX10_stumble_122 (by decide) ?_
              refine W.lcmp zx zb dX10_stumble_123 ?_
              refine k_cutW (PP := fun Wx => ∀ (la_356 : Int64) (lb_357 : Int64) (H : Heap) (locs : List Loc) (ls : Array Slot), wd X (va_A (@HAppend.hAppend va_W va_W va_W _ (xW h0 nw sp xa la lb) (@HAppend.hAppend va_W va_W va_W _ (rcV X nw an sv dv n0 n1 n2 n3 n4 g0 gs gn gm) (@HAppend.hAppend va_W va_W va_W _ (odW (xa 11) vo) ([((xa 5), .inl (X.2.1, 3, .inl fr))])))) sz) (va_A (@HAppend.hAppend va_W va_W va_W _ (xW h0 nw sp xa la lb) (@HAppend.hAppend va_W va_W va_W _ (rcV X nw an sv dv n0 n1 n2 n3 n4 g0 gs gn gm) (@HAppend.hAppend va_W va_W va_W _ (odW (xa 11) vo) ([((xa 5), .inl (X.2.1, 3, .inl fr))])))) sz) s (@HAppend.hAppend va_W va_W va_W _ (xW h0 nw sp xa la_356 lb_357) (@HAppend.hAppend va_W va_W va_W _ (rcV X nw an sv dv n0 n1 n2 n3 n4 g0 gs gn gm) (@HAppend.hAppend va_W va_W va_W _ ([((xa 5), .inl (X.2.1, 3, .inl fr))]) (odW (xa 11) v_351)))) H locs → lv_has ls 12 [(10, .long r_354), (8, .long r_353), (6, .long r_352), (5, .ref (an 3)), (0, .ref h0), (1, .int 2), (2, .int x2), (3, .int 6), (4, .int x4)] → Wx (F0 m 145 ls []) H locs) ?_ ?_
              · intro join_124
                refine lv_if_le (tgt := 145) zx zb dX10_stumble_124 (by decide) (fun c_355 => ?_) (fun c_355 => ?_)
                · exact join_124 la lb _ _ _  G hl
                · refine lv_aload_n zx zb dX10_stumble_127 rfl (lv_at hl 4 rfl) ?_
                  refine lv_lload zx zb dX10_stumble_128 (lv_at hl 2 rfl) ?_
                  refine lv_lload zx zb dX10_stumble_130 (lv_at hl 0 rfl) ?_
                  refine lv_ldiv zx zb dX10_stumble_132 (k_lnz2 c_355) ?_
                  refine k_ldE (fun y_358 => ?_)
                  refine r_put (C := RX10) (T := TX10) (N := 14) (ci := 8) (v := .long y_358) S in_X10_stumble_X10 tyX10_ok nmX10 G 0 rfl rfl 6 (by decide) lk_X10_stumble_38 rfl rfl rfl (Nat.le_of_ble_eq_true rfl) dX10_stumble_133 (fun H locs G => ?_)
                  have G : wd X (va_A (@HAppend.hAppend va_W va_W va_W _ (xW h0 nw sp xa la lb) (@HAppend.hAppend va_W va_W va_W _ (rcV X nw an sv dv n0 n1 n2 n3 n4 g0 gs gn gm) (@HAppend.hAppend va_W va_W va_W _ (odW (xa 11) vo) ([((xa 5), .inl (X.2.1, 3, .inl fr))])))) sz) (va_A (@HAppend.hAppend va_W va_W va_W _ (xW h0 nw sp xa la lb) (@HAppend.hAppend va_W va_W va_W _ (rcV X nw an sv dv n0 n1 n2 n3 n4 g0 gs gn gm) (@HAppend.hAppend va_W va_W va_W _ (odW (xa 11) vo) ([((xa 5), .inl (X.2.1, 3, .inl fr))])))) sz) s (@HAppend.hAppend va_W va_W va_W _ (xW h0 nw sp xa y_358 lb) (@HAppend.hAppend va_W va_W va_W _ (rcV X nw an sv dv n0 n1 n2 n3 n4 g0 gs gn gm) (@HAppend.hAppend va_W va_W va_W _ ([((xa 5), .inl (X.2.1, 3, .inl fr))]) (odW (xa 11) v_351)))) H locs := G
                  refine lv_aload_n zx zb dX10_stumble_136 rfl (lv_at hl 4 rfl) ?_
                  refine lv_lload zx zb dX10_stumble_137 (lv_at hl 1 rfl) ?_
                  refine lv_lload zx zb dX10_stumble_139 (lv_at hl 0 rfl) ?_
                  refine lv_ldiv zx zb dX10_stumble_141 (k_lnz2 c_355) ?_
                  refine k_ldE (fun y_359 => ?_)
                  refine r_put (C := RX10) (T := TX10) (N := 14) (ci := 8) (v := .long y_359) S in_X10_stumble_X10 tyX10_ok nmX10 G 0 rfl rfl 7 (by decide) lk_X10_stumble_42 rfl rfl rfl (Nat.le_of_ble_eq_true rfl) dX10_stumble_142 (fun H locs G => ?_)
                  have G : wd X (va_A (@HAppend.hAppend va_W va_W va_W _ (xW h0 nw sp xa la lb) (@HAppend.hAppend va_W va_W va_W _ (rcV X nw an sv dv n0 n1 n2 n3 n4 g0 gs gn gm) (@HAppend.hAppend va_W va_W va_W _ (odW (xa 11) vo) ([((xa 5), .inl (X.2.1, 3, .inl fr))])))) sz) (va_A (@HAppend.hAppend va_W va_W va_W _ (xW h0 nw sp xa la lb) (@HAppend.hAppend va_W va_W va_W _ (rcV X nw an sv dv n0 n1 n2 n3 n4 g0 gs gn gm) (@HAppend.hAppend va_W va_W va_W _ (odW (xa 11) vo) ([((xa 5), .inl (X.2.1, 3, .inl fr))])))) sz) s (@HAppend.hAppend va_W va_W va_W _ (xW h0 nw sp xa y_358 y_359) (@HAppend.hAppend va_W va_W va_W _ (rcV X nw an sv dv n0 n1 n2 n3 n4 g0 gs gn gm) (@HAppend.hAppend va_W va_W va_W _ ([((xa 5), .inl (X.2.1, 3, .inl fr))]) (odW (xa 11) v_351)))) H locs := G
                  exact join_124 y_358 y_359 _ _ _  G hl
              · intro la_356 lb_357 H locs ls  G hl
                refine lv_iconst (v := 1) zx zb dX10_stumble_145 (by decide) ?_
                exact e_int S zr zlk (vp_nar_int _) G (la_356, lb_357, v_351, fr) [0, 1, 2, 3, 4, 5, 6, 7, 8, 9, 10, 11, 12, 13, 14, 15, 16, 18, 17] rfl rfl (Or.inr rfl) ((stuF_p ⟨⟨_, hj_1, rfl⟩, hw_3, hw_5, hw_7⟩).symm) dX10_stumble_146
            · refine k_it (v := 3) rfl ?_
              refine r_aald (C := RX8) (b := (an 4)) S G 2 3 rfl rfl (k_vp (by decide)) rfl dX10_stumble_54 ?_
              refine lv_astore (lv' := [(5, .ref (an 4)), (0, .ref h0), (1, .int 3), (2, .int x2), (3, .int 6), (4, .int x4)]) zx zb dX10_stumble_55 hl (by decide) rfl (fun ls hl => ?_)
              refine lv_aload_n zx zb dX10_stumble_57 rfl (lv_at hl 1 rfl) ?_
              refine r_get (C := RX10) (T := TX10) (N := 14) (ci := 8) (v := .ref (xa 11)) S in_X10_stumble_X10 G 0 rfl rfl 11 (by decide) lk_X10_stumble_65 rfl dX10_stumble_58 ?_
              refine lv_aload zx zb dX10_stumble_61 (lv_at hl 0 rfl) ?_
              refine lv_aload_n zx zb dX10_stumble_63 rfl (lv_at hl 1 rfl) ?_
              refine r_get (C := RX10) (T := TX10) (N := 14) (ci := 8) (v := .ref nw) S in_X10_stumble_X10 G 0 rfl rfl 0 (by decide) lk_X10_stumble_10 rfl dX10_stumble_64 ?_
              refine r_get (C := RX5) (T := TX5) (N := 8) (ci := 3) (v := .int (dv 0)) S in_X10_stumble_X5 G 1 rfl rfl 0 (by decide) lk_X10_stumble_140 rfl dX10_stumble_67 ?_
              refine lv_aload_n zx zb dX10_stumble_70 rfl (lv_at hl 1 rfl) ?_
              refine r_get (C := RX10) (T := TX10) (N := 14) (ci := 8) (v := .ref nw) S in_X10_stumble_X10 G 0 rfl rfl 0 (by decide) lk_X10_stumble_10 rfl dX10_stumble_71 ?_
              refine r_get (C := RX5) (T := TX5) (N := 8) (ci := 3) (v := .int (dv 1)) S in_X10_stumble_X5 G 1 rfl rfl 1 (by decide) lk_X10_stumble_110 rfl dX10_stumble_74 ?_
              refine lv_iload_n zx zb dX10_stumble_77 rfl (lv_at hl 4 rfl) ?_
              refine r_iadd (v := ((dv 1) + 6)) S rfl dX10_stumble_78 ?_
              refine lv_iload_n zx zb dX10_stumble_79 rfl (lv_at hl 3 rfl) ?_
              refine lv_iload zx zb dX10_stumble_80 (lv_at hl 5 rfl) ?_
              refine b_wv (cells' := 0) (slots' := 0) (wr := @HAppend.hAppend va_W va_W va_W _ (xW h0 nw sp xa la lb) (@HAppend.hAppend va_W va_W va_W _ ([(nw, .inr (3, [.int (dv 0), .int (dv 1), .int (nI n0), .ref (an 0), .ref (an 7), .ref (an 9), .ref (an 11), .ref (an 13)])), ((an 0), .inl (X.2.2.2.2, 6, .inr (.inr (.inr (.inr (rowQ an)))))), ((an 1), .inr (6, [.int (sv 0), .int (sv 1), .int (sv 2), .int (dv 10), .int (dv 11), .int (dv 12), .int (dv 13), .int (dv 14)])), ((an 2), .inr (6, [.int (sv 3), .int (sv 4), .int (sv 5), .int (dv 15), .int (dv 16), .int (dv 17), .int (dv 18), .int (dv 19)])), ((an 3), .inr (6, [.int (sv 6), .int (sv 7), .int (sv 8), .int (dv 20), .int (dv 21), .int (dv 22), .int (dv 23), .int (dv 24)])), ((an 5), .inr (6, [.int (sv 12), .int (sv 13), .int (sv 14), .int (dv 30), .int (dv 31), .int (dv 32), .int (dv 33), .int (dv 34)])), ((an 6), .inr (6, [.int (sv 15), .int (sv 16), .int (sv 17), .int (dv 35), .int (dv 36), .int (dv 37), .int (dv 38), .int (dv 39)])), ((an 7), .inr (2, [.ref (an 8), .int (nI n1)])), ((an 8), .inl (X.2.1, 248, .inl g0)), ((an 9), .inr (5, [.int 5, .int 0, .int 1, .ref (an 10), .int (nI n2)])), ((an 10), .inl (X.2.1, 25, .inl gs)), ((an 11), .inr (5, [.int 6, .int 1, .int 1, .ref (an 12), .int (nI n3)])), ((an 12), .inl (X.2.1, 30, .inl gn)), ((an 13), .inr (5, [.int 6, .int 0, .int 0, .ref (an 14), .int (nI n4)])), ((an 14), .inl (X.2.1, 30, .inl gm))]) ([((xa 5), .inl (X.2.1, 3, .inl fr))]))) G rfl rfl [17, 6] [0, 1, 2, 3, 4, 5, 7, 8, 9, 10, 11, 12, 13, 14, 15, 16, 18] rfl rfl rfl rfl (n_V (As := [.ref (an 4), .int (dv 0), .int ((dv 1) + 6), .int x2, .int x4]) (rest := []) (C := RX3) (T := TX3) (N := 8) (ci := 1) S G (s_pose l X (xa 11) vo (an 4) (fun k => sv (9 + k)) (fun k => dv (25 + k)) (dv 0) ((dv 1) + 6) x2 x4 H.size) gX10_stumble_X3_pose rfl rfl rfl hdV_X3_pose ⟨Nat.le_of_ble_eq_true rfl, Nat.le_of_ble_eq_true rfl⟩ [17, 6] rfl rfl 17 rfl rfl rfl hl.1 (Nat.le_of_ble_eq_true rfl) dX10_stumble_82 ⟨Nat.le_of_ble_eq_true rfl, Nat.le_of_ble_eq_true rfl⟩) (fun u_360 H locs hp_360 G => ?_)
              obtain ⟨v_360, rfl⟩ : ∃ z, z = u_360 := ⟨_, rfl⟩
              have hq_360 := hp_360
              have G : wd X (va_A (@HAppend.hAppend va_W va_W va_W _ (xW h0 nw sp xa la lb) (@HAppend.hAppend va_W va_W va_W _ (rcV X nw an sv dv n0 n1 n2 n3 n4 g0 gs gn gm) (@HAppend.hAppend va_W va_W va_W _ (odW (xa 11) vo) ([((xa 5), .inl (X.2.1, 3, .inl fr))])))) sz) (va_A (@HAppend.hAppend va_W va_W va_W _ (xW h0 nw sp xa la lb) (@HAppend.hAppend va_W va_W va_W _ (rcV X nw an sv dv n0 n1 n2 n3 n4 g0 gs gn gm) (@HAppend.hAppend va_W va_W va_W _ (odW (xa 11) vo) ([((xa 5), .inl (X.2.1, 3, .inl fr))])))) sz) s (@HAppend.hAppend va_W va_W va_W _ (xW h0 nw sp xa la lb) (@HAppend.hAppend va_W va_W va_W _ (rcV X nw an sv dv n0 n1 n2 n3 n4 g0 gs gn gm) (@HAppend.hAppend va_W va_W va_W _ ([((xa 5), .inl (X.2.1, 3, .inl fr))]) (odW (xa 11) v_360)))) H locs := wd_sub G [0, 1, 2, 3, 4, 5, 18, 6, 7, 8, 9, 10, 11, 12, 13, 14, 15, 16, 17] rfl rfl
              refine lv_aload_n zx zb dX10_stumble_85 rfl (lv_at hl 1 rfl) ?_
              refine r_get (C := RX10) (T := TX10) (N := 14) (ci := 8) (v := .ref (xa 11)) S in_X10_stumble_X10 G 0 rfl rfl 11 (by decide) lk_X10_stumble_65 rfl dX10_stumble_86 ?_
              refine lv_aload zx zb dX10_stumble_89 (lv_at hl 0 rfl) ?_
              refine r_get (C := RX8) (T := TX8) (N := 8) (ci := 6) (v := .int (dv 26)) S in_X10_stumble_X8 G 6 rfl rfl 4 (by decide) lk_X10_stumble_137 rfl dX10_stumble_91 ?_
              refine lv_aload zx zb dX10_stumble_94 (lv_at hl 0 rfl) ?_
              refine r_get (C := RX8) (T := TX8) (N := 8) (ci := 6) (v := .int (dv 28)) S in_X10_stumble_X8 G 6 rfl rfl 6 (by decide) lk_X10_stumble_240 rfl dX10_stumble_96 ?_
              refine lv_iload_n zx zb dX10_stumble_99 rfl (lv_at hl 4 rfl) ?_
              refine o_rl (cells' := 0) (slots' := 0) G rfl rfl (n_SN (As := [.ref (xa 11), .int (dv 26), .int (dv 28), .int 6]) (rest := []) (host := "EggSpoons") S G (s_ways6 l X (xa 11) v_360 (dv 26) (dv 28) H.size) gX10_stumble_X3_ways_n243 rfl rfl rfl mm_X10_stumble_inX3 G.1.2.2.2.2.2.2.2.2.2.2.2 mm_X10_stumble_stX3_ways hdS_X3_ways ⟨Nat.le_of_ble_eq_true rfl, Nat.le_of_ble_eq_true rfl⟩ [18] rfl rfl rfl hl.1 (Nat.le_of_ble_eq_true rfl) dX10_stumble_100 ⟨Nat.le_of_ble_eq_true rfl, Nat.le_of_ble_eq_true rfl⟩) (fun r_361 u_361 H locs hp_361 G => ?_)
              have G : wd X (va_A (@HAppend.hAppend va_W va_W va_W _ (xW h0 nw sp xa la lb) (@HAppend.hAppend va_W va_W va_W _ (rcV X nw an sv dv n0 n1 n2 n3 n4 g0 gs gn gm) (@HAppend.hAppend va_W va_W va_W _ (odW (xa 11) vo) ([((xa 5), .inl (X.2.1, 3, .inl fr))])))) sz) (va_A (@HAppend.hAppend va_W va_W va_W _ (xW h0 nw sp xa la lb) (@HAppend.hAppend va_W va_W va_W _ (rcV X nw an sv dv n0 n1 n2 n3 n4 g0 gs gn gm) (@HAppend.hAppend va_W va_W va_W _ (odW (xa 11) vo) ([((xa 5), .inl (X.2.1, 3, .inl fr))])))) sz) s (@HAppend.hAppend va_W va_W va_W _ (xW h0 nw sp xa la lb) (@HAppend.hAppend va_W va_W va_W _ (rcV X nw an sv dv n0 n1 n2 n3 n4 g0 gs gn gm) (@HAppend.hAppend va_W va_W va_W _ ([((xa 5), .inl (X.2.1, 3, .inl fr))]) (odW (xa 11) v_360)))) H locs := G
              refine lv_lstore (lv' := [(6, .long r_361), (5, .ref (an 4)), (0, .ref h0), (1, .int 3), (2, .int x2), (3, .int 6), (4, .int x4)]) zx zb dX10_stumble_103 hl (by decide) rfl (fun ls hl => ?_)
              refine lv_iload_n zx zb dX10_stumble_105 rfl (lv_at hl 5 rfl) ?_
              refine o_rl (cells' := 0) (slots' := 0) G rfl rfl (n_S (As := [.int 6]) (rest := []) S G (s_tenTo l X 6 (by omega) H.size) gX10_stumble_X3_tenTo rfl rfl rfl hdS_X3_tenTo ⟨Nat.le_of_ble_eq_true rfl, Nat.le_of_ble_eq_true rfl⟩ [] rfl rfl rfl hl.1 (Nat.le_of_ble_eq_true rfl) dX10_stumble_106 ⟨Nat.le_of_ble_eq_true rfl, Nat.le_of_ble_eq_true rfl⟩) (fun r_362 u_362 H locs hp_362 G => ?_)
              have G : wd X (va_A (@HAppend.hAppend va_W va_W va_W _ (xW h0 nw sp xa la lb) (@HAppend.hAppend va_W va_W va_W _ (rcV X nw an sv dv n0 n1 n2 n3 n4 g0 gs gn gm) (@HAppend.hAppend va_W va_W va_W _ (odW (xa 11) vo) ([((xa 5), .inl (X.2.1, 3, .inl fr))])))) sz) (va_A (@HAppend.hAppend va_W va_W va_W _ (xW h0 nw sp xa la lb) (@HAppend.hAppend va_W va_W va_W _ (rcV X nw an sv dv n0 n1 n2 n3 n4 g0 gs gn gm) (@HAppend.hAppend va_W va_W va_W _ (odW (xa 11) vo) ([((xa 5), .inl (X.2.1, 3, .inl fr))])))) sz) s (@HAppend.hAppend va_W va_W va_W _ (xW h0 nw sp xa la lb) (@HAppend.hAppend va_W va_W va_W _ (rcV X nw an sv dv n0 n1 n2 n3 n4 g0 gs gn gm) (@HAppend.hAppend va_W va_W va_W _ ([((xa 5), .inl (X.2.1, 3, .inl fr))]) (odW (xa 11) v_360)))) H locs := G
              refine lv_lstore (lv' := [(8, .long r_362), (6, .long r_361), (5, .ref (an 4)), (0, .ref h0), (1, .int 3), (2, .int x2), (3, .int 6), (4, .int x4)]) zx zb dX10_stumble_109 hl (by decide) rfl (fun ls hl => ?_)
              refine lv_lload zx zb dX10_stumble_111 (lv_at hl 1 rfl) ?_
              refine lv_lload zx zb dX10_stumble_113 (lv_at hl 0 rfl) ?_
              refine o_rl (cells' := 0) (slots' := 0) G rfl rfl (n_S (As := [.long r_361, .long r_362]) (rest := []) S G (s_commonPart l X r_361 r_362 H.size) gX10_stumble_X3_commonPart rfl rfl rfl hdS_X3_commonPart ⟨Nat.le_of_ble_eq_true rfl, Nat.le_of_ble_eq_true rfl⟩ [] rfl rfl rfl hl.1 (Nat.le_of_ble_eq_true rfl) dX10_stumble_115 ⟨Nat.le_of_ble_eq_true rfl, Nat.le_of_ble_eq_true rfl⟩) (fun r_363 u_363 H locs hp_363 G => ?_)
              have G : wd X (va_A (@HAppend.hAppend va_W va_W va_W _ (xW h0 nw sp xa la lb) (@HAppend.hAppend va_W va_W va_W _ (rcV X nw an sv dv n0 n1 n2 n3 n4 g0 gs gn gm) (@HAppend.hAppend va_W va_W va_W _ (odW (xa 11) vo) ([((xa 5), .inl (X.2.1, 3, .inl fr))])))) sz) (va_A (@HAppend.hAppend va_W va_W va_W _ (xW h0 nw sp xa la lb) (@HAppend.hAppend va_W va_W va_W _ (rcV X nw an sv dv n0 n1 n2 n3 n4 g0 gs gn gm) (@HAppend.hAppend va_W va_W va_W _ (odW (xa 11) vo) ([((xa 5), .inl (X.2.1, 3, .inl fr))])))) sz) s (@HAppend.hAppend va_W va_W va_W _ (xW h0 nw sp xa la lb) (@HAppend.hAppend va_W va_W va_W _ (rcV X nw an sv dv n0 n1 n2 n3 n4 g0 gs gn gm) (@HAppend.hAppend va_W va_W va_W _ ([((xa 5), .inl (X.2.1, 3, .inl fr))]) (odW (xa 11) v_360)))) H locs := G
              refine lv_lstore (lv' := [(10, .long r_363), (8, .long r_362), (6, .long r_361), (5, .ref (an 4)), (0, .ref h0), (1, .int 3), (2, .int x2), (3, .int 6), (4, .int x4)]) zx zb dX10_stumble_118 hl (by decide) rfl (fun ls hl => ?_)
              refine lv_lload zx zb dX10_stumble_120 (lv_at hl 0 rfl) ?_
              refine lv_lconst (v := (Int32.toInt64 0)) zx zb dX10_stumble_122 (by decide) ?_
              refine W.lcmp zx zb dX10_stumble_123 ?_
              refine k_cutW (PP := fun Wx => ∀ (la_365 : Int64) (lb_366 : Int64) (H : Heap) (locs : List Loc) (ls : Array Slot), wd X (va_A (@HAppend.hAppend va_W va_W va_W _ (xW h0 nw sp xa la lb) (@HAppend.hAppend va_W va_W va_W _ (rcV X nw an sv dv n0 n1 n2 n3 n4 g0 gs gn gm) (@HAppend.hAppend va_W va_W va_W _ (odW (xa 11) vo) ([((xa 5), .inl (X.2.1, 3, .inl fr))])))) sz) (va_A (@HAppend.hAppend va_W va_W va_W _ (xW h0 nw sp xa la lb) (@HAppend.hAppend va_W va_W va_W _ (rcV X nw an sv dv n0 n1 n2 n3 n4 g0 gs gn gm) (@HAppend.hAppend va_W va_W va_W _ (odW (xa 11) vo) ([((xa 5), .inl (X.2.1, 3, .inl fr))])))) sz) s (@HAppend.hAppend va_W va_W va_W _ (xW h0 nw sp xa la_365 lb_366) (@HAppend.hAppend va_W va_W va_W _ (rcV X nw an sv dv n0 n1 n2 n3 n4 g0 gs gn gm) (@HAppend.hAppend va_W va_W va_W _ ([((xa 5), .inl (X.2.1, 3, .inl fr))]) (odW (xa 11) v_360)))) H locs → lv_has ls 12 [(10, .long r_363), (8, .long r_362), (6, .long r_361), (5, .ref (an 4)), (0, .ref h0), (1, .int 3), (2, .int x2), (3, .int 6), (4, .int x4)] → Wx (F0 m 145 ls []) H locs) ?_ ?_
              · intro join_124
                refine lv_if_le (tgt := 145) zx zb dX10_stumble_124 (by decide) (fun c_364 => ?_) (fun c_364 => ?_)
                · exact join_124 la lb _ _ _  G hl
                · refine lv_aload_n zx zb dX10_stumble_127 rfl (lv_at hl 4 rfl) ?_
                  refine lv_lload zx zb dX10_stumble_128 (lv_at hl 2 rfl) ?_
                  refine lv_lload zx zb dX10_stumble_130 (lv_at hl 0 rfl) ?_
                  refine lv_ldiv zx zb dX10_stumble_132 (k_lnz2 c_364) ?_
                  refine k_ldE (fun y_367 => ?_)
                  refine r_put (C := RX10) (T := TX10) (N := 14) (ci := 8) (v := .long y_367) S in_X10_stumble_X10 tyX10_ok nmX10 G 0 rfl rfl 6 (by decide) lk_X10_stumble_38 rfl rfl rfl (Nat.le_of_ble_eq_true rfl) dX10_stumble_133 (fun H locs G => ?_)
                  have G : wd X (va_A (@HAppend.hAppend va_W va_W va_W _ (xW h0 nw sp xa la lb) (@HAppend.hAppend va_W va_W va_W _ (rcV X nw an sv dv n0 n1 n2 n3 n4 g0 gs gn gm) (@HAppend.hAppend va_W va_W va_W _ (odW (xa 11) vo) ([((xa 5), .inl (X.2.1, 3, .inl fr))])))) sz) (va_A (@HAppend.hAppend va_W va_W va_W _ (xW h0 nw sp xa la lb) (@HAppend.hAppend va_W va_W va_W _ (rcV X nw an sv dv n0 n1 n2 n3 n4 g0 gs gn gm) (@HAppend.hAppend va_W va_W va_W _ (odW (xa 11) vo) ([((xa 5), .inl (X.2.1, 3, .inl fr))])))) sz) s (@HAppend.hAppend va_W va_W va_W _ (xW h0 nw sp xa y_367 lb) (@HAppend.hAppend va_W va_W va_W _ (rcV X nw an sv dv n0 n1 n2 n3 n4 g0 gs gn gm) (@HAppend.hAppend va_W va_W va_W _ ([((xa 5), .inl (X.2.1, 3, .inl fr))]) (odW (xa 11) v_360)))) H locs := G
                  refine lv_aload_n zx zb dX10_stumble_136 rfl (lv_at hl 4 rfl) ?_
                  refine lv_lload zx zb dX10_stumble_137 (lv_at hl 1 rfl) ?_
                  refine lv_lload zx zb dX10_stumble_139 (lv_at hl 0 rfl) ?_
                  refine lv_ldiv zx zb dX10_stumble_141 (k_lnz2 c_364) ?_
                  refine k_ldE (fun y_368 => ?_)
                  refine r_put (C := RX10) (T := TX10) (N := 14) (ci := 8) (v := .long y_368) S in_X10_stumble_X10 tyX10_ok nmX10 G 0 rfl rfl 7 (by decide) lk_X10_stumble_42 rfl rfl rfl (Nat.le_of_ble_eq_true rfl) dX10_stumble_142 (fun H locs G => ?_)
                  have G : wd X (va_A (@HAppend.hAppend va_W va_W va_W _ (xW h0 nw sp xa la lb) (@HAppend.hAppend va_W va_W va_W _ (rcV X nw an sv dv n0 n1 n2 n3 n4 g0 gs gn gm) (@HAppend.hAppend va_W va_W va_W _ (odW (xa 11) vo) ([((xa 5), .inl (X.2.1, 3, .inl fr))])))) sz) (va_A (@HAppend.hAppend va_W va_W va_W _ (xW h0 nw sp xa la lb) (@HAppend.hAppend va_W va_W va_W _ (rcV X nw an sv dv n0 n1 n2 n3 n4 g0 gs gn gm) (@HAppend.hAppend va_W va_W va_W _ (odW (xa 11) vo) ([((xa 5), .inl (X.2.1, 3, .inl fr))])))) sz) s (@HAppend.hAppend va_W va_W va_W _ (xW h0 nw sp xa y_367 y_368) (@HAppend.hAppend va_W va_W va_W _ (rcV X nw an sv dv n0 n1 n2 n3 n4 g0 gs gn gm) (@HAppend.hAppend va_W va_W va_W _ ([((xa 5), .inl (X.2.1, 3, .inl fr))]) (odW (xa 11) v_360)))) H locs := G
                  exact join_124 y_367 y_368 _ _ _  G hl
              · intro la_365 lb_366 H locs ls  G hl
                refine lv_iconst (v := 1) zx zb dX10_stumble_145 (by decide) ?_
                exact e_int S zr zlk (vp_nar_int _) G (la_365, lb_366, v_360, fr) [0, 1, 2, 3, 4, 5, 6, 7, 8, 9, 10, 11, 12, 13, 14, 15, 16, 18, 17] rfl rfl (Or.inr rfl) ((stuF_p ⟨⟨_, hj_1, rfl⟩, hw_3, hw_5, hw_7⟩).symm) dX10_stumble_146
            · refine k_it (v := 4) rfl ?_
              refine r_aald (C := RX8) (b := (an 5)) S G 2 3 rfl rfl (k_vp (by decide)) rfl dX10_stumble_54 ?_
              refine lv_astore (lv' := [(5, .ref (an 5)), (0, .ref h0), (1, .int 4), (2, .int x2), (3, .int 6), (4, .int x4)]) zx zb dX10_stumble_55 hl (by decide) rfl (fun ls hl => ?_)
              refine lv_aload_n zx zb dX10_stumble_57 rfl (lv_at hl 1 rfl) ?_
              refine r_get (C := RX10) (T := TX10) (N := 14) (ci := 8) (v := .ref (xa 11)) S in_X10_stumble_X10 G 0 rfl rfl 11 (by decide) lk_X10_stumble_65 rfl dX10_stumble_58 ?_
              refine lv_aload zx zb dX10_stumble_61 (lv_at hl 0 rfl) ?_
              refine lv_aload_n zx zb dX10_stumble_63 rfl (lv_at hl 1 rfl) ?_
              refine r_get (C := RX10) (T := TX10) (N := 14) (ci := 8) (v := .ref nw) S in_X10_stumble_X10 G 0 rfl rfl 0 (by decide) lk_X10_stumble_10 rfl dX10_stumble_64 ?_
              refine r_get (C := RX5) (T := TX5) (N := 8) (ci := 3) (v := .int (dv 0)) S in_X10_stumble_X5 G 1 rfl rfl 0 (by decide) lk_X10_stumble_140 rfl dX10_stumble_67 ?_
              refine lv_aload_n zx zb dX10_stumble_70 rfl (lv_at hl 1 rfl) ?_
              refine r_get (C := RX10) (T := TX10) (N := 14) (ci := 8) (v := .ref nw) S in_X10_stumble_X10 G 0 rfl rfl 0 (by decide) lk_X10_stumble_10 rfl dX10_stumble_71 ?_
              refine r_get (C := RX5) (T := TX5) (N := 8) (ci := 3) (v := .int (dv 1)) S in_X10_stumble_X5 G 1 rfl rfl 1 (by decide) lk_X10_stumble_110 rfl dX10_stumble_74 ?_
              refine lv_iload_n zx zb dX10_stumble_77 rfl (lv_at hl 4 rfl) ?_
              refine r_iadd (v := ((dv 1) + 6)) S rfl dX10_stumble_78 ?_
              refine lv_iload_n zx zb dX10_stumble_79 rfl (lv_at hl 3 rfl) ?_
              refine lv_iload zx zb dX10_stumble_80 (lv_at hl 5 rfl) ?_
              refine b_wv (cells' := 0) (slots' := 0) (wr := @HAppend.hAppend va_W va_W va_W _ (xW h0 nw sp xa la lb) (@HAppend.hAppend va_W va_W va_W _ ([(nw, .inr (3, [.int (dv 0), .int (dv 1), .int (nI n0), .ref (an 0), .ref (an 7), .ref (an 9), .ref (an 11), .ref (an 13)])), ((an 0), .inl (X.2.2.2.2, 6, .inr (.inr (.inr (.inr (rowQ an)))))), ((an 1), .inr (6, [.int (sv 0), .int (sv 1), .int (sv 2), .int (dv 10), .int (dv 11), .int (dv 12), .int (dv 13), .int (dv 14)])), ((an 2), .inr (6, [.int (sv 3), .int (sv 4), .int (sv 5), .int (dv 15), .int (dv 16), .int (dv 17), .int (dv 18), .int (dv 19)])), ((an 3), .inr (6, [.int (sv 6), .int (sv 7), .int (sv 8), .int (dv 20), .int (dv 21), .int (dv 22), .int (dv 23), .int (dv 24)])), ((an 4), .inr (6, [.int (sv 9), .int (sv 10), .int (sv 11), .int (dv 25), .int (dv 26), .int (dv 27), .int (dv 28), .int (dv 29)])), ((an 6), .inr (6, [.int (sv 15), .int (sv 16), .int (sv 17), .int (dv 35), .int (dv 36), .int (dv 37), .int (dv 38), .int (dv 39)])), ((an 7), .inr (2, [.ref (an 8), .int (nI n1)])), ((an 8), .inl (X.2.1, 248, .inl g0)), ((an 9), .inr (5, [.int 5, .int 0, .int 1, .ref (an 10), .int (nI n2)])), ((an 10), .inl (X.2.1, 25, .inl gs)), ((an 11), .inr (5, [.int 6, .int 1, .int 1, .ref (an 12), .int (nI n3)])), ((an 12), .inl (X.2.1, 30, .inl gn)), ((an 13), .inr (5, [.int 6, .int 0, .int 0, .ref (an 14), .int (nI n4)])), ((an 14), .inl (X.2.1, 30, .inl gm))]) ([((xa 5), .inl (X.2.1, 3, .inl fr))]))) G rfl rfl [17, 7] [0, 1, 2, 3, 4, 5, 6, 8, 9, 10, 11, 12, 13, 14, 15, 16, 18] rfl rfl rfl rfl (n_V (As := [.ref (an 5), .int (dv 0), .int ((dv 1) + 6), .int x2, .int x4]) (rest := []) (C := RX3) (T := TX3) (N := 8) (ci := 1) S G (s_pose l X (xa 11) vo (an 5) (fun k => sv (12 + k)) (fun k => dv (30 + k)) (dv 0) ((dv 1) + 6) x2 x4 H.size) gX10_stumble_X3_pose rfl rfl rfl hdV_X3_pose ⟨Nat.le_of_ble_eq_true rfl, Nat.le_of_ble_eq_true rfl⟩ [17, 7] rfl rfl 17 rfl rfl rfl hl.1 (Nat.le_of_ble_eq_true rfl) dX10_stumble_82 ⟨Nat.le_of_ble_eq_true rfl, Nat.le_of_ble_eq_true rfl⟩) (fun u_369 H locs hp_369 G => ?_)
              obtain ⟨v_369, rfl⟩ : ∃ z, z = u_369 := ⟨_, rfl⟩
              have hq_369 := hp_369
              have G : wd X (va_A (@HAppend.hAppend va_W va_W va_W _ (xW h0 nw sp xa la lb) (@HAppend.hAppend va_W va_W va_W _ (rcV X nw an sv dv n0 n1 n2 n3 n4 g0 gs gn gm) (@HAppend.hAppend va_W va_W va_W _ (odW (xa 11) vo) ([((xa 5), .inl (X.2.1, 3, .inl fr))])))) sz) (va_A (@HAppend.hAppend va_W va_W va_W _ (xW h0 nw sp xa la lb) (@HAppend.hAppend va_W va_W va_W _ (rcV X nw an sv dv n0 n1 n2 n3 n4 g0 gs gn gm) (@HAppend.hAppend va_W va_W va_W _ (odW (xa 11) vo) ([((xa 5), .inl (X.2.1, 3, .inl fr))])))) sz) s (@HAppend.hAppend va_W va_W va_W _ (xW h0 nw sp xa la lb) (@HAppend.hAppend va_W va_W va_W _ (rcV X nw an sv dv n0 n1 n2 n3 n4 g0 gs gn gm) (@HAppend.hAppend va_W va_W va_W _ ([((xa 5), .inl (X.2.1, 3, .inl fr))]) (odW (xa 11) v_369)))) H locs := wd_sub G [0, 1, 2, 3, 4, 5, 6, 18, 7, 8, 9, 10, 11, 12, 13, 14, 15, 16, 17] rfl rfl
              refine lv_aload_n zx zb dX10_stumble_85 rfl (lv_at hl 1 rfl) ?_
              refine r_get (C := RX10) (T := TX10) (N := 14) (ci := 8) (v := .ref (xa 11)) S in_X10_stumble_X10 G 0 rfl rfl 11 (by decide) lk_X10_stumble_65 rfl dX10_stumble_86 ?_
              refine lv_aload zx zb dX10_stumble_89 (lv_at hl 0 rfl) ?_
              refine r_get (C := RX8) (T := TX8) (N := 8) (ci := 6) (v := .int (dv 31)) S in_X10_stumble_X8 G 7 rfl rfl 4 (by decide) lk_X10_stumble_137 rfl dX10_stumble_91 ?_
              refine lv_aload zx zb dX10_stumble_94 (lv_at hl 0 rfl) ?_
              refine r_get (C := RX8) (T := TX8) (N := 8) (ci := 6) (v := .int (dv 33)) S in_X10_stumble_X8 G 7 rfl rfl 6 (by decide) lk_X10_stumble_240 rfl dX10_stumble_96 ?_
              refine lv_iload_n zx zb dX10_stumble_99 rfl (lv_at hl 4 rfl) ?_
              refine o_rl (cells' := 0) (slots' := 0) G rfl rfl (n_SN (As := [.ref (xa 11), .int (dv 31), .int (dv 33), .int 6]) (rest := []) (host := "EggSpoons") S G (s_ways6 l X (xa 11) v_369 (dv 31) (dv 33) H.size) gX10_stumble_X3_ways_n243 rfl rfl rfl mm_X10_stumble_inX3 G.1.2.2.2.2.2.2.2.2.2.2.2 mm_X10_stumble_stX3_ways hdS_X3_ways ⟨Nat.le_of_ble_eq_true rfl, Nat.le_of_ble_eq_true rfl⟩ [18] rfl rfl rfl hl.1 (Nat.le_of_ble_eq_true rfl) dX10_stumble_100 ⟨Nat.le_of_ble_eq_true rfl, Nat.le_of_ble_eq_true rfl⟩) (fun r_370 u_370 H locs hp_370 G => ?_)
              have G : wd X (va_A (@HAppend.hAppend va_W va_W va_W _ (xW h0 nw sp xa la lb) (@HAppend.hAppend va_W va_W va_W _ (rcV X nw an sv dv n0 n1 n2 n3 n4 g0 gs gn gm) (@HAppend.hAppend va_W va_W va_W _ (odW (xa 11) vo) ([((xa 5), .inl (X.2.1, 3, .inl fr))])))) sz) (va_A (@HAppend.hAppend va_W va_W va_W _ (xW h0 nw sp xa la lb) (@HAppend.hAppend va_W va_W va_W _ (rcV X nw an sv dv n0 n1 n2 n3 n4 g0 gs gn gm) (@HAppend.hAppend va_W va_W va_W _ (odW (xa 11) vo) ([((xa 5), .inl (X.2.1, 3, .inl fr))])))) sz) s (@HAppend.hAppend va_W va_W va_W _ (xW h0 nw sp xa la lb) (@HAppend.hAppend va_W va_W va_W _ (rcV X nw an sv dv n0 n1 n2 n3 n4 g0 gs gn gm) (@HAppend.hAppend va_W va_W va_W _ ([((xa 5), .inl (X.2.1, 3, .inl fr))]) (odW (xa 11) v_369)))) H locs := G
              refine lv_lstore (lv' := [(6, .long r_370), (5, .ref (an 5)), (0, .ref h0), (1, .int 4), (2, .int x2), (3, .int 6), (4, .int x4)]) zx zb dX10_stumble_103 hl (by decide) rfl (fun ls hl => ?_)
              refine lv_iload_n zx zb dX10_stumble_105 rfl (lv_at hl 5 rfl) ?_
              refine o_rl (cells' := 0) (slots' := 0) G rfl rfl (n_S (As := [.int 6]) (rest := []) S G (s_tenTo l X 6 (by omega) H.size) gX10_stumble_X3_tenTo rfl rfl rfl hdS_X3_tenTo ⟨Nat.le_of_ble_eq_true rfl, Nat.le_of_ble_eq_true rfl⟩ [] rfl rfl rfl hl.1 (Nat.le_of_ble_eq_true rfl) dX10_stumble_106 ⟨Nat.le_of_ble_eq_true rfl, Nat.le_of_ble_eq_true rfl⟩) (fun r_371 u_371 H locs hp_371 G => ?_)
              have G : wd X (va_A (@HAppend.hAppend va_W va_W va_W _ (xW h0 nw sp xa la lb) (@HAppend.hAppend va_W va_W va_W _ (rcV X nw an sv dv n0 n1 n2 n3 n4 g0 gs gn gm) (@HAppend.hAppend va_W va_W va_W _ (odW (xa 11) vo) ([((xa 5), .inl (X.2.1, 3, .inl fr))])))) sz) (va_A (@HAppend.hAppend va_W va_W va_W _ (xW h0 nw sp xa la lb) (@HAppend.hAppend va_W va_W va_W _ (rcV X nw an sv dv n0 n1 n2 n3 n4 g0 gs gn gm) (@HAppend.hAppend va_W va_W va_W _ (odW (xa 11) vo) ([((xa 5), .inl (X.2.1, 3, .inl fr))])))) sz) s (@HAppend.hAppend va_W va_W va_W _ (xW h0 nw sp xa la lb) (@HAppend.hAppend va_W va_W va_W _ (rcV X nw an sv dv n0 n1 n2 n3 n4 g0 gs gn gm) (@HAppend.hAppend va_W va_W va_W _ ([((xa 5), .inl (X.2.1, 3, .inl fr))]) (odW (xa 11) v_369)))) H locs := G
              refine lv_lstore (lv' := [(8, .long r_371), (6, .long r_370), (5, .ref (an 5)), (0, .ref h0), (1, .int 4), (2, .int x2), (3, .int 6), (4, .int x4)]) zx zb dX10_stumble_109 hl (by decide) rfl (fun ls hl => ?_)
              refine lv_lload zx zb dX10_stumble_111 (lv_at hl 1 rfl) ?_
              refine lv_lload zx zb dX10_stumble_113 (lv_at hl 0 rfl) ?_
              refine o_rl (cells' := 0) (slots' := 0) G rfl rfl (n_S (As := [.long r_370, .long r_371]) (rest := []) S G (s_commonPart l X r_370 r_371 H.size) gX10_stumble_X3_commonPart rfl rfl rfl hdS_X3_commonPart ⟨Nat.le_of_ble_eq_true rfl, Nat.le_of_ble_eq_true rfl⟩ [] rfl rfl rfl hl.1 (Nat.le_of_ble_eq_true rfl) dX10_stumble_115 ⟨Nat.le_of_ble_eq_true rfl, Nat.le_of_ble_eq_true rfl⟩) (fun r_372 u_372 H locs hp_372 G => ?_)
              have G : wd X (va_A (@HAppend.hAppend va_W va_W va_W _ (xW h0 nw sp xa la lb) (@HAppend.hAppend va_W va_W va_W _ (rcV X nw an sv dv n0 n1 n2 n3 n4 g0 gs gn gm) (@HAppend.hAppend va_W va_W va_W _ (odW (xa 11) vo) ([((xa 5), .inl (X.2.1, 3, .inl fr))])))) sz) (va_A (@HAppend.hAppend va_W va_W va_W _ (xW h0 nw sp xa la lb) (@HAppend.hAppend va_W va_W va_W _ (rcV X nw an sv dv n0 n1 n2 n3 n4 g0 gs gn gm) (@HAppend.hAppend va_W va_W va_W _ (odW (xa 11) vo) ([((xa 5), .inl (X.2.1, 3, .inl fr))])))) sz) s (@HAppend.hAppend va_W va_W va_W _ (xW h0 nw sp xa la lb) (@HAppend.hAppend va_W va_W va_W _ (rcV X nw an sv dv n0 n1 n2 n3 n4 g0 gs gn gm) (@HAppend.hAppend va_W va_W va_W _ ([((xa 5), .inl (X.2.1, 3, .inl fr))]) (odW (xa 11) v_369)))) H locs := G
              refine lv_lstore (lv' := [(10, .long r_372), (8, .long r_371), (6, .long r_370), (5, .ref (an 5)), (0, .ref h0), (1, .int 4), (2, .int x2), (3, .int 6), (4, .int x4)]) zx zb dX10_stumble_118 hl (by decide) rfl (fun ls hl => ?_)
              refine lv_lload zx zb dX10_stumble_120 (lv_at hl 0 rfl) ?_
              refine lv_lconst (v := (Int32.toInt64 0)) zx zb dX10_stumble_122 (by decide) ?_
              refine W.lcmp zx zb dX10_stumble_123 ?_
              refine k_cutW (PP := fun Wx => ∀ (la_374 : Int64) (lb_375 : Int64) (H : Heap) (locs : List Loc) (ls : Array Slot), wd X (va_A (@HAppend.hAppend va_W va_W va_W _ (xW h0 nw sp xa la lb) (@HAppend.hAppend va_W va_W va_W _ (rcV X nw an sv dv n0 n1 n2 n3 n4 g0 gs gn gm) (@HAppend.hAppend va_W va_W va_W _ (odW (xa 11) vo) ([((xa 5), .inl (X.2.1, 3, .inl fr))])))) sz) (va_A (@HAppend.hAppend va_W va_W va_W _ (xW h0 nw sp xa la lb) (@HAppend.hAppend va_W va_W va_W _ (rcV X nw an sv dv n0 n1 n2 n3 n4 g0 gs gn gm) (@HAppend.hAppend va_W va_W va_W _ (odW (xa 11) vo) ([((xa 5), .inl (X.2.1, 3, .inl fr))])))) sz) s (@HAppend.hAppend va_W va_W va_W _ (xW h0 nw sp xa la_374 lb_375) (@HAppend.hAppend va_W va_W va_W _ (rcV X nw an sv dv n0 n1 n2 n3 n4 g0 gs gn gm) (@HAppend.hAppend va_W va_W va_W _ ([((xa 5), .inl (X.2.1, 3, .inl fr))]) (odW (xa 11) v_369)))) H locs → lv_has ls 12 [(10, .long r_372), (8, .long r_371), (6, .long r_370), (5, .ref (an 5)), (0, .ref h0), (1, .int 4), (2, .int x2), (3, .int 6), (4, .int x4)] → Wx (F0 m 145 ls []) H locs) ?_ ?_
              · intro join_124
                refine lv_if_le (tgt := 145) zx zb dX10_stumble_124 (by decide) (fun c_373 => ?_) (fun c_373 => ?_)
                · exact join_124 la lb _ _ _  G hl
                · refine lv_aload_n zx zb dX10_stumble_127 rfl (lv_at hl 4 rfl) ?_
                  refine lv_lload zx zb dX10_stumble_128 (lv_at hl 2 rfl) ?_
                  refine lv_lload zx zb dX10_stumble_130 (lv_at hl 0 rfl) ?_
                  refine lv_ldiv zx zb dX10_stumble_132 (k_lnz2 c_373) ?_
                  refine k_ldE (fun y_376 => ?_)
                  refine r_put (C := RX10) (T := TX10) (N := 14) (ci := 8) (v := .long y_376) S in_X10_stumble_X10 tyX10_ok nmX10 G 0 rfl rfl 6 (by decide) lk_X10_stumble_38 rfl rfl rfl (Nat.le_of_ble_eq_true rfl) dX10_stumble_133 (fun H locs G => ?_)
                  have G : wd X (va_A (@HAppend.hAppend va_W va_W va_W _ (xW h0 nw sp xa la lb) (@HAppend.hAppend va_W va_W va_W _ (rcV X nw an sv dv n0 n1 n2 n3 n4 g0 gs gn gm) (@HAppend.hAppend va_W va_W va_W _ (odW (xa 11) vo) ([((xa 5), .inl (X.2.1, 3, .inl fr))])))) sz) (va_A (@HAppend.hAppend va_W va_W va_W _ (xW h0 nw sp xa la lb) (@HAppend.hAppend va_W va_W va_W _ (rcV X nw an sv dv n0 n1 n2 n3 n4 g0 gs gn gm) (@HAppend.hAppend va_W va_W va_W _ (odW (xa 11) vo) ([((xa 5), .inl (X.2.1, 3, .inl fr))])))) sz) s (@HAppend.hAppend va_W va_W va_W _ (xW h0 nw sp xa y_376 lb) (@HAppend.hAppend va_W va_W va_W _ (rcV X nw an sv dv n0 n1 n2 n3 n4 g0 gs gn gm) (@HAppend.hAppend va_W va_W va_W _ ([((xa 5), .inl (X.2.1, 3, .inl fr))]) (odW (xa 11) v_369)))) H locs := G
                  refine lv_aload_n zx zb dX10_stumble_136 rfl (lv_at hl 4 rfl) ?_
                  refine lv_lload zx zb dX10_stumble_137 (lv_at hl 1 rfl) ?_
                  refine lv_lload zx zb dX10_stumble_139 (lv_at hl 0 rfl) ?_
                  refine lv_ldiv zx zb dX10_stumble_141 (k_lnz2 c_373) ?_
                  refine k_ldE (fun y_377 => ?_)
                  refine r_put (C := RX10) (T := TX10) (N := 14) (ci := 8) (v := .long y_377) S in_X10_stumble_X10 tyX10_ok nmX10 G 0 rfl rfl 7 (by decide) lk_X10_stumble_42 rfl rfl rfl (Nat.le_of_ble_eq_true rfl) dX10_stumble_142 (fun H locs G => ?_)
                  have G : wd X (va_A (@HAppend.hAppend va_W va_W va_W _ (xW h0 nw sp xa la lb) (@HAppend.hAppend va_W va_W va_W _ (rcV X nw an sv dv n0 n1 n2 n3 n4 g0 gs gn gm) (@HAppend.hAppend va_W va_W va_W _ (odW (xa 11) vo) ([((xa 5), .inl (X.2.1, 3, .inl fr))])))) sz) (va_A (@HAppend.hAppend va_W va_W va_W _ (xW h0 nw sp xa la lb) (@HAppend.hAppend va_W va_W va_W _ (rcV X nw an sv dv n0 n1 n2 n3 n4 g0 gs gn gm) (@HAppend.hAppend va_W va_W va_W _ (odW (xa 11) vo) ([((xa 5), .inl (X.2.1, 3, .inl fr))])))) sz) s (@HAppend.hAppend va_W va_W va_W _ (xW h0 nw sp xa y_376 y_377) (@HAppend.hAppend va_W va_W va_W _ (rcV X nw an sv dv n0 n1 n2 n3 n4 g0 gs gn gm) (@HAppend.hAppend va_W va_W va_W _ ([((xa 5), .inl (X.2.1, 3, .inl fr))]) (odW (xa 11) v_369)))) H locs := G
                  exact join_124 y_376 y_377 _ _ _  G hl
              · intro la_374 lb_375 H locs ls  G hl
                refine lv_iconst (v := 1) zx zb dX10_stumble_145 (by decide) ?_
                exact e_int S zr zlk (vp_nar_int _) G (la_374, lb_375, v_369, fr) [0, 1, 2, 3, 4, 5, 6, 7, 8, 9, 10, 11, 12, 13, 14, 15, 16, 18, 17] rfl rfl (Or.inr rfl) ((stuF_p ⟨⟨_, hj_1, rfl⟩, hw_3, hw_5, hw_7⟩).symm) dX10_stumble_146
            · refine k_it (v := 5) rfl ?_
              refine r_aald (C := RX8) (b := (an 6)) S G 2 3 rfl rfl (k_vp (by decide)) rfl dX10_stumble_54 ?_
              refine lv_astore (lv' := [(5, .ref (an 6)), (0, .ref h0), (1, .int 5), (2, .int x2), (3, .int 6), (4, .int x4)]) zx zb dX10_stumble_55 hl (by decide) rfl (fun ls hl => ?_)
              refine lv_aload_n zx zb dX10_stumble_57 rfl (lv_at hl 1 rfl) ?_
              refine r_get (C := RX10) (T := TX10) (N := 14) (ci := 8) (v := .ref (xa 11)) S in_X10_stumble_X10 G 0 rfl rfl 11 (by decide) lk_X10_stumble_65 rfl dX10_stumble_58 ?_
              refine lv_aload zx zb dX10_stumble_61 (lv_at hl 0 rfl) ?_
              refine lv_aload_n zx zb dX10_stumble_63 rfl (lv_at hl 1 rfl) ?_
              refine r_get (C := RX10) (T := TX10) (N := 14) (ci := 8) (v := .ref nw) S in_X10_stumble_X10 G 0 rfl rfl 0 (by decide) lk_X10_stumble_10 rfl dX10_stumble_64 ?_
              refine r_get (C := RX5) (T := TX5) (N := 8) (ci := 3) (v := .int (dv 0)) S in_X10_stumble_X5 G 1 rfl rfl 0 (by decide) lk_X10_stumble_140 rfl dX10_stumble_67 ?_
              refine lv_aload_n zx zb dX10_stumble_70 rfl (lv_at hl 1 rfl) ?_
              refine r_get (C := RX10) (T := TX10) (N := 14) (ci := 8) (v := .ref nw) S in_X10_stumble_X10 G 0 rfl rfl 0 (by decide) lk_X10_stumble_10 rfl dX10_stumble_71 ?_
              refine r_get (C := RX5) (T := TX5) (N := 8) (ci := 3) (v := .int (dv 1)) S in_X10_stumble_X5 G 1 rfl rfl 1 (by decide) lk_X10_stumble_110 rfl dX10_stumble_74 ?_
              refine lv_iload_n zx zb dX10_stumble_77 rfl (lv_at hl 4 rfl) ?_
              refine r_iadd (v := ((dv 1) + 6)) S rfl dX10_stumble_78 ?_
              refine lv_iload_n zx zb dX10_stumble_79 rfl (lv_at hl 3 rfl) ?_
              refine lv_iload zx zb dX10_stumble_80 (lv_at hl 5 rfl) ?_
              refine b_wv (cells' := 0) (slots' := 0) (wr := @HAppend.hAppend va_W va_W va_W _ (xW h0 nw sp xa la lb) (@HAppend.hAppend va_W va_W va_W _ ([(nw, .inr (3, [.int (dv 0), .int (dv 1), .int (nI n0), .ref (an 0), .ref (an 7), .ref (an 9), .ref (an 11), .ref (an 13)])), ((an 0), .inl (X.2.2.2.2, 6, .inr (.inr (.inr (.inr (rowQ an)))))), ((an 1), .inr (6, [.int (sv 0), .int (sv 1), .int (sv 2), .int (dv 10), .int (dv 11), .int (dv 12), .int (dv 13), .int (dv 14)])), ((an 2), .inr (6, [.int (sv 3), .int (sv 4), .int (sv 5), .int (dv 15), .int (dv 16), .int (dv 17), .int (dv 18), .int (dv 19)])), ((an 3), .inr (6, [.int (sv 6), .int (sv 7), .int (sv 8), .int (dv 20), .int (dv 21), .int (dv 22), .int (dv 23), .int (dv 24)])), ((an 4), .inr (6, [.int (sv 9), .int (sv 10), .int (sv 11), .int (dv 25), .int (dv 26), .int (dv 27), .int (dv 28), .int (dv 29)])), ((an 5), .inr (6, [.int (sv 12), .int (sv 13), .int (sv 14), .int (dv 30), .int (dv 31), .int (dv 32), .int (dv 33), .int (dv 34)])), ((an 7), .inr (2, [.ref (an 8), .int (nI n1)])), ((an 8), .inl (X.2.1, 248, .inl g0)), ((an 9), .inr (5, [.int 5, .int 0, .int 1, .ref (an 10), .int (nI n2)])), ((an 10), .inl (X.2.1, 25, .inl gs)), ((an 11), .inr (5, [.int 6, .int 1, .int 1, .ref (an 12), .int (nI n3)])), ((an 12), .inl (X.2.1, 30, .inl gn)), ((an 13), .inr (5, [.int 6, .int 0, .int 0, .ref (an 14), .int (nI n4)])), ((an 14), .inl (X.2.1, 30, .inl gm))]) ([((xa 5), .inl (X.2.1, 3, .inl fr))]))) G rfl rfl [17, 8] [0, 1, 2, 3, 4, 5, 6, 7, 9, 10, 11, 12, 13, 14, 15, 16, 18] rfl rfl rfl rfl (n_V (As := [.ref (an 6), .int (dv 0), .int ((dv 1) + 6), .int x2, .int x4]) (rest := []) (C := RX3) (T := TX3) (N := 8) (ci := 1) S G (s_pose l X (xa 11) vo (an 6) (fun k => sv (15 + k)) (fun k => dv (35 + k)) (dv 0) ((dv 1) + 6) x2 x4 H.size) gX10_stumble_X3_pose rfl rfl rfl hdV_X3_pose ⟨Nat.le_of_ble_eq_true rfl, Nat.le_of_ble_eq_true rfl⟩ [17, 8] rfl rfl 17 rfl rfl rfl hl.1 (Nat.le_of_ble_eq_true rfl) dX10_stumble_82 ⟨Nat.le_of_ble_eq_true rfl, Nat.le_of_ble_eq_true rfl⟩) (fun u_378 H locs hp_378 G => ?_)
              obtain ⟨v_378, rfl⟩ : ∃ z, z = u_378 := ⟨_, rfl⟩
              have hq_378 := hp_378
              have G : wd X (va_A (@HAppend.hAppend va_W va_W va_W _ (xW h0 nw sp xa la lb) (@HAppend.hAppend va_W va_W va_W _ (rcV X nw an sv dv n0 n1 n2 n3 n4 g0 gs gn gm) (@HAppend.hAppend va_W va_W va_W _ (odW (xa 11) vo) ([((xa 5), .inl (X.2.1, 3, .inl fr))])))) sz) (va_A (@HAppend.hAppend va_W va_W va_W _ (xW h0 nw sp xa la lb) (@HAppend.hAppend va_W va_W va_W _ (rcV X nw an sv dv n0 n1 n2 n3 n4 g0 gs gn gm) (@HAppend.hAppend va_W va_W va_W _ (odW (xa 11) vo) ([((xa 5), .inl (X.2.1, 3, .inl fr))])))) sz) s (@HAppend.hAppend va_W va_W va_W _ (xW h0 nw sp xa la lb) (@HAppend.hAppend va_W va_W va_W _ (rcV X nw an sv dv n0 n1 n2 n3 n4 g0 gs gn gm) (@HAppend.hAppend va_W va_W va_W _ ([((xa 5), .inl (X.2.1, 3, .inl fr))]) (odW (xa 11) v_378)))) H locs := wd_sub G [0, 1, 2, 3, 4, 5, 6, 7, 18, 8, 9, 10, 11, 12, 13, 14, 15, 16, 17] rfl rfl
              refine lv_aload_n zx zb dX10_stumble_85 rfl (lv_at hl 1 rfl) ?_
              refine r_get (C := RX10) (T := TX10) (N := 14) (ci := 8) (v := .ref (xa 11)) S in_X10_stumble_X10 G 0 rfl rfl 11 (by decide) lk_X10_stumble_65 rfl dX10_stumble_86 ?_
              refine lv_aload zx zb dX10_stumble_89 (lv_at hl 0 rfl) ?_
              refine r_get (C := RX8) (T := TX8) (N := 8) (ci := 6) (v := .int (dv 36)) S in_X10_stumble_X8 G 8 rfl rfl 4 (by decide) lk_X10_stumble_137 rfl dX10_stumble_91 ?_
              refine lv_aload zx zb dX10_stumble_94 (lv_at hl 0 rfl) ?_
              refine r_get (C := RX8) (T := TX8) (N := 8) (ci := 6) (v := .int (dv 38)) S in_X10_stumble_X8 G 8 rfl rfl 6 (by decide) lk_X10_stumble_240 rfl dX10_stumble_96 ?_
              refine lv_iload_n zx zb dX10_stumble_99 rfl (lv_at hl 4 rfl) ?_
              refine o_rl (cells' := 0) (slots' := 0) G rfl rfl (n_SN (As := [.ref (xa 11), .int (dv 36), .int (dv 38), .int 6]) (rest := []) (host := "EggSpoons") S G (s_ways6 l X (xa 11) v_378 (dv 36) (dv 38) H.size) gX10_stumble_X3_ways_n243 rfl rfl rfl mm_X10_stumble_inX3 G.1.2.2.2.2.2.2.2.2.2.2.2 mm_X10_stumble_stX3_ways hdS_X3_ways ⟨Nat.le_of_ble_eq_true rfl, Nat.le_of_ble_eq_true rfl⟩ [18] rfl rfl rfl hl.1 (Nat.le_of_ble_eq_true rfl) dX10_stumble_100 ⟨Nat.le_of_ble_eq_true rfl, Nat.le_of_ble_eq_true rfl⟩) (fun r_379 u_379 H locs hp_379 G => ?_)
              have G : wd X (va_A (@HAppend.hAppend va_W va_W va_W _ (xW h0 nw sp xa la lb) (@HAppend.hAppend va_W va_W va_W _ (rcV X nw an sv dv n0 n1 n2 n3 n4 g0 gs gn gm) (@HAppend.hAppend va_W va_W va_W _ (odW (xa 11) vo) ([((xa 5), .inl (X.2.1, 3, .inl fr))])))) sz) (va_A (@HAppend.hAppend va_W va_W va_W _ (xW h0 nw sp xa la lb) (@HAppend.hAppend va_W va_W va_W _ (rcV X nw an sv dv n0 n1 n2 n3 n4 g0 gs gn gm) (@HAppend.hAppend va_W va_W va_W _ (odW (xa 11) vo) ([((xa 5), .inl (X.2.1, 3, .inl fr))])))) sz) s (@HAppend.hAppend va_W va_W va_W _ (xW h0 nw sp xa la lb) (@HAppend.hAppend va_W va_W va_W _ (rcV X nw an sv dv n0 n1 n2 n3 n4 g0 gs gn gm) (@HAppend.hAppend va_W va_W va_W _ ([((xa 5), .inl (X.2.1, 3, .inl fr))]) (odW (xa 11) v_378)))) H locs := G
              refine lv_lstore (lv' := [(6, .long r_379), (5, .ref (an 6)), (0, .ref h0), (1, .int 5), (2, .int x2), (3, .int 6), (4, .int x4)]) zx zb dX10_stumble_103 hl (by decide) rfl (fun ls hl => ?_)
              refine lv_iload_n zx zb dX10_stumble_105 rfl (lv_at hl 5 rfl) ?_
              refine o_rl (cells' := 0) (slots' := 0) G rfl rfl (n_S (As := [.int 6]) (rest := []) S G (s_tenTo l X 6 (by omega) H.size) gX10_stumble_X3_tenTo rfl rfl rfl hdS_X3_tenTo ⟨Nat.le_of_ble_eq_true rfl, Nat.le_of_ble_eq_true rfl⟩ [] rfl rfl rfl hl.1 (Nat.le_of_ble_eq_true rfl) dX10_stumble_106 ⟨Nat.le_of_ble_eq_true rfl, Nat.le_of_ble_eq_true rfl⟩) (fun r_380 u_380 H locs hp_380 G => ?_)
              have G : wd X (va_A (@HAppend.hAppend va_W va_W va_W _ (xW h0 nw sp xa la lb) (@HAppend.hAppend va_W va_W va_W _ (rcV X nw an sv dv n0 n1 n2 n3 n4 g0 gs gn gm) (@HAppend.hAppend va_W va_W va_W _ (odW (xa 11) vo) ([((xa 5), .inl (X.2.1, 3, .inl fr))])))) sz) (va_A (@HAppend.hAppend va_W va_W va_W _ (xW h0 nw sp xa la lb) (@HAppend.hAppend va_W va_W va_W _ (rcV X nw an sv dv n0 n1 n2 n3 n4 g0 gs gn gm) (@HAppend.hAppend va_W va_W va_W _ (odW (xa 11) vo) ([((xa 5), .inl (X.2.1, 3, .inl fr))])))) sz) s (@HAppend.hAppend va_W va_W va_W _ (xW h0 nw sp xa la lb) (@HAppend.hAppend va_W va_W va_W _ (rcV X nw an sv dv n0 n1 n2 n3 n4 g0 gs gn gm) (@HAppend.hAppend va_W va_W va_W _ ([((xa 5), .inl (X.2.1, 3, .inl fr))]) (odW (xa 11) v_378)))) H locs := G
              refine lv_lstore (lv' := [(8, .long r_380), (6, .long r_379), (5, .ref (an 6)), (0, .ref h0), (1, .int 5), (2, .int x2), (3, .int 6), (4, .int x4)]) zx zb dX10_stumble_109 hl (by decide) rfl (fun ls hl => ?_)
              refine lv_lload zx zb dX10_stumble_111 (lv_at hl 1 rfl) ?_
              refine lv_lload zx zb dX10_stumble_113 (lv_at hl 0 rfl) ?_
              refine o_rl (cells' := 0) (slots' := 0) G rfl rfl (n_S (As := [.long r_379, .long r_380]) (rest := []) S G (s_commonPart l X r_379 r_380 H.size) gX10_stumble_X3_commonPart rfl rfl rfl hdS_X3_commonPart ⟨Nat.le_of_ble_eq_true rfl, Nat.le_of_ble_eq_true rfl⟩ [] rfl rfl rfl hl.1 (Nat.le_of_ble_eq_true rfl) dX10_stumble_115 ⟨Nat.le_of_ble_eq_true rfl, Nat.le_of_ble_eq_true rfl⟩) (fun r_381 u_381 H locs hp_381 G => ?_)
              have G : wd X (va_A (@HAppend.hAppend va_W va_W va_W _ (xW h0 nw sp xa la lb) (@HAppend.hAppend va_W va_W va_W _ (rcV X nw an sv dv n0 n1 n2 n3 n4 g0 gs gn gm) (@HAppend.hAppend va_W va_W va_W _ (odW (xa 11) vo) ([((xa 5), .inl (X.2.1, 3, .inl fr))])))) sz) (va_A (@HAppend.hAppend va_W va_W va_W _ (xW h0 nw sp xa la lb) (@HAppend.hAppend va_W va_W va_W _ (rcV X nw an sv dv n0 n1 n2 n3 n4 g0 gs gn gm) (@HAppend.hAppend va_W va_W va_W _ (odW (xa 11) vo) ([((xa 5), .inl (X.2.1, 3, .inl fr))])))) sz) s (@HAppend.hAppend va_W va_W va_W _ (xW h0 nw sp xa la lb) (@HAppend.hAppend va_W va_W va_W _ (rcV X nw an sv dv n0 n1 n2 n3 n4 g0 gs gn gm) (@HAppend.hAppend va_W va_W va_W _ ([((xa 5), .inl (X.2.1, 3, .inl fr))]) (odW (xa 11) v_378)))) H locs := G
              refine lv_lstore (lv' := [(10, .long r_381), (8, .long r_380), (6, .long r_379), (5, .ref (an 6)), (0, .ref h0), (1, .int 5), (2, .int x2), (3, .int 6), (4, .int x4)]) zx zb dX10_stumble_118 hl (by decide) rfl (fun ls hl => ?_)
              refine lv_lload zx zb dX10_stumble_120 (lv_at hl 0 rfl) ?_
              refine lv_lconst (v := (Int32.toInt64 0)) zx zb dX10_stumble_122 (by decide) ?_
              refine W.lcmp zx zb dX10_stumble_123 ?_
              refine k_cutW (PP := fun Wx => ∀ (la_383 : Int64) (lb_384 : Int64) (H : Heap) (locs : List Loc) (ls : Array Slot), wd X (va_A (@HAppend.hAppend va_W va_W va_W _ (xW h0 nw sp xa la lb) (@HAppend.hAppend va_W va_W va_W _ (rcV X nw an sv dv n0 n1 n2 n3 n4 g0 gs gn gm) (@HAppend.hAppend va_W va_W va_W _ (odW (xa 11) vo) ([((xa 5), .inl (X.2.1, 3, .inl fr))])))) sz) (va_A (@HAppend.hAppend va_W va_W va_W _ (xW h0 nw sp xa la lb) (@HAppend.hAppend va_W va_W va_W _ (rcV X nw an sv dv n0 n1 n2 n3 n4 g0 gs gn gm) (@HAppend.hAppend va_W va_W va_W _ (odW (xa 11) vo) ([((xa 5), .inl (X.2.1, 3, .inl fr))])))) sz) s (@HAppend.hAppend va_W va_W va_W _ (xW h0 nw sp xa la_383 lb_384) (@HAppend.hAppend va_W va_W va_W _ (rcV X nw an sv dv n0 n1 n2 n3 n4 g0 gs gn gm) (@HAppend.hAppend va_W va_W va_W _ ([((xa 5), .inl (X.2.1, 3, .inl fr))]) (odW (xa 11) v_378)))) H locs → lv_has ls 12 [(10, .long r_381), (8, .long r_380), (6, .long r_379), (5, .ref (an 6)), (0, .ref h0), (1, .int 5), (2, .int x2), (3, .int 6), (4, .int x4)] → Wx (F0 m 145 ls []) H locs) ?_ ?_
              · intro join_124
                refine lv_if_le (tgt := 145) zx zb dX10_stumble_124 (by decide) (fun c_382 => ?_) (fun c_382 => ?_)
                · exact join_124 la lb _ _ _  G hl
                · refine lv_aload_n zx zb dX10_stumble_127 rfl (lv_at hl 4 rfl) ?_
                  refine lv_lload zx zb dX10_stumble_128 (lv_at hl 2 rfl) ?_
                  refine lv_lload zx zb dX10_stumble_130 (lv_at hl 0 rfl) ?_
                  refine lv_ldiv zx zb dX10_stumble_132 (k_lnz2 c_382) ?_
                  refine k_ldE (fun y_385 => ?_)
                  refine r_put (C := RX10) (T := TX10) (N := 14) (ci := 8) (v := .long y_385) S in_X10_stumble_X10 tyX10_ok nmX10 G 0 rfl rfl 6 (by decide) lk_X10_stumble_38 rfl rfl rfl (Nat.le_of_ble_eq_true rfl) dX10_stumble_133 (fun H locs G => ?_)
                  have G : wd X (va_A (@HAppend.hAppend va_W va_W va_W _ (xW h0 nw sp xa la lb) (@HAppend.hAppend va_W va_W va_W _ (rcV X nw an sv dv n0 n1 n2 n3 n4 g0 gs gn gm) (@HAppend.hAppend va_W va_W va_W _ (odW (xa 11) vo) ([((xa 5), .inl (X.2.1, 3, .inl fr))])))) sz) (va_A (@HAppend.hAppend va_W va_W va_W _ (xW h0 nw sp xa la lb) (@HAppend.hAppend va_W va_W va_W _ (rcV X nw an sv dv n0 n1 n2 n3 n4 g0 gs gn gm) (@HAppend.hAppend va_W va_W va_W _ (odW (xa 11) vo) ([((xa 5), .inl (X.2.1, 3, .inl fr))])))) sz) s (@HAppend.hAppend va_W va_W va_W _ (xW h0 nw sp xa y_385 lb) (@HAppend.hAppend va_W va_W va_W _ (rcV X nw an sv dv n0 n1 n2 n3 n4 g0 gs gn gm) (@HAppend.hAppend va_W va_W va_W _ ([((xa 5), .inl (X.2.1, 3, .inl fr))]) (odW (xa 11) v_378)))) H locs := G
                  refine lv_aload_n zx zb dX10_stumble_136 rfl (lv_at hl 4 rfl) ?_
                  refine lv_lload zx zb dX10_stumble_137 (lv_at hl 1 rfl) ?_
                  refine lv_lload zx zb dX10_stumble_139 (lv_at hl 0 rfl) ?_
                  refine lv_ldiv zx zb dX10_stumble_141 (k_lnz2 c_382) ?_
                  refine k_ldE (fun y_386 => ?_)
                  refine r_put (C := RX10) (T := TX10) (N := 14) (ci := 8) (v := .long y_386) S in_X10_stumble_X10 tyX10_ok nmX10 G 0 rfl rfl 7 (by decide) lk_X10_stumble_42 rfl rfl rfl (Nat.le_of_ble_eq_true rfl) dX10_stumble_142 (fun H locs G => ?_)
                  have G : wd X (va_A (@HAppend.hAppend va_W va_W va_W _ (xW h0 nw sp xa la lb) (@HAppend.hAppend va_W va_W va_W _ (rcV X nw an sv dv n0 n1 n2 n3 n4 g0 gs gn gm) (@HAppend.hAppend va_W va_W va_W _ (odW (xa 11) vo) ([((xa 5), .inl (X.2.1, 3, .inl fr))])))) sz) (va_A (@HAppend.hAppend va_W va_W va_W _ (xW h0 nw sp xa la lb) (@HAppend.hAppend va_W va_W va_W _ (rcV X nw an sv dv n0 n1 n2 n3 n4 g0 gs gn gm) (@HAppend.hAppend va_W va_W va_W _ (odW (xa 11) vo) ([((xa 5), .inl (X.2.1, 3, .inl fr))])))) sz) s (@HAppend.hAppend va_W va_W va_W _ (xW h0 nw sp xa y_385 y_386) (@HAppend.hAppend va_W va_W va_W _ (rcV X nw an sv dv n0 n1 n2 n3 n4 g0 gs gn gm) (@HAppend.hAppend va_W va_W va_W _ ([((xa 5), .inl (X.2.1, 3, .inl fr))]) (odW (xa 11) v_378)))) H locs := G
                  exact join_124 y_385 y_386 _ _ _  G hl
              · intro la_383 lb_384 H locs ls  G hl
                refine lv_iconst (v := 1) zx zb dX10_stumble_145 (by decide) ?_
                exact e_int S zr zlk (vp_nar_int _) G (la_383, lb_384, v_378, fr) [0, 1, 2, 3, 4, 5, 6, 7, 8, 9, 10, 11, 12, 13, 14, 15, 16, 18, 17] rfl rfl (Or.inr rfl) ((stuF_p ⟨⟨_, hj_1, rfl⟩, hw_3, hw_5, hw_7⟩).symm) dX10_stumble_146
        · refine lv_if_ne (tgt := 46) zx zb dX10_stumble_36 (by decide) (fun c_387 => absurd (by decide) c_387) (fun c_387 => ?_)
          refine lv_aload_n zx zb dX10_stumble_39 rfl (lv_at hl 0 rfl) ?_
          refine lv_bipush (v := (-2)) zx zb dX10_stumble_40 (by decide) ?_
          refine b_wi (cells' := 0) (slots' := 0) (wr := @HAppend.hAppend va_W va_W va_W _ (rcV X nw an sv dv n0 n1 n2 n3 n4 g0 gs gn gm) (odW (xa 11) vo)) G rfl rfl [0, 18] [1, 2, 3, 4, 5, 6, 7, 8, 9, 10, 11, 12, 13, 14, 15, 16, 17] rfl rfl rfl rfl (n_V (As := [.int (-2)]) (rest := []) (C := RX10) (T := TX10) (N := 14) (ci := 8) S G (s_refuse l X h0 nw sp xa la lb fr (-2) H.size) gX10_stumble_X10_refuse rfl rfl rfl hdV_X10_refuse ⟨Nat.le_of_ble_eq_true rfl, Nat.le_of_ble_eq_true rfl⟩ [0, 18] rfl rfl 0 rfl rfl rfl hl.1 (Nat.le_of_ble_eq_true rfl) dX10_stumble_42 ⟨Nat.le_of_ble_eq_true rfl, Nat.le_of_ble_eq_true rfl⟩) (fun r_388 u_388 H locs hp_388 G => ?_)
          obtain ⟨f_388, rfl⟩ : ∃ z, z = u_388 := ⟨_, rfl⟩
          have hq_388 := hp_388
          have G : wd X (va_A (@HAppend.hAppend va_W va_W va_W _ (xW h0 nw sp xa la lb) (@HAppend.hAppend va_W va_W va_W _ (rcV X nw an sv dv n0 n1 n2 n3 n4 g0 gs gn gm) (@HAppend.hAppend va_W va_W va_W _ (odW (xa 11) vo) ([((xa 5), .inl (X.2.1, 3, .inl fr))])))) sz) (va_A (@HAppend.hAppend va_W va_W va_W _ (xW h0 nw sp xa la lb) (@HAppend.hAppend va_W va_W va_W _ (rcV X nw an sv dv n0 n1 n2 n3 n4 g0 gs gn gm) (@HAppend.hAppend va_W va_W va_W _ (odW (xa 11) vo) ([((xa 5), .inl (X.2.1, 3, .inl fr))])))) sz) s (@HAppend.hAppend va_W va_W va_W _ (rcV X nw an sv dv n0 n1 n2 n3 n4 g0 gs gn gm) (@HAppend.hAppend va_W va_W va_W _ (odW (xa 11) vo) (@HAppend.hAppend va_W va_W va_W _ (xW h0 nw sp xa la lb) ([((xa 5), .inl (X.2.1, 3, .inl f_388))])))) H locs := G
          exact e_int S zr zlk (vp_nar_int _) G (la, lb, vo, f_388) [17, 0, 1, 2, 3, 4, 5, 6, 7, 8, 9, 10, 11, 12, 13, 14, 15, 16, 18] rfl rfl (Or.inr rfl) ((hq_388).trans (stuF_n (fun h => hw_7 h.2.2.2)).symm) dX10_stumble_45
      · refine lv_if_eq (tgt := 39) zx zb dX10_stumble_25 (by decide) (fun c_389 => ?_) (fun c_389 => absurd (by decide) c_389)
        refine lv_aload_n zx zb dX10_stumble_39 rfl (lv_at hl 0 rfl) ?_
        refine lv_bipush (v := (-2)) zx zb dX10_stumble_40 (by decide) ?_
        refine b_wi (cells' := 0) (slots' := 0) (wr := @HAppend.hAppend va_W va_W va_W _ (rcV X nw an sv dv n0 n1 n2 n3 n4 g0 gs gn gm) (odW (xa 11) vo)) G rfl rfl [0, 18] [1, 2, 3, 4, 5, 6, 7, 8, 9, 10, 11, 12, 13, 14, 15, 16, 17] rfl rfl rfl rfl (n_V (As := [.int (-2)]) (rest := []) (C := RX10) (T := TX10) (N := 14) (ci := 8) S G (s_refuse l X h0 nw sp xa la lb fr (-2) H.size) gX10_stumble_X10_refuse rfl rfl rfl hdV_X10_refuse ⟨Nat.le_of_ble_eq_true rfl, Nat.le_of_ble_eq_true rfl⟩ [0, 18] rfl rfl 0 rfl rfl rfl hl.1 (Nat.le_of_ble_eq_true rfl) dX10_stumble_42 ⟨Nat.le_of_ble_eq_true rfl, Nat.le_of_ble_eq_true rfl⟩) (fun r_390 u_390 H locs hp_390 G => ?_)
        obtain ⟨f_390, rfl⟩ : ∃ z, z = u_390 := ⟨_, rfl⟩
        have hq_390 := hp_390
        have G : wd X (va_A (@HAppend.hAppend va_W va_W va_W _ (xW h0 nw sp xa la lb) (@HAppend.hAppend va_W va_W va_W _ (rcV X nw an sv dv n0 n1 n2 n3 n4 g0 gs gn gm) (@HAppend.hAppend va_W va_W va_W _ (odW (xa 11) vo) ([((xa 5), .inl (X.2.1, 3, .inl fr))])))) sz) (va_A (@HAppend.hAppend va_W va_W va_W _ (xW h0 nw sp xa la lb) (@HAppend.hAppend va_W va_W va_W _ (rcV X nw an sv dv n0 n1 n2 n3 n4 g0 gs gn gm) (@HAppend.hAppend va_W va_W va_W _ (odW (xa 11) vo) ([((xa 5), .inl (X.2.1, 3, .inl fr))])))) sz) s (@HAppend.hAppend va_W va_W va_W _ (rcV X nw an sv dv n0 n1 n2 n3 n4 g0 gs gn gm) (@HAppend.hAppend va_W va_W va_W _ (odW (xa 11) vo) (@HAppend.hAppend va_W va_W va_W _ (xW h0 nw sp xa la lb) ([((xa 5), .inl (X.2.1, 3, .inl f_390))])))) H locs := G
        exact e_int S zr zlk (vp_nar_int _) G (la, lb, vo, f_390) [17, 0, 1, 2, 3, 4, 5, 6, 7, 8, 9, 10, 11, 12, 13, 14, 15, 16, 18] rfl rfl (Or.inr rfl) ((hq_390).trans (stuF_n (fun h => hw_5 h.2.2.1)).symm) dX10_stumble_45
    · refine lv_if_eq (tgt := 39) zx zb dX10_stumble_15 (by decide) (fun c_391 => ?_) (fun c_391 => absurd (by decide) c_391)
      refine lv_aload_n zx zb dX10_stumble_39 rfl (lv_at hl 0 rfl) ?_
      refine lv_bipush (v := (-2)) zx zb dX10_stumble_40 (by decide) ?_
      refine b_wi (cells' := 0) (slots' := 0) (wr := @HAppend.hAppend va_W va_W va_W _ (rcV X nw an sv dv n0 n1 n2 n3 n4 g0 gs gn gm) (odW (xa 11) vo)) G rfl rfl [0, 18] [1, 2, 3, 4, 5, 6, 7, 8, 9, 10, 11, 12, 13, 14, 15, 16, 17] rfl rfl rfl rfl (n_V (As := [.int (-2)]) (rest := []) (C := RX10) (T := TX10) (N := 14) (ci := 8) S G (s_refuse l X h0 nw sp xa la lb fr (-2) H.size) gX10_stumble_X10_refuse rfl rfl rfl hdV_X10_refuse ⟨Nat.le_of_ble_eq_true rfl, Nat.le_of_ble_eq_true rfl⟩ [0, 18] rfl rfl 0 rfl rfl rfl hl.1 (Nat.le_of_ble_eq_true rfl) dX10_stumble_42 ⟨Nat.le_of_ble_eq_true rfl, Nat.le_of_ble_eq_true rfl⟩) (fun r_392 u_392 H locs hp_392 G => ?_)
      obtain ⟨f_392, rfl⟩ : ∃ z, z = u_392 := ⟨_, rfl⟩
      have hq_392 := hp_392
      have G : wd X (va_A (@HAppend.hAppend va_W va_W va_W _ (xW h0 nw sp xa la lb) (@HAppend.hAppend va_W va_W va_W _ (rcV X nw an sv dv n0 n1 n2 n3 n4 g0 gs gn gm) (@HAppend.hAppend va_W va_W va_W _ (odW (xa 11) vo) ([((xa 5), .inl (X.2.1, 3, .inl fr))])))) sz) (va_A (@HAppend.hAppend va_W va_W va_W _ (xW h0 nw sp xa la lb) (@HAppend.hAppend va_W va_W va_W _ (rcV X nw an sv dv n0 n1 n2 n3 n4 g0 gs gn gm) (@HAppend.hAppend va_W va_W va_W _ (odW (xa 11) vo) ([((xa 5), .inl (X.2.1, 3, .inl fr))])))) sz) s (@HAppend.hAppend va_W va_W va_W _ (rcV X nw an sv dv n0 n1 n2 n3 n4 g0 gs gn gm) (@HAppend.hAppend va_W va_W va_W _ (odW (xa 11) vo) (@HAppend.hAppend va_W va_W va_W _ (xW h0 nw sp xa la lb) ([((xa 5), .inl (X.2.1, 3, .inl f_392))])))) H locs := G
      exact e_int S zr zlk (vp_nar_int _) G (la, lb, vo, f_392) [17, 0, 1, 2, 3, 4, 5, 6, 7, 8, 9, 10, 11, 12, 13, 14, 15, 16, 18] rfl rfl (Or.inr rfl) ((hq_392).trans (stuF_n (fun h => hw_3 h.2.1)).symm) dX10_stumble_45
  · refine lv_if_eq (tgt := 39) zx zb dX10_stumble_5 (by decide) (fun c_393 => ?_) (fun c_393 => absurd (by decide) c_393)
    refine lv_aload_n zx zb dX10_stumble_39 rfl (lv_at hl 0 rfl) ?_
    refine lv_bipush (v := (-2)) zx zb dX10_stumble_40 (by decide) ?_
    refine b_wi (cells' := 0) (slots' := 0) (wr := @HAppend.hAppend va_W va_W va_W _ (rcV X nw an sv dv n0 n1 n2 n3 n4 g0 gs gn gm) (odW (xa 11) vo)) G rfl rfl [0, 18] [1, 2, 3, 4, 5, 6, 7, 8, 9, 10, 11, 12, 13, 14, 15, 16, 17] rfl rfl rfl rfl (n_V (As := [.int (-2)]) (rest := []) (C := RX10) (T := TX10) (N := 14) (ci := 8) S G (s_refuse l X h0 nw sp xa la lb fr (-2) H.size) gX10_stumble_X10_refuse rfl rfl rfl hdV_X10_refuse ⟨Nat.le_of_ble_eq_true rfl, Nat.le_of_ble_eq_true rfl⟩ [0, 18] rfl rfl 0 rfl rfl rfl hl.1 (Nat.le_of_ble_eq_true rfl) dX10_stumble_42 ⟨Nat.le_of_ble_eq_true rfl, Nat.le_of_ble_eq_true rfl⟩) (fun r_394 u_394 H locs hp_394 G => ?_)
    obtain ⟨f_394, rfl⟩ : ∃ z, z = u_394 := ⟨_, rfl⟩
    have hq_394 := hp_394
    have G : wd X (va_A (@HAppend.hAppend va_W va_W va_W _ (xW h0 nw sp xa la lb) (@HAppend.hAppend va_W va_W va_W _ (rcV X nw an sv dv n0 n1 n2 n3 n4 g0 gs gn gm) (@HAppend.hAppend va_W va_W va_W _ (odW (xa 11) vo) ([((xa 5), .inl (X.2.1, 3, .inl fr))])))) sz) (va_A (@HAppend.hAppend va_W va_W va_W _ (xW h0 nw sp xa la lb) (@HAppend.hAppend va_W va_W va_W _ (rcV X nw an sv dv n0 n1 n2 n3 n4 g0 gs gn gm) (@HAppend.hAppend va_W va_W va_W _ (odW (xa 11) vo) ([((xa 5), .inl (X.2.1, 3, .inl fr))])))) sz) s (@HAppend.hAppend va_W va_W va_W _ (rcV X nw an sv dv n0 n1 n2 n3 n4 g0 gs gn gm) (@HAppend.hAppend va_W va_W va_W _ (odW (xa 11) vo) (@HAppend.hAppend va_W va_W va_W _ (xW h0 nw sp xa la lb) ([((xa 5), .inl (X.2.1, 3, .inl f_394))])))) H locs := G
    exact e_int S zr zlk (vp_nar_int _) G (la, lb, vo, f_394) [17, 0, 1, 2, 3, 4, 5, 6, 7, 8, 9, 10, 11, 12, 13, 14, 15, 16, 18] rfl rfl (Or.inr rfl) ((hq_394).trans (stuF_n (fun h => hj_1 h.1)).symm) dX10_stumble_45
