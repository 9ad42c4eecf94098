theorem dX0_init_0 : decode cX0_init 0 = .ok (.aload_n 0, 1) := by decide +kernel
theorem dX0_init_1 : decode cX0_init 1 = .ok (.invokespecial 3, 3) := by decide +kernel
theorem dX0_init_12 : decode cX0_init 12 = .ok (.aload_n 0, 1) := by decide +kernel
theorem dX0_init_13 : decode cX0_init 13 = .ok (.bipush 10, 2) := by decide +kernel
theorem dX0_init_15 : decode cX0_init 15 = .ok (.newarray .int, 2) := by decide +kernel
theorem dX0_init_17 : decode cX0_init 17 = .ok (.putfield 15, 3) := by decide +kernel
theorem dX0_init_20 : decode cX0_init 20 = .ok (.aload_n 0, 1) := by decide +kernel
theorem dX0_init_21 : decode cX0_init 21 = .ok (.bipush 10, 2) := by decide +kernel
theorem dX0_init_23 : decode cX0_init 23 = .ok (.newarray .int, 2) := by decide +kernel
theorem dX0_init_25 : decode cX0_init 25 = .ok (.putfield 18, 3) := by decide +kernel
theorem dX0_init_28 : decode cX0_init 28 = .ok (.aload_n 0, 1) := by decide +kernel
theorem dX0_init_29 : decode cX0_init 29 = .ok (.bipush 10, 2) := by decide +kernel
theorem dX0_init_31 : decode cX0_init 31 = .ok (.newarray .int, 2) := by decide +kernel
theorem dX0_init_33 : decode cX0_init 33 = .ok (.putfield 21, 3) := by decide +kernel
theorem dX0_init_36 : decode cX0_init 36 = .ok (.aload_n 0, 1) := by decide +kernel
theorem dX0_init_37 : decode cX0_init 37 = .ok (.bipush 100, 2) := by decide +kernel
theorem dX0_init_39 : decode cX0_init 39 = .ok (.newarray .int, 2) := by decide +kernel
theorem dX0_init_4 : decode cX0_init 4 = .ok (.aload_n 0, 1) := by decide +kernel
theorem dX0_init_41 : decode cX0_init 41 = .ok (.putfield 24, 3) := by decide +kernel
theorem dX0_init_44 : decode cX0_init 44 = .ok (.return_, 1) := by decide +kernel
theorem dX0_init_5 : decode cX0_init 5 = .ok (.bipush 10, 2) := by decide +kernel
theorem dX0_init_7 : decode cX0_init 7 = .ok (.newarray .int, 2) := by decide +kernel
theorem dX0_init_9 : decode cX0_init 9 = .ok (.putfield 11, 3) := by decide +kernel
theorem dX10_areTwo_0 : decode cX10_areTwo 0 = .ok (.aload_n 0, 1) := by decide +kernel
theorem dX10_areTwo_1 : decode cX10_areTwo 1 = .ok (.iload_n 1, 1) := by decide +kernel
theorem dX10_areTwo_2 : decode cX10_areTwo 2 = .ok (.invokevirtual 123, 3) := by decide +kernel
theorem dX10_areTwo_25 : decode cX10_areTwo 25 = .ok (.iconst 0, 1) := by decide +kernel
theorem dX10_areTwo_26 : decode cX10_areTwo 26 = .ok (.ireturn, 1) := by decide +kernel
theorem dX10_areTwo_5 : decode cX10_areTwo 5 = .ok (.ifCond .eq 20, 3) := by decide +kernel
theorem dX10_ask_0 : decode cX10_ask 0 = .ok (.aload_n 0, 1) := by decide +kernel
theorem dX10_ask_1 : decode cX10_ask 1 = .ok (.iload_n 1, 1) := by decide +kernel
theorem dX10_ask_11 : decode cX10_ask 11 = .ok (.invokevirtual 83, 3) := by decide +kernel
theorem dX10_ask_14 : decode cX10_ask 14 = .ok (.ireturn, 1) := by decide +kernel
theorem dX10_ask_2 : decode cX10_ask 2 = .ok (.invokevirtual 123, 3) := by decide +kernel
theorem dX10_ask_5 : decode cX10_ask 5 = .ok (.ifCond .ne 10, 3) := by decide +kernel
theorem dX10_ask_8 : decode cX10_ask 8 = .ok (.aload_n 0, 1) := by decide +kernel
theorem dX10_ask_9 : decode cX10_ask 9 = .ok (.bipush (-2), 2) := by decide +kernel
theorem dX10_beats_0 : decode cX10_beats 0 = .ok (.aload_n 0, 1) := by decide +kernel
theorem dX10_beats_1 : decode cX10_beats 1 = .ok (.iload_n 1, 1) := by decide +kernel
theorem dX10_beats_10 : decode cX10_beats 10 = .ok (.bipush (-2), 2) := by decide +kernel
theorem dX10_beats_12 : decode cX10_beats 12 = .ok (.invokevirtual 83, 3) := by decide +kernel
theorem dX10_beats_15 : decode cX10_beats 15 = .ok (.ireturn, 1) := by decide +kernel
theorem dX10_beats_2 : decode cX10_beats 2 = .ok (.iload_n 2, 1) := by decide +kernel
theorem dX10_beats_3 : decode cX10_beats 3 = .ok (.invokevirtual 172, 3) := by decide +kernel
theorem dX10_beats_6 : decode cX10_beats 6 = .ok (.ifCond .ne 10, 3) := by decide +kernel
theorem dX10_beats_9 : decode cX10_beats 9 = .ok (.aload_n 0, 1) := by decide +kernel
theorem dX10_best_0 : decode cX10_best 0 = .ok (.aload_n 0, 1) := by decide +kernel
theorem dX10_best_1 : decode cX10_best 1 = .ok (.iload_n 1, 1) := by decide +kernel
theorem dX10_best_17 : decode cX10_best 17 = .ok (.aload_n 0, 1) := by decide +kernel
theorem dX10_best_18 : decode cX10_best 18 = .ok (.bipush (-2), 2) := by decide +kernel
theorem dX10_best_2 : decode cX10_best 2 = .ok (.invokevirtual 123, 3) := by decide +kernel
theorem dX10_best_20 : decode cX10_best 20 = .ok (.invokevirtual 83, 3) := by decide +kernel
theorem dX10_best_23 : decode cX10_best 23 = .ok (.ireturn, 1) := by decide +kernel
theorem dX10_best_5 : decode cX10_best 5 = .ok (.ifCond .eq 12, 3) := by decide +kernel
theorem dX10_clear_0 : decode cX10_clear 0 = .ok (.aload_n 0, 1) := by decide +kernel
theorem dX10_clear_1 : decode cX10_clear 1 = .ok (.getfield 30, 3) := by decide +kernel
theorem dX10_clear_12 : decode cX10_clear 12 = .ok (.iconst 0, 1) := by decide +kernel
theorem dX10_clear_13 : decode cX10_clear 13 = .ok (.putfield 103, 3) := by decide +kernel
theorem dX10_clear_16 : decode cX10_clear 16 = .ok (.iload_n 1, 1) := by decide +kernel
theorem dX10_clear_17 : decode cX10_clear 17 = .ok (.ireturn, 1) := by decide +kernel
theorem dX10_clear_4 : decode cX10_clear 4 = .ok (.getfield 103, 3) := by decide +kernel
theorem dX10_clear_7 : decode cX10_clear 7 = .ok (.istore_n 1, 1) := by decide +kernel
theorem dX10_clear_8 : decode cX10_clear 8 = .ok (.aload_n 0, 1) := by decide +kernel
theorem dX10_clear_9 : decode cX10_clear 9 = .ok (.getfield 30, 3) := by decide +kernel
theorem dX10_close_0 : decode cX10_close 0 = .ok (.aload_n 0, 1) := by decide +kernel
theorem dX10_close_1 : decode cX10_close 1 = .ok (.iload_n 1, 1) := by decide +kernel
theorem dX10_close_18 : decode cX10_close 18 = .ok (.aload_n 0, 1) := by decide +kernel
theorem dX10_close_19 : decode cX10_close 19 = .ok (.bipush (-2), 2) := by decide +kernel
theorem dX10_close_2 : decode cX10_close 2 = .ok (.iload_n 2, 1) := by decide +kernel
theorem dX10_close_21 : decode cX10_close 21 = .ok (.invokevirtual 83, 3) := by decide +kernel
theorem dX10_close_24 : decode cX10_close 24 = .ok (.ireturn, 1) := by decide +kernel
theorem dX10_close_3 : decode cX10_close 3 = .ok (.invokevirtual 172, 3) := by decide +kernel
theorem dX10_close_6 : decode cX10_close 6 = .ok (.ifCond .eq 12, 3) := by decide +kernel
theorem dX10_count_0 : decode cX10_count 0 = .ok (.iload_n 1, 1) := by decide +kernel
theorem dX10_count_1 : decode cX10_count 1 = .ok (.tableswitch 159 0 10 #[59, 67, 75, 83, 91, 99, 107, 118, 129, 140, 151], 59) := by decide +kernel
theorem dX10_count_100 : decode cX10_count 100 = .ok (.aload_n 0, 1) := by decide +kernel
theorem dX10_count_101 : decode cX10_count 101 = .ok (.getfield 10, 3) := by decide +kernel
theorem dX10_count_104 : decode cX10_count 104 = .ok (.invokevirtual 279, 3) := by decide +kernel
theorem dX10_count_107 : decode cX10_count 107 = .ok (.ireturn, 1) := by decide +kernel
theorem dX10_count_108 : decode cX10_count 108 = .ok (.aload_n 0, 1) := by decide +kernel
theorem dX10_count_109 : decode cX10_count 109 = .ok (.getfield 10, 3) := by decide +kernel
theorem dX10_count_112 : decode cX10_count 112 = .ok (.getfield 185, 3) := by decide +kernel
theorem dX10_count_115 : decode cX10_count 115 = .ok (.getfield 194, 3) := by decide +kernel
theorem dX10_count_118 : decode cX10_count 118 = .ok (.ireturn, 1) := by decide +kernel
theorem dX10_count_119 : decode cX10_count 119 = .ok (.aload_n 0, 1) := by decide +kernel
theorem dX10_count_120 : decode cX10_count 120 = .ok (.getfield 10, 3) := by decide +kernel
theorem dX10_count_123 : decode cX10_count 123 = .ok (.getfield 212, 3) := by decide +kernel
theorem dX10_count_126 : decode cX10_count 126 = .ok (.getfield 194, 3) := by decide +kernel
theorem dX10_count_129 : decode cX10_count 129 = .ok (.ireturn, 1) := by decide +kernel
theorem dX10_count_130 : decode cX10_count 130 = .ok (.aload_n 0, 1) := by decide +kernel
theorem dX10_count_131 : decode cX10_count 131 = .ok (.getfield 10, 3) := by decide +kernel
theorem dX10_count_134 : decode cX10_count 134 = .ok (.getfield 215, 3) := by decide +kernel
theorem dX10_count_137 : decode cX10_count 137 = .ok (.getfield 194, 3) := by decide +kernel
theorem dX10_count_140 : decode cX10_count 140 = .ok (.ireturn, 1) := by decide +kernel
theorem dX10_count_141 : decode cX10_count 141 = .ok (.aload_n 0, 1) := by decide +kernel
theorem dX10_count_142 : decode cX10_count 142 = .ok (.getfield 10, 3) := by decide +kernel
theorem dX10_count_145 : decode cX10_count 145 = .ok (.getfield 282, 3) := by decide +kernel
theorem dX10_count_148 : decode cX10_count 148 = .ok (.getfield 286, 3) := by decide +kernel
theorem dX10_count_151 : decode cX10_count 151 = .ok (.ireturn, 1) := by decide +kernel
theorem dX10_count_152 : decode cX10_count 152 = .ok (.aload_n 0, 1) := by decide +kernel
theorem dX10_count_153 : decode cX10_count 153 = .ok (.getfield 30, 3) := by decide +kernel
theorem dX10_count_156 : decode cX10_count 156 = .ok (.getfield 103, 3) := by decide +kernel
theorem dX10_count_159 : decode cX10_count 159 = .ok (.ireturn, 1) := by decide +kernel
theorem dX10_count_160 : decode cX10_count 160 = .ok (.aload_n 0, 1) := by decide +kernel
theorem dX10_count_161 : decode cX10_count 161 = .ok (.bipush (-2), 2) := by decide +kernel
theorem dX10_count_163 : decode cX10_count 163 = .ok (.invokevirtual 83, 3) := by decide +kernel
theorem dX10_count_166 : decode cX10_count 166 = .ok (.ireturn, 1) := by decide +kernel
theorem dX10_count_60 : decode cX10_count 60 = .ok (.aload_n 0, 1) := by decide +kernel
theorem dX10_count_61 : decode cX10_count 61 = .ok (.getfield 10, 3) := by decide +kernel
theorem dX10_count_64 : decode cX10_count 64 = .ok (.getfield 87, 3) := by decide +kernel
theorem dX10_count_67 : decode cX10_count 67 = .ok (.ireturn, 1) := by decide +kernel
theorem dX10_count_68 : decode cX10_count 68 = .ok (.aload_n 0, 1) := by decide +kernel
theorem dX10_count_69 : decode cX10_count 69 = .ok (.getfield 10, 3) := by decide +kernel
theorem dX10_count_72 : decode cX10_count 72 = .ok (.invokevirtual 119, 3) := by decide +kernel
theorem dX10_count_75 : decode cX10_count 75 = .ok (.ireturn, 1) := by decide +kernel
theorem dX10_count_76 : decode cX10_count 76 = .ok (.aload_n 0, 1) := by decide +kernel
theorem dX10_count_77 : decode cX10_count 77 = .ok (.getfield 10, 3) := by decide +kernel
theorem dX10_count_80 : decode cX10_count 80 = .ok (.getfield 140, 3) := by decide +kernel
theorem dX10_count_83 : decode cX10_count 83 = .ok (.ireturn, 1) := by decide +kernel
theorem dX10_count_84 : decode cX10_count 84 = .ok (.aload_n 0, 1) := by decide +kernel
theorem dX10_count_85 : decode cX10_count 85 = .ok (.getfield 10, 3) := by decide +kernel
theorem dX10_count_88 : decode cX10_count 88 = .ok (.getfield 110, 3) := by decide +kernel
theorem dX10_count_91 : decode cX10_count 91 = .ok (.ireturn, 1) := by decide +kernel
theorem dX10_count_92 : decode cX10_count 92 = .ok (.aload_n 0, 1) := by decide +kernel
theorem dX10_count_93 : decode cX10_count 93 = .ok (.getfield 10, 3) := by decide +kernel
theorem dX10_count_96 : decode cX10_count 96 = .ok (.invokevirtual 276, 3) := by decide +kernel
theorem dX10_count_99 : decode cX10_count 99 = .ok (.ireturn, 1) := by decide +kernel
theorem dX10_digest_0 : decode cX10_digest 0 = .ok (.ldc2_w 289, 3) := by decide +kernel
theorem dX10_digest_101 : decode cX10_digest 101 = .ok (.getfield 185, 3) := by decide +kernel
theorem dX10_digest_104 : decode cX10_digest 104 = .ok (.lload_n 1, 1) := by decide +kernel
theorem dX10_digest_105 : decode cX10_digest 105 = .ok (.invokevirtual 296, 3) := by decide +kernel
theorem dX10_digest_108 : decode cX10_digest 108 = .ok (.lstore_n 1, 1) := by decide +kernel
theorem dX10_digest_109 : decode cX10_digest 109 = .ok (.aload_n 0, 1) := by decide +kernel
theorem dX10_digest_110 : decode cX10_digest 110 = .ok (.getfield 10, 3) := by decide +kernel
theorem dX10_digest_113 : decode cX10_digest 113 = .ok (.getfield 212, 3) := by decide +kernel
theorem dX10_digest_116 : decode cX10_digest 116 = .ok (.lload_n 1, 1) := by decide +kernel
theorem dX10_digest_117 : decode cX10_digest 117 = .ok (.invokevirtual 296, 3) := by decide +kernel
theorem dX10_digest_12 : decode cX10_digest 12 = .ok (.ldc2_w 291, 3) := by decide +kernel
theorem dX10_digest_120 : decode cX10_digest 120 = .ok (.lstore_n 1, 1) := by decide +kernel
theorem dX10_digest_121 : decode cX10_digest 121 = .ok (.aload_n 0, 1) := by decide +kernel
theorem dX10_digest_122 : decode cX10_digest 122 = .ok (.getfield 10, 3) := by decide +kernel
theorem dX10_digest_125 : decode cX10_digest 125 = .ok (.getfield 215, 3) := by decide +kernel
theorem dX10_digest_128 : decode cX10_digest 128 = .ok (.lload_n 1, 1) := by decide +kernel
theorem dX10_digest_129 : decode cX10_digest 129 = .ok (.invokevirtual 296, 3) := by decide +kernel
theorem dX10_digest_132 : decode cX10_digest 132 = .ok (.lstore_n 1, 1) := by decide +kernel
theorem dX10_digest_133 : decode cX10_digest 133 = .ok (.ldc2_w 291, 3) := by decide +kernel
theorem dX10_digest_136 : decode cX10_digest 136 = .ok (.lload_n 1, 1) := by decide +kernel
theorem dX10_digest_137 : decode cX10_digest 137 = .ok (.lmul, 1) := by decide +kernel
theorem dX10_digest_138 : decode cX10_digest 138 = .ok (.aload_n 0, 1) := by decide +kernel
theorem dX10_digest_139 : decode cX10_digest 139 = .ok (.getfield 38, 3) := by decide +kernel
theorem dX10_digest_142 : decode cX10_digest 142 = .ok (.ladd, 1) := by decide +kernel
theorem dX10_digest_143 : decode cX10_digest 143 = .ok (.lstore_n 1, 1) := by decide +kernel
theorem dX10_digest_144 : decode cX10_digest 144 = .ok (.ldc2_w 291, 3) := by decide +kernel
theorem dX10_digest_147 : decode cX10_digest 147 = .ok (.lload_n 1, 1) := by decide +kernel
theorem dX10_digest_148 : decode cX10_digest 148 = .ok (.lmul, 1) := by decide +kernel
theorem dX10_digest_149 : decode cX10_digest 149 = .ok (.aload_n 0, 1) := by decide +kernel
theorem dX10_digest_15 : decode cX10_digest 15 = .ok (.lload_n 1, 1) := by decide +kernel
theorem dX10_digest_150 : decode cX10_digest 150 = .ok (.getfield 42, 3) := by decide +kernel
theorem dX10_digest_153 : decode cX10_digest 153 = .ok (.ladd, 1) := by decide +kernel
theorem dX10_digest_154 : decode cX10_digest 154 = .ok (.lreturn, 1) := by decide +kernel
theorem dX10_digest_16 : decode cX10_digest 16 = .ok (.lmul, 1) := by decide +kernel
theorem dX10_digest_17 : decode cX10_digest 17 = .ok (.aload_n 0, 1) := by decide +kernel
theorem dX10_digest_18 : decode cX10_digest 18 = .ok (.iload_n 3, 1) := by decide +kernel
theorem dX10_digest_19 : decode cX10_digest 19 = .ok (.invokevirtual 293, 3) := by decide +kernel
theorem dX10_digest_22 : decode cX10_digest 22 = .ok (.i2l, 1) := by decide +kernel
theorem dX10_digest_23 : decode cX10_digest 23 = .ok (.ladd, 1) := by decide +kernel
theorem dX10_digest_24 : decode cX10_digest 24 = .ok (.lstore_n 1, 1) := by decide +kernel
theorem dX10_digest_25 : decode cX10_digest 25 = .ok (.iinc 3 1, 3) := by decide +kernel
theorem dX10_digest_28 : decode cX10_digest 28 = .ok (.goto (-22), 3) := by decide +kernel
theorem dX10_digest_3 : decode cX10_digest 3 = .ok (.lstore_n 1, 1) := by decide +kernel
theorem dX10_digest_31 : decode cX10_digest 31 = .ok (.iconst 0, 1) := by decide +kernel
theorem dX10_digest_32 : decode cX10_digest 32 = .ok (.istore_n 3, 1) := by decide +kernel
theorem dX10_digest_33 : decode cX10_digest 33 = .ok (.iload_n 3, 1) := by decide +kernel
theorem dX10_digest_34 : decode cX10_digest 34 = .ok (.aload_n 0, 1) := by decide +kernel
theorem dX10_digest_35 : decode cX10_digest 35 = .ok (.getfield 10, 3) := by decide +kernel
theorem dX10_digest_38 : decode cX10_digest 38 = .ok (.getfield 87, 3) := by decide +kernel
theorem dX10_digest_4 : decode cX10_digest 4 = .ok (.iconst 0, 1) := by decide +kernel
theorem dX10_digest_41 : decode cX10_digest 41 = .ok (.if_icmp .ge 56, 3) := by decide +kernel
theorem dX10_digest_5 : decode cX10_digest 5 = .ok (.istore_n 3, 1) := by decide +kernel
theorem dX10_digest_6 : decode cX10_digest 6 = .ok (.iload_n 3, 1) := by decide +kernel
theorem dX10_digest_7 : decode cX10_digest 7 = .ok (.bipush 10, 2) := by decide +kernel
theorem dX10_digest_9 : decode cX10_digest 9 = .ok (.if_icmp .gt 22, 3) := by decide +kernel
theorem dX10_digest_97 : decode cX10_digest 97 = .ok (.aload_n 0, 1) := by decide +kernel
theorem dX10_digest_98 : decode cX10_digest 98 = .ok (.getfield 10, 3) := by decide +kernel
theorem dX10_first_0 : decode cX10_first 0 = .ok (.iconst (-1), 1) := by decide +kernel
theorem dX10_first_1 : decode cX10_first 1 = .ok (.istore_n 1, 1) := by decide +kernel
theorem dX10_first_12 : decode cX10_first 12 = .ok (.getfield 87, 3) := by decide +kernel
theorem dX10_first_15 : decode cX10_first 15 = .ok (.if_icmp .ge 49, 3) := by decide +kernel
theorem dX10_first_2 : decode cX10_first 2 = .ok (.bipush 60, 2) := by decide +kernel
theorem dX10_first_4 : decode cX10_first 4 = .ok (.istore_n 2, 1) := by decide +kernel
theorem dX10_first_5 : decode cX10_first 5 = .ok (.iconst 0, 1) := by decide +kernel
theorem dX10_first_6 : decode cX10_first 6 = .ok (.istore_n 3, 1) := by decide +kernel
theorem dX10_first_64 : decode cX10_first 64 = .ok (.iload_n 1, 1) := by decide +kernel
theorem dX10_first_65 : decode cX10_first 65 = .ok (.ireturn, 1) := by decide +kernel
theorem dX10_first_7 : decode cX10_first 7 = .ok (.iload_n 3, 1) := by decide +kernel
theorem dX10_first_8 : decode cX10_first 8 = .ok (.aload_n 0, 1) := by decide +kernel
theorem dX10_first_9 : decode cX10_first 9 = .ok (.getfield 10, 3) := by decide +kernel
theorem dX10_forget_0 : decode cX10_forget 0 = .ok (.iload_n 1, 1) := by decide +kernel
theorem dX10_forget_1 : decode cX10_forget 1 = .ok (.iconst 0, 1) := by decide +kernel
theorem dX10_forget_10 : decode cX10_forget 10 = .ok (.bipush (-2), 2) := by decide +kernel
theorem dX10_forget_12 : decode cX10_forget 12 = .ok (.invokevirtual 83, 3) := by decide +kernel
theorem dX10_forget_15 : decode cX10_forget 15 = .ok (.ireturn, 1) := by decide +kernel
theorem dX10_forget_16 : decode cX10_forget 16 = .ok (.iload_n 1, 1) := by decide +kernel
theorem dX10_forget_17 : decode cX10_forget 17 = .ok (.ifCond .ne 13, 3) := by decide +kernel
theorem dX10_forget_2 : decode cX10_forget 2 = .ok (.iconst 2, 1) := by decide +kernel
theorem dX10_forget_20 : decode cX10_forget 20 = .ok (.aload_n 0, 1) := by decide +kernel
theorem dX10_forget_21 : decode cX10_forget 21 = .ok (.getfield 10, 3) := by decide +kernel
theorem dX10_forget_24 : decode cX10_forget 24 = .ok (.getfield 185, 3) := by decide +kernel
theorem dX10_forget_27 : decode cX10_forget 27 = .ok (.goto 25, 3) := by decide +kernel
theorem dX10_forget_3 : decode cX10_forget 3 = .ok (.invokestatic 79, 3) := by decide +kernel
theorem dX10_forget_30 : decode cX10_forget 30 = .ok (.iload_n 1, 1) := by decide +kernel
theorem dX10_forget_31 : decode cX10_forget 31 = .ok (.iconst 1, 1) := by decide +kernel
theorem dX10_forget_32 : decode cX10_forget 32 = .ok (.if_icmp .ne 13, 3) := by decide +kernel
theorem dX10_forget_35 : decode cX10_forget 35 = .ok (.aload_n 0, 1) := by decide +kernel
theorem dX10_forget_36 : decode cX10_forget 36 = .ok (.getfield 10, 3) := by decide +kernel
theorem dX10_forget_39 : decode cX10_forget 39 = .ok (.getfield 212, 3) := by decide +kernel
theorem dX10_forget_42 : decode cX10_forget 42 = .ok (.goto 10, 3) := by decide +kernel
theorem dX10_forget_45 : decode cX10_forget 45 = .ok (.aload_n 0, 1) := by decide +kernel
theorem dX10_forget_46 : decode cX10_forget 46 = .ok (.getfield 10, 3) := by decide +kernel
theorem dX10_forget_49 : decode cX10_forget 49 = .ok (.getfield 215, 3) := by decide +kernel
theorem dX10_forget_52 : decode cX10_forget 52 = .ok (.astore_n 2, 1) := by decide +kernel
theorem dX10_forget_53 : decode cX10_forget 53 = .ok (.aload_n 2, 1) := by decide +kernel
theorem dX10_forget_54 : decode cX10_forget 54 = .ok (.getfield 194, 3) := by decide +kernel
theorem dX10_forget_57 : decode cX10_forget 57 = .ok (.istore_n 3, 1) := by decide +kernel
theorem dX10_forget_58 : decode cX10_forget 58 = .ok (.aload_n 2, 1) := by decide +kernel
theorem dX10_forget_59 : decode cX10_forget 59 = .ok (.iconst 0, 1) := by decide +kernel
theorem dX10_forget_6 : decode cX10_forget 6 = .ok (.ifCond .ne 10, 3) := by decide +kernel
theorem dX10_forget_60 : decode cX10_forget 60 = .ok (.putfield 194, 3) := by decide +kernel
theorem dX10_forget_63 : decode cX10_forget 63 = .ok (.iload_n 3, 1) := by decide +kernel
theorem dX10_forget_64 : decode cX10_forget 64 = .ok (.ireturn, 1) := by decide +kernel
theorem dX10_forget_9 : decode cX10_forget 9 = .ok (.aload_n 0, 1) := by decide +kernel
theorem dX10_from_0 : decode cX10_from 0 = .ok (.iload_n 1, 1) := by decide +kernel
theorem dX10_from_1 : decode cX10_from 1 = .ok (.iconst 0, 1) := by decide +kernel
theorem dX10_from_10 : decode cX10_from 10 = .ok (.bipush (-2), 2) := by decide +kernel
theorem dX10_from_12 : decode cX10_from 12 = .ok (.invokevirtual 83, 3) := by decide +kernel
theorem dX10_from_15 : decode cX10_from 15 = .ok (.ireturn, 1) := by decide +kernel
theorem dX10_from_16 : decode cX10_from 16 = .ok (.aload_n 0, 1) := by decide +kernel
theorem dX10_from_17 : decode cX10_from 17 = .ok (.getfield 23, 3) := by decide +kernel
theorem dX10_from_2 : decode cX10_from 2 = .ok (.iconst 1, 1) := by decide +kernel
theorem dX10_from_20 : decode cX10_from 20 = .ok (.iload_n 1, 1) := by decide +kernel
theorem dX10_from_21 : decode cX10_from 21 = .ok (.baload, 1) := by decide +kernel
theorem dX10_from_22 : decode cX10_from 22 = .ok (.ifCond .ne 10, 3) := by decide +kernel
theorem dX10_from_25 : decode cX10_from 25 = .ok (.aload_n 0, 1) := by decide +kernel
theorem dX10_from_26 : decode cX10_from 26 = .ok (.bipush (-3), 2) := by decide +kernel
theorem dX10_from_28 : decode cX10_from 28 = .ok (.invokevirtual 83, 3) := by decide +kernel
theorem dX10_from_3 : decode cX10_from 3 = .ok (.invokestatic 79, 3) := by decide +kernel
theorem dX10_from_31 : decode cX10_from 31 = .ok (.ireturn, 1) := by decide +kernel
theorem dX10_from_6 : decode cX10_from 6 = .ok (.ifCond .ne 10, 3) := by decide +kernel
theorem dX10_from_9 : decode cX10_from 9 = .ok (.aload_n 0, 1) := by decide +kernel
theorem dX10_home_0 : decode cX10_home 0 = .ok (.aload_n 0, 1) := by decide +kernel
theorem dX10_home_1 : decode cX10_home 1 = .ok (.iload_n 1, 1) := by decide +kernel
theorem dX10_home_18 : decode cX10_home 18 = .ok (.aload_n 0, 1) := by decide +kernel
theorem dX10_home_19 : decode cX10_home 19 = .ok (.bipush (-2), 2) := by decide +kernel
theorem dX10_home_2 : decode cX10_home 2 = .ok (.invokevirtual 123, 3) := by decide +kernel
theorem dX10_home_21 : decode cX10_home 21 = .ok (.invokevirtual 83, 3) := by decide +kernel
theorem dX10_home_24 : decode cX10_home 24 = .ok (.ireturn, 1) := by decide +kernel
theorem dX10_home_5 : decode cX10_home 5 = .ok (.ifCond .eq 13, 3) := by decide +kernel
theorem dX10_image_0 : decode cX10_image 0 = .ok (.iload_n 1, 1) := by decide +kernel
theorem dX10_image_1 : decode cX10_image 1 = .ok (.iconst 0, 1) := by decide +kernel
theorem dX10_image_10 : decode cX10_image 10 = .ok (.bipush (-2), 2) := by decide +kernel
theorem dX10_image_12 : decode cX10_image 12 = .ok (.invokevirtual 83, 3) := by decide +kernel
theorem dX10_image_15 : decode cX10_image 15 = .ok (.ireturn, 1) := by decide +kernel
theorem dX10_image_16 : decode cX10_image 16 = .ok (.aload_n 0, 1) := by decide +kernel
theorem dX10_image_17 : decode cX10_image 17 = .ok (.getfield 19, 3) := by decide +kernel
theorem dX10_image_2 : decode cX10_image 2 = .ok (.iconst 1, 1) := by decide +kernel
theorem dX10_image_20 : decode cX10_image 20 = .ok (.iload_n 1, 1) := by decide +kernel
theorem dX10_image_21 : decode cX10_image 21 = .ok (.aaload, 1) := by decide +kernel
theorem dX10_image_22 : decode cX10_image 22 = .ok (.aload_n 0, 1) := by decide +kernel
theorem dX10_image_23 : decode cX10_image 23 = .ok (.getfield 10, 3) := by decide +kernel
theorem dX10_image_26 : decode cX10_image 26 = .ok (.invokevirtual 274, 3) := by decide +kernel
theorem dX10_image_29 : decode cX10_image 29 = .ok (.aload_n 0, 1) := by decide +kernel
theorem dX10_image_3 : decode cX10_image 3 = .ok (.invokestatic 79, 3) := by decide +kernel
theorem dX10_image_30 : decode cX10_image 30 = .ok (.getfield 23, 3) := by decide +kernel
theorem dX10_image_33 : decode cX10_image 33 = .ok (.iload_n 1, 1) := by decide +kernel
theorem dX10_image_34 : decode cX10_image 34 = .ok (.iconst 1, 1) := by decide +kernel
theorem dX10_image_35 : decode cX10_image 35 = .ok (.bastore, 1) := by decide +kernel
theorem dX10_image_36 : decode cX10_image 36 = .ok (.iconst 1, 1) := by decide +kernel
theorem dX10_image_37 : decode cX10_image 37 = .ok (.ireturn, 1) := by decide +kernel
theorem dX10_image_6 : decode cX10_image 6 = .ok (.ifCond .ne 10, 3) := by decide +kernel
theorem dX10_image_9 : decode cX10_image 9 = .ok (.aload_n 0, 1) := by decide +kernel
theorem dX10_init_0 : decode cX10_init 0 = .ok (.aload_n 0, 1) := by decide +kernel
theorem dX10_init_1 : decode cX10_init 1 = .ok (.invokespecial 1, 3) := by decide +kernel
theorem dX10_init_100 : decode cX10_init 100 = .ok (.aload_n 0, 1) := by decide +kernel
theorem dX10_init_101 : decode cX10_init 101 = .ok (.new 45, 3) := by decide +kernel
theorem dX10_init_104 : decode cX10_init 104 = .ok (.dup, 1) := by decide +kernel
theorem dX10_init_105 : decode cX10_init 105 = .ok (.invokespecial 47, 3) := by decide +kernel
theorem dX10_init_108 : decode cX10_init 108 = .ok (.putfield 52, 3) := by decide +kernel
theorem dX10_init_111 : decode cX10_init 111 = .ok (.aload_n 0, 1) := by decide +kernel
theorem dX10_init_112 : decode cX10_init 112 = .ok (.new 55, 3) := by decide +kernel
theorem dX10_init_115 : decode cX10_init 115 = .ok (.dup, 1) := by decide +kernel
theorem dX10_init_116 : decode cX10_init 116 = .ok (.invokespecial 57, 3) := by decide +kernel
theorem dX10_init_119 : decode cX10_init 119 = .ok (.putfield 58, 3) := by decide +kernel
theorem dX10_init_12 : decode cX10_init 12 = .ok (.putfield 10, 3) := by decide +kernel
theorem dX10_init_122 : decode cX10_init 122 = .ok (.aload_n 0, 1) := by decide +kernel
theorem dX10_init_123 : decode cX10_init 123 = .ok (.new 62, 3) := by decide +kernel
theorem dX10_init_126 : decode cX10_init 126 = .ok (.dup, 1) := by decide +kernel
theorem dX10_init_127 : decode cX10_init 127 = .ok (.invokespecial 64, 3) := by decide +kernel
theorem dX10_init_130 : decode cX10_init 130 = .ok (.putfield 65, 3) := by decide +kernel
theorem dX10_init_133 : decode cX10_init 133 = .ok (.aload_n 0, 1) := by decide +kernel
theorem dX10_init_134 : decode cX10_init 134 = .ok (.new 69, 3) := by decide +kernel
theorem dX10_init_137 : decode cX10_init 137 = .ok (.dup, 1) := by decide +kernel
theorem dX10_init_138 : decode cX10_init 138 = .ok (.invokespecial 71, 3) := by decide +kernel
theorem dX10_init_141 : decode cX10_init 141 = .ok (.putfield 72, 3) := by decide +kernel
theorem dX10_init_144 : decode cX10_init 144 = .ok (.aload_n 0, 1) := by decide +kernel
theorem dX10_init_145 : decode cX10_init 145 = .ok (.bipush 6, 2) := by decide +kernel
theorem dX10_init_147 : decode cX10_init 147 = .ok (.newarray .int, 2) := by decide +kernel
theorem dX10_init_149 : decode cX10_init 149 = .ok (.putfield 76, 3) := by decide +kernel
theorem dX10_init_15 : decode cX10_init 15 = .ok (.aload_n 0, 1) := by decide +kernel
theorem dX10_init_152 : decode cX10_init 152 = .ok (.return_, 1) := by decide +kernel
theorem dX10_init_16 : decode cX10_init 16 = .ok (.new 7, 3) := by decide +kernel
theorem dX10_init_19 : decode cX10_init 19 = .ok (.dup, 1) := by decide +kernel
theorem dX10_init_20 : decode cX10_init 20 = .ok (.invokespecial 9, 3) := by decide +kernel
theorem dX10_init_23 : decode cX10_init 23 = .ok (.putfield 16, 3) := by decide +kernel
theorem dX10_init_26 : decode cX10_init 26 = .ok (.aload_n 0, 1) := by decide +kernel
theorem dX10_init_27 : decode cX10_init 27 = .ok (.iconst 2, 1) := by decide +kernel
theorem dX10_init_28 : decode cX10_init 28 = .ok (.anewarray 7, 3) := by decide +kernel
theorem dX10_init_31 : decode cX10_init 31 = .ok (.dup, 1) := by decide +kernel
theorem dX10_init_32 : decode cX10_init 32 = .ok (.iconst 0, 1) := by decide +kernel
theorem dX10_init_33 : decode cX10_init 33 = .ok (.new 7, 3) := by decide +kernel
theorem dX10_init_36 : decode cX10_init 36 = .ok (.dup, 1) := by decide +kernel
theorem dX10_init_37 : decode cX10_init 37 = .ok (.invokespecial 9, 3) := by decide +kernel
theorem dX10_init_4 : decode cX10_init 4 = .ok (.aload_n 0, 1) := by decide +kernel
theorem dX10_init_40 : decode cX10_init 40 = .ok (.aastore, 1) := by decide +kernel
theorem dX10_init_41 : decode cX10_init 41 = .ok (.dup, 1) := by decide +kernel
theorem dX10_init_42 : decode cX10_init 42 = .ok (.iconst 1, 1) := by decide +kernel
theorem dX10_init_43 : decode cX10_init 43 = .ok (.new 7, 3) := by decide +kernel
theorem dX10_init_46 : decode cX10_init 46 = .ok (.dup, 1) := by decide +kernel
theorem dX10_init_47 : decode cX10_init 47 = .ok (.invokespecial 9, 3) := by decide +kernel
theorem dX10_init_5 : decode cX10_init 5 = .ok (.new 7, 3) := by decide +kernel
theorem dX10_init_50 : decode cX10_init 50 = .ok (.aastore, 1) := by decide +kernel
theorem dX10_init_51 : decode cX10_init 51 = .ok (.putfield 19, 3) := by decide +kernel
theorem dX10_init_54 : decode cX10_init 54 = .ok (.aload_n 0, 1) := by decide +kernel
theorem dX10_init_55 : decode cX10_init 55 = .ok (.iconst 2, 1) := by decide +kernel
theorem dX10_init_56 : decode cX10_init 56 = .ok (.newarray .boolean, 2) := by decide +kernel
theorem dX10_init_58 : decode cX10_init 58 = .ok (.putfield 23, 3) := by decide +kernel
theorem dX10_init_61 : decode cX10_init 61 = .ok (.aload_n 0, 1) := by decide +kernel
theorem dX10_init_62 : decode cX10_init 62 = .ok (.new 27, 3) := by decide +kernel
theorem dX10_init_65 : decode cX10_init 65 = .ok (.dup, 1) := by decide +kernel
theorem dX10_init_66 : decode cX10_init 66 = .ok (.invokespecial 29, 3) := by decide +kernel
theorem dX10_init_69 : decode cX10_init 69 = .ok (.putfield 30, 3) := by decide +kernel
theorem dX10_init_72 : decode cX10_init 72 = .ok (.aload_n 0, 1) := by decide +kernel
theorem dX10_init_73 : decode cX10_init 73 = .ok (.iconst 3, 1) := by decide +kernel
theorem dX10_init_74 : decode cX10_init 74 = .ok (.newarray .int, 2) := by decide +kernel
theorem dX10_init_76 : decode cX10_init 76 = .ok (.putfield 34, 3) := by decide +kernel
theorem dX10_init_79 : decode cX10_init 79 = .ok (.aload_n 0, 1) := by decide +kernel
theorem dX10_init_8 : decode cX10_init 8 = .ok (.dup, 1) := by decide +kernel
theorem dX10_init_80 : decode cX10_init 80 = .ok (.lconst 0, 1) := by decide +kernel
theorem dX10_init_81 : decode cX10_init 81 = .ok (.putfield 38, 3) := by decide +kernel
theorem dX10_init_84 : decode cX10_init 84 = .ok (.aload_n 0, 1) := by decide +kernel
theorem dX10_init_85 : decode cX10_init 85 = .ok (.lconst 1, 1) := by decide +kernel
theorem dX10_init_86 : decode cX10_init 86 = .ok (.putfield 42, 3) := by decide +kernel
theorem dX10_init_89 : decode cX10_init 89 = .ok (.aload_n 0, 1) := by decide +kernel
theorem dX10_init_9 : decode cX10_init 9 = .ok (.invokespecial 9, 3) := by decide +kernel
theorem dX10_init_90 : decode cX10_init 90 = .ok (.new 45, 3) := by decide +kernel
theorem dX10_init_93 : decode cX10_init 93 = .ok (.dup, 1) := by decide +kernel
theorem dX10_init_94 : decode cX10_init 94 = .ok (.invokespecial 47, 3) := by decide +kernel
theorem dX10_init_97 : decode cX10_init 97 = .ok (.putfield 48, 3) := by decide +kernel
theorem dX10_is_0 : decode cX10_is 0 = .ok (.aload_n 0, 1) := by decide +kernel
theorem dX10_is_1 : decode cX10_is 1 = .ok (.iload_n 1, 1) := by decide +kernel
theorem dX10_is_19 : decode cX10_is 19 = .ok (.aload_n 0, 1) := by decide +kernel
theorem dX10_is_2 : decode cX10_is 2 = .ok (.invokevirtual 123, 3) := by decide +kernel
theorem dX10_is_20 : decode cX10_is 20 = .ok (.bipush (-2), 2) := by decide +kernel
theorem dX10_is_22 : decode cX10_is 22 = .ok (.invokevirtual 83, 3) := by decide +kernel
theorem dX10_is_25 : decode cX10_is 25 = .ok (.ireturn, 1) := by decide +kernel
theorem dX10_is_5 : decode cX10_is 5 = .ok (.ifCond .eq 14, 3) := by decide +kernel
theorem dX10_kinds_0 : decode cX10_kinds 0 = .ok (.aload_n 0, 1) := by decide +kernel
theorem dX10_kinds_1 : decode cX10_kinds 1 = .ok (.iload_n 1, 1) := by decide +kernel
theorem dX10_kinds_19 : decode cX10_kinds 19 = .ok (.aload_n 0, 1) := by decide +kernel
theorem dX10_kinds_2 : decode cX10_kinds 2 = .ok (.invokevirtual 123, 3) := by decide +kernel
theorem dX10_kinds_20 : decode cX10_kinds 20 = .ok (.bipush (-2), 2) := by decide +kernel
theorem dX10_kinds_22 : decode cX10_kinds 22 = .ok (.invokevirtual 83, 3) := by decide +kernel
theorem dX10_kinds_25 : decode cX10_kinds 25 = .ok (.ireturn, 1) := by decide +kernel
theorem dX10_kinds_5 : decode cX10_kinds 5 = .ok (.ifCond .eq 14, 3) := by decide +kernel
theorem dX10_look_0 : decode cX10_look 0 = .ok (.aload_n 0, 1) := by decide +kernel
theorem dX10_look_1 : decode cX10_look 1 = .ok (.iload_n 1, 1) := by decide +kernel
theorem dX10_look_11 : decode cX10_look 11 = .ok (.invokevirtual 83, 3) := by decide +kernel
theorem dX10_look_14 : decode cX10_look 14 = .ok (.ireturn, 1) := by decide +kernel
theorem dX10_look_2 : decode cX10_look 2 = .ok (.invokevirtual 123, 3) := by decide +kernel
theorem dX10_look_5 : decode cX10_look 5 = .ok (.ifCond .ne 10, 3) := by decide +kernel
theorem dX10_look_8 : decode cX10_look 8 = .ok (.aload_n 0, 1) := by decide +kernel
theorem dX10_look_9 : decode cX10_look 9 = .ok (.bipush (-2), 2) := by decide +kernel
theorem dX10_mark_0 : decode cX10_mark 0 = .ok (.aload_n 0, 1) := by decide +kernel
theorem dX10_mark_1 : decode cX10_mark 1 = .ok (.iload_n 1, 1) := by decide +kernel
theorem dX10_mark_2 : decode cX10_mark 2 = .ok (.invokevirtual 123, 3) := by decide +kernel
theorem dX10_mark_28 : decode cX10_mark 28 = .ok (.aload_n 0, 1) := by decide +kernel
theorem dX10_mark_29 : decode cX10_mark 29 = .ok (.bipush (-2), 2) := by decide +kernel
theorem dX10_mark_31 : decode cX10_mark 31 = .ok (.invokevirtual 83, 3) := by decide +kernel
theorem dX10_mark_34 : decode cX10_mark 34 = .ok (.ireturn, 1) := by decide +kernel
theorem dX10_mark_5 : decode cX10_mark 5 = .ok (.ifCond .eq 23, 3) := by decide +kernel
theorem dX10_note_0 : decode cX10_note 0 = .ok (.aload_n 0, 1) := by decide +kernel
theorem dX10_note_1 : decode cX10_note 1 = .ok (.iload_n 1, 1) := by decide +kernel
theorem dX10_note_2 : decode cX10_note 2 = .ok (.invokevirtual 123, 3) := by decide +kernel
theorem dX10_note_5 : decode cX10_note 5 = .ok (.ifCond .eq 45, 3) := by decide +kernel
theorem dX10_note_50 : decode cX10_note 50 = .ok (.aload_n 0, 1) := by decide +kernel
theorem dX10_note_51 : decode cX10_note 51 = .ok (.bipush (-2), 2) := by decide +kernel
theorem dX10_note_53 : decode cX10_note 53 = .ok (.invokevirtual 83, 3) := by decide +kernel
theorem dX10_note_56 : decode cX10_note 56 = .ok (.ireturn, 1) := by decide +kernel
theorem dX10_of_0 : decode cX10_of 0 = .ok (.aload_n 0, 1) := by decide +kernel
theorem dX10_of_1 : decode cX10_of 1 = .ok (.iload_n 1, 1) := by decide +kernel
theorem dX10_of_18 : decode cX10_of 18 = .ok (.aload_n 0, 1) := by decide +kernel
theorem dX10_of_19 : decode cX10_of 19 = .ok (.bipush (-2), 2) := by decide +kernel
theorem dX10_of_2 : decode cX10_of 2 = .ok (.invokevirtual 123, 3) := by decide +kernel
theorem dX10_of_21 : decode cX10_of 21 = .ok (.invokevirtual 83, 3) := by decide +kernel
theorem dX10_of_24 : decode cX10_of 24 = .ok (.ireturn, 1) := by decide +kernel
theorem dX10_of_5 : decode cX10_of 5 = .ok (.ifCond .eq 13, 3) := by decide +kernel
theorem dX10_one_0 : decode cX10_one 0 = .ok (.iload_n 1, 1) := by decide +kernel
theorem dX10_one_1 : decode cX10_one 1 = .ok (.iconst 0, 1) := by decide +kernel
theorem dX10_one_10 : decode cX10_one 10 = .ok (.iconst 1, 1) := by decide +kernel
theorem dX10_one_11 : decode cX10_one 11 = .ok (.bipush 9, 2) := by decide +kernel
theorem dX10_one_13 : decode cX10_one 13 = .ok (.invokestatic 79, 3) := by decide +kernel
theorem dX10_one_16 : decode cX10_one 16 = .ok (.ifCond .eq 12, 3) := by decide +kernel
theorem dX10_one_19 : decode cX10_one 19 = .ok (.iload_n 3, 1) := by decide +kernel
theorem dX10_one_2 : decode cX10_one 2 = .ok (.iconst 5, 1) := by decide +kernel
theorem dX10_one_20 : decode cX10_one 20 = .ok (.iconst 0, 1) := by decide +kernel
theorem dX10_one_21 : decode cX10_one 21 = .ok (.iconst 5, 1) := by decide +kernel
theorem dX10_one_22 : decode cX10_one 22 = .ok (.invokestatic 79, 3) := by decide +kernel
theorem dX10_one_25 : decode cX10_one 25 = .ok (.ifCond .ne 10, 3) := by decide +kernel
theorem dX10_one_28 : decode cX10_one 28 = .ok (.aload_n 0, 1) := by decide +kernel
theorem dX10_one_29 : decode cX10_one 29 = .ok (.bipush (-2), 2) := by decide +kernel
theorem dX10_one_3 : decode cX10_one 3 = .ok (.invokestatic 79, 3) := by decide +kernel
theorem dX10_one_31 : decode cX10_one 31 = .ok (.invokevirtual 83, 3) := by decide +kernel
theorem dX10_one_34 : decode cX10_one 34 = .ok (.ireturn, 1) := by decide +kernel
theorem dX10_one_35 : decode cX10_one 35 = .ok (.aload_n 0, 1) := by decide +kernel
theorem dX10_one_36 : decode cX10_one 36 = .ok (.getfield 10, 3) := by decide +kernel
theorem dX10_one_39 : decode cX10_one 39 = .ok (.getfield 87, 3) := by decide +kernel
theorem dX10_one_42 : decode cX10_one 42 = .ok (.bipush 6, 2) := by decide +kernel
theorem dX10_one_44 : decode cX10_one 44 = .ok (.if_icmp .lt 10, 3) := by decide +kernel
theorem dX10_one_54 : decode cX10_one 54 = .ok (.aload_n 0, 1) := by decide +kernel
theorem dX10_one_55 : decode cX10_one 55 = .ok (.getfield 10, 3) := by decide +kernel
theorem dX10_one_58 : decode cX10_one 58 = .ok (.iload_n 1, 1) := by decide +kernel
theorem dX10_one_59 : decode cX10_one 59 = .ok (.iload_n 2, 1) := by decide +kernel
theorem dX10_one_6 : decode cX10_one 6 = .ok (.ifCond .eq 22, 3) := by decide +kernel
theorem dX10_one_60 : decode cX10_one 60 = .ok (.iload_n 3, 1) := by decide +kernel
theorem dX10_one_61 : decode cX10_one 61 = .ok (.invokevirtual 95, 3) := by decide +kernel
theorem dX10_one_64 : decode cX10_one 64 = .ok (.aload_n 0, 1) := by decide +kernel
theorem dX10_one_65 : decode cX10_one 65 = .ok (.getfield 10, 3) := by decide +kernel
theorem dX10_one_68 : decode cX10_one 68 = .ok (.getfield 87, 3) := by decide +kernel
theorem dX10_one_71 : decode cX10_one 71 = .ok (.iconst 1, 1) := by decide +kernel
theorem dX10_one_72 : decode cX10_one 72 = .ok (.isub, 1) := by decide +kernel
theorem dX10_one_73 : decode cX10_one 73 = .ok (.ireturn, 1) := by decide +kernel
theorem dX10_one_9 : decode cX10_one 9 = .ok (.iload_n 2, 1) := by decide +kernel
theorem dX10_order_0 : decode cX10_order 0 = .ok (.iload_n 1, 1) := by decide +kernel
theorem dX10_order_1 : decode cX10_order 1 = .ok (.ifCond .ge 10, 3) := by decide +kernel
theorem dX10_order_10 : decode cX10_order 10 = .ok (.ireturn, 1) := by decide +kernel
theorem dX10_order_11 : decode cX10_order 11 = .ok (.iload_n 1, 1) := by decide +kernel
theorem dX10_order_12 : decode cX10_order 12 = .ok (.aload_n 0, 1) := by decide +kernel
theorem dX10_order_13 : decode cX10_order 13 = .ok (.getfield 10, 3) := by decide +kernel
theorem dX10_order_16 : decode cX10_order 16 = .ok (.getfield 87, 3) := by decide +kernel
theorem dX10_order_19 : decode cX10_order 19 = .ok (.if_icmp .lt 10, 3) := by decide +kernel
theorem dX10_order_22 : decode cX10_order 22 = .ok (.aload_n 0, 1) := by decide +kernel
theorem dX10_order_23 : decode cX10_order 23 = .ok (.bipush (-3), 2) := by decide +kernel
theorem dX10_order_25 : decode cX10_order 25 = .ok (.invokevirtual 83, 3) := by decide +kernel
theorem dX10_order_28 : decode cX10_order 28 = .ok (.ireturn, 1) := by decide +kernel
theorem dX10_order_4 : decode cX10_order 4 = .ok (.aload_n 0, 1) := by decide +kernel
theorem dX10_order_5 : decode cX10_order 5 = .ok (.bipush (-2), 2) := by decide +kernel
theorem dX10_order_7 : decode cX10_order 7 = .ok (.invokevirtual 83, 3) := by decide +kernel
theorem dX10_pair_0 : decode cX10_pair 0 = .ok (.aload_n 0, 1) := by decide +kernel
theorem dX10_pair_1 : decode cX10_pair 1 = .ok (.iload_n 1, 1) := by decide +kernel
theorem dX10_pair_14 : decode cX10_pair 14 = .ok (.aload_n 0, 1) := by decide +kernel
theorem dX10_pair_15 : decode cX10_pair 15 = .ok (.bipush (-2), 2) := by decide +kernel
theorem dX10_pair_17 : decode cX10_pair 17 = .ok (.invokevirtual 83, 3) := by decide +kernel
theorem dX10_pair_2 : decode cX10_pair 2 = .ok (.iload_n 2, 1) := by decide +kernel
theorem dX10_pair_20 : decode cX10_pair 20 = .ok (.pop, 1) := by decide +kernel
theorem dX10_pair_21 : decode cX10_pair 21 = .ok (.bipush (-10), 2) := by decide +kernel
theorem dX10_pair_23 : decode cX10_pair 23 = .ok (.ireturn, 1) := by decide +kernel
theorem dX10_pair_3 : decode cX10_pair 3 = .ok (.invokevirtual 172, 3) := by decide +kernel
theorem dX10_pair_6 : decode cX10_pair 6 = .ok (.ifCond .eq 8, 3) := by decide +kernel
theorem dX10_part_0 : decode cX10_part 0 = .ok (.iload_n 1, 1) := by decide +kernel
theorem dX10_part_1 : decode cX10_part 1 = .ok (.iconst 0, 1) := by decide +kernel
theorem dX10_part_10 : decode cX10_part 10 = .ok (.bipush (-2), 2) := by decide +kernel
theorem dX10_part_12 : decode cX10_part 12 = .ok (.invokevirtual 83, 3) := by decide +kernel
theorem dX10_part_15 : decode cX10_part 15 = .ok (.i2l, 1) := by decide +kernel
theorem dX10_part_16 : decode cX10_part 16 = .ok (.lreturn, 1) := by decide +kernel
theorem dX10_part_17 : decode cX10_part 17 = .ok (.iload_n 1, 1) := by decide +kernel
theorem dX10_part_18 : decode cX10_part 18 = .ok (.ifCond .ne 10, 3) := by decide +kernel
theorem dX10_part_2 : decode cX10_part 2 = .ok (.iconst 1, 1) := by decide +kernel
theorem dX10_part_21 : decode cX10_part 21 = .ok (.aload_n 0, 1) := by decide +kernel
theorem dX10_part_22 : decode cX10_part 22 = .ok (.getfield 38, 3) := by decide +kernel
theorem dX10_part_25 : decode cX10_part 25 = .ok (.goto 7, 3) := by decide +kernel
theorem dX10_part_28 : decode cX10_part 28 = .ok (.aload_n 0, 1) := by decide +kernel
theorem dX10_part_29 : decode cX10_part 29 = .ok (.getfield 42, 3) := by decide +kernel
theorem dX10_part_3 : decode cX10_part 3 = .ok (.invokestatic 79, 3) := by decide +kernel
theorem dX10_part_32 : decode cX10_part 32 = .ok (.lreturn, 1) := by decide +kernel
theorem dX10_part_6 : decode cX10_part 6 = .ok (.ifCond .ne 11, 3) := by decide +kernel
theorem dX10_part_9 : decode cX10_part 9 = .ok (.aload_n 0, 1) := by decide +kernel
theorem dX10_race_0 : decode cX10_race 0 = .ok (.iload_n 1, 1) := by decide +kernel
theorem dX10_race_1 : decode cX10_race 1 = .ok (.bipush 10, 2) := by decide +kernel
theorem dX10_race_11 : decode cX10_race 11 = .ok (.aload_n 0, 1) := by decide +kernel
theorem dX10_race_12 : decode cX10_race 12 = .ok (.bipush (-2), 2) := by decide +kernel
theorem dX10_race_14 : decode cX10_race 14 = .ok (.invokevirtual 83, 3) := by decide +kernel
theorem dX10_race_17 : decode cX10_race 17 = .ok (.ireturn, 1) := by decide +kernel
theorem dX10_race_18 : decode cX10_race 18 = .ok (.aload_n 0, 1) := by decide +kernel
theorem dX10_race_19 : decode cX10_race 19 = .ok (.getfield 10, 3) := by decide +kernel
theorem dX10_race_22 : decode cX10_race 22 = .ok (.getfield 87, 3) := by decide +kernel
theorem dX10_race_25 : decode cX10_race 25 = .ok (.istore_n 2, 1) := by decide +kernel
theorem dX10_race_26 : decode cX10_race 26 = .ok (.aload_n 0, 1) := by decide +kernel
theorem dX10_race_27 : decode cX10_race 27 = .ok (.getfield 10, 3) := by decide +kernel
theorem dX10_race_3 : decode cX10_race 3 = .ok (.bipush 60, 2) := by decide +kernel
theorem dX10_race_30 : decode cX10_race 30 = .ok (.iload_n 1, 1) := by decide +kernel
theorem dX10_race_31 : decode cX10_race 31 = .ok (.invokevirtual 91, 3) := by decide +kernel
theorem dX10_race_34 : decode cX10_race 34 = .ok (.iload_n 2, 1) := by decide +kernel
theorem dX10_race_35 : decode cX10_race 35 = .ok (.ireturn, 1) := by decide +kernel
theorem dX10_race_5 : decode cX10_race 5 = .ok (.invokestatic 79, 3) := by decide +kernel
theorem dX10_race_8 : decode cX10_race 8 = .ok (.ifCond .ne 10, 3) := by decide +kernel
theorem dX10_races_0 : decode cX10_races 0 = .ok (.iload_n 1, 1) := by decide +kernel
theorem dX10_races_1 : decode cX10_races 1 = .ok (.iconst 0, 1) := by decide +kernel
theorem dX10_races_10 : decode cX10_races 10 = .ok (.iload_n 2, 1) := by decide +kernel
theorem dX10_races_11 : decode cX10_races 11 = .ok (.iconst 0, 1) := by decide +kernel
theorem dX10_races_111 : decode cX10_races 111 = .ok (.aload_n 0, 1) := by decide +kernel
theorem dX10_races_112 : decode cX10_races 112 = .ok (.getfield 16, 3) := by decide +kernel
theorem dX10_races_115 : decode cX10_races 115 = .ok (.invokevirtual 116, 3) := by decide +kernel
theorem dX10_races_118 : decode cX10_races 118 = .ok (.iinc 5 1, 3) := by decide +kernel
theorem dX10_races_12 : decode cX10_races 12 = .ok (.bipush 60, 2) := by decide +kernel
theorem dX10_races_121 : decode cX10_races 121 = .ok (.goto (-77), 3) := by decide +kernel
theorem dX10_races_124 : decode cX10_races 124 = .ok (.aload_n 0, 1) := by decide +kernel
theorem dX10_races_125 : decode cX10_races 125 = .ok (.getfield 16, 3) := by decide +kernel
theorem dX10_races_128 : decode cX10_races 128 = .ok (.invokevirtual 119, 3) := by decide +kernel
theorem dX10_races_131 : decode cX10_races 131 = .ok (.ireturn, 1) := by decide +kernel
theorem dX10_races_14 : decode cX10_races 14 = .ok (.invokestatic 79, 3) := by decide +kernel
theorem dX10_races_17 : decode cX10_races 17 = .ok (.ifCond .ne 10, 3) := by decide +kernel
theorem dX10_races_2 : decode cX10_races 2 = .ok (.ldc 255, 2) := by decide +kernel
theorem dX10_races_20 : decode cX10_races 20 = .ok (.aload_n 0, 1) := by decide +kernel
theorem dX10_races_21 : decode cX10_races 21 = .ok (.bipush (-2), 2) := by decide +kernel
theorem dX10_races_23 : decode cX10_races 23 = .ok (.invokevirtual 83, 3) := by decide +kernel
theorem dX10_races_26 : decode cX10_races 26 = .ok (.ireturn, 1) := by decide +kernel
theorem dX10_races_27 : decode cX10_races 27 = .ok (.aload_n 0, 1) := by decide +kernel
theorem dX10_races_28 : decode cX10_races 28 = .ok (.getfield 16, 3) := by decide +kernel
theorem dX10_races_31 : decode cX10_races 31 = .ok (.aload_n 0, 1) := by decide +kernel
theorem dX10_races_32 : decode cX10_races 32 = .ok (.getfield 10, 3) := by decide +kernel
theorem dX10_races_35 : decode cX10_races 35 = .ok (.invokevirtual 256, 3) := by decide +kernel
theorem dX10_races_38 : decode cX10_races 38 = .ok (.iload_n 1, 1) := by decide +kernel
theorem dX10_races_39 : decode cX10_races 39 = .ok (.i2l, 1) := by decide +kernel
theorem dX10_races_4 : decode cX10_races 4 = .ok (.invokestatic 79, 3) := by decide +kernel
theorem dX10_races_40 : decode cX10_races 40 = .ok (.lstore_n 3, 1) := by decide +kernel
theorem dX10_races_41 : decode cX10_races 41 = .ok (.iconst 0, 1) := by decide +kernel
theorem dX10_races_42 : decode cX10_races 42 = .ok (.istore 5, 2) := by decide +kernel
theorem dX10_races_44 : decode cX10_races 44 = .ok (.iload 5, 2) := by decide +kernel
theorem dX10_races_46 : decode cX10_races 46 = .ok (.iload_n 2, 1) := by decide +kernel
theorem dX10_races_47 : decode cX10_races 47 = .ok (.if_icmp .ge 77, 3) := by decide +kernel
theorem dX10_races_50 : decode cX10_races 50 = .ok (.lload_n 3, 1) := by decide +kernel
theorem dX10_races_51 : decode cX10_races 51 = .ok (.ldc2_w 260, 3) := by decide +kernel
theorem dX10_races_54 : decode cX10_races 54 = .ok (.lmul, 1) := by decide +kernel
theorem dX10_races_55 : decode cX10_races 55 = .ok (.ldc2_w 262, 3) := by decide +kernel
theorem dX10_races_58 : decode cX10_races 58 = .ok (.ladd, 1) := by decide +kernel
theorem dX10_races_59 : decode cX10_races 59 = .ok (.ldc2_w 264, 3) := by decide +kernel
theorem dX10_races_62 : decode cX10_races 62 = .ok (.lrem, 1) := by decide +kernel
theorem dX10_races_63 : decode cX10_races 63 = .ok (.lstore_n 3, 1) := by decide +kernel
theorem dX10_races_64 : decode cX10_races 64 = .ok (.lload_n 3, 1) := by decide +kernel
theorem dX10_races_65 : decode cX10_races 65 = .ok (.ldc2_w 266, 3) := by decide +kernel
theorem dX10_races_68 : decode cX10_races 68 = .ok (.ldiv, 1) := by decide +kernel
theorem dX10_races_69 : decode cX10_races 69 = .ok (.ldc2_w 268, 3) := by decide +kernel
theorem dX10_races_7 : decode cX10_races 7 = .ok (.ifCond .eq 13, 3) := by decide +kernel
theorem dX10_races_72 : decode cX10_races 72 = .ok (.lrem, 1) := by decide +kernel
theorem dX10_races_73 : decode cX10_races 73 = .ok (.l2i, 1) := by decide +kernel
theorem dX10_races_74 : decode cX10_races 74 = .ok (.istore 6, 2) := by decide +kernel
theorem dX10_races_76 : decode cX10_races 76 = .ok (.iload 6, 2) := by decide +kernel
theorem dX10_races_78 : decode cX10_races 78 = .ok (.aload_n 0, 1) := by decide +kernel
theorem dX10_races_79 : decode cX10_races 79 = .ok (.getfield 16, 3) := by decide +kernel
theorem dX10_races_82 : decode cX10_races 82 = .ok (.getfield 87, 3) := by decide +kernel
theorem dX10_races_85 : decode cX10_races 85 = .ok (.if_icmp .ge 26, 3) := by decide +kernel
theorem dX10_read_0 : decode cX10_read 0 = .ok (.aload_n 0, 1) := by decide +kernel
theorem dX10_read_1 : decode cX10_read 1 = .ok (.getfield 30, 3) := by decide +kernel
theorem dX10_read_11 : decode cX10_read 11 = .ok (.istore_n 1, 1) := by decide +kernel
theorem dX10_read_12 : decode cX10_read 12 = .ok (.iload_n 1, 1) := by decide +kernel
theorem dX10_read_13 : decode cX10_read 13 = .ok (.ifCond .lt 21, 3) := by decide +kernel
theorem dX10_read_34 : decode cX10_read 34 = .ok (.iload_n 1, 1) := by decide +kernel
theorem dX10_read_35 : decode cX10_read 35 = .ok (.ireturn, 1) := by decide +kernel
theorem dX10_read_4 : decode cX10_read 4 = .ok (.aload_n 0, 1) := by decide +kernel
theorem dX10_read_5 : decode cX10_read 5 = .ok (.getfield 16, 3) := by decide +kernel
theorem dX10_read_8 : decode cX10_read 8 = .ok (.invokevirtual 106, 3) := by decide +kernel
theorem dX10_refuse_0 : decode cX10_refuse 0 = .ok (.bipush (-2), 2) := by decide +kernel
theorem dX10_refuse_10 : decode cX10_refuse 10 = .ok (.aload_n 0, 1) := by decide +kernel
theorem dX10_refuse_11 : decode cX10_refuse 11 = .ok (.getfield 34, 3) := by decide +kernel
theorem dX10_refuse_14 : decode cX10_refuse 14 = .ok (.arraylength, 1) := by decide +kernel
theorem dX10_refuse_15 : decode cX10_refuse 15 = .ok (.if_icmp .ge 13, 3) := by decide +kernel
theorem dX10_refuse_18 : decode cX10_refuse 18 = .ok (.aload_n 0, 1) := by decide +kernel
theorem dX10_refuse_19 : decode cX10_refuse 19 = .ok (.getfield 34, 3) := by decide +kernel
theorem dX10_refuse_2 : decode cX10_refuse 2 = .ok (.iload_n 1, 1) := by decide +kernel
theorem dX10_refuse_22 : decode cX10_refuse 22 = .ok (.iload_n 2, 1) := by decide +kernel
theorem dX10_refuse_23 : decode cX10_refuse 23 = .ok (.dup2, 1) := by decide +kernel
theorem dX10_refuse_24 : decode cX10_refuse 24 = .ok (.iaload, 1) := by decide +kernel
theorem dX10_refuse_25 : decode cX10_refuse 25 = .ok (.iconst 1, 1) := by decide +kernel
theorem dX10_refuse_26 : decode cX10_refuse 26 = .ok (.iadd, 1) := by decide +kernel
theorem dX10_refuse_27 : decode cX10_refuse 27 = .ok (.iastore, 1) := by decide +kernel
theorem dX10_refuse_28 : decode cX10_refuse 28 = .ok (.iload_n 1, 1) := by decide +kernel
theorem dX10_refuse_29 : decode cX10_refuse 29 = .ok (.ireturn, 1) := by decide +kernel
theorem dX10_refuse_3 : decode cX10_refuse 3 = .ok (.isub, 1) := by decide +kernel
theorem dX10_refuse_4 : decode cX10_refuse 4 = .ok (.istore_n 2, 1) := by decide +kernel
theorem dX10_refuse_5 : decode cX10_refuse 5 = .ok (.iload_n 2, 1) := by decide +kernel
theorem dX10_refuse_6 : decode cX10_refuse 6 = .ok (.ifCond .lt 22, 3) := by decide +kernel
theorem dX10_refuse_9 : decode cX10_refuse 9 = .ok (.iload_n 2, 1) := by decide +kernel
theorem dX10_seen_0 : decode cX10_seen 0 = .ok (.aload_n 0, 1) := by decide +kernel
theorem dX10_seen_1 : decode cX10_seen 1 = .ok (.iload_n 1, 1) := by decide +kernel
theorem dX10_seen_2 : decode cX10_seen 2 = .ok (.invokevirtual 123, 3) := by decide +kernel
theorem dX10_seen_39 : decode cX10_seen 39 = .ok (.aload_n 0, 1) := by decide +kernel
theorem dX10_seen_40 : decode cX10_seen 40 = .ok (.bipush (-2), 2) := by decide +kernel
theorem dX10_seen_42 : decode cX10_seen 42 = .ok (.invokevirtual 83, 3) := by decide +kernel
theorem dX10_seen_45 : decode cX10_seen 45 = .ok (.ireturn, 1) := by decide +kernel
theorem dX10_seen_5 : decode cX10_seen 5 = .ok (.ifCond .eq 34, 3) := by decide +kernel
theorem dX10_speed_0 : decode cX10_speed 0 = .ok (.aload_n 0, 1) := by decide +kernel
theorem dX10_speed_1 : decode cX10_speed 1 = .ok (.iload_n 1, 1) := by decide +kernel
theorem dX10_speed_18 : decode cX10_speed 18 = .ok (.aload_n 0, 1) := by decide +kernel
theorem dX10_speed_19 : decode cX10_speed 19 = .ok (.bipush (-2), 2) := by decide +kernel
theorem dX10_speed_2 : decode cX10_speed 2 = .ok (.invokevirtual 123, 3) := by decide +kernel
theorem dX10_speed_21 : decode cX10_speed 21 = .ok (.invokevirtual 83, 3) := by decide +kernel
theorem dX10_speed_24 : decode cX10_speed 24 = .ok (.ireturn, 1) := by decide +kernel
theorem dX10_speed_5 : decode cX10_speed 5 = .ok (.ifCond .eq 13, 3) := by decide +kernel
theorem dX10_start_0 : decode cX10_start 0 = .ok (.aload_n 0, 1) := by decide +kernel
theorem dX10_start_1 : decode cX10_start 1 = .ok (.iload_n 1, 1) := by decide +kernel
theorem dX10_start_18 : decode cX10_start 18 = .ok (.aload_n 0, 1) := by decide +kernel
theorem dX10_start_19 : decode cX10_start 19 = .ok (.bipush (-2), 2) := by decide +kernel
theorem dX10_start_2 : decode cX10_start 2 = .ok (.invokevirtual 123, 3) := by decide +kernel
theorem dX10_start_21 : decode cX10_start 21 = .ok (.invokevirtual 83, 3) := by decide +kernel
theorem dX10_start_24 : decode cX10_start 24 = .ok (.ireturn, 1) := by decide +kernel
theorem dX10_start_5 : decode cX10_start 5 = .ok (.ifCond .eq 13, 3) := by decide +kernel
theorem dX10_status_0 : decode cX10_status 0 = .ok (.iload_n 1, 1) := by decide +kernel
theorem dX10_status_1 : decode cX10_status 1 = .ok (.iconst 0, 1) := by decide +kernel
theorem dX10_status_10 : decode cX10_status 10 = .ok (.bipush (-2), 2) := by decide +kernel
theorem dX10_status_12 : decode cX10_status 12 = .ok (.invokevirtual 83, 3) := by decide +kernel
theorem dX10_status_15 : decode cX10_status 15 = .ok (.pop, 1) := by decide +kernel
theorem dX10_status_16 : decode cX10_status 16 = .ok (.iconst (-1), 1) := by decide +kernel
theorem dX10_status_17 : decode cX10_status 17 = .ok (.ireturn, 1) := by decide +kernel
theorem dX10_status_18 : decode cX10_status 18 = .ok (.aload_n 0, 1) := by decide +kernel
theorem dX10_status_19 : decode cX10_status 19 = .ok (.getfield 34, 3) := by decide +kernel
theorem dX10_status_2 : decode cX10_status 2 = .ok (.iconst 2, 1) := by decide +kernel
theorem dX10_status_22 : decode cX10_status 22 = .ok (.iload_n 1, 1) := by decide +kernel
theorem dX10_status_23 : decode cX10_status 23 = .ok (.iaload, 1) := by decide +kernel
theorem dX10_status_24 : decode cX10_status 24 = .ok (.ireturn, 1) := by decide +kernel
theorem dX10_status_3 : decode cX10_status 3 = .ok (.invokestatic 79, 3) := by decide +kernel
theorem dX10_status_6 : decode cX10_status 6 = .ok (.ifCond .ne 12, 3) := by decide +kernel
theorem dX10_status_9 : decode cX10_status 9 = .ok (.aload_n 0, 1) := by decide +kernel
theorem dX10_strong_0 : decode cX10_strong 0 = .ok (.aload_n 0, 1) := by decide +kernel
theorem dX10_strong_1 : decode cX10_strong 1 = .ok (.iload_n 1, 1) := by decide +kernel
theorem dX10_strong_17 : decode cX10_strong 17 = .ok (.aload_n 0, 1) := by decide +kernel
theorem dX10_strong_18 : decode cX10_strong 18 = .ok (.bipush (-2), 2) := by decide +kernel
theorem dX10_strong_2 : decode cX10_strong 2 = .ok (.invokevirtual 123, 3) := by decide +kernel
theorem dX10_strong_20 : decode cX10_strong 20 = .ok (.invokevirtual 83, 3) := by decide +kernel
theorem dX10_strong_23 : decode cX10_strong 23 = .ok (.ireturn, 1) := by decide +kernel
theorem dX10_strong_5 : decode cX10_strong 5 = .ok (.ifCond .eq 12, 3) := by decide +kernel
theorem dX10_stumble_0 : decode cX10_stumble 0 = .ok (.aload_n 0, 1) := by decide +kernel
theorem dX10_stumble_1 : decode cX10_stumble 1 = .ok (.iload_n 1, 1) := by decide +kernel
theorem dX10_stumble_2 : decode cX10_stumble 2 = .ok (.invokevirtual 123, 3) := by decide +kernel
theorem dX10_stumble_39 : decode cX10_stumble 39 = .ok (.aload_n 0, 1) := by decide +kernel
theorem dX10_stumble_40 : decode cX10_stumble 40 = .ok (.bipush (-2), 2) := by decide +kernel
theorem dX10_stumble_42 : decode cX10_stumble 42 = .ok (.invokevirtual 83, 3) := by decide +kernel
theorem dX10_stumble_45 : decode cX10_stumble 45 = .ok (.ireturn, 1) := by decide +kernel
theorem dX10_stumble_5 : decode cX10_stumble 5 = .ok (.ifCond .eq 34, 3) := by decide +kernel
theorem dX10_tell_0 : decode cX10_tell 0 = .ok (.aload_n 0, 1) := by decide +kernel
theorem dX10_tell_1 : decode cX10_tell 1 = .ok (.iload_n 1, 1) := by decide +kernel
theorem dX10_tell_11 : decode cX10_tell 11 = .ok (.invokevirtual 83, 3) := by decide +kernel
theorem dX10_tell_14 : decode cX10_tell 14 = .ok (.ireturn, 1) := by decide +kernel
theorem dX10_tell_2 : decode cX10_tell 2 = .ok (.invokevirtual 123, 3) := by decide +kernel
theorem dX10_tell_5 : decode cX10_tell 5 = .ok (.ifCond .ne 10, 3) := by decide +kernel
theorem dX10_tell_8 : decode cX10_tell 8 = .ok (.aload_n 0, 1) := by decide +kernel
theorem dX10_tell_9 : decode cX10_tell 9 = .ok (.bipush (-2), 2) := by decide +kernel
theorem dX10_there_0 : decode cX10_there 0 = .ok (.iload_n 1, 1) := by decide +kernel
theorem dX10_there_1 : decode cX10_there 1 = .ok (.ifCond .lt 18, 3) := by decide +kernel
theorem dX10_there_12 : decode cX10_there 12 = .ok (.if_icmp .ge 7, 3) := by decide +kernel
theorem dX10_there_19 : decode cX10_there 19 = .ok (.iconst 0, 1) := by decide +kernel
theorem dX10_there_20 : decode cX10_there 20 = .ok (.ireturn, 1) := by decide +kernel
theorem dX10_there_4 : decode cX10_there 4 = .ok (.iload_n 1, 1) := by decide +kernel
theorem dX10_there_5 : decode cX10_there 5 = .ok (.aload_n 0, 1) := by decide +kernel
theorem dX10_there_6 : decode cX10_there 6 = .ok (.getfield 10, 3) := by decide +kernel
theorem dX10_there_9 : decode cX10_there 9 = .ok (.getfield 87, 3) := by decide +kernel
theorem dX10_ticks_0 : decode cX10_ticks 0 = .ok (.iload_n 1, 1) := by decide +kernel
theorem dX10_ticks_1 : decode cX10_ticks 1 = .ok (.iconst 1, 1) := by decide +kernel
theorem dX10_ticks_10 : decode cX10_ticks 10 = .ok (.aload_n 0, 1) := by decide +kernel
theorem dX10_ticks_11 : decode cX10_ticks 11 = .ok (.bipush (-2), 2) := by decide +kernel
theorem dX10_ticks_13 : decode cX10_ticks 13 = .ok (.invokevirtual 83, 3) := by decide +kernel
theorem dX10_ticks_16 : decode cX10_ticks 16 = .ok (.ireturn, 1) := by decide +kernel
theorem dX10_ticks_17 : decode cX10_ticks 17 = .ok (.aload_n 0, 1) := by decide +kernel
theorem dX10_ticks_18 : decode cX10_ticks 18 = .ok (.getfield 10, 3) := by decide +kernel
theorem dX10_ticks_2 : decode cX10_ticks 2 = .ok (.bipush 60, 2) := by decide +kernel
theorem dX10_ticks_21 : decode cX10_ticks 21 = .ok (.getfield 110, 3) := by decide +kernel
theorem dX10_ticks_24 : decode cX10_ticks 24 = .ok (.sipush 9999, 3) := by decide +kernel
theorem dX10_ticks_27 : decode cX10_ticks 27 = .ok (.if_icmp .ge 10, 3) := by decide +kernel
theorem dX10_ticks_30 : decode cX10_ticks 30 = .ok (.aload_n 0, 1) := by decide +kernel
theorem dX10_ticks_31 : decode cX10_ticks 31 = .ok (.getfield 10, 3) := by decide +kernel
theorem dX10_ticks_34 : decode cX10_ticks 34 = .ok (.invokevirtual 113, 3) := by decide +kernel
theorem dX10_ticks_37 : decode cX10_ticks 37 = .ok (.iconst 0, 1) := by decide +kernel
theorem dX10_ticks_38 : decode cX10_ticks 38 = .ok (.istore_n 2, 1) := by decide +kernel
theorem dX10_ticks_39 : decode cX10_ticks 39 = .ok (.iload_n 2, 1) := by decide +kernel
theorem dX10_ticks_4 : decode cX10_ticks 4 = .ok (.invokestatic 79, 3) := by decide +kernel
theorem dX10_ticks_40 : decode cX10_ticks 40 = .ok (.iload_n 1, 1) := by decide +kernel
theorem dX10_ticks_41 : decode cX10_ticks 41 = .ok (.if_icmp .ge 29, 3) := by decide +kernel
theorem dX10_ticks_44 : decode cX10_ticks 44 = .ok (.aload_n 0, 1) := by decide +kernel
theorem dX10_ticks_45 : decode cX10_ticks 45 = .ok (.getfield 10, 3) := by decide +kernel
theorem dX10_ticks_48 : decode cX10_ticks 48 = .ok (.getfield 110, 3) := by decide +kernel
theorem dX10_ticks_51 : decode cX10_ticks 51 = .ok (.sipush 9999, 3) := by decide +kernel
theorem dX10_ticks_54 : decode cX10_ticks 54 = .ok (.if_icmp .ge 16, 3) := by decide +kernel
theorem dX10_ticks_57 : decode cX10_ticks 57 = .ok (.aload_n 0, 1) := by decide +kernel
theorem dX10_ticks_58 : decode cX10_ticks 58 = .ok (.getfield 10, 3) := by decide +kernel
theorem dX10_ticks_61 : decode cX10_ticks 61 = .ok (.invokevirtual 116, 3) := by decide +kernel
theorem dX10_ticks_64 : decode cX10_ticks 64 = .ok (.iinc 2 1, 3) := by decide +kernel
theorem dX10_ticks_67 : decode cX10_ticks 67 = .ok (.goto (-28), 3) := by decide +kernel
theorem dX10_ticks_7 : decode cX10_ticks 7 = .ok (.ifCond .ne 10, 3) := by decide +kernel
theorem dX10_ticks_70 : decode cX10_ticks 70 = .ok (.aload_n 0, 1) := by decide +kernel
theorem dX10_ticks_71 : decode cX10_ticks 71 = .ok (.getfield 10, 3) := by decide +kernel
theorem dX10_ticks_74 : decode cX10_ticks 74 = .ok (.invokevirtual 119, 3) := by decide +kernel
theorem dX10_ticks_77 : decode cX10_ticks 77 = .ok (.ireturn, 1) := by decide +kernel
theorem dX10_turn_0 : decode cX10_turn 0 = .ok (.aload_n 0, 1) := by decide +kernel
theorem dX10_turn_1 : decode cX10_turn 1 = .ok (.iload_n 1, 1) := by decide +kernel
theorem dX10_turn_2 : decode cX10_turn 2 = .ok (.invokevirtual 123, 3) := by decide +kernel
theorem dX10_turn_27 : decode cX10_turn 27 = .ok (.aload_n 0, 1) := by decide +kernel
theorem dX10_turn_28 : decode cX10_turn 28 = .ok (.bipush (-2), 2) := by decide +kernel
theorem dX10_turn_30 : decode cX10_turn 30 = .ok (.invokevirtual 83, 3) := by decide +kernel
theorem dX10_turn_33 : decode cX10_turn 33 = .ok (.ireturn, 1) := by decide +kernel
theorem dX10_turn_5 : decode cX10_turn 5 = .ok (.ifCond .eq 22, 3) := by decide +kernel
theorem dX10_type_0 : decode cX10_type 0 = .ok (.iload_n 1, 1) := by decide +kernel
theorem dX10_type_1 : decode cX10_type 1 = .ok (.iconst 0, 1) := by decide +kernel
theorem dX10_type_10 : decode cX10_type 10 = .ok (.aload_n 0, 1) := by decide +kernel
theorem dX10_type_11 : decode cX10_type 11 = .ok (.bipush (-2), 2) := by decide +kernel
theorem dX10_type_13 : decode cX10_type 13 = .ok (.invokevirtual 83, 3) := by decide +kernel
theorem dX10_type_16 : decode cX10_type 16 = .ok (.ireturn, 1) := by decide +kernel
theorem dX10_type_17 : decode cX10_type 17 = .ok (.aload_n 0, 1) := by decide +kernel
theorem dX10_type_18 : decode cX10_type 18 = .ok (.getfield 30, 3) := by decide +kernel
theorem dX10_type_2 : decode cX10_type 2 = .ok (.bipush 127, 2) := by decide +kernel
theorem dX10_type_21 : decode cX10_type 21 = .ok (.iload_n 1, 1) := by decide +kernel
theorem dX10_type_22 : decode cX10_type 22 = .ok (.invokevirtual 99, 3) := by decide +kernel
theorem dX10_type_25 : decode cX10_type 25 = .ok (.ifCond .eq 13, 3) := by decide +kernel
theorem dX10_type_28 : decode cX10_type 28 = .ok (.aload_n 0, 1) := by decide +kernel
theorem dX10_type_29 : decode cX10_type 29 = .ok (.getfield 30, 3) := by decide +kernel
theorem dX10_type_32 : decode cX10_type 32 = .ok (.getfield 103, 3) := by decide +kernel
theorem dX10_type_35 : decode cX10_type 35 = .ok (.goto 9, 3) := by decide +kernel
theorem dX10_type_4 : decode cX10_type 4 = .ok (.invokestatic 79, 3) := by decide +kernel
theorem dX10_type_44 : decode cX10_type 44 = .ok (.ireturn, 1) := by decide +kernel
theorem dX10_type_7 : decode cX10_type 7 = .ok (.ifCond .ne 10, 3) := by decide +kernel
theorem dX10_undo_0 : decode cX10_undo 0 = .ok (.aload_n 0, 1) := by decide +kernel
theorem dX10_undo_1 : decode cX10_undo 1 = .ok (.getfield 10, 3) := by decide +kernel
theorem dX10_undo_20 : decode cX10_undo 20 = .ok (.aload_n 0, 1) := by decide +kernel
theorem dX10_undo_21 : decode cX10_undo 21 = .ok (.bipush (-3), 2) := by decide +kernel
theorem dX10_undo_23 : decode cX10_undo 23 = .ok (.invokevirtual 83, 3) := by decide +kernel
theorem dX10_undo_26 : decode cX10_undo 26 = .ok (.ireturn, 1) := by decide +kernel
theorem dX10_undo_4 : decode cX10_undo 4 = .ok (.invokevirtual 141, 3) := by decide +kernel
theorem dX10_undo_7 : decode cX10_undo 7 = .ok (.ifCond .eq 13, 3) := by decide +kernel
theorem dX10_where_0 : decode cX10_where 0 = .ok (.aload_n 0, 1) := by decide +kernel
theorem dX10_where_1 : decode cX10_where 1 = .ok (.iload_n 1, 1) := by decide +kernel
theorem dX10_where_18 : decode cX10_where 18 = .ok (.aload_n 0, 1) := by decide +kernel
theorem dX10_where_19 : decode cX10_where 19 = .ok (.bipush (-2), 2) := by decide +kernel
theorem dX10_where_2 : decode cX10_where 2 = .ok (.invokevirtual 123, 3) := by decide +kernel
theorem dX10_where_21 : decode cX10_where 21 = .ok (.invokevirtual 83, 3) := by decide +kernel
theorem dX10_where_24 : decode cX10_where 24 = .ok (.ireturn, 1) := by decide +kernel
theorem dX10_where_5 : decode cX10_where 5 = .ok (.ifCond .eq 13, 3) := by decide +kernel
theorem dX10_within_0 : decode cX10_within 0 = .ok (.iload_n 0, 1) := by decide +kernel
theorem dX10_within_1 : decode cX10_within 1 = .ok (.iload_n 1, 1) := by decide +kernel
theorem dX10_within_10 : decode cX10_within 10 = .ok (.iconst 1, 1) := by decide +kernel
theorem dX10_within_11 : decode cX10_within 11 = .ok (.goto 4, 3) := by decide +kernel
theorem dX10_within_14 : decode cX10_within 14 = .ok (.iconst 0, 1) := by decide +kernel
theorem dX10_within_15 : decode cX10_within 15 = .ok (.ireturn, 1) := by decide +kernel
theorem dX10_within_2 : decode cX10_within 2 = .ok (.if_icmp .lt 12, 3) := by decide +kernel
theorem dX10_within_5 : decode cX10_within 5 = .ok (.iload_n 0, 1) := by decide +kernel
theorem dX10_within_6 : decode cX10_within 6 = .ok (.iload_n 2, 1) := by decide +kernel
theorem dX10_within_7 : decode cX10_within 7 = .ok (.if_icmp .gt 7, 3) := by decide +kernel
theorem dX11_ask_0 : decode cX11_ask 0 = .ok (.aload_n 0, 1) := by decide +kernel
theorem dX11_ask_1 : decode cX11_ask 1 = .ok (.iload_n 1, 1) := by decide +kernel
theorem dX11_ask_11 : decode cX11_ask 11 = .ok (.invokevirtual 68, 3) := by decide +kernel
theorem dX11_ask_14 : decode cX11_ask 14 = .ok (.ireturn, 1) := by decide +kernel
theorem dX11_ask_2 : decode cX11_ask 2 = .ok (.invokevirtual 123, 3) := by decide +kernel
theorem dX11_ask_5 : decode cX11_ask 5 = .ok (.ifCond .ne 10, 3) := by decide +kernel
theorem dX11_ask_8 : decode cX11_ask 8 = .ok (.aload_n 0, 1) := by decide +kernel
theorem dX11_ask_9 : decode cX11_ask 9 = .ok (.bipush (-2), 2) := by decide +kernel
theorem dX11_bad_0 : decode cX11_bad 0 = .ok (.aload_n 0, 1) := by decide +kernel
theorem dX11_bad_1 : decode cX11_bad 1 = .ok (.getfield 20, 3) := by decide +kernel
theorem dX11_bad_10 : decode cX11_bad 10 = .ok (.iload_n 1, 1) := by decide +kernel
theorem dX11_bad_11 : decode cX11_bad 11 = .ok (.ireturn, 1) := by decide +kernel
theorem dX11_bad_4 : decode cX11_bad 4 = .ok (.iconst 0, 1) := by decide +kernel
theorem dX11_bad_5 : decode cX11_bad 5 = .ok (.dup2, 1) := by decide +kernel
theorem dX11_bad_6 : decode cX11_bad 6 = .ok (.iaload, 1) := by decide +kernel
theorem dX11_bad_7 : decode cX11_bad 7 = .ok (.iconst 1, 1) := by decide +kernel
theorem dX11_bad_8 : decode cX11_bad 8 = .ok (.iadd, 1) := by decide +kernel
theorem dX11_bad_9 : decode cX11_bad 9 = .ok (.iastore, 1) := by decide +kernel
theorem dX11_beats_0 : decode cX11_beats 0 = .ok (.aload_n 0, 1) := by decide +kernel
theorem dX11_beats_1 : decode cX11_beats 1 = .ok (.iload_n 1, 1) := by decide +kernel
theorem dX11_beats_2 : decode cX11_beats 2 = .ok (.invokevirtual 123, 3) := by decide +kernel
theorem dX11_beats_21 : decode cX11_beats 21 = .ok (.aload_n 0, 1) := by decide +kernel
theorem dX11_beats_22 : decode cX11_beats 22 = .ok (.bipush (-2), 2) := by decide +kernel
theorem dX11_beats_24 : decode cX11_beats 24 = .ok (.invokevirtual 68, 3) := by decide +kernel
theorem dX11_beats_27 : decode cX11_beats 27 = .ok (.ireturn, 1) := by decide +kernel
theorem dX11_beats_5 : decode cX11_beats 5 = .ok (.ifCond .eq 16, 3) := by decide +kernel
theorem dX11_begin_0 : decode cX11_begin 0 = .ok (.iconst 0, 1) := by decide +kernel
theorem dX11_begin_1 : decode cX11_begin 1 = .ok (.istore_n 2, 1) := by decide +kernel
theorem dX11_begin_10 : decode cX11_begin 10 = .ok (.iconst 0, 1) := by decide +kernel
theorem dX11_begin_11 : decode cX11_begin 11 = .ok (.iastore, 1) := by decide +kernel
theorem dX11_begin_12 : decode cX11_begin 12 = .ok (.iinc 2 1, 3) := by decide +kernel
theorem dX11_begin_15 : decode cX11_begin 15 = .ok (.goto (-13), 3) := by decide +kernel
theorem dX11_begin_18 : decode cX11_begin 18 = .ok (.aload_n 0, 1) := by decide +kernel
theorem dX11_begin_19 : decode cX11_begin 19 = .ok (.bipush 36, 2) := by decide +kernel
theorem dX11_begin_2 : decode cX11_begin 2 = .ok (.iload_n 2, 1) := by decide +kernel
theorem dX11_begin_21 : decode cX11_begin 21 = .ok (.iload_n 1, 1) := by decide +kernel
theorem dX11_begin_22 : decode cX11_begin 22 = .ok (.iastore, 1) := by decide +kernel
theorem dX11_begin_23 : decode cX11_begin 23 = .ok (.return_, 1) := by decide +kernel
theorem dX11_begin_3 : decode cX11_begin 3 = .ok (.bipush 123, 2) := by decide +kernel
theorem dX11_begin_5 : decode cX11_begin 5 = .ok (.if_icmp .ge 13, 3) := by decide +kernel
theorem dX11_begin_8 : decode cX11_begin 8 = .ok (.aload_n 0, 1) := by decide +kernel
theorem dX11_begin_9 : decode cX11_begin 9 = .ok (.iload_n 2, 1) := by decide +kernel
theorem dX11_best_0 : decode cX11_best 0 = .ok (.aload_n 0, 1) := by decide +kernel
theorem dX11_best_1 : decode cX11_best 1 = .ok (.iload_n 1, 1) := by decide +kernel
theorem dX11_best_18 : decode cX11_best 18 = .ok (.aload_n 0, 1) := by decide +kernel
theorem dX11_best_19 : decode cX11_best 19 = .ok (.bipush (-2), 2) := by decide +kernel
theorem dX11_best_2 : decode cX11_best 2 = .ok (.invokevirtual 123, 3) := by decide +kernel
theorem dX11_best_21 : decode cX11_best 21 = .ok (.invokevirtual 68, 3) := by decide +kernel
theorem dX11_best_24 : decode cX11_best 24 = .ok (.ireturn, 1) := by decide +kernel
theorem dX11_best_5 : decode cX11_best 5 = .ok (.ifCond .eq 13, 3) := by decide +kernel
theorem dX11_clear_0 : decode cX11_clear 0 = .ok (.aload_n 0, 1) := by decide +kernel
theorem dX11_clear_1 : decode cX11_clear 1 = .ok (.getfield 205, 3) := by decide +kernel
theorem dX11_clear_10 : decode cX11_clear 10 = .ok (.iload_n 1, 1) := by decide +kernel
theorem dX11_clear_11 : decode cX11_clear 11 = .ok (.ireturn, 1) := by decide +kernel
theorem dX11_clear_4 : decode cX11_clear 4 = .ok (.istore_n 1, 1) := by decide +kernel
theorem dX11_clear_5 : decode cX11_clear 5 = .ok (.aload_n 0, 1) := by decide +kernel
theorem dX11_clear_6 : decode cX11_clear 6 = .ok (.iconst 0, 1) := by decide +kernel
theorem dX11_clear_7 : decode cX11_clear 7 = .ok (.putfield 205, 3) := by decide +kernel
theorem dX11_close_0 : decode cX11_close 0 = .ok (.aload_n 0, 1) := by decide +kernel
theorem dX11_close_1 : decode cX11_close 1 = .ok (.iload_n 1, 1) := by decide +kernel
theorem dX11_close_2 : decode cX11_close 2 = .ok (.invokevirtual 123, 3) := by decide +kernel
theorem dX11_close_31 : decode cX11_close 31 = .ok (.aload_n 0, 1) := by decide +kernel
theorem dX11_close_32 : decode cX11_close 32 = .ok (.bipush (-2), 2) := by decide +kernel
theorem dX11_close_34 : decode cX11_close 34 = .ok (.invokevirtual 68, 3) := by decide +kernel
theorem dX11_close_37 : decode cX11_close 37 = .ok (.ireturn, 1) := by decide +kernel
theorem dX11_close_5 : decode cX11_close 5 = .ok (.ifCond .eq 26, 3) := by decide +kernel
theorem dX11_count_0 : decode cX11_count 0 = .ok (.iload_n 1, 1) := by decide +kernel
theorem dX11_count_1 : decode cX11_count 1 = .ok (.i2l, 1) := by decide +kernel
theorem dX11_count_12 : decode cX11_count 12 = .ok (.aload_n 0, 1) := by decide +kernel
theorem dX11_count_13 : decode cX11_count 13 = .ok (.iload_n 1, 1) := by decide +kernel
theorem dX11_count_14 : decode cX11_count 14 = .ok (.invokevirtual 268, 3) := by decide +kernel
theorem dX11_count_17 : decode cX11_count 17 = .ok (.goto 9, 3) := by decide +kernel
theorem dX11_count_2 : decode cX11_count 2 = .ok (.lconst 0, 1) := by decide +kernel
theorem dX11_count_20 : decode cX11_count 20 = .ok (.aload_n 0, 1) := by decide +kernel
theorem dX11_count_21 : decode cX11_count 21 = .ok (.bipush (-2), 2) := by decide +kernel
theorem dX11_count_23 : decode cX11_count 23 = .ok (.invokevirtual 68, 3) := by decide +kernel
theorem dX11_count_26 : decode cX11_count 26 = .ok (.ireturn, 1) := by decide +kernel
theorem dX11_count_3 : decode cX11_count 3 = .ok (.ldc2_w 64, 3) := by decide +kernel
theorem dX11_count_6 : decode cX11_count 6 = .ok (.invokestatic 56, 3) := by decide +kernel
theorem dX11_count_9 : decode cX11_count 9 = .ok (.ifCond .eq 11, 3) := by decide +kernel
theorem dX11_counted_0 : decode cX11_counted 0 = .ok (.iload_n 1, 1) := by decide +kernel
theorem dX11_counted_1 : decode cX11_counted 1 = .ok (.tableswitch 106 0 10 #[59, 64, 72, 80, 88, 94, 106, 106, 106, 106, 101], 59) := by decide +kernel
theorem dX11_counted_101 : decode cX11_counted 101 = .ok (.ireturn, 1) := by decide +kernel
theorem dX11_counted_102 : decode cX11_counted 102 = .ok (.aload_n 0, 1) := by decide +kernel
theorem dX11_counted_103 : decode cX11_counted 103 = .ok (.getfield 205, 3) := by decide +kernel
theorem dX11_counted_106 : decode cX11_counted 106 = .ok (.ireturn, 1) := by decide +kernel
theorem dX11_counted_107 : decode cX11_counted 107 = .ok (.aload_n 0, 1) := by decide +kernel
theorem dX11_counted_108 : decode cX11_counted 108 = .ok (.getfield 7, 3) := by decide +kernel
theorem dX11_counted_111 : decode cX11_counted 111 = .ok (.iconst 1, 1) := by decide +kernel
theorem dX11_counted_112 : decode cX11_counted 112 = .ok (.iload_n 1, 1) := by decide +kernel
theorem dX11_counted_113 : decode cX11_counted 113 = .ok (.iadd, 1) := by decide +kernel
theorem dX11_counted_114 : decode cX11_counted 114 = .ok (.bipush 6, 2) := by decide +kernel
theorem dX11_counted_116 : decode cX11_counted 116 = .ok (.isub, 1) := by decide +kernel
theorem dX11_counted_117 : decode cX11_counted 117 = .ok (.iaload, 1) := by decide +kernel
theorem dX11_counted_118 : decode cX11_counted 118 = .ok (.ireturn, 1) := by decide +kernel
theorem dX11_counted_60 : decode cX11_counted 60 = .ok (.aload_n 0, 1) := by decide +kernel
theorem dX11_counted_61 : decode cX11_counted 61 = .ok (.invokevirtual 52, 3) := by decide +kernel
theorem dX11_counted_64 : decode cX11_counted 64 = .ok (.ireturn, 1) := by decide +kernel
theorem dX11_counted_65 : decode cX11_counted 65 = .ok (.aload_n 0, 1) := by decide +kernel
theorem dX11_counted_66 : decode cX11_counted 66 = .ok (.getfield 7, 3) := by decide +kernel
theorem dX11_counted_69 : decode cX11_counted 69 = .ok (.invokestatic 119, 3) := by decide +kernel
theorem dX11_counted_72 : decode cX11_counted 72 = .ok (.ireturn, 1) := by decide +kernel
theorem dX11_counted_73 : decode cX11_counted 73 = .ok (.aload_n 0, 1) := by decide +kernel
theorem dX11_counted_74 : decode cX11_counted 74 = .ok (.getfield 7, 3) := by decide +kernel
theorem dX11_counted_77 : decode cX11_counted 77 = .ok (.bipush 36, 2) := by decide +kernel
theorem dX11_counted_79 : decode cX11_counted 79 = .ok (.iaload, 1) := by decide +kernel
theorem dX11_counted_80 : decode cX11_counted 80 = .ok (.ireturn, 1) := by decide +kernel
theorem dX11_counted_81 : decode cX11_counted 81 = .ok (.aload_n 0, 1) := by decide +kernel
theorem dX11_counted_82 : decode cX11_counted 82 = .ok (.getfield 7, 3) := by decide +kernel
theorem dX11_counted_85 : decode cX11_counted 85 = .ok (.bipush 35, 2) := by decide +kernel
theorem dX11_counted_87 : decode cX11_counted 87 = .ok (.iaload, 1) := by decide +kernel
theorem dX11_counted_88 : decode cX11_counted 88 = .ok (.ireturn, 1) := by decide +kernel
theorem dX11_counted_89 : decode cX11_counted 89 = .ok (.aload_n 0, 1) := by decide +kernel
theorem dX11_counted_90 : decode cX11_counted 90 = .ok (.iconst 5, 1) := by decide +kernel
theorem dX11_counted_91 : decode cX11_counted 91 = .ok (.invokevirtual 265, 3) := by decide +kernel
theorem dX11_counted_94 : decode cX11_counted 94 = .ok (.ireturn, 1) := by decide +kernel
theorem dX11_counted_95 : decode cX11_counted 95 = .ok (.aload_n 0, 1) := by decide +kernel
theorem dX11_counted_96 : decode cX11_counted 96 = .ok (.bipush 17, 2) := by decide +kernel
theorem dX11_counted_98 : decode cX11_counted 98 = .ok (.invokevirtual 265, 3) := by decide +kernel
theorem dX11_digest_0 : decode cX11_digest 0 = .ok (.ldc2_w 273, 3) := by decide +kernel
theorem dX11_digest_100 : decode cX11_digest 100 = .ok (.getfield 7, 3) := by decide +kernel
theorem dX11_digest_103 : decode cX11_digest 103 = .ok (.iconst 2, 1) := by decide +kernel
theorem dX11_digest_104 : decode cX11_digest 104 = .ok (.iaload, 1) := by decide +kernel
theorem dX11_digest_105 : decode cX11_digest 105 = .ok (.imul, 1) := by decide +kernel
theorem dX11_digest_106 : decode cX11_digest 106 = .ok (.invokevirtual 275, 3) := by decide +kernel
theorem dX11_digest_109 : decode cX11_digest 109 = .ok (.lstore_n 1, 1) := by decide +kernel
theorem dX11_digest_110 : decode cX11_digest 110 = .ok (.aload_n 0, 1) := by decide +kernel
theorem dX11_digest_111 : decode cX11_digest 111 = .ok (.lload_n 1, 1) := by decide +kernel
theorem dX11_digest_112 : decode cX11_digest 112 = .ok (.bipush 105, 2) := by decide +kernel
theorem dX11_digest_114 : decode cX11_digest 114 = .ok (.iconst 3, 1) := by decide +kernel
theorem dX11_digest_115 : decode cX11_digest 115 = .ok (.aload_n 0, 1) := by decide +kernel
theorem dX11_digest_116 : decode cX11_digest 116 = .ok (.getfield 7, 3) := by decide +kernel
theorem dX11_digest_119 : decode cX11_digest 119 = .ok (.iconst 3, 1) := by decide +kernel
theorem dX11_digest_12 : decode cX11_digest 12 = .ok (.ldc2_w 271, 3) := by decide +kernel
theorem dX11_digest_120 : decode cX11_digest 120 = .ok (.iaload, 1) := by decide +kernel
theorem dX11_digest_121 : decode cX11_digest 121 = .ok (.imul, 1) := by decide +kernel
theorem dX11_digest_122 : decode cX11_digest 122 = .ok (.invokevirtual 275, 3) := by decide +kernel
theorem dX11_digest_125 : decode cX11_digest 125 = .ok (.lstore_n 1, 1) := by decide +kernel
theorem dX11_digest_126 : decode cX11_digest 126 = .ok (.ldc2_w 271, 3) := by decide +kernel
theorem dX11_digest_129 : decode cX11_digest 129 = .ok (.ldc2_w 271, 3) := by decide +kernel
theorem dX11_digest_132 : decode cX11_digest 132 = .ok (.lload_n 1, 1) := by decide +kernel
theorem dX11_digest_133 : decode cX11_digest 133 = .ok (.lmul, 1) := by decide +kernel
theorem dX11_digest_134 : decode cX11_digest 134 = .ok (.aload_n 0, 1) := by decide +kernel
theorem dX11_digest_135 : decode cX11_digest 135 = .ok (.getfield 182, 3) := by decide +kernel
theorem dX11_digest_138 : decode cX11_digest 138 = .ok (.ladd, 1) := by decide +kernel
theorem dX11_digest_139 : decode cX11_digest 139 = .ok (.lmul, 1) := by decide +kernel
theorem dX11_digest_140 : decode cX11_digest 140 = .ok (.aload_n 0, 1) := by decide +kernel
theorem dX11_digest_141 : decode cX11_digest 141 = .ok (.getfield 23, 3) := by decide +kernel
theorem dX11_digest_144 : decode cX11_digest 144 = .ok (.ladd, 1) := by decide +kernel
theorem dX11_digest_145 : decode cX11_digest 145 = .ok (.lreturn, 1) := by decide +kernel
theorem dX11_digest_15 : decode cX11_digest 15 = .ok (.lload_n 1, 1) := by decide +kernel
theorem dX11_digest_16 : decode cX11_digest 16 = .ok (.lmul, 1) := by decide +kernel
theorem dX11_digest_17 : decode cX11_digest 17 = .ok (.aload_n 0, 1) := by decide +kernel
theorem dX11_digest_18 : decode cX11_digest 18 = .ok (.iload_n 3, 1) := by decide +kernel
theorem dX11_digest_19 : decode cX11_digest 19 = .ok (.invokevirtual 268, 3) := by decide +kernel
theorem dX11_digest_22 : decode cX11_digest 22 = .ok (.i2l, 1) := by decide +kernel
theorem dX11_digest_23 : decode cX11_digest 23 = .ok (.ladd, 1) := by decide +kernel
theorem dX11_digest_24 : decode cX11_digest 24 = .ok (.lstore_n 1, 1) := by decide +kernel
theorem dX11_digest_25 : decode cX11_digest 25 = .ok (.iinc 3 1, 3) := by decide +kernel
theorem dX11_digest_28 : decode cX11_digest 28 = .ok (.goto (-22), 3) := by decide +kernel
theorem dX11_digest_3 : decode cX11_digest 3 = .ok (.lstore_n 1, 1) := by decide +kernel
theorem dX11_digest_31 : decode cX11_digest 31 = .ok (.iconst 0, 1) := by decide +kernel
theorem dX11_digest_32 : decode cX11_digest 32 = .ok (.istore_n 3, 1) := by decide +kernel
theorem dX11_digest_33 : decode cX11_digest 33 = .ok (.iload_n 3, 1) := by decide +kernel
theorem dX11_digest_34 : decode cX11_digest 34 = .ok (.aload_n 0, 1) := by decide +kernel
theorem dX11_digest_35 : decode cX11_digest 35 = .ok (.invokevirtual 52, 3) := by decide +kernel
theorem dX11_digest_38 : decode cX11_digest 38 = .ok (.if_icmp .ge 40, 3) := by decide +kernel
theorem dX11_digest_4 : decode cX11_digest 4 = .ok (.iconst 0, 1) := by decide +kernel
theorem dX11_digest_5 : decode cX11_digest 5 = .ok (.istore_n 3, 1) := by decide +kernel
theorem dX11_digest_6 : decode cX11_digest 6 = .ok (.iload_n 3, 1) := by decide +kernel
theorem dX11_digest_7 : decode cX11_digest 7 = .ok (.bipush 11, 2) := by decide +kernel
theorem dX11_digest_78 : decode cX11_digest 78 = .ok (.aload_n 0, 1) := by decide +kernel
theorem dX11_digest_79 : decode cX11_digest 79 = .ok (.lload_n 1, 1) := by decide +kernel
theorem dX11_digest_80 : decode cX11_digest 80 = .ok (.bipush 55, 2) := by decide +kernel
theorem dX11_digest_82 : decode cX11_digest 82 = .ok (.iconst 4, 1) := by decide +kernel
theorem dX11_digest_83 : decode cX11_digest 83 = .ok (.aload_n 0, 1) := by decide +kernel
theorem dX11_digest_84 : decode cX11_digest 84 = .ok (.getfield 7, 3) := by decide +kernel
theorem dX11_digest_87 : decode cX11_digest 87 = .ok (.iconst 1, 1) := by decide +kernel
theorem dX11_digest_88 : decode cX11_digest 88 = .ok (.iaload, 1) := by decide +kernel
theorem dX11_digest_89 : decode cX11_digest 89 = .ok (.imul, 1) := by decide +kernel
theorem dX11_digest_9 : decode cX11_digest 9 = .ok (.if_icmp .ge 22, 3) := by decide +kernel
theorem dX11_digest_90 : decode cX11_digest 90 = .ok (.invokevirtual 275, 3) := by decide +kernel
theorem dX11_digest_93 : decode cX11_digest 93 = .ok (.lstore_n 1, 1) := by decide +kernel
theorem dX11_digest_94 : decode cX11_digest 94 = .ok (.aload_n 0, 1) := by decide +kernel
theorem dX11_digest_95 : decode cX11_digest 95 = .ok (.lload_n 1, 1) := by decide +kernel
theorem dX11_digest_96 : decode cX11_digest 96 = .ok (.bipush 75, 2) := by decide +kernel
theorem dX11_digest_98 : decode cX11_digest 98 = .ok (.iconst 5, 1) := by decide +kernel
theorem dX11_digest_99 : decode cX11_digest 99 = .ok (.aload_n 0, 1) := by decide +kernel
theorem dX11_first_0 : decode cX11_first 0 = .ok (.iconst (-1), 1) := by decide +kernel
theorem dX11_first_1 : decode cX11_first 1 = .ok (.istore_n 1, 1) := by decide +kernel
theorem dX11_first_12 : decode cX11_first 12 = .ok (.if_icmp .ge 48, 3) := by decide +kernel
theorem dX11_first_2 : decode cX11_first 2 = .ok (.ldc 150, 2) := by decide +kernel
theorem dX11_first_4 : decode cX11_first 4 = .ok (.istore_n 2, 1) := by decide +kernel
theorem dX11_first_5 : decode cX11_first 5 = .ok (.iconst 0, 1) := by decide +kernel
theorem dX11_first_6 : decode cX11_first 6 = .ok (.istore_n 3, 1) := by decide +kernel
theorem dX11_first_60 : decode cX11_first 60 = .ok (.iload_n 1, 1) := by decide +kernel
theorem dX11_first_61 : decode cX11_first 61 = .ok (.ireturn, 1) := by decide +kernel
theorem dX11_first_7 : decode cX11_first 7 = .ok (.iload_n 3, 1) := by decide +kernel
theorem dX11_first_8 : decode cX11_first 8 = .ok (.aload_n 0, 1) := by decide +kernel
theorem dX11_first_9 : decode cX11_first 9 = .ok (.invokevirtual 52, 3) := by decide +kernel
theorem dX11_forget_0 : decode cX11_forget 0 = .ok (.iload_n 1, 1) := by decide +kernel
theorem dX11_forget_1 : decode cX11_forget 1 = .ok (.i2l, 1) := by decide +kernel
theorem dX11_forget_12 : decode cX11_forget 12 = .ok (.aload_n 0, 1) := by decide +kernel
theorem dX11_forget_13 : decode cX11_forget 13 = .ok (.bipush (-2), 2) := by decide +kernel
theorem dX11_forget_15 : decode cX11_forget 15 = .ok (.invokevirtual 68, 3) := by decide +kernel
theorem dX11_forget_18 : decode cX11_forget 18 = .ok (.ireturn, 1) := by decide +kernel
theorem dX11_forget_19 : decode cX11_forget 19 = .ok (.aload_n 0, 1) := by decide +kernel
theorem dX11_forget_2 : decode cX11_forget 2 = .ok (.lconst 0, 1) := by decide +kernel
theorem dX11_forget_20 : decode cX11_forget 20 = .ok (.getfield 7, 3) := by decide +kernel
theorem dX11_forget_23 : decode cX11_forget 23 = .ok (.iconst 1, 1) := by decide +kernel
theorem dX11_forget_24 : decode cX11_forget 24 = .ok (.iload_n 1, 1) := by decide +kernel
theorem dX11_forget_25 : decode cX11_forget 25 = .ok (.iadd, 1) := by decide +kernel
theorem dX11_forget_26 : decode cX11_forget 26 = .ok (.iaload, 1) := by decide +kernel
theorem dX11_forget_27 : decode cX11_forget 27 = .ok (.istore_n 2, 1) := by decide +kernel
theorem dX11_forget_28 : decode cX11_forget 28 = .ok (.aload_n 0, 1) := by decide +kernel
theorem dX11_forget_29 : decode cX11_forget 29 = .ok (.getfield 7, 3) := by decide +kernel
theorem dX11_forget_3 : decode cX11_forget 3 = .ok (.ldc2_w 156, 3) := by decide +kernel
theorem dX11_forget_32 : decode cX11_forget 32 = .ok (.iconst 1, 1) := by decide +kernel
theorem dX11_forget_33 : decode cX11_forget 33 = .ok (.iload_n 1, 1) := by decide +kernel
theorem dX11_forget_34 : decode cX11_forget 34 = .ok (.iadd, 1) := by decide +kernel
theorem dX11_forget_35 : decode cX11_forget 35 = .ok (.iconst 0, 1) := by decide +kernel
theorem dX11_forget_36 : decode cX11_forget 36 = .ok (.iastore, 1) := by decide +kernel
theorem dX11_forget_37 : decode cX11_forget 37 = .ok (.iload_n 2, 1) := by decide +kernel
theorem dX11_forget_38 : decode cX11_forget 38 = .ok (.ireturn, 1) := by decide +kernel
theorem dX11_forget_6 : decode cX11_forget 6 = .ok (.invokestatic 56, 3) := by decide +kernel
theorem dX11_forget_9 : decode cX11_forget 9 = .ok (.ifCond .ne 10, 3) := by decide +kernel
theorem dX11_from_0 : decode cX11_from 0 = .ok (.iload_n 1, 1) := by decide +kernel
theorem dX11_from_1 : decode cX11_from 1 = .ok (.i2l, 1) := by decide +kernel
theorem dX11_from_10 : decode cX11_from 10 = .ok (.aload_n 0, 1) := by decide +kernel
theorem dX11_from_11 : decode cX11_from 11 = .ok (.bipush (-2), 2) := by decide +kernel
theorem dX11_from_13 : decode cX11_from 13 = .ok (.invokevirtual 68, 3) := by decide +kernel
theorem dX11_from_16 : decode cX11_from 16 = .ok (.ireturn, 1) := by decide +kernel
theorem dX11_from_17 : decode cX11_from 17 = .ok (.aload_n 0, 1) := by decide +kernel
theorem dX11_from_18 : decode cX11_from 18 = .ok (.getfield 16, 3) := by decide +kernel
theorem dX11_from_2 : decode cX11_from 2 = .ok (.lconst 0, 1) := by decide +kernel
theorem dX11_from_21 : decode cX11_from 21 = .ok (.iload_n 1, 1) := by decide +kernel
theorem dX11_from_22 : decode cX11_from 22 = .ok (.baload, 1) := by decide +kernel
theorem dX11_from_23 : decode cX11_from 23 = .ok (.ifCond .ne 8, 3) := by decide +kernel
theorem dX11_from_26 : decode cX11_from 26 = .ok (.aload_n 0, 1) := by decide +kernel
theorem dX11_from_27 : decode cX11_from 27 = .ok (.invokevirtual 129, 3) := by decide +kernel
theorem dX11_from_3 : decode cX11_from 3 = .ok (.lconst 1, 1) := by decide +kernel
theorem dX11_from_30 : decode cX11_from 30 = .ok (.ireturn, 1) := by decide +kernel
theorem dX11_from_4 : decode cX11_from 4 = .ok (.invokestatic 56, 3) := by decide +kernel
theorem dX11_from_7 : decode cX11_from 7 = .ok (.ifCond .ne 10, 3) := by decide +kernel
theorem dX11_goTick_0 : decode cX11_goTick 0 = .ok (.aload_n 0, 1) := by decide +kernel
theorem dX11_goTick_1 : decode cX11_goTick 1 = .ok (.bipush 35, 2) := by decide +kernel
theorem dX11_goTick_10 : decode cX11_goTick 10 = .ok (.iload_n 1, 1) := by decide +kernel
theorem dX11_goTick_11 : decode cX11_goTick 11 = .ok (.aload_n 0, 1) := by decide +kernel
theorem dX11_goTick_12 : decode cX11_goTick 12 = .ok (.iconst 0, 1) := by decide +kernel
theorem dX11_goTick_13 : decode cX11_goTick 13 = .ok (.iaload, 1) := by decide +kernel
theorem dX11_goTick_14 : decode cX11_goTick 14 = .ok (.if_icmp .ge 23, 3) := by decide +kernel
theorem dX11_goTick_3 : decode cX11_goTick 3 = .ok (.dup2, 1) := by decide +kernel
theorem dX11_goTick_37 : decode cX11_goTick 37 = .ok (.return_, 1) := by decide +kernel
theorem dX11_goTick_4 : decode cX11_goTick 4 = .ok (.iaload, 1) := by decide +kernel
theorem dX11_goTick_5 : decode cX11_goTick 5 = .ok (.iconst 1, 1) := by decide +kernel
theorem dX11_goTick_6 : decode cX11_goTick 6 = .ok (.iadd, 1) := by decide +kernel
theorem dX11_goTick_7 : decode cX11_goTick 7 = .ok (.iastore, 1) := by decide +kernel
theorem dX11_goTick_8 : decode cX11_goTick 8 = .ok (.iconst 0, 1) := by decide +kernel
theorem dX11_goTick_9 : decode cX11_goTick 9 = .ok (.istore_n 1, 1) := by decide +kernel
theorem dX11_goTicks_0 : decode cX11_goTicks 0 = .ok (.iconst 0, 1) := by decide +kernel
theorem dX11_goTicks_1 : decode cX11_goTicks 1 = .ok (.istore_n 2, 1) := by decide +kernel
theorem dX11_goTicks_10 : decode cX11_goTicks 10 = .ok (.iaload, 1) := by decide +kernel
theorem dX11_goTicks_11 : decode cX11_goTicks 11 = .ok (.sipush 9999, 3) := by decide +kernel
theorem dX11_goTicks_14 : decode cX11_goTicks 14 = .ok (.if_icmp .ge 13, 3) := by decide +kernel
theorem dX11_goTicks_17 : decode cX11_goTicks 17 = .ok (.aload_n 0, 1) := by decide +kernel
theorem dX11_goTicks_18 : decode cX11_goTicks 18 = .ok (.invokestatic 109, 3) := by decide +kernel
theorem dX11_goTicks_2 : decode cX11_goTicks 2 = .ok (.iload_n 2, 1) := by decide +kernel
theorem dX11_goTicks_21 : decode cX11_goTicks 21 = .ok (.iinc 2 1, 3) := by decide +kernel
theorem dX11_goTicks_24 : decode cX11_goTicks 24 = .ok (.goto (-22), 3) := by decide +kernel
theorem dX11_goTicks_27 : decode cX11_goTicks 27 = .ok (.return_, 1) := by decide +kernel
theorem dX11_goTicks_3 : decode cX11_goTicks 3 = .ok (.iload_n 1, 1) := by decide +kernel
theorem dX11_goTicks_4 : decode cX11_goTicks 4 = .ok (.if_icmp .ge 23, 3) := by decide +kernel
theorem dX11_goTicks_7 : decode cX11_goTicks 7 = .ok (.aload_n 0, 1) := by decide +kernel
theorem dX11_goTicks_8 : decode cX11_goTicks 8 = .ok (.bipush 35, 2) := by decide +kernel
theorem dX11_home_0 : decode cX11_home 0 = .ok (.aload_n 0, 1) := by decide +kernel
theorem dX11_home_1 : decode cX11_home 1 = .ok (.iload_n 1, 1) := by decide +kernel
theorem dX11_home_16 : decode cX11_home 16 = .ok (.aload_n 0, 1) := by decide +kernel
theorem dX11_home_17 : decode cX11_home 17 = .ok (.bipush (-2), 2) := by decide +kernel
theorem dX11_home_19 : decode cX11_home 19 = .ok (.invokevirtual 68, 3) := by decide +kernel
theorem dX11_home_2 : decode cX11_home 2 = .ok (.invokevirtual 123, 3) := by decide +kernel
theorem dX11_home_22 : decode cX11_home 22 = .ok (.ireturn, 1) := by decide +kernel
theorem dX11_home_5 : decode cX11_home 5 = .ok (.ifCond .eq 11, 3) := by decide +kernel
theorem dX11_image_0 : decode cX11_image 0 = .ok (.iload_n 1, 1) := by decide +kernel
theorem dX11_image_1 : decode cX11_image 1 = .ok (.i2l, 1) := by decide +kernel
theorem dX11_image_10 : decode cX11_image 10 = .ok (.aload_n 0, 1) := by decide +kernel
theorem dX11_image_11 : decode cX11_image 11 = .ok (.bipush (-2), 2) := by decide +kernel
theorem dX11_image_13 : decode cX11_image 13 = .ok (.invokevirtual 68, 3) := by decide +kernel
theorem dX11_image_16 : decode cX11_image 16 = .ok (.ireturn, 1) := by decide +kernel
theorem dX11_image_17 : decode cX11_image 17 = .ok (.iconst 0, 1) := by decide +kernel
theorem dX11_image_18 : decode cX11_image 18 = .ok (.istore_n 2, 1) := by decide +kernel
theorem dX11_image_19 : decode cX11_image 19 = .ok (.iload_n 2, 1) := by decide +kernel
theorem dX11_image_2 : decode cX11_image 2 = .ok (.lconst 0, 1) := by decide +kernel
theorem dX11_image_20 : decode cX11_image 20 = .ok (.sipush 371, 3) := by decide +kernel
theorem dX11_image_23 : decode cX11_image 23 = .ok (.if_icmp .ge 27, 3) := by decide +kernel
theorem dX11_image_26 : decode cX11_image 26 = .ok (.aload_n 0, 1) := by decide +kernel
theorem dX11_image_27 : decode cX11_image 27 = .ok (.getfield 13, 3) := by decide +kernel
theorem dX11_image_3 : decode cX11_image 3 = .ok (.lconst 1, 1) := by decide +kernel
theorem dX11_image_30 : decode cX11_image 30 = .ok (.sipush 371, 3) := by decide +kernel
theorem dX11_image_33 : decode cX11_image 33 = .ok (.iload_n 1, 1) := by decide +kernel
theorem dX11_image_34 : decode cX11_image 34 = .ok (.imul, 1) := by decide +kernel
theorem dX11_image_35 : decode cX11_image 35 = .ok (.iload_n 2, 1) := by decide +kernel
theorem dX11_image_36 : decode cX11_image 36 = .ok (.iadd, 1) := by decide +kernel
theorem dX11_image_37 : decode cX11_image 37 = .ok (.aload_n 0, 1) := by decide +kernel
theorem dX11_image_38 : decode cX11_image 38 = .ok (.getfield 7, 3) := by decide +kernel
theorem dX11_image_4 : decode cX11_image 4 = .ok (.invokestatic 56, 3) := by decide +kernel
theorem dX11_image_41 : decode cX11_image 41 = .ok (.iload_n 2, 1) := by decide +kernel
theorem dX11_image_42 : decode cX11_image 42 = .ok (.iaload, 1) := by decide +kernel
theorem dX11_image_43 : decode cX11_image 43 = .ok (.iastore, 1) := by decide +kernel
theorem dX11_image_44 : decode cX11_image 44 = .ok (.iinc 2 1, 3) := by decide +kernel
theorem dX11_image_47 : decode cX11_image 47 = .ok (.goto (-28), 3) := by decide +kernel
theorem dX11_image_50 : decode cX11_image 50 = .ok (.aload_n 0, 1) := by decide +kernel
theorem dX11_image_51 : decode cX11_image 51 = .ok (.getfield 16, 3) := by decide +kernel
theorem dX11_image_54 : decode cX11_image 54 = .ok (.iload_n 1, 1) := by decide +kernel
theorem dX11_image_55 : decode cX11_image 55 = .ok (.iconst 1, 1) := by decide +kernel
theorem dX11_image_56 : decode cX11_image 56 = .ok (.bastore, 1) := by decide +kernel
theorem dX11_image_57 : decode cX11_image 57 = .ok (.iconst 1, 1) := by decide +kernel
theorem dX11_image_58 : decode cX11_image 58 = .ok (.ireturn, 1) := by decide +kernel
theorem dX11_image_7 : decode cX11_image 7 = .ok (.ifCond .ne 10, 3) := by decide +kernel
theorem dX11_in_0 : decode cX11_in 0 = .ok (.lload_n 0, 1) := by decide +kernel
theorem dX11_in_1 : decode cX11_in 1 = .ok (.lload_n 2, 1) := by decide +kernel
theorem dX11_in_10 : decode cX11_in 10 = .ok (.ifCond .gt 7, 3) := by decide +kernel
theorem dX11_in_13 : decode cX11_in 13 = .ok (.iconst 1, 1) := by decide +kernel
theorem dX11_in_14 : decode cX11_in 14 = .ok (.goto 4, 3) := by decide +kernel
theorem dX11_in_17 : decode cX11_in 17 = .ok (.iconst 0, 1) := by decide +kernel
theorem dX11_in_18 : decode cX11_in 18 = .ok (.ireturn, 1) := by decide +kernel
theorem dX11_in_2 : decode cX11_in 2 = .ok (.lcmp, 1) := by decide +kernel
theorem dX11_in_3 : decode cX11_in 3 = .ok (.ifCond .lt 14, 3) := by decide +kernel
theorem dX11_in_6 : decode cX11_in 6 = .ok (.lload_n 0, 1) := by decide +kernel
theorem dX11_in_7 : decode cX11_in 7 = .ok (.lload 4, 2) := by decide +kernel
theorem dX11_in_9 : decode cX11_in 9 = .ok (.lcmp, 1) := by decide +kernel
theorem dX11_init_0 : decode cX11_init 0 = .ok (.aload_n 0, 1) := by decide +kernel
theorem dX11_init_1 : decode cX11_init 1 = .ok (.invokespecial 1, 3) := by decide +kernel
theorem dX11_init_10 : decode cX11_init 10 = .ok (.putfield 7, 3) := by decide +kernel
theorem dX11_init_101 : decode cX11_init 101 = .ok (.bipush 20, 2) := by decide +kernel
theorem dX11_init_103 : decode cX11_init 103 = .ok (.invokestatic 48, 3) := by decide +kernel
theorem dX11_init_106 : decode cX11_init 106 = .ok (.return_, 1) := by decide +kernel
theorem dX11_init_13 : decode cX11_init 13 = .ok (.aload_n 0, 1) := by decide +kernel
theorem dX11_init_14 : decode cX11_init 14 = .ok (.sipush 742, 3) := by decide +kernel
theorem dX11_init_17 : decode cX11_init 17 = .ok (.newarray .int, 2) := by decide +kernel
theorem dX11_init_19 : decode cX11_init 19 = .ok (.putfield 13, 3) := by decide +kernel
theorem dX11_init_22 : decode cX11_init 22 = .ok (.aload_n 0, 1) := by decide +kernel
theorem dX11_init_23 : decode cX11_init 23 = .ok (.iconst 2, 1) := by decide +kernel
theorem dX11_init_24 : decode cX11_init 24 = .ok (.newarray .boolean, 2) := by decide +kernel
theorem dX11_init_26 : decode cX11_init 26 = .ok (.putfield 16, 3) := by decide +kernel
theorem dX11_init_29 : decode cX11_init 29 = .ok (.aload_n 0, 1) := by decide +kernel
theorem dX11_init_30 : decode cX11_init 30 = .ok (.iconst 3, 1) := by decide +kernel
theorem dX11_init_31 : decode cX11_init 31 = .ok (.newarray .int, 2) := by decide +kernel
theorem dX11_init_33 : decode cX11_init 33 = .ok (.putfield 20, 3) := by decide +kernel
theorem dX11_init_36 : decode cX11_init 36 = .ok (.aload_n 0, 1) := by decide +kernel
theorem dX11_init_37 : decode cX11_init 37 = .ok (.lconst 1, 1) := by decide +kernel
theorem dX11_init_38 : decode cX11_init 38 = .ok (.putfield 23, 3) := by decide +kernel
theorem dX11_init_4 : decode cX11_init 4 = .ok (.aload_n 0, 1) := by decide +kernel
theorem dX11_init_41 : decode cX11_init 41 = .ok (.aload_n 0, 1) := by decide +kernel
theorem dX11_init_42 : decode cX11_init 42 = .ok (.bipush 55, 2) := by decide +kernel
theorem dX11_init_44 : decode cX11_init 44 = .ok (.newarray .int, 2) := by decide +kernel
theorem dX11_init_46 : decode cX11_init 46 = .ok (.putfield 27, 3) := by decide +kernel
theorem dX11_init_49 : decode cX11_init 49 = .ok (.aload_n 0, 1) := by decide +kernel
theorem dX11_init_5 : decode cX11_init 5 = .ok (.sipush 371, 3) := by decide +kernel
theorem dX11_init_50 : decode cX11_init 50 = .ok (.bipush 6, 2) := by decide +kernel
theorem dX11_init_52 : decode cX11_init 52 = .ok (.newarray .int, 2) := by decide +kernel
theorem dX11_init_54 : decode cX11_init 54 = .ok (.putfield 30, 3) := by decide +kernel
theorem dX11_init_57 : decode cX11_init 57 = .ok (.aload_n 0, 1) := by decide +kernel
theorem dX11_init_58 : decode cX11_init 58 = .ok (.bipush 10, 2) := by decide +kernel
theorem dX11_init_60 : decode cX11_init 60 = .ok (.newarray .int, 2) := by decide +kernel
theorem dX11_init_62 : decode cX11_init 62 = .ok (.putfield 33, 3) := by decide +kernel
theorem dX11_init_65 : decode cX11_init 65 = .ok (.aload_n 0, 1) := by decide +kernel
theorem dX11_init_66 : decode cX11_init 66 = .ok (.bipush 20, 2) := by decide +kernel
theorem dX11_init_68 : decode cX11_init 68 = .ok (.newarray .int, 2) := by decide +kernel
theorem dX11_init_70 : decode cX11_init 70 = .ok (.putfield 36, 3) := by decide +kernel
theorem dX11_init_73 : decode cX11_init 73 = .ok (.aload_n 0, 1) := by decide +kernel
theorem dX11_init_74 : decode cX11_init 74 = .ok (.sipush 150, 3) := by decide +kernel
theorem dX11_init_77 : decode cX11_init 77 = .ok (.newarray .int, 2) := by decide +kernel
theorem dX11_init_79 : decode cX11_init 79 = .ok (.putfield 39, 3) := by decide +kernel
theorem dX11_init_8 : decode cX11_init 8 = .ok (.newarray .int, 2) := by decide +kernel
theorem dX11_init_82 : decode cX11_init 82 = .ok (.aload_n 0, 1) := by decide +kernel
theorem dX11_init_83 : decode cX11_init 83 = .ok (.bipush 123, 2) := by decide +kernel
theorem dX11_init_85 : decode cX11_init 85 = .ok (.newarray .int, 2) := by decide +kernel
theorem dX11_init_87 : decode cX11_init 87 = .ok (.putfield 42, 3) := by decide +kernel
theorem dX11_init_90 : decode cX11_init 90 = .ok (.aload_n 0, 1) := by decide +kernel
theorem dX11_init_91 : decode cX11_init 91 = .ok (.iconst 3, 1) := by decide +kernel
theorem dX11_init_92 : decode cX11_init 92 = .ok (.newarray .int, 2) := by decide +kernel
theorem dX11_init_94 : decode cX11_init 94 = .ok (.putfield 45, 3) := by decide +kernel
theorem dX11_init_97 : decode cX11_init 97 = .ok (.aload_n 0, 1) := by decide +kernel
theorem dX11_init_98 : decode cX11_init 98 = .ok (.getfield 7, 3) := by decide +kernel
theorem dX11_isKind_0 : decode cX11_isKind 0 = .ok (.iload_n 0, 1) := by decide +kernel
theorem dX11_isKind_1 : decode cX11_isKind 1 = .ok (.i2l, 1) := by decide +kernel
theorem dX11_isKind_2 : decode cX11_isKind 2 = .ok (.lconst 0, 1) := by decide +kernel
theorem dX11_isKind_3 : decode cX11_isKind 3 = .ok (.ldc2_w 60, 3) := by decide +kernel
theorem dX11_isKind_6 : decode cX11_isKind 6 = .ok (.invokestatic 56, 3) := by decide +kernel
theorem dX11_isKind_9 : decode cX11_isKind 9 = .ok (.ireturn, 1) := by decide +kernel
theorem dX11_isLegs_0 : decode cX11_isLegs 0 = .ok (.iload_n 0, 1) := by decide +kernel
theorem dX11_isLegs_1 : decode cX11_isLegs 1 = .ok (.i2l, 1) := by decide +kernel
theorem dX11_isLegs_2 : decode cX11_isLegs 2 = .ok (.lconst 1, 1) := by decide +kernel
theorem dX11_isLegs_3 : decode cX11_isLegs 3 = .ok (.ldc2_w 62, 3) := by decide +kernel
theorem dX11_isLegs_6 : decode cX11_isLegs 6 = .ok (.invokestatic 56, 3) := by decide +kernel
theorem dX11_isLegs_9 : decode cX11_isLegs 9 = .ok (.ireturn, 1) := by decide +kernel
theorem dX11_isOne_0 : decode cX11_isOne 0 = .ok (.iload_n 1, 1) := by decide +kernel
theorem dX11_isOne_1 : decode cX11_isOne 1 = .ok (.i2l, 1) := by decide +kernel
theorem dX11_isOne_10 : decode cX11_isOne 10 = .ok (.invokestatic 56, 3) := by decide +kernel
theorem dX11_isOne_13 : decode cX11_isOne 13 = .ok (.ireturn, 1) := by decide +kernel
theorem dX11_isOne_2 : decode cX11_isOne 2 = .ok (.lconst 0, 1) := by decide +kernel
theorem dX11_isOne_3 : decode cX11_isOne 3 = .ok (.aload_n 0, 1) := by decide +kernel
theorem dX11_isOne_4 : decode cX11_isOne 4 = .ok (.invokevirtual 52, 3) := by decide +kernel
theorem dX11_isOne_7 : decode cX11_isOne 7 = .ok (.iconst 1, 1) := by decide +kernel
theorem dX11_isOne_8 : decode cX11_isOne 8 = .ok (.isub, 1) := by decide +kernel
theorem dX11_isOne_9 : decode cX11_isOne 9 = .ok (.i2l, 1) := by decide +kernel
theorem dX11_is_0 : decode cX11_is 0 = .ok (.aload_n 0, 1) := by decide +kernel
theorem dX11_is_1 : decode cX11_is 1 = .ok (.iload_n 1, 1) := by decide +kernel
theorem dX11_is_16 : decode cX11_is 16 = .ok (.aload_n 0, 1) := by decide +kernel
theorem dX11_is_17 : decode cX11_is 17 = .ok (.bipush (-2), 2) := by decide +kernel
theorem dX11_is_19 : decode cX11_is 19 = .ok (.invokevirtual 68, 3) := by decide +kernel
theorem dX11_is_2 : decode cX11_is 2 = .ok (.invokevirtual 123, 3) := by decide +kernel
theorem dX11_is_22 : decode cX11_is 22 = .ok (.ireturn, 1) := by decide +kernel
theorem dX11_is_5 : decode cX11_is 5 = .ok (.ifCond .eq 11, 3) := by decide +kernel
theorem dX11_kinds_0 : decode cX11_kinds 0 = .ok (.aload_n 0, 1) := by decide +kernel
theorem dX11_kinds_1 : decode cX11_kinds 1 = .ok (.iload_n 1, 1) := by decide +kernel
theorem dX11_kinds_16 : decode cX11_kinds 16 = .ok (.aload_n 0, 1) := by decide +kernel
theorem dX11_kinds_17 : decode cX11_kinds 17 = .ok (.bipush (-2), 2) := by decide +kernel
theorem dX11_kinds_19 : decode cX11_kinds 19 = .ok (.invokevirtual 68, 3) := by decide +kernel
theorem dX11_kinds_2 : decode cX11_kinds 2 = .ok (.invokevirtual 123, 3) := by decide +kernel
theorem dX11_kinds_22 : decode cX11_kinds 22 = .ok (.ireturn, 1) := by decide +kernel
theorem dX11_kinds_5 : decode cX11_kinds 5 = .ok (.ifCond .eq 11, 3) := by decide +kernel
theorem dX11_layHand_0 : decode cX11_layHand 0 = .ok (.iconst 0, 1) := by decide +kernel
theorem dX11_layHand_1 : decode cX11_layHand 1 = .ok (.istore_n 1, 1) := by decide +kernel
theorem dX11_layHand_12 : decode cX11_layHand 12 = .ok (.iload_n 1, 1) := by decide +kernel
theorem dX11_layHand_13 : decode cX11_layHand 13 = .ok (.aload_n 0, 1) := by decide +kernel
theorem dX11_layHand_14 : decode cX11_layHand 14 = .ok (.getfield 7, 3) := by decide +kernel
theorem dX11_layHand_17 : decode cX11_layHand 17 = .ok (.iload_n 1, 1) := by decide +kernel
theorem dX11_layHand_18 : decode cX11_layHand 18 = .ok (.iaload, 1) := by decide +kernel
theorem dX11_layHand_19 : decode cX11_layHand 19 = .ok (.iastore, 1) := by decide +kernel
theorem dX11_layHand_2 : decode cX11_layHand 2 = .ok (.iload_n 1, 1) := by decide +kernel
theorem dX11_layHand_20 : decode cX11_layHand 20 = .ok (.iinc 1 1, 3) := by decide +kernel
theorem dX11_layHand_23 : decode cX11_layHand 23 = .ok (.goto (-21), 3) := by decide +kernel
theorem dX11_layHand_26 : decode cX11_layHand 26 = .ok (.return_, 1) := by decide +kernel
theorem dX11_layHand_3 : decode cX11_layHand 3 = .ok (.bipush 55, 2) := by decide +kernel
theorem dX11_layHand_5 : decode cX11_layHand 5 = .ok (.if_icmp .ge 21, 3) := by decide +kernel
theorem dX11_layHand_8 : decode cX11_layHand 8 = .ok (.aload_n 0, 1) := by decide +kernel
theorem dX11_layHand_9 : decode cX11_layHand 9 = .ok (.getfield 27, 3) := by decide +kernel
theorem dX11_layOne_0 : decode cX11_layOne 0 = .ok (.aload_n 0, 1) := by decide +kernel
theorem dX11_layOne_1 : decode cX11_layOne 1 = .ok (.iconst 0, 1) := by decide +kernel
theorem dX11_layOne_10 : decode cX11_layOne 10 = .ok (.iadd, 1) := by decide +kernel
theorem dX11_layOne_11 : decode cX11_layOne 11 = .ok (.iload_n 1, 1) := by decide +kernel
theorem dX11_layOne_12 : decode cX11_layOne 12 = .ok (.iastore, 1) := by decide +kernel
theorem dX11_layOne_13 : decode cX11_layOne 13 = .ok (.aload_n 0, 1) := by decide +kernel
theorem dX11_layOne_14 : decode cX11_layOne 14 = .ok (.bipush 43, 2) := by decide +kernel
theorem dX11_layOne_16 : decode cX11_layOne 16 = .ok (.iload 4, 2) := by decide +kernel
theorem dX11_layOne_18 : decode cX11_layOne 18 = .ok (.iadd, 1) := by decide +kernel
theorem dX11_layOne_19 : decode cX11_layOne 19 = .ok (.iload_n 2, 1) := by decide +kernel
theorem dX11_layOne_2 : decode cX11_layOne 2 = .ok (.iaload, 1) := by decide +kernel
theorem dX11_layOne_20 : decode cX11_layOne 20 = .ok (.iastore, 1) := by decide +kernel
theorem dX11_layOne_21 : decode cX11_layOne 21 = .ok (.aload_n 0, 1) := by decide +kernel
theorem dX11_layOne_22 : decode cX11_layOne 22 = .ok (.bipush 49, 2) := by decide +kernel
theorem dX11_layOne_24 : decode cX11_layOne 24 = .ok (.iload 4, 2) := by decide +kernel
theorem dX11_layOne_26 : decode cX11_layOne 26 = .ok (.iadd, 1) := by decide +kernel
theorem dX11_layOne_27 : decode cX11_layOne 27 = .ok (.iload_n 3, 1) := by decide +kernel
theorem dX11_layOne_28 : decode cX11_layOne 28 = .ok (.iastore, 1) := by decide +kernel
theorem dX11_layOne_29 : decode cX11_layOne 29 = .ok (.aload_n 0, 1) := by decide +kernel
theorem dX11_layOne_3 : decode cX11_layOne 3 = .ok (.istore 4, 2) := by decide +kernel
theorem dX11_layOne_30 : decode cX11_layOne 30 = .ok (.bipush 11, 2) := by decide +kernel
theorem dX11_layOne_32 : decode cX11_layOne 32 = .ok (.iload 4, 2) := by decide +kernel
theorem dX11_layOne_34 : decode cX11_layOne 34 = .ok (.iadd, 1) := by decide +kernel
theorem dX11_layOne_35 : decode cX11_layOne 35 = .ok (.iconst 4, 1) := by decide +kernel
theorem dX11_layOne_36 : decode cX11_layOne 36 = .ok (.iastore, 1) := by decide +kernel
theorem dX11_layOne_37 : decode cX11_layOne 37 = .ok (.aload_n 0, 1) := by decide +kernel
theorem dX11_layOne_38 : decode cX11_layOne 38 = .ok (.iconst 0, 1) := by decide +kernel
theorem dX11_layOne_39 : decode cX11_layOne 39 = .ok (.dup2, 1) := by decide +kernel
theorem dX11_layOne_40 : decode cX11_layOne 40 = .ok (.iaload, 1) := by decide +kernel
theorem dX11_layOne_41 : decode cX11_layOne 41 = .ok (.iconst 1, 1) := by decide +kernel
theorem dX11_layOne_42 : decode cX11_layOne 42 = .ok (.iadd, 1) := by decide +kernel
theorem dX11_layOne_43 : decode cX11_layOne 43 = .ok (.iastore, 1) := by decide +kernel
theorem dX11_layOne_44 : decode cX11_layOne 44 = .ok (.return_, 1) := by decide +kernel
theorem dX11_layOne_5 : decode cX11_layOne 5 = .ok (.aload_n 0, 1) := by decide +kernel
theorem dX11_layOne_6 : decode cX11_layOne 6 = .ok (.bipush 37, 2) := by decide +kernel
theorem dX11_layOne_8 : decode cX11_layOne 8 = .ok (.iload 4, 2) := by decide +kernel
theorem dX11_lookAt_0 : decode cX11_lookAt 0 = .ok (.aload_n 0, 1) := by decide +kernel
theorem dX11_lookAt_1 : decode cX11_lookAt 1 = .ok (.iload_n 1, 1) := by decide +kernel
theorem dX11_lookAt_10 : decode cX11_lookAt 10 = .ok (.getfield 205, 3) := by decide +kernel
theorem dX11_lookAt_13 : decode cX11_lookAt 13 = .ok (.if_icmp .ge 30, 3) := by decide +kernel
theorem dX11_lookAt_2 : decode cX11_lookAt 2 = .ok (.putfield 217, 3) := by decide +kernel
theorem dX11_lookAt_43 : decode cX11_lookAt 43 = .ok (.aload_n 0, 1) := by decide +kernel
theorem dX11_lookAt_44 : decode cX11_lookAt 44 = .ok (.iconst 0, 1) := by decide +kernel
theorem dX11_lookAt_45 : decode cX11_lookAt 45 = .ok (.putfield 220, 3) := by decide +kernel
theorem dX11_lookAt_48 : decode cX11_lookAt 48 = .ok (.aload_n 0, 1) := by decide +kernel
theorem dX11_lookAt_49 : decode cX11_lookAt 49 = .ok (.iconst 0, 1) := by decide +kernel
theorem dX11_lookAt_5 : decode cX11_lookAt 5 = .ok (.aload_n 0, 1) := by decide +kernel
theorem dX11_lookAt_50 : decode cX11_lookAt 50 = .ok (.putfield 223, 3) := by decide +kernel
theorem dX11_lookAt_53 : decode cX11_lookAt 53 = .ok (.aload_n 0, 1) := by decide +kernel
theorem dX11_lookAt_54 : decode cX11_lookAt 54 = .ok (.iconst 0, 1) := by decide +kernel
theorem dX11_lookAt_55 : decode cX11_lookAt 55 = .ok (.putfield 226, 3) := by decide +kernel
theorem dX11_lookAt_58 : decode cX11_lookAt 58 = .ok (.aload_n 0, 1) := by decide +kernel
theorem dX11_lookAt_59 : decode cX11_lookAt 59 = .ok (.getfield 217, 3) := by decide +kernel
theorem dX11_lookAt_6 : decode cX11_lookAt 6 = .ok (.getfield 217, 3) := by decide +kernel
theorem dX11_lookAt_62 : decode cX11_lookAt 62 = .ok (.aload_n 0, 1) := by decide +kernel
theorem dX11_lookAt_63 : decode cX11_lookAt 63 = .ok (.getfield 205, 3) := by decide +kernel
theorem dX11_lookAt_66 : decode cX11_lookAt 66 = .ok (.if_icmp .ne 4, 3) := by decide +kernel
theorem dX11_lookAt_69 : decode cX11_lookAt 69 = .ok (.return_, 1) := by decide +kernel
theorem dX11_lookAt_9 : decode cX11_lookAt 9 = .ok (.aload_n 0, 1) := by decide +kernel
theorem dX11_look_0 : decode cX11_look 0 = .ok (.aload_n 0, 1) := by decide +kernel
theorem dX11_look_1 : decode cX11_look 1 = .ok (.iload_n 1, 1) := by decide +kernel
theorem dX11_look_11 : decode cX11_look 11 = .ok (.invokevirtual 68, 3) := by decide +kernel
theorem dX11_look_14 : decode cX11_look 14 = .ok (.ireturn, 1) := by decide +kernel
theorem dX11_look_2 : decode cX11_look 2 = .ok (.invokevirtual 123, 3) := by decide +kernel
theorem dX11_look_5 : decode cX11_look 5 = .ok (.ifCond .ne 10, 3) := by decide +kernel
theorem dX11_look_8 : decode cX11_look 8 = .ok (.aload_n 0, 1) := by decide +kernel
theorem dX11_look_9 : decode cX11_look 9 = .ok (.bipush (-2), 2) := by decide +kernel
theorem dX11_manyHome_0 : decode cX11_manyHome 0 = .ok (.iconst 0, 1) := by decide +kernel
theorem dX11_manyHome_1 : decode cX11_manyHome 1 = .ok (.istore_n 1, 1) := by decide +kernel
theorem dX11_manyHome_2 : decode cX11_manyHome 2 = .ok (.iconst 0, 1) := by decide +kernel
theorem dX11_manyHome_3 : decode cX11_manyHome 3 = .ok (.istore_n 2, 1) := by decide +kernel
theorem dX11_manyHome_33 : decode cX11_manyHome 33 = .ok (.iload_n 1, 1) := by decide +kernel
theorem dX11_manyHome_34 : decode cX11_manyHome 34 = .ok (.ireturn, 1) := by decide +kernel
theorem dX11_manyHome_4 : decode cX11_manyHome 4 = .ok (.iload_n 2, 1) := by decide +kernel
theorem dX11_manyHome_5 : decode cX11_manyHome 5 = .ok (.aload_n 0, 1) := by decide +kernel
theorem dX11_manyHome_6 : decode cX11_manyHome 6 = .ok (.iconst 0, 1) := by decide +kernel
theorem dX11_manyHome_7 : decode cX11_manyHome 7 = .ok (.iaload, 1) := by decide +kernel
theorem dX11_manyHome_8 : decode cX11_manyHome 8 = .ok (.if_icmp .ge 25, 3) := by decide +kernel
theorem dX11_many_0 : decode cX11_many 0 = .ok (.aload_n 0, 1) := by decide +kernel
theorem dX11_many_1 : decode cX11_many 1 = .ok (.getfield 7, 3) := by decide +kernel
theorem dX11_many_4 : decode cX11_many 4 = .ok (.iconst 0, 1) := by decide +kernel
theorem dX11_many_5 : decode cX11_many 5 = .ok (.iaload, 1) := by decide +kernel
theorem dX11_many_6 : decode cX11_many 6 = .ok (.ireturn, 1) := by decide +kernel
theorem dX11_mark_0 : decode cX11_mark 0 = .ok (.aload_n 0, 1) := by decide +kernel
theorem dX11_mark_1 : decode cX11_mark 1 = .ok (.iload_n 1, 1) := by decide +kernel
theorem dX11_mark_2 : decode cX11_mark 2 = .ok (.invokevirtual 123, 3) := by decide +kernel
theorem dX11_mark_32 : decode cX11_mark 32 = .ok (.aload_n 0, 1) := by decide +kernel
theorem dX11_mark_33 : decode cX11_mark 33 = .ok (.bipush (-2), 2) := by decide +kernel
theorem dX11_mark_35 : decode cX11_mark 35 = .ok (.invokevirtual 68, 3) := by decide +kernel
theorem dX11_mark_38 : decode cX11_mark 38 = .ok (.ireturn, 1) := by decide +kernel
theorem dX11_mark_5 : decode cX11_mark 5 = .ok (.ifCond .eq 27, 3) := by decide +kernel
theorem dX11_no_0 : decode cX11_no 0 = .ok (.aload_n 0, 1) := by decide +kernel
theorem dX11_no_1 : decode cX11_no 1 = .ok (.getfield 20, 3) := by decide +kernel
theorem dX11_no_10 : decode cX11_no 10 = .ok (.bipush (-3), 2) := by decide +kernel
theorem dX11_no_12 : decode cX11_no 12 = .ok (.ireturn, 1) := by decide +kernel
theorem dX11_no_4 : decode cX11_no 4 = .ok (.iconst 1, 1) := by decide +kernel
theorem dX11_no_5 : decode cX11_no 5 = .ok (.dup2, 1) := by decide +kernel
theorem dX11_no_6 : decode cX11_no 6 = .ok (.iaload, 1) := by decide +kernel
theorem dX11_no_7 : decode cX11_no 7 = .ok (.iconst 1, 1) := by decide +kernel
theorem dX11_no_8 : decode cX11_no 8 = .ok (.iadd, 1) := by decide +kernel
theorem dX11_no_9 : decode cX11_no 9 = .ok (.iastore, 1) := by decide +kernel
theorem dX11_note_0 : decode cX11_note 0 = .ok (.aload_n 0, 1) := by decide +kernel
theorem dX11_note_1 : decode cX11_note 1 = .ok (.iload_n 1, 1) := by decide +kernel
theorem dX11_note_2 : decode cX11_note 2 = .ok (.invokevirtual 123, 3) := by decide +kernel
theorem dX11_note_48 : decode cX11_note 48 = .ok (.aload_n 0, 1) := by decide +kernel
theorem dX11_note_49 : decode cX11_note 49 = .ok (.bipush (-2), 2) := by decide +kernel
theorem dX11_note_5 : decode cX11_note 5 = .ok (.ifCond .eq 43, 3) := by decide +kernel
theorem dX11_note_51 : decode cX11_note 51 = .ok (.invokevirtual 68, 3) := by decide +kernel
theorem dX11_note_54 : decode cX11_note 54 = .ok (.ireturn, 1) := by decide +kernel
theorem dX11_of_0 : decode cX11_of 0 = .ok (.aload_n 0, 1) := by decide +kernel
theorem dX11_of_1 : decode cX11_of 1 = .ok (.iload_n 1, 1) := by decide +kernel
theorem dX11_of_2 : decode cX11_of 2 = .ok (.invokevirtual 123, 3) := by decide +kernel
theorem dX11_of_29 : decode cX11_of 29 = .ok (.aload_n 0, 1) := by decide +kernel
theorem dX11_of_30 : decode cX11_of 30 = .ok (.bipush (-2), 2) := by decide +kernel
theorem dX11_of_32 : decode cX11_of 32 = .ok (.invokevirtual 68, 3) := by decide +kernel
theorem dX11_of_35 : decode cX11_of 35 = .ok (.ireturn, 1) := by decide +kernel
theorem dX11_of_5 : decode cX11_of 5 = .ok (.ifCond .eq 24, 3) := by decide +kernel
theorem dX11_one_0 : decode cX11_one 0 = .ok (.iload_n 1, 1) := by decide +kernel
theorem dX11_one_1 : decode cX11_one 1 = .ok (.invokestatic 72, 3) := by decide +kernel
theorem dX11_one_11 : decode cX11_one 11 = .ok (.ifCond .eq 10, 3) := by decide +kernel
theorem dX11_one_14 : decode cX11_one 14 = .ok (.iload_n 3, 1) := by decide +kernel
theorem dX11_one_15 : decode cX11_one 15 = .ok (.invokestatic 72, 3) := by decide +kernel
theorem dX11_one_18 : decode cX11_one 18 = .ok (.ifCond .ne 10, 3) := by decide +kernel
theorem dX11_one_21 : decode cX11_one 21 = .ok (.aload_n 0, 1) := by decide +kernel
theorem dX11_one_22 : decode cX11_one 22 = .ok (.bipush (-2), 2) := by decide +kernel
theorem dX11_one_24 : decode cX11_one 24 = .ok (.invokevirtual 68, 3) := by decide +kernel
theorem dX11_one_27 : decode cX11_one 27 = .ok (.ireturn, 1) := by decide +kernel
theorem dX11_one_28 : decode cX11_one 28 = .ok (.aload_n 0, 1) := by decide +kernel
theorem dX11_one_29 : decode cX11_one 29 = .ok (.invokevirtual 52, 3) := by decide +kernel
theorem dX11_one_32 : decode cX11_one 32 = .ok (.bipush 6, 2) := by decide +kernel
theorem dX11_one_34 : decode cX11_one 34 = .ok (.if_icmp .ne 8, 3) := by decide +kernel
theorem dX11_one_4 : decode cX11_one 4 = .ok (.ifCond .eq 17, 3) := by decide +kernel
theorem dX11_one_42 : decode cX11_one 42 = .ok (.aload_n 0, 1) := by decide +kernel
theorem dX11_one_43 : decode cX11_one 43 = .ok (.getfield 7, 3) := by decide +kernel
theorem dX11_one_46 : decode cX11_one 46 = .ok (.iload_n 1, 1) := by decide +kernel
theorem dX11_one_47 : decode cX11_one 47 = .ok (.iload_n 2, 1) := by decide +kernel
theorem dX11_one_48 : decode cX11_one 48 = .ok (.iload_n 3, 1) := by decide +kernel
theorem dX11_one_49 : decode cX11_one 49 = .ok (.invokestatic 82, 3) := by decide +kernel
theorem dX11_one_52 : decode cX11_one 52 = .ok (.aload_n 0, 1) := by decide +kernel
theorem dX11_one_53 : decode cX11_one 53 = .ok (.getfield 7, 3) := by decide +kernel
theorem dX11_one_56 : decode cX11_one 56 = .ok (.iconst 4, 1) := by decide +kernel
theorem dX11_one_57 : decode cX11_one 57 = .ok (.iconst 0, 1) := by decide +kernel
theorem dX11_one_58 : decode cX11_one 58 = .ok (.iastore, 1) := by decide +kernel
theorem dX11_one_59 : decode cX11_one 59 = .ok (.aload_n 0, 1) := by decide +kernel
theorem dX11_one_60 : decode cX11_one 60 = .ok (.invokevirtual 52, 3) := by decide +kernel
theorem dX11_one_63 : decode cX11_one 63 = .ok (.iconst 1, 1) := by decide +kernel
theorem dX11_one_64 : decode cX11_one 64 = .ok (.isub, 1) := by decide +kernel
theorem dX11_one_65 : decode cX11_one 65 = .ok (.ireturn, 1) := by decide +kernel
theorem dX11_one_7 : decode cX11_one 7 = .ok (.iload_n 2, 1) := by decide +kernel
theorem dX11_one_8 : decode cX11_one 8 = .ok (.invokestatic 76, 3) := by decide +kernel
theorem dX11_order_0 : decode cX11_order 0 = .ok (.iload_n 1, 1) := by decide +kernel
theorem dX11_order_1 : decode cX11_order 1 = .ok (.ifCond .ge 10, 3) := by decide +kernel
theorem dX11_order_10 : decode cX11_order 10 = .ok (.ireturn, 1) := by decide +kernel
theorem dX11_order_11 : decode cX11_order 11 = .ok (.iload_n 1, 1) := by decide +kernel
theorem dX11_order_12 : decode cX11_order 12 = .ok (.aload_n 0, 1) := by decide +kernel
theorem dX11_order_13 : decode cX11_order 13 = .ok (.invokevirtual 52, 3) := by decide +kernel
theorem dX11_order_16 : decode cX11_order 16 = .ok (.if_icmp .lt 8, 3) := by decide +kernel
theorem dX11_order_19 : decode cX11_order 19 = .ok (.aload_n 0, 1) := by decide +kernel
theorem dX11_order_20 : decode cX11_order 20 = .ok (.invokevirtual 129, 3) := by decide +kernel
theorem dX11_order_23 : decode cX11_order 23 = .ok (.ireturn, 1) := by decide +kernel
theorem dX11_order_4 : decode cX11_order 4 = .ok (.aload_n 0, 1) := by decide +kernel
theorem dX11_order_5 : decode cX11_order 5 = .ok (.bipush (-2), 2) := by decide +kernel
theorem dX11_order_7 : decode cX11_order 7 = .ok (.invokevirtual 68, 3) := by decide +kernel
theorem dX11_pair_0 : decode cX11_pair 0 = .ok (.aload_n 0, 1) := by decide +kernel
theorem dX11_pair_1 : decode cX11_pair 1 = .ok (.iload_n 1, 1) := by decide +kernel
theorem dX11_pair_2 : decode cX11_pair 2 = .ok (.invokevirtual 123, 3) := by decide +kernel
theorem dX11_pair_26 : decode cX11_pair 26 = .ok (.aload_n 0, 1) := by decide +kernel
theorem dX11_pair_27 : decode cX11_pair 27 = .ok (.bipush (-10), 2) := by decide +kernel
theorem dX11_pair_29 : decode cX11_pair 29 = .ok (.invokevirtual 68, 3) := by decide +kernel
theorem dX11_pair_32 : decode cX11_pair 32 = .ok (.ireturn, 1) := by decide +kernel
theorem dX11_pair_5 : decode cX11_pair 5 = .ok (.ifCond .eq 21, 3) := by decide +kernel
theorem dX11_part_0 : decode cX11_part 0 = .ok (.iload_n 1, 1) := by decide +kernel
theorem dX11_part_1 : decode cX11_part 1 = .ok (.ifCond .ne 10, 3) := by decide +kernel
theorem dX11_part_11 : decode cX11_part 11 = .ok (.iload_n 1, 1) := by decide +kernel
theorem dX11_part_12 : decode cX11_part 12 = .ok (.iconst 1, 1) := by decide +kernel
theorem dX11_part_13 : decode cX11_part 13 = .ok (.if_icmp .ne 10, 3) := by decide +kernel
theorem dX11_part_16 : decode cX11_part 16 = .ok (.aload_n 0, 1) := by decide +kernel
theorem dX11_part_17 : decode cX11_part 17 = .ok (.getfield 23, 3) := by decide +kernel
theorem dX11_part_20 : decode cX11_part 20 = .ok (.goto 10, 3) := by decide +kernel
theorem dX11_part_23 : decode cX11_part 23 = .ok (.aload_n 0, 1) := by decide +kernel
theorem dX11_part_24 : decode cX11_part 24 = .ok (.bipush (-2), 2) := by decide +kernel
theorem dX11_part_26 : decode cX11_part 26 = .ok (.invokevirtual 68, 3) := by decide +kernel
theorem dX11_part_29 : decode cX11_part 29 = .ok (.i2l, 1) := by decide +kernel
theorem dX11_part_30 : decode cX11_part 30 = .ok (.lreturn, 1) := by decide +kernel
theorem dX11_part_4 : decode cX11_part 4 = .ok (.aload_n 0, 1) := by decide +kernel
theorem dX11_part_5 : decode cX11_part 5 = .ok (.getfield 182, 3) := by decide +kernel
theorem dX11_part_8 : decode cX11_part 8 = .ok (.goto 22, 3) := by decide +kernel
theorem dX11_race_0 : decode cX11_race 0 = .ok (.iload_n 1, 1) := by decide +kernel
theorem dX11_race_1 : decode cX11_race 1 = .ok (.i2l, 1) := by decide +kernel
theorem dX11_race_11 : decode cX11_race 11 = .ok (.ifCond .ne 10, 3) := by decide +kernel
theorem dX11_race_14 : decode cX11_race 14 = .ok (.aload_n 0, 1) := by decide +kernel
theorem dX11_race_15 : decode cX11_race 15 = .ok (.bipush (-2), 2) := by decide +kernel
theorem dX11_race_17 : decode cX11_race 17 = .ok (.invokevirtual 68, 3) := by decide +kernel
theorem dX11_race_2 : decode cX11_race 2 = .ok (.ldc2_w 64, 3) := by decide +kernel
theorem dX11_race_20 : decode cX11_race 20 = .ok (.ireturn, 1) := by decide +kernel
theorem dX11_race_21 : decode cX11_race 21 = .ok (.aload_n 0, 1) := by decide +kernel
theorem dX11_race_22 : decode cX11_race 22 = .ok (.invokevirtual 52, 3) := by decide +kernel
theorem dX11_race_25 : decode cX11_race 25 = .ok (.istore_n 2, 1) := by decide +kernel
theorem dX11_race_26 : decode cX11_race 26 = .ok (.aload_n 0, 1) := by decide +kernel
theorem dX11_race_27 : decode cX11_race 27 = .ok (.getfield 7, 3) := by decide +kernel
theorem dX11_race_30 : decode cX11_race 30 = .ok (.iload_n 1, 1) := by decide +kernel
theorem dX11_race_31 : decode cX11_race 31 = .ok (.invokestatic 48, 3) := by decide +kernel
theorem dX11_race_34 : decode cX11_race 34 = .ok (.iload_n 2, 1) := by decide +kernel
theorem dX11_race_35 : decode cX11_race 35 = .ok (.ireturn, 1) := by decide +kernel
theorem dX11_race_5 : decode cX11_race 5 = .ok (.ldc2_w 66, 3) := by decide +kernel
theorem dX11_race_8 : decode cX11_race 8 = .ok (.invokestatic 56, 3) := by decide +kernel
theorem dX11_races_0 : decode cX11_races 0 = .ok (.iload_n 1, 1) := by decide +kernel
theorem dX11_races_1 : decode cX11_races 1 = .ok (.i2l, 1) := by decide +kernel
theorem dX11_races_102 : decode cX11_races 102 = .ok (.aload_n 0, 1) := by decide +kernel
theorem dX11_races_103 : decode cX11_races 103 = .ok (.getfield 27, 3) := by decide +kernel
theorem dX11_races_106 : decode cX11_races 106 = .ok (.invokestatic 109, 3) := by decide +kernel
theorem dX11_races_109 : decode cX11_races 109 = .ok (.iinc 5 1, 3) := by decide +kernel
theorem dX11_races_112 : decode cX11_races 112 = .ok (.goto (-71), 3) := by decide +kernel
theorem dX11_races_115 : decode cX11_races 115 = .ok (.aload_n 0, 1) := by decide +kernel
theorem dX11_races_116 : decode cX11_races 116 = .ok (.getfield 27, 3) := by decide +kernel
theorem dX11_races_119 : decode cX11_races 119 = .ok (.invokestatic 119, 3) := by decide +kernel
theorem dX11_races_12 : decode cX11_races 12 = .ok (.iload_n 2, 1) := by decide +kernel
theorem dX11_races_122 : decode cX11_races 122 = .ok (.ireturn, 1) := by decide +kernel
theorem dX11_races_13 : decode cX11_races 13 = .ok (.i2l, 1) := by decide +kernel
theorem dX11_races_14 : decode cX11_races 14 = .ok (.lconst 0, 1) := by decide +kernel
theorem dX11_races_15 : decode cX11_races 15 = .ok (.ldc2_w 66, 3) := by decide +kernel
theorem dX11_races_18 : decode cX11_races 18 = .ok (.invokestatic 56, 3) := by decide +kernel
theorem dX11_races_2 : decode cX11_races 2 = .ok (.lconst 0, 1) := by decide +kernel
theorem dX11_races_21 : decode cX11_races 21 = .ok (.ifCond .ne 10, 3) := by decide +kernel
theorem dX11_races_24 : decode cX11_races 24 = .ok (.aload_n 0, 1) := by decide +kernel
theorem dX11_races_25 : decode cX11_races 25 = .ok (.bipush (-2), 2) := by decide +kernel
theorem dX11_races_27 : decode cX11_races 27 = .ok (.invokevirtual 68, 3) := by decide +kernel
theorem dX11_races_3 : decode cX11_races 3 = .ok (.ldc2_w 191, 3) := by decide +kernel
theorem dX11_races_30 : decode cX11_races 30 = .ok (.ireturn, 1) := by decide +kernel
theorem dX11_races_31 : decode cX11_races 31 = .ok (.iload_n 1, 1) := by decide +kernel
theorem dX11_races_32 : decode cX11_races 32 = .ok (.i2l, 1) := by decide +kernel
theorem dX11_races_33 : decode cX11_races 33 = .ok (.lstore_n 3, 1) := by decide +kernel
theorem dX11_races_34 : decode cX11_races 34 = .ok (.aload_n 0, 1) := by decide +kernel
theorem dX11_races_35 : decode cX11_races 35 = .ok (.invokevirtual 137, 3) := by decide +kernel
theorem dX11_races_38 : decode cX11_races 38 = .ok (.iconst 0, 1) := by decide +kernel
theorem dX11_races_39 : decode cX11_races 39 = .ok (.istore 5, 2) := by decide +kernel
theorem dX11_races_41 : decode cX11_races 41 = .ok (.iload 5, 2) := by decide +kernel
theorem dX11_races_43 : decode cX11_races 43 = .ok (.iload_n 2, 1) := by decide +kernel
theorem dX11_races_44 : decode cX11_races 44 = .ok (.if_icmp .ge 71, 3) := by decide +kernel
theorem dX11_races_47 : decode cX11_races 47 = .ok (.lload_n 3, 1) := by decide +kernel
theorem dX11_races_48 : decode cX11_races 48 = .ok (.ldc2_w 193, 3) := by decide +kernel
theorem dX11_races_51 : decode cX11_races 51 = .ok (.lmul, 1) := by decide +kernel
theorem dX11_races_52 : decode cX11_races 52 = .ok (.ldc2_w 195, 3) := by decide +kernel
theorem dX11_races_55 : decode cX11_races 55 = .ok (.ladd, 1) := by decide +kernel
theorem dX11_races_56 : decode cX11_races 56 = .ok (.ldc2_w 197, 3) := by decide +kernel
theorem dX11_races_59 : decode cX11_races 59 = .ok (.lrem, 1) := by decide +kernel
theorem dX11_races_6 : decode cX11_races 6 = .ok (.invokestatic 56, 3) := by decide +kernel
theorem dX11_races_60 : decode cX11_races 60 = .ok (.lstore_n 3, 1) := by decide +kernel
theorem dX11_races_61 : decode cX11_races 61 = .ok (.lload_n 3, 1) := by decide +kernel
theorem dX11_races_62 : decode cX11_races 62 = .ok (.ldc2_w 199, 3) := by decide +kernel
theorem dX11_races_65 : decode cX11_races 65 = .ok (.ldiv, 1) := by decide +kernel
theorem dX11_races_66 : decode cX11_races 66 = .ok (.ldc2_w 185, 3) := by decide +kernel
theorem dX11_races_69 : decode cX11_races 69 = .ok (.lrem, 1) := by decide +kernel
theorem dX11_races_70 : decode cX11_races 70 = .ok (.l2i, 1) := by decide +kernel
theorem dX11_races_71 : decode cX11_races 71 = .ok (.istore 6, 2) := by decide +kernel
theorem dX11_races_73 : decode cX11_races 73 = .ok (.aload_n 0, 1) := by decide +kernel
theorem dX11_races_74 : decode cX11_races 74 = .ok (.iload 6, 2) := by decide +kernel
theorem dX11_races_76 : decode cX11_races 76 = .ok (.invokevirtual 123, 3) := by decide +kernel
theorem dX11_races_79 : decode cX11_races 79 = .ok (.ifCond .eq 23, 3) := by decide +kernel
theorem dX11_races_9 : decode cX11_races 9 = .ok (.ifCond .eq 15, 3) := by decide +kernel
theorem dX11_read_0 : decode cX11_read 0 = .ok (.aload_n 0, 1) := by decide +kernel
theorem dX11_read_1 : decode cX11_read 1 = .ok (.iconst 0, 1) := by decide +kernel
theorem dX11_read_11 : decode cX11_read 11 = .ok (.bipush 99, 2) := by decide +kernel
theorem dX11_read_13 : decode cX11_read 13 = .ok (.bipush 101, 2) := by decide +kernel
theorem dX11_read_15 : decode cX11_read 15 = .ok (.iconst 0, 1) := by decide +kernel
theorem dX11_read_16 : decode cX11_read 16 = .ok (.iconst 0, 1) := by decide +kernel
theorem dX11_read_17 : decode cX11_read 17 = .ok (.invokevirtual 245, 3) := by decide +kernel
theorem dX11_read_2 : decode cX11_read 2 = .ok (.invokevirtual 235, 3) := by decide +kernel
theorem dX11_read_20 : decode cX11_read 20 = .ok (.ifCond .ne 11, 3) := by decide +kernel
theorem dX11_read_23 : decode cX11_read 23 = .ok (.bipush (-10), 2) := by decide +kernel
theorem dX11_read_25 : decode cX11_read 25 = .ok (.aload_n 0, 1) := by decide +kernel
theorem dX11_read_26 : decode cX11_read 26 = .ok (.getfield 217, 3) := by decide +kernel
theorem dX11_read_29 : decode cX11_read 29 = .ok (.isub, 1) := by decide +kernel
theorem dX11_read_30 : decode cX11_read 30 = .ok (.ireturn, 1) := by decide +kernel
theorem dX11_read_5 : decode cX11_read 5 = .ok (.aload_n 0, 1) := by decide +kernel
theorem dX11_read_6 : decode cX11_read 6 = .ok (.iconst 4, 1) := by decide +kernel
theorem dX11_read_7 : decode cX11_read 7 = .ok (.bipush 114, 2) := by decide +kernel
theorem dX11_read_9 : decode cX11_read 9 = .ok (.bipush 97, 2) := by decide +kernel
theorem dX11_save_0 : decode cX11_save 0 = .ok (.aload_n 0, 1) := by decide +kernel
theorem dX11_save_1 : decode cX11_save 1 = .ok (.getfield 7, 3) := by decide +kernel
theorem dX11_save_100 : decode cX11_save 100 = .ok (.iaload, 1) := by decide +kernel
theorem dX11_save_101 : decode cX11_save 101 = .ok (.iconst 1, 1) := by decide +kernel
theorem dX11_save_102 : decode cX11_save 102 = .ok (.iadd, 1) := by decide +kernel
theorem dX11_save_103 : decode cX11_save 103 = .ok (.iastore, 1) := by decide +kernel
theorem dX11_save_104 : decode cX11_save 104 = .ok (.return_, 1) := by decide +kernel
theorem dX11_save_4 : decode cX11_save 4 = .ok (.iconst 4, 1) := by decide +kernel
theorem dX11_save_5 : decode cX11_save 5 = .ok (.iaload, 1) := by decide +kernel
theorem dX11_save_53 : decode cX11_save 53 = .ok (.iconst 0, 1) := by decide +kernel
theorem dX11_save_54 : decode cX11_save 54 = .ok (.istore_n 1, 1) := by decide +kernel
theorem dX11_save_55 : decode cX11_save 55 = .ok (.iload_n 1, 1) := by decide +kernel
theorem dX11_save_56 : decode cX11_save 56 = .ok (.bipush 31, 2) := by decide +kernel
theorem dX11_save_58 : decode cX11_save 58 = .ok (.if_icmp .ge 36, 3) := by decide +kernel
theorem dX11_save_6 : decode cX11_save 6 = .ok (.bipush 8, 2) := by decide +kernel
theorem dX11_save_61 : decode cX11_save 61 = .ok (.aload_n 0, 1) := by decide +kernel
theorem dX11_save_62 : decode cX11_save 62 = .ok (.getfield 7, 3) := by decide +kernel
theorem dX11_save_65 : decode cX11_save 65 = .ok (.bipush 123, 2) := by decide +kernel
theorem dX11_save_67 : decode cX11_save 67 = .ok (.bipush 31, 2) := by decide +kernel
theorem dX11_save_69 : decode cX11_save 69 = .ok (.aload_n 0, 1) := by decide +kernel
theorem dX11_save_70 : decode cX11_save 70 = .ok (.getfield 7, 3) := by decide +kernel
theorem dX11_save_73 : decode cX11_save 73 = .ok (.iconst 4, 1) := by decide +kernel
theorem dX11_save_74 : decode cX11_save 74 = .ok (.iaload, 1) := by decide +kernel
theorem dX11_save_75 : decode cX11_save 75 = .ok (.imul, 1) := by decide +kernel
theorem dX11_save_76 : decode cX11_save 76 = .ok (.iadd, 1) := by decide +kernel
theorem dX11_save_77 : decode cX11_save 77 = .ok (.iload_n 1, 1) := by decide +kernel
theorem dX11_save_78 : decode cX11_save 78 = .ok (.iadd, 1) := by decide +kernel
theorem dX11_save_79 : decode cX11_save 79 = .ok (.aload_n 0, 1) := by decide +kernel
theorem dX11_save_8 : decode cX11_save 8 = .ok (.if_icmp .ne 45, 3) := by decide +kernel
theorem dX11_save_80 : decode cX11_save 80 = .ok (.getfield 7, 3) := by decide +kernel
theorem dX11_save_83 : decode cX11_save 83 = .ok (.iconst 5, 1) := by decide +kernel
theorem dX11_save_84 : decode cX11_save 84 = .ok (.iload_n 1, 1) := by decide +kernel
theorem dX11_save_85 : decode cX11_save 85 = .ok (.iadd, 1) := by decide +kernel
theorem dX11_save_86 : decode cX11_save 86 = .ok (.iaload, 1) := by decide +kernel
theorem dX11_save_87 : decode cX11_save 87 = .ok (.iastore, 1) := by decide +kernel
theorem dX11_save_88 : decode cX11_save 88 = .ok (.iinc 1 1, 3) := by decide +kernel
theorem dX11_save_91 : decode cX11_save 91 = .ok (.goto (-36), 3) := by decide +kernel
theorem dX11_save_94 : decode cX11_save 94 = .ok (.aload_n 0, 1) := by decide +kernel
theorem dX11_save_95 : decode cX11_save 95 = .ok (.getfield 7, 3) := by decide +kernel
theorem dX11_save_98 : decode cX11_save 98 = .ok (.iconst 4, 1) := by decide +kernel
theorem dX11_save_99 : decode cX11_save 99 = .ok (.dup2, 1) := by decide +kernel
theorem dX11_seen_0 : decode cX11_seen 0 = .ok (.aload_n 0, 1) := by decide +kernel
theorem dX11_seen_1 : decode cX11_seen 1 = .ok (.iload_n 1, 1) := by decide +kernel
theorem dX11_seen_2 : decode cX11_seen 2 = .ok (.invokevirtual 123, 3) := by decide +kernel
theorem dX11_seen_40 : decode cX11_seen 40 = .ok (.aload_n 0, 1) := by decide +kernel
theorem dX11_seen_41 : decode cX11_seen 41 = .ok (.bipush (-2), 2) := by decide +kernel
theorem dX11_seen_43 : decode cX11_seen 43 = .ok (.invokevirtual 68, 3) := by decide +kernel
theorem dX11_seen_46 : decode cX11_seen 46 = .ok (.ireturn, 1) := by decide +kernel
theorem dX11_seen_5 : decode cX11_seen 5 = .ok (.ifCond .eq 35, 3) := by decide +kernel
theorem dX11_speed_0 : decode cX11_speed 0 = .ok (.aload_n 0, 1) := by decide +kernel
theorem dX11_speed_1 : decode cX11_speed 1 = .ok (.iload_n 1, 1) := by decide +kernel
theorem dX11_speed_15 : decode cX11_speed 15 = .ok (.aload_n 0, 1) := by decide +kernel
theorem dX11_speed_16 : decode cX11_speed 16 = .ok (.bipush (-2), 2) := by decide +kernel
theorem dX11_speed_18 : decode cX11_speed 18 = .ok (.invokevirtual 68, 3) := by decide +kernel
theorem dX11_speed_2 : decode cX11_speed 2 = .ok (.invokevirtual 123, 3) := by decide +kernel
theorem dX11_speed_21 : decode cX11_speed 21 = .ok (.ireturn, 1) := by decide +kernel
theorem dX11_speed_5 : decode cX11_speed 5 = .ok (.ifCond .eq 10, 3) := by decide +kernel
theorem dX11_spells_0 : decode cX11_spells 0 = .ok (.aload_n 0, 1) := by decide +kernel
theorem dX11_spells_1 : decode cX11_spells 1 = .ok (.getfield 223, 3) := by decide +kernel
theorem dX11_spells_119 : decode cX11_spells 119 = .ok (.iload 8, 2) := by decide +kernel
theorem dX11_spells_121 : decode cX11_spells 121 = .ok (.ireturn, 1) := by decide +kernel
theorem dX11_spells_20 : decode cX11_spells 20 = .ok (.iconst 0, 1) := by decide +kernel
theorem dX11_spells_21 : decode cX11_spells 21 = .ok (.istore 8, 2) := by decide +kernel
theorem dX11_spells_23 : decode cX11_spells 23 = .ok (.iconst 0, 1) := by decide +kernel
theorem dX11_spells_24 : decode cX11_spells 24 = .ok (.istore 9, 2) := by decide +kernel
theorem dX11_spells_26 : decode cX11_spells 26 = .ok (.iload 9, 2) := by decide +kernel
theorem dX11_spells_28 : decode cX11_spells 28 = .ok (.iload_n 1, 1) := by decide +kernel
theorem dX11_spells_29 : decode cX11_spells 29 = .ok (.if_icmp .ge 90, 3) := by decide +kernel
theorem dX11_spells_32 : decode cX11_spells 32 = .ok (.iload 8, 2) := by decide +kernel
theorem dX11_spells_34 : decode cX11_spells 34 = .ok (.ifCond .eq 85, 3) := by decide +kernel
theorem dX11_spells_4 : decode cX11_spells 4 = .ok (.iconst 1, 1) := by decide +kernel
theorem dX11_spells_5 : decode cX11_spells 5 = .ok (.if_icmp .ne 15, 3) := by decide +kernel
theorem dX11_start_0 : decode cX11_start 0 = .ok (.aload_n 0, 1) := by decide +kernel
theorem dX11_start_1 : decode cX11_start 1 = .ok (.iload_n 1, 1) := by decide +kernel
theorem dX11_start_2 : decode cX11_start 2 = .ok (.invokevirtual 123, 3) := by decide +kernel
theorem dX11_start_20 : decode cX11_start 20 = .ok (.aload_n 0, 1) := by decide +kernel
theorem dX11_start_21 : decode cX11_start 21 = .ok (.bipush (-2), 2) := by decide +kernel
theorem dX11_start_23 : decode cX11_start 23 = .ok (.invokevirtual 68, 3) := by decide +kernel
theorem dX11_start_26 : decode cX11_start 26 = .ok (.ireturn, 1) := by decide +kernel
theorem dX11_start_5 : decode cX11_start 5 = .ok (.ifCond .eq 15, 3) := by decide +kernel
theorem dX11_status_0 : decode cX11_status 0 = .ok (.iload_n 1, 1) := by decide +kernel
theorem dX11_status_1 : decode cX11_status 1 = .ok (.i2l, 1) := by decide +kernel
theorem dX11_status_12 : decode cX11_status 12 = .ok (.aload_n 0, 1) := by decide +kernel
theorem dX11_status_13 : decode cX11_status 13 = .ok (.getfield 20, 3) := by decide +kernel
theorem dX11_status_16 : decode cX11_status 16 = .ok (.iload_n 1, 1) := by decide +kernel
theorem dX11_status_17 : decode cX11_status 17 = .ok (.iaload, 1) := by decide +kernel
theorem dX11_status_18 : decode cX11_status 18 = .ok (.goto 8, 3) := by decide +kernel
theorem dX11_status_2 : decode cX11_status 2 = .ok (.lconst 0, 1) := by decide +kernel
theorem dX11_status_21 : decode cX11_status 21 = .ok (.aload_n 0, 1) := by decide +kernel
theorem dX11_status_22 : decode cX11_status 22 = .ok (.iconst (-1), 1) := by decide +kernel
theorem dX11_status_23 : decode cX11_status 23 = .ok (.invokevirtual 68, 3) := by decide +kernel
theorem dX11_status_26 : decode cX11_status 26 = .ok (.ireturn, 1) := by decide +kernel
theorem dX11_status_3 : decode cX11_status 3 = .ok (.ldc2_w 156, 3) := by decide +kernel
theorem dX11_status_6 : decode cX11_status 6 = .ok (.invokestatic 56, 3) := by decide +kernel
theorem dX11_status_9 : decode cX11_status 9 = .ok (.ifCond .eq 12, 3) := by decide +kernel
theorem dX11_strong_0 : decode cX11_strong 0 = .ok (.aload_n 0, 1) := by decide +kernel
theorem dX11_strong_1 : decode cX11_strong 1 = .ok (.iload_n 1, 1) := by decide +kernel
theorem dX11_strong_2 : decode cX11_strong 2 = .ok (.invokevirtual 123, 3) := by decide +kernel
theorem dX11_strong_20 : decode cX11_strong 20 = .ok (.aload_n 0, 1) := by decide +kernel
theorem dX11_strong_21 : decode cX11_strong 21 = .ok (.bipush (-2), 2) := by decide +kernel
theorem dX11_strong_23 : decode cX11_strong 23 = .ok (.invokevirtual 68, 3) := by decide +kernel
theorem dX11_strong_26 : decode cX11_strong 26 = .ok (.ireturn, 1) := by decide +kernel
theorem dX11_strong_5 : decode cX11_strong 5 = .ok (.ifCond .eq 15, 3) := by decide +kernel
theorem dX11_stumble_0 : decode cX11_stumble 0 = .ok (.aload_n 0, 1) := by decide +kernel
theorem dX11_stumble_1 : decode cX11_stumble 1 = .ok (.iload_n 1, 1) := by decide +kernel
theorem dX11_stumble_2 : decode cX11_stumble 2 = .ok (.invokevirtual 123, 3) := by decide +kernel
theorem dX11_stumble_45 : decode cX11_stumble 45 = .ok (.aload_n 0, 1) := by decide +kernel
theorem dX11_stumble_46 : decode cX11_stumble 46 = .ok (.bipush (-2), 2) := by decide +kernel
theorem dX11_stumble_48 : decode cX11_stumble 48 = .ok (.invokevirtual 68, 3) := by decide +kernel
theorem dX11_stumble_5 : decode cX11_stumble 5 = .ok (.ifCond .eq 40, 3) := by decide +kernel
theorem dX11_stumble_51 : decode cX11_stumble 51 = .ok (.ireturn, 1) := by decide +kernel
theorem dX11_sumOf_0 : decode cX11_sumOf 0 = .ok (.iconst 0, 1) := by decide +kernel
theorem dX11_sumOf_1 : decode cX11_sumOf 1 = .ok (.istore_n 2, 1) := by decide +kernel
theorem dX11_sumOf_2 : decode cX11_sumOf 2 = .ok (.iconst 0, 1) := by decide +kernel
theorem dX11_sumOf_29 : decode cX11_sumOf 29 = .ok (.iload_n 2, 1) := by decide +kernel
theorem dX11_sumOf_3 : decode cX11_sumOf 3 = .ok (.istore_n 3, 1) := by decide +kernel
theorem dX11_sumOf_30 : decode cX11_sumOf 30 = .ok (.ireturn, 1) := by decide +kernel
theorem dX11_sumOf_4 : decode cX11_sumOf 4 = .ok (.iload_n 3, 1) := by decide +kernel
theorem dX11_sumOf_5 : decode cX11_sumOf 5 = .ok (.aload_n 0, 1) := by decide +kernel
theorem dX11_sumOf_6 : decode cX11_sumOf 6 = .ok (.invokevirtual 52, 3) := by decide +kernel
theorem dX11_sumOf_9 : decode cX11_sumOf 9 = .ok (.if_icmp .ge 20, 3) := by decide +kernel
theorem dX11_sums_0 : decode cX11_sums 0 = .ok (.lload_n 1, 1) := by decide +kernel
theorem dX11_sums_1 : decode cX11_sums 1 = .ok (.lstore 5, 2) := by decide +kernel
theorem dX11_sums_10 : decode cX11_sums 10 = .ok (.if_icmp .ge 28, 3) := by decide +kernel
theorem dX11_sums_3 : decode cX11_sums 3 = .ok (.iconst 0, 1) := by decide +kernel
theorem dX11_sums_38 : decode cX11_sums 38 = .ok (.lload 5, 2) := by decide +kernel
theorem dX11_sums_4 : decode cX11_sums 4 = .ok (.istore 7, 2) := by decide +kernel
theorem dX11_sums_40 : decode cX11_sums 40 = .ok (.lreturn, 1) := by decide +kernel
theorem dX11_sums_6 : decode cX11_sums 6 = .ok (.iload 7, 2) := by decide +kernel
theorem dX11_sums_8 : decode cX11_sums 8 = .ok (.iload 4, 2) := by decide +kernel
theorem dX11_tell_0 : decode cX11_tell 0 = .ok (.aload_n 0, 1) := by decide +kernel
theorem dX11_tell_1 : decode cX11_tell 1 = .ok (.iload_n 1, 1) := by decide +kernel
theorem dX11_tell_11 : decode cX11_tell 11 = .ok (.invokevirtual 68, 3) := by decide +kernel
theorem dX11_tell_14 : decode cX11_tell 14 = .ok (.ireturn, 1) := by decide +kernel
theorem dX11_tell_2 : decode cX11_tell 2 = .ok (.invokevirtual 123, 3) := by decide +kernel
theorem dX11_tell_5 : decode cX11_tell 5 = .ok (.ifCond .ne 10, 3) := by decide +kernel
theorem dX11_tell_8 : decode cX11_tell 8 = .ok (.aload_n 0, 1) := by decide +kernel
theorem dX11_tell_9 : decode cX11_tell 9 = .ok (.bipush (-2), 2) := by decide +kernel
theorem dX11_ticks_0 : decode cX11_ticks 0 = .ok (.iload_n 1, 1) := by decide +kernel
theorem dX11_ticks_1 : decode cX11_ticks 1 = .ok (.i2l, 1) := by decide +kernel
theorem dX11_ticks_12 : decode cX11_ticks 12 = .ok (.aload_n 0, 1) := by decide +kernel
theorem dX11_ticks_13 : decode cX11_ticks 13 = .ok (.bipush (-2), 2) := by decide +kernel
theorem dX11_ticks_15 : decode cX11_ticks 15 = .ok (.invokevirtual 68, 3) := by decide +kernel
theorem dX11_ticks_18 : decode cX11_ticks 18 = .ok (.ireturn, 1) := by decide +kernel
theorem dX11_ticks_19 : decode cX11_ticks 19 = .ok (.aload_n 0, 1) := by decide +kernel
theorem dX11_ticks_2 : decode cX11_ticks 2 = .ok (.lconst 1, 1) := by decide +kernel
theorem dX11_ticks_20 : decode cX11_ticks 20 = .ok (.invokevirtual 113, 3) := by decide +kernel
theorem dX11_ticks_23 : decode cX11_ticks 23 = .ok (.aload_n 0, 1) := by decide +kernel
theorem dX11_ticks_24 : decode cX11_ticks 24 = .ok (.getfield 7, 3) := by decide +kernel
theorem dX11_ticks_27 : decode cX11_ticks 27 = .ok (.iload_n 1, 1) := by decide +kernel
theorem dX11_ticks_28 : decode cX11_ticks 28 = .ok (.invokestatic 116, 3) := by decide +kernel
theorem dX11_ticks_3 : decode cX11_ticks 3 = .ok (.ldc2_w 66, 3) := by decide +kernel
theorem dX11_ticks_31 : decode cX11_ticks 31 = .ok (.aload_n 0, 1) := by decide +kernel
theorem dX11_ticks_32 : decode cX11_ticks 32 = .ok (.getfield 7, 3) := by decide +kernel
theorem dX11_ticks_35 : decode cX11_ticks 35 = .ok (.invokestatic 119, 3) := by decide +kernel
theorem dX11_ticks_38 : decode cX11_ticks 38 = .ok (.ireturn, 1) := by decide +kernel
theorem dX11_ticks_6 : decode cX11_ticks 6 = .ok (.invokestatic 56, 3) := by decide +kernel
theorem dX11_ticks_9 : decode cX11_ticks 9 = .ok (.ifCond .ne 10, 3) := by decide +kernel
theorem dX11_turn_0 : decode cX11_turn 0 = .ok (.aload_n 0, 1) := by decide +kernel
theorem dX11_turn_1 : decode cX11_turn 1 = .ok (.iload_n 1, 1) := by decide +kernel
theorem dX11_turn_2 : decode cX11_turn 2 = .ok (.invokevirtual 123, 3) := by decide +kernel
theorem dX11_turn_25 : decode cX11_turn 25 = .ok (.aload_n 0, 1) := by decide +kernel
theorem dX11_turn_26 : decode cX11_turn 26 = .ok (.bipush (-2), 2) := by decide +kernel
theorem dX11_turn_28 : decode cX11_turn 28 = .ok (.invokevirtual 68, 3) := by decide +kernel
theorem dX11_turn_31 : decode cX11_turn 31 = .ok (.ireturn, 1) := by decide +kernel
theorem dX11_turn_5 : decode cX11_turn 5 = .ok (.ifCond .eq 20, 3) := by decide +kernel
theorem dX11_type_0 : decode cX11_type 0 = .ok (.iload_n 1, 1) := by decide +kernel
theorem dX11_type_1 : decode cX11_type 1 = .ok (.i2l, 1) := by decide +kernel
theorem dX11_type_12 : decode cX11_type 12 = .ok (.aload_n 0, 1) := by decide +kernel
theorem dX11_type_13 : decode cX11_type 13 = .ok (.bipush (-2), 2) := by decide +kernel
theorem dX11_type_15 : decode cX11_type 15 = .ok (.invokevirtual 68, 3) := by decide +kernel
theorem dX11_type_18 : decode cX11_type 18 = .ok (.ireturn, 1) := by decide +kernel
theorem dX11_type_19 : decode cX11_type 19 = .ok (.aload_n 0, 1) := by decide +kernel
theorem dX11_type_2 : decode cX11_type 2 = .ok (.lconst 0, 1) := by decide +kernel
theorem dX11_type_20 : decode cX11_type 20 = .ok (.getfield 205, 3) := by decide +kernel
theorem dX11_type_23 : decode cX11_type 23 = .ok (.sipush 150, 3) := by decide +kernel
theorem dX11_type_26 : decode cX11_type 26 = .ok (.if_icmp .ne 8, 3) := by decide +kernel
theorem dX11_type_3 : decode cX11_type 3 = .ok (.ldc2_w 203, 3) := by decide +kernel
theorem dX11_type_34 : decode cX11_type 34 = .ok (.aload_n 0, 1) := by decide +kernel
theorem dX11_type_35 : decode cX11_type 35 = .ok (.getfield 39, 3) := by decide +kernel
theorem dX11_type_38 : decode cX11_type 38 = .ok (.aload_n 0, 1) := by decide +kernel
theorem dX11_type_39 : decode cX11_type 39 = .ok (.getfield 205, 3) := by decide +kernel
theorem dX11_type_42 : decode cX11_type 42 = .ok (.iload_n 1, 1) := by decide +kernel
theorem dX11_type_43 : decode cX11_type 43 = .ok (.iastore, 1) := by decide +kernel
theorem dX11_type_44 : decode cX11_type 44 = .ok (.aload_n 0, 1) := by decide +kernel
theorem dX11_type_45 : decode cX11_type 45 = .ok (.dup, 1) := by decide +kernel
theorem dX11_type_46 : decode cX11_type 46 = .ok (.getfield 205, 3) := by decide +kernel
theorem dX11_type_49 : decode cX11_type 49 = .ok (.iconst 1, 1) := by decide +kernel
theorem dX11_type_50 : decode cX11_type 50 = .ok (.iadd, 1) := by decide +kernel
theorem dX11_type_51 : decode cX11_type 51 = .ok (.putfield 205, 3) := by decide +kernel
theorem dX11_type_54 : decode cX11_type 54 = .ok (.aload_n 0, 1) := by decide +kernel
theorem dX11_type_55 : decode cX11_type 55 = .ok (.getfield 205, 3) := by decide +kernel
theorem dX11_type_58 : decode cX11_type 58 = .ok (.ireturn, 1) := by decide +kernel
theorem dX11_type_6 : decode cX11_type 6 = .ok (.invokestatic 56, 3) := by decide +kernel
theorem dX11_type_9 : decode cX11_type 9 = .ok (.ifCond .ne 10, 3) := by decide +kernel
theorem dX11_undo_0 : decode cX11_undo 0 = .ok (.aload_n 0, 1) := by decide +kernel
theorem dX11_undo_1 : decode cX11_undo 1 = .ok (.getfield 7, 3) := by decide +kernel
theorem dX11_undo_10 : decode cX11_undo 10 = .ok (.invokevirtual 129, 3) := by decide +kernel
theorem dX11_undo_13 : decode cX11_undo 13 = .ok (.ireturn, 1) := by decide +kernel
theorem dX11_undo_4 : decode cX11_undo 4 = .ok (.iconst 4, 1) := by decide +kernel
theorem dX11_undo_5 : decode cX11_undo 5 = .ok (.iaload, 1) := by decide +kernel
theorem dX11_undo_6 : decode cX11_undo 6 = .ok (.ifCond .ne 8, 3) := by decide +kernel
theorem dX11_undo_9 : decode cX11_undo 9 = .ok (.aload_n 0, 1) := by decide +kernel
theorem dX11_where_0 : decode cX11_where 0 = .ok (.aload_n 0, 1) := by decide +kernel
theorem dX11_where_1 : decode cX11_where 1 = .ok (.iload_n 1, 1) := by decide +kernel
theorem dX11_where_2 : decode cX11_where 2 = .ok (.invokevirtual 123, 3) := by decide +kernel
theorem dX11_where_20 : decode cX11_where 20 = .ok (.aload_n 0, 1) := by decide +kernel
theorem dX11_where_21 : decode cX11_where 21 = .ok (.bipush (-2), 2) := by decide +kernel
theorem dX11_where_23 : decode cX11_where 23 = .ok (.invokevirtual 68, 3) := by decide +kernel
theorem dX11_where_26 : decode cX11_where 26 = .ok (.ireturn, 1) := by decide +kernel
theorem dX11_where_5 : decode cX11_where 5 = .ok (.ifCond .eq 15, 3) := by decide +kernel
theorem dX3_init_0 : decode cX3_init 0 = .ok (.aload_n 0, 1) := by decide +kernel
theorem dX3_init_1 : decode cX3_init 1 = .ok (.invokespecial 1, 3) := by decide +kernel
theorem dX3_init_4 : decode cX3_init 4 = .ok (.return_, 1) := by decide +kernel
theorem dX4_copyFrom_0 : decode cX4_copyFrom 0 = .ok (.aload_n 0, 1) := by decide +kernel
theorem dX4_copyFrom_1 : decode cX4_copyFrom 1 = .ok (.aload_n 1, 1) := by decide +kernel
theorem dX4_copyFrom_12 : decode cX4_copyFrom 12 = .ok (.iconst 0, 1) := by decide +kernel
theorem dX4_copyFrom_13 : decode cX4_copyFrom 13 = .ok (.aload_n 0, 1) := by decide +kernel
theorem dX4_copyFrom_14 : decode cX4_copyFrom 14 = .ok (.getfield 11, 3) := by decide +kernel
theorem dX4_copyFrom_17 : decode cX4_copyFrom 17 = .ok (.iconst 0, 1) := by decide +kernel
theorem dX4_copyFrom_18 : decode cX4_copyFrom 18 = .ok (.aload_n 1, 1) := by decide +kernel
theorem dX4_copyFrom_19 : decode cX4_copyFrom 19 = .ok (.getfield 15, 3) := by decide +kernel
theorem dX4_copyFrom_2 : decode cX4_copyFrom 2 = .ok (.getfield 15, 3) := by decide +kernel
theorem dX4_copyFrom_22 : decode cX4_copyFrom 22 = .ok (.bipush 31, 2) := by decide +kernel
theorem dX4_copyFrom_24 : decode cX4_copyFrom 24 = .ok (.imul, 1) := by decide +kernel
theorem dX4_copyFrom_25 : decode cX4_copyFrom 25 = .ok (.invokestatic 19, 3) := by decide +kernel
theorem dX4_copyFrom_28 : decode cX4_copyFrom 28 = .ok (.return_, 1) := by decide +kernel
theorem dX4_copyFrom_5 : decode cX4_copyFrom 5 = .ok (.putfield 15, 3) := by decide +kernel
theorem dX4_copyFrom_8 : decode cX4_copyFrom 8 = .ok (.aload_n 1, 1) := by decide +kernel
theorem dX4_copyFrom_9 : decode cX4_copyFrom 9 = .ok (.getfield 11, 3) := by decide +kernel
theorem dX4_init_0 : decode cX4_init 0 = .ok (.aload_n 0, 1) := by decide +kernel
theorem dX4_init_1 : decode cX4_init 1 = .ok (.invokespecial 5, 3) := by decide +kernel
theorem dX4_init_10 : decode cX4_init 10 = .ok (.putfield 11, 3) := by decide +kernel
theorem dX4_init_13 : decode cX4_init 13 = .ok (.aload_n 0, 1) := by decide +kernel
theorem dX4_init_14 : decode cX4_init 14 = .ok (.iconst 0, 1) := by decide +kernel
theorem dX4_init_15 : decode cX4_init 15 = .ok (.putfield 15, 3) := by decide +kernel
theorem dX4_init_18 : decode cX4_init 18 = .ok (.return_, 1) := by decide +kernel
theorem dX4_init_4 : decode cX4_init 4 = .ok (.aload_n 0, 1) := by decide +kernel
theorem dX4_init_5 : decode cX4_init 5 = .ok (.sipush 248, 3) := by decide +kernel
theorem dX4_init_8 : decode cX4_init 8 = .ok (.newarray .int, 2) := by decide +kernel
theorem dX4_pop_0 : decode cX4_pop 0 = .ok (.aload_n 0, 1) := by decide +kernel
theorem dX4_pop_1 : decode cX4_pop 1 = .ok (.getfield 15, 3) := by decide +kernel
theorem dX4_pop_4 : decode cX4_pop 4 = .ok (.ifCond .gt 5, 3) := by decide +kernel
theorem dX4_pop_7 : decode cX4_pop 7 = .ok (.iconst (-1), 1) := by decide +kernel
theorem dX4_pop_8 : decode cX4_pop 8 = .ok (.ireturn, 1) := by decide +kernel
theorem dX4_push_0 : decode cX4_push 0 = .ok (.aload_n 0, 1) := by decide +kernel
theorem dX4_push_1 : decode cX4_push 1 = .ok (.getfield 15, 3) := by decide +kernel
theorem dX4_push_101 : decode cX4_push 101 = .ok (.iload 5, 2) := by decide +kernel
theorem dX4_push_103 : decode cX4_push 103 = .ok (.iconst 2, 1) := by decide +kernel
theorem dX4_push_104 : decode cX4_push 104 = .ok (.iadd, 1) := by decide +kernel
theorem dX4_push_105 : decode cX4_push 105 = .ok (.aload_n 2, 1) := by decide +kernel
theorem dX4_push_106 : decode cX4_push 106 = .ok (.iload 4, 2) := by decide +kernel
theorem dX4_push_108 : decode cX4_push 108 = .ok (.aaload, 1) := by decide +kernel
theorem dX4_push_109 : decode cX4_push 109 = .ok (.getfield 33, 3) := by decide +kernel
theorem dX4_push_112 : decode cX4_push 112 = .ok (.iastore, 1) := by decide +kernel
theorem dX4_push_113 : decode cX4_push 113 = .ok (.aload_n 0, 1) := by decide +kernel
theorem dX4_push_114 : decode cX4_push 114 = .ok (.getfield 11, 3) := by decide +kernel
theorem dX4_push_117 : decode cX4_push 117 = .ok (.iload 5, 2) := by decide +kernel
theorem dX4_push_119 : decode cX4_push 119 = .ok (.iconst 3, 1) := by decide +kernel
theorem dX4_push_120 : decode cX4_push 120 = .ok (.iadd, 1) := by decide +kernel
theorem dX4_push_121 : decode cX4_push 121 = .ok (.aload_n 2, 1) := by decide +kernel
theorem dX4_push_122 : decode cX4_push 122 = .ok (.iload 4, 2) := by decide +kernel
theorem dX4_push_124 : decode cX4_push 124 = .ok (.aaload, 1) := by decide +kernel
theorem dX4_push_125 : decode cX4_push 125 = .ok (.getfield 36, 3) := by decide +kernel
theorem dX4_push_128 : decode cX4_push 128 = .ok (.iastore, 1) := by decide +kernel
theorem dX4_push_129 : decode cX4_push 129 = .ok (.aload_n 0, 1) := by decide +kernel
theorem dX4_push_130 : decode cX4_push 130 = .ok (.getfield 11, 3) := by decide +kernel
theorem dX4_push_133 : decode cX4_push 133 = .ok (.iload 5, 2) := by decide +kernel
theorem dX4_push_135 : decode cX4_push 135 = .ok (.iconst 4, 1) := by decide +kernel
theorem dX4_push_136 : decode cX4_push 136 = .ok (.iadd, 1) := by decide +kernel
theorem dX4_push_137 : decode cX4_push 137 = .ok (.aload_n 2, 1) := by decide +kernel
theorem dX4_push_138 : decode cX4_push 138 = .ok (.iload 4, 2) := by decide +kernel
theorem dX4_push_140 : decode cX4_push 140 = .ok (.aaload, 1) := by decide +kernel
theorem dX4_push_141 : decode cX4_push 141 = .ok (.getfield 39, 3) := by decide +kernel
theorem dX4_push_144 : decode cX4_push 144 = .ok (.iastore, 1) := by decide +kernel
theorem dX4_push_145 : decode cX4_push 145 = .ok (.iinc 4 1, 3) := by decide +kernel
theorem dX4_push_148 : decode cX4_push 148 = .ok (.goto (-98), 3) := by decide +kernel
theorem dX4_push_151 : decode cX4_push 151 = .ok (.aload_n 0, 1) := by decide +kernel
theorem dX4_push_152 : decode cX4_push 152 = .ok (.dup, 1) := by decide +kernel
theorem dX4_push_153 : decode cX4_push 153 = .ok (.getfield 15, 3) := by decide +kernel
theorem dX4_push_156 : decode cX4_push 156 = .ok (.iconst 1, 1) := by decide +kernel
theorem dX4_push_157 : decode cX4_push 157 = .ok (.iadd, 1) := by decide +kernel
theorem dX4_push_158 : decode cX4_push 158 = .ok (.putfield 15, 3) := by decide +kernel
theorem dX4_push_161 : decode cX4_push 161 = .ok (.return_, 1) := by decide +kernel
theorem dX4_push_32 : decode cX4_push 32 = .ok (.aload_n 0, 1) := by decide +kernel
theorem dX4_push_33 : decode cX4_push 33 = .ok (.getfield 15, 3) := by decide +kernel
theorem dX4_push_36 : decode cX4_push 36 = .ok (.bipush 31, 2) := by decide +kernel
theorem dX4_push_38 : decode cX4_push 38 = .ok (.imul, 1) := by decide +kernel
theorem dX4_push_39 : decode cX4_push 39 = .ok (.istore_n 3, 1) := by decide +kernel
theorem dX4_push_4 : decode cX4_push 4 = .ok (.bipush 8, 2) := by decide +kernel
theorem dX4_push_40 : decode cX4_push 40 = .ok (.aload_n 0, 1) := by decide +kernel
theorem dX4_push_41 : decode cX4_push 41 = .ok (.getfield 11, 3) := by decide +kernel
theorem dX4_push_44 : decode cX4_push 44 = .ok (.iload_n 3, 1) := by decide +kernel
theorem dX4_push_45 : decode cX4_push 45 = .ok (.iload_n 1, 1) := by decide +kernel
theorem dX4_push_46 : decode cX4_push 46 = .ok (.iastore, 1) := by decide +kernel
theorem dX4_push_47 : decode cX4_push 47 = .ok (.iconst 0, 1) := by decide +kernel
theorem dX4_push_48 : decode cX4_push 48 = .ok (.istore 4, 2) := by decide +kernel
theorem dX4_push_50 : decode cX4_push 50 = .ok (.iload 4, 2) := by decide +kernel
theorem dX4_push_52 : decode cX4_push 52 = .ok (.bipush 6, 2) := by decide +kernel
theorem dX4_push_54 : decode cX4_push 54 = .ok (.if_icmp .ge 97, 3) := by decide +kernel
theorem dX4_push_57 : decode cX4_push 57 = .ok (.iload_n 3, 1) := by decide +kernel
theorem dX4_push_58 : decode cX4_push 58 = .ok (.iconst 1, 1) := by decide +kernel
theorem dX4_push_59 : decode cX4_push 59 = .ok (.iadd, 1) := by decide +kernel
theorem dX4_push_6 : decode cX4_push 6 = .ok (.if_icmp .lt 26, 3) := by decide +kernel
theorem dX4_push_60 : decode cX4_push 60 = .ok (.iload 4, 2) := by decide +kernel
theorem dX4_push_62 : decode cX4_push 62 = .ok (.iconst 5, 1) := by decide +kernel
theorem dX4_push_63 : decode cX4_push 63 = .ok (.imul, 1) := by decide +kernel
theorem dX4_push_64 : decode cX4_push 64 = .ok (.iadd, 1) := by decide +kernel
theorem dX4_push_65 : decode cX4_push 65 = .ok (.istore 5, 2) := by decide +kernel
theorem dX4_push_67 : decode cX4_push 67 = .ok (.aload_n 0, 1) := by decide +kernel
theorem dX4_push_68 : decode cX4_push 68 = .ok (.getfield 11, 3) := by decide +kernel
theorem dX4_push_71 : decode cX4_push 71 = .ok (.iload 5, 2) := by decide +kernel
theorem dX4_push_73 : decode cX4_push 73 = .ok (.aload_n 2, 1) := by decide +kernel
theorem dX4_push_74 : decode cX4_push 74 = .ok (.iload 4, 2) := by decide +kernel
theorem dX4_push_76 : decode cX4_push 76 = .ok (.aaload, 1) := by decide +kernel
theorem dX4_push_77 : decode cX4_push 77 = .ok (.getfield 25, 3) := by decide +kernel
theorem dX4_push_80 : decode cX4_push 80 = .ok (.iastore, 1) := by decide +kernel
theorem dX4_push_81 : decode cX4_push 81 = .ok (.aload_n 0, 1) := by decide +kernel
theorem dX4_push_82 : decode cX4_push 82 = .ok (.getfield 11, 3) := by decide +kernel
theorem dX4_push_85 : decode cX4_push 85 = .ok (.iload 5, 2) := by decide +kernel
theorem dX4_push_87 : decode cX4_push 87 = .ok (.iconst 1, 1) := by decide +kernel
theorem dX4_push_88 : decode cX4_push 88 = .ok (.iadd, 1) := by decide +kernel
theorem dX4_push_89 : decode cX4_push 89 = .ok (.aload_n 2, 1) := by decide +kernel
theorem dX4_push_90 : decode cX4_push 90 = .ok (.iload 4, 2) := by decide +kernel
theorem dX4_push_92 : decode cX4_push 92 = .ok (.aaload, 1) := by decide +kernel
theorem dX4_push_93 : decode cX4_push 93 = .ok (.getfield 30, 3) := by decide +kernel
theorem dX4_push_96 : decode cX4_push 96 = .ok (.iastore, 1) := by decide +kernel
theorem dX4_push_97 : decode cX4_push 97 = .ok (.aload_n 0, 1) := by decide +kernel
theorem dX4_push_98 : decode cX4_push 98 = .ok (.getfield 11, 3) := by decide +kernel
theorem dX5_copyFrom_0 : decode cX5_copyFrom 0 = .ok (.aload_n 0, 1) := by decide +kernel
theorem dX5_copyFrom_1 : decode cX5_copyFrom 1 = .ok (.aload_n 1, 1) := by decide +kernel
theorem dX5_copyFrom_10 : decode cX5_copyFrom 10 = .ok (.getfield 30, 3) := by decide +kernel
theorem dX5_copyFrom_13 : decode cX5_copyFrom 13 = .ok (.invokevirtual 66, 3) := by decide +kernel
theorem dX5_copyFrom_16 : decode cX5_copyFrom 16 = .ok (.aload_n 0, 1) := by decide +kernel
theorem dX5_copyFrom_17 : decode cX5_copyFrom 17 = .ok (.getfield 39, 3) := by decide +kernel
theorem dX5_copyFrom_2 : decode cX5_copyFrom 2 = .ok (.invokevirtual 62, 3) := by decide +kernel
theorem dX5_copyFrom_20 : decode cX5_copyFrom 20 = .ok (.aload_n 1, 1) := by decide +kernel
theorem dX5_copyFrom_21 : decode cX5_copyFrom 21 = .ok (.getfield 39, 3) := by decide +kernel
theorem dX5_copyFrom_24 : decode cX5_copyFrom 24 = .ok (.invokevirtual 69, 3) := by decide +kernel
theorem dX5_copyFrom_27 : decode cX5_copyFrom 27 = .ok (.aload_n 0, 1) := by decide +kernel
theorem dX5_copyFrom_28 : decode cX5_copyFrom 28 = .ok (.getfield 43, 3) := by decide +kernel
theorem dX5_copyFrom_31 : decode cX5_copyFrom 31 = .ok (.aload_n 1, 1) := by decide +kernel
theorem dX5_copyFrom_32 : decode cX5_copyFrom 32 = .ok (.getfield 43, 3) := by decide +kernel
theorem dX5_copyFrom_35 : decode cX5_copyFrom 35 = .ok (.invokevirtual 69, 3) := by decide +kernel
theorem dX5_copyFrom_38 : decode cX5_copyFrom 38 = .ok (.aload_n 0, 1) := by decide +kernel
theorem dX5_copyFrom_39 : decode cX5_copyFrom 39 = .ok (.getfield 46, 3) := by decide +kernel
theorem dX5_copyFrom_42 : decode cX5_copyFrom 42 = .ok (.aload_n 1, 1) := by decide +kernel
theorem dX5_copyFrom_43 : decode cX5_copyFrom 43 = .ok (.getfield 46, 3) := by decide +kernel
theorem dX5_copyFrom_46 : decode cX5_copyFrom 46 = .ok (.invokevirtual 69, 3) := by decide +kernel
theorem dX5_copyFrom_49 : decode cX5_copyFrom 49 = .ok (.return_, 1) := by decide +kernel
theorem dX5_copyFrom_5 : decode cX5_copyFrom 5 = .ok (.aload_n 0, 1) := by decide +kernel
theorem dX5_copyFrom_6 : decode cX5_copyFrom 6 = .ok (.getfield 30, 3) := by decide +kernel
theorem dX5_copyFrom_9 : decode cX5_copyFrom 9 = .ok (.aload_n 1, 1) := by decide +kernel
theorem dX5_copyLine_0 : decode cX5_copyLine 0 = .ok (.aload_n 0, 1) := by decide +kernel
theorem dX5_copyLine_1 : decode cX5_copyLine 1 = .ok (.aload_n 1, 1) := by decide +kernel
theorem dX5_copyLine_10 : decode cX5_copyLine 10 = .ok (.getfield 15, 3) := by decide +kernel
theorem dX5_copyLine_13 : decode cX5_copyLine 13 = .ok (.putfield 15, 3) := by decide +kernel
theorem dX5_copyLine_16 : decode cX5_copyLine 16 = .ok (.aload_n 0, 1) := by decide +kernel
theorem dX5_copyLine_17 : decode cX5_copyLine 17 = .ok (.aload_n 1, 1) := by decide +kernel
theorem dX5_copyLine_18 : decode cX5_copyLine 18 = .ok (.getfield 18, 3) := by decide +kernel
theorem dX5_copyLine_2 : decode cX5_copyLine 2 = .ok (.getfield 9, 3) := by decide +kernel
theorem dX5_copyLine_21 : decode cX5_copyLine 21 = .ok (.putfield 18, 3) := by decide +kernel
theorem dX5_copyLine_24 : decode cX5_copyLine 24 = .ok (.iconst 0, 1) := by decide +kernel
theorem dX5_copyLine_25 : decode cX5_copyLine 25 = .ok (.istore_n 2, 1) := by decide +kernel
theorem dX5_copyLine_26 : decode cX5_copyLine 26 = .ok (.iload_n 2, 1) := by decide +kernel
theorem dX5_copyLine_27 : decode cX5_copyLine 27 = .ok (.bipush 6, 2) := by decide +kernel
theorem dX5_copyLine_29 : decode cX5_copyLine 29 = .ok (.if_icmp .ge 24, 3) := by decide +kernel
theorem dX5_copyLine_32 : decode cX5_copyLine 32 = .ok (.aload_n 0, 1) := by decide +kernel
theorem dX5_copyLine_33 : decode cX5_copyLine 33 = .ok (.getfield 23, 3) := by decide +kernel
theorem dX5_copyLine_36 : decode cX5_copyLine 36 = .ok (.iload_n 2, 1) := by decide +kernel
theorem dX5_copyLine_37 : decode cX5_copyLine 37 = .ok (.aaload, 1) := by decide +kernel
theorem dX5_copyLine_38 : decode cX5_copyLine 38 = .ok (.aload_n 1, 1) := by decide +kernel
theorem dX5_copyLine_39 : decode cX5_copyLine 39 = .ok (.getfield 23, 3) := by decide +kernel
theorem dX5_copyLine_42 : decode cX5_copyLine 42 = .ok (.iload_n 2, 1) := by decide +kernel
theorem dX5_copyLine_43 : decode cX5_copyLine 43 = .ok (.aaload, 1) := by decide +kernel
theorem dX5_copyLine_44 : decode cX5_copyLine 44 = .ok (.invokevirtual 58, 3) := by decide +kernel
theorem dX5_copyLine_47 : decode cX5_copyLine 47 = .ok (.iinc 2 1, 3) := by decide +kernel
theorem dX5_copyLine_5 : decode cX5_copyLine 5 = .ok (.putfield 9, 3) := by decide +kernel
theorem dX5_copyLine_50 : decode cX5_copyLine 50 = .ok (.goto (-24), 3) := by decide +kernel
theorem dX5_copyLine_53 : decode cX5_copyLine 53 = .ok (.return_, 1) := by decide +kernel
theorem dX5_copyLine_8 : decode cX5_copyLine 8 = .ok (.aload_n 0, 1) := by decide +kernel
theorem dX5_copyLine_9 : decode cX5_copyLine 9 = .ok (.aload_n 1, 1) := by decide +kernel
theorem dX5_dropsTogether_0 : decode cX5_dropsTogether 0 = .ok (.iconst 0, 1) := by decide +kernel
theorem dX5_dropsTogether_1 : decode cX5_dropsTogether 1 = .ok (.istore_n 1, 1) := by decide +kernel
theorem dX5_dropsTogether_2 : decode cX5_dropsTogether 2 = .ok (.iconst 0, 1) := by decide +kernel
theorem dX5_dropsTogether_3 : decode cX5_dropsTogether 3 = .ok (.istore_n 2, 1) := by decide +kernel
theorem dX5_dropsTogether_30 : decode cX5_dropsTogether 30 = .ok (.iload_n 1, 1) := by decide +kernel
theorem dX5_dropsTogether_31 : decode cX5_dropsTogether 31 = .ok (.ireturn, 1) := by decide +kernel
theorem dX5_dropsTogether_4 : decode cX5_dropsTogether 4 = .ok (.iload_n 2, 1) := by decide +kernel
theorem dX5_dropsTogether_5 : decode cX5_dropsTogether 5 = .ok (.aload_n 0, 1) := by decide +kernel
theorem dX5_dropsTogether_6 : decode cX5_dropsTogether 6 = .ok (.getfield 18, 3) := by decide +kernel
theorem dX5_dropsTogether_9 : decode cX5_dropsTogether 9 = .ok (.if_icmp .ge 21, 3) := by decide +kernel
theorem dX5_goOn_0 : decode cX5_goOn 0 = .ok (.aload_n 0, 1) := by decide +kernel
theorem dX5_goOn_1 : decode cX5_goOn 1 = .ok (.dup, 1) := by decide +kernel
theorem dX5_goOn_10 : decode cX5_goOn 10 = .ok (.iconst 0, 1) := by decide +kernel
theorem dX5_goOn_11 : decode cX5_goOn 11 = .ok (.istore_n 1, 1) := by decide +kernel
theorem dX5_goOn_12 : decode cX5_goOn 12 = .ok (.iload_n 1, 1) := by decide +kernel
theorem dX5_goOn_13 : decode cX5_goOn 13 = .ok (.aload_n 0, 1) := by decide +kernel
theorem dX5_goOn_14 : decode cX5_goOn 14 = .ok (.getfield 18, 3) := by decide +kernel
theorem dX5_goOn_17 : decode cX5_goOn 17 = .ok (.if_icmp .ge 26, 3) := by decide +kernel
theorem dX5_goOn_2 : decode cX5_goOn 2 = .ok (.getfield 15, 3) := by decide +kernel
theorem dX5_goOn_43 : decode cX5_goOn 43 = .ok (.return_, 1) := by decide +kernel
theorem dX5_goOn_5 : decode cX5_goOn 5 = .ok (.iconst 1, 1) := by decide +kernel
theorem dX5_goOn_6 : decode cX5_goOn 6 = .ok (.iadd, 1) := by decide +kernel
theorem dX5_goOn_7 : decode cX5_goOn 7 = .ok (.putfield 15, 3) := by decide +kernel
theorem dX5_homes_0 : decode cX5_homes 0 = .ok (.iconst 0, 1) := by decide +kernel
theorem dX5_homes_1 : decode cX5_homes 1 = .ok (.istore_n 1, 1) := by decide +kernel
theorem dX5_homes_2 : decode cX5_homes 2 = .ok (.iconst 0, 1) := by decide +kernel
theorem dX5_homes_3 : decode cX5_homes 3 = .ok (.istore_n 2, 1) := by decide +kernel
theorem dX5_homes_38 : decode cX5_homes 38 = .ok (.iload_n 1, 1) := by decide +kernel
theorem dX5_homes_39 : decode cX5_homes 39 = .ok (.ireturn, 1) := by decide +kernel
theorem dX5_homes_4 : decode cX5_homes 4 = .ok (.iload_n 2, 1) := by decide +kernel
theorem dX5_homes_5 : decode cX5_homes 5 = .ok (.aload_n 0, 1) := by decide +kernel
theorem dX5_homes_6 : decode cX5_homes 6 = .ok (.getfield 18, 3) := by decide +kernel
theorem dX5_homes_9 : decode cX5_homes 9 = .ok (.if_icmp .ge 29, 3) := by decide +kernel
theorem dX5_init_0 : decode cX5_init 0 = .ok (.aload_n 0, 1) := by decide +kernel
theorem dX5_init_1 : decode cX5_init 1 = .ok (.invokespecial 3, 3) := by decide +kernel
theorem dX5_init_10 : decode cX5_init 10 = .ok (.aload_n 0, 1) := by decide +kernel
theorem dX5_init_100 : decode cX5_init 100 = .ok (.dup, 1) := by decide +kernel
theorem dX5_init_101 : decode cX5_init 101 = .ok (.invokespecial 49, 3) := by decide +kernel
theorem dX5_init_104 : decode cX5_init 104 = .ok (.aastore, 1) := by decide +kernel
theorem dX5_init_105 : decode cX5_init 105 = .ok (.iinc 1 1, 3) := by decide +kernel
theorem dX5_init_108 : decode cX5_init 108 = .ok (.goto (-22), 3) := by decide +kernel
theorem dX5_init_11 : decode cX5_init 11 = .ok (.iconst 0, 1) := by decide +kernel
theorem dX5_init_111 : decode cX5_init 111 = .ok (.return_, 1) := by decide +kernel
theorem dX5_init_12 : decode cX5_init 12 = .ok (.putfield 15, 3) := by decide +kernel
theorem dX5_init_15 : decode cX5_init 15 = .ok (.aload_n 0, 1) := by decide +kernel
theorem dX5_init_16 : decode cX5_init 16 = .ok (.iconst 0, 1) := by decide +kernel
theorem dX5_init_17 : decode cX5_init 17 = .ok (.putfield 18, 3) := by decide +kernel
theorem dX5_init_20 : decode cX5_init 20 = .ok (.aload_n 0, 1) := by decide +kernel
theorem dX5_init_21 : decode cX5_init 21 = .ok (.bipush 6, 2) := by decide +kernel
theorem dX5_init_23 : decode cX5_init 23 = .ok (.anewarray 21, 3) := by decide +kernel
theorem dX5_init_26 : decode cX5_init 26 = .ok (.putfield 23, 3) := by decide +kernel
theorem dX5_init_29 : decode cX5_init 29 = .ok (.aload_n 0, 1) := by decide +kernel
theorem dX5_init_30 : decode cX5_init 30 = .ok (.new 27, 3) := by decide +kernel
theorem dX5_init_33 : decode cX5_init 33 = .ok (.dup, 1) := by decide +kernel
theorem dX5_init_34 : decode cX5_init 34 = .ok (.invokespecial 29, 3) := by decide +kernel
theorem dX5_init_37 : decode cX5_init 37 = .ok (.putfield 30, 3) := by decide +kernel
theorem dX5_init_4 : decode cX5_init 4 = .ok (.aload_n 0, 1) := by decide +kernel
theorem dX5_init_40 : decode cX5_init 40 = .ok (.aload_n 0, 1) := by decide +kernel
theorem dX5_init_41 : decode cX5_init 41 = .ok (.new 34, 3) := by decide +kernel
theorem dX5_init_44 : decode cX5_init 44 = .ok (.dup, 1) := by decide +kernel
theorem dX5_init_45 : decode cX5_init 45 = .ok (.iconst 5, 1) := by decide +kernel
theorem dX5_init_46 : decode cX5_init 46 = .ok (.iconst 0, 1) := by decide +kernel
theorem dX5_init_47 : decode cX5_init 47 = .ok (.iconst 1, 1) := by decide +kernel
theorem dX5_init_48 : decode cX5_init 48 = .ok (.invokespecial 36, 3) := by decide +kernel
theorem dX5_init_5 : decode cX5_init 5 = .ok (.bipush 20, 2) := by decide +kernel
theorem dX5_init_51 : decode cX5_init 51 = .ok (.putfield 39, 3) := by decide +kernel
theorem dX5_init_54 : decode cX5_init 54 = .ok (.aload_n 0, 1) := by decide +kernel
theorem dX5_init_55 : decode cX5_init 55 = .ok (.new 34, 3) := by decide +kernel
theorem dX5_init_58 : decode cX5_init 58 = .ok (.dup, 1) := by decide +kernel
theorem dX5_init_59 : decode cX5_init 59 = .ok (.bipush 6, 2) := by decide +kernel
theorem dX5_init_61 : decode cX5_init 61 = .ok (.iconst 1, 1) := by decide +kernel
theorem dX5_init_62 : decode cX5_init 62 = .ok (.iconst 1, 1) := by decide +kernel
theorem dX5_init_63 : decode cX5_init 63 = .ok (.invokespecial 36, 3) := by decide +kernel
theorem dX5_init_66 : decode cX5_init 66 = .ok (.putfield 43, 3) := by decide +kernel
theorem dX5_init_69 : decode cX5_init 69 = .ok (.aload_n 0, 1) := by decide +kernel
theorem dX5_init_7 : decode cX5_init 7 = .ok (.putfield 9, 3) := by decide +kernel
theorem dX5_init_70 : decode cX5_init 70 = .ok (.new 34, 3) := by decide +kernel
theorem dX5_init_73 : decode cX5_init 73 = .ok (.dup, 1) := by decide +kernel
theorem dX5_init_74 : decode cX5_init 74 = .ok (.bipush 6, 2) := by decide +kernel
theorem dX5_init_76 : decode cX5_init 76 = .ok (.iconst 0, 1) := by decide +kernel
theorem dX5_init_77 : decode cX5_init 77 = .ok (.iconst 0, 1) := by decide +kernel
theorem dX5_init_78 : decode cX5_init 78 = .ok (.invokespecial 36, 3) := by decide +kernel
theorem dX5_init_81 : decode cX5_init 81 = .ok (.putfield 46, 3) := by decide +kernel
theorem dX5_init_84 : decode cX5_init 84 = .ok (.iconst 0, 1) := by decide +kernel
theorem dX5_init_85 : decode cX5_init 85 = .ok (.istore_n 1, 1) := by decide +kernel
theorem dX5_init_86 : decode cX5_init 86 = .ok (.iload_n 1, 1) := by decide +kernel
theorem dX5_init_87 : decode cX5_init 87 = .ok (.bipush 6, 2) := by decide +kernel
theorem dX5_init_89 : decode cX5_init 89 = .ok (.if_icmp .ge 22, 3) := by decide +kernel
theorem dX5_init_92 : decode cX5_init 92 = .ok (.aload_n 0, 1) := by decide +kernel
theorem dX5_init_93 : decode cX5_init 93 = .ok (.getfield 23, 3) := by decide +kernel
theorem dX5_init_96 : decode cX5_init 96 = .ok (.iload_n 1, 1) := by decide +kernel
theorem dX5_init_97 : decode cX5_init 97 = .ok (.new 21, 3) := by decide +kernel
theorem dX5_keep_0 : decode cX5_keep 0 = .ok (.aload_n 0, 1) := by decide +kernel
theorem dX5_keep_1 : decode cX5_keep 1 = .ok (.getfield 30, 3) := by decide +kernel
theorem dX5_keep_12 : decode cX5_keep 12 = .ok (.invokevirtual 76, 3) := by decide +kernel
theorem dX5_keep_15 : decode cX5_keep 15 = .ok (.return_, 1) := by decide +kernel
theorem dX5_keep_4 : decode cX5_keep 4 = .ok (.aload_n 0, 1) := by decide +kernel
theorem dX5_keep_5 : decode cX5_keep 5 = .ok (.getfield 15, 3) := by decide +kernel
theorem dX5_keep_8 : decode cX5_keep 8 = .ok (.aload_n 0, 1) := by decide +kernel
theorem dX5_keep_9 : decode cX5_keep 9 = .ok (.getfield 23, 3) := by decide +kernel
theorem dX5_placesTogether_0 : decode cX5_placesTogether 0 = .ok (.iconst 0, 1) := by decide +kernel
theorem dX5_placesTogether_1 : decode cX5_placesTogether 1 = .ok (.istore_n 1, 1) := by decide +kernel
theorem dX5_placesTogether_2 : decode cX5_placesTogether 2 = .ok (.iconst 0, 1) := by decide +kernel
theorem dX5_placesTogether_3 : decode cX5_placesTogether 3 = .ok (.istore_n 2, 1) := by decide +kernel
theorem dX5_placesTogether_30 : decode cX5_placesTogether 30 = .ok (.iload_n 1, 1) := by decide +kernel
theorem dX5_placesTogether_31 : decode cX5_placesTogether 31 = .ok (.ireturn, 1) := by decide +kernel
theorem dX5_placesTogether_4 : decode cX5_placesTogether 4 = .ok (.iload_n 2, 1) := by decide +kernel
theorem dX5_placesTogether_5 : decode cX5_placesTogether 5 = .ok (.aload_n 0, 1) := by decide +kernel
theorem dX5_placesTogether_6 : decode cX5_placesTogether 6 = .ok (.getfield 18, 3) := by decide +kernel
theorem dX5_placesTogether_9 : decode cX5_placesTogether 9 = .ok (.if_icmp .ge 21, 3) := by decide +kernel
theorem dX5_restart_0 : decode cX5_restart 0 = .ok (.aload_n 0, 1) := by decide +kernel
theorem dX5_restart_1 : decode cX5_restart 1 = .ok (.iload_n 1, 1) := by decide +kernel
theorem dX5_restart_10 : decode cX5_restart 10 = .ok (.aload_n 0, 1) := by decide +kernel
theorem dX5_restart_11 : decode cX5_restart 11 = .ok (.iconst 0, 1) := by decide +kernel
theorem dX5_restart_12 : decode cX5_restart 12 = .ok (.putfield 18, 3) := by decide +kernel
theorem dX5_restart_15 : decode cX5_restart 15 = .ok (.aload_n 0, 1) := by decide +kernel
theorem dX5_restart_16 : decode cX5_restart 16 = .ok (.getfield 30, 3) := by decide +kernel
theorem dX5_restart_19 : decode cX5_restart 19 = .ok (.iconst 0, 1) := by decide +kernel
theorem dX5_restart_2 : decode cX5_restart 2 = .ok (.putfield 9, 3) := by decide +kernel
theorem dX5_restart_20 : decode cX5_restart 20 = .ok (.putfield 50, 3) := by decide +kernel
theorem dX5_restart_23 : decode cX5_restart 23 = .ok (.aload_n 0, 1) := by decide +kernel
theorem dX5_restart_24 : decode cX5_restart 24 = .ok (.getfield 39, 3) := by decide +kernel
theorem dX5_restart_27 : decode cX5_restart 27 = .ok (.iconst 0, 1) := by decide +kernel
theorem dX5_restart_28 : decode cX5_restart 28 = .ok (.putfield 53, 3) := by decide +kernel
theorem dX5_restart_31 : decode cX5_restart 31 = .ok (.aload_n 0, 1) := by decide +kernel
theorem dX5_restart_32 : decode cX5_restart 32 = .ok (.getfield 43, 3) := by decide +kernel
theorem dX5_restart_35 : decode cX5_restart 35 = .ok (.iconst 0, 1) := by decide +kernel
theorem dX5_restart_36 : decode cX5_restart 36 = .ok (.putfield 53, 3) := by decide +kernel
theorem dX5_restart_39 : decode cX5_restart 39 = .ok (.aload_n 0, 1) := by decide +kernel
theorem dX5_restart_40 : decode cX5_restart 40 = .ok (.getfield 46, 3) := by decide +kernel
theorem dX5_restart_43 : decode cX5_restart 43 = .ok (.iconst 0, 1) := by decide +kernel
theorem dX5_restart_44 : decode cX5_restart 44 = .ok (.putfield 53, 3) := by decide +kernel
theorem dX5_restart_47 : decode cX5_restart 47 = .ok (.return_, 1) := by decide +kernel
theorem dX5_restart_5 : decode cX5_restart 5 = .ok (.aload_n 0, 1) := by decide +kernel
theorem dX5_restart_6 : decode cX5_restart 6 = .ok (.iconst 0, 1) := by decide +kernel
theorem dX5_restart_7 : decode cX5_restart 7 = .ok (.putfield 15, 3) := by decide +kernel
theorem dX5_takeBack_0 : decode cX5_takeBack 0 = .ok (.aload_n 0, 1) := by decide +kernel
theorem dX5_takeBack_1 : decode cX5_takeBack 1 = .ok (.getfield 30, 3) := by decide +kernel
theorem dX5_takeBack_11 : decode cX5_takeBack 11 = .ok (.istore_n 1, 1) := by decide +kernel
theorem dX5_takeBack_12 : decode cX5_takeBack 12 = .ok (.iload_n 1, 1) := by decide +kernel
theorem dX5_takeBack_13 : decode cX5_takeBack 13 = .ok (.iconst (-1), 1) := by decide +kernel
theorem dX5_takeBack_14 : decode cX5_takeBack 14 = .ok (.if_icmp .ne 5, 3) := by decide +kernel
theorem dX5_takeBack_17 : decode cX5_takeBack 17 = .ok (.iconst 0, 1) := by decide +kernel
theorem dX5_takeBack_18 : decode cX5_takeBack 18 = .ok (.ireturn, 1) := by decide +kernel
theorem dX5_takeBack_4 : decode cX5_takeBack 4 = .ok (.aload_n 0, 1) := by decide +kernel
theorem dX5_takeBack_5 : decode cX5_takeBack 5 = .ok (.getfield 23, 3) := by decide +kernel
theorem dX5_takeBack_8 : decode cX5_takeBack 8 = .ok (.invokevirtual 80, 3) := by decide +kernel
theorem dX5_welcome_0 : decode cX5_welcome 0 = .ok (.aload_n 0, 1) := by decide +kernel
theorem dX5_welcome_1 : decode cX5_welcome 1 = .ok (.getfield 18, 3) := by decide +kernel
theorem dX5_welcome_10 : decode cX5_welcome 10 = .ok (.getfield 23, 3) := by decide +kernel
theorem dX5_welcome_13 : decode cX5_welcome 13 = .ok (.aload_n 0, 1) := by decide +kernel
theorem dX5_welcome_14 : decode cX5_welcome 14 = .ok (.getfield 18, 3) := by decide +kernel
theorem dX5_welcome_17 : decode cX5_welcome 17 = .ok (.aaload, 1) := by decide +kernel
theorem dX5_welcome_18 : decode cX5_welcome 18 = .ok (.iload_n 1, 1) := by decide +kernel
theorem dX5_welcome_19 : decode cX5_welcome 19 = .ok (.iload_n 2, 1) := by decide +kernel
theorem dX5_welcome_20 : decode cX5_welcome 20 = .ok (.iload_n 3, 1) := by decide +kernel
theorem dX5_welcome_21 : decode cX5_welcome 21 = .ok (.invokevirtual 54, 3) := by decide +kernel
theorem dX5_welcome_24 : decode cX5_welcome 24 = .ok (.aload_n 0, 1) := by decide +kernel
theorem dX5_welcome_25 : decode cX5_welcome 25 = .ok (.dup, 1) := by decide +kernel
theorem dX5_welcome_26 : decode cX5_welcome 26 = .ok (.getfield 18, 3) := by decide +kernel
theorem dX5_welcome_29 : decode cX5_welcome 29 = .ok (.iconst 1, 1) := by decide +kernel
theorem dX5_welcome_30 : decode cX5_welcome 30 = .ok (.iadd, 1) := by decide +kernel
theorem dX5_welcome_31 : decode cX5_welcome 31 = .ok (.putfield 18, 3) := by decide +kernel
theorem dX5_welcome_34 : decode cX5_welcome 34 = .ok (.aload_n 0, 1) := by decide +kernel
theorem dX5_welcome_35 : decode cX5_welcome 35 = .ok (.getfield 30, 3) := by decide +kernel
theorem dX5_welcome_38 : decode cX5_welcome 38 = .ok (.iconst 0, 1) := by decide +kernel
theorem dX5_welcome_39 : decode cX5_welcome 39 = .ok (.putfield 50, 3) := by decide +kernel
theorem dX5_welcome_4 : decode cX5_welcome 4 = .ok (.bipush 6, 2) := by decide +kernel
theorem dX5_welcome_42 : decode cX5_welcome 42 = .ok (.return_, 1) := by decide +kernel
theorem dX5_welcome_6 : decode cX5_welcome 6 = .ok (.if_icmp .ge 36, 3) := by decide +kernel
theorem dX5_welcome_9 : decode cX5_welcome 9 = .ok (.aload_n 0, 1) := by decide +kernel
theorem dX6_append_0 : decode cX6_append 0 = .ok (.aload_n 0, 1) := by decide +kernel
theorem dX6_append_1 : decode cX6_append 1 = .ok (.getfield 15, 3) := by decide +kernel
theorem dX6_append_12 : decode cX6_append 12 = .ok (.aload_n 0, 1) := by decide +kernel
theorem dX6_append_13 : decode cX6_append 13 = .ok (.getfield 11, 3) := by decide +kernel
theorem dX6_append_16 : decode cX6_append 16 = .ok (.aload_n 0, 1) := by decide +kernel
theorem dX6_append_17 : decode cX6_append 17 = .ok (.getfield 15, 3) := by decide +kernel
theorem dX6_append_20 : decode cX6_append 20 = .ok (.iload_n 1, 1) := by decide +kernel
theorem dX6_append_21 : decode cX6_append 21 = .ok (.iastore, 1) := by decide +kernel
theorem dX6_append_22 : decode cX6_append 22 = .ok (.aload_n 0, 1) := by decide +kernel
theorem dX6_append_23 : decode cX6_append 23 = .ok (.dup, 1) := by decide +kernel
theorem dX6_append_24 : decode cX6_append 24 = .ok (.getfield 15, 3) := by decide +kernel
theorem dX6_append_27 : decode cX6_append 27 = .ok (.iconst 1, 1) := by decide +kernel
theorem dX6_append_28 : decode cX6_append 28 = .ok (.iadd, 1) := by decide +kernel
theorem dX6_append_29 : decode cX6_append 29 = .ok (.putfield 15, 3) := by decide +kernel
theorem dX6_append_32 : decode cX6_append 32 = .ok (.iconst 1, 1) := by decide +kernel
theorem dX6_append_33 : decode cX6_append 33 = .ok (.ireturn, 1) := by decide +kernel
theorem dX6_append_4 : decode cX6_append 4 = .ok (.sipush 150, 3) := by decide +kernel
theorem dX6_append_7 : decode cX6_append 7 = .ok (.if_icmp .lt 5, 3) := by decide +kernel
theorem dX6_init_0 : decode cX6_init 0 = .ok (.aload_n 0, 1) := by decide +kernel
theorem dX6_init_1 : decode cX6_init 1 = .ok (.invokespecial 3, 3) := by decide +kernel
theorem dX6_init_10 : decode cX6_init 10 = .ok (.putfield 11, 3) := by decide +kernel
theorem dX6_init_13 : decode cX6_init 13 = .ok (.aload_n 0, 1) := by decide +kernel
theorem dX6_init_14 : decode cX6_init 14 = .ok (.iconst 0, 1) := by decide +kernel
theorem dX6_init_15 : decode cX6_init 15 = .ok (.putfield 15, 3) := by decide +kernel
theorem dX6_init_18 : decode cX6_init 18 = .ok (.aload_n 0, 1) := by decide +kernel
theorem dX6_init_19 : decode cX6_init 19 = .ok (.iconst 0, 1) := by decide +kernel
theorem dX6_init_20 : decode cX6_init 20 = .ok (.putfield 19, 3) := by decide +kernel
theorem dX6_init_23 : decode cX6_init 23 = .ok (.aload_n 0, 1) := by decide +kernel
theorem dX6_init_24 : decode cX6_init 24 = .ok (.iconst 0, 1) := by decide +kernel
theorem dX6_init_25 : decode cX6_init 25 = .ok (.putfield 22, 3) := by decide +kernel
theorem dX6_init_28 : decode cX6_init 28 = .ok (.aload_n 0, 1) := by decide +kernel
theorem dX6_init_29 : decode cX6_init 29 = .ok (.iconst 0, 1) := by decide +kernel
theorem dX6_init_30 : decode cX6_init 30 = .ok (.putfield 25, 3) := by decide +kernel
theorem dX6_init_33 : decode cX6_init 33 = .ok (.aload_n 0, 1) := by decide +kernel
theorem dX6_init_34 : decode cX6_init 34 = .ok (.iconst 0, 1) := by decide +kernel
theorem dX6_init_35 : decode cX6_init 35 = .ok (.putfield 28, 3) := by decide +kernel
theorem dX6_init_38 : decode cX6_init 38 = .ok (.aload_n 0, 1) := by decide +kernel
theorem dX6_init_39 : decode cX6_init 39 = .ok (.iconst (-1), 1) := by decide +kernel
theorem dX6_init_4 : decode cX6_init 4 = .ok (.aload_n 0, 1) := by decide +kernel
theorem dX6_init_40 : decode cX6_init 40 = .ok (.putfield 31, 3) := by decide +kernel
theorem dX6_init_43 : decode cX6_init 43 = .ok (.return_, 1) := by decide +kernel
theorem dX6_init_5 : decode cX6_init 5 = .ok (.sipush 150, 3) := by decide +kernel
theorem dX6_init_8 : decode cX6_init 8 = .ok (.newarray .int, 2) := by decide +kernel
theorem dX6_nextToken_0 : decode cX6_nextToken 0 = .ok (.aload_n 0, 1) := by decide +kernel
theorem dX6_nextToken_1 : decode cX6_nextToken 1 = .ok (.invokevirtual 38, 3) := by decide +kernel
theorem dX6_nextToken_108 : decode cX6_nextToken 108 = .ok (.return_, 1) := by decide +kernel
theorem dX6_nextToken_12 : decode cX6_nextToken 12 = .ok (.aload_n 0, 1) := by decide +kernel
theorem dX6_nextToken_13 : decode cX6_nextToken 13 = .ok (.getfield 19, 3) := by decide +kernel
theorem dX6_nextToken_16 : decode cX6_nextToken 16 = .ok (.aload_n 0, 1) := by decide +kernel
theorem dX6_nextToken_17 : decode cX6_nextToken 17 = .ok (.getfield 15, 3) := by decide +kernel
theorem dX6_nextToken_20 : decode cX6_nextToken 20 = .ok (.if_icmp .lt 11, 3) := by decide +kernel
theorem dX6_nextToken_23 : decode cX6_nextToken 23 = .ok (.aload_n 0, 1) := by decide +kernel
theorem dX6_nextToken_24 : decode cX6_nextToken 24 = .ok (.iconst 0, 1) := by decide +kernel
theorem dX6_nextToken_25 : decode cX6_nextToken 25 = .ok (.putfield 25, 3) := by decide +kernel
theorem dX6_nextToken_28 : decode cX6_nextToken 28 = .ok (.goto 80, 3) := by decide +kernel
theorem dX6_nextToken_4 : decode cX6_nextToken 4 = .ok (.aload_n 0, 1) := by decide +kernel
theorem dX6_nextToken_5 : decode cX6_nextToken 5 = .ok (.aload_n 0, 1) := by decide +kernel
theorem dX6_nextToken_6 : decode cX6_nextToken 6 = .ok (.getfield 19, 3) := by decide +kernel
theorem dX6_nextToken_9 : decode cX6_nextToken 9 = .ok (.putfield 22, 3) := by decide +kernel
theorem dX6_skipBlanks_0 : decode cX6_skipBlanks 0 = .ok (.aload_n 0, 1) := by decide +kernel
theorem dX6_skipBlanks_1 : decode cX6_skipBlanks 1 = .ok (.getfield 19, 3) := by decide +kernel
theorem dX6_skipBlanks_38 : decode cX6_skipBlanks 38 = .ok (.return_, 1) := by decide +kernel
theorem dX6_skipBlanks_4 : decode cX6_skipBlanks 4 = .ok (.aload_n 0, 1) := by decide +kernel
theorem dX6_skipBlanks_5 : decode cX6_skipBlanks 5 = .ok (.getfield 15, 3) := by decide +kernel
theorem dX6_skipBlanks_8 : decode cX6_skipBlanks 8 = .ok (.if_icmp .ge 30, 3) := by decide +kernel
theorem dX6_takeItem_0 : decode cX6_takeItem 0 = .ok (.aload_n 0, 1) := by decide +kernel
theorem dX6_takeItem_1 : decode cX6_takeItem 1 = .ok (.invokevirtual 41, 3) := by decide +kernel
theorem dX6_takeItem_130 : decode cX6_takeItem 130 = .ok (.return_, 1) := by decide +kernel
theorem dX6_takeItem_22 : decode cX6_takeItem 22 = .ok (.aload_n 0, 1) := by decide +kernel
theorem dX6_takeItem_23 : decode cX6_takeItem 23 = .ok (.aload_n 0, 1) := by decide +kernel
theorem dX6_takeItem_24 : decode cX6_takeItem 24 = .ok (.getfield 22, 3) := by decide +kernel
theorem dX6_takeItem_27 : decode cX6_takeItem 27 = .ok (.putfield 31, 3) := by decide +kernel
theorem dX6_takeItem_30 : decode cX6_takeItem 30 = .ok (.goto 100, 3) := by decide +kernel
theorem dX6_takeItem_4 : decode cX6_takeItem 4 = .ok (.aload_n 0, 1) := by decide +kernel
theorem dX6_takeItem_5 : decode cX6_takeItem 5 = .ok (.getfield 25, 3) := by decide +kernel
theorem dX6_takeItem_8 : decode cX6_takeItem 8 = .ok (.iconst 1, 1) := by decide +kernel
theorem dX6_takeItem_9 : decode cX6_takeItem 9 = .ok (.if_icmp .ne 13, 3) := by decide +kernel
theorem dX6_takeRace_0 : decode cX6_takeRace 0 = .ok (.aload_n 0, 1) := by decide +kernel
theorem dX6_takeRace_1 : decode cX6_takeRace 1 = .ok (.iconst 0, 1) := by decide +kernel
theorem dX6_takeRace_10 : decode cX6_takeRace 10 = .ok (.iconst 0, 1) := by decide +kernel
theorem dX6_takeRace_11 : decode cX6_takeRace 11 = .ok (.istore_n 2, 1) := by decide +kernel
theorem dX6_takeRace_12 : decode cX6_takeRace 12 = .ok (.aload_n 0, 1) := by decide +kernel
theorem dX6_takeRace_13 : decode cX6_takeRace 13 = .ok (.aload_n 1, 1) := by decide +kernel
theorem dX6_takeRace_14 : decode cX6_takeRace 14 = .ok (.iload_n 2, 1) := by decide +kernel
theorem dX6_takeRace_15 : decode cX6_takeRace 15 = .ok (.ifCond .ne 7, 3) := by decide +kernel
theorem dX6_takeRace_18 : decode cX6_takeRace 18 = .ok (.iconst 1, 1) := by decide +kernel
theorem dX6_takeRace_19 : decode cX6_takeRace 19 = .ok (.goto 4, 3) := by decide +kernel
theorem dX6_takeRace_2 : decode cX6_takeRace 2 = .ok (.putfield 19, 3) := by decide +kernel
theorem dX6_takeRace_23 : decode cX6_takeRace 23 = .ok (.invokevirtual 34, 3) := by decide +kernel
theorem dX6_takeRace_26 : decode cX6_takeRace 26 = .ok (.iinc 2 1, 3) := by decide +kernel
theorem dX6_takeRace_29 : decode cX6_takeRace 29 = .ok (.aload_n 0, 1) := by decide +kernel
theorem dX6_takeRace_30 : decode cX6_takeRace 30 = .ok (.invokevirtual 38, 3) := by decide +kernel
theorem dX6_takeRace_33 : decode cX6_takeRace 33 = .ok (.aload_n 0, 1) := by decide +kernel
theorem dX6_takeRace_34 : decode cX6_takeRace 34 = .ok (.getfield 31, 3) := by decide +kernel
theorem dX6_takeRace_37 : decode cX6_takeRace 37 = .ok (.iconst (-1), 1) := by decide +kernel
theorem dX6_takeRace_38 : decode cX6_takeRace 38 = .ok (.if_icmp .ne 21, 3) := by decide +kernel
theorem dX6_takeRace_5 : decode cX6_takeRace 5 = .ok (.aload_n 0, 1) := by decide +kernel
theorem dX6_takeRace_59 : decode cX6_takeRace 59 = .ok (.aload_n 0, 1) := by decide +kernel
theorem dX6_takeRace_6 : decode cX6_takeRace 6 = .ok (.iconst (-1), 1) := by decide +kernel
theorem dX6_takeRace_60 : decode cX6_takeRace 60 = .ok (.getfield 31, 3) := by decide +kernel
theorem dX6_takeRace_63 : decode cX6_takeRace 63 = .ok (.iconst (-1), 1) := by decide +kernel
theorem dX6_takeRace_64 : decode cX6_takeRace 64 = .ok (.if_icmp .ne 7, 3) := by decide +kernel
theorem dX6_takeRace_7 : decode cX6_takeRace 7 = .ok (.putfield 31, 3) := by decide +kernel
theorem dX6_takeRace_71 : decode cX6_takeRace 71 = .ok (.bipush (-10), 2) := by decide +kernel
theorem dX6_takeRace_73 : decode cX6_takeRace 73 = .ok (.aload_n 0, 1) := by decide +kernel
theorem dX6_takeRace_74 : decode cX6_takeRace 74 = .ok (.getfield 31, 3) := by decide +kernel
theorem dX6_takeRace_77 : decode cX6_takeRace 77 = .ok (.isub, 1) := by decide +kernel
theorem dX6_takeRace_78 : decode cX6_takeRace 78 = .ok (.ireturn, 1) := by decide +kernel
theorem dX7_copyFrom_0 : decode cX7_copyFrom 0 = .ok (.aload_n 0, 1) := by decide +kernel
theorem dX7_copyFrom_1 : decode cX7_copyFrom 1 = .ok (.aload_n 1, 1) := by decide +kernel
theorem dX7_copyFrom_12 : decode cX7_copyFrom 12 = .ok (.iconst 0, 1) := by decide +kernel
theorem dX7_copyFrom_13 : decode cX7_copyFrom 13 = .ok (.aload_n 0, 1) := by decide +kernel
theorem dX7_copyFrom_14 : decode cX7_copyFrom 14 = .ok (.getfield 23, 3) := by decide +kernel
theorem dX7_copyFrom_17 : decode cX7_copyFrom 17 = .ok (.iconst 0, 1) := by decide +kernel
theorem dX7_copyFrom_18 : decode cX7_copyFrom 18 = .ok (.aload_n 0, 1) := by decide +kernel
theorem dX7_copyFrom_19 : decode cX7_copyFrom 19 = .ok (.getfield 23, 3) := by decide +kernel
theorem dX7_copyFrom_2 : decode cX7_copyFrom 2 = .ok (.getfield 7, 3) := by decide +kernel
theorem dX7_copyFrom_22 : decode cX7_copyFrom 22 = .ok (.arraylength, 1) := by decide +kernel
theorem dX7_copyFrom_23 : decode cX7_copyFrom 23 = .ok (.aload_n 1, 1) := by decide +kernel
theorem dX7_copyFrom_24 : decode cX7_copyFrom 24 = .ok (.getfield 7, 3) := by decide +kernel
theorem dX7_copyFrom_27 : decode cX7_copyFrom 27 = .ok (.iconst 5, 1) := by decide +kernel
theorem dX7_copyFrom_28 : decode cX7_copyFrom 28 = .ok (.imul, 1) := by decide +kernel
theorem dX7_copyFrom_29 : decode cX7_copyFrom 29 = .ok (.invokestatic 27, 3) := by decide +kernel
theorem dX7_copyFrom_32 : decode cX7_copyFrom 32 = .ok (.invokestatic 33, 3) := by decide +kernel
theorem dX7_copyFrom_35 : decode cX7_copyFrom 35 = .ok (.return_, 1) := by decide +kernel
theorem dX7_copyFrom_5 : decode cX7_copyFrom 5 = .ok (.putfield 7, 3) := by decide +kernel
theorem dX7_copyFrom_8 : decode cX7_copyFrom 8 = .ok (.aload_n 1, 1) := by decide +kernel
theorem dX7_copyFrom_9 : decode cX7_copyFrom 9 = .ok (.getfield 23, 3) := by decide +kernel
theorem dX7_init_0 : decode cX7_init 0 = .ok (.aload_n 0, 1) := by decide +kernel
theorem dX7_init_1 : decode cX7_init 1 = .ok (.invokespecial 1, 3) := by decide +kernel
theorem dX7_init_10 : decode cX7_init 10 = .ok (.iload_n 1, 1) := by decide +kernel
theorem dX7_init_11 : decode cX7_init 11 = .ok (.putfield 13, 3) := by decide +kernel
theorem dX7_init_14 : decode cX7_init 14 = .ok (.aload_n 0, 1) := by decide +kernel
theorem dX7_init_15 : decode cX7_init 15 = .ok (.iload_n 2, 1) := by decide +kernel
theorem dX7_init_16 : decode cX7_init 16 = .ok (.putfield 16, 3) := by decide +kernel
theorem dX7_init_19 : decode cX7_init 19 = .ok (.aload_n 0, 1) := by decide +kernel
theorem dX7_init_20 : decode cX7_init 20 = .ok (.iload_n 3, 1) := by decide +kernel
theorem dX7_init_21 : decode cX7_init 21 = .ok (.putfield 20, 3) := by decide +kernel
theorem dX7_init_24 : decode cX7_init 24 = .ok (.aload_n 0, 1) := by decide +kernel
theorem dX7_init_25 : decode cX7_init 25 = .ok (.iload_n 1, 1) := by decide +kernel
theorem dX7_init_26 : decode cX7_init 26 = .ok (.iconst 5, 1) := by decide +kernel
theorem dX7_init_27 : decode cX7_init 27 = .ok (.imul, 1) := by decide +kernel
theorem dX7_init_28 : decode cX7_init 28 = .ok (.newarray .int, 2) := by decide +kernel
theorem dX7_init_30 : decode cX7_init 30 = .ok (.putfield 23, 3) := by decide +kernel
theorem dX7_init_33 : decode cX7_init 33 = .ok (.return_, 1) := by decide +kernel
theorem dX7_init_4 : decode cX7_init 4 = .ok (.aload_n 0, 1) := by decide +kernel
theorem dX7_init_5 : decode cX7_init 5 = .ok (.iconst 0, 1) := by decide +kernel
theorem dX7_init_6 : decode cX7_init 6 = .ok (.putfield 7, 3) := by decide +kernel
theorem dX7_init_9 : decode cX7_init 9 = .ok (.aload_n 0, 1) := by decide +kernel
theorem dX7_mixInto_0 : decode cX7_mixInto 0 = .ok (.lload_n 1, 1) := by decide +kernel
theorem dX7_mixInto_1 : decode cX7_mixInto 1 = .ok (.lstore_n 3, 1) := by decide +kernel
theorem dX7_mixInto_11 : decode cX7_mixInto 11 = .ok (.if_icmp .ge 122, 3) := by decide +kernel
theorem dX7_mixInto_133 : decode cX7_mixInto 133 = .ok (.lload_n 3, 1) := by decide +kernel
theorem dX7_mixInto_134 : decode cX7_mixInto 134 = .ok (.lreturn, 1) := by decide +kernel
theorem dX7_mixInto_2 : decode cX7_mixInto 2 = .ok (.iconst 0, 1) := by decide +kernel
theorem dX7_mixInto_3 : decode cX7_mixInto 3 = .ok (.istore 5, 2) := by decide +kernel
theorem dX7_mixInto_5 : decode cX7_mixInto 5 = .ok (.iload 5, 2) := by decide +kernel
theorem dX7_mixInto_7 : decode cX7_mixInto 7 = .ok (.aload_n 0, 1) := by decide +kernel
theorem dX7_mixInto_8 : decode cX7_mixInto 8 = .ok (.getfield 7, 3) := by decide +kernel
theorem dX8_begin_0 : decode cX8_begin 0 = .ok (.aload_n 0, 1) := by decide +kernel
theorem dX8_begin_1 : decode cX8_begin 1 = .ok (.iload_n 1, 1) := by decide +kernel
theorem dX8_begin_10 : decode cX8_begin 10 = .ok (.aload_n 0, 1) := by decide +kernel
theorem dX8_begin_11 : decode cX8_begin 11 = .ok (.iload_n 3, 1) := by decide +kernel
theorem dX8_begin_12 : decode cX8_begin 12 = .ok (.putfield 18, 3) := by decide +kernel
theorem dX8_begin_15 : decode cX8_begin 15 = .ok (.aload_n 0, 1) := by decide +kernel
theorem dX8_begin_16 : decode cX8_begin 16 = .ok (.iconst 4, 1) := by decide +kernel
theorem dX8_begin_17 : decode cX8_begin 17 = .ok (.putfield 21, 3) := by decide +kernel
theorem dX8_begin_2 : decode cX8_begin 2 = .ok (.putfield 9, 3) := by decide +kernel
theorem dX8_begin_20 : decode cX8_begin 20 = .ok (.aload_n 0, 1) := by decide +kernel
theorem dX8_begin_21 : decode cX8_begin 21 = .ok (.iconst 0, 1) := by decide +kernel
theorem dX8_begin_22 : decode cX8_begin 22 = .ok (.putfield 24, 3) := by decide +kernel
theorem dX8_begin_25 : decode cX8_begin 25 = .ok (.aload_n 0, 1) := by decide +kernel
theorem dX8_begin_26 : decode cX8_begin 26 = .ok (.iconst 0, 1) := by decide +kernel
theorem dX8_begin_27 : decode cX8_begin 27 = .ok (.putfield 27, 3) := by decide +kernel
theorem dX8_begin_30 : decode cX8_begin 30 = .ok (.aload_n 0, 1) := by decide +kernel
theorem dX8_begin_31 : decode cX8_begin 31 = .ok (.iconst 0, 1) := by decide +kernel
theorem dX8_begin_32 : decode cX8_begin 32 = .ok (.putfield 30, 3) := by decide +kernel
theorem dX8_begin_35 : decode cX8_begin 35 = .ok (.aload_n 0, 1) := by decide +kernel
theorem dX8_begin_36 : decode cX8_begin 36 = .ok (.iconst (-1), 1) := by decide +kernel
theorem dX8_begin_37 : decode cX8_begin 37 = .ok (.putfield 33, 3) := by decide +kernel
theorem dX8_begin_40 : decode cX8_begin 40 = .ok (.return_, 1) := by decide +kernel
theorem dX8_begin_5 : decode cX8_begin 5 = .ok (.aload_n 0, 1) := by decide +kernel
theorem dX8_begin_6 : decode cX8_begin 6 = .ok (.iload_n 2, 1) := by decide +kernel
theorem dX8_begin_7 : decode cX8_begin 7 = .ok (.putfield 15, 3) := by decide +kernel
theorem dX8_copyFrom_0 : decode cX8_copyFrom 0 = .ok (.aload_n 0, 1) := by decide +kernel
theorem dX8_copyFrom_1 : decode cX8_copyFrom 1 = .ok (.aload_n 1, 1) := by decide +kernel
theorem dX8_copyFrom_10 : decode cX8_copyFrom 10 = .ok (.getfield 15, 3) := by decide +kernel
theorem dX8_copyFrom_13 : decode cX8_copyFrom 13 = .ok (.putfield 15, 3) := by decide +kernel
theorem dX8_copyFrom_16 : decode cX8_copyFrom 16 = .ok (.aload_n 0, 1) := by decide +kernel
theorem dX8_copyFrom_17 : decode cX8_copyFrom 17 = .ok (.aload_n 1, 1) := by decide +kernel
theorem dX8_copyFrom_18 : decode cX8_copyFrom 18 = .ok (.getfield 18, 3) := by decide +kernel
theorem dX8_copyFrom_2 : decode cX8_copyFrom 2 = .ok (.getfield 9, 3) := by decide +kernel
theorem dX8_copyFrom_21 : decode cX8_copyFrom 21 = .ok (.putfield 18, 3) := by decide +kernel
theorem dX8_copyFrom_24 : decode cX8_copyFrom 24 = .ok (.aload_n 0, 1) := by decide +kernel
theorem dX8_copyFrom_25 : decode cX8_copyFrom 25 = .ok (.aload_n 1, 1) := by decide +kernel
theorem dX8_copyFrom_26 : decode cX8_copyFrom 26 = .ok (.getfield 21, 3) := by decide +kernel
theorem dX8_copyFrom_29 : decode cX8_copyFrom 29 = .ok (.putfield 21, 3) := by decide +kernel
theorem dX8_copyFrom_32 : decode cX8_copyFrom 32 = .ok (.aload_n 0, 1) := by decide +kernel
theorem dX8_copyFrom_33 : decode cX8_copyFrom 33 = .ok (.aload_n 1, 1) := by decide +kernel
theorem dX8_copyFrom_34 : decode cX8_copyFrom 34 = .ok (.getfield 24, 3) := by decide +kernel
theorem dX8_copyFrom_37 : decode cX8_copyFrom 37 = .ok (.putfield 24, 3) := by decide +kernel
theorem dX8_copyFrom_40 : decode cX8_copyFrom 40 = .ok (.aload_n 0, 1) := by decide +kernel
theorem dX8_copyFrom_41 : decode cX8_copyFrom 41 = .ok (.aload_n 1, 1) := by decide +kernel
theorem dX8_copyFrom_42 : decode cX8_copyFrom 42 = .ok (.getfield 27, 3) := by decide +kernel
theorem dX8_copyFrom_45 : decode cX8_copyFrom 45 = .ok (.putfield 27, 3) := by decide +kernel
theorem dX8_copyFrom_48 : decode cX8_copyFrom 48 = .ok (.aload_n 0, 1) := by decide +kernel
theorem dX8_copyFrom_49 : decode cX8_copyFrom 49 = .ok (.aload_n 1, 1) := by decide +kernel
theorem dX8_copyFrom_5 : decode cX8_copyFrom 5 = .ok (.putfield 9, 3) := by decide +kernel
theorem dX8_copyFrom_50 : decode cX8_copyFrom 50 = .ok (.getfield 30, 3) := by decide +kernel
theorem dX8_copyFrom_53 : decode cX8_copyFrom 53 = .ok (.putfield 30, 3) := by decide +kernel
theorem dX8_copyFrom_56 : decode cX8_copyFrom 56 = .ok (.aload_n 0, 1) := by decide +kernel
theorem dX8_copyFrom_57 : decode cX8_copyFrom 57 = .ok (.aload_n 1, 1) := by decide +kernel
theorem dX8_copyFrom_58 : decode cX8_copyFrom 58 = .ok (.getfield 33, 3) := by decide +kernel
theorem dX8_copyFrom_61 : decode cX8_copyFrom 61 = .ok (.putfield 33, 3) := by decide +kernel
theorem dX8_copyFrom_64 : decode cX8_copyFrom 64 = .ok (.return_, 1) := by decide +kernel
theorem dX8_copyFrom_8 : decode cX8_copyFrom 8 = .ok (.aload_n 0, 1) := by decide +kernel
theorem dX8_copyFrom_9 : decode cX8_copyFrom 9 = .ok (.aload_n 1, 1) := by decide +kernel
theorem dX8_init_0 : decode cX8_init 0 = .ok (.aload_n 0, 1) := by decide +kernel
theorem dX8_init_1 : decode cX8_init 1 = .ok (.invokespecial 3, 3) := by decide +kernel
theorem dX8_init_4 : decode cX8_init 4 = .ok (.return_, 1) := by decide +kernel
theorem dX9_init_0 : decode cX9_init 0 = .ok (.aload_n 0, 1) := by decide +kernel
theorem dX9_init_1 : decode cX9_init 1 = .ok (.invokespecial 3, 3) := by decide +kernel
theorem dX9_init_12 : decode cX9_init 12 = .ok (.aload_n 0, 1) := by decide +kernel
theorem dX9_init_13 : decode cX9_init 13 = .ok (.iconst 0, 1) := by decide +kernel
theorem dX9_init_14 : decode cX9_init 14 = .ok (.putfield 15, 3) := by decide +kernel
theorem dX9_init_17 : decode cX9_init 17 = .ok (.return_, 1) := by decide +kernel
theorem dX9_init_4 : decode cX9_init 4 = .ok (.aload_n 0, 1) := by decide +kernel
theorem dX9_init_5 : decode cX9_init 5 = .ok (.bipush 16, 2) := by decide +kernel
theorem dX9_init_7 : decode cX9_init 7 = .ok (.newarray .int, 2) := by decide +kernel
theorem dX9_init_9 : decode cX9_init 9 = .ok (.putfield 9, 3) := by decide +kernel
