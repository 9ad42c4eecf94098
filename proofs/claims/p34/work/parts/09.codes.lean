theorem dX10_aheadOf_0 : decode cX10_aheadOf 0 = .ok (.iconst 0, 1) := by decide +kernel
theorem dX10_aheadOf_1 : decode cX10_aheadOf 1 = .ok (.istore_n 2, 1) := by decide +kernel
theorem dX10_aheadOf_12 : decode cX10_aheadOf 12 = .ok (.if_icmp .ge 47, 3) := by decide +kernel
theorem dX10_aheadOf_15 : decode cX10_aheadOf 15 = .ok (.aload_n 0, 1) := by decide +kernel
theorem dX10_aheadOf_16 : decode cX10_aheadOf 16 = .ok (.getfield 76, 3) := by decide +kernel
theorem dX10_aheadOf_19 : decode cX10_aheadOf 19 = .ok (.iload_n 3, 1) := by decide +kernel
theorem dX10_aheadOf_2 : decode cX10_aheadOf 2 = .ok (.iconst 0, 1) := by decide +kernel
theorem dX10_aheadOf_20 : decode cX10_aheadOf 20 = .ok (.iaload, 1) := by decide +kernel
theorem dX10_aheadOf_21 : decode cX10_aheadOf 21 = .ok (.aload_n 0, 1) := by decide +kernel
theorem dX10_aheadOf_22 : decode cX10_aheadOf 22 = .ok (.getfield 76, 3) := by decide +kernel
theorem dX10_aheadOf_25 : decode cX10_aheadOf 25 = .ok (.iload_n 1, 1) := by decide +kernel
theorem dX10_aheadOf_26 : decode cX10_aheadOf 26 = .ok (.iaload, 1) := by decide +kernel
theorem dX10_aheadOf_27 : decode cX10_aheadOf 27 = .ok (.if_icmp .lt 23, 3) := by decide +kernel
theorem dX10_aheadOf_3 : decode cX10_aheadOf 3 = .ok (.istore_n 3, 1) := by decide +kernel
theorem dX10_aheadOf_30 : decode cX10_aheadOf 30 = .ok (.aload_n 0, 1) := by decide +kernel
theorem dX10_aheadOf_31 : decode cX10_aheadOf 31 = .ok (.getfield 76, 3) := by decide +kernel
theorem dX10_aheadOf_34 : decode cX10_aheadOf 34 = .ok (.iload_n 3, 1) := by decide +kernel
theorem dX10_aheadOf_35 : decode cX10_aheadOf 35 = .ok (.iaload, 1) := by decide +kernel
theorem dX10_aheadOf_36 : decode cX10_aheadOf 36 = .ok (.aload_n 0, 1) := by decide +kernel
theorem dX10_aheadOf_37 : decode cX10_aheadOf 37 = .ok (.getfield 76, 3) := by decide +kernel
theorem dX10_aheadOf_4 : decode cX10_aheadOf 4 = .ok (.iload_n 3, 1) := by decide +kernel
theorem dX10_aheadOf_40 : decode cX10_aheadOf 40 = .ok (.iload_n 1, 1) := by decide +kernel
theorem dX10_aheadOf_41 : decode cX10_aheadOf 41 = .ok (.iaload, 1) := by decide +kernel
theorem dX10_aheadOf_42 : decode cX10_aheadOf 42 = .ok (.if_icmp .ne 11, 3) := by decide +kernel
theorem dX10_aheadOf_45 : decode cX10_aheadOf 45 = .ok (.iload_n 3, 1) := by decide +kernel
theorem dX10_aheadOf_46 : decode cX10_aheadOf 46 = .ok (.iload_n 1, 1) := by decide +kernel
theorem dX10_aheadOf_47 : decode cX10_aheadOf 47 = .ok (.if_icmp .ge 6, 3) := by decide +kernel
theorem dX10_aheadOf_5 : decode cX10_aheadOf 5 = .ok (.aload_n 0, 1) := by decide +kernel
theorem dX10_aheadOf_50 : decode cX10_aheadOf 50 = .ok (.iinc 2 1, 3) := by decide +kernel
theorem dX10_aheadOf_53 : decode cX10_aheadOf 53 = .ok (.iinc 3 1, 3) := by decide +kernel
theorem dX10_aheadOf_56 : decode cX10_aheadOf 56 = .ok (.goto (-52), 3) := by decide +kernel
theorem dX10_aheadOf_59 : decode cX10_aheadOf 59 = .ok (.iload_n 2, 1) := by decide +kernel
theorem dX10_aheadOf_6 : decode cX10_aheadOf 6 = .ok (.getfield 10, 3) := by decide +kernel
theorem dX10_aheadOf_60 : decode cX10_aheadOf 60 = .ok (.ireturn, 1) := by decide +kernel
theorem dX10_aheadOf_9 : decode cX10_aheadOf 9 = .ok (.getfield 87, 3) := by decide +kernel
theorem dX10_areTwo_0 : decode cX10_areTwo 0 = .ok (.aload_n 0, 1) := by decide +kernel
theorem dX10_areTwo_1 : decode cX10_areTwo 1 = .ok (.iload_n 1, 1) := by decide +kernel
theorem dX10_areTwo_10 : decode cX10_areTwo 10 = .ok (.invokevirtual 123, 3) := by decide +kernel
theorem dX10_areTwo_13 : decode cX10_areTwo 13 = .ok (.ifCond .eq 12, 3) := by decide +kernel
theorem dX10_areTwo_16 : decode cX10_areTwo 16 = .ok (.iload_n 1, 1) := by decide +kernel
theorem dX10_areTwo_17 : decode cX10_areTwo 17 = .ok (.iload_n 2, 1) := by decide +kernel
theorem dX10_areTwo_18 : decode cX10_areTwo 18 = .ok (.if_icmp .eq 7, 3) := by decide +kernel
theorem dX10_areTwo_2 : decode cX10_areTwo 2 = .ok (.invokevirtual 123, 3) := by decide +kernel
theorem dX10_areTwo_21 : decode cX10_areTwo 21 = .ok (.iconst 1, 1) := by decide +kernel
theorem dX10_areTwo_22 : decode cX10_areTwo 22 = .ok (.goto 4, 3) := by decide +kernel
theorem dX10_areTwo_25 : decode cX10_areTwo 25 = .ok (.iconst 0, 1) := by decide +kernel
theorem dX10_areTwo_26 : decode cX10_areTwo 26 = .ok (.ireturn, 1) := by decide +kernel
theorem dX10_areTwo_5 : decode cX10_areTwo 5 = .ok (.ifCond .eq 20, 3) := by decide +kernel
theorem dX10_areTwo_8 : decode cX10_areTwo 8 = .ok (.aload_n 0, 1) := by decide +kernel
theorem dX10_areTwo_9 : decode cX10_areTwo 9 = .ok (.iload_n 2, 1) := by decide +kernel
theorem dX10_best_0 : decode cX10_best 0 = .ok (.aload_n 0, 1) := by decide +kernel
theorem dX10_best_1 : decode cX10_best 1 = .ok (.iload_n 1, 1) := by decide +kernel
theorem dX10_best_10 : decode cX10_best 10 = .ok (.iconst 1, 1) := by decide +kernel
theorem dX10_best_100 : decode cX10_best 100 = .ok (.getfield 140, 3) := by decide +kernel
theorem dX10_best_103 : decode cX10_best 103 = .ok (.iload 5, 2) := by decide +kernel
theorem dX10_best_105 : decode cX10_best 105 = .ok (.invokevirtual 165, 3) := by decide +kernel
theorem dX10_best_108 : decode cX10_best 108 = .ok (.istore 7, 2) := by decide +kernel
theorem dX10_best_11 : decode cX10_best 11 = .ok (.invokestatic 79, 3) := by decide +kernel
theorem dX10_best_110 : decode cX10_best 110 = .ok (.iload 7, 2) := by decide +kernel
theorem dX10_best_112 : decode cX10_best 112 = .ok (.iconst (-1), 1) := by decide +kernel
theorem dX10_best_113 : decode cX10_best 113 = .ok (.if_icmp .eq 16, 3) := by decide +kernel
theorem dX10_best_116 : decode cX10_best 116 = .ok (.iload 6, 2) := by decide +kernel
theorem dX10_best_118 : decode cX10_best 118 = .ok (.istore_n 3, 1) := by decide +kernel
theorem dX10_best_119 : decode cX10_best 119 = .ok (.iload 7, 2) := by decide +kernel
theorem dX10_best_121 : decode cX10_best 121 = .ok (.istore 4, 2) := by decide +kernel
theorem dX10_best_123 : decode cX10_best 123 = .ok (.iload 7, 2) := by decide +kernel
theorem dX10_best_125 : decode cX10_best 125 = .ok (.iconst 1, 1) := by decide +kernel
theorem dX10_best_126 : decode cX10_best 126 = .ok (.isub, 1) := by decide +kernel
theorem dX10_best_127 : decode cX10_best 127 = .ok (.istore 5, 2) := by decide +kernel
theorem dX10_best_129 : decode cX10_best 129 = .ok (.iinc 6 1, 3) := by decide +kernel
theorem dX10_best_132 : decode cX10_best 132 = .ok (.goto (-79), 3) := by decide +kernel
theorem dX10_best_135 : decode cX10_best 135 = .ok (.iload_n 2, 1) := by decide +kernel
theorem dX10_best_136 : decode cX10_best 136 = .ok (.ifCond .ne 7, 3) := by decide +kernel
theorem dX10_best_139 : decode cX10_best 139 = .ok (.iload_n 3, 1) := by decide +kernel
theorem dX10_best_14 : decode cX10_best 14 = .ok (.ifCond .ne 10, 3) := by decide +kernel
theorem dX10_best_140 : decode cX10_best 140 = .ok (.goto 5, 3) := by decide +kernel
theorem dX10_best_143 : decode cX10_best 143 = .ok (.iload 4, 2) := by decide +kernel
theorem dX10_best_145 : decode cX10_best 145 = .ok (.ireturn, 1) := by decide +kernel
theorem dX10_best_17 : decode cX10_best 17 = .ok (.aload_n 0, 1) := by decide +kernel
theorem dX10_best_18 : decode cX10_best 18 = .ok (.bipush (-2), 2) := by decide +kernel
theorem dX10_best_2 : decode cX10_best 2 = .ok (.invokevirtual 123, 3) := by decide +kernel
theorem dX10_best_20 : decode cX10_best 20 = .ok (.invokevirtual 83, 3) := by decide +kernel
theorem dX10_best_23 : decode cX10_best 23 = .ok (.ireturn, 1) := by decide +kernel
theorem dX10_best_24 : decode cX10_best 24 = .ok (.aload_n 0, 1) := by decide +kernel
theorem dX10_best_25 : decode cX10_best 25 = .ok (.getfield 10, 3) := by decide +kernel
theorem dX10_best_28 : decode cX10_best 28 = .ok (.getfield 126, 3) := by decide +kernel
theorem dX10_best_31 : decode cX10_best 31 = .ok (.iload_n 1, 1) := by decide +kernel
theorem dX10_best_32 : decode cX10_best 32 = .ok (.aaload, 1) := by decide +kernel
theorem dX10_best_33 : decode cX10_best 33 = .ok (.invokevirtual 133, 3) := by decide +kernel
theorem dX10_best_36 : decode cX10_best 36 = .ok (.ifCond .eq 5, 3) := by decide +kernel
theorem dX10_best_39 : decode cX10_best 39 = .ok (.iconst (-1), 1) := by decide +kernel
theorem dX10_best_40 : decode cX10_best 40 = .ok (.ireturn, 1) := by decide +kernel
theorem dX10_best_41 : decode cX10_best 41 = .ok (.iconst (-1), 1) := by decide +kernel
theorem dX10_best_42 : decode cX10_best 42 = .ok (.istore_n 3, 1) := by decide +kernel
theorem dX10_best_43 : decode cX10_best 43 = .ok (.iconst (-1), 1) := by decide +kernel
theorem dX10_best_44 : decode cX10_best 44 = .ok (.istore 4, 2) := by decide +kernel
theorem dX10_best_46 : decode cX10_best 46 = .ok (.bipush 60, 2) := by decide +kernel
theorem dX10_best_48 : decode cX10_best 48 = .ok (.istore 5, 2) := by decide +kernel
theorem dX10_best_5 : decode cX10_best 5 = .ok (.ifCond .eq 12, 3) := by decide +kernel
theorem dX10_best_50 : decode cX10_best 50 = .ok (.iconst 0, 1) := by decide +kernel
theorem dX10_best_51 : decode cX10_best 51 = .ok (.istore 6, 2) := by decide +kernel
theorem dX10_best_53 : decode cX10_best 53 = .ok (.iload 6, 2) := by decide +kernel
theorem dX10_best_55 : decode cX10_best 55 = .ok (.bipush 9, 2) := by decide +kernel
theorem dX10_best_57 : decode cX10_best 57 = .ok (.if_icmp .gt 78, 3) := by decide +kernel
theorem dX10_best_60 : decode cX10_best 60 = .ok (.aload_n 0, 1) := by decide +kernel
theorem dX10_best_61 : decode cX10_best 61 = .ok (.getfield 48, 3) := by decide +kernel
theorem dX10_best_64 : decode cX10_best 64 = .ok (.aload_n 0, 1) := by decide +kernel
theorem dX10_best_65 : decode cX10_best 65 = .ok (.getfield 10, 3) := by decide +kernel
theorem dX10_best_68 : decode cX10_best 68 = .ok (.getfield 126, 3) := by decide +kernel
theorem dX10_best_71 : decode cX10_best 71 = .ok (.iload_n 1, 1) := by decide +kernel
theorem dX10_best_72 : decode cX10_best 72 = .ok (.aaload, 1) := by decide +kernel
theorem dX10_best_73 : decode cX10_best 73 = .ok (.invokevirtual 148, 3) := by decide +kernel
theorem dX10_best_76 : decode cX10_best 76 = .ok (.aload_n 0, 1) := by decide +kernel
theorem dX10_best_77 : decode cX10_best 77 = .ok (.getfield 48, 3) := by decide +kernel
theorem dX10_best_8 : decode cX10_best 8 = .ok (.iload_n 2, 1) := by decide +kernel
theorem dX10_best_80 : decode cX10_best 80 = .ok (.iload 6, 2) := by decide +kernel
theorem dX10_best_82 : decode cX10_best 82 = .ok (.putfield 130, 3) := by decide +kernel
theorem dX10_best_85 : decode cX10_best 85 = .ok (.aload_n 0, 1) := by decide +kernel
theorem dX10_best_86 : decode cX10_best 86 = .ok (.getfield 48, 3) := by decide +kernel
theorem dX10_best_89 : decode cX10_best 89 = .ok (.aload_n 0, 1) := by decide +kernel
theorem dX10_best_9 : decode cX10_best 9 = .ok (.iconst 0, 1) := by decide +kernel
theorem dX10_best_90 : decode cX10_best 90 = .ok (.getfield 10, 3) := by decide +kernel
theorem dX10_best_93 : decode cX10_best 93 = .ok (.getfield 110, 3) := by decide +kernel
theorem dX10_best_96 : decode cX10_best 96 = .ok (.aload_n 0, 1) := by decide +kernel
theorem dX10_best_97 : decode cX10_best 97 = .ok (.getfield 10, 3) := by decide +kernel
theorem dX10_first_0 : decode cX10_first 0 = .ok (.iconst (-1), 1) := by decide +kernel
theorem dX10_first_1 : decode cX10_first 1 = .ok (.istore_n 1, 1) := by decide +kernel
theorem dX10_first_12 : decode cX10_first 12 = .ok (.getfield 87, 3) := by decide +kernel
theorem dX10_first_15 : decode cX10_first 15 = .ok (.if_icmp .ge 49, 3) := by decide +kernel
theorem dX10_first_18 : decode cX10_first 18 = .ok (.aload_n 0, 1) := by decide +kernel
theorem dX10_first_19 : decode cX10_first 19 = .ok (.getfield 10, 3) := by decide +kernel
theorem dX10_first_2 : decode cX10_first 2 = .ok (.bipush 60, 2) := by decide +kernel
theorem dX10_first_22 : decode cX10_first 22 = .ok (.getfield 126, 3) := by decide +kernel
theorem dX10_first_25 : decode cX10_first 25 = .ok (.iload_n 3, 1) := by decide +kernel
theorem dX10_first_26 : decode cX10_first 26 = .ok (.aaload, 1) := by decide +kernel
theorem dX10_first_27 : decode cX10_first 27 = .ok (.invokevirtual 133, 3) := by decide +kernel
theorem dX10_first_30 : decode cX10_first 30 = .ok (.ifCond .eq 7, 3) := by decide +kernel
theorem dX10_first_33 : decode cX10_first 33 = .ok (.iconst (-1), 1) := by decide +kernel
theorem dX10_first_34 : decode cX10_first 34 = .ok (.goto 9, 3) := by decide +kernel
theorem dX10_first_37 : decode cX10_first 37 = .ok (.aload_n 0, 1) := by decide +kernel
theorem dX10_first_38 : decode cX10_first 38 = .ok (.iload_n 3, 1) := by decide +kernel
theorem dX10_first_39 : decode cX10_first 39 = .ok (.iload_n 2, 1) := by decide +kernel
theorem dX10_first_4 : decode cX10_first 4 = .ok (.istore_n 2, 1) := by decide +kernel
theorem dX10_first_40 : decode cX10_first 40 = .ok (.invokevirtual 156, 3) := by decide +kernel
theorem dX10_first_43 : decode cX10_first 43 = .ok (.istore 4, 2) := by decide +kernel
theorem dX10_first_45 : decode cX10_first 45 = .ok (.iload 4, 2) := by decide +kernel
theorem dX10_first_47 : decode cX10_first 47 = .ok (.iconst (-1), 1) := by decide +kernel
theorem dX10_first_48 : decode cX10_first 48 = .ok (.if_icmp .eq 10, 3) := by decide +kernel
theorem dX10_first_5 : decode cX10_first 5 = .ok (.iconst 0, 1) := by decide +kernel
theorem dX10_first_51 : decode cX10_first 51 = .ok (.iload_n 3, 1) := by decide +kernel
theorem dX10_first_52 : decode cX10_first 52 = .ok (.istore_n 1, 1) := by decide +kernel
theorem dX10_first_53 : decode cX10_first 53 = .ok (.iload 4, 2) := by decide +kernel
theorem dX10_first_55 : decode cX10_first 55 = .ok (.iconst 1, 1) := by decide +kernel
theorem dX10_first_56 : decode cX10_first 56 = .ok (.isub, 1) := by decide +kernel
theorem dX10_first_57 : decode cX10_first 57 = .ok (.istore_n 2, 1) := by decide +kernel
theorem dX10_first_58 : decode cX10_first 58 = .ok (.iinc 3 1, 3) := by decide +kernel
theorem dX10_first_6 : decode cX10_first 6 = .ok (.istore_n 3, 1) := by decide +kernel
theorem dX10_first_61 : decode cX10_first 61 = .ok (.goto (-54), 3) := by decide +kernel
theorem dX10_first_64 : decode cX10_first 64 = .ok (.iload_n 1, 1) := by decide +kernel
theorem dX10_first_65 : decode cX10_first 65 = .ok (.ireturn, 1) := by decide +kernel
theorem dX10_first_7 : decode cX10_first 7 = .ok (.iload_n 3, 1) := by decide +kernel
theorem dX10_first_8 : decode cX10_first 8 = .ok (.aload_n 0, 1) := by decide +kernel
theorem dX10_first_9 : decode cX10_first 9 = .ok (.getfield 10, 3) := by decide +kernel
theorem dX10_homeBehind_0 : decode cX10_homeBehind 0 = .ok (.aload_n 0, 1) := by decide +kernel
theorem dX10_homeBehind_1 : decode cX10_homeBehind 1 = .ok (.getfield 48, 3) := by decide +kernel
theorem dX10_homeBehind_11 : decode cX10_homeBehind 11 = .ok (.iload_n 1, 1) := by decide +kernel
theorem dX10_homeBehind_12 : decode cX10_homeBehind 12 = .ok (.aaload, 1) := by decide +kernel
theorem dX10_homeBehind_13 : decode cX10_homeBehind 13 = .ok (.invokevirtual 148, 3) := by decide +kernel
theorem dX10_homeBehind_16 : decode cX10_homeBehind 16 = .ok (.aload_n 0, 1) := by decide +kernel
theorem dX10_homeBehind_17 : decode cX10_homeBehind 17 = .ok (.getfield 48, 3) := by decide +kernel
theorem dX10_homeBehind_20 : decode cX10_homeBehind 20 = .ok (.aload_n 0, 1) := by decide +kernel
theorem dX10_homeBehind_21 : decode cX10_homeBehind 21 = .ok (.getfield 10, 3) := by decide +kernel
theorem dX10_homeBehind_24 : decode cX10_homeBehind 24 = .ok (.getfield 110, 3) := by decide +kernel
theorem dX10_homeBehind_27 : decode cX10_homeBehind 27 = .ok (.aload_n 0, 1) := by decide +kernel
theorem dX10_homeBehind_28 : decode cX10_homeBehind 28 = .ok (.getfield 10, 3) := by decide +kernel
theorem dX10_homeBehind_31 : decode cX10_homeBehind 31 = .ok (.getfield 140, 3) := by decide +kernel
theorem dX10_homeBehind_34 : decode cX10_homeBehind 34 = .ok (.iload_n 2, 1) := by decide +kernel
theorem dX10_homeBehind_35 : decode cX10_homeBehind 35 = .ok (.invokevirtual 165, 3) := by decide +kernel
theorem dX10_homeBehind_38 : decode cX10_homeBehind 38 = .ok (.ireturn, 1) := by decide +kernel
theorem dX10_homeBehind_4 : decode cX10_homeBehind 4 = .ok (.aload_n 0, 1) := by decide +kernel
theorem dX10_homeBehind_5 : decode cX10_homeBehind 5 = .ok (.getfield 10, 3) := by decide +kernel
theorem dX10_homeBehind_8 : decode cX10_homeBehind 8 = .ok (.getfield 126, 3) := by decide +kernel
theorem dX10_home_0 : decode cX10_home 0 = .ok (.aload_n 0, 1) := by decide +kernel
theorem dX10_home_1 : decode cX10_home 1 = .ok (.iload_n 1, 1) := by decide +kernel
theorem dX10_home_10 : decode cX10_home 10 = .ok (.bipush 60, 2) := by decide +kernel
theorem dX10_home_12 : decode cX10_home 12 = .ok (.invokevirtual 156, 3) := by decide +kernel
theorem dX10_home_15 : decode cX10_home 15 = .ok (.goto 9, 3) := by decide +kernel
theorem dX10_home_18 : decode cX10_home 18 = .ok (.aload_n 0, 1) := by decide +kernel
theorem dX10_home_19 : decode cX10_home 19 = .ok (.bipush (-2), 2) := by decide +kernel
theorem dX10_home_2 : decode cX10_home 2 = .ok (.invokevirtual 123, 3) := by decide +kernel
theorem dX10_home_21 : decode cX10_home 21 = .ok (.invokevirtual 83, 3) := by decide +kernel
theorem dX10_home_24 : decode cX10_home 24 = .ok (.ireturn, 1) := by decide +kernel
theorem dX10_home_5 : decode cX10_home 5 = .ok (.ifCond .eq 13, 3) := by decide +kernel
theorem dX10_home_8 : decode cX10_home 8 = .ok (.aload_n 0, 1) := by decide +kernel
theorem dX10_home_9 : decode cX10_home 9 = .ok (.iload_n 1, 1) := by decide +kernel
theorem dX10_of_0 : decode cX10_of 0 = .ok (.aload_n 0, 1) := by decide +kernel
theorem dX10_of_1 : decode cX10_of 1 = .ok (.iload_n 1, 1) := by decide +kernel
theorem dX10_of_10 : decode cX10_of 10 = .ok (.bipush 9, 2) := by decide +kernel
theorem dX10_of_12 : decode cX10_of 12 = .ok (.invokestatic 79, 3) := by decide +kernel
theorem dX10_of_15 : decode cX10_of 15 = .ok (.ifCond .ne 10, 3) := by decide +kernel
theorem dX10_of_18 : decode cX10_of 18 = .ok (.aload_n 0, 1) := by decide +kernel
theorem dX10_of_19 : decode cX10_of 19 = .ok (.bipush (-2), 2) := by decide +kernel
theorem dX10_of_2 : decode cX10_of 2 = .ok (.invokevirtual 123, 3) := by decide +kernel
theorem dX10_of_21 : decode cX10_of 21 = .ok (.invokevirtual 83, 3) := by decide +kernel
theorem dX10_of_24 : decode cX10_of 24 = .ok (.ireturn, 1) := by decide +kernel
theorem dX10_of_25 : decode cX10_of 25 = .ok (.aload_n 0, 1) := by decide +kernel
theorem dX10_of_26 : decode cX10_of 26 = .ok (.getfield 10, 3) := by decide +kernel
theorem dX10_of_29 : decode cX10_of 29 = .ok (.getfield 126, 3) := by decide +kernel
theorem dX10_of_32 : decode cX10_of 32 = .ok (.iload_n 1, 1) := by decide +kernel
theorem dX10_of_33 : decode cX10_of 33 = .ok (.aaload, 1) := by decide +kernel
theorem dX10_of_34 : decode cX10_of 34 = .ok (.iload_n 2, 1) := by decide +kernel
theorem dX10_of_35 : decode cX10_of 35 = .ok (.aload_n 0, 1) := by decide +kernel
theorem dX10_of_36 : decode cX10_of 36 = .ok (.getfield 10, 3) := by decide +kernel
theorem dX10_of_39 : decode cX10_of 39 = .ok (.getfield 110, 3) := by decide +kernel
theorem dX10_of_42 : decode cX10_of 42 = .ok (.iconst 1, 1) := by decide +kernel
theorem dX10_of_43 : decode cX10_of 43 = .ok (.iadd, 1) := by decide +kernel
theorem dX10_of_44 : decode cX10_of 44 = .ok (.invokevirtual 144, 3) := by decide +kernel
theorem dX10_of_47 : decode cX10_of 47 = .ok (.ireturn, 1) := by decide +kernel
theorem dX10_of_5 : decode cX10_of 5 = .ok (.ifCond .eq 13, 3) := by decide +kernel
theorem dX10_of_8 : decode cX10_of 8 = .ok (.iload_n 2, 1) := by decide +kernel
theorem dX10_of_9 : decode cX10_of 9 = .ok (.iconst 0, 1) := by decide +kernel
theorem dX10_one_0 : decode cX10_one 0 = .ok (.iload_n 1, 1) := by decide +kernel
theorem dX10_one_1 : decode cX10_one 1 = .ok (.iconst 0, 1) := by decide +kernel
theorem dX10_one_10 : decode cX10_one 10 = .ok (.iconst 1, 1) := by decide +kernel
theorem dX10_one_11 : decode cX10_one 11 = .ok (.bipush 9, 2) := by decide +kernel
theorem dX10_one_13 : decode cX10_one 13 = .ok (.invokestatic 79, 3) := by decide +kernel
theorem dX10_one_16 : decode cX10_one 16 = .ok (.ifCond .eq 12, 3) := by decide +kernel
theorem dX10_one_19 : decode cX10_one 19 = .ok (.iload_n 3, 1) := by decide +kernel
theorem dX10_one_2 : decode cX10_one 2 = .ok (.iconst 5, 1) := by decide +kernel
theorem dX10_one_20 : decode cX10_one 20 = .ok (.iconst 0, 1) := by decide +kernel
theorem dX10_one_21 : decode cX10_one 21 = .ok (.iconst 5, 1) := by decide +kernel
theorem dX10_one_22 : decode cX10_one 22 = .ok (.invokestatic 79, 3) := by decide +kernel
theorem dX10_one_25 : decode cX10_one 25 = .ok (.ifCond .ne 10, 3) := by decide +kernel
theorem dX10_one_28 : decode cX10_one 28 = .ok (.aload_n 0, 1) := by decide +kernel
theorem dX10_one_29 : decode cX10_one 29 = .ok (.bipush (-2), 2) := by decide +kernel
theorem dX10_one_3 : decode cX10_one 3 = .ok (.invokestatic 79, 3) := by decide +kernel
theorem dX10_one_31 : decode cX10_one 31 = .ok (.invokevirtual 83, 3) := by decide +kernel
theorem dX10_one_34 : decode cX10_one 34 = .ok (.ireturn, 1) := by decide +kernel
theorem dX10_one_35 : decode cX10_one 35 = .ok (.aload_n 0, 1) := by decide +kernel
theorem dX10_one_36 : decode cX10_one 36 = .ok (.getfield 10, 3) := by decide +kernel
theorem dX10_one_39 : decode cX10_one 39 = .ok (.getfield 87, 3) := by decide +kernel
theorem dX10_one_42 : decode cX10_one 42 = .ok (.bipush 6, 2) := by decide +kernel
theorem dX10_one_44 : decode cX10_one 44 = .ok (.if_icmp .lt 10, 3) := by decide +kernel
theorem dX10_one_47 : decode cX10_one 47 = .ok (.aload_n 0, 1) := by decide +kernel
theorem dX10_one_48 : decode cX10_one 48 = .ok (.bipush (-4), 2) := by decide +kernel
theorem dX10_one_50 : decode cX10_one 50 = .ok (.invokevirtual 83, 3) := by decide +kernel
theorem dX10_one_53 : decode cX10_one 53 = .ok (.ireturn, 1) := by decide +kernel
theorem dX10_one_54 : decode cX10_one 54 = .ok (.aload_n 0, 1) := by decide +kernel
theorem dX10_one_55 : decode cX10_one 55 = .ok (.getfield 10, 3) := by decide +kernel
theorem dX10_one_58 : decode cX10_one 58 = .ok (.iload_n 1, 1) := by decide +kernel
theorem dX10_one_59 : decode cX10_one 59 = .ok (.iload_n 2, 1) := by decide +kernel
theorem dX10_one_6 : decode cX10_one 6 = .ok (.ifCond .eq 22, 3) := by decide +kernel
theorem dX10_one_60 : decode cX10_one 60 = .ok (.iload_n 3, 1) := by decide +kernel
theorem dX10_one_61 : decode cX10_one 61 = .ok (.invokevirtual 95, 3) := by decide +kernel
theorem dX10_one_64 : decode cX10_one 64 = .ok (.aload_n 0, 1) := by decide +kernel
theorem dX10_one_65 : decode cX10_one 65 = .ok (.getfield 10, 3) := by decide +kernel
theorem dX10_one_68 : decode cX10_one 68 = .ok (.getfield 87, 3) := by decide +kernel
theorem dX10_one_71 : decode cX10_one 71 = .ok (.iconst 1, 1) := by decide +kernel
theorem dX10_one_72 : decode cX10_one 72 = .ok (.isub, 1) := by decide +kernel
theorem dX10_one_73 : decode cX10_one 73 = .ok (.ireturn, 1) := by decide +kernel
theorem dX10_one_9 : decode cX10_one 9 = .ok (.iload_n 2, 1) := by decide +kernel
theorem dX10_order_0 : decode cX10_order 0 = .ok (.iload_n 1, 1) := by decide +kernel
theorem dX10_order_1 : decode cX10_order 1 = .ok (.ifCond .ge 10, 3) := by decide +kernel
theorem dX10_order_10 : decode cX10_order 10 = .ok (.ireturn, 1) := by decide +kernel
theorem dX10_order_11 : decode cX10_order 11 = .ok (.iload_n 1, 1) := by decide +kernel
theorem dX10_order_12 : decode cX10_order 12 = .ok (.aload_n 0, 1) := by decide +kernel
theorem dX10_order_13 : decode cX10_order 13 = .ok (.getfield 10, 3) := by decide +kernel
theorem dX10_order_16 : decode cX10_order 16 = .ok (.getfield 87, 3) := by decide +kernel
theorem dX10_order_19 : decode cX10_order 19 = .ok (.if_icmp .lt 10, 3) := by decide +kernel
theorem dX10_order_22 : decode cX10_order 22 = .ok (.aload_n 0, 1) := by decide +kernel
theorem dX10_order_23 : decode cX10_order 23 = .ok (.bipush (-3), 2) := by decide +kernel
theorem dX10_order_25 : decode cX10_order 25 = .ok (.invokevirtual 83, 3) := by decide +kernel
theorem dX10_order_28 : decode cX10_order 28 = .ok (.ireturn, 1) := by decide +kernel
theorem dX10_order_29 : decode cX10_order 29 = .ok (.aload_n 0, 1) := by decide +kernel
theorem dX10_order_30 : decode cX10_order 30 = .ok (.invokevirtual 159, 3) := by decide +kernel
theorem dX10_order_33 : decode cX10_order 33 = .ok (.iconst 0, 1) := by decide +kernel
theorem dX10_order_34 : decode cX10_order 34 = .ok (.istore_n 2, 1) := by decide +kernel
theorem dX10_order_35 : decode cX10_order 35 = .ok (.iload_n 2, 1) := by decide +kernel
theorem dX10_order_36 : decode cX10_order 36 = .ok (.aload_n 0, 1) := by decide +kernel
theorem dX10_order_37 : decode cX10_order 37 = .ok (.getfield 10, 3) := by decide +kernel
theorem dX10_order_4 : decode cX10_order 4 = .ok (.aload_n 0, 1) := by decide +kernel
theorem dX10_order_40 : decode cX10_order 40 = .ok (.getfield 87, 3) := by decide +kernel
theorem dX10_order_43 : decode cX10_order 43 = .ok (.if_icmp .ge 20, 3) := by decide +kernel
theorem dX10_order_46 : decode cX10_order 46 = .ok (.aload_n 0, 1) := by decide +kernel
theorem dX10_order_47 : decode cX10_order 47 = .ok (.iload_n 2, 1) := by decide +kernel
theorem dX10_order_48 : decode cX10_order 48 = .ok (.invokevirtual 162, 3) := by decide +kernel
theorem dX10_order_5 : decode cX10_order 5 = .ok (.bipush (-2), 2) := by decide +kernel
theorem dX10_order_51 : decode cX10_order 51 = .ok (.iload_n 1, 1) := by decide +kernel
theorem dX10_order_52 : decode cX10_order 52 = .ok (.if_icmp .ne 5, 3) := by decide +kernel
theorem dX10_order_55 : decode cX10_order 55 = .ok (.iload_n 2, 1) := by decide +kernel
theorem dX10_order_56 : decode cX10_order 56 = .ok (.ireturn, 1) := by decide +kernel
theorem dX10_order_57 : decode cX10_order 57 = .ok (.iinc 2 1, 3) := by decide +kernel
theorem dX10_order_60 : decode cX10_order 60 = .ok (.goto (-25), 3) := by decide +kernel
theorem dX10_order_63 : decode cX10_order 63 = .ok (.iconst (-1), 1) := by decide +kernel
theorem dX10_order_64 : decode cX10_order 64 = .ok (.ireturn, 1) := by decide +kernel
theorem dX10_order_7 : decode cX10_order 7 = .ok (.invokevirtual 83, 3) := by decide +kernel
theorem dX10_race_0 : decode cX10_race 0 = .ok (.iload_n 1, 1) := by decide +kernel
theorem dX10_race_1 : decode cX10_race 1 = .ok (.bipush 10, 2) := by decide +kernel
theorem dX10_race_11 : decode cX10_race 11 = .ok (.aload_n 0, 1) := by decide +kernel
theorem dX10_race_12 : decode cX10_race 12 = .ok (.bipush (-2), 2) := by decide +kernel
theorem dX10_race_14 : decode cX10_race 14 = .ok (.invokevirtual 83, 3) := by decide +kernel
theorem dX10_race_17 : decode cX10_race 17 = .ok (.ireturn, 1) := by decide +kernel
theorem dX10_race_18 : decode cX10_race 18 = .ok (.aload_n 0, 1) := by decide +kernel
theorem dX10_race_19 : decode cX10_race 19 = .ok (.getfield 10, 3) := by decide +kernel
theorem dX10_race_22 : decode cX10_race 22 = .ok (.getfield 87, 3) := by decide +kernel
theorem dX10_race_25 : decode cX10_race 25 = .ok (.istore_n 2, 1) := by decide +kernel
theorem dX10_race_26 : decode cX10_race 26 = .ok (.aload_n 0, 1) := by decide +kernel
theorem dX10_race_27 : decode cX10_race 27 = .ok (.getfield 10, 3) := by decide +kernel
theorem dX10_race_3 : decode cX10_race 3 = .ok (.bipush 60, 2) := by decide +kernel
theorem dX10_race_30 : decode cX10_race 30 = .ok (.iload_n 1, 1) := by decide +kernel
theorem dX10_race_31 : decode cX10_race 31 = .ok (.invokevirtual 91, 3) := by decide +kernel
theorem dX10_race_34 : decode cX10_race 34 = .ok (.iload_n 2, 1) := by decide +kernel
theorem dX10_race_35 : decode cX10_race 35 = .ok (.ireturn, 1) := by decide +kernel
theorem dX10_race_5 : decode cX10_race 5 = .ok (.invokestatic 79, 3) := by decide +kernel
theorem dX10_race_8 : decode cX10_race 8 = .ok (.ifCond .ne 10, 3) := by decide +kernel
theorem dX10_rankAll_0 : decode cX10_rankAll 0 = .ok (.iconst 0, 1) := by decide +kernel
theorem dX10_rankAll_1 : decode cX10_rankAll 1 = .ok (.istore_n 1, 1) := by decide +kernel
theorem dX10_rankAll_10 : decode cX10_rankAll 10 = .ok (.if_icmp .ge 66, 3) := by decide +kernel
theorem dX10_rankAll_13 : decode cX10_rankAll 13 = .ok (.aload_n 0, 1) := by decide +kernel
theorem dX10_rankAll_14 : decode cX10_rankAll 14 = .ok (.getfield 10, 3) := by decide +kernel
theorem dX10_rankAll_17 : decode cX10_rankAll 17 = .ok (.getfield 126, 3) := by decide +kernel
theorem dX10_rankAll_2 : decode cX10_rankAll 2 = .ok (.iload_n 1, 1) := by decide +kernel
theorem dX10_rankAll_20 : decode cX10_rankAll 20 = .ok (.iload_n 1, 1) := by decide +kernel
theorem dX10_rankAll_21 : decode cX10_rankAll 21 = .ok (.aaload, 1) := by decide +kernel
theorem dX10_rankAll_22 : decode cX10_rankAll 22 = .ok (.astore_n 2, 1) := by decide +kernel
theorem dX10_rankAll_23 : decode cX10_rankAll 23 = .ok (.aload_n 0, 1) := by decide +kernel
theorem dX10_rankAll_24 : decode cX10_rankAll 24 = .ok (.iload_n 1, 1) := by decide +kernel
theorem dX10_rankAll_25 : decode cX10_rankAll 25 = .ok (.bipush 60, 2) := by decide +kernel
theorem dX10_rankAll_27 : decode cX10_rankAll 27 = .ok (.invokevirtual 156, 3) := by decide +kernel
theorem dX10_rankAll_3 : decode cX10_rankAll 3 = .ok (.aload_n 0, 1) := by decide +kernel
theorem dX10_rankAll_30 : decode cX10_rankAll 30 = .ok (.istore_n 3, 1) := by decide +kernel
theorem dX10_rankAll_31 : decode cX10_rankAll 31 = .ok (.iload_n 3, 1) := by decide +kernel
theorem dX10_rankAll_32 : decode cX10_rankAll 32 = .ok (.iconst (-1), 1) := by decide +kernel
theorem dX10_rankAll_33 : decode cX10_rankAll 33 = .ok (.if_icmp .ne 8, 3) := by decide +kernel
theorem dX10_rankAll_36 : decode cX10_rankAll 36 = .ok (.bipush 61, 2) := by decide +kernel
theorem dX10_rankAll_38 : decode cX10_rankAll 38 = .ok (.goto 4, 3) := by decide +kernel
theorem dX10_rankAll_4 : decode cX10_rankAll 4 = .ok (.getfield 10, 3) := by decide +kernel
theorem dX10_rankAll_41 : decode cX10_rankAll 41 = .ok (.iload_n 3, 1) := by decide +kernel
theorem dX10_rankAll_42 : decode cX10_rankAll 42 = .ok (.istore 4, 2) := by decide +kernel
theorem dX10_rankAll_44 : decode cX10_rankAll 44 = .ok (.aload_n 0, 1) := by decide +kernel
theorem dX10_rankAll_45 : decode cX10_rankAll 45 = .ok (.getfield 76, 3) := by decide +kernel
theorem dX10_rankAll_48 : decode cX10_rankAll 48 = .ok (.iload_n 1, 1) := by decide +kernel
theorem dX10_rankAll_49 : decode cX10_rankAll 49 = .ok (.aload_n 2, 1) := by decide +kernel
theorem dX10_rankAll_50 : decode cX10_rankAll 50 = .ok (.invokevirtual 133, 3) := by decide +kernel
theorem dX10_rankAll_53 : decode cX10_rankAll 53 = .ok (.ifCond .eq 10, 3) := by decide +kernel
theorem dX10_rankAll_56 : decode cX10_rankAll 56 = .ok (.aload_n 2, 1) := by decide +kernel
theorem dX10_rankAll_57 : decode cX10_rankAll 57 = .ok (.getfield 303, 3) := by decide +kernel
theorem dX10_rankAll_60 : decode cX10_rankAll 60 = .ok (.goto 9, 3) := by decide +kernel
theorem dX10_rankAll_63 : decode cX10_rankAll 63 = .ok (.sipush 9999, 3) := by decide +kernel
theorem dX10_rankAll_66 : decode cX10_rankAll 66 = .ok (.iload 4, 2) := by decide +kernel
theorem dX10_rankAll_68 : decode cX10_rankAll 68 = .ok (.iadd, 1) := by decide +kernel
theorem dX10_rankAll_69 : decode cX10_rankAll 69 = .ok (.iastore, 1) := by decide +kernel
theorem dX10_rankAll_7 : decode cX10_rankAll 7 = .ok (.getfield 87, 3) := by decide +kernel
theorem dX10_rankAll_70 : decode cX10_rankAll 70 = .ok (.iinc 1 1, 3) := by decide +kernel
theorem dX10_rankAll_73 : decode cX10_rankAll 73 = .ok (.goto (-71), 3) := by decide +kernel
theorem dX10_rankAll_76 : decode cX10_rankAll 76 = .ok (.return_, 1) := by decide +kernel
theorem dX10_refuse_0 : decode cX10_refuse 0 = .ok (.bipush (-2), 2) := by decide +kernel
theorem dX10_refuse_10 : decode cX10_refuse 10 = .ok (.aload_n 0, 1) := by decide +kernel
theorem dX10_refuse_11 : decode cX10_refuse 11 = .ok (.getfield 34, 3) := by decide +kernel
theorem dX10_refuse_14 : decode cX10_refuse 14 = .ok (.arraylength, 1) := by decide +kernel
theorem dX10_refuse_15 : decode cX10_refuse 15 = .ok (.if_icmp .ge 13, 3) := by decide +kernel
theorem dX10_refuse_18 : decode cX10_refuse 18 = .ok (.aload_n 0, 1) := by decide +kernel
theorem dX10_refuse_19 : decode cX10_refuse 19 = .ok (.getfield 34, 3) := by decide +kernel
theorem dX10_refuse_2 : decode cX10_refuse 2 = .ok (.iload_n 1, 1) := by decide +kernel
theorem dX10_refuse_22 : decode cX10_refuse 22 = .ok (.iload_n 2, 1) := by decide +kernel
theorem dX10_refuse_23 : decode cX10_refuse 23 = .ok (.dup2, 1) := by decide +kernel
theorem dX10_refuse_24 : decode cX10_refuse 24 = .ok (.iaload, 1) := by decide +kernel
theorem dX10_refuse_25 : decode cX10_refuse 25 = .ok (.iconst 1, 1) := by decide +kernel
theorem dX10_refuse_26 : decode cX10_refuse 26 = .ok (.iadd, 1) := by decide +kernel
theorem dX10_refuse_27 : decode cX10_refuse 27 = .ok (.iastore, 1) := by decide +kernel
theorem dX10_refuse_28 : decode cX10_refuse 28 = .ok (.iload_n 1, 1) := by decide +kernel
theorem dX10_refuse_29 : decode cX10_refuse 29 = .ok (.ireturn, 1) := by decide +kernel
theorem dX10_refuse_3 : decode cX10_refuse 3 = .ok (.isub, 1) := by decide +kernel
theorem dX10_refuse_4 : decode cX10_refuse 4 = .ok (.istore_n 2, 1) := by decide +kernel
theorem dX10_refuse_5 : decode cX10_refuse 5 = .ok (.iload_n 2, 1) := by decide +kernel
theorem dX10_refuse_6 : decode cX10_refuse 6 = .ok (.ifCond .lt 22, 3) := by decide +kernel
theorem dX10_refuse_9 : decode cX10_refuse 9 = .ok (.iload_n 2, 1) := by decide +kernel
theorem dX10_speed_0 : decode cX10_speed 0 = .ok (.aload_n 0, 1) := by decide +kernel
theorem dX10_speed_1 : decode cX10_speed 1 = .ok (.iload_n 1, 1) := by decide +kernel
theorem dX10_speed_10 : decode cX10_speed 10 = .ok (.bipush 9, 2) := by decide +kernel
theorem dX10_speed_12 : decode cX10_speed 12 = .ok (.invokestatic 79, 3) := by decide +kernel
theorem dX10_speed_15 : decode cX10_speed 15 = .ok (.ifCond .ne 10, 3) := by decide +kernel
theorem dX10_speed_18 : decode cX10_speed 18 = .ok (.aload_n 0, 1) := by decide +kernel
theorem dX10_speed_19 : decode cX10_speed 19 = .ok (.bipush (-2), 2) := by decide +kernel
theorem dX10_speed_2 : decode cX10_speed 2 = .ok (.invokevirtual 123, 3) := by decide +kernel
theorem dX10_speed_21 : decode cX10_speed 21 = .ok (.invokevirtual 83, 3) := by decide +kernel
theorem dX10_speed_24 : decode cX10_speed 24 = .ok (.ireturn, 1) := by decide +kernel
theorem dX10_speed_25 : decode cX10_speed 25 = .ok (.aload_n 0, 1) := by decide +kernel
theorem dX10_speed_26 : decode cX10_speed 26 = .ok (.getfield 10, 3) := by decide +kernel
theorem dX10_speed_29 : decode cX10_speed 29 = .ok (.getfield 126, 3) := by decide +kernel
theorem dX10_speed_32 : decode cX10_speed 32 = .ok (.iload_n 1, 1) := by decide +kernel
theorem dX10_speed_33 : decode cX10_speed 33 = .ok (.aaload, 1) := by decide +kernel
theorem dX10_speed_34 : decode cX10_speed 34 = .ok (.astore_n 3, 1) := by decide +kernel
theorem dX10_speed_35 : decode cX10_speed 35 = .ok (.aload_n 3, 1) := by decide +kernel
theorem dX10_speed_36 : decode cX10_speed 36 = .ok (.getfield 130, 3) := by decide +kernel
theorem dX10_speed_39 : decode cX10_speed 39 = .ok (.istore 4, 2) := by decide +kernel
theorem dX10_speed_41 : decode cX10_speed 41 = .ok (.iload 4, 2) := by decide +kernel
theorem dX10_speed_43 : decode cX10_speed 43 = .ok (.iload_n 2, 1) := by decide +kernel
theorem dX10_speed_44 : decode cX10_speed 44 = .ok (.if_icmp .eq 10, 3) := by decide +kernel
theorem dX10_speed_47 : decode cX10_speed 47 = .ok (.aload_n 3, 1) := by decide +kernel
theorem dX10_speed_48 : decode cX10_speed 48 = .ok (.invokevirtual 133, 3) := by decide +kernel
theorem dX10_speed_5 : decode cX10_speed 5 = .ok (.ifCond .eq 13, 3) := by decide +kernel
theorem dX10_speed_51 : decode cX10_speed 51 = .ok (.ifCond .eq 10, 3) := by decide +kernel
theorem dX10_speed_54 : decode cX10_speed 54 = .ok (.aload_n 0, 1) := by decide +kernel
theorem dX10_speed_55 : decode cX10_speed 55 = .ok (.bipush (-3), 2) := by decide +kernel
theorem dX10_speed_57 : decode cX10_speed 57 = .ok (.invokevirtual 83, 3) := by decide +kernel
theorem dX10_speed_60 : decode cX10_speed 60 = .ok (.ireturn, 1) := by decide +kernel
theorem dX10_speed_61 : decode cX10_speed 61 = .ok (.aload_n 0, 1) := by decide +kernel
theorem dX10_speed_62 : decode cX10_speed 62 = .ok (.getfield 10, 3) := by decide +kernel
theorem dX10_speed_65 : decode cX10_speed 65 = .ok (.invokevirtual 113, 3) := by decide +kernel
theorem dX10_speed_68 : decode cX10_speed 68 = .ok (.aload_n 3, 1) := by decide +kernel
theorem dX10_speed_69 : decode cX10_speed 69 = .ok (.iload_n 2, 1) := by decide +kernel
theorem dX10_speed_70 : decode cX10_speed 70 = .ok (.putfield 130, 3) := by decide +kernel
theorem dX10_speed_73 : decode cX10_speed 73 = .ok (.iload 4, 2) := by decide +kernel
theorem dX10_speed_75 : decode cX10_speed 75 = .ok (.ireturn, 1) := by decide +kernel
theorem dX10_speed_8 : decode cX10_speed 8 = .ok (.iload_n 2, 1) := by decide +kernel
theorem dX10_speed_9 : decode cX10_speed 9 = .ok (.iconst 0, 1) := by decide +kernel
theorem dX10_start_0 : decode cX10_start 0 = .ok (.aload_n 0, 1) := by decide +kernel
theorem dX10_start_1 : decode cX10_start 1 = .ok (.iload_n 1, 1) := by decide +kernel
theorem dX10_start_10 : decode cX10_start 10 = .ok (.bipush 30, 2) := by decide +kernel
theorem dX10_start_12 : decode cX10_start 12 = .ok (.invokestatic 79, 3) := by decide +kernel
theorem dX10_start_15 : decode cX10_start 15 = .ok (.ifCond .ne 10, 3) := by decide +kernel
theorem dX10_start_18 : decode cX10_start 18 = .ok (.aload_n 0, 1) := by decide +kernel
theorem dX10_start_19 : decode cX10_start 19 = .ok (.bipush (-2), 2) := by decide +kernel
theorem dX10_start_2 : decode cX10_start 2 = .ok (.invokevirtual 123, 3) := by decide +kernel
theorem dX10_start_21 : decode cX10_start 21 = .ok (.invokevirtual 83, 3) := by decide +kernel
theorem dX10_start_24 : decode cX10_start 24 = .ok (.ireturn, 1) := by decide +kernel
theorem dX10_start_25 : decode cX10_start 25 = .ok (.aload_n 0, 1) := by decide +kernel
theorem dX10_start_26 : decode cX10_start 26 = .ok (.getfield 10, 3) := by decide +kernel
theorem dX10_start_29 : decode cX10_start 29 = .ok (.getfield 126, 3) := by decide +kernel
theorem dX10_start_32 : decode cX10_start 32 = .ok (.iload_n 1, 1) := by decide +kernel
theorem dX10_start_33 : decode cX10_start 33 = .ok (.aaload, 1) := by decide +kernel
theorem dX10_start_34 : decode cX10_start 34 = .ok (.astore_n 3, 1) := by decide +kernel
theorem dX10_start_35 : decode cX10_start 35 = .ok (.aload_n 3, 1) := by decide +kernel
theorem dX10_start_36 : decode cX10_start 36 = .ok (.invokevirtual 133, 3) := by decide +kernel
theorem dX10_start_39 : decode cX10_start 39 = .ok (.ifCond .ne 19, 3) := by decide +kernel
theorem dX10_start_42 : decode cX10_start 42 = .ok (.aload_n 3, 1) := by decide +kernel
theorem dX10_start_43 : decode cX10_start 43 = .ok (.getfield 137, 3) := by decide +kernel
theorem dX10_start_46 : decode cX10_start 46 = .ok (.iload_n 2, 1) := by decide +kernel
theorem dX10_start_47 : decode cX10_start 47 = .ok (.iadd, 1) := by decide +kernel
theorem dX10_start_48 : decode cX10_start 48 = .ok (.aload_n 0, 1) := by decide +kernel
theorem dX10_start_49 : decode cX10_start 49 = .ok (.getfield 10, 3) := by decide +kernel
theorem dX10_start_5 : decode cX10_start 5 = .ok (.ifCond .eq 13, 3) := by decide +kernel
theorem dX10_start_52 : decode cX10_start 52 = .ok (.getfield 140, 3) := by decide +kernel
theorem dX10_start_55 : decode cX10_start 55 = .ok (.if_icmp .lt 10, 3) := by decide +kernel
theorem dX10_start_58 : decode cX10_start 58 = .ok (.aload_n 0, 1) := by decide +kernel
theorem dX10_start_59 : decode cX10_start 59 = .ok (.bipush (-3), 2) := by decide +kernel
theorem dX10_start_61 : decode cX10_start 61 = .ok (.invokevirtual 83, 3) := by decide +kernel
theorem dX10_start_64 : decode cX10_start 64 = .ok (.ireturn, 1) := by decide +kernel
theorem dX10_start_65 : decode cX10_start 65 = .ok (.aload_n 0, 1) := by decide +kernel
theorem dX10_start_66 : decode cX10_start 66 = .ok (.getfield 10, 3) := by decide +kernel
theorem dX10_start_69 : decode cX10_start 69 = .ok (.invokevirtual 113, 3) := by decide +kernel
theorem dX10_start_72 : decode cX10_start 72 = .ok (.aload_n 3, 1) := by decide +kernel
theorem dX10_start_73 : decode cX10_start 73 = .ok (.dup, 1) := by decide +kernel
theorem dX10_start_74 : decode cX10_start 74 = .ok (.getfield 137, 3) := by decide +kernel
theorem dX10_start_77 : decode cX10_start 77 = .ok (.iload_n 2, 1) := by decide +kernel
theorem dX10_start_78 : decode cX10_start 78 = .ok (.iadd, 1) := by decide +kernel
theorem dX10_start_79 : decode cX10_start 79 = .ok (.putfield 137, 3) := by decide +kernel
theorem dX10_start_8 : decode cX10_start 8 = .ok (.iload_n 2, 1) := by decide +kernel
theorem dX10_start_82 : decode cX10_start 82 = .ok (.aload_n 3, 1) := by decide +kernel
theorem dX10_start_83 : decode cX10_start 83 = .ok (.getfield 137, 3) := by decide +kernel
theorem dX10_start_86 : decode cX10_start 86 = .ok (.ireturn, 1) := by decide +kernel
theorem dX10_start_9 : decode cX10_start 9 = .ok (.iconst 1, 1) := by decide +kernel
theorem dX10_there_0 : decode cX10_there 0 = .ok (.iload_n 1, 1) := by decide +kernel
theorem dX10_there_1 : decode cX10_there 1 = .ok (.ifCond .lt 18, 3) := by decide +kernel
theorem dX10_there_12 : decode cX10_there 12 = .ok (.if_icmp .ge 7, 3) := by decide +kernel
theorem dX10_there_15 : decode cX10_there 15 = .ok (.iconst 1, 1) := by decide +kernel
theorem dX10_there_16 : decode cX10_there 16 = .ok (.goto 4, 3) := by decide +kernel
theorem dX10_there_19 : decode cX10_there 19 = .ok (.iconst 0, 1) := by decide +kernel
theorem dX10_there_20 : decode cX10_there 20 = .ok (.ireturn, 1) := by decide +kernel
theorem dX10_there_4 : decode cX10_there 4 = .ok (.iload_n 1, 1) := by decide +kernel
theorem dX10_there_5 : decode cX10_there 5 = .ok (.aload_n 0, 1) := by decide +kernel
theorem dX10_there_6 : decode cX10_there 6 = .ok (.getfield 10, 3) := by decide +kernel
theorem dX10_there_9 : decode cX10_there 9 = .ok (.getfield 87, 3) := by decide +kernel
theorem dX10_undo_0 : decode cX10_undo 0 = .ok (.aload_n 0, 1) := by decide +kernel
theorem dX10_undo_1 : decode cX10_undo 1 = .ok (.getfield 10, 3) := by decide +kernel
theorem dX10_undo_10 : decode cX10_undo 10 = .ok (.aload_n 0, 1) := by decide +kernel
theorem dX10_undo_11 : decode cX10_undo 11 = .ok (.getfield 10, 3) := by decide +kernel
theorem dX10_undo_14 : decode cX10_undo 14 = .ok (.getfield 110, 3) := by decide +kernel
theorem dX10_undo_17 : decode cX10_undo 17 = .ok (.goto 9, 3) := by decide +kernel
theorem dX10_undo_20 : decode cX10_undo 20 = .ok (.aload_n 0, 1) := by decide +kernel
theorem dX10_undo_21 : decode cX10_undo 21 = .ok (.bipush (-3), 2) := by decide +kernel
theorem dX10_undo_23 : decode cX10_undo 23 = .ok (.invokevirtual 83, 3) := by decide +kernel
theorem dX10_undo_26 : decode cX10_undo 26 = .ok (.ireturn, 1) := by decide +kernel
theorem dX10_undo_4 : decode cX10_undo 4 = .ok (.invokevirtual 141, 3) := by decide +kernel
theorem dX10_undo_7 : decode cX10_undo 7 = .ok (.ifCond .eq 13, 3) := by decide +kernel
theorem dX10_where_0 : decode cX10_where 0 = .ok (.aload_n 0, 1) := by decide +kernel
theorem dX10_where_1 : decode cX10_where 1 = .ok (.iload_n 1, 1) := by decide +kernel
theorem dX10_where_10 : decode cX10_where 10 = .ok (.bipush 60, 2) := by decide +kernel
theorem dX10_where_12 : decode cX10_where 12 = .ok (.invokestatic 79, 3) := by decide +kernel
theorem dX10_where_15 : decode cX10_where 15 = .ok (.ifCond .ne 10, 3) := by decide +kernel
theorem dX10_where_18 : decode cX10_where 18 = .ok (.aload_n 0, 1) := by decide +kernel
theorem dX10_where_19 : decode cX10_where 19 = .ok (.bipush (-2), 2) := by decide +kernel
theorem dX10_where_2 : decode cX10_where 2 = .ok (.invokevirtual 123, 3) := by decide +kernel
theorem dX10_where_21 : decode cX10_where 21 = .ok (.invokevirtual 83, 3) := by decide +kernel
theorem dX10_where_24 : decode cX10_where 24 = .ok (.ireturn, 1) := by decide +kernel
theorem dX10_where_25 : decode cX10_where 25 = .ok (.aload_n 0, 1) := by decide +kernel
theorem dX10_where_26 : decode cX10_where 26 = .ok (.getfield 48, 3) := by decide +kernel
theorem dX10_where_29 : decode cX10_where 29 = .ok (.aload_n 0, 1) := by decide +kernel
theorem dX10_where_30 : decode cX10_where 30 = .ok (.getfield 10, 3) := by decide +kernel
theorem dX10_where_33 : decode cX10_where 33 = .ok (.getfield 126, 3) := by decide +kernel
theorem dX10_where_36 : decode cX10_where 36 = .ok (.iload_n 1, 1) := by decide +kernel
theorem dX10_where_37 : decode cX10_where 37 = .ok (.aaload, 1) := by decide +kernel
theorem dX10_where_38 : decode cX10_where 38 = .ok (.invokevirtual 148, 3) := by decide +kernel
theorem dX10_where_41 : decode cX10_where 41 = .ok (.aload_n 0, 1) := by decide +kernel
theorem dX10_where_42 : decode cX10_where 42 = .ok (.getfield 48, 3) := by decide +kernel
theorem dX10_where_45 : decode cX10_where 45 = .ok (.aload_n 0, 1) := by decide +kernel
theorem dX10_where_46 : decode cX10_where 46 = .ok (.getfield 10, 3) := by decide +kernel
theorem dX10_where_49 : decode cX10_where 49 = .ok (.getfield 110, 3) := by decide +kernel
theorem dX10_where_5 : decode cX10_where 5 = .ok (.ifCond .eq 13, 3) := by decide +kernel
theorem dX10_where_52 : decode cX10_where 52 = .ok (.aload_n 0, 1) := by decide +kernel
theorem dX10_where_53 : decode cX10_where 53 = .ok (.getfield 10, 3) := by decide +kernel
theorem dX10_where_56 : decode cX10_where 56 = .ok (.getfield 140, 3) := by decide +kernel
theorem dX10_where_59 : decode cX10_where 59 = .ok (.iload_n 2, 1) := by decide +kernel
theorem dX10_where_60 : decode cX10_where 60 = .ok (.invokevirtual 152, 3) := by decide +kernel
theorem dX10_where_63 : decode cX10_where 63 = .ok (.ireturn, 1) := by decide +kernel
theorem dX10_where_8 : decode cX10_where 8 = .ok (.iload_n 2, 1) := by decide +kernel
theorem dX10_where_9 : decode cX10_where 9 = .ok (.iconst 0, 1) := by decide +kernel
theorem dX10_within_0 : decode cX10_within 0 = .ok (.iload_n 0, 1) := by decide +kernel
theorem dX10_within_1 : decode cX10_within 1 = .ok (.iload_n 1, 1) := by decide +kernel
theorem dX10_within_10 : decode cX10_within 10 = .ok (.iconst 1, 1) := by decide +kernel
theorem dX10_within_11 : decode cX10_within 11 = .ok (.goto 4, 3) := by decide +kernel
theorem dX10_within_14 : decode cX10_within 14 = .ok (.iconst 0, 1) := by decide +kernel
theorem dX10_within_15 : decode cX10_within 15 = .ok (.ireturn, 1) := by decide +kernel
theorem dX10_within_2 : decode cX10_within 2 = .ok (.if_icmp .lt 12, 3) := by decide +kernel
theorem dX10_within_5 : decode cX10_within 5 = .ok (.iload_n 0, 1) := by decide +kernel
theorem dX10_within_6 : decode cX10_within 6 = .ok (.iload_n 2, 1) := by decide +kernel
theorem dX10_within_7 : decode cX10_within 7 = .ok (.if_icmp .gt 7, 3) := by decide +kernel
theorem dX1_limit_0 : decode cX1_limit 0 = .ok (.iconst 4, 1) := by decide +kernel
theorem dX1_limit_1 : decode cX1_limit 1 = .ok (.istore_n 2, 1) := by decide +kernel
theorem dX1_limit_10 : decode cX1_limit 10 = .ok (.if_icmp .ne 9, 3) := by decide +kernel
theorem dX1_limit_13 : decode cX1_limit 13 = .ok (.iload_n 2, 1) := by decide +kernel
theorem dX1_limit_14 : decode cX1_limit 14 = .ok (.iconst 1, 1) := by decide +kernel
theorem dX1_limit_15 : decode cX1_limit 15 = .ok (.isub, 1) := by decide +kernel
theorem dX1_limit_16 : decode cX1_limit 16 = .ok (.goto 4, 3) := by decide +kernel
theorem dX1_limit_19 : decode cX1_limit 19 = .ok (.iload_n 2, 1) := by decide +kernel
theorem dX1_limit_2 : decode cX1_limit 2 = .ok (.iload_n 2, 1) := by decide +kernel
theorem dX1_limit_20 : decode cX1_limit 20 = .ok (.istore 4, 2) := by decide +kernel
theorem dX1_limit_22 : decode cX1_limit 22 = .ok (.iload_n 0, 1) := by decide +kernel
theorem dX1_limit_23 : decode cX1_limit 23 = .ok (.tableswitch 70 1 5 #[33, 35, 38, 51, 56], 33) := by decide +kernel
theorem dX1_limit_3 : decode cX1_limit 3 = .ok (.iconst 1, 1) := by decide +kernel
theorem dX1_limit_4 : decode cX1_limit 4 = .ok (.iadd, 1) := by decide +kernel
theorem dX1_limit_5 : decode cX1_limit 5 = .ok (.istore_n 3, 1) := by decide +kernel
theorem dX1_limit_56 : decode cX1_limit 56 = .ok (.iload_n 3, 1) := by decide +kernel
theorem dX1_limit_57 : decode cX1_limit 57 = .ok (.ireturn, 1) := by decide +kernel
theorem dX1_limit_58 : decode cX1_limit 58 = .ok (.iload 4, 2) := by decide +kernel
theorem dX1_limit_6 : decode cX1_limit 6 = .ok (.iload_n 1, 1) := by decide +kernel
theorem dX1_limit_60 : decode cX1_limit 60 = .ok (.ireturn, 1) := by decide +kernel
theorem dX1_limit_61 : decode cX1_limit 61 = .ok (.iload_n 1, 1) := by decide +kernel
theorem dX1_limit_62 : decode cX1_limit 62 = .ok (.iconst 3, 1) := by decide +kernel
theorem dX1_limit_63 : decode cX1_limit 63 = .ok (.if_icmp .ge 9, 3) := by decide +kernel
theorem dX1_limit_66 : decode cX1_limit 66 = .ok (.iload_n 3, 1) := by decide +kernel
theorem dX1_limit_67 : decode cX1_limit 67 = .ok (.iconst 3, 1) := by decide +kernel
theorem dX1_limit_68 : decode cX1_limit 68 = .ok (.iadd, 1) := by decide +kernel
theorem dX1_limit_69 : decode cX1_limit 69 = .ok (.goto 4, 3) := by decide +kernel
theorem dX1_limit_7 : decode cX1_limit 7 = .ok (.iconst 2, 1) := by decide +kernel
theorem dX1_limit_72 : decode cX1_limit 72 = .ok (.iload_n 3, 1) := by decide +kernel
theorem dX1_limit_73 : decode cX1_limit 73 = .ok (.ireturn, 1) := by decide +kernel
theorem dX1_limit_74 : decode cX1_limit 74 = .ok (.iload 4, 2) := by decide +kernel
theorem dX1_limit_76 : decode cX1_limit 76 = .ok (.iconst 1, 1) := by decide +kernel
theorem dX1_limit_77 : decode cX1_limit 77 = .ok (.isub, 1) := by decide +kernel
theorem dX1_limit_78 : decode cX1_limit 78 = .ok (.ireturn, 1) := by decide +kernel
theorem dX1_limit_79 : decode cX1_limit 79 = .ok (.iload_n 1, 1) := by decide +kernel
theorem dX1_limit_8 : decode cX1_limit 8 = .ok (.irem, 1) := by decide +kernel
theorem dX1_limit_80 : decode cX1_limit 80 = .ok (.iconst 4, 1) := by decide +kernel
theorem dX1_limit_81 : decode cX1_limit 81 = .ok (.irem, 1) := by decide +kernel
theorem dX1_limit_82 : decode cX1_limit 82 = .ok (.ifCond .ne 9, 3) := by decide +kernel
theorem dX1_limit_85 : decode cX1_limit 85 = .ok (.iload_n 3, 1) := by decide +kernel
theorem dX1_limit_86 : decode cX1_limit 86 = .ok (.iconst 2, 1) := by decide +kernel
theorem dX1_limit_87 : decode cX1_limit 87 = .ok (.iadd, 1) := by decide +kernel
theorem dX1_limit_88 : decode cX1_limit 88 = .ok (.goto 4, 3) := by decide +kernel
theorem dX1_limit_9 : decode cX1_limit 9 = .ok (.iconst 1, 1) := by decide +kernel
theorem dX1_limit_91 : decode cX1_limit 91 = .ok (.iload_n 3, 1) := by decide +kernel
theorem dX1_limit_92 : decode cX1_limit 92 = .ok (.ireturn, 1) := by decide +kernel
theorem dX1_limit_93 : decode cX1_limit 93 = .ok (.iload_n 2, 1) := by decide +kernel
theorem dX1_limit_94 : decode cX1_limit 94 = .ok (.ireturn, 1) := by decide +kernel
theorem dX2_reach_0 : decode cX2_reach 0 = .ok (.iload_n 3, 1) := by decide +kernel
theorem dX2_reach_1 : decode cX2_reach 1 = .ok (.iload_n 1, 1) := by decide +kernel
theorem dX2_reach_10 : decode cX2_reach 10 = .ok (.istore 4, 2) := by decide +kernel
theorem dX2_reach_100 : decode cX2_reach 100 = .ok (.iadd, 1) := by decide +kernel
theorem dX2_reach_101 : decode cX2_reach 101 = .ok (.goto 5, 3) := by decide +kernel
theorem dX2_reach_104 : decode cX2_reach 104 = .ok (.iload 5, 2) := by decide +kernel
theorem dX2_reach_106 : decode cX2_reach 106 = .ok (.ireturn, 1) := by decide +kernel
theorem dX2_reach_107 : decode cX2_reach 107 = .ok (.iload 4, 2) := by decide +kernel
theorem dX2_reach_109 : decode cX2_reach 109 = .ok (.iconst 1, 1) := by decide +kernel
theorem dX2_reach_110 : decode cX2_reach 110 = .ok (.iadd, 1) := by decide +kernel
theorem dX2_reach_111 : decode cX2_reach 111 = .ok (.iconst 2, 1) := by decide +kernel
theorem dX2_reach_112 : decode cX2_reach 112 = .ok (.idiv, 1) := by decide +kernel
theorem dX2_reach_113 : decode cX2_reach 113 = .ok (.ireturn, 1) := by decide +kernel
theorem dX2_reach_114 : decode cX2_reach 114 = .ok (.iload_n 2, 1) := by decide +kernel
theorem dX2_reach_115 : decode cX2_reach 115 = .ok (.iconst 2, 1) := by decide +kernel
theorem dX2_reach_116 : decode cX2_reach 116 = .ok (.irem, 1) := by decide +kernel
theorem dX2_reach_117 : decode cX2_reach 117 = .ok (.iconst 1, 1) := by decide +kernel
theorem dX2_reach_118 : decode cX2_reach 118 = .ok (.if_icmp .ne 10, 3) := by decide +kernel
theorem dX2_reach_12 : decode cX2_reach 12 = .ok (.iload_n 3, 1) := by decide +kernel
theorem dX2_reach_121 : decode cX2_reach 121 = .ok (.iload 6, 2) := by decide +kernel
theorem dX2_reach_123 : decode cX2_reach 123 = .ok (.iconst 2, 1) := by decide +kernel
theorem dX2_reach_124 : decode cX2_reach 124 = .ok (.iadd, 1) := by decide +kernel
theorem dX2_reach_125 : decode cX2_reach 125 = .ok (.goto 5, 3) := by decide +kernel
theorem dX2_reach_128 : decode cX2_reach 128 = .ok (.iload 6, 2) := by decide +kernel
theorem dX2_reach_13 : decode cX2_reach 13 = .ok (.iconst 5, 1) := by decide +kernel
theorem dX2_reach_130 : decode cX2_reach 130 = .ok (.ireturn, 1) := by decide +kernel
theorem dX2_reach_131 : decode cX2_reach 131 = .ok (.iload 4, 2) := by decide +kernel
theorem dX2_reach_133 : decode cX2_reach 133 = .ok (.ireturn, 1) := by decide +kernel
theorem dX2_reach_14 : decode cX2_reach 14 = .ok (.if_icmp .lt 10, 3) := by decide +kernel
theorem dX2_reach_17 : decode cX2_reach 17 = .ok (.iload 4, 2) := by decide +kernel
theorem dX2_reach_19 : decode cX2_reach 19 = .ok (.iconst 1, 1) := by decide +kernel
theorem dX2_reach_2 : decode cX2_reach 2 = .ok (.if_icmp .ge 7, 3) := by decide +kernel
theorem dX2_reach_20 : decode cX2_reach 20 = .ok (.iadd, 1) := by decide +kernel
theorem dX2_reach_21 : decode cX2_reach 21 = .ok (.goto 5, 3) := by decide +kernel
theorem dX2_reach_24 : decode cX2_reach 24 = .ok (.iload 4, 2) := by decide +kernel
theorem dX2_reach_26 : decode cX2_reach 26 = .ok (.istore 5, 2) := by decide +kernel
theorem dX2_reach_28 : decode cX2_reach 28 = .ok (.iload 4, 2) := by decide +kernel
theorem dX2_reach_30 : decode cX2_reach 30 = .ok (.iload_n 2, 1) := by decide +kernel
theorem dX2_reach_31 : decode cX2_reach 31 = .ok (.bipush 10, 2) := by decide +kernel
theorem dX2_reach_33 : decode cX2_reach 33 = .ok (.idiv, 1) := by decide +kernel
theorem dX2_reach_34 : decode cX2_reach 34 = .ok (.if_icmp .le 13, 3) := by decide +kernel
theorem dX2_reach_37 : decode cX2_reach 37 = .ok (.iload 4, 2) := by decide +kernel
theorem dX2_reach_39 : decode cX2_reach 39 = .ok (.iload_n 2, 1) := by decide +kernel
theorem dX2_reach_40 : decode cX2_reach 40 = .ok (.bipush 10, 2) := by decide +kernel
theorem dX2_reach_42 : decode cX2_reach 42 = .ok (.idiv, 1) := by decide +kernel
theorem dX2_reach_43 : decode cX2_reach 43 = .ok (.isub, 1) := by decide +kernel
theorem dX2_reach_44 : decode cX2_reach 44 = .ok (.goto 4, 3) := by decide +kernel
theorem dX2_reach_47 : decode cX2_reach 47 = .ok (.iconst 0, 1) := by decide +kernel
theorem dX2_reach_48 : decode cX2_reach 48 = .ok (.istore 6, 2) := by decide +kernel
theorem dX2_reach_5 : decode cX2_reach 5 = .ok (.iload_n 3, 1) := by decide +kernel
theorem dX2_reach_50 : decode cX2_reach 50 = .ok (.iload_n 0, 1) := by decide +kernel
theorem dX2_reach_51 : decode cX2_reach 51 = .ok (.tableswitch 80 1 5 #[33, 36, 39, 56, 63], 33) := by decide +kernel
theorem dX2_reach_6 : decode cX2_reach 6 = .ok (.goto 4, 3) := by decide +kernel
theorem dX2_reach_84 : decode cX2_reach 84 = .ok (.iload 5, 2) := by decide +kernel
theorem dX2_reach_86 : decode cX2_reach 86 = .ok (.ireturn, 1) := by decide +kernel
theorem dX2_reach_87 : decode cX2_reach 87 = .ok (.iload 6, 2) := by decide +kernel
theorem dX2_reach_89 : decode cX2_reach 89 = .ok (.ireturn, 1) := by decide +kernel
theorem dX2_reach_9 : decode cX2_reach 9 = .ok (.iload_n 1, 1) := by decide +kernel
theorem dX2_reach_90 : decode cX2_reach 90 = .ok (.iload_n 2, 1) := by decide +kernel
theorem dX2_reach_91 : decode cX2_reach 91 = .ok (.iconst 5, 1) := by decide +kernel
theorem dX2_reach_92 : decode cX2_reach 92 = .ok (.irem, 1) := by decide +kernel
theorem dX2_reach_93 : decode cX2_reach 93 = .ok (.iconst 4, 1) := by decide +kernel
theorem dX2_reach_94 : decode cX2_reach 94 = .ok (.if_icmp .ne 10, 3) := by decide +kernel
theorem dX2_reach_97 : decode cX2_reach 97 = .ok (.iload 5, 2) := by decide +kernel
theorem dX2_reach_99 : decode cX2_reach 99 = .ok (.iconst 3, 1) := by decide +kernel
theorem dX4_pop_0 : decode cX4_pop 0 = .ok (.aload_n 0, 1) := by decide +kernel
theorem dX4_pop_1 : decode cX4_pop 1 = .ok (.getfield 15, 3) := by decide +kernel
theorem dX4_pop_10 : decode cX4_pop 10 = .ok (.dup, 1) := by decide +kernel
theorem dX4_pop_102 : decode cX4_pop 102 = .ok (.aload_n 1, 1) := by decide +kernel
theorem dX4_pop_103 : decode cX4_pop 103 = .ok (.iload_n 3, 1) := by decide +kernel
theorem dX4_pop_104 : decode cX4_pop 104 = .ok (.aaload, 1) := by decide +kernel
theorem dX4_pop_105 : decode cX4_pop 105 = .ok (.aload_n 0, 1) := by decide +kernel
theorem dX4_pop_106 : decode cX4_pop 106 = .ok (.getfield 11, 3) := by decide +kernel
theorem dX4_pop_109 : decode cX4_pop 109 = .ok (.iload 4, 2) := by decide +kernel
theorem dX4_pop_11 : decode cX4_pop 11 = .ok (.getfield 15, 3) := by decide +kernel
theorem dX4_pop_111 : decode cX4_pop 111 = .ok (.iconst 4, 1) := by decide +kernel
theorem dX4_pop_112 : decode cX4_pop 112 = .ok (.iadd, 1) := by decide +kernel
theorem dX4_pop_113 : decode cX4_pop 113 = .ok (.iaload, 1) := by decide +kernel
theorem dX4_pop_114 : decode cX4_pop 114 = .ok (.putfield 39, 3) := by decide +kernel
theorem dX4_pop_117 : decode cX4_pop 117 = .ok (.iinc 3 1, 3) := by decide +kernel
theorem dX4_pop_120 : decode cX4_pop 120 = .ok (.goto (-91), 3) := by decide +kernel
theorem dX4_pop_123 : decode cX4_pop 123 = .ok (.aload_n 0, 1) := by decide +kernel
theorem dX4_pop_124 : decode cX4_pop 124 = .ok (.getfield 11, 3) := by decide +kernel
theorem dX4_pop_127 : decode cX4_pop 127 = .ok (.iload_n 2, 1) := by decide +kernel
theorem dX4_pop_128 : decode cX4_pop 128 = .ok (.iaload, 1) := by decide +kernel
theorem dX4_pop_129 : decode cX4_pop 129 = .ok (.ireturn, 1) := by decide +kernel
theorem dX4_pop_14 : decode cX4_pop 14 = .ok (.iconst 1, 1) := by decide +kernel
theorem dX4_pop_15 : decode cX4_pop 15 = .ok (.isub, 1) := by decide +kernel
theorem dX4_pop_16 : decode cX4_pop 16 = .ok (.putfield 15, 3) := by decide +kernel
theorem dX4_pop_19 : decode cX4_pop 19 = .ok (.aload_n 0, 1) := by decide +kernel
theorem dX4_pop_20 : decode cX4_pop 20 = .ok (.getfield 15, 3) := by decide +kernel
theorem dX4_pop_23 : decode cX4_pop 23 = .ok (.bipush 31, 2) := by decide +kernel
theorem dX4_pop_25 : decode cX4_pop 25 = .ok (.imul, 1) := by decide +kernel
theorem dX4_pop_26 : decode cX4_pop 26 = .ok (.istore_n 2, 1) := by decide +kernel
theorem dX4_pop_27 : decode cX4_pop 27 = .ok (.iconst 0, 1) := by decide +kernel
theorem dX4_pop_28 : decode cX4_pop 28 = .ok (.istore_n 3, 1) := by decide +kernel
theorem dX4_pop_29 : decode cX4_pop 29 = .ok (.iload_n 3, 1) := by decide +kernel
theorem dX4_pop_30 : decode cX4_pop 30 = .ok (.bipush 6, 2) := by decide +kernel
theorem dX4_pop_32 : decode cX4_pop 32 = .ok (.if_icmp .ge 91, 3) := by decide +kernel
theorem dX4_pop_35 : decode cX4_pop 35 = .ok (.iload_n 2, 1) := by decide +kernel
theorem dX4_pop_36 : decode cX4_pop 36 = .ok (.iconst 1, 1) := by decide +kernel
theorem dX4_pop_37 : decode cX4_pop 37 = .ok (.iadd, 1) := by decide +kernel
theorem dX4_pop_38 : decode cX4_pop 38 = .ok (.iload_n 3, 1) := by decide +kernel
theorem dX4_pop_39 : decode cX4_pop 39 = .ok (.iconst 5, 1) := by decide +kernel
theorem dX4_pop_4 : decode cX4_pop 4 = .ok (.ifCond .gt 5, 3) := by decide +kernel
theorem dX4_pop_40 : decode cX4_pop 40 = .ok (.imul, 1) := by decide +kernel
theorem dX4_pop_41 : decode cX4_pop 41 = .ok (.iadd, 1) := by decide +kernel
theorem dX4_pop_42 : decode cX4_pop 42 = .ok (.istore 4, 2) := by decide +kernel
theorem dX4_pop_44 : decode cX4_pop 44 = .ok (.aload_n 1, 1) := by decide +kernel
theorem dX4_pop_45 : decode cX4_pop 45 = .ok (.iload_n 3, 1) := by decide +kernel
theorem dX4_pop_46 : decode cX4_pop 46 = .ok (.aaload, 1) := by decide +kernel
theorem dX4_pop_47 : decode cX4_pop 47 = .ok (.aload_n 0, 1) := by decide +kernel
theorem dX4_pop_48 : decode cX4_pop 48 = .ok (.getfield 11, 3) := by decide +kernel
theorem dX4_pop_51 : decode cX4_pop 51 = .ok (.iload 4, 2) := by decide +kernel
theorem dX4_pop_53 : decode cX4_pop 53 = .ok (.iaload, 1) := by decide +kernel
theorem dX4_pop_54 : decode cX4_pop 54 = .ok (.putfield 25, 3) := by decide +kernel
theorem dX4_pop_57 : decode cX4_pop 57 = .ok (.aload_n 1, 1) := by decide +kernel
theorem dX4_pop_58 : decode cX4_pop 58 = .ok (.iload_n 3, 1) := by decide +kernel
theorem dX4_pop_59 : decode cX4_pop 59 = .ok (.aaload, 1) := by decide +kernel
theorem dX4_pop_60 : decode cX4_pop 60 = .ok (.aload_n 0, 1) := by decide +kernel
theorem dX4_pop_61 : decode cX4_pop 61 = .ok (.getfield 11, 3) := by decide +kernel
theorem dX4_pop_64 : decode cX4_pop 64 = .ok (.iload 4, 2) := by decide +kernel
theorem dX4_pop_66 : decode cX4_pop 66 = .ok (.iconst 1, 1) := by decide +kernel
theorem dX4_pop_67 : decode cX4_pop 67 = .ok (.iadd, 1) := by decide +kernel
theorem dX4_pop_68 : decode cX4_pop 68 = .ok (.iaload, 1) := by decide +kernel
theorem dX4_pop_69 : decode cX4_pop 69 = .ok (.putfield 30, 3) := by decide +kernel
theorem dX4_pop_7 : decode cX4_pop 7 = .ok (.iconst (-1), 1) := by decide +kernel
theorem dX4_pop_72 : decode cX4_pop 72 = .ok (.aload_n 1, 1) := by decide +kernel
theorem dX4_pop_73 : decode cX4_pop 73 = .ok (.iload_n 3, 1) := by decide +kernel
theorem dX4_pop_74 : decode cX4_pop 74 = .ok (.aaload, 1) := by decide +kernel
theorem dX4_pop_75 : decode cX4_pop 75 = .ok (.aload_n 0, 1) := by decide +kernel
theorem dX4_pop_76 : decode cX4_pop 76 = .ok (.getfield 11, 3) := by decide +kernel
theorem dX4_pop_79 : decode cX4_pop 79 = .ok (.iload 4, 2) := by decide +kernel
theorem dX4_pop_8 : decode cX4_pop 8 = .ok (.ireturn, 1) := by decide +kernel
theorem dX4_pop_81 : decode cX4_pop 81 = .ok (.iconst 2, 1) := by decide +kernel
theorem dX4_pop_82 : decode cX4_pop 82 = .ok (.iadd, 1) := by decide +kernel
theorem dX4_pop_83 : decode cX4_pop 83 = .ok (.iaload, 1) := by decide +kernel
theorem dX4_pop_84 : decode cX4_pop 84 = .ok (.putfield 33, 3) := by decide +kernel
theorem dX4_pop_87 : decode cX4_pop 87 = .ok (.aload_n 1, 1) := by decide +kernel
theorem dX4_pop_88 : decode cX4_pop 88 = .ok (.iload_n 3, 1) := by decide +kernel
theorem dX4_pop_89 : decode cX4_pop 89 = .ok (.aaload, 1) := by decide +kernel
theorem dX4_pop_9 : decode cX4_pop 9 = .ok (.aload_n 0, 1) := by decide +kernel
theorem dX4_pop_90 : decode cX4_pop 90 = .ok (.aload_n 0, 1) := by decide +kernel
theorem dX4_pop_91 : decode cX4_pop 91 = .ok (.getfield 11, 3) := by decide +kernel
theorem dX4_pop_94 : decode cX4_pop 94 = .ok (.iload 4, 2) := by decide +kernel
theorem dX4_pop_96 : decode cX4_pop 96 = .ok (.iconst 3, 1) := by decide +kernel
theorem dX4_pop_97 : decode cX4_pop 97 = .ok (.iadd, 1) := by decide +kernel
theorem dX4_pop_98 : decode cX4_pop 98 = .ok (.iaload, 1) := by decide +kernel
theorem dX4_pop_99 : decode cX4_pop 99 = .ok (.putfield 36, 3) := by decide +kernel
theorem dX4_push_0 : decode cX4_push 0 = .ok (.aload_n 0, 1) := by decide +kernel
theorem dX4_push_1 : decode cX4_push 1 = .ok (.getfield 15, 3) := by decide +kernel
theorem dX4_push_10 : decode cX4_push 10 = .ok (.getfield 11, 3) := by decide +kernel
theorem dX4_push_101 : decode cX4_push 101 = .ok (.iload 5, 2) := by decide +kernel
theorem dX4_push_103 : decode cX4_push 103 = .ok (.iconst 2, 1) := by decide +kernel
theorem dX4_push_104 : decode cX4_push 104 = .ok (.iadd, 1) := by decide +kernel
theorem dX4_push_105 : decode cX4_push 105 = .ok (.aload_n 2, 1) := by decide +kernel
theorem dX4_push_106 : decode cX4_push 106 = .ok (.iload 4, 2) := by decide +kernel
theorem dX4_push_108 : decode cX4_push 108 = .ok (.aaload, 1) := by decide +kernel
theorem dX4_push_109 : decode cX4_push 109 = .ok (.getfield 33, 3) := by decide +kernel
theorem dX4_push_112 : decode cX4_push 112 = .ok (.iastore, 1) := by decide +kernel
theorem dX4_push_113 : decode cX4_push 113 = .ok (.aload_n 0, 1) := by decide +kernel
theorem dX4_push_114 : decode cX4_push 114 = .ok (.getfield 11, 3) := by decide +kernel
theorem dX4_push_117 : decode cX4_push 117 = .ok (.iload 5, 2) := by decide +kernel
theorem dX4_push_119 : decode cX4_push 119 = .ok (.iconst 3, 1) := by decide +kernel
theorem dX4_push_120 : decode cX4_push 120 = .ok (.iadd, 1) := by decide +kernel
theorem dX4_push_121 : decode cX4_push 121 = .ok (.aload_n 2, 1) := by decide +kernel
theorem dX4_push_122 : decode cX4_push 122 = .ok (.iload 4, 2) := by decide +kernel
theorem dX4_push_124 : decode cX4_push 124 = .ok (.aaload, 1) := by decide +kernel
theorem dX4_push_125 : decode cX4_push 125 = .ok (.getfield 36, 3) := by decide +kernel
theorem dX4_push_128 : decode cX4_push 128 = .ok (.iastore, 1) := by decide +kernel
theorem dX4_push_129 : decode cX4_push 129 = .ok (.aload_n 0, 1) := by decide +kernel
theorem dX4_push_13 : decode cX4_push 13 = .ok (.bipush 31, 2) := by decide +kernel
theorem dX4_push_130 : decode cX4_push 130 = .ok (.getfield 11, 3) := by decide +kernel
theorem dX4_push_133 : decode cX4_push 133 = .ok (.iload 5, 2) := by decide +kernel
theorem dX4_push_135 : decode cX4_push 135 = .ok (.iconst 4, 1) := by decide +kernel
theorem dX4_push_136 : decode cX4_push 136 = .ok (.iadd, 1) := by decide +kernel
theorem dX4_push_137 : decode cX4_push 137 = .ok (.aload_n 2, 1) := by decide +kernel
theorem dX4_push_138 : decode cX4_push 138 = .ok (.iload 4, 2) := by decide +kernel
theorem dX4_push_140 : decode cX4_push 140 = .ok (.aaload, 1) := by decide +kernel
theorem dX4_push_141 : decode cX4_push 141 = .ok (.getfield 39, 3) := by decide +kernel
theorem dX4_push_144 : decode cX4_push 144 = .ok (.iastore, 1) := by decide +kernel
theorem dX4_push_145 : decode cX4_push 145 = .ok (.iinc 4 1, 3) := by decide +kernel
theorem dX4_push_148 : decode cX4_push 148 = .ok (.goto (-98), 3) := by decide +kernel
theorem dX4_push_15 : decode cX4_push 15 = .ok (.aload_n 0, 1) := by decide +kernel
theorem dX4_push_151 : decode cX4_push 151 = .ok (.aload_n 0, 1) := by decide +kernel
theorem dX4_push_152 : decode cX4_push 152 = .ok (.dup, 1) := by decide +kernel
theorem dX4_push_153 : decode cX4_push 153 = .ok (.getfield 15, 3) := by decide +kernel
theorem dX4_push_156 : decode cX4_push 156 = .ok (.iconst 1, 1) := by decide +kernel
theorem dX4_push_157 : decode cX4_push 157 = .ok (.iadd, 1) := by decide +kernel
theorem dX4_push_158 : decode cX4_push 158 = .ok (.putfield 15, 3) := by decide +kernel
theorem dX4_push_16 : decode cX4_push 16 = .ok (.getfield 11, 3) := by decide +kernel
theorem dX4_push_161 : decode cX4_push 161 = .ok (.return_, 1) := by decide +kernel
theorem dX4_push_19 : decode cX4_push 19 = .ok (.iconst 0, 1) := by decide +kernel
theorem dX4_push_20 : decode cX4_push 20 = .ok (.sipush 217, 3) := by decide +kernel
theorem dX4_push_23 : decode cX4_push 23 = .ok (.invokestatic 19, 3) := by decide +kernel
theorem dX4_push_26 : decode cX4_push 26 = .ok (.aload_n 0, 1) := by decide +kernel
theorem dX4_push_27 : decode cX4_push 27 = .ok (.bipush 7, 2) := by decide +kernel
theorem dX4_push_29 : decode cX4_push 29 = .ok (.putfield 15, 3) := by decide +kernel
theorem dX4_push_32 : decode cX4_push 32 = .ok (.aload_n 0, 1) := by decide +kernel
theorem dX4_push_33 : decode cX4_push 33 = .ok (.getfield 15, 3) := by decide +kernel
theorem dX4_push_36 : decode cX4_push 36 = .ok (.bipush 31, 2) := by decide +kernel
theorem dX4_push_38 : decode cX4_push 38 = .ok (.imul, 1) := by decide +kernel
theorem dX4_push_39 : decode cX4_push 39 = .ok (.istore_n 3, 1) := by decide +kernel
theorem dX4_push_4 : decode cX4_push 4 = .ok (.bipush 8, 2) := by decide +kernel
theorem dX4_push_40 : decode cX4_push 40 = .ok (.aload_n 0, 1) := by decide +kernel
theorem dX4_push_41 : decode cX4_push 41 = .ok (.getfield 11, 3) := by decide +kernel
theorem dX4_push_44 : decode cX4_push 44 = .ok (.iload_n 3, 1) := by decide +kernel
theorem dX4_push_45 : decode cX4_push 45 = .ok (.iload_n 1, 1) := by decide +kernel
theorem dX4_push_46 : decode cX4_push 46 = .ok (.iastore, 1) := by decide +kernel
theorem dX4_push_47 : decode cX4_push 47 = .ok (.iconst 0, 1) := by decide +kernel
theorem dX4_push_48 : decode cX4_push 48 = .ok (.istore 4, 2) := by decide +kernel
theorem dX4_push_50 : decode cX4_push 50 = .ok (.iload 4, 2) := by decide +kernel
theorem dX4_push_52 : decode cX4_push 52 = .ok (.bipush 6, 2) := by decide +kernel
theorem dX4_push_54 : decode cX4_push 54 = .ok (.if_icmp .ge 97, 3) := by decide +kernel
theorem dX4_push_57 : decode cX4_push 57 = .ok (.iload_n 3, 1) := by decide +kernel
theorem dX4_push_58 : decode cX4_push 58 = .ok (.iconst 1, 1) := by decide +kernel
theorem dX4_push_59 : decode cX4_push 59 = .ok (.iadd, 1) := by decide +kernel
theorem dX4_push_6 : decode cX4_push 6 = .ok (.if_icmp .lt 26, 3) := by decide +kernel
theorem dX4_push_60 : decode cX4_push 60 = .ok (.iload 4, 2) := by decide +kernel
theorem dX4_push_62 : decode cX4_push 62 = .ok (.iconst 5, 1) := by decide +kernel
theorem dX4_push_63 : decode cX4_push 63 = .ok (.imul, 1) := by decide +kernel
theorem dX4_push_64 : decode cX4_push 64 = .ok (.iadd, 1) := by decide +kernel
theorem dX4_push_65 : decode cX4_push 65 = .ok (.istore 5, 2) := by decide +kernel
theorem dX4_push_67 : decode cX4_push 67 = .ok (.aload_n 0, 1) := by decide +kernel
theorem dX4_push_68 : decode cX4_push 68 = .ok (.getfield 11, 3) := by decide +kernel
theorem dX4_push_71 : decode cX4_push 71 = .ok (.iload 5, 2) := by decide +kernel
theorem dX4_push_73 : decode cX4_push 73 = .ok (.aload_n 2, 1) := by decide +kernel
theorem dX4_push_74 : decode cX4_push 74 = .ok (.iload 4, 2) := by decide +kernel
theorem dX4_push_76 : decode cX4_push 76 = .ok (.aaload, 1) := by decide +kernel
theorem dX4_push_77 : decode cX4_push 77 = .ok (.getfield 25, 3) := by decide +kernel
theorem dX4_push_80 : decode cX4_push 80 = .ok (.iastore, 1) := by decide +kernel
theorem dX4_push_81 : decode cX4_push 81 = .ok (.aload_n 0, 1) := by decide +kernel
theorem dX4_push_82 : decode cX4_push 82 = .ok (.getfield 11, 3) := by decide +kernel
theorem dX4_push_85 : decode cX4_push 85 = .ok (.iload 5, 2) := by decide +kernel
theorem dX4_push_87 : decode cX4_push 87 = .ok (.iconst 1, 1) := by decide +kernel
theorem dX4_push_88 : decode cX4_push 88 = .ok (.iadd, 1) := by decide +kernel
theorem dX4_push_89 : decode cX4_push 89 = .ok (.aload_n 2, 1) := by decide +kernel
theorem dX4_push_9 : decode cX4_push 9 = .ok (.aload_n 0, 1) := by decide +kernel
theorem dX4_push_90 : decode cX4_push 90 = .ok (.iload 4, 2) := by decide +kernel
theorem dX4_push_92 : decode cX4_push 92 = .ok (.aaload, 1) := by decide +kernel
theorem dX4_push_93 : decode cX4_push 93 = .ok (.getfield 30, 3) := by decide +kernel
theorem dX4_push_96 : decode cX4_push 96 = .ok (.iastore, 1) := by decide +kernel
theorem dX4_push_97 : decode cX4_push 97 = .ok (.aload_n 0, 1) := by decide +kernel
theorem dX4_push_98 : decode cX4_push 98 = .ok (.getfield 11, 3) := by decide +kernel
theorem dX5_dropsTogether_0 : decode cX5_dropsTogether 0 = .ok (.iconst 0, 1) := by decide +kernel
theorem dX5_dropsTogether_1 : decode cX5_dropsTogether 1 = .ok (.istore_n 1, 1) := by decide +kernel
theorem dX5_dropsTogether_12 : decode cX5_dropsTogether 12 = .ok (.iload_n 1, 1) := by decide +kernel
theorem dX5_dropsTogether_13 : decode cX5_dropsTogether 13 = .ok (.aload_n 0, 1) := by decide +kernel
theorem dX5_dropsTogether_14 : decode cX5_dropsTogether 14 = .ok (.getfield 23, 3) := by decide +kernel
theorem dX5_dropsTogether_17 : decode cX5_dropsTogether 17 = .ok (.iload_n 2, 1) := by decide +kernel
theorem dX5_dropsTogether_18 : decode cX5_dropsTogether 18 = .ok (.aaload, 1) := by decide +kernel
theorem dX5_dropsTogether_19 : decode cX5_dropsTogether 19 = .ok (.getfield 91, 3) := by decide +kernel
theorem dX5_dropsTogether_2 : decode cX5_dropsTogether 2 = .ok (.iconst 0, 1) := by decide +kernel
theorem dX5_dropsTogether_22 : decode cX5_dropsTogether 22 = .ok (.iadd, 1) := by decide +kernel
theorem dX5_dropsTogether_23 : decode cX5_dropsTogether 23 = .ok (.istore_n 1, 1) := by decide +kernel
theorem dX5_dropsTogether_24 : decode cX5_dropsTogether 24 = .ok (.iinc 2 1, 3) := by decide +kernel
theorem dX5_dropsTogether_27 : decode cX5_dropsTogether 27 = .ok (.goto (-23), 3) := by decide +kernel
theorem dX5_dropsTogether_3 : decode cX5_dropsTogether 3 = .ok (.istore_n 2, 1) := by decide +kernel
theorem dX5_dropsTogether_30 : decode cX5_dropsTogether 30 = .ok (.iload_n 1, 1) := by decide +kernel
theorem dX5_dropsTogether_31 : decode cX5_dropsTogether 31 = .ok (.ireturn, 1) := by decide +kernel
theorem dX5_dropsTogether_4 : decode cX5_dropsTogether 4 = .ok (.iload_n 2, 1) := by decide +kernel
theorem dX5_dropsTogether_5 : decode cX5_dropsTogether 5 = .ok (.aload_n 0, 1) := by decide +kernel
theorem dX5_dropsTogether_6 : decode cX5_dropsTogether 6 = .ok (.getfield 18, 3) := by decide +kernel
theorem dX5_dropsTogether_9 : decode cX5_dropsTogether 9 = .ok (.if_icmp .ge 21, 3) := by decide +kernel
theorem dX5_eggsThatFit_0 : decode cX5_eggsThatFit 0 = .ok (.iconst 0, 1) := by decide +kernel
theorem dX5_eggsThatFit_1 : decode cX5_eggsThatFit 1 = .ok (.istore_n 2, 1) := by decide +kernel
theorem dX5_eggsThatFit_10 : decode cX5_eggsThatFit 10 = .ok (.iload_n 2, 1) := by decide +kernel
theorem dX5_eggsThatFit_11 : decode cX5_eggsThatFit 11 = .ok (.aload_n 0, 1) := by decide +kernel
theorem dX5_eggsThatFit_12 : decode cX5_eggsThatFit 12 = .ok (.getfield 46, 3) := by decide +kernel
theorem dX5_eggsThatFit_15 : decode cX5_eggsThatFit 15 = .ok (.iload_n 1, 1) := by decide +kernel
theorem dX5_eggsThatFit_16 : decode cX5_eggsThatFit 16 = .ok (.iload_n 3, 1) := by decide +kernel
theorem dX5_eggsThatFit_17 : decode cX5_eggsThatFit 17 = .ok (.invokevirtual 101, 3) := by decide +kernel
theorem dX5_eggsThatFit_2 : decode cX5_eggsThatFit 2 = .ok (.iconst 0, 1) := by decide +kernel
theorem dX5_eggsThatFit_20 : decode cX5_eggsThatFit 20 = .ok (.ifCond .eq 9, 3) := by decide +kernel
theorem dX5_eggsThatFit_23 : decode cX5_eggsThatFit 23 = .ok (.iconst 1, 1) := by decide +kernel
theorem dX5_eggsThatFit_24 : decode cX5_eggsThatFit 24 = .ok (.iload_n 3, 1) := by decide +kernel
theorem dX5_eggsThatFit_25 : decode cX5_eggsThatFit 25 = .ok (.ishl, 1) := by decide +kernel
theorem dX5_eggsThatFit_26 : decode cX5_eggsThatFit 26 = .ok (.goto 4, 3) := by decide +kernel
theorem dX5_eggsThatFit_29 : decode cX5_eggsThatFit 29 = .ok (.iconst 0, 1) := by decide +kernel
theorem dX5_eggsThatFit_3 : decode cX5_eggsThatFit 3 = .ok (.istore_n 3, 1) := by decide +kernel
theorem dX5_eggsThatFit_30 : decode cX5_eggsThatFit 30 = .ok (.ior, 1) := by decide +kernel
theorem dX5_eggsThatFit_31 : decode cX5_eggsThatFit 31 = .ok (.istore_n 2, 1) := by decide +kernel
theorem dX5_eggsThatFit_32 : decode cX5_eggsThatFit 32 = .ok (.iinc 3 1, 3) := by decide +kernel
theorem dX5_eggsThatFit_35 : decode cX5_eggsThatFit 35 = .ok (.goto (-31), 3) := by decide +kernel
theorem dX5_eggsThatFit_38 : decode cX5_eggsThatFit 38 = .ok (.iload_n 2, 1) := by decide +kernel
theorem dX5_eggsThatFit_39 : decode cX5_eggsThatFit 39 = .ok (.ireturn, 1) := by decide +kernel
theorem dX5_eggsThatFit_4 : decode cX5_eggsThatFit 4 = .ok (.iload_n 3, 1) := by decide +kernel
theorem dX5_eggsThatFit_5 : decode cX5_eggsThatFit 5 = .ok (.bipush 6, 2) := by decide +kernel
theorem dX5_eggsThatFit_7 : decode cX5_eggsThatFit 7 = .ok (.if_icmp .ge 31, 3) := by decide +kernel
theorem dX5_goOn_0 : decode cX5_goOn 0 = .ok (.aload_n 0, 1) := by decide +kernel
theorem dX5_goOn_1 : decode cX5_goOn 1 = .ok (.dup, 1) := by decide +kernel
theorem dX5_goOn_10 : decode cX5_goOn 10 = .ok (.iconst 0, 1) := by decide +kernel
theorem dX5_goOn_11 : decode cX5_goOn 11 = .ok (.istore_n 1, 1) := by decide +kernel
theorem dX5_goOn_12 : decode cX5_goOn 12 = .ok (.iload_n 1, 1) := by decide +kernel
theorem dX5_goOn_13 : decode cX5_goOn 13 = .ok (.aload_n 0, 1) := by decide +kernel
theorem dX5_goOn_14 : decode cX5_goOn 14 = .ok (.getfield 18, 3) := by decide +kernel
theorem dX5_goOn_17 : decode cX5_goOn 17 = .ok (.if_icmp .ge 26, 3) := by decide +kernel
theorem dX5_goOn_2 : decode cX5_goOn 2 = .ok (.getfield 15, 3) := by decide +kernel
theorem dX5_goOn_20 : decode cX5_goOn 20 = .ok (.aload_n 0, 1) := by decide +kernel
theorem dX5_goOn_21 : decode cX5_goOn 21 = .ok (.getfield 23, 3) := by decide +kernel
theorem dX5_goOn_24 : decode cX5_goOn 24 = .ok (.iload_n 1, 1) := by decide +kernel
theorem dX5_goOn_25 : decode cX5_goOn 25 = .ok (.aaload, 1) := by decide +kernel
theorem dX5_goOn_26 : decode cX5_goOn 26 = .ok (.aload_n 0, 1) := by decide +kernel
theorem dX5_goOn_27 : decode cX5_goOn 27 = .ok (.getfield 15, 3) := by decide +kernel
theorem dX5_goOn_30 : decode cX5_goOn 30 = .ok (.aload_n 0, 1) := by decide +kernel
theorem dX5_goOn_31 : decode cX5_goOn 31 = .ok (.getfield 9, 3) := by decide +kernel
theorem dX5_goOn_34 : decode cX5_goOn 34 = .ok (.invokevirtual 72, 3) := by decide +kernel
theorem dX5_goOn_37 : decode cX5_goOn 37 = .ok (.iinc 1 1, 3) := by decide +kernel
theorem dX5_goOn_40 : decode cX5_goOn 40 = .ok (.goto (-28), 3) := by decide +kernel
theorem dX5_goOn_43 : decode cX5_goOn 43 = .ok (.return_, 1) := by decide +kernel
theorem dX5_goOn_5 : decode cX5_goOn 5 = .ok (.iconst 1, 1) := by decide +kernel
theorem dX5_goOn_6 : decode cX5_goOn 6 = .ok (.iadd, 1) := by decide +kernel
theorem dX5_goOn_7 : decode cX5_goOn 7 = .ok (.putfield 15, 3) := by decide +kernel
theorem dX5_homes_0 : decode cX5_homes 0 = .ok (.iconst 0, 1) := by decide +kernel
theorem dX5_homes_1 : decode cX5_homes 1 = .ok (.istore_n 1, 1) := by decide +kernel
theorem dX5_homes_12 : decode cX5_homes 12 = .ok (.iload_n 1, 1) := by decide +kernel
theorem dX5_homes_13 : decode cX5_homes 13 = .ok (.aload_n 0, 1) := by decide +kernel
theorem dX5_homes_14 : decode cX5_homes 14 = .ok (.getfield 23, 3) := by decide +kernel
theorem dX5_homes_17 : decode cX5_homes 17 = .ok (.iload_n 2, 1) := by decide +kernel
theorem dX5_homes_18 : decode cX5_homes 18 = .ok (.aaload, 1) := by decide +kernel
theorem dX5_homes_19 : decode cX5_homes 19 = .ok (.invokevirtual 84, 3) := by decide +kernel
theorem dX5_homes_2 : decode cX5_homes 2 = .ok (.iconst 0, 1) := by decide +kernel
theorem dX5_homes_22 : decode cX5_homes 22 = .ok (.ifCond .eq 7, 3) := by decide +kernel
theorem dX5_homes_25 : decode cX5_homes 25 = .ok (.iconst 1, 1) := by decide +kernel
theorem dX5_homes_26 : decode cX5_homes 26 = .ok (.goto 4, 3) := by decide +kernel
theorem dX5_homes_29 : decode cX5_homes 29 = .ok (.iconst 0, 1) := by decide +kernel
theorem dX5_homes_3 : decode cX5_homes 3 = .ok (.istore_n 2, 1) := by decide +kernel
theorem dX5_homes_30 : decode cX5_homes 30 = .ok (.iadd, 1) := by decide +kernel
theorem dX5_homes_31 : decode cX5_homes 31 = .ok (.istore_n 1, 1) := by decide +kernel
theorem dX5_homes_32 : decode cX5_homes 32 = .ok (.iinc 2 1, 3) := by decide +kernel
theorem dX5_homes_35 : decode cX5_homes 35 = .ok (.goto (-31), 3) := by decide +kernel
theorem dX5_homes_38 : decode cX5_homes 38 = .ok (.iload_n 1, 1) := by decide +kernel
theorem dX5_homes_39 : decode cX5_homes 39 = .ok (.ireturn, 1) := by decide +kernel
theorem dX5_homes_4 : decode cX5_homes 4 = .ok (.iload_n 2, 1) := by decide +kernel
theorem dX5_homes_5 : decode cX5_homes 5 = .ok (.aload_n 0, 1) := by decide +kernel
theorem dX5_homes_6 : decode cX5_homes 6 = .ok (.getfield 18, 3) := by decide +kernel
theorem dX5_homes_9 : decode cX5_homes 9 = .ok (.if_icmp .ge 29, 3) := by decide +kernel
theorem dX5_keep_0 : decode cX5_keep 0 = .ok (.aload_n 0, 1) := by decide +kernel
theorem dX5_keep_1 : decode cX5_keep 1 = .ok (.getfield 30, 3) := by decide +kernel
theorem dX5_keep_12 : decode cX5_keep 12 = .ok (.invokevirtual 76, 3) := by decide +kernel
theorem dX5_keep_15 : decode cX5_keep 15 = .ok (.return_, 1) := by decide +kernel
theorem dX5_keep_4 : decode cX5_keep 4 = .ok (.aload_n 0, 1) := by decide +kernel
theorem dX5_keep_5 : decode cX5_keep 5 = .ok (.getfield 15, 3) := by decide +kernel
theorem dX5_keep_8 : decode cX5_keep 8 = .ok (.aload_n 0, 1) := by decide +kernel
theorem dX5_keep_9 : decode cX5_keep 9 = .ok (.getfield 23, 3) := by decide +kernel
theorem dX5_kindsThatFit_0 : decode cX5_kindsThatFit 0 = .ok (.iconst 0, 1) := by decide +kernel
theorem dX5_kindsThatFit_1 : decode cX5_kindsThatFit 1 = .ok (.istore_n 2, 1) := by decide +kernel
theorem dX5_kindsThatFit_10 : decode cX5_kindsThatFit 10 = .ok (.iload_n 2, 1) := by decide +kernel
theorem dX5_kindsThatFit_11 : decode cX5_kindsThatFit 11 = .ok (.aload_n 0, 1) := by decide +kernel
theorem dX5_kindsThatFit_12 : decode cX5_kindsThatFit 12 = .ok (.getfield 43, 3) := by decide +kernel
theorem dX5_kindsThatFit_15 : decode cX5_kindsThatFit 15 = .ok (.iload_n 1, 1) := by decide +kernel
theorem dX5_kindsThatFit_16 : decode cX5_kindsThatFit 16 = .ok (.iload_n 3, 1) := by decide +kernel
theorem dX5_kindsThatFit_17 : decode cX5_kindsThatFit 17 = .ok (.iconst 0, 1) := by decide +kernel
theorem dX5_kindsThatFit_18 : decode cX5_kindsThatFit 18 = .ok (.invokevirtual 97, 3) := by decide +kernel
theorem dX5_kindsThatFit_2 : decode cX5_kindsThatFit 2 = .ok (.iconst 0, 1) := by decide +kernel
theorem dX5_kindsThatFit_21 : decode cX5_kindsThatFit 21 = .ok (.ifCond .eq 9, 3) := by decide +kernel
theorem dX5_kindsThatFit_24 : decode cX5_kindsThatFit 24 = .ok (.iconst 1, 1) := by decide +kernel
theorem dX5_kindsThatFit_25 : decode cX5_kindsThatFit 25 = .ok (.iload_n 3, 1) := by decide +kernel
theorem dX5_kindsThatFit_26 : decode cX5_kindsThatFit 26 = .ok (.ishl, 1) := by decide +kernel
theorem dX5_kindsThatFit_27 : decode cX5_kindsThatFit 27 = .ok (.goto 4, 3) := by decide +kernel
theorem dX5_kindsThatFit_3 : decode cX5_kindsThatFit 3 = .ok (.istore_n 3, 1) := by decide +kernel
theorem dX5_kindsThatFit_30 : decode cX5_kindsThatFit 30 = .ok (.iconst 0, 1) := by decide +kernel
theorem dX5_kindsThatFit_31 : decode cX5_kindsThatFit 31 = .ok (.ior, 1) := by decide +kernel
theorem dX5_kindsThatFit_32 : decode cX5_kindsThatFit 32 = .ok (.istore_n 2, 1) := by decide +kernel
theorem dX5_kindsThatFit_33 : decode cX5_kindsThatFit 33 = .ok (.iinc 3 1, 3) := by decide +kernel
theorem dX5_kindsThatFit_36 : decode cX5_kindsThatFit 36 = .ok (.goto (-32), 3) := by decide +kernel
theorem dX5_kindsThatFit_39 : decode cX5_kindsThatFit 39 = .ok (.iload_n 2, 1) := by decide +kernel
theorem dX5_kindsThatFit_4 : decode cX5_kindsThatFit 4 = .ok (.iload_n 3, 1) := by decide +kernel
theorem dX5_kindsThatFit_40 : decode cX5_kindsThatFit 40 = .ok (.ireturn, 1) := by decide +kernel
theorem dX5_kindsThatFit_5 : decode cX5_kindsThatFit 5 = .ok (.bipush 6, 2) := by decide +kernel
theorem dX5_kindsThatFit_7 : decode cX5_kindsThatFit 7 = .ok (.if_icmp .ge 32, 3) := by decide +kernel
theorem dX5_legsThatFit_0 : decode cX5_legsThatFit 0 = .ok (.iconst 0, 1) := by decide +kernel
theorem dX5_legsThatFit_1 : decode cX5_legsThatFit 1 = .ok (.istore_n 2, 1) := by decide +kernel
theorem dX5_legsThatFit_10 : decode cX5_legsThatFit 10 = .ok (.iload_n 2, 1) := by decide +kernel
theorem dX5_legsThatFit_11 : decode cX5_legsThatFit 11 = .ok (.aload_n 0, 1) := by decide +kernel
theorem dX5_legsThatFit_12 : decode cX5_legsThatFit 12 = .ok (.getfield 39, 3) := by decide +kernel
theorem dX5_legsThatFit_15 : decode cX5_legsThatFit 15 = .ok (.iload_n 1, 1) := by decide +kernel
theorem dX5_legsThatFit_16 : decode cX5_legsThatFit 16 = .ok (.aload_n 0, 1) := by decide +kernel
theorem dX5_legsThatFit_17 : decode cX5_legsThatFit 17 = .ok (.getfield 23, 3) := by decide +kernel
theorem dX5_legsThatFit_2 : decode cX5_legsThatFit 2 = .ok (.iconst 1, 1) := by decide +kernel
theorem dX5_legsThatFit_20 : decode cX5_legsThatFit 20 = .ok (.iload_n 1, 1) := by decide +kernel
theorem dX5_legsThatFit_21 : decode cX5_legsThatFit 21 = .ok (.aaload, 1) := by decide +kernel
theorem dX5_legsThatFit_22 : decode cX5_legsThatFit 22 = .ok (.getfield 94, 3) := by decide +kernel
theorem dX5_legsThatFit_25 : decode cX5_legsThatFit 25 = .ok (.iload_n 3, 1) := by decide +kernel
theorem dX5_legsThatFit_26 : decode cX5_legsThatFit 26 = .ok (.invokevirtual 97, 3) := by decide +kernel
theorem dX5_legsThatFit_29 : decode cX5_legsThatFit 29 = .ok (.ifCond .eq 9, 3) := by decide +kernel
theorem dX5_legsThatFit_3 : decode cX5_legsThatFit 3 = .ok (.istore_n 3, 1) := by decide +kernel
theorem dX5_legsThatFit_32 : decode cX5_legsThatFit 32 = .ok (.iconst 1, 1) := by decide +kernel
theorem dX5_legsThatFit_33 : decode cX5_legsThatFit 33 = .ok (.iload_n 3, 1) := by decide +kernel
theorem dX5_legsThatFit_34 : decode cX5_legsThatFit 34 = .ok (.ishl, 1) := by decide +kernel
theorem dX5_legsThatFit_35 : decode cX5_legsThatFit 35 = .ok (.goto 4, 3) := by decide +kernel
theorem dX5_legsThatFit_38 : decode cX5_legsThatFit 38 = .ok (.iconst 0, 1) := by decide +kernel
theorem dX5_legsThatFit_39 : decode cX5_legsThatFit 39 = .ok (.ior, 1) := by decide +kernel
theorem dX5_legsThatFit_4 : decode cX5_legsThatFit 4 = .ok (.iload_n 3, 1) := by decide +kernel
theorem dX5_legsThatFit_40 : decode cX5_legsThatFit 40 = .ok (.istore_n 2, 1) := by decide +kernel
theorem dX5_legsThatFit_41 : decode cX5_legsThatFit 41 = .ok (.iinc 3 1, 3) := by decide +kernel
theorem dX5_legsThatFit_44 : decode cX5_legsThatFit 44 = .ok (.goto (-40), 3) := by decide +kernel
theorem dX5_legsThatFit_47 : decode cX5_legsThatFit 47 = .ok (.iload_n 2, 1) := by decide +kernel
theorem dX5_legsThatFit_48 : decode cX5_legsThatFit 48 = .ok (.ireturn, 1) := by decide +kernel
theorem dX5_legsThatFit_5 : decode cX5_legsThatFit 5 = .ok (.bipush 9, 2) := by decide +kernel
theorem dX5_legsThatFit_7 : decode cX5_legsThatFit 7 = .ok (.if_icmp .gt 40, 3) := by decide +kernel
theorem dX5_placesTogether_0 : decode cX5_placesTogether 0 = .ok (.iconst 0, 1) := by decide +kernel
theorem dX5_placesTogether_1 : decode cX5_placesTogether 1 = .ok (.istore_n 1, 1) := by decide +kernel
theorem dX5_placesTogether_12 : decode cX5_placesTogether 12 = .ok (.iload_n 1, 1) := by decide +kernel
theorem dX5_placesTogether_13 : decode cX5_placesTogether 13 = .ok (.aload_n 0, 1) := by decide +kernel
theorem dX5_placesTogether_14 : decode cX5_placesTogether 14 = .ok (.getfield 23, 3) := by decide +kernel
theorem dX5_placesTogether_17 : decode cX5_placesTogether 17 = .ok (.iload_n 2, 1) := by decide +kernel
theorem dX5_placesTogether_18 : decode cX5_placesTogether 18 = .ok (.aaload, 1) := by decide +kernel
theorem dX5_placesTogether_19 : decode cX5_placesTogether 19 = .ok (.getfield 88, 3) := by decide +kernel
theorem dX5_placesTogether_2 : decode cX5_placesTogether 2 = .ok (.iconst 0, 1) := by decide +kernel
theorem dX5_placesTogether_22 : decode cX5_placesTogether 22 = .ok (.iadd, 1) := by decide +kernel
theorem dX5_placesTogether_23 : decode cX5_placesTogether 23 = .ok (.istore_n 1, 1) := by decide +kernel
theorem dX5_placesTogether_24 : decode cX5_placesTogether 24 = .ok (.iinc 2 1, 3) := by decide +kernel
theorem dX5_placesTogether_27 : decode cX5_placesTogether 27 = .ok (.goto (-23), 3) := by decide +kernel
theorem dX5_placesTogether_3 : decode cX5_placesTogether 3 = .ok (.istore_n 2, 1) := by decide +kernel
theorem dX5_placesTogether_30 : decode cX5_placesTogether 30 = .ok (.iload_n 1, 1) := by decide +kernel
theorem dX5_placesTogether_31 : decode cX5_placesTogether 31 = .ok (.ireturn, 1) := by decide +kernel
theorem dX5_placesTogether_4 : decode cX5_placesTogether 4 = .ok (.iload_n 2, 1) := by decide +kernel
theorem dX5_placesTogether_5 : decode cX5_placesTogether 5 = .ok (.aload_n 0, 1) := by decide +kernel
theorem dX5_placesTogether_6 : decode cX5_placesTogether 6 = .ok (.getfield 18, 3) := by decide +kernel
theorem dX5_placesTogether_9 : decode cX5_placesTogether 9 = .ok (.if_icmp .ge 21, 3) := by decide +kernel
theorem dX5_restart_0 : decode cX5_restart 0 = .ok (.aload_n 0, 1) := by decide +kernel
theorem dX5_restart_1 : decode cX5_restart 1 = .ok (.iload_n 1, 1) := by decide +kernel
theorem dX5_restart_10 : decode cX5_restart 10 = .ok (.aload_n 0, 1) := by decide +kernel
theorem dX5_restart_11 : decode cX5_restart 11 = .ok (.iconst 0, 1) := by decide +kernel
theorem dX5_restart_12 : decode cX5_restart 12 = .ok (.putfield 18, 3) := by decide +kernel
theorem dX5_restart_15 : decode cX5_restart 15 = .ok (.aload_n 0, 1) := by decide +kernel
theorem dX5_restart_16 : decode cX5_restart 16 = .ok (.getfield 30, 3) := by decide +kernel
theorem dX5_restart_19 : decode cX5_restart 19 = .ok (.iconst 0, 1) := by decide +kernel
theorem dX5_restart_2 : decode cX5_restart 2 = .ok (.putfield 9, 3) := by decide +kernel
theorem dX5_restart_20 : decode cX5_restart 20 = .ok (.putfield 50, 3) := by decide +kernel
theorem dX5_restart_23 : decode cX5_restart 23 = .ok (.aload_n 0, 1) := by decide +kernel
theorem dX5_restart_24 : decode cX5_restart 24 = .ok (.getfield 39, 3) := by decide +kernel
theorem dX5_restart_27 : decode cX5_restart 27 = .ok (.iconst 0, 1) := by decide +kernel
theorem dX5_restart_28 : decode cX5_restart 28 = .ok (.putfield 53, 3) := by decide +kernel
theorem dX5_restart_31 : decode cX5_restart 31 = .ok (.aload_n 0, 1) := by decide +kernel
theorem dX5_restart_32 : decode cX5_restart 32 = .ok (.getfield 43, 3) := by decide +kernel
theorem dX5_restart_35 : decode cX5_restart 35 = .ok (.iconst 0, 1) := by decide +kernel
theorem dX5_restart_36 : decode cX5_restart 36 = .ok (.putfield 53, 3) := by decide +kernel
theorem dX5_restart_39 : decode cX5_restart 39 = .ok (.aload_n 0, 1) := by decide +kernel
theorem dX5_restart_40 : decode cX5_restart 40 = .ok (.getfield 46, 3) := by decide +kernel
theorem dX5_restart_43 : decode cX5_restart 43 = .ok (.iconst 0, 1) := by decide +kernel
theorem dX5_restart_44 : decode cX5_restart 44 = .ok (.putfield 53, 3) := by decide +kernel
theorem dX5_restart_47 : decode cX5_restart 47 = .ok (.return_, 1) := by decide +kernel
theorem dX5_restart_5 : decode cX5_restart 5 = .ok (.aload_n 0, 1) := by decide +kernel
theorem dX5_restart_6 : decode cX5_restart 6 = .ok (.iconst 0, 1) := by decide +kernel
theorem dX5_restart_7 : decode cX5_restart 7 = .ok (.putfield 15, 3) := by decide +kernel
theorem dX5_takeBack_0 : decode cX5_takeBack 0 = .ok (.aload_n 0, 1) := by decide +kernel
theorem dX5_takeBack_1 : decode cX5_takeBack 1 = .ok (.getfield 30, 3) := by decide +kernel
theorem dX5_takeBack_11 : decode cX5_takeBack 11 = .ok (.istore_n 1, 1) := by decide +kernel
theorem dX5_takeBack_12 : decode cX5_takeBack 12 = .ok (.iload_n 1, 1) := by decide +kernel
theorem dX5_takeBack_13 : decode cX5_takeBack 13 = .ok (.iconst (-1), 1) := by decide +kernel
theorem dX5_takeBack_14 : decode cX5_takeBack 14 = .ok (.if_icmp .ne 5, 3) := by decide +kernel
theorem dX5_takeBack_17 : decode cX5_takeBack 17 = .ok (.iconst 0, 1) := by decide +kernel
theorem dX5_takeBack_18 : decode cX5_takeBack 18 = .ok (.ireturn, 1) := by decide +kernel
theorem dX5_takeBack_19 : decode cX5_takeBack 19 = .ok (.aload_n 0, 1) := by decide +kernel
theorem dX5_takeBack_20 : decode cX5_takeBack 20 = .ok (.iload_n 1, 1) := by decide +kernel
theorem dX5_takeBack_21 : decode cX5_takeBack 21 = .ok (.putfield 15, 3) := by decide +kernel
theorem dX5_takeBack_24 : decode cX5_takeBack 24 = .ok (.iconst 1, 1) := by decide +kernel
theorem dX5_takeBack_25 : decode cX5_takeBack 25 = .ok (.ireturn, 1) := by decide +kernel
theorem dX5_takeBack_4 : decode cX5_takeBack 4 = .ok (.aload_n 0, 1) := by decide +kernel
theorem dX5_takeBack_5 : decode cX5_takeBack 5 = .ok (.getfield 23, 3) := by decide +kernel
theorem dX5_takeBack_8 : decode cX5_takeBack 8 = .ok (.invokevirtual 80, 3) := by decide +kernel
theorem dX5_welcome_0 : decode cX5_welcome 0 = .ok (.aload_n 0, 1) := by decide +kernel
theorem dX5_welcome_1 : decode cX5_welcome 1 = .ok (.getfield 18, 3) := by decide +kernel
theorem dX5_welcome_10 : decode cX5_welcome 10 = .ok (.getfield 23, 3) := by decide +kernel
theorem dX5_welcome_13 : decode cX5_welcome 13 = .ok (.aload_n 0, 1) := by decide +kernel
theorem dX5_welcome_14 : decode cX5_welcome 14 = .ok (.getfield 18, 3) := by decide +kernel
theorem dX5_welcome_17 : decode cX5_welcome 17 = .ok (.aaload, 1) := by decide +kernel
theorem dX5_welcome_18 : decode cX5_welcome 18 = .ok (.iload_n 1, 1) := by decide +kernel
theorem dX5_welcome_19 : decode cX5_welcome 19 = .ok (.iload_n 2, 1) := by decide +kernel
theorem dX5_welcome_20 : decode cX5_welcome 20 = .ok (.iload_n 3, 1) := by decide +kernel
theorem dX5_welcome_21 : decode cX5_welcome 21 = .ok (.invokevirtual 54, 3) := by decide +kernel
theorem dX5_welcome_24 : decode cX5_welcome 24 = .ok (.aload_n 0, 1) := by decide +kernel
theorem dX5_welcome_25 : decode cX5_welcome 25 = .ok (.dup, 1) := by decide +kernel
theorem dX5_welcome_26 : decode cX5_welcome 26 = .ok (.getfield 18, 3) := by decide +kernel
theorem dX5_welcome_29 : decode cX5_welcome 29 = .ok (.iconst 1, 1) := by decide +kernel
theorem dX5_welcome_30 : decode cX5_welcome 30 = .ok (.iadd, 1) := by decide +kernel
theorem dX5_welcome_31 : decode cX5_welcome 31 = .ok (.putfield 18, 3) := by decide +kernel
theorem dX5_welcome_34 : decode cX5_welcome 34 = .ok (.aload_n 0, 1) := by decide +kernel
theorem dX5_welcome_35 : decode cX5_welcome 35 = .ok (.getfield 30, 3) := by decide +kernel
theorem dX5_welcome_38 : decode cX5_welcome 38 = .ok (.iconst 0, 1) := by decide +kernel
theorem dX5_welcome_39 : decode cX5_welcome 39 = .ok (.putfield 50, 3) := by decide +kernel
theorem dX5_welcome_4 : decode cX5_welcome 4 = .ok (.bipush 6, 2) := by decide +kernel
theorem dX5_welcome_42 : decode cX5_welcome 42 = .ok (.return_, 1) := by decide +kernel
theorem dX5_welcome_6 : decode cX5_welcome 6 = .ok (.if_icmp .ge 36, 3) := by decide +kernel
theorem dX5_welcome_9 : decode cX5_welcome 9 = .ok (.aload_n 0, 1) := by decide +kernel
theorem dX7_append_0 : decode cX7_append 0 = .ok (.aload_n 0, 1) := by decide +kernel
theorem dX7_append_1 : decode cX7_append 1 = .ok (.getfield 7, 3) := by decide +kernel
theorem dX7_append_11 : decode cX7_append 11 = .ok (.iconst 0, 1) := by decide +kernel
theorem dX7_append_12 : decode cX7_append 12 = .ok (.ireturn, 1) := by decide +kernel
theorem dX7_append_13 : decode cX7_append 13 = .ok (.aload_n 0, 1) := by decide +kernel
theorem dX7_append_14 : decode cX7_append 14 = .ok (.getfield 7, 3) := by decide +kernel
theorem dX7_append_17 : decode cX7_append 17 = .ok (.iconst 5, 1) := by decide +kernel
theorem dX7_append_18 : decode cX7_append 18 = .ok (.imul, 1) := by decide +kernel
theorem dX7_append_19 : decode cX7_append 19 = .ok (.istore 6, 2) := by decide +kernel
theorem dX7_append_21 : decode cX7_append 21 = .ok (.aload_n 0, 1) := by decide +kernel
theorem dX7_append_22 : decode cX7_append 22 = .ok (.getfield 23, 3) := by decide +kernel
theorem dX7_append_25 : decode cX7_append 25 = .ok (.iload 6, 2) := by decide +kernel
theorem dX7_append_27 : decode cX7_append 27 = .ok (.iconst 0, 1) := by decide +kernel
theorem dX7_append_28 : decode cX7_append 28 = .ok (.iadd, 1) := by decide +kernel
theorem dX7_append_29 : decode cX7_append 29 = .ok (.iload_n 1, 1) := by decide +kernel
theorem dX7_append_30 : decode cX7_append 30 = .ok (.iastore, 1) := by decide +kernel
theorem dX7_append_31 : decode cX7_append 31 = .ok (.aload_n 0, 1) := by decide +kernel
theorem dX7_append_32 : decode cX7_append 32 = .ok (.getfield 23, 3) := by decide +kernel
theorem dX7_append_35 : decode cX7_append 35 = .ok (.iload 6, 2) := by decide +kernel
theorem dX7_append_37 : decode cX7_append 37 = .ok (.iconst 1, 1) := by decide +kernel
theorem dX7_append_38 : decode cX7_append 38 = .ok (.iadd, 1) := by decide +kernel
theorem dX7_append_39 : decode cX7_append 39 = .ok (.iload_n 2, 1) := by decide +kernel
theorem dX7_append_4 : decode cX7_append 4 = .ok (.aload_n 0, 1) := by decide +kernel
theorem dX7_append_40 : decode cX7_append 40 = .ok (.iastore, 1) := by decide +kernel
theorem dX7_append_41 : decode cX7_append 41 = .ok (.aload_n 0, 1) := by decide +kernel
theorem dX7_append_42 : decode cX7_append 42 = .ok (.getfield 23, 3) := by decide +kernel
theorem dX7_append_45 : decode cX7_append 45 = .ok (.iload 6, 2) := by decide +kernel
theorem dX7_append_47 : decode cX7_append 47 = .ok (.iconst 2, 1) := by decide +kernel
theorem dX7_append_48 : decode cX7_append 48 = .ok (.iadd, 1) := by decide +kernel
theorem dX7_append_49 : decode cX7_append 49 = .ok (.iload_n 3, 1) := by decide +kernel
theorem dX7_append_5 : decode cX7_append 5 = .ok (.getfield 13, 3) := by decide +kernel
theorem dX7_append_50 : decode cX7_append 50 = .ok (.iastore, 1) := by decide +kernel
theorem dX7_append_51 : decode cX7_append 51 = .ok (.aload_n 0, 1) := by decide +kernel
theorem dX7_append_52 : decode cX7_append 52 = .ok (.getfield 23, 3) := by decide +kernel
theorem dX7_append_55 : decode cX7_append 55 = .ok (.iload 6, 2) := by decide +kernel
theorem dX7_append_57 : decode cX7_append 57 = .ok (.iconst 3, 1) := by decide +kernel
theorem dX7_append_58 : decode cX7_append 58 = .ok (.iadd, 1) := by decide +kernel
theorem dX7_append_59 : decode cX7_append 59 = .ok (.iload 4, 2) := by decide +kernel
theorem dX7_append_61 : decode cX7_append 61 = .ok (.iastore, 1) := by decide +kernel
theorem dX7_append_62 : decode cX7_append 62 = .ok (.aload_n 0, 1) := by decide +kernel
theorem dX7_append_63 : decode cX7_append 63 = .ok (.getfield 23, 3) := by decide +kernel
theorem dX7_append_66 : decode cX7_append 66 = .ok (.iload 6, 2) := by decide +kernel
theorem dX7_append_68 : decode cX7_append 68 = .ok (.iconst 4, 1) := by decide +kernel
theorem dX7_append_69 : decode cX7_append 69 = .ok (.iadd, 1) := by decide +kernel
theorem dX7_append_70 : decode cX7_append 70 = .ok (.iload 5, 2) := by decide +kernel
theorem dX7_append_72 : decode cX7_append 72 = .ok (.iastore, 1) := by decide +kernel
theorem dX7_append_73 : decode cX7_append 73 = .ok (.aload_n 0, 1) := by decide +kernel
theorem dX7_append_74 : decode cX7_append 74 = .ok (.dup, 1) := by decide +kernel
theorem dX7_append_75 : decode cX7_append 75 = .ok (.getfield 7, 3) := by decide +kernel
theorem dX7_append_78 : decode cX7_append 78 = .ok (.iconst 1, 1) := by decide +kernel
theorem dX7_append_79 : decode cX7_append 79 = .ok (.iadd, 1) := by decide +kernel
theorem dX7_append_8 : decode cX7_append 8 = .ok (.if_icmp .lt 5, 3) := by decide +kernel
theorem dX7_append_80 : decode cX7_append 80 = .ok (.putfield 7, 3) := by decide +kernel
theorem dX7_append_83 : decode cX7_append 83 = .ok (.iconst 1, 1) := by decide +kernel
theorem dX7_append_84 : decode cX7_append 84 = .ok (.ireturn, 1) := by decide +kernel
theorem dX7_fitEgg_0 : decode cX7_fitEgg 0 = .ok (.iconst 0, 1) := by decide +kernel
theorem dX7_fitEgg_1 : decode cX7_fitEgg 1 = .ok (.istore_n 3, 1) := by decide +kernel
theorem dX7_fitEgg_10 : decode cX7_fitEgg 10 = .ok (.iload_n 3, 1) := by decide +kernel
theorem dX7_fitEgg_11 : decode cX7_fitEgg 11 = .ok (.iconst 5, 1) := by decide +kernel
theorem dX7_fitEgg_12 : decode cX7_fitEgg 12 = .ok (.imul, 1) := by decide +kernel
theorem dX7_fitEgg_13 : decode cX7_fitEgg 13 = .ok (.istore 4, 2) := by decide +kernel
theorem dX7_fitEgg_15 : decode cX7_fitEgg 15 = .ok (.aload_n 0, 1) := by decide +kernel
theorem dX7_fitEgg_16 : decode cX7_fitEgg 16 = .ok (.getfield 23, 3) := by decide +kernel
theorem dX7_fitEgg_19 : decode cX7_fitEgg 19 = .ok (.iload 4, 2) := by decide +kernel
theorem dX7_fitEgg_2 : decode cX7_fitEgg 2 = .ok (.iload_n 3, 1) := by decide +kernel
theorem dX7_fitEgg_21 : decode cX7_fitEgg 21 = .ok (.iconst 0, 1) := by decide +kernel
theorem dX7_fitEgg_22 : decode cX7_fitEgg 22 = .ok (.iadd, 1) := by decide +kernel
theorem dX7_fitEgg_23 : decode cX7_fitEgg 23 = .ok (.iaload, 1) := by decide +kernel
theorem dX7_fitEgg_24 : decode cX7_fitEgg 24 = .ok (.iload_n 1, 1) := by decide +kernel
theorem dX7_fitEgg_25 : decode cX7_fitEgg 25 = .ok (.if_icmp .ne 30, 3) := by decide +kernel
theorem dX7_fitEgg_28 : decode cX7_fitEgg 28 = .ok (.iload_n 2, 1) := by decide +kernel
theorem dX7_fitEgg_29 : decode cX7_fitEgg 29 = .ok (.aload_n 0, 1) := by decide +kernel
theorem dX7_fitEgg_3 : decode cX7_fitEgg 3 = .ok (.aload_n 0, 1) := by decide +kernel
theorem dX7_fitEgg_30 : decode cX7_fitEgg 30 = .ok (.getfield 23, 3) := by decide +kernel
theorem dX7_fitEgg_33 : decode cX7_fitEgg 33 = .ok (.iload 4, 2) := by decide +kernel
theorem dX7_fitEgg_35 : decode cX7_fitEgg 35 = .ok (.iconst 2, 1) := by decide +kernel
theorem dX7_fitEgg_36 : decode cX7_fitEgg 36 = .ok (.iadd, 1) := by decide +kernel
theorem dX7_fitEgg_37 : decode cX7_fitEgg 37 = .ok (.iaload, 1) := by decide +kernel
theorem dX7_fitEgg_38 : decode cX7_fitEgg 38 = .ok (.invokestatic 45, 3) := by decide +kernel
theorem dX7_fitEgg_4 : decode cX7_fitEgg 4 = .ok (.getfield 7, 3) := by decide +kernel
theorem dX7_fitEgg_41 : decode cX7_fitEgg 41 = .ok (.aload_n 0, 1) := by decide +kernel
theorem dX7_fitEgg_42 : decode cX7_fitEgg 42 = .ok (.getfield 23, 3) := by decide +kernel
theorem dX7_fitEgg_45 : decode cX7_fitEgg 45 = .ok (.iload 4, 2) := by decide +kernel
theorem dX7_fitEgg_47 : decode cX7_fitEgg 47 = .ok (.iconst 4, 1) := by decide +kernel
theorem dX7_fitEgg_48 : decode cX7_fitEgg 48 = .ok (.iadd, 1) := by decide +kernel
theorem dX7_fitEgg_49 : decode cX7_fitEgg 49 = .ok (.iaload, 1) := by decide +kernel
theorem dX7_fitEgg_50 : decode cX7_fitEgg 50 = .ok (.if_icmp .eq 5, 3) := by decide +kernel
theorem dX7_fitEgg_53 : decode cX7_fitEgg 53 = .ok (.iconst 0, 1) := by decide +kernel
theorem dX7_fitEgg_54 : decode cX7_fitEgg 54 = .ok (.ireturn, 1) := by decide +kernel
theorem dX7_fitEgg_55 : decode cX7_fitEgg 55 = .ok (.iinc 3 1, 3) := by decide +kernel
theorem dX7_fitEgg_58 : decode cX7_fitEgg 58 = .ok (.goto (-56), 3) := by decide +kernel
theorem dX7_fitEgg_61 : decode cX7_fitEgg 61 = .ok (.iconst 1, 1) := by decide +kernel
theorem dX7_fitEgg_62 : decode cX7_fitEgg 62 = .ok (.ireturn, 1) := by decide +kernel
theorem dX7_fitEgg_7 : decode cX7_fitEgg 7 = .ok (.if_icmp .ge 54, 3) := by decide +kernel
theorem dX7_fitRunner_0 : decode cX7_fitRunner 0 = .ok (.iconst 0, 1) := by decide +kernel
theorem dX7_fitRunner_1 : decode cX7_fitRunner 1 = .ok (.istore 4, 2) := by decide +kernel
theorem dX7_fitRunner_12 : decode cX7_fitRunner 12 = .ok (.iload 4, 2) := by decide +kernel
theorem dX7_fitRunner_14 : decode cX7_fitRunner 14 = .ok (.iconst 5, 1) := by decide +kernel
theorem dX7_fitRunner_15 : decode cX7_fitRunner 15 = .ok (.imul, 1) := by decide +kernel
theorem dX7_fitRunner_16 : decode cX7_fitRunner 16 = .ok (.istore 5, 2) := by decide +kernel
theorem dX7_fitRunner_18 : decode cX7_fitRunner 18 = .ok (.aload_n 0, 1) := by decide +kernel
theorem dX7_fitRunner_19 : decode cX7_fitRunner 19 = .ok (.getfield 16, 3) := by decide +kernel
theorem dX7_fitRunner_22 : decode cX7_fitRunner 22 = .ok (.ifCond .eq 15, 3) := by decide +kernel
theorem dX7_fitRunner_25 : decode cX7_fitRunner 25 = .ok (.aload_n 0, 1) := by decide +kernel
theorem dX7_fitRunner_26 : decode cX7_fitRunner 26 = .ok (.getfield 23, 3) := by decide +kernel
theorem dX7_fitRunner_29 : decode cX7_fitRunner 29 = .ok (.iload 5, 2) := by decide +kernel
theorem dX7_fitRunner_3 : decode cX7_fitRunner 3 = .ok (.iload 4, 2) := by decide +kernel
theorem dX7_fitRunner_31 : decode cX7_fitRunner 31 = .ok (.iconst 1, 1) := by decide +kernel
theorem dX7_fitRunner_32 : decode cX7_fitRunner 32 = .ok (.iadd, 1) := by decide +kernel
theorem dX7_fitRunner_33 : decode cX7_fitRunner 33 = .ok (.iaload, 1) := by decide +kernel
theorem dX7_fitRunner_34 : decode cX7_fitRunner 34 = .ok (.goto 4, 3) := by decide +kernel
theorem dX7_fitRunner_37 : decode cX7_fitRunner 37 = .ok (.iload_n 3, 1) := by decide +kernel
theorem dX7_fitRunner_38 : decode cX7_fitRunner 38 = .ok (.istore 6, 2) := by decide +kernel
theorem dX7_fitRunner_40 : decode cX7_fitRunner 40 = .ok (.aload_n 0, 1) := by decide +kernel
theorem dX7_fitRunner_41 : decode cX7_fitRunner 41 = .ok (.getfield 23, 3) := by decide +kernel
theorem dX7_fitRunner_44 : decode cX7_fitRunner 44 = .ok (.iload 5, 2) := by decide +kernel
theorem dX7_fitRunner_46 : decode cX7_fitRunner 46 = .ok (.iconst 0, 1) := by decide +kernel
theorem dX7_fitRunner_47 : decode cX7_fitRunner 47 = .ok (.iadd, 1) := by decide +kernel
theorem dX7_fitRunner_48 : decode cX7_fitRunner 48 = .ok (.iaload, 1) := by decide +kernel
theorem dX7_fitRunner_49 : decode cX7_fitRunner 49 = .ok (.iload_n 1, 1) := by decide +kernel
theorem dX7_fitRunner_5 : decode cX7_fitRunner 5 = .ok (.aload_n 0, 1) := by decide +kernel
theorem dX7_fitRunner_50 : decode cX7_fitRunner 50 = .ok (.if_icmp .ne 41, 3) := by decide +kernel
theorem dX7_fitRunner_53 : decode cX7_fitRunner 53 = .ok (.iload_n 2, 1) := by decide +kernel
theorem dX7_fitRunner_54 : decode cX7_fitRunner 54 = .ok (.iload 6, 2) := by decide +kernel
theorem dX7_fitRunner_56 : decode cX7_fitRunner 56 = .ok (.aload_n 0, 1) := by decide +kernel
theorem dX7_fitRunner_57 : decode cX7_fitRunner 57 = .ok (.getfield 23, 3) := by decide +kernel
theorem dX7_fitRunner_6 : decode cX7_fitRunner 6 = .ok (.getfield 7, 3) := by decide +kernel
theorem dX7_fitRunner_60 : decode cX7_fitRunner 60 = .ok (.iload 5, 2) := by decide +kernel
theorem dX7_fitRunner_62 : decode cX7_fitRunner 62 = .ok (.iconst 2, 1) := by decide +kernel
theorem dX7_fitRunner_63 : decode cX7_fitRunner 63 = .ok (.iadd, 1) := by decide +kernel
theorem dX7_fitRunner_64 : decode cX7_fitRunner 64 = .ok (.iaload, 1) := by decide +kernel
theorem dX7_fitRunner_65 : decode cX7_fitRunner 65 = .ok (.aload_n 0, 1) := by decide +kernel
theorem dX7_fitRunner_66 : decode cX7_fitRunner 66 = .ok (.getfield 23, 3) := by decide +kernel
theorem dX7_fitRunner_69 : decode cX7_fitRunner 69 = .ok (.iload 5, 2) := by decide +kernel
theorem dX7_fitRunner_71 : decode cX7_fitRunner 71 = .ok (.iconst 3, 1) := by decide +kernel
theorem dX7_fitRunner_72 : decode cX7_fitRunner 72 = .ok (.iadd, 1) := by decide +kernel
theorem dX7_fitRunner_73 : decode cX7_fitRunner 73 = .ok (.iaload, 1) := by decide +kernel
theorem dX7_fitRunner_74 : decode cX7_fitRunner 74 = .ok (.invokestatic 39, 3) := by decide +kernel
theorem dX7_fitRunner_77 : decode cX7_fitRunner 77 = .ok (.aload_n 0, 1) := by decide +kernel
theorem dX7_fitRunner_78 : decode cX7_fitRunner 78 = .ok (.getfield 23, 3) := by decide +kernel
theorem dX7_fitRunner_81 : decode cX7_fitRunner 81 = .ok (.iload 5, 2) := by decide +kernel
theorem dX7_fitRunner_83 : decode cX7_fitRunner 83 = .ok (.iconst 4, 1) := by decide +kernel
theorem dX7_fitRunner_84 : decode cX7_fitRunner 84 = .ok (.iadd, 1) := by decide +kernel
theorem dX7_fitRunner_85 : decode cX7_fitRunner 85 = .ok (.iaload, 1) := by decide +kernel
theorem dX7_fitRunner_86 : decode cX7_fitRunner 86 = .ok (.if_icmp .eq 5, 3) := by decide +kernel
theorem dX7_fitRunner_89 : decode cX7_fitRunner 89 = .ok (.iconst 0, 1) := by decide +kernel
theorem dX7_fitRunner_9 : decode cX7_fitRunner 9 = .ok (.if_icmp .ge 88, 3) := by decide +kernel
theorem dX7_fitRunner_90 : decode cX7_fitRunner 90 = .ok (.ireturn, 1) := by decide +kernel
theorem dX7_fitRunner_91 : decode cX7_fitRunner 91 = .ok (.iinc 4 1, 3) := by decide +kernel
theorem dX7_fitRunner_94 : decode cX7_fitRunner 94 = .ok (.goto (-91), 3) := by decide +kernel
theorem dX7_fitRunner_97 : decode cX7_fitRunner 97 = .ok (.iconst 1, 1) := by decide +kernel
theorem dX7_fitRunner_98 : decode cX7_fitRunner 98 = .ok (.ireturn, 1) := by decide +kernel
theorem dX7_mixInto_0 : decode cX7_mixInto 0 = .ok (.lload_n 1, 1) := by decide +kernel
theorem dX7_mixInto_1 : decode cX7_mixInto 1 = .ok (.lstore_n 3, 1) := by decide +kernel
theorem dX7_mixInto_100 : decode cX7_mixInto 100 = .ok (.iconst 3, 1) := by decide +kernel
theorem dX7_mixInto_101 : decode cX7_mixInto 101 = .ok (.iadd, 1) := by decide +kernel
theorem dX7_mixInto_102 : decode cX7_mixInto 102 = .ok (.iaload, 1) := by decide +kernel
theorem dX7_mixInto_103 : decode cX7_mixInto 103 = .ok (.i2l, 1) := by decide +kernel
theorem dX7_mixInto_104 : decode cX7_mixInto 104 = .ok (.ladd, 1) := by decide +kernel
theorem dX7_mixInto_105 : decode cX7_mixInto 105 = .ok (.goto 4, 3) := by decide +kernel
theorem dX7_mixInto_108 : decode cX7_mixInto 108 = .ok (.lload_n 3, 1) := by decide +kernel
theorem dX7_mixInto_109 : decode cX7_mixInto 109 = .ok (.lstore_n 3, 1) := by decide +kernel
theorem dX7_mixInto_11 : decode cX7_mixInto 11 = .ok (.if_icmp .ge 122, 3) := by decide +kernel
theorem dX7_mixInto_110 : decode cX7_mixInto 110 = .ok (.ldc2_w 50, 3) := by decide +kernel
theorem dX7_mixInto_113 : decode cX7_mixInto 113 = .ok (.lload_n 3, 1) := by decide +kernel
theorem dX7_mixInto_114 : decode cX7_mixInto 114 = .ok (.lmul, 1) := by decide +kernel
theorem dX7_mixInto_115 : decode cX7_mixInto 115 = .ok (.aload_n 0, 1) := by decide +kernel
theorem dX7_mixInto_116 : decode cX7_mixInto 116 = .ok (.getfield 23, 3) := by decide +kernel
theorem dX7_mixInto_119 : decode cX7_mixInto 119 = .ok (.iload 6, 2) := by decide +kernel
theorem dX7_mixInto_121 : decode cX7_mixInto 121 = .ok (.iconst 4, 1) := by decide +kernel
theorem dX7_mixInto_122 : decode cX7_mixInto 122 = .ok (.iadd, 1) := by decide +kernel
theorem dX7_mixInto_123 : decode cX7_mixInto 123 = .ok (.iaload, 1) := by decide +kernel
theorem dX7_mixInto_124 : decode cX7_mixInto 124 = .ok (.i2l, 1) := by decide +kernel
theorem dX7_mixInto_125 : decode cX7_mixInto 125 = .ok (.ladd, 1) := by decide +kernel
theorem dX7_mixInto_126 : decode cX7_mixInto 126 = .ok (.lstore_n 3, 1) := by decide +kernel
theorem dX7_mixInto_127 : decode cX7_mixInto 127 = .ok (.iinc 5 1, 3) := by decide +kernel
theorem dX7_mixInto_130 : decode cX7_mixInto 130 = .ok (.goto (-125), 3) := by decide +kernel
theorem dX7_mixInto_133 : decode cX7_mixInto 133 = .ok (.lload_n 3, 1) := by decide +kernel
theorem dX7_mixInto_134 : decode cX7_mixInto 134 = .ok (.lreturn, 1) := by decide +kernel
theorem dX7_mixInto_14 : decode cX7_mixInto 14 = .ok (.iload 5, 2) := by decide +kernel
theorem dX7_mixInto_16 : decode cX7_mixInto 16 = .ok (.iconst 5, 1) := by decide +kernel
theorem dX7_mixInto_17 : decode cX7_mixInto 17 = .ok (.imul, 1) := by decide +kernel
theorem dX7_mixInto_18 : decode cX7_mixInto 18 = .ok (.istore 6, 2) := by decide +kernel
theorem dX7_mixInto_2 : decode cX7_mixInto 2 = .ok (.iconst 0, 1) := by decide +kernel
theorem dX7_mixInto_20 : decode cX7_mixInto 20 = .ok (.ldc2_w 50, 3) := by decide +kernel
theorem dX7_mixInto_23 : decode cX7_mixInto 23 = .ok (.lload_n 3, 1) := by decide +kernel
theorem dX7_mixInto_24 : decode cX7_mixInto 24 = .ok (.lmul, 1) := by decide +kernel
theorem dX7_mixInto_25 : decode cX7_mixInto 25 = .ok (.aload_n 0, 1) := by decide +kernel
theorem dX7_mixInto_26 : decode cX7_mixInto 26 = .ok (.getfield 23, 3) := by decide +kernel
theorem dX7_mixInto_29 : decode cX7_mixInto 29 = .ok (.iload 6, 2) := by decide +kernel
theorem dX7_mixInto_3 : decode cX7_mixInto 3 = .ok (.istore 5, 2) := by decide +kernel
theorem dX7_mixInto_31 : decode cX7_mixInto 31 = .ok (.iconst 0, 1) := by decide +kernel
theorem dX7_mixInto_32 : decode cX7_mixInto 32 = .ok (.iadd, 1) := by decide +kernel
theorem dX7_mixInto_33 : decode cX7_mixInto 33 = .ok (.iaload, 1) := by decide +kernel
theorem dX7_mixInto_34 : decode cX7_mixInto 34 = .ok (.i2l, 1) := by decide +kernel
theorem dX7_mixInto_35 : decode cX7_mixInto 35 = .ok (.ladd, 1) := by decide +kernel
theorem dX7_mixInto_36 : decode cX7_mixInto 36 = .ok (.lstore_n 3, 1) := by decide +kernel
theorem dX7_mixInto_37 : decode cX7_mixInto 37 = .ok (.aload_n 0, 1) := by decide +kernel
theorem dX7_mixInto_38 : decode cX7_mixInto 38 = .ok (.getfield 16, 3) := by decide +kernel
theorem dX7_mixInto_41 : decode cX7_mixInto 41 = .ok (.ifCond .eq 22, 3) := by decide +kernel
theorem dX7_mixInto_44 : decode cX7_mixInto 44 = .ok (.ldc2_w 50, 3) := by decide +kernel
theorem dX7_mixInto_47 : decode cX7_mixInto 47 = .ok (.lload_n 3, 1) := by decide +kernel
theorem dX7_mixInto_48 : decode cX7_mixInto 48 = .ok (.lmul, 1) := by decide +kernel
theorem dX7_mixInto_49 : decode cX7_mixInto 49 = .ok (.aload_n 0, 1) := by decide +kernel
theorem dX7_mixInto_5 : decode cX7_mixInto 5 = .ok (.iload 5, 2) := by decide +kernel
theorem dX7_mixInto_50 : decode cX7_mixInto 50 = .ok (.getfield 23, 3) := by decide +kernel
theorem dX7_mixInto_53 : decode cX7_mixInto 53 = .ok (.iload 6, 2) := by decide +kernel
theorem dX7_mixInto_55 : decode cX7_mixInto 55 = .ok (.iconst 1, 1) := by decide +kernel
theorem dX7_mixInto_56 : decode cX7_mixInto 56 = .ok (.iadd, 1) := by decide +kernel
theorem dX7_mixInto_57 : decode cX7_mixInto 57 = .ok (.iaload, 1) := by decide +kernel
theorem dX7_mixInto_58 : decode cX7_mixInto 58 = .ok (.i2l, 1) := by decide +kernel
theorem dX7_mixInto_59 : decode cX7_mixInto 59 = .ok (.ladd, 1) := by decide +kernel
theorem dX7_mixInto_60 : decode cX7_mixInto 60 = .ok (.goto 4, 3) := by decide +kernel
theorem dX7_mixInto_63 : decode cX7_mixInto 63 = .ok (.lload_n 3, 1) := by decide +kernel
theorem dX7_mixInto_64 : decode cX7_mixInto 64 = .ok (.lstore_n 3, 1) := by decide +kernel
theorem dX7_mixInto_65 : decode cX7_mixInto 65 = .ok (.ldc2_w 50, 3) := by decide +kernel
theorem dX7_mixInto_68 : decode cX7_mixInto 68 = .ok (.lload_n 3, 1) := by decide +kernel
theorem dX7_mixInto_69 : decode cX7_mixInto 69 = .ok (.lmul, 1) := by decide +kernel
theorem dX7_mixInto_7 : decode cX7_mixInto 7 = .ok (.aload_n 0, 1) := by decide +kernel
theorem dX7_mixInto_70 : decode cX7_mixInto 70 = .ok (.aload_n 0, 1) := by decide +kernel
theorem dX7_mixInto_71 : decode cX7_mixInto 71 = .ok (.getfield 23, 3) := by decide +kernel
theorem dX7_mixInto_74 : decode cX7_mixInto 74 = .ok (.iload 6, 2) := by decide +kernel
theorem dX7_mixInto_76 : decode cX7_mixInto 76 = .ok (.iconst 2, 1) := by decide +kernel
theorem dX7_mixInto_77 : decode cX7_mixInto 77 = .ok (.iadd, 1) := by decide +kernel
theorem dX7_mixInto_78 : decode cX7_mixInto 78 = .ok (.iaload, 1) := by decide +kernel
theorem dX7_mixInto_79 : decode cX7_mixInto 79 = .ok (.i2l, 1) := by decide +kernel
theorem dX7_mixInto_8 : decode cX7_mixInto 8 = .ok (.getfield 7, 3) := by decide +kernel
theorem dX7_mixInto_80 : decode cX7_mixInto 80 = .ok (.ladd, 1) := by decide +kernel
theorem dX7_mixInto_81 : decode cX7_mixInto 81 = .ok (.lstore_n 3, 1) := by decide +kernel
theorem dX7_mixInto_82 : decode cX7_mixInto 82 = .ok (.aload_n 0, 1) := by decide +kernel
theorem dX7_mixInto_83 : decode cX7_mixInto 83 = .ok (.getfield 20, 3) := by decide +kernel
theorem dX7_mixInto_86 : decode cX7_mixInto 86 = .ok (.ifCond .eq 22, 3) := by decide +kernel
theorem dX7_mixInto_89 : decode cX7_mixInto 89 = .ok (.ldc2_w 50, 3) := by decide +kernel
theorem dX7_mixInto_92 : decode cX7_mixInto 92 = .ok (.lload_n 3, 1) := by decide +kernel
theorem dX7_mixInto_93 : decode cX7_mixInto 93 = .ok (.lmul, 1) := by decide +kernel
theorem dX7_mixInto_94 : decode cX7_mixInto 94 = .ok (.aload_n 0, 1) := by decide +kernel
theorem dX7_mixInto_95 : decode cX7_mixInto 95 = .ok (.getfield 23, 3) := by decide +kernel
theorem dX7_mixInto_98 : decode cX7_mixInto 98 = .ok (.iload 6, 2) := by decide +kernel
theorem dX8_begin_0 : decode cX8_begin 0 = .ok (.aload_n 0, 1) := by decide +kernel
theorem dX8_begin_1 : decode cX8_begin 1 = .ok (.iload_n 1, 1) := by decide +kernel
theorem dX8_begin_10 : decode cX8_begin 10 = .ok (.aload_n 0, 1) := by decide +kernel
theorem dX8_begin_11 : decode cX8_begin 11 = .ok (.iload_n 3, 1) := by decide +kernel
theorem dX8_begin_12 : decode cX8_begin 12 = .ok (.putfield 18, 3) := by decide +kernel
theorem dX8_begin_15 : decode cX8_begin 15 = .ok (.aload_n 0, 1) := by decide +kernel
theorem dX8_begin_16 : decode cX8_begin 16 = .ok (.iconst 4, 1) := by decide +kernel
theorem dX8_begin_17 : decode cX8_begin 17 = .ok (.putfield 21, 3) := by decide +kernel
theorem dX8_begin_2 : decode cX8_begin 2 = .ok (.putfield 9, 3) := by decide +kernel
theorem dX8_begin_20 : decode cX8_begin 20 = .ok (.aload_n 0, 1) := by decide +kernel
theorem dX8_begin_21 : decode cX8_begin 21 = .ok (.iconst 0, 1) := by decide +kernel
theorem dX8_begin_22 : decode cX8_begin 22 = .ok (.putfield 24, 3) := by decide +kernel
theorem dX8_begin_25 : decode cX8_begin 25 = .ok (.aload_n 0, 1) := by decide +kernel
theorem dX8_begin_26 : decode cX8_begin 26 = .ok (.iconst 0, 1) := by decide +kernel
theorem dX8_begin_27 : decode cX8_begin 27 = .ok (.putfield 27, 3) := by decide +kernel
theorem dX8_begin_30 : decode cX8_begin 30 = .ok (.aload_n 0, 1) := by decide +kernel
theorem dX8_begin_31 : decode cX8_begin 31 = .ok (.iconst 0, 1) := by decide +kernel
theorem dX8_begin_32 : decode cX8_begin 32 = .ok (.putfield 30, 3) := by decide +kernel
theorem dX8_begin_35 : decode cX8_begin 35 = .ok (.aload_n 0, 1) := by decide +kernel
theorem dX8_begin_36 : decode cX8_begin 36 = .ok (.iconst (-1), 1) := by decide +kernel
theorem dX8_begin_37 : decode cX8_begin 37 = .ok (.putfield 33, 3) := by decide +kernel
theorem dX8_begin_40 : decode cX8_begin 40 = .ok (.return_, 1) := by decide +kernel
theorem dX8_begin_5 : decode cX8_begin 5 = .ok (.aload_n 0, 1) := by decide +kernel
theorem dX8_begin_6 : decode cX8_begin 6 = .ok (.iload_n 2, 1) := by decide +kernel
theorem dX8_begin_7 : decode cX8_begin 7 = .ok (.putfield 15, 3) := by decide +kernel
theorem dX8_copyFrom_0 : decode cX8_copyFrom 0 = .ok (.aload_n 0, 1) := by decide +kernel
theorem dX8_copyFrom_1 : decode cX8_copyFrom 1 = .ok (.aload_n 1, 1) := by decide +kernel
theorem dX8_copyFrom_10 : decode cX8_copyFrom 10 = .ok (.getfield 15, 3) := by decide +kernel
theorem dX8_copyFrom_13 : decode cX8_copyFrom 13 = .ok (.putfield 15, 3) := by decide +kernel
theorem dX8_copyFrom_16 : decode cX8_copyFrom 16 = .ok (.aload_n 0, 1) := by decide +kernel
theorem dX8_copyFrom_17 : decode cX8_copyFrom 17 = .ok (.aload_n 1, 1) := by decide +kernel
theorem dX8_copyFrom_18 : decode cX8_copyFrom 18 = .ok (.getfield 18, 3) := by decide +kernel
theorem dX8_copyFrom_2 : decode cX8_copyFrom 2 = .ok (.getfield 9, 3) := by decide +kernel
theorem dX8_copyFrom_21 : decode cX8_copyFrom 21 = .ok (.putfield 18, 3) := by decide +kernel
theorem dX8_copyFrom_24 : decode cX8_copyFrom 24 = .ok (.aload_n 0, 1) := by decide +kernel
theorem dX8_copyFrom_25 : decode cX8_copyFrom 25 = .ok (.aload_n 1, 1) := by decide +kernel
theorem dX8_copyFrom_26 : decode cX8_copyFrom 26 = .ok (.getfield 21, 3) := by decide +kernel
theorem dX8_copyFrom_29 : decode cX8_copyFrom 29 = .ok (.putfield 21, 3) := by decide +kernel
theorem dX8_copyFrom_32 : decode cX8_copyFrom 32 = .ok (.aload_n 0, 1) := by decide +kernel
theorem dX8_copyFrom_33 : decode cX8_copyFrom 33 = .ok (.aload_n 1, 1) := by decide +kernel
theorem dX8_copyFrom_34 : decode cX8_copyFrom 34 = .ok (.getfield 24, 3) := by decide +kernel
theorem dX8_copyFrom_37 : decode cX8_copyFrom 37 = .ok (.putfield 24, 3) := by decide +kernel
theorem dX8_copyFrom_40 : decode cX8_copyFrom 40 = .ok (.aload_n 0, 1) := by decide +kernel
theorem dX8_copyFrom_41 : decode cX8_copyFrom 41 = .ok (.aload_n 1, 1) := by decide +kernel
theorem dX8_copyFrom_42 : decode cX8_copyFrom 42 = .ok (.getfield 27, 3) := by decide +kernel
theorem dX8_copyFrom_45 : decode cX8_copyFrom 45 = .ok (.putfield 27, 3) := by decide +kernel
theorem dX8_copyFrom_48 : decode cX8_copyFrom 48 = .ok (.aload_n 0, 1) := by decide +kernel
theorem dX8_copyFrom_49 : decode cX8_copyFrom 49 = .ok (.aload_n 1, 1) := by decide +kernel
theorem dX8_copyFrom_5 : decode cX8_copyFrom 5 = .ok (.putfield 9, 3) := by decide +kernel
theorem dX8_copyFrom_50 : decode cX8_copyFrom 50 = .ok (.getfield 30, 3) := by decide +kernel
theorem dX8_copyFrom_53 : decode cX8_copyFrom 53 = .ok (.putfield 30, 3) := by decide +kernel
theorem dX8_copyFrom_56 : decode cX8_copyFrom 56 = .ok (.aload_n 0, 1) := by decide +kernel
theorem dX8_copyFrom_57 : decode cX8_copyFrom 57 = .ok (.aload_n 1, 1) := by decide +kernel
theorem dX8_copyFrom_58 : decode cX8_copyFrom 58 = .ok (.getfield 33, 3) := by decide +kernel
theorem dX8_copyFrom_61 : decode cX8_copyFrom 61 = .ok (.putfield 33, 3) := by decide +kernel
theorem dX8_copyFrom_64 : decode cX8_copyFrom 64 = .ok (.return_, 1) := by decide +kernel
theorem dX8_copyFrom_8 : decode cX8_copyFrom 8 = .ok (.aload_n 0, 1) := by decide +kernel
theorem dX8_copyFrom_9 : decode cX8_copyFrom 9 = .ok (.aload_n 1, 1) := by decide +kernel
theorem dX8_fact_0 : decode cX8_fact 0 = .ok (.iload_n 1, 1) := by decide +kernel
theorem dX8_fact_1 : decode cX8_fact 1 = .ok (.tableswitch 108 0 8 #[51, 56, 61, 66, 71, 76, 81, 86, 91], 51) := by decide +kernel
theorem dX8_fact_100 : decode cX8_fact 100 = .ok (.iload_n 2, 1) := by decide +kernel
theorem dX8_fact_101 : decode cX8_fact 101 = .ok (.aload_n 0, 1) := by decide +kernel
theorem dX8_fact_102 : decode cX8_fact 102 = .ok (.getfield 21, 3) := by decide +kernel
theorem dX8_fact_105 : decode cX8_fact 105 = .ok (.invokestatic 36, 3) := by decide +kernel
theorem dX8_fact_108 : decode cX8_fact 108 = .ok (.ireturn, 1) := by decide +kernel
theorem dX8_fact_109 : decode cX8_fact 109 = .ok (.aload_n 0, 1) := by decide +kernel
theorem dX8_fact_110 : decode cX8_fact 110 = .ok (.getfield 18, 3) := by decide +kernel
theorem dX8_fact_113 : decode cX8_fact 113 = .ok (.iload_n 2, 1) := by decide +kernel
theorem dX8_fact_114 : decode cX8_fact 114 = .ok (.invokestatic 42, 3) := by decide +kernel
theorem dX8_fact_117 : decode cX8_fact 117 = .ok (.ireturn, 1) := by decide +kernel
theorem dX8_fact_52 : decode cX8_fact 52 = .ok (.aload_n 0, 1) := by decide +kernel
theorem dX8_fact_53 : decode cX8_fact 53 = .ok (.getfield 9, 3) := by decide +kernel
theorem dX8_fact_56 : decode cX8_fact 56 = .ok (.ireturn, 1) := by decide +kernel
theorem dX8_fact_57 : decode cX8_fact 57 = .ok (.aload_n 0, 1) := by decide +kernel
theorem dX8_fact_58 : decode cX8_fact 58 = .ok (.getfield 15, 3) := by decide +kernel
theorem dX8_fact_61 : decode cX8_fact 61 = .ok (.ireturn, 1) := by decide +kernel
theorem dX8_fact_62 : decode cX8_fact 62 = .ok (.aload_n 0, 1) := by decide +kernel
theorem dX8_fact_63 : decode cX8_fact 63 = .ok (.getfield 18, 3) := by decide +kernel
theorem dX8_fact_66 : decode cX8_fact 66 = .ok (.ireturn, 1) := by decide +kernel
theorem dX8_fact_67 : decode cX8_fact 67 = .ok (.aload_n 0, 1) := by decide +kernel
theorem dX8_fact_68 : decode cX8_fact 68 = .ok (.getfield 21, 3) := by decide +kernel
theorem dX8_fact_71 : decode cX8_fact 71 = .ok (.ireturn, 1) := by decide +kernel
theorem dX8_fact_72 : decode cX8_fact 72 = .ok (.aload_n 0, 1) := by decide +kernel
theorem dX8_fact_73 : decode cX8_fact 73 = .ok (.getfield 24, 3) := by decide +kernel
theorem dX8_fact_76 : decode cX8_fact 76 = .ok (.ireturn, 1) := by decide +kernel
theorem dX8_fact_77 : decode cX8_fact 77 = .ok (.aload_n 0, 1) := by decide +kernel
theorem dX8_fact_78 : decode cX8_fact 78 = .ok (.getfield 27, 3) := by decide +kernel
theorem dX8_fact_81 : decode cX8_fact 81 = .ok (.ireturn, 1) := by decide +kernel
theorem dX8_fact_82 : decode cX8_fact 82 = .ok (.aload_n 0, 1) := by decide +kernel
theorem dX8_fact_83 : decode cX8_fact 83 = .ok (.getfield 30, 3) := by decide +kernel
theorem dX8_fact_86 : decode cX8_fact 86 = .ok (.ireturn, 1) := by decide +kernel
theorem dX8_fact_87 : decode cX8_fact 87 = .ok (.aload_n 0, 1) := by decide +kernel
theorem dX8_fact_88 : decode cX8_fact 88 = .ok (.getfield 33, 3) := by decide +kernel
theorem dX8_fact_91 : decode cX8_fact 91 = .ok (.ireturn, 1) := by decide +kernel
theorem dX8_fact_92 : decode cX8_fact 92 = .ok (.aload_n 0, 1) := by decide +kernel
theorem dX8_fact_93 : decode cX8_fact 93 = .ok (.getfield 9, 3) := by decide +kernel
theorem dX8_fact_96 : decode cX8_fact 96 = .ok (.aload_n 0, 1) := by decide +kernel
theorem dX8_fact_97 : decode cX8_fact 97 = .ok (.getfield 15, 3) := by decide +kernel
theorem dX8_isHome_0 : decode cX8_isHome 0 = .ok (.aload_n 0, 1) := by decide +kernel
theorem dX8_isHome_1 : decode cX8_isHome 1 = .ok (.getfield 33, 3) := by decide +kernel
theorem dX8_isHome_12 : decode cX8_isHome 12 = .ok (.iconst 0, 1) := by decide +kernel
theorem dX8_isHome_13 : decode cX8_isHome 13 = .ok (.ireturn, 1) := by decide +kernel
theorem dX8_isHome_4 : decode cX8_isHome 4 = .ok (.iconst (-1), 1) := by decide +kernel
theorem dX8_isHome_5 : decode cX8_isHome 5 = .ok (.if_icmp .eq 7, 3) := by decide +kernel
theorem dX8_isHome_8 : decode cX8_isHome 8 = .ok (.iconst 1, 1) := by decide +kernel
theorem dX8_isHome_9 : decode cX8_isHome 9 = .ok (.goto 4, 3) := by decide +kernel
theorem dX8_placeBehind_0 : decode cX8_placeBehind 0 = .ok (.iconst 1, 1) := by decide +kernel
theorem dX8_placeBehind_1 : decode cX8_placeBehind 1 = .ok (.istore 4, 2) := by decide +kernel
theorem dX8_placeBehind_10 : decode cX8_placeBehind 10 = .ok (.iload_n 1, 1) := by decide +kernel
theorem dX8_placeBehind_11 : decode cX8_placeBehind 11 = .ok (.iload 4, 2) := by decide +kernel
theorem dX8_placeBehind_13 : decode cX8_placeBehind 13 = .ok (.iadd, 1) := by decide +kernel
theorem dX8_placeBehind_14 : decode cX8_placeBehind 14 = .ok (.iload_n 2, 1) := by decide +kernel
theorem dX8_placeBehind_15 : decode cX8_placeBehind 15 = .ok (.invokevirtual 52, 3) := by decide +kernel
theorem dX8_placeBehind_18 : decode cX8_placeBehind 18 = .ok (.iinc 4 1, 3) := by decide +kernel
theorem dX8_placeBehind_21 : decode cX8_placeBehind 21 = .ok (.goto (-18), 3) := by decide +kernel
theorem dX8_placeBehind_24 : decode cX8_placeBehind 24 = .ok (.aload_n 0, 1) := by decide +kernel
theorem dX8_placeBehind_25 : decode cX8_placeBehind 25 = .ok (.getfield 24, 3) := by decide +kernel
theorem dX8_placeBehind_28 : decode cX8_placeBehind 28 = .ok (.ireturn, 1) := by decide +kernel
theorem dX8_placeBehind_3 : decode cX8_placeBehind 3 = .ok (.iload 4, 2) := by decide +kernel
theorem dX8_placeBehind_5 : decode cX8_placeBehind 5 = .ok (.iload_n 3, 1) := by decide +kernel
theorem dX8_placeBehind_6 : decode cX8_placeBehind 6 = .ok (.if_icmp .gt 18, 3) := by decide +kernel
theorem dX8_placeBehind_9 : decode cX8_placeBehind 9 = .ok (.aload_n 0, 1) := by decide +kernel
theorem dX8_step_0 : decode cX8_step 0 = .ok (.aload_n 0, 1) := by decide +kernel
theorem dX8_step_1 : decode cX8_step 1 = .ok (.invokevirtual 48, 3) := by decide +kernel
theorem dX8_step_100 : decode cX8_step 100 = .ok (.if_icmp .lt 8, 3) := by decide +kernel
theorem dX8_step_103 : decode cX8_step 103 = .ok (.aload_n 0, 1) := by decide +kernel
theorem dX8_step_104 : decode cX8_step 104 = .ok (.iload_n 1, 1) := by decide +kernel
theorem dX8_step_105 : decode cX8_step 105 = .ok (.putfield 33, 3) := by decide +kernel
theorem dX8_step_108 : decode cX8_step 108 = .ok (.return_, 1) := by decide +kernel
theorem dX8_step_12 : decode cX8_step 12 = .ok (.ifCond .le 14, 3) := by decide +kernel
theorem dX8_step_15 : decode cX8_step 15 = .ok (.aload_n 0, 1) := by decide +kernel
theorem dX8_step_16 : decode cX8_step 16 = .ok (.dup, 1) := by decide +kernel
theorem dX8_step_17 : decode cX8_step 17 = .ok (.getfield 30, 3) := by decide +kernel
theorem dX8_step_20 : decode cX8_step 20 = .ok (.iconst 1, 1) := by decide +kernel
theorem dX8_step_21 : decode cX8_step 21 = .ok (.isub, 1) := by decide +kernel
theorem dX8_step_22 : decode cX8_step 22 = .ok (.putfield 30, 3) := by decide +kernel
theorem dX8_step_25 : decode cX8_step 25 = .ok (.return_, 1) := by decide +kernel
theorem dX8_step_26 : decode cX8_step 26 = .ok (.aload_n 0, 1) := by decide +kernel
theorem dX8_step_27 : decode cX8_step 27 = .ok (.getfield 9, 3) := by decide +kernel
theorem dX8_step_30 : decode cX8_step 30 = .ok (.aload_n 0, 1) := by decide +kernel
theorem dX8_step_31 : decode cX8_step 31 = .ok (.getfield 15, 3) := by decide +kernel
theorem dX8_step_34 : decode cX8_step 34 = .ok (.iload_n 1, 1) := by decide +kernel
theorem dX8_step_35 : decode cX8_step 35 = .ok (.aload_n 0, 1) := by decide +kernel
theorem dX8_step_36 : decode cX8_step 36 = .ok (.getfield 21, 3) := by decide +kernel
theorem dX8_step_39 : decode cX8_step 39 = .ok (.invokestatic 36, 3) := by decide +kernel
theorem dX8_step_4 : decode cX8_step 4 = .ok (.ifCond .eq 4, 3) := by decide +kernel
theorem dX8_step_42 : decode cX8_step 42 = .ok (.istore_n 3, 1) := by decide +kernel
theorem dX8_step_43 : decode cX8_step 43 = .ok (.iload_n 3, 1) := by decide +kernel
theorem dX8_step_44 : decode cX8_step 44 = .ok (.aload_n 0, 1) := by decide +kernel
theorem dX8_step_45 : decode cX8_step 45 = .ok (.getfield 18, 3) := by decide +kernel
theorem dX8_step_48 : decode cX8_step 48 = .ok (.iload_n 1, 1) := by decide +kernel
theorem dX8_step_49 : decode cX8_step 49 = .ok (.invokestatic 42, 3) := by decide +kernel
theorem dX8_step_52 : decode cX8_step 52 = .ok (.if_icmp .le 33, 3) := by decide +kernel
theorem dX8_step_55 : decode cX8_step 55 = .ok (.aload_n 0, 1) := by decide +kernel
theorem dX8_step_56 : decode cX8_step 56 = .ok (.aload_n 0, 1) := by decide +kernel
theorem dX8_step_57 : decode cX8_step 57 = .ok (.getfield 27, 3) := by decide +kernel
theorem dX8_step_60 : decode cX8_step 60 = .ok (.bipush 99, 2) := by decide +kernel
theorem dX8_step_62 : decode cX8_step 62 = .ok (.if_icmp .ge 12, 3) := by decide +kernel
theorem dX8_step_65 : decode cX8_step 65 = .ok (.aload_n 0, 1) := by decide +kernel
theorem dX8_step_66 : decode cX8_step 66 = .ok (.getfield 27, 3) := by decide +kernel
theorem dX8_step_69 : decode cX8_step 69 = .ok (.iconst 1, 1) := by decide +kernel
theorem dX8_step_7 : decode cX8_step 7 = .ok (.return_, 1) := by decide +kernel
theorem dX8_step_70 : decode cX8_step 70 = .ok (.iadd, 1) := by decide +kernel
theorem dX8_step_71 : decode cX8_step 71 = .ok (.goto 5, 3) := by decide +kernel
theorem dX8_step_74 : decode cX8_step 74 = .ok (.bipush 99, 2) := by decide +kernel
theorem dX8_step_76 : decode cX8_step 76 = .ok (.putfield 27, 3) := by decide +kernel
theorem dX8_step_79 : decode cX8_step 79 = .ok (.aload_n 0, 1) := by decide +kernel
theorem dX8_step_8 : decode cX8_step 8 = .ok (.aload_n 0, 1) := by decide +kernel
theorem dX8_step_80 : decode cX8_step 80 = .ok (.iconst 2, 1) := by decide +kernel
theorem dX8_step_81 : decode cX8_step 81 = .ok (.putfield 30, 3) := by decide +kernel
theorem dX8_step_84 : decode cX8_step 84 = .ok (.return_, 1) := by decide +kernel
theorem dX8_step_85 : decode cX8_step 85 = .ok (.aload_n 0, 1) := by decide +kernel
theorem dX8_step_86 : decode cX8_step 86 = .ok (.dup, 1) := by decide +kernel
theorem dX8_step_87 : decode cX8_step 87 = .ok (.getfield 24, 3) := by decide +kernel
theorem dX8_step_9 : decode cX8_step 9 = .ok (.getfield 30, 3) := by decide +kernel
theorem dX8_step_90 : decode cX8_step 90 = .ok (.iload_n 3, 1) := by decide +kernel
theorem dX8_step_91 : decode cX8_step 91 = .ok (.iadd, 1) := by decide +kernel
theorem dX8_step_92 : decode cX8_step 92 = .ok (.putfield 24, 3) := by decide +kernel
theorem dX8_step_95 : decode cX8_step 95 = .ok (.aload_n 0, 1) := by decide +kernel
theorem dX8_step_96 : decode cX8_step 96 = .ok (.getfield 24, 3) := by decide +kernel
theorem dX8_step_99 : decode cX8_step 99 = .ok (.iload_n 2, 1) := by decide +kernel
theorem dX8_ticksToHome_0 : decode cX8_ticksToHome 0 = .ok (.aload_n 0, 1) := by decide +kernel
theorem dX8_ticksToHome_1 : decode cX8_ticksToHome 1 = .ok (.invokevirtual 48, 3) := by decide +kernel
theorem dX8_ticksToHome_10 : decode cX8_ticksToHome 10 = .ok (.istore 4, 2) := by decide +kernel
theorem dX8_ticksToHome_12 : decode cX8_ticksToHome 12 = .ok (.iload 4, 2) := by decide +kernel
theorem dX8_ticksToHome_14 : decode cX8_ticksToHome 14 = .ok (.iload_n 3, 1) := by decide +kernel
theorem dX8_ticksToHome_15 : decode cX8_ticksToHome 15 = .ok (.if_icmp .gt 28, 3) := by decide +kernel
theorem dX8_ticksToHome_18 : decode cX8_ticksToHome 18 = .ok (.aload_n 0, 1) := by decide +kernel
theorem dX8_ticksToHome_19 : decode cX8_ticksToHome 19 = .ok (.iload_n 1, 1) := by decide +kernel
theorem dX8_ticksToHome_20 : decode cX8_ticksToHome 20 = .ok (.iload 4, 2) := by decide +kernel
theorem dX8_ticksToHome_22 : decode cX8_ticksToHome 22 = .ok (.iadd, 1) := by decide +kernel
theorem dX8_ticksToHome_23 : decode cX8_ticksToHome 23 = .ok (.iload_n 2, 1) := by decide +kernel
theorem dX8_ticksToHome_24 : decode cX8_ticksToHome 24 = .ok (.invokevirtual 52, 3) := by decide +kernel
theorem dX8_ticksToHome_27 : decode cX8_ticksToHome 27 = .ok (.aload_n 0, 1) := by decide +kernel
theorem dX8_ticksToHome_28 : decode cX8_ticksToHome 28 = .ok (.invokevirtual 48, 3) := by decide +kernel
theorem dX8_ticksToHome_31 : decode cX8_ticksToHome 31 = .ok (.ifCond .eq 6, 3) := by decide +kernel
theorem dX8_ticksToHome_34 : decode cX8_ticksToHome 34 = .ok (.iload 4, 2) := by decide +kernel
theorem dX8_ticksToHome_36 : decode cX8_ticksToHome 36 = .ok (.ireturn, 1) := by decide +kernel
theorem dX8_ticksToHome_37 : decode cX8_ticksToHome 37 = .ok (.iinc 4 1, 3) := by decide +kernel
theorem dX8_ticksToHome_4 : decode cX8_ticksToHome 4 = .ok (.ifCond .eq 5, 3) := by decide +kernel
theorem dX8_ticksToHome_40 : decode cX8_ticksToHome 40 = .ok (.goto (-28), 3) := by decide +kernel
theorem dX8_ticksToHome_43 : decode cX8_ticksToHome 43 = .ok (.iconst (-1), 1) := by decide +kernel
theorem dX8_ticksToHome_44 : decode cX8_ticksToHome 44 = .ok (.ireturn, 1) := by decide +kernel
theorem dX8_ticksToHome_7 : decode cX8_ticksToHome 7 = .ok (.iconst 0, 1) := by decide +kernel
theorem dX8_ticksToHome_8 : decode cX8_ticksToHome 8 = .ok (.ireturn, 1) := by decide +kernel
theorem dX8_ticksToHome_9 : decode cX8_ticksToHome 9 = .ok (.iconst 1, 1) := by decide +kernel
