set_option maxRecDepth 20000 in
theorem ggX10_is_X10_refuse : GoodIn wsX10_is wsX10_refuse := goodIn_r _ [29, 30, 31, 32, 33, 34, 35, 36, 37, 38, 39, 40, 41, 42, 43, 44] rfl (by decide +kernel)
set_option maxRecDepth 20000 in
theorem gX10_is_X10_refuse : GoodIn wsX10_is (wsV RX10 83 RX10 yX10_refuse wsX10_refuse) := goodIn_app (goodIn_of _ (by decide +kernel)) ggX10_is_X10_refuse
set_option maxRecDepth 20000 in
theorem ggX10_is_X10_there : GoodIn wsX10_is wsX10_there := goodIn_r _ [6, 1, 7, 31, 32, 33, 34, 35, 36, 37, 38, 39, 40, 41, 42, 43, 44, 45, 46, 47, 48, 49, 50, 51, 52] rfl (by decide +kernel)
set_option maxRecDepth 20000 in
theorem gX10_is_X10_there : GoodIn wsX10_is (wsV RX10 123 RX10 yX10_there wsX10_there) := goodIn_app (goodIn_of _ (by decide +kernel)) ggX10_is_X10_there
set_option maxRecDepth 20000 in
theorem ggX10_is_X5_kindsThatFit : GoodIn wsX10_is wsX5_kindsThatFit := goodIn_r _ [12, 13, 14, 15, 16, 17, 18, 19, 20, 21, 22, 23, 24, 25, 45, 46, 47, 48, 49, 50, 51, 52, 53, 54, 55, 56, 57] rfl (by decide +kernel)
set_option maxRecDepth 20000 in
theorem gX10_is_X5_kindsThatFit : GoodIn wsX10_is (wsV RX10 218 RX5 yX5_kindsThatFit wsX5_kindsThatFit) := goodIn_app (goodIn_of _ (by decide +kernel)) ggX10_is_X5_kindsThatFit
set_option maxRecDepth 20000 in
theorem ggX10_kinds_X10_refuse : GoodIn wsX10_kinds wsX10_refuse := goodIn_r _ [28, 29, 30, 31, 32, 33, 34, 35, 36, 37, 38, 39, 40, 41, 42, 43] rfl (by decide +kernel)
set_option maxRecDepth 20000 in
theorem gX10_kinds_X10_refuse : GoodIn wsX10_kinds (wsV RX10 83 RX10 yX10_refuse wsX10_refuse) := goodIn_app (goodIn_of _ (by decide +kernel)) ggX10_kinds_X10_refuse
set_option maxRecDepth 20000 in
theorem ggX10_kinds_X10_there : GoodIn wsX10_kinds wsX10_there := goodIn_r _ [6, 1, 7, 30, 31, 32, 33, 34, 35, 36, 37, 38, 39, 40, 41, 42, 43, 44, 45, 46, 47, 48, 49, 50, 51] rfl (by decide +kernel)
set_option maxRecDepth 20000 in
theorem gX10_kinds_X10_there : GoodIn wsX10_kinds (wsV RX10 123 RX10 yX10_there wsX10_there) := goodIn_app (goodIn_of _ (by decide +kernel)) ggX10_kinds_X10_there
set_option maxRecDepth 20000 in
theorem ggX10_kinds_X5_eggsThatFit : GoodIn wsX10_kinds wsX5_eggsThatFit := goodIn_r _ [12, 13, 14, 15, 16, 17, 18, 19, 20, 21, 22, 23, 24, 44, 45, 46, 47, 48, 49, 50, 51, 52, 53, 54, 55, 56] rfl (by decide +kernel)
set_option maxRecDepth 20000 in
theorem gX10_kinds_X5_eggsThatFit : GoodIn wsX10_kinds (wsV RX10 221 RX5 yX5_eggsThatFit wsX5_eggsThatFit) := goodIn_app (goodIn_of _ (by decide +kernel)) ggX10_kinds_X5_eggsThatFit
set_option maxRecDepth 20000 in
theorem ggX10_read_X6_takeRace : GoodIn wsX10_read wsX6_takeRace := goodIn_r _ [8, 9, 10, 11, 12, 13, 14, 7, 15, 16, 17, 18, 19, 20, 21, 22, 23, 24, 25, 26, 27, 28, 29, 30, 31, 32, 33, 34, 35, 36, 37, 38, 39, 40, 41, 42, 43, 44, 45, 46, 47, 48, 49, 50, 51, 52, 53, 54, 55, 56, 57, 58, 59, 60, 61, 62, 63, 64, 65, 66, 67, 68, 69, 70, 71, 72, 73, 74, 75, 76, 77, 78, 79, 80, 81, 82, 83, 84, 85, 86, 87, 88, 89, 90, 91, 92, 93, 94, 95, 96, 97, 98, 99, 100, 101, 102, 103, 104, 105, 106, 107, 108, 109, 110, 111, 112, 113, 114, 115, 116, 117, 118, 119, 120, 121, 122, 123, 124, 125, 126, 127, 128, 129, 130, 131, 132, 133, 134, 135, 136, 137, 138, 139, 140, 141, 142, 143, 144, 145, 146, 147, 148, 149, 150, 151, 152, 153, 154, 155, 156, 157, 158, 159, 160, 161, 162, 163, 164, 165, 166, 167, 168, 169, 170, 171, 172, 173, 174, 175, 176, 177, 178, 179, 180, 181, 182, 183, 184, 199, 200, 201, 202, 203, 204, 205, 206, 207, 208, 209, 210, 211, 212, 213, 214, 215, 216, 217, 218, 219, 220, 221, 222, 223, 224, 225, 226, 227, 228] rfl (by decide +kernel)
set_option maxRecDepth 20000 in
theorem gX10_read_X6_takeRace : GoodIn wsX10_read (wsV RX10 106 RX6 yX6_takeRace wsX6_takeRace) := goodIn_app (goodIn_of _ (by decide +kernel)) ggX10_read_X6_takeRace
set_option maxRecDepth 20000 in
theorem ggX5_eggsThatFit_X7_fitEgg : GoodIn wsX5_eggsThatFit wsX7_fitEgg := goodIn_r _ [6, 7, 8, 9, 10, 11, 12, 21, 22, 23, 24, 25] rfl (by decide +kernel)
set_option maxRecDepth 20000 in
theorem gX5_eggsThatFit_X7_fitEgg : GoodIn wsX5_eggsThatFit (wsV RX5 101 RX7 yX7_fitEgg wsX7_fitEgg) := goodIn_app (goodIn_of _ (by decide +kernel)) ggX5_eggsThatFit_X7_fitEgg
set_option maxRecDepth 20000 in
theorem ggX5_kindsThatFit_X7_fitRunner : GoodIn wsX5_kindsThatFit wsX7_fitRunner := goodIn_r _ [6, 7, 8, 9, 10, 11, 12, 13, 22, 23, 24, 25, 26] rfl (by decide +kernel)
set_option maxRecDepth 20000 in
theorem gX5_kindsThatFit_X7_fitRunner : GoodIn wsX5_kindsThatFit (wsV RX5 97 RX7 yX7_fitRunner wsX7_fitRunner) := goodIn_app (goodIn_of _ (by decide +kernel)) ggX5_kindsThatFit_X7_fitRunner
set_option maxRecDepth 20000 in
theorem ggX5_legsThatFit_X7_fitRunner : GoodIn wsX5_legsThatFit wsX7_fitRunner := goodIn_r _ [8, 9, 10, 11, 12, 13, 14, 15, 32, 33, 34, 35, 36] rfl (by decide +kernel)
set_option maxRecDepth 20000 in
theorem gX5_legsThatFit_X7_fitRunner : GoodIn wsX5_legsThatFit (wsV RX5 97 RX7 yX7_fitRunner wsX7_fitRunner) := goodIn_app (goodIn_of _ (by decide +kernel)) ggX5_legsThatFit_X7_fitRunner
set_option maxRecDepth 20000 in
theorem ggX6_takeRace_X6_skipBlanks : GoodIn wsX6_takeRace wsX6_skipBlanks := goodIn_r _ [20, 1, 3, 16, 178, 179, 180, 181, 182, 183, 184] rfl (by decide +kernel)
set_option maxRecDepth 20000 in
theorem gX6_takeRace_X6_skipBlanks : GoodIn wsX6_takeRace (wsV RX6 38 RX6 yX6_skipBlanks wsX6_skipBlanks) := goodIn_app (goodIn_of _ (by decide +kernel)) ggX6_takeRace_X6_skipBlanks
set_option maxRecDepth 20000 in
theorem ggX6_takeRace_X6_takeItem : GoodIn wsX6_takeRace wsX6_takeItem := goodIn_r _ [8, 9, 10, 2, 11, 12, 13, 14, 7, 15, 1, 3, 16, 17, 18, 19, 20, 21, 22, 23, 24, 25, 26, 27, 28, 29, 30, 31, 32, 33, 34, 35, 36, 37, 38, 39, 40, 41, 42, 43, 44, 45, 46, 47, 48, 49, 50, 51, 52, 53, 54, 55, 56, 57, 58, 59, 60, 61, 62, 63, 64, 65, 66, 67, 68, 69, 70, 71, 72, 73, 74, 75, 76, 77, 78, 79, 80, 81, 82, 83, 84, 85, 86, 87, 88, 89, 90, 91, 92, 93, 94, 95, 96, 97, 98, 99, 100, 101, 102, 103, 104, 105, 106, 107, 108, 109, 110, 111, 112, 113, 114, 115, 116, 117, 118, 119, 120, 121, 122, 123, 124, 125, 126, 127, 128, 129, 130, 131, 132, 133, 134, 135, 136, 137, 138, 139, 140, 141, 142, 143, 144, 145, 146, 147, 148, 149, 150, 151, 152, 153, 154, 155, 156, 157, 158, 159, 160, 161, 162, 163, 164, 165, 166, 167, 168, 169, 170, 171, 172, 173, 174, 175, 176, 177, 178, 179, 180, 181, 182, 183, 184, 185, 186, 187, 188, 189, 190, 191, 192, 193, 194, 195, 196, 197, 198, 199, 200, 201, 202, 203, 204, 205, 206, 207] rfl (by decide +kernel)
set_option maxRecDepth 20000 in
theorem gX6_takeRace_X6_takeItem : GoodIn wsX6_takeRace (wsV RX6 34 RX6 yX6_takeItem wsX6_takeItem) := goodIn_app (goodIn_of _ (by decide +kernel)) ggX6_takeRace_X6_takeItem
set_option maxRecDepth 20000 in
theorem ggX7_fitEgg_X1_limit : GoodIn wsX7_fitEgg wsX1_limit := goodIn_r _ [6] rfl (by decide +kernel)
set_option maxRecDepth 20000 in
theorem gX7_fitEgg_X1_limit : GoodIn wsX7_fitEgg (va_wsS RX7 45 yX1_limit wsX1_limit) := goodIn_app (goodIn_of _ (by decide +kernel)) ggX7_fitEgg_X1_limit
set_option maxRecDepth 20000 in
theorem ggX7_fitRunner_X2_reach : GoodIn wsX7_fitRunner wsX2_reach := goodIn_r _ [7] rfl (by decide +kernel)
set_option maxRecDepth 20000 in
theorem gX7_fitRunner_X2_reach : GoodIn wsX7_fitRunner (va_wsS RX7 39 yX2_reach wsX2_reach) := goodIn_app (goodIn_of _ (by decide +kernel)) ggX7_fitRunner_X2_reach
theorem dX10_is_0 : decode cX10_is 0 = .ok (.aload_n 0, 1) := by decide +kernel
theorem dX10_is_1 : decode cX10_is 1 = .ok (.iload_n 1, 1) := by decide +kernel
theorem dX10_is_12 : decode cX10_is 12 = .ok (.iload_n 1, 1) := by decide +kernel
theorem dX10_is_13 : decode cX10_is 13 = .ok (.invokevirtual 218, 3) := by decide +kernel
theorem dX10_is_16 : decode cX10_is 16 = .ok (.goto 9, 3) := by decide +kernel
theorem dX10_is_19 : decode cX10_is 19 = .ok (.aload_n 0, 1) := by decide +kernel
theorem dX10_is_2 : decode cX10_is 2 = .ok (.invokevirtual 123, 3) := by decide +kernel
theorem dX10_is_20 : decode cX10_is 20 = .ok (.bipush (-2), 2) := by decide +kernel
theorem dX10_is_22 : decode cX10_is 22 = .ok (.invokevirtual 83, 3) := by decide +kernel
theorem dX10_is_25 : decode cX10_is 25 = .ok (.ireturn, 1) := by decide +kernel
theorem dX10_is_5 : decode cX10_is 5 = .ok (.ifCond .eq 14, 3) := by decide +kernel
theorem dX10_is_8 : decode cX10_is 8 = .ok (.aload_n 0, 1) := by decide +kernel
theorem dX10_is_9 : decode cX10_is 9 = .ok (.getfield 10, 3) := by decide +kernel
theorem dX10_kinds_0 : decode cX10_kinds 0 = .ok (.aload_n 0, 1) := by decide +kernel
theorem dX10_kinds_1 : decode cX10_kinds 1 = .ok (.iload_n 1, 1) := by decide +kernel
theorem dX10_kinds_12 : decode cX10_kinds 12 = .ok (.iload_n 1, 1) := by decide +kernel
theorem dX10_kinds_13 : decode cX10_kinds 13 = .ok (.invokevirtual 221, 3) := by decide +kernel
theorem dX10_kinds_16 : decode cX10_kinds 16 = .ok (.goto 9, 3) := by decide +kernel
theorem dX10_kinds_19 : decode cX10_kinds 19 = .ok (.aload_n 0, 1) := by decide +kernel
theorem dX10_kinds_2 : decode cX10_kinds 2 = .ok (.invokevirtual 123, 3) := by decide +kernel
theorem dX10_kinds_20 : decode cX10_kinds 20 = .ok (.bipush (-2), 2) := by decide +kernel
theorem dX10_kinds_22 : decode cX10_kinds 22 = .ok (.invokevirtual 83, 3) := by decide +kernel
theorem dX10_kinds_25 : decode cX10_kinds 25 = .ok (.ireturn, 1) := by decide +kernel
theorem dX10_kinds_5 : decode cX10_kinds 5 = .ok (.ifCond .eq 14, 3) := by decide +kernel
theorem dX10_kinds_8 : decode cX10_kinds 8 = .ok (.aload_n 0, 1) := by decide +kernel
theorem dX10_kinds_9 : decode cX10_kinds 9 = .ok (.getfield 10, 3) := by decide +kernel
theorem dX10_read_0 : decode cX10_read 0 = .ok (.aload_n 0, 1) := by decide +kernel
theorem dX10_read_1 : decode cX10_read 1 = .ok (.getfield 30, 3) := by decide +kernel
theorem dX10_read_11 : decode cX10_read 11 = .ok (.istore_n 1, 1) := by decide +kernel
theorem dX10_read_12 : decode cX10_read 12 = .ok (.iload_n 1, 1) := by decide +kernel
theorem dX10_read_13 : decode cX10_read 13 = .ok (.ifCond .lt 21, 3) := by decide +kernel
theorem dX10_read_16 : decode cX10_read 16 = .ok (.aload_n 0, 1) := by decide +kernel
theorem dX10_read_17 : decode cX10_read 17 = .ok (.getfield 10, 3) := by decide +kernel
theorem dX10_read_20 : decode cX10_read 20 = .ok (.astore_n 2, 1) := by decide +kernel
theorem dX10_read_21 : decode cX10_read 21 = .ok (.aload_n 0, 1) := by decide +kernel
theorem dX10_read_22 : decode cX10_read 22 = .ok (.aload_n 0, 1) := by decide +kernel
theorem dX10_read_23 : decode cX10_read 23 = .ok (.getfield 16, 3) := by decide +kernel
theorem dX10_read_26 : decode cX10_read 26 = .ok (.putfield 10, 3) := by decide +kernel
theorem dX10_read_29 : decode cX10_read 29 = .ok (.aload_n 0, 1) := by decide +kernel
theorem dX10_read_30 : decode cX10_read 30 = .ok (.aload_n 2, 1) := by decide +kernel
theorem dX10_read_31 : decode cX10_read 31 = .ok (.putfield 16, 3) := by decide +kernel
theorem dX10_read_34 : decode cX10_read 34 = .ok (.iload_n 1, 1) := by decide +kernel
theorem dX10_read_35 : decode cX10_read 35 = .ok (.ireturn, 1) := by decide +kernel
theorem dX10_read_4 : decode cX10_read 4 = .ok (.aload_n 0, 1) := by decide +kernel
theorem dX10_read_5 : decode cX10_read 5 = .ok (.getfield 16, 3) := by decide +kernel
theorem dX10_read_8 : decode cX10_read 8 = .ok (.invokevirtual 106, 3) := by decide +kernel
theorem dX5_eggsThatFit_0 : decode cX5_eggsThatFit 0 = .ok (.iconst 0, 1) := by decide +kernel
theorem dX5_eggsThatFit_1 : decode cX5_eggsThatFit 1 = .ok (.istore_n 2, 1) := by decide +kernel
theorem dX5_eggsThatFit_10 : decode cX5_eggsThatFit 10 = .ok (.iload_n 2, 1) := by decide +kernel
theorem dX5_eggsThatFit_11 : decode cX5_eggsThatFit 11 = .ok (.aload_n 0, 1) := by decide +kernel
theorem dX5_eggsThatFit_12 : decode cX5_eggsThatFit 12 = .ok (.getfield 46, 3) := by decide +kernel
theorem dX5_eggsThatFit_15 : decode cX5_eggsThatFit 15 = .ok (.iload_n 1, 1) := by decide +kernel
theorem dX5_eggsThatFit_16 : decode cX5_eggsThatFit 16 = .ok (.iload_n 3, 1) := by decide +kernel
theorem dX5_eggsThatFit_17 : decode cX5_eggsThatFit 17 = .ok (.invokevirtual 101, 3) := by decide +kernel
theorem dX5_eggsThatFit_2 : decode cX5_eggsThatFit 2 = .ok (.iconst 0, 1) := by decide +kernel
theorem dX5_eggsThatFit_20 : decode cX5_eggsThatFit 20 = .ok (.ifCond .eq 9, 3) := by decide +kernel
theorem dX5_eggsThatFit_23 : decode cX5_eggsThatFit 23 = .ok (.iconst 1, 1) := by decide +kernel
theorem dX5_eggsThatFit_24 : decode cX5_eggsThatFit 24 = .ok (.iload_n 3, 1) := by decide +kernel
theorem dX5_eggsThatFit_25 : decode cX5_eggsThatFit 25 = .ok (.ishl, 1) := by decide +kernel
theorem dX5_eggsThatFit_26 : decode cX5_eggsThatFit 26 = .ok (.goto 4, 3) := by decide +kernel
theorem dX5_eggsThatFit_29 : decode cX5_eggsThatFit 29 = .ok (.iconst 0, 1) := by decide +kernel
theorem dX5_eggsThatFit_3 : decode cX5_eggsThatFit 3 = .ok (.istore_n 3, 1) := by decide +kernel
theorem dX5_eggsThatFit_30 : decode cX5_eggsThatFit 30 = .ok (.ior, 1) := by decide +kernel
theorem dX5_eggsThatFit_31 : decode cX5_eggsThatFit 31 = .ok (.istore_n 2, 1) := by decide +kernel
theorem dX5_eggsThatFit_32 : decode cX5_eggsThatFit 32 = .ok (.iinc 3 1, 3) := by decide +kernel
theorem dX5_eggsThatFit_35 : decode cX5_eggsThatFit 35 = .ok (.goto (-31), 3) := by decide +kernel
theorem dX5_eggsThatFit_38 : decode cX5_eggsThatFit 38 = .ok (.iload_n 2, 1) := by decide +kernel
theorem dX5_eggsThatFit_39 : decode cX5_eggsThatFit 39 = .ok (.ireturn, 1) := by decide +kernel
theorem dX5_eggsThatFit_4 : decode cX5_eggsThatFit 4 = .ok (.iload_n 3, 1) := by decide +kernel
theorem dX5_eggsThatFit_5 : decode cX5_eggsThatFit 5 = .ok (.bipush 6, 2) := by decide +kernel
theorem dX5_eggsThatFit_7 : decode cX5_eggsThatFit 7 = .ok (.if_icmp .ge 31, 3) := by decide +kernel
theorem dX5_kindsThatFit_0 : decode cX5_kindsThatFit 0 = .ok (.iconst 0, 1) := by decide +kernel
theorem dX5_kindsThatFit_1 : decode cX5_kindsThatFit 1 = .ok (.istore_n 2, 1) := by decide +kernel
theorem dX5_kindsThatFit_10 : decode cX5_kindsThatFit 10 = .ok (.iload_n 2, 1) := by decide +kernel
theorem dX5_kindsThatFit_11 : decode cX5_kindsThatFit 11 = .ok (.aload_n 0, 1) := by decide +kernel
theorem dX5_kindsThatFit_12 : decode cX5_kindsThatFit 12 = .ok (.getfield 43, 3) := by decide +kernel
theorem dX5_kindsThatFit_15 : decode cX5_kindsThatFit 15 = .ok (.iload_n 1, 1) := by decide +kernel
theorem dX5_kindsThatFit_16 : decode cX5_kindsThatFit 16 = .ok (.iload_n 3, 1) := by decide +kernel
theorem dX5_kindsThatFit_17 : decode cX5_kindsThatFit 17 = .ok (.iconst 0, 1) := by decide +kernel
theorem dX5_kindsThatFit_18 : decode cX5_kindsThatFit 18 = .ok (.invokevirtual 97, 3) := by decide +kernel
theorem dX5_kindsThatFit_2 : decode cX5_kindsThatFit 2 = .ok (.iconst 0, 1) := by decide +kernel
theorem dX5_kindsThatFit_21 : decode cX5_kindsThatFit 21 = .ok (.ifCond .eq 9, 3) := by decide +kernel
theorem dX5_kindsThatFit_24 : decode cX5_kindsThatFit 24 = .ok (.iconst 1, 1) := by decide +kernel
theorem dX5_kindsThatFit_25 : decode cX5_kindsThatFit 25 = .ok (.iload_n 3, 1) := by decide +kernel
theorem dX5_kindsThatFit_26 : decode cX5_kindsThatFit 26 = .ok (.ishl, 1) := by decide +kernel
theorem dX5_kindsThatFit_27 : decode cX5_kindsThatFit 27 = .ok (.goto 4, 3) := by decide +kernel
theorem dX5_kindsThatFit_3 : decode cX5_kindsThatFit 3 = .ok (.istore_n 3, 1) := by decide +kernel
theorem dX5_kindsThatFit_30 : decode cX5_kindsThatFit 30 = .ok (.iconst 0, 1) := by decide +kernel
theorem dX5_kindsThatFit_31 : decode cX5_kindsThatFit 31 = .ok (.ior, 1) := by decide +kernel
theorem dX5_kindsThatFit_32 : decode cX5_kindsThatFit 32 = .ok (.istore_n 2, 1) := by decide +kernel
theorem dX5_kindsThatFit_33 : decode cX5_kindsThatFit 33 = .ok (.iinc 3 1, 3) := by decide +kernel
theorem dX5_kindsThatFit_36 : decode cX5_kindsThatFit 36 = .ok (.goto (-32), 3) := by decide +kernel
theorem dX5_kindsThatFit_39 : decode cX5_kindsThatFit 39 = .ok (.iload_n 2, 1) := by decide +kernel
theorem dX5_kindsThatFit_4 : decode cX5_kindsThatFit 4 = .ok (.iload_n 3, 1) := by decide +kernel
theorem dX5_kindsThatFit_40 : decode cX5_kindsThatFit 40 = .ok (.ireturn, 1) := by decide +kernel
theorem dX5_kindsThatFit_5 : decode cX5_kindsThatFit 5 = .ok (.bipush 6, 2) := by decide +kernel
theorem dX5_kindsThatFit_7 : decode cX5_kindsThatFit 7 = .ok (.if_icmp .ge 32, 3) := by decide +kernel
theorem dX5_legsThatFit_0 : decode cX5_legsThatFit 0 = .ok (.iconst 0, 1) := by decide +kernel
theorem dX5_legsThatFit_1 : decode cX5_legsThatFit 1 = .ok (.istore_n 2, 1) := by decide +kernel
theorem dX5_legsThatFit_10 : decode cX5_legsThatFit 10 = .ok (.iload_n 2, 1) := by decide +kernel
theorem dX5_legsThatFit_11 : decode cX5_legsThatFit 11 = .ok (.aload_n 0, 1) := by decide +kernel
theorem dX5_legsThatFit_12 : decode cX5_legsThatFit 12 = .ok (.getfield 39, 3) := by decide +kernel
theorem dX5_legsThatFit_15 : decode cX5_legsThatFit 15 = .ok (.iload_n 1, 1) := by decide +kernel
theorem dX5_legsThatFit_16 : decode cX5_legsThatFit 16 = .ok (.aload_n 0, 1) := by decide +kernel
theorem dX5_legsThatFit_17 : decode cX5_legsThatFit 17 = .ok (.getfield 23, 3) := by decide +kernel
theorem dX5_legsThatFit_2 : decode cX5_legsThatFit 2 = .ok (.iconst 1, 1) := by decide +kernel
theorem dX5_legsThatFit_20 : decode cX5_legsThatFit 20 = .ok (.iload_n 1, 1) := by decide +kernel
theorem dX5_legsThatFit_21 : decode cX5_legsThatFit 21 = .ok (.aaload, 1) := by decide +kernel
theorem dX5_legsThatFit_22 : decode cX5_legsThatFit 22 = .ok (.getfield 94, 3) := by decide +kernel
theorem dX5_legsThatFit_25 : decode cX5_legsThatFit 25 = .ok (.iload_n 3, 1) := by decide +kernel
theorem dX5_legsThatFit_26 : decode cX5_legsThatFit 26 = .ok (.invokevirtual 97, 3) := by decide +kernel
theorem dX5_legsThatFit_29 : decode cX5_legsThatFit 29 = .ok (.ifCond .eq 9, 3) := by decide +kernel
theorem dX5_legsThatFit_3 : decode cX5_legsThatFit 3 = .ok (.istore_n 3, 1) := by decide +kernel
theorem dX5_legsThatFit_32 : decode cX5_legsThatFit 32 = .ok (.iconst 1, 1) := by decide +kernel
theorem dX5_legsThatFit_33 : decode cX5_legsThatFit 33 = .ok (.iload_n 3, 1) := by decide +kernel
theorem dX5_legsThatFit_34 : decode cX5_legsThatFit 34 = .ok (.ishl, 1) := by decide +kernel
theorem dX5_legsThatFit_35 : decode cX5_legsThatFit 35 = .ok (.goto 4, 3) := by decide +kernel
theorem dX5_legsThatFit_38 : decode cX5_legsThatFit 38 = .ok (.iconst 0, 1) := by decide +kernel
theorem dX5_legsThatFit_39 : decode cX5_legsThatFit 39 = .ok (.ior, 1) := by decide +kernel
theorem dX5_legsThatFit_4 : decode cX5_legsThatFit 4 = .ok (.iload_n 3, 1) := by decide +kernel
theorem dX5_legsThatFit_40 : decode cX5_legsThatFit 40 = .ok (.istore_n 2, 1) := by decide +kernel
theorem dX5_legsThatFit_41 : decode cX5_legsThatFit 41 = .ok (.iinc 3 1, 3) := by decide +kernel
theorem dX5_legsThatFit_44 : decode cX5_legsThatFit 44 = .ok (.goto (-40), 3) := by decide +kernel
theorem dX5_legsThatFit_47 : decode cX5_legsThatFit 47 = .ok (.iload_n 2, 1) := by decide +kernel
theorem dX5_legsThatFit_48 : decode cX5_legsThatFit 48 = .ok (.ireturn, 1) := by decide +kernel
theorem dX5_legsThatFit_5 : decode cX5_legsThatFit 5 = .ok (.bipush 9, 2) := by decide +kernel
theorem dX5_legsThatFit_7 : decode cX5_legsThatFit 7 = .ok (.if_icmp .gt 40, 3) := by decide +kernel
theorem dX6_takeRace_0 : decode cX6_takeRace 0 = .ok (.aload_n 0, 1) := by decide +kernel
theorem dX6_takeRace_1 : decode cX6_takeRace 1 = .ok (.iconst 0, 1) := by decide +kernel
theorem dX6_takeRace_10 : decode cX6_takeRace 10 = .ok (.iconst 0, 1) := by decide +kernel
theorem dX6_takeRace_11 : decode cX6_takeRace 11 = .ok (.istore_n 2, 1) := by decide +kernel
theorem dX6_takeRace_12 : decode cX6_takeRace 12 = .ok (.aload_n 0, 1) := by decide +kernel
theorem dX6_takeRace_13 : decode cX6_takeRace 13 = .ok (.aload_n 1, 1) := by decide +kernel
theorem dX6_takeRace_14 : decode cX6_takeRace 14 = .ok (.iload_n 2, 1) := by decide +kernel
theorem dX6_takeRace_15 : decode cX6_takeRace 15 = .ok (.ifCond .ne 7, 3) := by decide +kernel
theorem dX6_takeRace_18 : decode cX6_takeRace 18 = .ok (.iconst 1, 1) := by decide +kernel
theorem dX6_takeRace_19 : decode cX6_takeRace 19 = .ok (.goto 4, 3) := by decide +kernel
theorem dX6_takeRace_2 : decode cX6_takeRace 2 = .ok (.putfield 19, 3) := by decide +kernel
theorem dX6_takeRace_22 : decode cX6_takeRace 22 = .ok (.iconst 0, 1) := by decide +kernel
theorem dX6_takeRace_23 : decode cX6_takeRace 23 = .ok (.invokevirtual 34, 3) := by decide +kernel
theorem dX6_takeRace_26 : decode cX6_takeRace 26 = .ok (.iinc 2 1, 3) := by decide +kernel
theorem dX6_takeRace_29 : decode cX6_takeRace 29 = .ok (.aload_n 0, 1) := by decide +kernel
theorem dX6_takeRace_30 : decode cX6_takeRace 30 = .ok (.invokevirtual 38, 3) := by decide +kernel
theorem dX6_takeRace_33 : decode cX6_takeRace 33 = .ok (.aload_n 0, 1) := by decide +kernel
theorem dX6_takeRace_34 : decode cX6_takeRace 34 = .ok (.getfield 31, 3) := by decide +kernel
theorem dX6_takeRace_37 : decode cX6_takeRace 37 = .ok (.iconst (-1), 1) := by decide +kernel
theorem dX6_takeRace_38 : decode cX6_takeRace 38 = .ok (.if_icmp .ne 21, 3) := by decide +kernel
theorem dX6_takeRace_41 : decode cX6_takeRace 41 = .ok (.aload_n 0, 1) := by decide +kernel
theorem dX6_takeRace_42 : decode cX6_takeRace 42 = .ok (.getfield 19, 3) := by decide +kernel
theorem dX6_takeRace_45 : decode cX6_takeRace 45 = .ok (.aload_n 0, 1) := by decide +kernel
theorem dX6_takeRace_46 : decode cX6_takeRace 46 = .ok (.getfield 15, 3) := by decide +kernel
theorem dX6_takeRace_49 : decode cX6_takeRace 49 = .ok (.if_icmp .ge 10, 3) := by decide +kernel
theorem dX6_takeRace_5 : decode cX6_takeRace 5 = .ok (.aload_n 0, 1) := by decide +kernel
theorem dX6_takeRace_52 : decode cX6_takeRace 52 = .ok (.iload_n 2, 1) := by decide +kernel
theorem dX6_takeRace_53 : decode cX6_takeRace 53 = .ok (.sipush 150, 3) := by decide +kernel
theorem dX6_takeRace_56 : decode cX6_takeRace 56 = .ok (.if_icmp .lt (-44), 3) := by decide +kernel
theorem dX6_takeRace_59 : decode cX6_takeRace 59 = .ok (.aload_n 0, 1) := by decide +kernel
theorem dX6_takeRace_6 : decode cX6_takeRace 6 = .ok (.iconst (-1), 1) := by decide +kernel
theorem dX6_takeRace_60 : decode cX6_takeRace 60 = .ok (.getfield 31, 3) := by decide +kernel
theorem dX6_takeRace_63 : decode cX6_takeRace 63 = .ok (.iconst (-1), 1) := by decide +kernel
theorem dX6_takeRace_64 : decode cX6_takeRace 64 = .ok (.if_icmp .ne 7, 3) := by decide +kernel
theorem dX6_takeRace_67 : decode cX6_takeRace 67 = .ok (.iload_n 2, 1) := by decide +kernel
theorem dX6_takeRace_68 : decode cX6_takeRace 68 = .ok (.goto 10, 3) := by decide +kernel
theorem dX6_takeRace_7 : decode cX6_takeRace 7 = .ok (.putfield 31, 3) := by decide +kernel
theorem dX6_takeRace_71 : decode cX6_takeRace 71 = .ok (.bipush (-10), 2) := by decide +kernel
theorem dX6_takeRace_73 : decode cX6_takeRace 73 = .ok (.aload_n 0, 1) := by decide +kernel
theorem dX6_takeRace_74 : decode cX6_takeRace 74 = .ok (.getfield 31, 3) := by decide +kernel
theorem dX6_takeRace_77 : decode cX6_takeRace 77 = .ok (.isub, 1) := by decide +kernel
theorem dX6_takeRace_78 : decode cX6_takeRace 78 = .ok (.ireturn, 1) := by decide +kernel
theorem dX7_append_0 : decode cX7_append 0 = .ok (.aload_n 0, 1) := by decide +kernel
theorem dX7_append_1 : decode cX7_append 1 = .ok (.getfield 7, 3) := by decide +kernel
theorem dX7_append_11 : decode cX7_append 11 = .ok (.iconst 0, 1) := by decide +kernel
theorem dX7_append_12 : decode cX7_append 12 = .ok (.ireturn, 1) := by decide +kernel
theorem dX7_append_13 : decode cX7_append 13 = .ok (.aload_n 0, 1) := by decide +kernel
theorem dX7_append_14 : decode cX7_append 14 = .ok (.getfield 7, 3) := by decide +kernel
theorem dX7_append_17 : decode cX7_append 17 = .ok (.iconst 5, 1) := by decide +kernel
theorem dX7_append_18 : decode cX7_append 18 = .ok (.imul, 1) := by decide +kernel
theorem dX7_append_19 : decode cX7_append 19 = .ok (.istore 6, 2) := by decide +kernel
theorem dX7_append_21 : decode cX7_append 21 = .ok (.aload_n 0, 1) := by decide +kernel
theorem dX7_append_22 : decode cX7_append 22 = .ok (.getfield 23, 3) := by decide +kernel
theorem dX7_append_25 : decode cX7_append 25 = .ok (.iload 6, 2) := by decide +kernel
theorem dX7_append_27 : decode cX7_append 27 = .ok (.iconst 0, 1) := by decide +kernel
theorem dX7_append_28 : decode cX7_append 28 = .ok (.iadd, 1) := by decide +kernel
theorem dX7_append_29 : decode cX7_append 29 = .ok (.iload_n 1, 1) := by decide +kernel
theorem dX7_append_30 : decode cX7_append 30 = .ok (.iastore, 1) := by decide +kernel
theorem dX7_append_31 : decode cX7_append 31 = .ok (.aload_n 0, 1) := by decide +kernel
theorem dX7_append_32 : decode cX7_append 32 = .ok (.getfield 23, 3) := by decide +kernel
theorem dX7_append_35 : decode cX7_append 35 = .ok (.iload 6, 2) := by decide +kernel
theorem dX7_append_37 : decode cX7_append 37 = .ok (.iconst 1, 1) := by decide +kernel
theorem dX7_append_38 : decode cX7_append 38 = .ok (.iadd, 1) := by decide +kernel
theorem dX7_append_39 : decode cX7_append 39 = .ok (.iload_n 2, 1) := by decide +kernel
theorem dX7_append_4 : decode cX7_append 4 = .ok (.aload_n 0, 1) := by decide +kernel
theorem dX7_append_40 : decode cX7_append 40 = .ok (.iastore, 1) := by decide +kernel
theorem dX7_append_41 : decode cX7_append 41 = .ok (.aload_n 0, 1) := by decide +kernel
theorem dX7_append_42 : decode cX7_append 42 = .ok (.getfield 23, 3) := by decide +kernel
theorem dX7_append_45 : decode cX7_append 45 = .ok (.iload 6, 2) := by decide +kernel
theorem dX7_append_47 : decode cX7_append 47 = .ok (.iconst 2, 1) := by decide +kernel
theorem dX7_append_48 : decode cX7_append 48 = .ok (.iadd, 1) := by decide +kernel
theorem dX7_append_49 : decode cX7_append 49 = .ok (.iload_n 3, 1) := by decide +kernel
theorem dX7_append_5 : decode cX7_append 5 = .ok (.getfield 13, 3) := by decide +kernel
theorem dX7_append_50 : decode cX7_append 50 = .ok (.iastore, 1) := by decide +kernel
theorem dX7_append_51 : decode cX7_append 51 = .ok (.aload_n 0, 1) := by decide +kernel
theorem dX7_append_52 : decode cX7_append 52 = .ok (.getfield 23, 3) := by decide +kernel
theorem dX7_append_55 : decode cX7_append 55 = .ok (.iload 6, 2) := by decide +kernel
theorem dX7_append_57 : decode cX7_append 57 = .ok (.iconst 3, 1) := by decide +kernel
theorem dX7_append_58 : decode cX7_append 58 = .ok (.iadd, 1) := by decide +kernel
theorem dX7_append_59 : decode cX7_append 59 = .ok (.iload 4, 2) := by decide +kernel
theorem dX7_append_61 : decode cX7_append 61 = .ok (.iastore, 1) := by decide +kernel
theorem dX7_append_62 : decode cX7_append 62 = .ok (.aload_n 0, 1) := by decide +kernel
theorem dX7_append_63 : decode cX7_append 63 = .ok (.getfield 23, 3) := by decide +kernel
theorem dX7_append_66 : decode cX7_append 66 = .ok (.iload 6, 2) := by decide +kernel
theorem dX7_append_68 : decode cX7_append 68 = .ok (.iconst 4, 1) := by decide +kernel
theorem dX7_append_69 : decode cX7_append 69 = .ok (.iadd, 1) := by decide +kernel
theorem dX7_append_70 : decode cX7_append 70 = .ok (.iload 5, 2) := by decide +kernel
theorem dX7_append_72 : decode cX7_append 72 = .ok (.iastore, 1) := by decide +kernel
theorem dX7_append_73 : decode cX7_append 73 = .ok (.aload_n 0, 1) := by decide +kernel
theorem dX7_append_74 : decode cX7_append 74 = .ok (.dup, 1) := by decide +kernel
theorem dX7_append_75 : decode cX7_append 75 = .ok (.getfield 7, 3) := by decide +kernel
theorem dX7_append_78 : decode cX7_append 78 = .ok (.iconst 1, 1) := by decide +kernel
theorem dX7_append_79 : decode cX7_append 79 = .ok (.iadd, 1) := by decide +kernel
theorem dX7_append_8 : decode cX7_append 8 = .ok (.if_icmp .lt 5, 3) := by decide +kernel
theorem dX7_append_80 : decode cX7_append 80 = .ok (.putfield 7, 3) := by decide +kernel
theorem dX7_append_83 : decode cX7_append 83 = .ok (.iconst 1, 1) := by decide +kernel
theorem dX7_append_84 : decode cX7_append 84 = .ok (.ireturn, 1) := by decide +kernel
theorem dX7_fitEgg_0 : decode cX7_fitEgg 0 = .ok (.iconst 0, 1) := by decide +kernel
theorem dX7_fitEgg_1 : decode cX7_fitEgg 1 = .ok (.istore_n 3, 1) := by decide +kernel
theorem dX7_fitEgg_10 : decode cX7_fitEgg 10 = .ok (.iload_n 3, 1) := by decide +kernel
theorem dX7_fitEgg_11 : decode cX7_fitEgg 11 = .ok (.iconst 5, 1) := by decide +kernel
theorem dX7_fitEgg_12 : decode cX7_fitEgg 12 = .ok (.imul, 1) := by decide +kernel
theorem dX7_fitEgg_13 : decode cX7_fitEgg 13 = .ok (.istore 4, 2) := by decide +kernel
theorem dX7_fitEgg_15 : decode cX7_fitEgg 15 = .ok (.aload_n 0, 1) := by decide +kernel
theorem dX7_fitEgg_16 : decode cX7_fitEgg 16 = .ok (.getfield 23, 3) := by decide +kernel
theorem dX7_fitEgg_19 : decode cX7_fitEgg 19 = .ok (.iload 4, 2) := by decide +kernel
theorem dX7_fitEgg_2 : decode cX7_fitEgg 2 = .ok (.iload_n 3, 1) := by decide +kernel
theorem dX7_fitEgg_21 : decode cX7_fitEgg 21 = .ok (.iconst 0, 1) := by decide +kernel
theorem dX7_fitEgg_22 : decode cX7_fitEgg 22 = .ok (.iadd, 1) := by decide +kernel
theorem dX7_fitEgg_23 : decode cX7_fitEgg 23 = .ok (.iaload, 1) := by decide +kernel
theorem dX7_fitEgg_24 : decode cX7_fitEgg 24 = .ok (.iload_n 1, 1) := by decide +kernel
theorem dX7_fitEgg_25 : decode cX7_fitEgg 25 = .ok (.if_icmp .ne 30, 3) := by decide +kernel
theorem dX7_fitEgg_28 : decode cX7_fitEgg 28 = .ok (.iload_n 2, 1) := by decide +kernel
theorem dX7_fitEgg_29 : decode cX7_fitEgg 29 = .ok (.aload_n 0, 1) := by decide +kernel
theorem dX7_fitEgg_3 : decode cX7_fitEgg 3 = .ok (.aload_n 0, 1) := by decide +kernel
theorem dX7_fitEgg_30 : decode cX7_fitEgg 30 = .ok (.getfield 23, 3) := by decide +kernel
theorem dX7_fitEgg_33 : decode cX7_fitEgg 33 = .ok (.iload 4, 2) := by decide +kernel
theorem dX7_fitEgg_35 : decode cX7_fitEgg 35 = .ok (.iconst 2, 1) := by decide +kernel
theorem dX7_fitEgg_36 : decode cX7_fitEgg 36 = .ok (.iadd, 1) := by decide +kernel
theorem dX7_fitEgg_37 : decode cX7_fitEgg 37 = .ok (.iaload, 1) := by decide +kernel
theorem dX7_fitEgg_38 : decode cX7_fitEgg 38 = .ok (.invokestatic 45, 3) := by decide +kernel
theorem dX7_fitEgg_4 : decode cX7_fitEgg 4 = .ok (.getfield 7, 3) := by decide +kernel
theorem dX7_fitEgg_41 : decode cX7_fitEgg 41 = .ok (.aload_n 0, 1) := by decide +kernel
theorem dX7_fitEgg_42 : decode cX7_fitEgg 42 = .ok (.getfield 23, 3) := by decide +kernel
theorem dX7_fitEgg_45 : decode cX7_fitEgg 45 = .ok (.iload 4, 2) := by decide +kernel
theorem dX7_fitEgg_47 : decode cX7_fitEgg 47 = .ok (.iconst 4, 1) := by decide +kernel
theorem dX7_fitEgg_48 : decode cX7_fitEgg 48 = .ok (.iadd, 1) := by decide +kernel
theorem dX7_fitEgg_49 : decode cX7_fitEgg 49 = .ok (.iaload, 1) := by decide +kernel
theorem dX7_fitEgg_50 : decode cX7_fitEgg 50 = .ok (.if_icmp .eq 5, 3) := by decide +kernel
theorem dX7_fitEgg_53 : decode cX7_fitEgg 53 = .ok (.iconst 0, 1) := by decide +kernel
theorem dX7_fitEgg_54 : decode cX7_fitEgg 54 = .ok (.ireturn, 1) := by decide +kernel
theorem dX7_fitEgg_55 : decode cX7_fitEgg 55 = .ok (.iinc 3 1, 3) := by decide +kernel
theorem dX7_fitEgg_58 : decode cX7_fitEgg 58 = .ok (.goto (-56), 3) := by decide +kernel
theorem dX7_fitEgg_61 : decode cX7_fitEgg 61 = .ok (.iconst 1, 1) := by decide +kernel
theorem dX7_fitEgg_62 : decode cX7_fitEgg 62 = .ok (.ireturn, 1) := by decide +kernel
theorem dX7_fitEgg_7 : decode cX7_fitEgg 7 = .ok (.if_icmp .ge 54, 3) := by decide +kernel
theorem dX7_fitRunner_0 : decode cX7_fitRunner 0 = .ok (.iconst 0, 1) := by decide +kernel
theorem dX7_fitRunner_1 : decode cX7_fitRunner 1 = .ok (.istore 4, 2) := by decide +kernel
theorem dX7_fitRunner_12 : decode cX7_fitRunner 12 = .ok (.iload 4, 2) := by decide +kernel
theorem dX7_fitRunner_14 : decode cX7_fitRunner 14 = .ok (.iconst 5, 1) := by decide +kernel
theorem dX7_fitRunner_15 : decode cX7_fitRunner 15 = .ok (.imul, 1) := by decide +kernel
theorem dX7_fitRunner_16 : decode cX7_fitRunner 16 = .ok (.istore 5, 2) := by decide +kernel
theorem dX7_fitRunner_18 : decode cX7_fitRunner 18 = .ok (.aload_n 0, 1) := by decide +kernel
theorem dX7_fitRunner_19 : decode cX7_fitRunner 19 = .ok (.getfield 16, 3) := by decide +kernel
theorem dX7_fitRunner_22 : decode cX7_fitRunner 22 = .ok (.ifCond .eq 15, 3) := by decide +kernel
theorem dX7_fitRunner_25 : decode cX7_fitRunner 25 = .ok (.aload_n 0, 1) := by decide +kernel
theorem dX7_fitRunner_26 : decode cX7_fitRunner 26 = .ok (.getfield 23, 3) := by decide +kernel
theorem dX7_fitRunner_29 : decode cX7_fitRunner 29 = .ok (.iload 5, 2) := by decide +kernel
theorem dX7_fitRunner_3 : decode cX7_fitRunner 3 = .ok (.iload 4, 2) := by decide +kernel
theorem dX7_fitRunner_31 : decode cX7_fitRunner 31 = .ok (.iconst 1, 1) := by decide +kernel
theorem dX7_fitRunner_32 : decode cX7_fitRunner 32 = .ok (.iadd, 1) := by decide +kernel
theorem dX7_fitRunner_33 : decode cX7_fitRunner 33 = .ok (.iaload, 1) := by decide +kernel
theorem dX7_fitRunner_34 : decode cX7_fitRunner 34 = .ok (.goto 4, 3) := by decide +kernel
theorem dX7_fitRunner_37 : decode cX7_fitRunner 37 = .ok (.iload_n 3, 1) := by decide +kernel
theorem dX7_fitRunner_38 : decode cX7_fitRunner 38 = .ok (.istore 6, 2) := by decide +kernel
theorem dX7_fitRunner_40 : decode cX7_fitRunner 40 = .ok (.aload_n 0, 1) := by decide +kernel
theorem dX7_fitRunner_41 : decode cX7_fitRunner 41 = .ok (.getfield 23, 3) := by decide +kernel
theorem dX7_fitRunner_44 : decode cX7_fitRunner 44 = .ok (.iload 5, 2) := by decide +kernel
theorem dX7_fitRunner_46 : decode cX7_fitRunner 46 = .ok (.iconst 0, 1) := by decide +kernel
theorem dX7_fitRunner_47 : decode cX7_fitRunner 47 = .ok (.iadd, 1) := by decide +kernel
theorem dX7_fitRunner_48 : decode cX7_fitRunner 48 = .ok (.iaload, 1) := by decide +kernel
theorem dX7_fitRunner_49 : decode cX7_fitRunner 49 = .ok (.iload_n 1, 1) := by decide +kernel
theorem dX7_fitRunner_5 : decode cX7_fitRunner 5 = .ok (.aload_n 0, 1) := by decide +kernel
theorem dX7_fitRunner_50 : decode cX7_fitRunner 50 = .ok (.if_icmp .ne 41, 3) := by decide +kernel
theorem dX7_fitRunner_53 : decode cX7_fitRunner 53 = .ok (.iload_n 2, 1) := by decide +kernel
theorem dX7_fitRunner_54 : decode cX7_fitRunner 54 = .ok (.iload 6, 2) := by decide +kernel
theorem dX7_fitRunner_56 : decode cX7_fitRunner 56 = .ok (.aload_n 0, 1) := by decide +kernel
theorem dX7_fitRunner_57 : decode cX7_fitRunner 57 = .ok (.getfield 23, 3) := by decide +kernel
theorem dX7_fitRunner_6 : decode cX7_fitRunner 6 = .ok (.getfield 7, 3) := by decide +kernel
theorem dX7_fitRunner_60 : decode cX7_fitRunner 60 = .ok (.iload 5, 2) := by decide +kernel
theorem dX7_fitRunner_62 : decode cX7_fitRunner 62 = .ok (.iconst 2, 1) := by decide +kernel
theorem dX7_fitRunner_63 : decode cX7_fitRunner 63 = .ok (.iadd, 1) := by decide +kernel
theorem dX7_fitRunner_64 : decode cX7_fitRunner 64 = .ok (.iaload, 1) := by decide +kernel
theorem dX7_fitRunner_65 : decode cX7_fitRunner 65 = .ok (.aload_n 0, 1) := by decide +kernel
theorem dX7_fitRunner_66 : decode cX7_fitRunner 66 = .ok (.getfield 23, 3) := by decide +kernel
theorem dX7_fitRunner_69 : decode cX7_fitRunner 69 = .ok (.iload 5, 2) := by decide +kernel
theorem dX7_fitRunner_71 : decode cX7_fitRunner 71 = .ok (.iconst 3, 1) := by decide +kernel
theorem dX7_fitRunner_72 : decode cX7_fitRunner 72 = .ok (.iadd, 1) := by decide +kernel
theorem dX7_fitRunner_73 : decode cX7_fitRunner 73 = .ok (.iaload, 1) := by decide +kernel
theorem dX7_fitRunner_74 : decode cX7_fitRunner 74 = .ok (.invokestatic 39, 3) := by decide +kernel
theorem dX7_fitRunner_77 : decode cX7_fitRunner 77 = .ok (.aload_n 0, 1) := by decide +kernel
theorem dX7_fitRunner_78 : decode cX7_fitRunner 78 = .ok (.getfield 23, 3) := by decide +kernel
theorem dX7_fitRunner_81 : decode cX7_fitRunner 81 = .ok (.iload 5, 2) := by decide +kernel
theorem dX7_fitRunner_83 : decode cX7_fitRunner 83 = .ok (.iconst 4, 1) := by decide +kernel
theorem dX7_fitRunner_84 : decode cX7_fitRunner 84 = .ok (.iadd, 1) := by decide +kernel
theorem dX7_fitRunner_85 : decode cX7_fitRunner 85 = .ok (.iaload, 1) := by decide +kernel
theorem dX7_fitRunner_86 : decode cX7_fitRunner 86 = .ok (.if_icmp .eq 5, 3) := by decide +kernel
theorem dX7_fitRunner_89 : decode cX7_fitRunner 89 = .ok (.iconst 0, 1) := by decide +kernel
theorem dX7_fitRunner_9 : decode cX7_fitRunner 9 = .ok (.if_icmp .ge 88, 3) := by decide +kernel
theorem dX7_fitRunner_90 : decode cX7_fitRunner 90 = .ok (.ireturn, 1) := by decide +kernel
theorem dX7_fitRunner_91 : decode cX7_fitRunner 91 = .ok (.iinc 4 1, 3) := by decide +kernel
theorem dX7_fitRunner_94 : decode cX7_fitRunner 94 = .ok (.goto (-91), 3) := by decide +kernel
theorem dX7_fitRunner_97 : decode cX7_fitRunner 97 = .ok (.iconst 1, 1) := by decide +kernel
theorem dX7_fitRunner_98 : decode cX7_fitRunner 98 = .ok (.ireturn, 1) := by decide +kernel
set_option maxHeartbeats 4000000 in
set_option maxRecDepth 100000 in
theorem x_takeRace (l : Launch) (X : EX) (K : SK) (h0 : Nat) (hb : Nat) (n : Nat) (bd : Nat → Nat) (vd : Nat → Int32) (fd : Nat → Int32) (hn : Nat) (an : Nat → Nat) (sv : Nat → Int32) (dv : Nat → Int32) (n0 : Nat) (n1 : Nat) (n2 : Nat) (n3 : Nat) (n4 : Nat) (g0 : Nat → Int32) (gs : Nat → Int32) (gn : Nat → Int32) (gm : Nat → Int32) (hI_n : n ≤ 150) (hI_bd : InP bd) (hI_n0 : n0 ≤ 6) (hI_n1 : n1 ≤ 8) (hI_n2 : n2 ≤ 5) (hI_n3 : n3 ≤ 6) (hI_n4 : n4 ≤ 6) (sz : Nat) : Met l yX6_takeRace wsX6_takeRace ({ frames := 6, cells := 0, slots := 0, locals := 129 } : Room) (pS X K [.ref h0, .ref hn] (@HAppend.hAppend va_W va_W va_W _ (rdV X h0 hb n bd vd fd) (rcV X hn an sv dv n0 n1 n2 n3 n4 g0 gs gn gm)) sz) (qI (fun (r : Int32) (u : (Nat → Nat) × (Nat → Int32) × (Nat → Int32) × (Nat → Int32) × (Nat) × (Nat) × (Nat) × (Nat) × (Nat)) => InP u.1 ∧ u.2.2.2.2.1 ≤ 6 ∧ u.2.2.2.2.2.1 ≤ 8 ∧ u.2.2.2.2.2.2.1 ≤ 5 ∧ u.2.2.2.2.2.2.2.1 ≤ 6 ∧ u.2.2.2.2.2.2.2.2 ≤ 6 ∧ (r = (rdA fd n sv dv).1 ∧ ((rdA fd n sv dv).2.1 = true → (u.2.2.2.2.1 = (rdA fd n sv dv).2.2.1 ∧ u.2.2.1 = (rdA fd n sv dv).2.2.2.1 ∧ u.2.2.2.1 = (rdA fd n sv dv).2.2.2.2) ∧ (u.2.2.2.2.2.2.1 = 0 ∧ u.2.2.2.2.2.2.2.1 = 0 ∧ u.2.2.2.2.2.2.2.2 = 0)) ∧ (((rdA fd n sv dv).2.1 = true ∧ ¬ r < 0) ∨ ((rdA fd n sv dv).2.1 = false ∧ r < 0)))) X (fun (u : (Nat → Nat) × (Nat → Int32) × (Nat → Int32) × (Nat → Int32) × (Nat) × (Nat) × (Nat) × (Nat) × (Nat)) => @HAppend.hAppend va_W va_W va_W _ (rdV X h0 hb n u.1 u.2.1 fd) (rcV X hn an u.2.2.1 u.2.2.2.1 u.2.2.2.2.1 u.2.2.2.2.2.1 u.2.2.2.2.2.2.1 u.2.2.2.2.2.2.2.1 u.2.2.2.2.2.2.2.2 g0 gs gn gm)) (@HAppend.hAppend va_W va_W va_W _ (rdV X h0 hb n bd vd fd) (rcV X hn an sv dv n0 n1 n2 n3 n4 g0 gs gn gm)) sz) 0 0 (va_A (@HAppend.hAppend va_W va_W va_W _ (rdV X h0 hb n bd vd fd) (rcV X hn an sv dv n0 n1 n2 n3 n4 g0 gs gn gm)) sz) := by
  refine mk_metS (B := (va_A (@HAppend.hAppend va_W va_W va_W _ (rdV X h0 hb n bd vd fd) (rcV X hn an sv dv n0 n1 n2 n3 n4 g0 gs gn gm)) sz)) (A := (va_A (@HAppend.hAppend va_W va_W va_W _ (rdV X h0 hb n bd vd fd) (rcV X hn an sv dv n0 n1 n2 n3 n4 g0 gs gn gm)) sz)) (cc := cX6_takeRace) (maxL := 3) (ret := (some .int)) (by decide) rfl (Nat.le_of_ble_eq_true rfl) k_w k_a (fun p e s m below meth c S zr zlk znm zsz G hZ ls hl => ?_)
  have S : CallFix p m c cX6_takeRace 3 s _ wsX6_takeRace RX6 := S
  have zx := S.1
  have zb := S.2.1
  have hl : lv_has ls 3 [(0, .ref h0), (1, .ref hn)] := hl
  have hO_bd := hI_bd
  obtain ⟨hd0_bd, hd1_bd⟩ := hO_bd
  refine lv_aload_n zx zb dX6_takeRace_0 rfl (lv_at hl 0 rfl) ?_
  refine lv_iconst (v := 0) zx zb dX6_takeRace_1 (by decide) ?_
  refine r_put (C := RX6) (T := TX6) (N := 7) (ci := 4) (v := .int 0) S in_X6_takeRace_X6 tyX6_ok nmX6 G 0 rfl rfl 2 (by decide) lk_X6_takeRace_19 rfl (vp_nar_int _) rfl (Nat.le_of_ble_eq_true rfl) dX6_takeRace_2 (fun H locs G => ?_)
  obtain ⟨b_1, hI_b_1, ⟨hE_b_1_0, hE_b_1_1⟩, G⟩ : ∃ b_1 : Nat → Nat, InP b_1 ∧ (b_1 0 = 0 ∧ b_1 1 = bd 1) ∧ wd X (va_A (@HAppend.hAppend va_W va_W va_W _ (rdV X h0 hb n bd vd fd) (rcV X hn an sv dv n0 n1 n2 n3 n4 g0 gs gn gm)) sz) (va_A (@HAppend.hAppend va_W va_W va_W _ (rdV X h0 hb n bd vd fd) (rcV X hn an sv dv n0 n1 n2 n3 n4 g0 gs gn gm)) sz) s (@HAppend.hAppend va_W va_W va_W _ (rdV X h0 hb n b_1 vd fd) (rcV X hn an sv dv n0 n1 n2 n3 n4 g0 gs gn gm)) H locs := ⟨upN bd 0 0, ⟨(by show 0 ≤ 150; omega), hd1_bd⟩, ⟨rfl, rfl⟩, G⟩
  have hO_b_1 := hI_b_1
  obtain ⟨hd0_b_1, hd1_b_1⟩ := hO_b_1
  refine lv_aload_n zx zb dX6_takeRace_5 rfl (lv_at hl 0 rfl) ?_
  refine lv_iconst (v := (-1)) zx zb dX6_takeRace_6 (by decide) ?_
  refine r_put (C := RX6) (T := TX6) (N := 7) (ci := 4) (v := .int (-1)) S in_X6_takeRace_X6 tyX6_ok nmX6 G 0 rfl rfl 6 (by decide) lk_X6_takeRace_31 rfl (vp_nar_int _) rfl (Nat.le_of_ble_eq_true rfl) dX6_takeRace_7 (fun H locs G => ?_)
  obtain ⟨v_2, ⟨hE_v_2_2, hE_v_2_0, hE_v_2_1⟩, G⟩ : ∃ v_2 : Nat → Int32, (v_2 2 = (-1) ∧ v_2 0 = vd 0 ∧ v_2 1 = vd 1) ∧ wd X (va_A (@HAppend.hAppend va_W va_W va_W _ (rdV X h0 hb n bd vd fd) (rcV X hn an sv dv n0 n1 n2 n3 n4 g0 gs gn gm)) sz) (va_A (@HAppend.hAppend va_W va_W va_W _ (rdV X h0 hb n bd vd fd) (rcV X hn an sv dv n0 n1 n2 n3 n4 g0 gs gn gm)) sz) s (@HAppend.hAppend va_W va_W va_W _ (rdV X h0 hb n b_1 v_2 fd) (rcV X hn an sv dv n0 n1 n2 n3 n4 g0 gs gn gm)) H locs := ⟨upd vd 2 (-1), ⟨rfl, rfl, rfl⟩, G⟩
  refine lv_iconst (v := 0) zx zb dX6_takeRace_10 (by decide) ?_
  refine lv_istore_n (lv' := [(2, .int 0), (0, .ref h0), (1, .ref hn)]) zx zb dX6_takeRace_11 rfl hl (by decide) rfl (fun ls hl => ?_)
  obtain ⟨s0, hs0⟩ : ∃ s0 : Nat, scanP qB fd n 0 = s0 := ⟨_, rfl⟩
  have hs1 := scan_le (q := qB) (T := fd) (n := n) (a := 0) (Nat.zero_le _)
  rw [hs0] at hs1
  refine lv_aload_n zx zb dX6_takeRace_12 rfl (lv_at hl 1 rfl) ?_
  refine lv_aload_n zx zb dX6_takeRace_13 rfl (lv_at hl 2 rfl) ?_
  refine lv_iload_n zx zb dX6_takeRace_14 rfl (lv_at hl 0 rfl) ?_
  refine lv_if_ne (tgt := 22) zx zb dX6_takeRace_15 (by decide) (fun c_3 => absurd (by decide) c_3) (fun c_3 => ?_)
  refine lv_iconst (v := 1) zx zb dX6_takeRace_18 (by decide) ?_
  refine lv_goto (tgt := 23) zx zb dX6_takeRace_19 (by decide) ?_
  refine b_wv (cells' := 0) (slots' := 0) (wr := []) G rfl rfl [0, 1, 2, 3, 4, 5, 6, 7, 8, 9, 10, 11, 12, 13, 14, 15, 16, 17] [] rfl rfl rfl rfl (n_VS (As := [.ref hn, .int 1]) (rest := []) (C := RX6) (T := TX6) (N := 7) (ci := 4) S G hZ (x_takeItem1 l X K h0 hb n b_1 v_2 fd s0 hn an sv dv n0 n1 n2 n3 n4 g0 gs gn gm hI_n hI_b_1 hI_n0 hI_n1 hI_n2 hI_n3 hI_n4 (by omega) (by rw [hE_b_1_0]; exact hs0) hE_v_2_2 H.size) gX6_takeRace_X6_takeItem rfl rfl rfl hdV_X6_takeItem ⟨Nat.le_of_ble_eq_true rfl, Nat.le_of_ble_eq_true rfl⟩ [0, 1, 2, 3, 4, 5, 6, 7, 8, 9, 10, 11, 12, 13, 14, 15, 16, 17] rfl rfl 0 rfl rfl rfl hl.1 (Nat.le_of_ble_eq_true rfl) dX6_takeRace_23 ⟨Nat.le_of_ble_eq_true rfl, Nat.le_of_ble_eq_true rfl⟩) (fun u_4 H locs hp_4 G => ?_)
  obtain ⟨b_4a, v_4b, dv_4c, n0_4d, n1_4e, n2_4f, n3_4g, n4_4h⟩ := u_4
  try dsimp only at hp_4
  obtain ⟨hI_b_4a, hI_n0_4d, hI_n1_4e, hI_n2_4f, hI_n3_4g, hI_n4_4h, hq_4⟩ := hp_4
  have hO_b_4a := hI_b_4a
  obtain ⟨hd0_b_4a, hd1_b_4a⟩ := hO_b_4a
  have G : wd X (va_A (@HAppend.hAppend va_W va_W va_W _ (rdV X h0 hb n bd vd fd) (rcV X hn an sv dv n0 n1 n2 n3 n4 g0 gs gn gm)) sz) (va_A (@HAppend.hAppend va_W va_W va_W _ (rdV X h0 hb n bd vd fd) (rcV X hn an sv dv n0 n1 n2 n3 n4 g0 gs gn gm)) sz) s (@HAppend.hAppend va_W va_W va_W _ (rdV X h0 hb n b_4a v_4b fd) (rcV X hn an sv dv_4c n0_4d n1_4e n2_4f n3_4g n4_4h g0 gs gn gm)) H locs := G
  rcases hq_4 with ⟨hi0_4, hi1_4, hi2_4, hi3_4, hi4_4, hi5_4⟩ | ⟨pp_4, hi0_4, hi1_4, hi2_4⟩
  · have hadv := rac_adv (T := fd) hs1.2 hi0_4 hi2_4
    have hadw := tE_le (T := fd) hadv.2
    refine lv_iinc (v := 1) (lv' := [(2, .int 1), (0, .ref h0), (1, .ref hn)]) zx zb dX6_takeRace_26 hl (k := 0) rfl (by decide) (by decide) rfl (fun ls hl => ?_)
    refine lv_aload_n zx zb dX6_takeRace_29 rfl (lv_at hl 1 rfl) ?_
    refine b_wv (cells' := 0) (slots' := 0) (wr := rcV X hn an sv dv_4c n0_4d n1_4e n2_4f n3_4g n4_4h g0 gs gn gm) G rfl rfl [0, 1] [2, 3, 4, 5, 6, 7, 8, 9, 10, 11, 12, 13, 14, 15, 16, 17] rfl rfl rfl rfl (n_V (As := []) (rest := []) (C := RX6) (T := TX6) (N := 7) (ci := 4) S G (x_skipBlanks l X h0 hb n b_4a v_4b fd hI_n hI_b_4a (by omega) H.size) gX6_takeRace_X6_skipBlanks rfl rfl rfl hdV_X6_skipBlanks ⟨Nat.le_of_ble_eq_true rfl, Nat.le_of_ble_eq_true rfl⟩ [0, 1] rfl rfl 0 rfl rfl rfl hl.1 (Nat.le_of_ble_eq_true rfl) dX6_takeRace_30 ⟨Nat.le_of_ble_eq_true rfl, Nat.le_of_ble_eq_true rfl⟩) (fun u_5 H locs hp_5 G => ?_)
    obtain ⟨b_5, rfl⟩ : ∃ z, z = u_5 := ⟨_, rfl⟩
    obtain ⟨hI_b_5, hq_5⟩ := hp_5
    have hO_b_5 := hI_b_5
    obtain ⟨hd0_b_5, hd1_b_5⟩ := hO_b_5
    have G : wd X (va_A (@HAppend.hAppend va_W va_W va_W _ (rdV X h0 hb n bd vd fd) (rcV X hn an sv dv n0 n1 n2 n3 n4 g0 gs gn gm)) sz) (va_A (@HAppend.hAppend va_W va_W va_W _ (rdV X h0 hb n bd vd fd) (rcV X hn an sv dv n0 n1 n2 n3 n4 g0 gs gn gm)) sz) s (@HAppend.hAppend va_W va_W va_W _ (rcV X hn an sv dv_4c n0_4d n1_4e n2_4f n3_4g n4_4h g0 gs gn gm) (rdV X h0 hb n b_5 v_4b fd)) H locs := G
    obtain ⟨hz0_5, hz1_5⟩ := hq_5
    refine lv_aload_n zx zb dX6_takeRace_33 rfl (lv_at hl 1 rfl) ?_
    refine r_get (C := RX6) (T := TX6) (N := 7) (ci := 4) (v := .int (v_4b 2)) S in_X6_takeRace_X6 G 16 rfl rfl 6 (by decide) lk_X6_takeRace_31 rfl dX6_takeRace_34 ?_
    refine lv_iconst (v := (-1)) zx zb dX6_takeRace_37 (by decide) ?_
    refine lv_icmp_ne (tgt := 59) zx zb dX6_takeRace_38 (by decide) (fun c_6 => absurd (hi4_4) c_6) (fun c_6 => ?_)
    refine lv_aload_n zx zb dX6_takeRace_41 rfl (lv_at hl 1 rfl) ?_
    refine r_get (C := RX6) (T := TX6) (N := 7) (ci := 4) (v := .int (nI (b_5 0))) S in_X6_takeRace_X6 G 16 rfl rfl 2 (by decide) lk_X6_takeRace_19 rfl dX6_takeRace_42 ?_
    refine lv_aload_n zx zb dX6_takeRace_45 rfl (lv_at hl 1 rfl) ?_
    refine r_get (C := RX6) (T := TX6) (N := 7) (ci := 4) (v := .int (nI n)) S in_X6_takeRace_X6 G 16 rfl rfl 1 (by decide) lk_X6_takeRace_15 rfl dX6_takeRace_46 ?_
    refine lv_icmp_ge (tgt := 59) zx zb dX6_takeRace_49 (by decide) (fun c_7 => ?_) (fun c_7 => ?_)
    · have fc_7 := j_le (a := n) (b := (b_5 0)) (by omega) (by omega) c_7
      refine lv_aload_n zx zb dX6_takeRace_59 rfl (lv_at hl 1 rfl) ?_
      refine r_get (C := RX6) (T := TX6) (N := 7) (ci := 4) (v := .int (v_4b 2)) S in_X6_takeRace_X6 G 16 rfl rfl 6 (by decide) lk_X6_takeRace_31 rfl dX6_takeRace_60 ?_
      refine lv_iconst (v := (-1)) zx zb dX6_takeRace_63 (by decide) ?_
      refine lv_icmp_ne (tgt := 71) zx zb dX6_takeRace_64 (by decide) (fun c_8 => absurd (hi4_4) c_8) (fun c_8 => ?_)
      refine lv_iload_n zx zb dX6_takeRace_67 rfl (lv_at hl 0 rfl) ?_
      refine lv_goto (tgt := 78) zx zb dX6_takeRace_68 (by decide) ?_
      exact e_int S zr zlk (vp_nar_int _) G (b_5, v_4b, sv, dv_4c, n0_4d, n1_4e, n2_4f, n3_4g, n4_4h) [16, 17, 0, 1, 2, 3, 4, 5, 6, 7, 8, 9, 10, 11, 12, 13, 14, 15] rfl rfl (Or.inr rfl) (⟨hI_b_5, hI_n0_4d, hI_n1_4e, hI_n2_4f, hI_n3_4g, hI_n4_4h, by have e0 : b_5 0 = t3 fd n s0 := (by rw [hz0_5, hi5_4]; rfl); have z0 : tK fd n (t3 fd n s0) = 0 := (by rw [← e0]; exact (tok_end (by first | omega | (dsimp only; omega))).2); have e : rdA fd n sv dv = (nI 1, (true, (0, (sv, upd (upd dv 0 (tV fd n (tN fd n s0))) 1 0)))) := (by rw [← hs0] at hi0_4 hi1_4 hi2_4 z0 ⊢; rw [rdA_n ⟨hi0_4, hi1_4⟩ hi2_4]; exact rdP_e z0); rw [e]; exact ⟨rfl, fun _ => ⟨⟨hi3_4.2.1, rfl, hi3_4.1⟩, hi3_4.2.2⟩, Or.inl ⟨rfl, nI_pos (by first | omega | (dsimp only; omega))⟩⟩⟩) dX6_takeRace_78
    · have fc_7 := j_nle (a := n) (b := (b_5 0)) (by omega) (by omega) c_7
      refine lv_iload_n zx zb dX6_takeRace_52 rfl (lv_at hl 0 rfl) ?_
      refine lv_sipush (v := 150) zx zb dX6_takeRace_53 (by decide) ?_
      refine lv_icmp_lt (tgt := 12) zx zb dX6_takeRace_56 (by decide) (fun c_9 => ?_) (fun c_9 => absurd (by decide) c_9)
      refine k_loop (P := ∀ (zm : Nat) (n12_2 : Nat) (sv12_0 : Nat → Int32) (dv12_0 : Nat → Int32) (n012_0 : Nat) (n112_0 : Nat) (b12_1 : Nat → Nat) (v12_1 : Nat → Int32) (H : Heap) (locs : List Loc) (ls : Array Slot), ((150 - n12_2) < zm) → ((b12_1 0 ≤ n ∧ 1 ≤ n12_2 ∧ 3 * n12_2 ≤ b12_1 0) ∧ scanP qB fd n (b12_1 0) = b12_1 0 ∧ ¬ tK fd n (b12_1 0) = 0 ∧ v12_1 2 = -1 ∧ rdP fd n (152 - n12_2) (b12_1 0) n12_2 n012_0 sv12_0 dv12_0 = rdA fd n sv dv) → n012_0 ≤ 6 → n112_0 ≤ 8 → InP b12_1 → (n12_2 ≤ 150) → wd X (va_A (@HAppend.hAppend va_W va_W va_W _ (rdV X h0 hb n bd vd fd) (rcV X hn an sv dv n0 n1 n2 n3 n4 g0 gs gn gm)) sz) (va_A (@HAppend.hAppend va_W va_W va_W _ (rdV X h0 hb n bd vd fd) (rcV X hn an sv dv n0 n1 n2 n3 n4 g0 gs gn gm)) sz) s (@HAppend.hAppend va_W va_W va_W _ (rcV X hn an sv12_0 dv12_0 n012_0 n112_0 n2_4f n3_4g n4_4h g0 gs gn gm) (rdV X h0 hb n b12_1 v12_1 fd)) H locs → lv_has ls 3 [(2, .int (nI n12_2)), (0, .ref h0), (1, .ref hn)] → W p l e _ s m _ below meth c H locs _ _ _ (F0 m 12 ls [])) (fun loop => loop ((150 - 1) + 1) 1 sv dv_4c n0_4d n1_4e b_5 v_4b _ _ _ (by omega) (by have e0 : b_5 0 = t3 fd n s0 := (by rw [hz0_5, hi5_4]; rfl); have e1 : scanP qB fd n (b_5 0) = b_5 0 := (by rw [hz0_5]; exact scan_id (by omega)); have e2 : tE fd n (t2 fd n s0) ≤ t3 fd n s0 ∧ t3 fd n s0 ≤ n := tN_le hadv.2; exact ⟨by omega, e1, fun z => absurd (tK_0 z) (by omega), hi4_4, by rw [e0, hi3_4.2.1, hi3_4.1, ← hs0]; rw [← hs0] at hi0_4 hi1_4 hi2_4; exact (rdA_n ⟨hi0_4, hi1_4⟩ hi2_4).symm⟩) hI_n0_4d hI_n1_4e hI_b_5 (by omega) G hl) ?_
      intro zm
      induction zm with
      | zero => intro n12_2 sv12_0 dv12_0 n012_0 n112_0 b12_1 v12_1 H locs ls zz q_x0 q_hI_n012_0 q_hI_n112_0 q_hI_b12_1 q_hk_n12_2 _ _; exact absurd zz (by omega)
      | succ zm ih12 =>
        intro n12_2 sv12_0 dv12_0 n012_0 n112_0 b12_1 v12_1 H locs ls zm_12 hx12_0 hI_n012_0 hI_n112_0 hI_b12_1 hk_n12_2 G hl
        have hO_b12_1 := hI_b12_1
        obtain ⟨hd0_b12_1, hd1_b12_1⟩ := hO_b12_1
        refine lv_aload_n zx zb dX6_takeRace_12 rfl (lv_at hl 1 rfl) ?_
        refine lv_aload_n zx zb dX6_takeRace_13 rfl (lv_at hl 2 rfl) ?_
        refine lv_iload_n zx zb dX6_takeRace_14 rfl (lv_at hl 0 rfl) ?_
        refine lv_if_ne (tgt := 22) zx zb dX6_takeRace_15 (by decide) (fun c_10 => ?_) (fun c_10 => absurd c_10 (fun q => absurd (j_eq (b := 0) (by omega) (by omega) q) (by omega)))
        refine lv_iconst (v := 0) zx zb dX6_takeRace_22 (by decide) ?_
        refine b_wv (cells' := 0) (slots' := 0) (wr := []) G rfl rfl [16, 17, 0, 1, 2, 3, 4, 5, 6, 7, 8, 9, 10, 11, 12, 13, 14, 15] [] rfl rfl rfl rfl (n_VS (As := [.ref hn, .int 0]) (rest := []) (C := RX6) (T := TX6) (N := 7) (ci := 4) S G hZ (x_takeItem l X K h0 hb n b12_1 v12_1 fd (b12_1 0) hn an sv12_0 dv12_0 n012_0 n112_0 n2_4f n3_4g n4_4h g0 gs gn gm hI_n hI_b12_1 hI_n012_0 hI_n112_0 hI_n2_4f hI_n3_4g hI_n4_4h (by omega) hx12_0.2.1 hx12_0.2.2.2.1 H.size) gX6_takeRace_X6_takeItem rfl rfl rfl hdV_X6_takeItem ⟨Nat.le_of_ble_eq_true rfl, Nat.le_of_ble_eq_true rfl⟩ [16, 17, 0, 1, 2, 3, 4, 5, 6, 7, 8, 9, 10, 11, 12, 13, 14, 15] rfl rfl 16 rfl rfl rfl hl.1 (Nat.le_of_ble_eq_true rfl) dX6_takeRace_23 ⟨Nat.le_of_ble_eq_true rfl, Nat.le_of_ble_eq_true rfl⟩) (fun u_11 H locs hp_11 G => ?_)
        obtain ⟨b_11a, v_11b, sv_11c, dv_11d, n0_11e, n1_11f⟩ := u_11
        try dsimp only at hp_11
        obtain ⟨hI_b_11a, hI_n0_11e, hI_n1_11f, hq_11⟩ := hp_11
        have hO_b_11a := hI_b_11a
        obtain ⟨hd0_b_11a, hd1_b_11a⟩ := hO_b_11a
        have G : wd X (va_A (@HAppend.hAppend va_W va_W va_W _ (rdV X h0 hb n bd vd fd) (rcV X hn an sv dv n0 n1 n2 n3 n4 g0 gs gn gm)) sz) (va_A (@HAppend.hAppend va_W va_W va_W _ (rdV X h0 hb n bd vd fd) (rcV X hn an sv dv n0 n1 n2 n3 n4 g0 gs gn gm)) sz) s (@HAppend.hAppend va_W va_W va_W _ (rdV X h0 hb n b_11a v_11b fd) (rcV X hn an sv_11c dv_11d n0_11e n1_11f n2_4f n3_4g n4_4h g0 gs gn gm)) H locs := G
        rcases hq_11 with ⟨hi0_11, ⟨hi1_11, hi2_11, hi3_11⟩, hi4_11, hi5_11⟩ | ⟨pp_11, hi0_11, hi1_11, hi2_11⟩
        · have hadv := it_adv (T := fd) (by omega) hx12_0.2.2.1 hi0_11
          have hadw := tE_le (T := fd) hadv.2
          refine lv_iinc (v := (nI (n12_2 + 1))) (lv' := [(2, .int (nI (n12_2 + 1))), (0, .ref h0), (1, .ref hn)]) zx zb dX6_takeRace_26 hl (k := 0) rfl (nI_add n12_2 1) (by decide) rfl (fun ls hl => ?_)
          refine lv_aload_n zx zb dX6_takeRace_29 rfl (lv_at hl 1 rfl) ?_
          refine b_wv (cells' := 0) (slots' := 0) (wr := rcV X hn an sv_11c dv_11d n0_11e n1_11f n2_4f n3_4g n4_4h g0 gs gn gm) G rfl rfl [0, 1] [2, 3, 4, 5, 6, 7, 8, 9, 10, 11, 12, 13, 14, 15, 16, 17] rfl rfl rfl rfl (n_V (As := []) (rest := []) (C := RX6) (T := TX6) (N := 7) (ci := 4) S G (x_skipBlanks l X h0 hb n b_11a v_11b fd hI_n hI_b_11a (by omega) H.size) gX6_takeRace_X6_skipBlanks rfl rfl rfl hdV_X6_skipBlanks ⟨Nat.le_of_ble_eq_true rfl, Nat.le_of_ble_eq_true rfl⟩ [0, 1] rfl rfl 0 rfl rfl rfl hl.1 (Nat.le_of_ble_eq_true rfl) dX6_takeRace_30 ⟨Nat.le_of_ble_eq_true rfl, Nat.le_of_ble_eq_true rfl⟩) (fun u_12 H locs hp_12 G => ?_)
          obtain ⟨b_12, rfl⟩ : ∃ z, z = u_12 := ⟨_, rfl⟩
          obtain ⟨hI_b_12, hq_12⟩ := hp_12
          have hO_b_12 := hI_b_12
          obtain ⟨hd0_b_12, hd1_b_12⟩ := hO_b_12
          have G : wd X (va_A (@HAppend.hAppend va_W va_W va_W _ (rdV X h0 hb n bd vd fd) (rcV X hn an sv dv n0 n1 n2 n3 n4 g0 gs gn gm)) sz) (va_A (@HAppend.hAppend va_W va_W va_W _ (rdV X h0 hb n bd vd fd) (rcV X hn an sv dv n0 n1 n2 n3 n4 g0 gs gn gm)) sz) s (@HAppend.hAppend va_W va_W va_W _ (rcV X hn an sv_11c dv_11d n0_11e n1_11f n2_4f n3_4g n4_4h g0 gs gn gm) (rdV X h0 hb n b_12 v_11b fd)) H locs := G
          obtain ⟨hz0_12, hz1_12⟩ := hq_12
          refine lv_aload_n zx zb dX6_takeRace_33 rfl (lv_at hl 1 rfl) ?_
          refine r_get (C := RX6) (T := TX6) (N := 7) (ci := 4) (v := .int (v_11b 2)) S in_X6_takeRace_X6 G 16 rfl rfl 6 (by decide) lk_X6_takeRace_31 rfl dX6_takeRace_34 ?_
          refine lv_iconst (v := (-1)) zx zb dX6_takeRace_37 (by decide) ?_
          refine lv_icmp_ne (tgt := 59) zx zb dX6_takeRace_38 (by decide) (fun c_13 => absurd (hi4_11) c_13) (fun c_13 => ?_)
          refine lv_aload_n zx zb dX6_takeRace_41 rfl (lv_at hl 1 rfl) ?_
          refine r_get (C := RX6) (T := TX6) (N := 7) (ci := 4) (v := .int (nI (b_12 0))) S in_X6_takeRace_X6 G 16 rfl rfl 2 (by decide) lk_X6_takeRace_19 rfl dX6_takeRace_42 ?_
          refine lv_aload_n zx zb dX6_takeRace_45 rfl (lv_at hl 1 rfl) ?_
          refine r_get (C := RX6) (T := TX6) (N := 7) (ci := 4) (v := .int (nI n)) S in_X6_takeRace_X6 G 16 rfl rfl 1 (by decide) lk_X6_takeRace_15 rfl dX6_takeRace_46 ?_
          refine lv_icmp_ge (tgt := 59) zx zb dX6_takeRace_49 (by decide) (fun c_14 => ?_) (fun c_14 => ?_)
          · have fc_14 := j_le (a := n) (b := (b_12 0)) (by omega) (by omega) c_14
            refine lv_aload_n zx zb dX6_takeRace_59 rfl (lv_at hl 1 rfl) ?_
            refine r_get (C := RX6) (T := TX6) (N := 7) (ci := 4) (v := .int (v_11b 2)) S in_X6_takeRace_X6 G 16 rfl rfl 6 (by decide) lk_X6_takeRace_31 rfl dX6_takeRace_60 ?_
            refine lv_iconst (v := (-1)) zx zb dX6_takeRace_63 (by decide) ?_
            refine lv_icmp_ne (tgt := 71) zx zb dX6_takeRace_64 (by decide) (fun c_15 => absurd (hi4_11) c_15) (fun c_15 => ?_)
            refine lv_iload_n zx zb dX6_takeRace_67 rfl (lv_at hl 0 rfl) ?_
            refine lv_goto (tgt := 78) zx zb dX6_takeRace_68 (by decide) ?_
            exact e_int S zr zlk (vp_nar_int _) G (b_12, v_11b, sv_11c, dv_11d, n0_11e, n1_11f, n2_4f, n3_4g, n4_4h) [16, 17, 0, 1, 2, 3, 4, 5, 6, 7, 8, 9, 10, 11, 12, 13, 14, 15] rfl rfl (Or.inr rfl) (⟨hI_b_12, hI_n0_11e, hI_n1_11f, hI_n2_4f, hI_n3_4g, hI_n4_4h, by have e0 : b_12 0 = tN fd n (itT fd n (b12_1 0) n012_0) := (by rw [hz0_12, hi5_11]; rfl); have z0 : tK fd n (tN fd n (itT fd n (b12_1 0) n012_0)) = 0 := (by rw [← e0]; exact (tok_end (by first | omega | (dsimp only; omega))).2); have e : rdA fd n sv dv = (nI (n12_2 + 1), (true, (itN fd n (b12_1 0) n012_0, (itS fd n (b12_1 0) n012_0 sv12_0, itD fd n (b12_1 0) n012_0 sv12_0 dv12_0)))) := (by rw [← hx12_0.2.2.2.2, show 152 - n12_2 = (151 - n12_2) + 1 from by first | omega | (dsimp only; omega), rdP_n hx12_0.2.2.1 hi0_11, show 151 - n12_2 = (150 - n12_2) + 1 from by first | omega | (dsimp only; omega)]; exact rdP_e z0); rw [e]; exact ⟨rfl, fun _ => ⟨⟨hi1_11, hi2_11, hi3_11⟩, hi3_4.2.2⟩, Or.inl ⟨rfl, nI_pos (by first | omega | (dsimp only; omega))⟩⟩⟩) dX6_takeRace_78
          · have fc_14 := j_nle (a := n) (b := (b_12 0)) (by omega) (by omega) c_14
            refine lv_iload_n zx zb dX6_takeRace_52 rfl (lv_at hl 0 rfl) ?_
            refine lv_sipush (v := 150) zx zb dX6_takeRace_53 (by decide) ?_
            refine lv_icmp_lt (tgt := 12) zx zb dX6_takeRace_56 (by decide) (fun c_16 => ?_) (fun c_16 => ?_)
            · have fc_16 := j_lt (a := (n12_2 + 1)) (b := 150) (by omega) (by omega) c_16
              exact ih12 (n12_2 + 1) sv_11c dv_11d n0_11e n1_11f b_12 v_11b _ _ _ (by omega) (by have e0 : b_12 0 = tN fd n (itT fd n (b12_1 0) n012_0) := (by rw [hz0_12, hi5_11]; rfl); have e1 : scanP qB fd n (b_12 0) = b_12 0 := (by rw [hz0_12]; exact scan_id (by omega)); have e2 := tN_le (T := fd) hadv.2; exact ⟨by omega, e1, fun z => absurd (tK_0 z) (by omega), hi4_11, by rw [e0, hi1_11, hi2_11, hi3_11, ← hx12_0.2.2.2.2, show 152 - n12_2 = (152 - (n12_2 + 1)) + 1 from by omega]; exact (rdP_n hx12_0.2.2.1 hi0_11).symm⟩) hI_n0_11e hI_n1_11f hI_b_12 (by omega) G hl
            · have fc_16 := j_nlt (a := (n12_2 + 1)) (b := 150) (by omega) (by omega) c_16
              refine lv_aload_n zx zb dX6_takeRace_59 rfl (lv_at hl 1 rfl) ?_
              refine r_get (C := RX6) (T := TX6) (N := 7) (ci := 4) (v := .int (v_11b 2)) S in_X6_takeRace_X6 G 16 rfl rfl 6 (by decide) lk_X6_takeRace_31 rfl dX6_takeRace_60 ?_
              refine lv_iconst (v := (-1)) zx zb dX6_takeRace_63 (by decide) ?_
              refine lv_icmp_ne (tgt := 71) zx zb dX6_takeRace_64 (by decide) (fun c_17 => absurd (hi4_11) c_17) (fun c_17 => ?_)
              refine lv_iload_n zx zb dX6_takeRace_67 rfl (lv_at hl 0 rfl) ?_
              refine lv_goto (tgt := 78) zx zb dX6_takeRace_68 (by decide) ?_
              exact e_int S zr zlk (vp_nar_int _) G (b_12, v_11b, sv_11c, dv_11d, n0_11e, n1_11f, n2_4f, n3_4g, n4_4h) [16, 17, 0, 1, 2, 3, 4, 5, 6, 7, 8, 9, 10, 11, 12, 13, 14, 15] rfl rfl (Or.inr rfl) (⟨hI_b_12, hI_n0_11e, hI_n1_11f, hI_n2_4f, hI_n3_4g, hI_n4_4h, by have e0 : b_12 0 = tN fd n (itT fd n (b12_1 0) n012_0) := (by rw [hz0_12, hi5_11]; rfl); have z0 : tK fd n (tN fd n (itT fd n (b12_1 0) n012_0)) = 0 := (by rw [← e0]; exact (tok_end (by first | omega | (dsimp only; omega))).2); have e : rdA fd n sv dv = (nI (n12_2 + 1), (true, (itN fd n (b12_1 0) n012_0, (itS fd n (b12_1 0) n012_0 sv12_0, itD fd n (b12_1 0) n012_0 sv12_0 dv12_0)))) := (by rw [← hx12_0.2.2.2.2, show 152 - n12_2 = (151 - n12_2) + 1 from by first | omega | (dsimp only; omega), rdP_n hx12_0.2.2.1 hi0_11, show 151 - n12_2 = (150 - n12_2) + 1 from by first | omega | (dsimp only; omega)]; exact rdP_e z0); rw [e]; exact ⟨rfl, fun _ => ⟨⟨hi1_11, hi2_11, hi3_11⟩, hi3_4.2.2⟩, Or.inl ⟨rfl, nI_pos (by first | omega | (dsimp only; omega))⟩⟩⟩) dX6_takeRace_78
        · refine lv_iinc (v := (nI (n12_2 + 1))) (lv' := [(2, .int (nI (n12_2 + 1))), (0, .ref h0), (1, .ref hn)]) zx zb dX6_takeRace_26 hl (k := 0) rfl (nI_add n12_2 1) (by decide) rfl (fun ls hl => ?_)
          refine lv_aload_n zx zb dX6_takeRace_29 rfl (lv_at hl 1 rfl) ?_
          refine b_wv (cells' := 0) (slots' := 0) (wr := rcV X hn an sv_11c dv_11d n0_11e n1_11f n2_4f n3_4g n4_4h g0 gs gn gm) G rfl rfl [0, 1] [2, 3, 4, 5, 6, 7, 8, 9, 10, 11, 12, 13, 14, 15, 16, 17] rfl rfl rfl rfl (n_V (As := []) (rest := []) (C := RX6) (T := TX6) (N := 7) (ci := 4) S G (x_skipBlanksS l X h0 hb n b_11a v_11b fd hI_n hI_b_11a H.size) gX6_takeRace_X6_skipBlanks rfl rfl rfl hdV_X6_skipBlanks ⟨Nat.le_of_ble_eq_true rfl, Nat.le_of_ble_eq_true rfl⟩ [0, 1] rfl rfl 0 rfl rfl rfl hl.1 (Nat.le_of_ble_eq_true rfl) dX6_takeRace_30 ⟨Nat.le_of_ble_eq_true rfl, Nat.le_of_ble_eq_true rfl⟩) (fun u_18 H locs hp_18 G => ?_)
          obtain ⟨b_18, rfl⟩ : ∃ z, z = u_18 := ⟨_, rfl⟩
          obtain ⟨hI_b_18, hq_18⟩ := hp_18
          have hO_b_18 := hI_b_18
          obtain ⟨hd0_b_18, hd1_b_18⟩ := hO_b_18
          have G : wd X (va_A (@HAppend.hAppend va_W va_W va_W _ (rdV X h0 hb n bd vd fd) (rcV X hn an sv dv n0 n1 n2 n3 n4 g0 gs gn gm)) sz) (va_A (@HAppend.hAppend va_W va_W va_W _ (rdV X h0 hb n bd vd fd) (rcV X hn an sv dv n0 n1 n2 n3 n4 g0 gs gn gm)) sz) s (@HAppend.hAppend va_W va_W va_W _ (rcV X hn an sv_11c dv_11d n0_11e n1_11f n2_4f n3_4g n4_4h g0 gs gn gm) (rdV X h0 hb n b_18 v_11b fd)) H locs := G
          refine lv_aload_n zx zb dX6_takeRace_33 rfl (lv_at hl 1 rfl) ?_
          refine r_get (C := RX6) (T := TX6) (N := 7) (ci := 4) (v := .int (v_11b 2)) S in_X6_takeRace_X6 G 16 rfl rfl 6 (by decide) lk_X6_takeRace_31 rfl dX6_takeRace_34 ?_
          refine lv_iconst (v := (-1)) zx zb dX6_takeRace_37 (by decide) ?_
          refine lv_icmp_ne (tgt := 59) zx zb dX6_takeRace_38 (by decide) (fun c_19 => ?_) (fun c_19 => absurd c_19 (k_nf hi1_11 (by omega)))
          refine lv_aload_n zx zb dX6_takeRace_59 rfl (lv_at hl 1 rfl) ?_
          refine r_get (C := RX6) (T := TX6) (N := 7) (ci := 4) (v := .int (v_11b 2)) S in_X6_takeRace_X6 G 16 rfl rfl 6 (by decide) lk_X6_takeRace_31 rfl dX6_takeRace_60 ?_
          refine lv_iconst (v := (-1)) zx zb dX6_takeRace_63 (by decide) ?_
          refine lv_icmp_ne (tgt := 71) zx zb dX6_takeRace_64 (by decide) (fun c_20 => ?_) (fun c_20 => absurd c_20 (k_nf hi1_11 (by omega)))
          refine lv_bipush (v := (-10)) zx zb dX6_takeRace_71 (by decide) ?_
          refine lv_aload_n zx zb dX6_takeRace_73 rfl (lv_at hl 1 rfl) ?_
          refine r_get (C := RX6) (T := TX6) (N := 7) (ci := 4) (v := .int (v_11b 2)) S in_X6_takeRace_X6 G 16 rfl rfl 6 (by decide) lk_X6_takeRace_31 rfl dX6_takeRace_74 ?_
          refine r_isub (v := ((-10) - (v_11b 2))) S rfl dX6_takeRace_77 ?_
          exact e_int S zr zlk (vp_nar_int _) G (b_18, v_11b, sv_11c, dv_11d, n0_11e, n1_11f, n2_4f, n3_4g, n4_4h) [16, 17, 0, 1, 2, 3, 4, 5, 6, 7, 8, 9, 10, 11, 12, 13, 14, 15] rfl rfl (Or.inr rfl) (⟨hI_b_18, hI_n0_11e, hI_n1_11f, hI_n2_4f, hI_n3_4g, hI_n4_4h, by have e : rdA fd n sv dv = (-10 - nI pp_11, (false, (n012_0, (sv12_0, dv12_0)))) := (by rw [← hx12_0.2.2.2.2, show 152 - n12_2 = (151 - n12_2) + 1 from by first | omega | (dsimp only; omega)]; exact rdP_f hx12_0.2.2.1 hi0_11); rw [e]; exact ⟨by rw [hi1_11], fun q => absurd (show false = true from q) (by decide), Or.inr ⟨rfl, by rw [hi1_11]; exact k_m10 (by first | omega | (dsimp only; omega))⟩⟩⟩) dX6_takeRace_78
  · refine lv_iinc (v := 1) (lv' := [(2, .int 1), (0, .ref h0), (1, .ref hn)]) zx zb dX6_takeRace_26 hl (k := 0) rfl (by decide) (by decide) rfl (fun ls hl => ?_)
    refine lv_aload_n zx zb dX6_takeRace_29 rfl (lv_at hl 1 rfl) ?_
    refine b_wv (cells' := 0) (slots' := 0) (wr := rcV X hn an sv dv_4c n0_4d n1_4e n2_4f n3_4g n4_4h g0 gs gn gm) G rfl rfl [0, 1] [2, 3, 4, 5, 6, 7, 8, 9, 10, 11, 12, 13, 14, 15, 16, 17] rfl rfl rfl rfl (n_V (As := []) (rest := []) (C := RX6) (T := TX6) (N := 7) (ci := 4) S G (x_skipBlanksS l X h0 hb n b_4a v_4b fd hI_n hI_b_4a H.size) gX6_takeRace_X6_skipBlanks rfl rfl rfl hdV_X6_skipBlanks ⟨Nat.le_of_ble_eq_true rfl, Nat.le_of_ble_eq_true rfl⟩ [0, 1] rfl rfl 0 rfl rfl rfl hl.1 (Nat.le_of_ble_eq_true rfl) dX6_takeRace_30 ⟨Nat.le_of_ble_eq_true rfl, Nat.le_of_ble_eq_true rfl⟩) (fun u_21 H locs hp_21 G => ?_)
    obtain ⟨b_21, rfl⟩ : ∃ z, z = u_21 := ⟨_, rfl⟩
    obtain ⟨hI_b_21, hq_21⟩ := hp_21
    have hO_b_21 := hI_b_21
    obtain ⟨hd0_b_21, hd1_b_21⟩ := hO_b_21
    have G : wd X (va_A (@HAppend.hAppend va_W va_W va_W _ (rdV X h0 hb n bd vd fd) (rcV X hn an sv dv n0 n1 n2 n3 n4 g0 gs gn gm)) sz) (va_A (@HAppend.hAppend va_W va_W va_W _ (rdV X h0 hb n bd vd fd) (rcV X hn an sv dv n0 n1 n2 n3 n4 g0 gs gn gm)) sz) s (@HAppend.hAppend va_W va_W va_W _ (rcV X hn an sv dv_4c n0_4d n1_4e n2_4f n3_4g n4_4h g0 gs gn gm) (rdV X h0 hb n b_21 v_4b fd)) H locs := G
    refine lv_aload_n zx zb dX6_takeRace_33 rfl (lv_at hl 1 rfl) ?_
    refine r_get (C := RX6) (T := TX6) (N := 7) (ci := 4) (v := .int (v_4b 2)) S in_X6_takeRace_X6 G 16 rfl rfl 6 (by decide) lk_X6_takeRace_31 rfl dX6_takeRace_34 ?_
    refine lv_iconst (v := (-1)) zx zb dX6_takeRace_37 (by decide) ?_
    refine lv_icmp_ne (tgt := 59) zx zb dX6_takeRace_38 (by decide) (fun c_22 => ?_) (fun c_22 => absurd c_22 (k_nf hi1_4 (by omega)))
    refine lv_aload_n zx zb dX6_takeRace_59 rfl (lv_at hl 1 rfl) ?_
    refine r_get (C := RX6) (T := TX6) (N := 7) (ci := 4) (v := .int (v_4b 2)) S in_X6_takeRace_X6 G 16 rfl rfl 6 (by decide) lk_X6_takeRace_31 rfl dX6_takeRace_60 ?_
    refine lv_iconst (v := (-1)) zx zb dX6_takeRace_63 (by decide) ?_
    refine lv_icmp_ne (tgt := 71) zx zb dX6_takeRace_64 (by decide) (fun c_23 => ?_) (fun c_23 => absurd c_23 (k_nf hi1_4 (by omega)))
    refine lv_bipush (v := (-10)) zx zb dX6_takeRace_71 (by decide) ?_
    refine lv_aload_n zx zb dX6_takeRace_73 rfl (lv_at hl 1 rfl) ?_
    refine r_get (C := RX6) (T := TX6) (N := 7) (ci := 4) (v := .int (v_4b 2)) S in_X6_takeRace_X6 G 16 rfl rfl 6 (by decide) lk_X6_takeRace_31 rfl dX6_takeRace_74 ?_
    refine r_isub (v := ((-10) - (v_4b 2))) S rfl dX6_takeRace_77 ?_
    exact e_int S zr zlk (vp_nar_int _) G (b_21, v_4b, sv, dv_4c, n0_4d, n1_4e, n2_4f, n3_4g, n4_4h) [16, 17, 0, 1, 2, 3, 4, 5, 6, 7, 8, 9, 10, 11, 12, 13, 14, 15] rfl rfl (Or.inr rfl) (⟨hI_b_21, hI_n0_4d, hI_n1_4e, hI_n2_4f, hI_n3_4g, hI_n4_4h, by have e : rdA fd n sv dv = (-10 - nI pp_4, (false, (0, (sv, dv)))) := (by rcases hi0_4 with ⟨q1, q2⟩ | ⟨q1, q2⟩; exact (rdA_w (by rw [hs0]; exact q1)).trans (by rw [q2, hs0]); exact rdA_f (by rw [hs0]; exact q1) (by rw [hs0]; exact q2)); rw [e]; exact ⟨by rw [hi1_4], fun q => absurd (show false = true from q) (by decide), Or.inr ⟨rfl, by rw [hi1_4]; exact k_m10 (by first | omega | (dsimp only; omega))⟩⟩⟩) dX6_takeRace_78
set_option maxHeartbeats 4000000 in
set_option maxRecDepth 100000 in
theorem x_read (l : Launch) (X : EX) (K : SK) (h0 : Nat) (nw : Nat) (sp : Nat) (xa : Nat → Nat) (la : Int64) (lb : Int64) (an : Nat → Nat) (sv : Nat → Int32) (dv : Nat → Int32) (n0 : Nat) (n1 : Nat) (n2 : Nat) (n3 : Nat) (n4 : Nat) (g0 : Nat → Int32) (gs : Nat → Int32) (gn : Nat → Int32) (gm : Nat → Int32) (adp : Nat → Nat) (svp : Nat → Int32) (dvp : Nat → Int32) (n0p : Nat) (n1p : Nat) (n2p : Nat) (n3p : Nat) (n4p : Nat) (g0p : Nat → Int32) (gsp : Nat → Int32) (gnp : Nat → Int32) (gmp : Nat → Int32) (hb : Nat) (n : Nat) (bd : Nat → Nat) (vd : Nat → Int32) (fd : Nat → Int32) (hI_n0 : n0 ≤ 6) (hI_n1 : n1 ≤ 8) (hI_n2 : n2 ≤ 5) (hI_n3 : n3 ≤ 6) (hI_n4 : n4 ≤ 6) (hI_n0p : n0p ≤ 6) (hI_n1p : n1p ≤ 8) (hI_n2p : n2p ≤ 5) (hI_n3p : n3p ≤ 6) (hI_n4p : n4p ≤ 6) (hI_n : n ≤ 150) (hI_bd : InP bd) (sz : Nat) : Met l yX10_read wsX10_read ({ frames := 7, cells := 0, slots := 0, locals := 151 } : Room) (pS X K [.ref h0] (@HAppend.hAppend va_W va_W va_W _ (xW h0 nw sp xa la lb) (@HAppend.hAppend va_W va_W va_W _ (rcV X nw an sv dv n0 n1 n2 n3 n4 g0 gs gn gm) (@HAppend.hAppend va_W va_W va_W _ (rcV X sp adp svp dvp n0p n1p n2p n3p n4p g0p gsp gnp gmp) (rdV X (xa 4) hb n bd vd fd)))) sz) (qI (fun (r : Int32) (u : Bool × (Nat → Int32) × (Nat → Int32) × (Nat) × (Nat) × (Nat) × (Nat) × (Nat) × (Nat → Nat) × (Nat → Int32)) => u.2.2.2.1 ≤ 6 ∧ u.2.2.2.2.1 ≤ 8 ∧ u.2.2.2.2.2.1 ≤ 5 ∧ u.2.2.2.2.2.2.1 ≤ 6 ∧ u.2.2.2.2.2.2.2.1 ≤ 6 ∧ InP u.2.2.2.2.2.2.2.2.1 ∧ (r = (rdA fd n svp dvp).1 ∧ ((u.1 = true ∧ (rdA fd n svp dvp).2.1 = true ∧ (u.2.2.2.1 = (rdA fd n svp dvp).2.2.1 ∧ u.2.1 = (rdA fd n svp dvp).2.2.2.1 ∧ u.2.2.1 = (rdA fd n svp dvp).2.2.2.2) ∧ (u.2.2.2.2.2.1 = 0 ∧ u.2.2.2.2.2.2.1 = 0 ∧ u.2.2.2.2.2.2.2.1 = 0)) ∨ (u.1 = false ∧ (rdA fd n svp dvp).2.1 = false)))) X (fun (u : Bool × (Nat → Int32) × (Nat → Int32) × (Nat) × (Nat) × (Nat) × (Nat) × (Nat) × (Nat → Nat) × (Nat → Int32)) => @HAppend.hAppend va_W va_W va_W _ (xW h0 (cond u.1 sp nw) (cond u.1 nw sp) xa la lb) (@HAppend.hAppend va_W va_W va_W _ (rcV X nw an sv dv n0 n1 n2 n3 n4 g0 gs gn gm) (@HAppend.hAppend va_W va_W va_W _ (rcV X sp adp u.2.1 u.2.2.1 u.2.2.2.1 u.2.2.2.2.1 u.2.2.2.2.2.1 u.2.2.2.2.2.2.1 u.2.2.2.2.2.2.2.1 g0p gsp gnp gmp) (rdV X (xa 4) hb n u.2.2.2.2.2.2.2.2.1 u.2.2.2.2.2.2.2.2.2 fd)))) (@HAppend.hAppend va_W va_W va_W _ (xW h0 nw sp xa la lb) (@HAppend.hAppend va_W va_W va_W _ (rcV X nw an sv dv n0 n1 n2 n3 n4 g0 gs gn gm) (@HAppend.hAppend va_W va_W va_W _ (rcV X sp adp svp dvp n0p n1p n2p n3p n4p g0p gsp gnp gmp) (rdV X (xa 4) hb n bd vd fd)))) sz) 0 0 (va_A (@HAppend.hAppend va_W va_W va_W _ (xW h0 nw sp xa la lb) (@HAppend.hAppend va_W va_W va_W _ (rcV X nw an sv dv n0 n1 n2 n3 n4 g0 gs gn gm) (@HAppend.hAppend va_W va_W va_W _ (rcV X sp adp svp dvp n0p n1p n2p n3p n4p g0p gsp gnp gmp) (rdV X (xa 4) hb n bd vd fd)))) sz) := by
  refine mk_metS (B := (va_A (@HAppend.hAppend va_W va_W va_W _ (xW h0 nw sp xa la lb) (@HAppend.hAppend va_W va_W va_W _ (rcV X nw an sv dv n0 n1 n2 n3 n4 g0 gs gn gm) (@HAppend.hAppend va_W va_W va_W _ (rcV X sp adp svp dvp n0p n1p n2p n3p n4p g0p gsp gnp gmp) (rdV X (xa 4) hb n bd vd fd)))) sz)) (A := (va_A (@HAppend.hAppend va_W va_W va_W _ (xW h0 nw sp xa la lb) (@HAppend.hAppend va_W va_W va_W _ (rcV X nw an sv dv n0 n1 n2 n3 n4 g0 gs gn gm) (@HAppend.hAppend va_W va_W va_W _ (rcV X sp adp svp dvp n0p n1p n2p n3p n4p g0p gsp gnp gmp) (rdV X (xa 4) hb n bd vd fd)))) sz)) (cc := cX10_read) (maxL := 3) (ret := (some .int)) (by decide) rfl (Nat.le_of_ble_eq_true rfl) k_w k_a (fun p e s m below meth c S zr zlk znm zsz G hZ ls hl => ?_)
  have S : CallFix p m c cX10_read 3 s _ wsX10_read RX10 := S
  have zx := S.1
  have zb := S.2.1
  have hl : lv_has ls 3 [(0, .ref h0)] := hl
  have hO_bd := hI_bd
  obtain ⟨hd0_bd, hd1_bd⟩ := hO_bd
  refine lv_aload_n zx zb dX10_read_0 rfl (lv_at hl 0 rfl) ?_
  refine r_get (C := RX10) (T := TX10) (N := 14) (ci := 8) (v := .ref (xa 4)) S in_X10_read_X10 G 0 rfl rfl 4 (by decide) lk_X10_read_30 rfl dX10_read_1 ?_
  refine lv_aload_n zx zb dX10_read_4 rfl (lv_at hl 0 rfl) ?_
  refine r_get (C := RX10) (T := TX10) (N := 14) (ci := 8) (v := .ref sp) S in_X10_read_X10 G 0 rfl rfl 1 (by decide) lk_X10_read_16 rfl dX10_read_5 ?_
  refine b_wi (cells' := 0) (slots' := 0) (wr := @HAppend.hAppend va_W va_W va_W _ (xW h0 nw sp xa la lb) (rcV X nw an sv dv n0 n1 n2 n3 n4 g0 gs gn gm)) G rfl rfl [33, 34, 17, 18, 19, 20, 21, 22, 23, 24, 25, 26, 27, 28, 29, 30, 31, 32] [0, 1, 2, 3, 4, 5, 6, 7, 8, 9, 10, 11, 12, 13, 14, 15, 16] rfl rfl rfl rfl (n_VS (As := [.ref sp]) (rest := []) (C := RX6) (T := TX6) (N := 7) (ci := 4) S G hZ (x_takeRace l X K (xa 4) hb n bd vd fd sp adp svp dvp n0p n1p n2p n3p n4p g0p gsp gnp gmp hI_n hI_bd hI_n0p hI_n1p hI_n2p hI_n3p hI_n4p s.heap.size) gX10_read_X6_takeRace rfl rfl rfl hdV_X6_takeRace ⟨Nat.le_of_ble_eq_true rfl, Nat.le_of_ble_eq_true rfl⟩ [33, 34, 17, 18, 19, 20, 21, 22, 23, 24, 25, 26, 27, 28, 29, 30, 31, 32] rfl rfl 33 rfl rfl rfl hl.1 (Nat.le_of_ble_eq_true rfl) dX10_read_8 ⟨Nat.le_of_ble_eq_true rfl, Nat.le_of_ble_eq_true rfl⟩) (fun r_1 u_1 H locs hp_1 G => ?_)
  obtain ⟨b_1a, v_1b, sv_1c, dv_1d, n0_1e, n1_1f, n2_1g, n3_1h, n4_1i⟩ := u_1
  try dsimp only at hp_1
  obtain ⟨hI_b_1a, hI_n0_1e, hI_n1_1f, hI_n2_1g, hI_n3_1h, hI_n4_1i, hq_1⟩ := hp_1
  have hO_b_1a := hI_b_1a
  obtain ⟨hd0_b_1a, hd1_b_1a⟩ := hO_b_1a
  have G : wd X (va_A (@HAppend.hAppend va_W va_W va_W _ (xW h0 nw sp xa la lb) (@HAppend.hAppend va_W va_W va_W _ (rcV X nw an sv dv n0 n1 n2 n3 n4 g0 gs gn gm) (@HAppend.hAppend va_W va_W va_W _ (rcV X sp adp svp dvp n0p n1p n2p n3p n4p g0p gsp gnp gmp) (rdV X (xa 4) hb n bd vd fd)))) sz) (va_A (@HAppend.hAppend va_W va_W va_W _ (xW h0 nw sp xa la lb) (@HAppend.hAppend va_W va_W va_W _ (rcV X nw an sv dv n0 n1 n2 n3 n4 g0 gs gn gm) (@HAppend.hAppend va_W va_W va_W _ (rcV X sp adp svp dvp n0p n1p n2p n3p n4p g0p gsp gnp gmp) (rdV X (xa 4) hb n bd vd fd)))) sz) s (@HAppend.hAppend va_W va_W va_W _ (xW h0 nw sp xa la lb) (@HAppend.hAppend va_W va_W va_W _ (rcV X nw an sv dv n0 n1 n2 n3 n4 g0 gs gn gm) (@HAppend.hAppend va_W va_W va_W _ (rdV X (xa 4) hb n b_1a v_1b fd) (rcV X sp adp sv_1c dv_1d n0_1e n1_1f n2_1g n3_1h n4_1i g0p gsp gnp gmp)))) H locs := G
  obtain ⟨hr0_1, hr1_1, hr2_1⟩ := hq_1
  refine lv_istore_n (lv' := [(1, .int r_1), (0, .ref h0)]) zx zb dX10_read_11 rfl hl (by decide) rfl (fun ls hl => ?_)
  refine lv_iload_n zx zb dX10_read_12 rfl (lv_at hl 0 rfl) ?_
  refine lv_if_lt (tgt := 34) zx zb dX10_read_13 (by decide) (fun c_2 => ?_) (fun c_2 => ?_)
  · refine lv_iload_n zx zb dX10_read_34 rfl (lv_at hl 0 rfl) ?_
    exact e_int S zr zlk (vp_nar_int _) G (false, sv_1c, dv_1d, n0_1e, n1_1f, n2_1g, n3_1h, n4_1i, b_1a, v_1b) [0, 1, 2, 3, 4, 5, 6, 7, 8, 9, 10, 11, 12, 13, 14, 15, 16, 19, 20, 21, 22, 23, 24, 25, 26, 27, 28, 29, 30, 31, 32, 33, 34, 17, 18] rfl rfl (Or.inr rfl) (⟨hI_n0_1e, hI_n1_1f, hI_n2_1g, hI_n3_1h, hI_n4_1i, hI_b_1a, ⟨hr0_1, Or.inr ⟨rfl, hr2_1.elim (fun q => absurd c_2 q.2) (fun q => q.1)⟩⟩⟩) dX10_read_35
  · refine lv_aload_n zx zb dX10_read_16 rfl (lv_at hl 1 rfl) ?_
    refine r_get (C := RX10) (T := TX10) (N := 14) (ci := 8) (v := .ref nw) S in_X10_read_X10 G 0 rfl rfl 0 (by decide) lk_X10_read_10 rfl dX10_read_17 ?_
    refine lv_astore_n (lv' := [(2, .ref nw), (1, .int r_1), (0, .ref h0)]) zx zb dX10_read_20 rfl hl (by decide) rfl (fun ls hl => ?_)
    refine lv_aload_n zx zb dX10_read_21 rfl (lv_at hl 2 rfl) ?_
    refine lv_aload_n zx zb dX10_read_22 rfl (lv_at hl 2 rfl) ?_
    refine r_get (C := RX10) (T := TX10) (N := 14) (ci := 8) (v := .ref sp) S in_X10_read_X10 G 0 rfl rfl 1 (by decide) lk_X10_read_16 rfl dX10_read_23 ?_
    refine r_put (C := RX10) (T := TX10) (N := 14) (ci := 8) (v := .ref sp) S in_X10_read_X10 tyX10_ok nmX10 G 0 rfl rfl 0 (by decide) lk_X10_read_10 rfl rfl rfl (Nat.le_of_ble_eq_true rfl) dX10_read_26 (fun H locs G => ?_)
    have G : wd X (va_A (@HAppend.hAppend va_W va_W va_W _ (xW h0 nw sp xa la lb) (@HAppend.hAppend va_W va_W va_W _ (rcV X nw an sv dv n0 n1 n2 n3 n4 g0 gs gn gm) (@HAppend.hAppend va_W va_W va_W _ (rcV X sp adp svp dvp n0p n1p n2p n3p n4p g0p gsp gnp gmp) (rdV X (xa 4) hb n bd vd fd)))) sz) (va_A (@HAppend.hAppend va_W va_W va_W _ (xW h0 nw sp xa la lb) (@HAppend.hAppend va_W va_W va_W _ (rcV X nw an sv dv n0 n1 n2 n3 n4 g0 gs gn gm) (@HAppend.hAppend va_W va_W va_W _ (rcV X sp adp svp dvp n0p n1p n2p n3p n4p g0p gsp gnp gmp) (rdV X (xa 4) hb n bd vd fd)))) sz) s (@HAppend.hAppend va_W va_W va_W _ (xW h0 sp sp xa la lb) (@HAppend.hAppend va_W va_W va_W _ (rcV X nw an sv dv n0 n1 n2 n3 n4 g0 gs gn gm) (@HAppend.hAppend va_W va_W va_W _ (rdV X (xa 4) hb n b_1a v_1b fd) (rcV X sp adp sv_1c dv_1d n0_1e n1_1f n2_1g n3_1h n4_1i g0p gsp gnp gmp)))) H locs := G
    refine lv_aload_n zx zb dX10_read_29 rfl (lv_at hl 2 rfl) ?_
    refine lv_aload_n zx zb dX10_read_30 rfl (lv_at hl 0 rfl) ?_
    refine r_put (C := RX10) (T := TX10) (N := 14) (ci := 8) (v := .ref nw) S in_X10_read_X10 tyX10_ok nmX10 G 0 rfl rfl 1 (by decide) lk_X10_read_16 rfl rfl rfl (Nat.le_of_ble_eq_true rfl) dX10_read_31 (fun H locs G => ?_)
    have G : wd X (va_A (@HAppend.hAppend va_W va_W va_W _ (xW h0 nw sp xa la lb) (@HAppend.hAppend va_W va_W va_W _ (rcV X nw an sv dv n0 n1 n2 n3 n4 g0 gs gn gm) (@HAppend.hAppend va_W va_W va_W _ (rcV X sp adp svp dvp n0p n1p n2p n3p n4p g0p gsp gnp gmp) (rdV X (xa 4) hb n bd vd fd)))) sz) (va_A (@HAppend.hAppend va_W va_W va_W _ (xW h0 nw sp xa la lb) (@HAppend.hAppend va_W va_W va_W _ (rcV X nw an sv dv n0 n1 n2 n3 n4 g0 gs gn gm) (@HAppend.hAppend va_W va_W va_W _ (rcV X sp adp svp dvp n0p n1p n2p n3p n4p g0p gsp gnp gmp) (rdV X (xa 4) hb n bd vd fd)))) sz) s (@HAppend.hAppend va_W va_W va_W _ (xW h0 sp nw xa la lb) (@HAppend.hAppend va_W va_W va_W _ (rcV X nw an sv dv n0 n1 n2 n3 n4 g0 gs gn gm) (@HAppend.hAppend va_W va_W va_W _ (rdV X (xa 4) hb n b_1a v_1b fd) (rcV X sp adp sv_1c dv_1d n0_1e n1_1f n2_1g n3_1h n4_1i g0p gsp gnp gmp)))) H locs := G
    refine lv_iload_n zx zb dX10_read_34 rfl (lv_at hl 1 rfl) ?_
    have ht : (rdA fd n svp dvp).2.1 = true := hr2_1.elim (fun q => q.1) (fun q => absurd q.2 c_2)
    exact e_int S zr zlk (vp_nar_int _) G (true, sv_1c, dv_1d, n0_1e, n1_1f, n2_1g, n3_1h, n4_1i, b_1a, v_1b) [0, 1, 2, 3, 4, 5, 6, 7, 8, 9, 10, 11, 12, 13, 14, 15, 16, 19, 20, 21, 22, 23, 24, 25, 26, 27, 28, 29, 30, 31, 32, 33, 34, 17, 18] rfl rfl (Or.inr rfl) (⟨hI_n0_1e, hI_n1_1f, hI_n2_1g, hI_n3_1h, hI_n4_1i, hI_b_1a, ⟨hr0_1, Or.inl ⟨rfl, ht, (hr1_1 ht).1, (hr1_1 ht).2⟩⟩⟩) dX10_read_35
set_option maxHeartbeats 4000000 in
set_option maxRecDepth 100000 in
theorem x_fitRunner0 (l : Launch) (X : EX) (h0 : Nat) (c0 : Nat) (n : Nat) (f : Nat → Int32) (x1 : Int32) (x2 : Int32) (x3 : Int32) (hI_n : n ≤ 5) (sz : Nat) : Met l yX7_fitRunner wsX7_fitRunner ({ frames := 1, cells := 0, slots := 0, locals := 26 } : Room) (pE X [.ref h0, .int x1, .int x2, .int x3] ([(h0, .inr (5, [.int 5, .int 0, .int 1, .ref c0, .int (nI n)])), (c0, .inl (X.2.1, 25, .inl f))]) sz) (qI (fun (r : Int32) (u : Unit) => (r = 1 ∧ fitP n (rowA f 0) (fun _ => x3) (rowA f 2) (rowA f 3) (rowA f 4) x1 x2) ∨ (r = 0 ∧ ¬ fitP n (rowA f 0) (fun _ => x3) (rowA f 2) (rowA f 3) (rowA f 4) x1 x2)) X (fun (u : Unit) => []) [] sz) 0 0 (va_A [] sz) := by
  refine mk_met (B := (fun _ => True)) (A := (va_A [] sz)) (cc := cX7_fitRunner) (maxL := 7) (ret := (some .boolean)) (by decide) rfl (Nat.le_of_ble_eq_true rfl) k_ro k_a (fun p e s m below meth c S zr zlk znm zsz G ls hl => ?_)
  have S : CallFix p m c cX7_fitRunner 7 s _ wsX7_fitRunner RX7 := S
  have zx := S.1
  have zb := S.2.1
  have hl : lv_has ls 7 [(0, .ref h0), (1, .int x1), (2, .int x2), (3, .int x3)] := hl
  refine lv_iconst (v := 0) zx zb dX7_fitRunner_0 (by decide) ?_
  refine lv_istore (lv' := [(4, .int 0), (0, .ref h0), (1, .int x1), (2, .int x2), (3, .int x3)]) zx zb dX7_fitRunner_1 hl (by decide) rfl (fun ls hl => ?_)
  refine k_loop (P := ∀ (zm : Nat) (n3_4 : Nat) (H : Heap) (locs : List Loc) (ls : Array Slot), ((n - n3_4) < zm) → (n3_4 ≤ n ∧ fitP n3_4 (rowA f 0) (fun _ => x3) (rowA f 2) (rowA f 3) (rowA f 4) x1 x2) → (n3_4 ≤ 6) → wd X (fun _ => True) (va_A [] sz) s ([(h0, .inr (5, [.int 5, .int 0, .int 1, .ref c0, .int (nI n)])), (c0, .inl (X.2.1, 25, .inl f))]) H locs → lv_has ls 7 [(4, .int (nI n3_4)), (0, .ref h0), (1, .int x1), (2, .int x2), (3, .int x3)] → W p l e _ s m _ below meth c H locs _ _ _ (F0 m 3 ls [])) (fun loop => loop ((n - 0) + 1) 0 _ _ _ (by omega) ⟨by omega, fitP_0⟩ (by omega) G hl) ?_
  intro zm
  induction zm with
  | zero => intro n3_4 H locs ls zz q_x0 q_hk_n3_4 _ _; exact absurd zz (by omega)
  | succ zm ih3 =>
    intro n3_4 H locs ls zm_3 hx3_0 hk_n3_4 G hl
    refine lv_iload zx zb dX7_fitRunner_3 (lv_at hl 0 rfl) ?_
    refine lv_aload_n zx zb dX7_fitRunner_5 rfl (lv_at hl 1 rfl) ?_
    refine r_get (C := RX7) (T := TX7) (N := 5) (ci := 5) (v := .int (nI n)) S in_X7_fitRunner_X7 G 0 rfl rfl 4 (by decide) lk_X7_fitRunner_7 rfl dX7_fitRunner_6 ?_
    refine lv_icmp_ge (tgt := 97) zx zb dX7_fitRunner_9 (by decide) (fun c_1 => ?_) (fun c_1 => ?_)
    · have fc_1 := j_le (a := n) (b := n3_4) (by omega) (by omega) c_1
      refine lv_iconst (v := 1) zx zb dX7_fitRunner_97 (by decide) ?_
      exact e_int S zr zlk (by decide) G () [] rfl rfl (Or.inl rfl) (Or.inl ⟨rfl, by rw [show n = n3_4 from by omega]; exact hx3_0.2⟩) dX7_fitRunner_98
    · have fc_1 := j_nle (a := n) (b := n3_4) (by omega) (by omega) c_1
      refine lv_iload zx zb dX7_fitRunner_12 (lv_at hl 0 rfl) ?_
      refine lv_iconst (v := 5) zx zb dX7_fitRunner_14 (by decide) ?_
      refine r_imul (v := (nI (n3_4 * 5))) S (pk_mul n3_4 5) dX7_fitRunner_15 ?_
      refine lv_istore (lv' := [(5, .int (nI (n3_4 * 5))), (4, .int (nI n3_4)), (0, .ref h0), (1, .int x1), (2, .int x2), (3, .int x3)]) zx zb dX7_fitRunner_16 hl (by decide) rfl (fun ls hl => ?_)
      refine lv_aload_n zx zb dX7_fitRunner_18 rfl (lv_at hl 2 rfl) ?_
      refine r_get (C := RX7) (T := TX7) (N := 5) (ci := 5) (v := .int 0) S in_X7_fitRunner_X7 G 0 rfl rfl 1 (by decide) lk_X7_fitRunner_16 rfl dX7_fitRunner_19 ?_
      refine lv_if_eq (tgt := 37) zx zb dX7_fitRunner_22 (by decide) (fun c_2 => ?_) (fun c_2 => absurd (by decide) c_2)
      refine lv_iload_n zx zb dX7_fitRunner_37 rfl (lv_at hl 5 rfl) ?_
      refine lv_istore (lv' := [(6, .int x3), (5, .int (nI (n3_4 * 5))), (4, .int (nI n3_4)), (0, .ref h0), (1, .int x1), (2, .int x2), (3, .int x3)]) zx zb dX7_fitRunner_38 hl (by decide) rfl (fun ls hl => ?_)
      refine lv_aload_n zx zb dX7_fitRunner_40 rfl (lv_at hl 3 rfl) ?_
      refine r_get (C := RX7) (T := TX7) (N := 5) (ci := 5) (v := .ref c0) S in_X7_fitRunner_X7 G 0 rfl rfl 3 (by decide) lk_X7_fitRunner_23 rfl dX7_fitRunner_41 ?_
      refine lv_iload zx zb dX7_fitRunner_44 (lv_at hl 1 rfl) ?_
      refine lv_iconst (v := 0) zx zb dX7_fitRunner_46 (by decide) ?_
      refine r_iadd (v := (nI ((n3_4 * 5) + 0))) S (nI_add (n3_4 * 5) 0) dX7_fitRunner_47 ?_
      refine r_iald (v := (f ((n3_4 * 5) + 0))) S G 1 rfl (vp_in_nI (by omega) (by decide)) (congrArg f (nI_clamp (by omega))) dX7_fitRunner_48 ?_
      refine lv_iload_n zx zb dX7_fitRunner_49 rfl (lv_at hl 4 rfl) ?_
      refine lv_icmp_ne (tgt := 91) zx zb dX7_fitRunner_50 (by decide) (fun c_4 => ?_) (fun c_4 => ?_)
      · refine lv_iinc (v := (nI (n3_4 + 1))) (lv' := [(4, .int (nI (n3_4 + 1))), (6, .int x3), (5, .int (nI (n3_4 * 5))), (0, .ref h0), (1, .int x1), (2, .int x2), (3, .int x3)]) zx zb dX7_fitRunner_91 hl (k := 2) rfl (nI_add n3_4 1) (by decide) rfl (fun ls hl => ?_)
        refine lv_goto (tgt := 3) zx zb dX7_fitRunner_94 (by decide) ?_
        have hl := lv_sub hl (l' := [(4, .int (nI (n3_4 + 1))), (0, .ref h0), (1, .int x1), (2, .int x2), (3, .int x3)]) [0, 3, 4, 5, 6] rfl
        exact ih3 (n3_4 + 1) _ _ _ (by omega) ⟨by omega, fitP_s hx3_0.2 (fun e => absurd e c_4)⟩ (by omega) G hl
      · refine lv_iload_n zx zb dX7_fitRunner_53 rfl (lv_at hl 5 rfl) ?_
        refine lv_iload zx zb dX7_fitRunner_54 (lv_at hl 0 rfl) ?_
        refine lv_aload_n zx zb dX7_fitRunner_56 rfl (lv_at hl 3 rfl) ?_
        refine r_get (C := RX7) (T := TX7) (N := 5) (ci := 5) (v := .ref c0) S in_X7_fitRunner_X7 G 0 rfl rfl 3 (by decide) lk_X7_fitRunner_23 rfl dX7_fitRunner_57 ?_
        refine lv_iload zx zb dX7_fitRunner_60 (lv_at hl 1 rfl) ?_
        refine lv_iconst (v := 2) zx zb dX7_fitRunner_62 (by decide) ?_
        refine r_iadd (v := (nI ((n3_4 * 5) + 2))) S (nI_add (n3_4 * 5) 2) dX7_fitRunner_63 ?_
        refine r_iald (v := (f ((n3_4 * 5) + 2))) S G 1 rfl (vp_in_nI (by omega) (by decide)) (congrArg f (nI_clamp (by omega))) dX7_fitRunner_64 ?_
        refine lv_aload_n zx zb dX7_fitRunner_65 rfl (lv_at hl 3 rfl) ?_
        refine r_get (C := RX7) (T := TX7) (N := 5) (ci := 5) (v := .ref c0) S in_X7_fitRunner_X7 G 0 rfl rfl 3 (by decide) lk_X7_fitRunner_23 rfl dX7_fitRunner_66 ?_
        refine lv_iload zx zb dX7_fitRunner_69 (lv_at hl 1 rfl) ?_
        refine lv_iconst (v := 3) zx zb dX7_fitRunner_71 (by decide) ?_
        refine r_iadd (v := (nI ((n3_4 * 5) + 3))) S (nI_add (n3_4 * 5) 3) dX7_fitRunner_72 ?_
        refine r_iald (v := (f ((n3_4 * 5) + 3))) S G 1 rfl (vp_in_nI (by omega) (by decide)) (congrArg f (nI_clamp (by omega))) dX7_fitRunner_73 ?_
        refine o_ri (cells' := 0) (slots' := 0) G rfl rfl (n_S (As := [.int x2, .int x3, .int (f ((n3_4 * 5) + 2)), .int (f ((n3_4 * 5) + 3))]) (rest := []) S G (x_reach l X x2 x3 (f ((n3_4 * 5) + 2)) (f ((n3_4 * 5) + 3)) H.size) gX7_fitRunner_X2_reach rfl rfl rfl hdS_X2_reach ⟨Nat.le_of_ble_eq_true rfl, Nat.le_of_ble_eq_true rfl⟩ [] rfl rfl rfl hl.1 (Nat.le_of_ble_eq_true rfl) dX7_fitRunner_74 ⟨Nat.le_of_ble_eq_true rfl, Nat.le_of_ble_eq_true rfl⟩) (fun r_7 u_7 H locs hp_7 G => ?_)
        have G : wd X (fun _ => True) (va_A [] sz) s ([(h0, .inr (5, [.int 5, .int 0, .int 1, .ref c0, .int (nI n)])), (c0, .inl (X.2.1, 25, .inl f))]) H locs := G
        obtain rfl := hp_7
        refine lv_aload_n zx zb dX7_fitRunner_77 rfl (lv_at hl 3 rfl) ?_
        refine r_get (C := RX7) (T := TX7) (N := 5) (ci := 5) (v := .ref c0) S in_X7_fitRunner_X7 G 0 rfl rfl 3 (by decide) lk_X7_fitRunner_23 rfl dX7_fitRunner_78 ?_
        refine lv_iload zx zb dX7_fitRunner_81 (lv_at hl 1 rfl) ?_
        refine lv_iconst (v := 4) zx zb dX7_fitRunner_83 (by decide) ?_
        refine r_iadd (v := (nI ((n3_4 * 5) + 4))) S (nI_add (n3_4 * 5) 4) dX7_fitRunner_84 ?_
        refine r_iald (v := (f ((n3_4 * 5) + 4))) S G 1 rfl (vp_in_nI (by omega) (by decide)) (congrArg f (nI_clamp (by omega))) dX7_fitRunner_85 ?_
        refine lv_icmp_eq (tgt := 91) zx zb dX7_fitRunner_86 (by decide) (fun c_9 => ?_) (fun c_9 => ?_)
        · refine lv_iinc (v := (nI (n3_4 + 1))) (lv' := [(4, .int (nI (n3_4 + 1))), (6, .int x3), (5, .int (nI (n3_4 * 5))), (0, .ref h0), (1, .int x1), (2, .int x2), (3, .int x3)]) zx zb dX7_fitRunner_91 hl (k := 2) rfl (nI_add n3_4 1) (by decide) rfl (fun ls hl => ?_)
          refine lv_goto (tgt := 3) zx zb dX7_fitRunner_94 (by decide) ?_
          have hl := lv_sub hl (l' := [(4, .int (nI (n3_4 + 1))), (0, .ref h0), (1, .int x1), (2, .int x2), (3, .int x3)]) [0, 3, 4, 5, 6] rfl
          exact ih3 (n3_4 + 1) _ _ _ (by omega) ⟨by omega, fitP_s hx3_0.2 (fun _ => c_9)⟩ (by omega) G hl
        · refine lv_iconst (v := 0) zx zb dX7_fitRunner_89 (by decide) ?_
          exact e_int S zr zlk (by decide) G () [] rfl rfl (Or.inl rfl) (Or.inr ⟨rfl, fun h => c_9 (h n3_4 (by omega) c_4)⟩) dX7_fitRunner_90
set_option maxHeartbeats 4000000 in
set_option maxRecDepth 100000 in
theorem x_fitRunner1 (l : Launch) (X : EX) (h0 : Nat) (c0 : Nat) (n : Nat) (f : Nat → Int32) (x1 : Int32) (x2 : Int32) (x3 : Int32) (hI_n : n ≤ 6) (sz : Nat) : Met l yX7_fitRunner wsX7_fitRunner ({ frames := 1, cells := 0, slots := 0, locals := 26 } : Room) (pE X [.ref h0, .int x1, .int x2, .int x3] ([(h0, .inr (5, [.int 6, .int 1, .int 1, .ref c0, .int (nI n)])), (c0, .inl (X.2.1, 30, .inl f))]) sz) (qI (fun (r : Int32) (u : Unit) => (r = 1 ∧ fitP n (rowA f 0) (rowA f 1) (rowA f 2) (rowA f 3) (rowA f 4) x1 x2) ∨ (r = 0 ∧ ¬ fitP n (rowA f 0) (rowA f 1) (rowA f 2) (rowA f 3) (rowA f 4) x1 x2)) X (fun (u : Unit) => []) [] sz) 0 0 (va_A [] sz) := by
  refine mk_met (B := (fun _ => True)) (A := (va_A [] sz)) (cc := cX7_fitRunner) (maxL := 7) (ret := (some .boolean)) (by decide) rfl (Nat.le_of_ble_eq_true rfl) k_ro k_a (fun p e s m below meth c S zr zlk znm zsz G ls hl => ?_)
  have S : CallFix p m c cX7_fitRunner 7 s _ wsX7_fitRunner RX7 := S
  have zx := S.1
  have zb := S.2.1
  have hl : lv_has ls 7 [(0, .ref h0), (1, .int x1), (2, .int x2), (3, .int x3)] := hl
  refine lv_iconst (v := 0) zx zb dX7_fitRunner_0 (by decide) ?_
  refine lv_istore (lv' := [(4, .int 0), (0, .ref h0), (1, .int x1), (2, .int x2), (3, .int x3)]) zx zb dX7_fitRunner_1 hl (by decide) rfl (fun ls hl => ?_)
  refine k_loop (P := ∀ (zm : Nat) (n3_4 : Nat) (H : Heap) (locs : List Loc) (ls : Array Slot), ((n - n3_4) < zm) → (n3_4 ≤ n ∧ fitP n3_4 (rowA f 0) (rowA f 1) (rowA f 2) (rowA f 3) (rowA f 4) x1 x2) → (n3_4 ≤ 6) → wd X (fun _ => True) (va_A [] sz) s ([(h0, .inr (5, [.int 6, .int 1, .int 1, .ref c0, .int (nI n)])), (c0, .inl (X.2.1, 30, .inl f))]) H locs → lv_has ls 7 [(4, .int (nI n3_4)), (0, .ref h0), (1, .int x1), (2, .int x2), (3, .int x3)] → W p l e _ s m _ below meth c H locs _ _ _ (F0 m 3 ls [])) (fun loop => loop ((n - 0) + 1) 0 _ _ _ (by omega) ⟨by omega, fitP_0⟩ (by omega) G hl) ?_
  intro zm
  induction zm with
  | zero => intro n3_4 H locs ls zz q_x0 q_hk_n3_4 _ _; exact absurd zz (by omega)
  | succ zm ih3 =>
    intro n3_4 H locs ls zm_3 hx3_0 hk_n3_4 G hl
    refine lv_iload zx zb dX7_fitRunner_3 (lv_at hl 0 rfl) ?_
    refine lv_aload_n zx zb dX7_fitRunner_5 rfl (lv_at hl 1 rfl) ?_
    refine r_get (C := RX7) (T := TX7) (N := 5) (ci := 5) (v := .int (nI n)) S in_X7_fitRunner_X7 G 0 rfl rfl 4 (by decide) lk_X7_fitRunner_7 rfl dX7_fitRunner_6 ?_
    refine lv_icmp_ge (tgt := 97) zx zb dX7_fitRunner_9 (by decide) (fun c_1 => ?_) (fun c_1 => ?_)
    · have fc_1 := j_le (a := n) (b := n3_4) (by omega) (by omega) c_1
      refine lv_iconst (v := 1) zx zb dX7_fitRunner_97 (by decide) ?_
      exact e_int S zr zlk (by decide) G () [] rfl rfl (Or.inl rfl) (Or.inl ⟨rfl, by rw [show n = n3_4 from by omega]; exact hx3_0.2⟩) dX7_fitRunner_98
    · have fc_1 := j_nle (a := n) (b := n3_4) (by omega) (by omega) c_1
      refine lv_iload zx zb dX7_fitRunner_12 (lv_at hl 0 rfl) ?_
      refine lv_iconst (v := 5) zx zb dX7_fitRunner_14 (by decide) ?_
      refine r_imul (v := (nI (n3_4 * 5))) S (pk_mul n3_4 5) dX7_fitRunner_15 ?_
      refine lv_istore (lv' := [(5, .int (nI (n3_4 * 5))), (4, .int (nI n3_4)), (0, .ref h0), (1, .int x1), (2, .int x2), (3, .int x3)]) zx zb dX7_fitRunner_16 hl (by decide) rfl (fun ls hl => ?_)
      refine lv_aload_n zx zb dX7_fitRunner_18 rfl (lv_at hl 2 rfl) ?_
      refine r_get (C := RX7) (T := TX7) (N := 5) (ci := 5) (v := .int 1) S in_X7_fitRunner_X7 G 0 rfl rfl 1 (by decide) lk_X7_fitRunner_16 rfl dX7_fitRunner_19 ?_
      refine lv_if_eq (tgt := 37) zx zb dX7_fitRunner_22 (by decide) (fun c_2 => absurd c_2 (by decide)) (fun c_2 => ?_)
      refine lv_aload_n zx zb dX7_fitRunner_25 rfl (lv_at hl 2 rfl) ?_
      refine r_get (C := RX7) (T := TX7) (N := 5) (ci := 5) (v := .ref c0) S in_X7_fitRunner_X7 G 0 rfl rfl 3 (by decide) lk_X7_fitRunner_23 rfl dX7_fitRunner_26 ?_
      refine lv_iload zx zb dX7_fitRunner_29 (lv_at hl 0 rfl) ?_
      refine lv_iconst (v := 1) zx zb dX7_fitRunner_31 (by decide) ?_
      refine r_iadd (v := (nI ((n3_4 * 5) + 1))) S (nI_add (n3_4 * 5) 1) dX7_fitRunner_32 ?_
      refine r_iald (v := (f ((n3_4 * 5) + 1))) S G 1 rfl (vp_in_nI (by omega) (by decide)) (congrArg f (nI_clamp (by omega))) dX7_fitRunner_33 ?_
      refine lv_goto (tgt := 38) zx zb dX7_fitRunner_34 (by decide) ?_
      refine lv_istore (lv' := [(6, .int (f ((n3_4 * 5) + 1))), (5, .int (nI (n3_4 * 5))), (4, .int (nI n3_4)), (0, .ref h0), (1, .int x1), (2, .int x2), (3, .int x3)]) zx zb dX7_fitRunner_38 hl (by decide) rfl (fun ls hl => ?_)
      refine lv_aload_n zx zb dX7_fitRunner_40 rfl (lv_at hl 3 rfl) ?_
      refine r_get (C := RX7) (T := TX7) (N := 5) (ci := 5) (v := .ref c0) S in_X7_fitRunner_X7 G 0 rfl rfl 3 (by decide) lk_X7_fitRunner_23 rfl dX7_fitRunner_41 ?_
      refine lv_iload zx zb dX7_fitRunner_44 (lv_at hl 1 rfl) ?_
      refine lv_iconst (v := 0) zx zb dX7_fitRunner_46 (by decide) ?_
      refine r_iadd (v := (nI ((n3_4 * 5) + 0))) S (nI_add (n3_4 * 5) 0) dX7_fitRunner_47 ?_
      refine r_iald (v := (f ((n3_4 * 5) + 0))) S G 1 rfl (vp_in_nI (by omega) (by decide)) (congrArg f (nI_clamp (by omega))) dX7_fitRunner_48 ?_
      refine lv_iload_n zx zb dX7_fitRunner_49 rfl (lv_at hl 4 rfl) ?_
      refine lv_icmp_ne (tgt := 91) zx zb dX7_fitRunner_50 (by decide) (fun c_5 => ?_) (fun c_5 => ?_)
      · refine lv_iinc (v := (nI (n3_4 + 1))) (lv' := [(4, .int (nI (n3_4 + 1))), (6, .int (f ((n3_4 * 5) + 1))), (5, .int (nI (n3_4 * 5))), (0, .ref h0), (1, .int x1), (2, .int x2), (3, .int x3)]) zx zb dX7_fitRunner_91 hl (k := 2) rfl (nI_add n3_4 1) (by decide) rfl (fun ls hl => ?_)
        refine lv_goto (tgt := 3) zx zb dX7_fitRunner_94 (by decide) ?_
        have hl := lv_sub hl (l' := [(4, .int (nI (n3_4 + 1))), (0, .ref h0), (1, .int x1), (2, .int x2), (3, .int x3)]) [0, 3, 4, 5, 6] rfl
        exact ih3 (n3_4 + 1) _ _ _ (by omega) ⟨by omega, fitP_s hx3_0.2 (fun e => absurd e c_5)⟩ (by omega) G hl
      · refine lv_iload_n zx zb dX7_fitRunner_53 rfl (lv_at hl 5 rfl) ?_
        refine lv_iload zx zb dX7_fitRunner_54 (lv_at hl 0 rfl) ?_
        refine lv_aload_n zx zb dX7_fitRunner_56 rfl (lv_at hl 3 rfl) ?_
        refine r_get (C := RX7) (T := TX7) (N := 5) (ci := 5) (v := .ref c0) S in_X7_fitRunner_X7 G 0 rfl rfl 3 (by decide) lk_X7_fitRunner_23 rfl dX7_fitRunner_57 ?_
        refine lv_iload zx zb dX7_fitRunner_60 (lv_at hl 1 rfl) ?_
        refine lv_iconst (v := 2) zx zb dX7_fitRunner_62 (by decide) ?_
        refine r_iadd (v := (nI ((n3_4 * 5) + 2))) S (nI_add (n3_4 * 5) 2) dX7_fitRunner_63 ?_
        refine r_iald (v := (f ((n3_4 * 5) + 2))) S G 1 rfl (vp_in_nI (by omega) (by decide)) (congrArg f (nI_clamp (by omega))) dX7_fitRunner_64 ?_
        refine lv_aload_n zx zb dX7_fitRunner_65 rfl (lv_at hl 3 rfl) ?_
        refine r_get (C := RX7) (T := TX7) (N := 5) (ci := 5) (v := .ref c0) S in_X7_fitRunner_X7 G 0 rfl rfl 3 (by decide) lk_X7_fitRunner_23 rfl dX7_fitRunner_66 ?_
        refine lv_iload zx zb dX7_fitRunner_69 (lv_at hl 1 rfl) ?_
        refine lv_iconst (v := 3) zx zb dX7_fitRunner_71 (by decide) ?_
        refine r_iadd (v := (nI ((n3_4 * 5) + 3))) S (nI_add (n3_4 * 5) 3) dX7_fitRunner_72 ?_
        refine r_iald (v := (f ((n3_4 * 5) + 3))) S G 1 rfl (vp_in_nI (by omega) (by decide)) (congrArg f (nI_clamp (by omega))) dX7_fitRunner_73 ?_
        refine o_ri (cells' := 0) (slots' := 0) G rfl rfl (n_S (As := [.int x2, .int (f ((n3_4 * 5) + 1)), .int (f ((n3_4 * 5) + 2)), .int (f ((n3_4 * 5) + 3))]) (rest := []) S G (x_reach l X x2 (f ((n3_4 * 5) + 1)) (f ((n3_4 * 5) + 2)) (f ((n3_4 * 5) + 3)) H.size) gX7_fitRunner_X2_reach rfl rfl rfl hdS_X2_reach ⟨Nat.le_of_ble_eq_true rfl, Nat.le_of_ble_eq_true rfl⟩ [] rfl rfl rfl hl.1 (Nat.le_of_ble_eq_true rfl) dX7_fitRunner_74 ⟨Nat.le_of_ble_eq_true rfl, Nat.le_of_ble_eq_true rfl⟩) (fun r_8 u_8 H locs hp_8 G => ?_)
        have G : wd X (fun _ => True) (va_A [] sz) s ([(h0, .inr (5, [.int 6, .int 1, .int 1, .ref c0, .int (nI n)])), (c0, .inl (X.2.1, 30, .inl f))]) H locs := G
        obtain rfl := hp_8
        refine lv_aload_n zx zb dX7_fitRunner_77 rfl (lv_at hl 3 rfl) ?_
        refine r_get (C := RX7) (T := TX7) (N := 5) (ci := 5) (v := .ref c0) S in_X7_fitRunner_X7 G 0 rfl rfl 3 (by decide) lk_X7_fitRunner_23 rfl dX7_fitRunner_78 ?_
        refine lv_iload zx zb dX7_fitRunner_81 (lv_at hl 1 rfl) ?_
        refine lv_iconst (v := 4) zx zb dX7_fitRunner_83 (by decide) ?_
        refine r_iadd (v := (nI ((n3_4 * 5) + 4))) S (nI_add (n3_4 * 5) 4) dX7_fitRunner_84 ?_
        refine r_iald (v := (f ((n3_4 * 5) + 4))) S G 1 rfl (vp_in_nI (by omega) (by decide)) (congrArg f (nI_clamp (by omega))) dX7_fitRunner_85 ?_
        refine lv_icmp_eq (tgt := 91) zx zb dX7_fitRunner_86 (by decide) (fun c_10 => ?_) (fun c_10 => ?_)
        · refine lv_iinc (v := (nI (n3_4 + 1))) (lv' := [(4, .int (nI (n3_4 + 1))), (6, .int (f ((n3_4 * 5) + 1))), (5, .int (nI (n3_4 * 5))), (0, .ref h0), (1, .int x1), (2, .int x2), (3, .int x3)]) zx zb dX7_fitRunner_91 hl (k := 2) rfl (nI_add n3_4 1) (by decide) rfl (fun ls hl => ?_)
          refine lv_goto (tgt := 3) zx zb dX7_fitRunner_94 (by decide) ?_
          have hl := lv_sub hl (l' := [(4, .int (nI (n3_4 + 1))), (0, .ref h0), (1, .int x1), (2, .int x2), (3, .int x3)]) [0, 3, 4, 5, 6] rfl
          exact ih3 (n3_4 + 1) _ _ _ (by omega) ⟨by omega, fitP_s hx3_0.2 (fun _ => c_10)⟩ (by omega) G hl
        · refine lv_iconst (v := 0) zx zb dX7_fitRunner_89 (by decide) ?_
          exact e_int S zr zlk (by decide) G () [] rfl rfl (Or.inl rfl) (Or.inr ⟨rfl, fun h => c_10 (h n3_4 (by omega) c_5)⟩) dX7_fitRunner_90
set_option maxHeartbeats 4000000 in
set_option maxRecDepth 100000 in
theorem x_fitEgg2 (l : Launch) (X : EX) (h0 : Nat) (c0 : Nat) (n : Nat) (f : Nat → Int32) (x1 : Int32) (x2 : Int32) (hI_n : n ≤ 6) (sz : Nat) : Met l yX7_fitEgg wsX7_fitEgg ({ frames := 1, cells := 0, slots := 0, locals := 24 } : Room) (pE X [.ref h0, .int x1, .int x2] ([(h0, .inr (5, [.int 6, .int 0, .int 0, .ref c0, .int (nI n)])), (c0, .inl (X.2.1, 30, .inl f))]) sz) (qI (fun (r : Int32) (u : Unit) => (r = 1 ∧ eggP n (rowA f 0) (rowA f 2) (rowA f 4) x1 x2) ∨ (r = 0 ∧ ¬ eggP n (rowA f 0) (rowA f 2) (rowA f 4) x1 x2)) X (fun (u : Unit) => []) [] sz) 0 0 (va_A [] sz) := by
  refine mk_met (B := (fun _ => True)) (A := (va_A [] sz)) (cc := cX7_fitEgg) (maxL := 5) (ret := (some .boolean)) (by decide) rfl (Nat.le_of_ble_eq_true rfl) k_ro k_a (fun p e s m below meth c S zr zlk znm zsz G ls hl => ?_)
  have S : CallFix p m c cX7_fitEgg 5 s _ wsX7_fitEgg RX7 := S
  have zx := S.1
  have zb := S.2.1
  have hl : lv_has ls 5 [(0, .ref h0), (1, .int x1), (2, .int x2)] := hl
  refine lv_iconst (v := 0) zx zb dX7_fitEgg_0 (by decide) ?_
  refine lv_istore_n (lv' := [(3, .int 0), (0, .ref h0), (1, .int x1), (2, .int x2)]) zx zb dX7_fitEgg_1 rfl hl (by decide) rfl (fun ls hl => ?_)
  refine k_loop (P := ∀ (zm : Nat) (n2_3 : Nat) (H : Heap) (locs : List Loc) (ls : Array Slot), ((n - n2_3) < zm) → (n2_3 ≤ n ∧ eggP n2_3 (rowA f 0) (rowA f 2) (rowA f 4) x1 x2) → (n2_3 ≤ 6) → wd X (fun _ => True) (va_A [] sz) s ([(h0, .inr (5, [.int 6, .int 0, .int 0, .ref c0, .int (nI n)])), (c0, .inl (X.2.1, 30, .inl f))]) H locs → lv_has ls 5 [(3, .int (nI n2_3)), (0, .ref h0), (1, .int x1), (2, .int x2)] → W p l e _ s m _ below meth c H locs _ _ _ (F0 m 2 ls [])) (fun loop => loop ((n - 0) + 1) 0 _ _ _ (by omega) ⟨by omega, eggP_0⟩ (by omega) G hl) ?_
  intro zm
  induction zm with
  | zero => intro n2_3 H locs ls zz q_x0 q_hk_n2_3 _ _; exact absurd zz (by omega)
  | succ zm ih2 =>
    intro n2_3 H locs ls zm_2 hx2_0 hk_n2_3 G hl
    refine lv_iload_n zx zb dX7_fitEgg_2 rfl (lv_at hl 0 rfl) ?_
    refine lv_aload_n zx zb dX7_fitEgg_3 rfl (lv_at hl 1 rfl) ?_
    refine r_get (C := RX7) (T := TX7) (N := 5) (ci := 5) (v := .int (nI n)) S in_X7_fitEgg_X7 G 0 rfl rfl 4 (by decide) lk_X7_fitEgg_7 rfl dX7_fitEgg_4 ?_
    refine lv_icmp_ge (tgt := 61) zx zb dX7_fitEgg_7 (by decide) (fun c_1 => ?_) (fun c_1 => ?_)
    · have fc_1 := j_le (a := n) (b := n2_3) (by omega) (by omega) c_1
      refine lv_iconst (v := 1) zx zb dX7_fitEgg_61 (by decide) ?_
      exact e_int S zr zlk (by decide) G () [] rfl rfl (Or.inl rfl) (Or.inl ⟨rfl, by rw [show n = n2_3 from by omega]; exact hx2_0.2⟩) dX7_fitEgg_62
    · have fc_1 := j_nle (a := n) (b := n2_3) (by omega) (by omega) c_1
      refine lv_iload_n zx zb dX7_fitEgg_10 rfl (lv_at hl 0 rfl) ?_
      refine lv_iconst (v := 5) zx zb dX7_fitEgg_11 (by decide) ?_
      refine r_imul (v := (nI (n2_3 * 5))) S (pk_mul n2_3 5) dX7_fitEgg_12 ?_
      refine lv_istore (lv' := [(4, .int (nI (n2_3 * 5))), (3, .int (nI n2_3)), (0, .ref h0), (1, .int x1), (2, .int x2)]) zx zb dX7_fitEgg_13 hl (by decide) rfl (fun ls hl => ?_)
      refine lv_aload_n zx zb dX7_fitEgg_15 rfl (lv_at hl 2 rfl) ?_
      refine r_get (C := RX7) (T := TX7) (N := 5) (ci := 5) (v := .ref c0) S in_X7_fitEgg_X7 G 0 rfl rfl 3 (by decide) lk_X7_fitEgg_23 rfl dX7_fitEgg_16 ?_
      refine lv_iload zx zb dX7_fitEgg_19 (lv_at hl 0 rfl) ?_
      refine lv_iconst (v := 0) zx zb dX7_fitEgg_21 (by decide) ?_
      refine r_iadd (v := (nI ((n2_3 * 5) + 0))) S (nI_add (n2_3 * 5) 0) dX7_fitEgg_22 ?_
      refine r_iald (v := (f ((n2_3 * 5) + 0))) S G 1 rfl (vp_in_nI (by omega) (by decide)) (congrArg f (nI_clamp (by omega))) dX7_fitEgg_23 ?_
      refine lv_iload_n zx zb dX7_fitEgg_24 rfl (lv_at hl 3 rfl) ?_
      refine lv_icmp_ne (tgt := 55) zx zb dX7_fitEgg_25 (by decide) (fun c_3 => ?_) (fun c_3 => ?_)
      · refine lv_iinc (v := (nI (n2_3 + 1))) (lv' := [(3, .int (nI (n2_3 + 1))), (4, .int (nI (n2_3 * 5))), (0, .ref h0), (1, .int x1), (2, .int x2)]) zx zb dX7_fitEgg_55 hl (k := 1) rfl (nI_add n2_3 1) (by decide) rfl (fun ls hl => ?_)
        refine lv_goto (tgt := 2) zx zb dX7_fitEgg_58 (by decide) ?_
        have hl := lv_sub hl (l' := [(3, .int (nI (n2_3 + 1))), (0, .ref h0), (1, .int x1), (2, .int x2)]) [0, 2, 3, 4] rfl
        exact ih2 (n2_3 + 1) _ _ _ (by omega) ⟨by omega, eggP_s hx2_0.2 (fun e => absurd e c_3)⟩ (by omega) G hl
      · refine lv_iload_n zx zb dX7_fitEgg_28 rfl (lv_at hl 4 rfl) ?_
        refine lv_aload_n zx zb dX7_fitEgg_29 rfl (lv_at hl 2 rfl) ?_
        refine r_get (C := RX7) (T := TX7) (N := 5) (ci := 5) (v := .ref c0) S in_X7_fitEgg_X7 G 0 rfl rfl 3 (by decide) lk_X7_fitEgg_23 rfl dX7_fitEgg_30 ?_
        refine lv_iload zx zb dX7_fitEgg_33 (lv_at hl 0 rfl) ?_
        refine lv_iconst (v := 2) zx zb dX7_fitEgg_35 (by decide) ?_
        refine r_iadd (v := (nI ((n2_3 * 5) + 2))) S (nI_add (n2_3 * 5) 2) dX7_fitEgg_36 ?_
        refine r_iald (v := (f ((n2_3 * 5) + 2))) S G 1 rfl (vp_in_nI (by omega) (by decide)) (congrArg f (nI_clamp (by omega))) dX7_fitEgg_37 ?_
        refine o_ri (cells' := 0) (slots' := 0) G rfl rfl (n_S (As := [.int x2, .int (f ((n2_3 * 5) + 2))]) (rest := []) S G (x_limit l X x2 (f ((n2_3 * 5) + 2)) H.size) gX7_fitEgg_X1_limit rfl rfl rfl hdS_X1_limit ⟨Nat.le_of_ble_eq_true rfl, Nat.le_of_ble_eq_true rfl⟩ [] rfl rfl rfl hl.1 (Nat.le_of_ble_eq_true rfl) dX7_fitEgg_38 ⟨Nat.le_of_ble_eq_true rfl, Nat.le_of_ble_eq_true rfl⟩) (fun r_5 u_5 H locs hp_5 G => ?_)
        have G : wd X (fun _ => True) (va_A [] sz) s ([(h0, .inr (5, [.int 6, .int 0, .int 0, .ref c0, .int (nI n)])), (c0, .inl (X.2.1, 30, .inl f))]) H locs := G
        obtain rfl := hp_5
        refine lv_aload_n zx zb dX7_fitEgg_41 rfl (lv_at hl 2 rfl) ?_
        refine r_get (C := RX7) (T := TX7) (N := 5) (ci := 5) (v := .ref c0) S in_X7_fitEgg_X7 G 0 rfl rfl 3 (by decide) lk_X7_fitEgg_23 rfl dX7_fitEgg_42 ?_
        refine lv_iload zx zb dX7_fitEgg_45 (lv_at hl 0 rfl) ?_
        refine lv_iconst (v := 4) zx zb dX7_fitEgg_47 (by decide) ?_
        refine r_iadd (v := (nI ((n2_3 * 5) + 4))) S (nI_add (n2_3 * 5) 4) dX7_fitEgg_48 ?_
        refine r_iald (v := (f ((n2_3 * 5) + 4))) S G 1 rfl (vp_in_nI (by omega) (by decide)) (congrArg f (nI_clamp (by omega))) dX7_fitEgg_49 ?_
        refine lv_icmp_eq (tgt := 55) zx zb dX7_fitEgg_50 (by decide) (fun c_7 => ?_) (fun c_7 => ?_)
        · refine lv_iinc (v := (nI (n2_3 + 1))) (lv' := [(3, .int (nI (n2_3 + 1))), (4, .int (nI (n2_3 * 5))), (0, .ref h0), (1, .int x1), (2, .int x2)]) zx zb dX7_fitEgg_55 hl (k := 1) rfl (nI_add n2_3 1) (by decide) rfl (fun ls hl => ?_)
          refine lv_goto (tgt := 2) zx zb dX7_fitEgg_58 (by decide) ?_
          have hl := lv_sub hl (l' := [(3, .int (nI (n2_3 + 1))), (0, .ref h0), (1, .int x1), (2, .int x2)]) [0, 2, 3, 4] rfl
          exact ih2 (n2_3 + 1) _ _ _ (by omega) ⟨by omega, eggP_s hx2_0.2 (fun _ => c_7)⟩ (by omega) G hl
        · refine lv_iconst (v := 0) zx zb dX7_fitEgg_53 (by decide) ?_
          exact e_int S zr zlk (by decide) G () [] rfl rfl (Or.inl rfl) (Or.inr ⟨rfl, fun h => c_7 (h n2_3 (by omega) c_3)⟩) dX7_fitEgg_54
set_option maxHeartbeats 4000000 in
set_option maxRecDepth 100000 in
theorem x_legsThatFit (l : Launch) (X : EX) (hn : Nat) (an : Nat → Nat) (sv : Nat → Int32) (dv : Nat → Int32) (n0 : Nat) (n1 : Nat) (n2 : Nat) (n3 : Nat) (n4 : Nat) (g0 : Nat → Int32) (gs : Nat → Int32) (gn : Nat → Int32) (gm : Nat → Int32) (i : Nat) (hI_n0 : n0 ≤ 6) (hI_n1 : n1 ≤ 8) (hI_n2 : n2 ≤ 5) (hI_n3 : n3 ≤ 6) (hI_n4 : n4 ≤ 6) (hi6 : i < 6) (sz : Nat) : Met l yX5_legsThatFit wsX5_legsThatFit ({ frames := 2, cells := 0, slots := 0, locals := 52 } : Room) (pE X [.ref hn, .int (nI i)] (rcV X hn an sv dv n0 n1 n2 n3 n4 g0 gs gn gm) sz) (qI (fun (r : Int32) (u : Unit) => r = setF (fun l => fitP n2 (rowA gs 0) (fun _ => nI l) (rowA gs 2) (rowA gs 3) (rowA gs 4) (nI i) (sv (3 * i))) 1 9) X (fun (u : Unit) => []) [] sz) 0 0 (va_A [] sz) := by
  refine mk_met (B := (fun _ => True)) (A := (va_A [] sz)) (cc := cX5_legsThatFit) (maxL := 4) (ret := (some .int)) (by decide) rfl (Nat.le_of_ble_eq_true rfl) k_ro k_a (fun p e s m below meth c S zr zlk znm zsz G ls hl => ?_)
  have S : CallFix p m c cX5_legsThatFit 4 s _ wsX5_legsThatFit RX5 := S
  have zx := S.1
  have zb := S.2.1
  have hl : lv_has ls 4 [(0, .ref hn), (1, .int (nI i))] := hl
  rcases k_6c hi6 with rfl | rfl | rfl | rfl | rfl | rfl
  · have hl : lv_has ls 4 [(0, .ref hn), (1, .int 0)] := hl
    refine lv_iconst (v := 0) zx zb dX5_legsThatFit_0 (by decide) ?_
    refine lv_istore_n (lv' := [(2, .int 0), (0, .ref hn), (1, .int 0)]) zx zb dX5_legsThatFit_1 rfl hl (by decide) rfl (fun ls hl => ?_)
    refine lv_iconst (v := 1) zx zb dX5_legsThatFit_2 (by decide) ?_
    refine lv_istore_n (lv' := [(3, .int 1), (2, .int 0), (0, .ref hn), (1, .int 0)]) zx zb dX5_legsThatFit_3 rfl hl (by decide) rfl (fun ls hl => ?_)
    refine k_loop (P := ∀ (zm : Nat) (n4_3 : Nat) (x4_2 : Int32) (H : Heap) (locs : List Loc) (ls : Array Slot), ((10 - n4_3) < zm) → ((1 ≤ n4_3 ∧ n4_3 ≤ 10) ∧ x4_2 = setF (fun l => fitP n2 (rowA gs 0) (fun _ => nI l) (rowA gs 2) (rowA gs 3) (rowA gs 4) 0 (sv 0)) 1 (n4_3 - 1)) → (n4_3 ≤ 10) → wd X (fun _ => True) (va_A [] sz) s (rcV X hn an sv dv n0 n1 n2 n3 n4 g0 gs gn gm) H locs → lv_has ls 4 [(3, .int (nI n4_3)), (2, .int x4_2), (0, .ref hn), (1, .int 0)] → W p l e _ s m _ below meth c H locs _ _ _ (F0 m 4 ls [])) (fun loop => loop ((10 - 1) + 1) 1 0 _ _ _ (by omega) ⟨by omega, rfl⟩ (by omega) G hl) ?_
    intro zm
    induction zm with
    | zero => intro n4_3 x4_2 H locs ls zz q_x0 q_hk_n4_3 _ _; exact absurd zz (by omega)
    | succ zm ih4 =>
      intro n4_3 x4_2 H locs ls zm_4 hx4_0 hk_n4_3 G hl
      refine lv_iload_n zx zb dX5_legsThatFit_4 rfl (lv_at hl 0 rfl) ?_
      refine lv_bipush (v := 9) zx zb dX5_legsThatFit_5 (by decide) ?_
      refine lv_icmp_gt (tgt := 47) zx zb dX5_legsThatFit_7 (by decide) (fun c_1 => ?_) (fun c_1 => ?_)
      · have fc_1 := j_lt (a := 9) (b := n4_3) (by omega) (by omega) c_1
        refine lv_iload_n zx zb dX5_legsThatFit_47 rfl (lv_at hl 1 rfl) ?_
        exact e_int S zr zlk (vp_nar_int _) G () [] rfl rfl (Or.inl rfl) (hx4_0.2.trans (by rw [show n4_3 = 10 from by omega]; first | done | rfl)) dX5_legsThatFit_48
      · have fc_1 := j_nlt (a := 9) (b := n4_3) (by omega) (by omega) c_1
        refine lv_iload_n zx zb dX5_legsThatFit_10 rfl (lv_at hl 1 rfl) ?_
        refine lv_aload_n zx zb dX5_legsThatFit_11 rfl (lv_at hl 2 rfl) ?_
        refine r_get (C := RX5) (T := TX5) (N := 8) (ci := 3) (v := .ref (an 9)) S in_X5_legsThatFit_X5 G 0 rfl rfl 5 (by decide) lk_X5_legsThatFit_39 rfl dX5_legsThatFit_12 ?_
        refine lv_iload_n zx zb dX5_legsThatFit_15 rfl (lv_at hl 3 rfl) ?_
        refine lv_aload_n zx zb dX5_legsThatFit_16 rfl (lv_at hl 2 rfl) ?_
        refine r_get (C := RX5) (T := TX5) (N := 8) (ci := 3) (v := .ref (an 0)) S in_X5_legsThatFit_X5 G 0 rfl rfl 3 (by decide) lk_X5_legsThatFit_23 rfl dX5_legsThatFit_17 ?_
        refine lv_iload_n zx zb dX5_legsThatFit_20 rfl (lv_at hl 3 rfl) ?_
        refine r_aald (C := RX8) (b := (an 1)) S G 1 3 rfl rfl (k_vp (by decide)) rfl dX5_legsThatFit_21 ?_
        refine r_get (C := RX8) (T := TX8) (N := 8) (ci := 6) (v := .int (sv 0)) S in_X5_legsThatFit_X8 G 2 rfl rfl 0 (by decide) lk_X5_legsThatFit_94 rfl dX5_legsThatFit_22 ?_
        refine lv_iload_n zx zb dX5_legsThatFit_25 rfl (lv_at hl 0 rfl) ?_
        refine o_ri (cells' := 0) (slots' := 0) G rfl rfl (n_V (As := [.int 0, .int (sv 0), .int (nI n4_3)]) (rest := [.int x4_2]) (C := RX7) (T := TX7) (N := 5) (ci := 5) S G (x_fitRunner0 l X (an 9) (an 10) n2 gs 0 (sv 0) (nI n4_3) hI_n2 H.size) gX5_legsThatFit_X7_fitRunner rfl rfl rfl hdV_X7_fitRunner ⟨Nat.le_of_ble_eq_true rfl, Nat.le_of_ble_eq_true rfl⟩ [10, 11] rfl rfl 10 rfl rfl rfl hl.1 (Nat.le_of_ble_eq_true rfl) dX5_legsThatFit_26 ⟨Nat.le_of_ble_eq_true rfl, Nat.le_of_ble_eq_true rfl⟩) (fun r_2 u_2 H locs hp_2 G => ?_)
        have G : wd X (fun _ => True) (va_A [] sz) s (rcV X hn an sv dv n0 n1 n2 n3 n4 g0 gs gn gm) H locs := G
        rcases hp_2 with ⟨rfl, hf_2⟩ | ⟨rfl, hf_2⟩
        · refine lv_if_eq (tgt := 38) zx zb dX5_legsThatFit_29 (by decide) (fun c_3 => absurd c_3 (by decide)) (fun c_3 => ?_)
          refine lv_iconst (v := 1) zx zb dX5_legsThatFit_32 (by decide) ?_
          refine lv_iload_n zx zb dX5_legsThatFit_33 rfl (lv_at hl 0 rfl) ?_
          refine lv_ishl zx zb dX5_legsThatFit_34 ?_
          refine lv_goto (tgt := 39) zx zb dX5_legsThatFit_35 (by decide) ?_
          refine lv_ior zx zb dX5_legsThatFit_39 ?_
          refine lv_istore_n (lv' := [(2, .int (x4_2 ||| (1 <<< ((nI n4_3) &&& 31)))), (3, .int (nI n4_3)), (0, .ref hn), (1, .int 0)]) zx zb dX5_legsThatFit_40 rfl hl (by decide) rfl (fun ls hl => ?_)
          refine lv_iinc (v := (nI (n4_3 + 1))) (lv' := [(3, .int (nI (n4_3 + 1))), (2, .int (x4_2 ||| (1 <<< ((nI n4_3) &&& 31)))), (0, .ref hn), (1, .int 0)]) zx zb dX5_legsThatFit_41 hl (k := 1) rfl (nI_add n4_3 1) (by decide) rfl (fun ls hl => ?_)
          refine lv_goto (tgt := 4) zx zb dX5_legsThatFit_44 (by decide) ?_
          exact ih4 (n4_3 + 1) (x4_2 ||| (1 <<< ((nI n4_3) &&& 31))) _ _ _ (by omega) ⟨by omega, by rw [setF_n (by omega), bitF_t hf_2, ← hx4_0.2]⟩ (by omega) G hl
        · refine lv_if_eq (tgt := 38) zx zb dX5_legsThatFit_29 (by decide) (fun c_4 => ?_) (fun c_4 => absurd (by decide) c_4)
          refine lv_iconst (v := 0) zx zb dX5_legsThatFit_38 (by decide) ?_
          refine lv_ior zx zb dX5_legsThatFit_39 ?_
          refine lv_istore_n (lv' := [(2, .int (x4_2 ||| 0)), (3, .int (nI n4_3)), (0, .ref hn), (1, .int 0)]) zx zb dX5_legsThatFit_40 rfl hl (by decide) rfl (fun ls hl => ?_)
          refine lv_iinc (v := (nI (n4_3 + 1))) (lv' := [(3, .int (nI (n4_3 + 1))), (2, .int (x4_2 ||| 0)), (0, .ref hn), (1, .int 0)]) zx zb dX5_legsThatFit_41 hl (k := 1) rfl (nI_add n4_3 1) (by decide) rfl (fun ls hl => ?_)
          refine lv_goto (tgt := 4) zx zb dX5_legsThatFit_44 (by decide) ?_
          exact ih4 (n4_3 + 1) (x4_2 ||| 0) _ _ _ (by omega) ⟨by omega, by rw [setF_n (by omega), bitF_f hf_2, ← hx4_0.2]⟩ (by omega) G hl
  · have hl : lv_has ls 4 [(0, .ref hn), (1, .int 1)] := hl
    refine lv_iconst (v := 0) zx zb dX5_legsThatFit_0 (by decide) ?_
    refine lv_istore_n (lv' := [(2, .int 0), (0, .ref hn), (1, .int 1)]) zx zb dX5_legsThatFit_1 rfl hl (by decide) rfl (fun ls hl => ?_)
    refine lv_iconst (v := 1) zx zb dX5_legsThatFit_2 (by decide) ?_
    refine lv_istore_n (lv' := [(3, .int 1), (2, .int 0), (0, .ref hn), (1, .int 1)]) zx zb dX5_legsThatFit_3 rfl hl (by decide) rfl (fun ls hl => ?_)
    refine k_loop (P := ∀ (zm : Nat) (n4_3 : Nat) (x4_2 : Int32) (H : Heap) (locs : List Loc) (ls : Array Slot), ((10 - n4_3) < zm) → ((1 ≤ n4_3 ∧ n4_3 ≤ 10) ∧ x4_2 = setF (fun l => fitP n2 (rowA gs 0) (fun _ => nI l) (rowA gs 2) (rowA gs 3) (rowA gs 4) 1 (sv 3)) 1 (n4_3 - 1)) → (n4_3 ≤ 10) → wd X (fun _ => True) (va_A [] sz) s (rcV X hn an sv dv n0 n1 n2 n3 n4 g0 gs gn gm) H locs → lv_has ls 4 [(3, .int (nI n4_3)), (2, .int x4_2), (0, .ref hn), (1, .int 1)] → W p l e _ s m _ below meth c H locs _ _ _ (F0 m 4 ls [])) (fun loop => loop ((10 - 1) + 1) 1 0 _ _ _ (by omega) ⟨by omega, rfl⟩ (by omega) G hl) ?_
    intro zm
    induction zm with
    | zero => intro n4_3 x4_2 H locs ls zz q_x0 q_hk_n4_3 _ _; exact absurd zz (by omega)
    | succ zm ih4 =>
      intro n4_3 x4_2 H locs ls zm_4 hx4_0 hk_n4_3 G hl
      refine lv_iload_n zx zb dX5_legsThatFit_4 rfl (lv_at hl 0 rfl) ?_
      refine lv_bipush (v := 9) zx zb dX5_legsThatFit_5 (by decide) ?_
      refine lv_icmp_gt (tgt := 47) zx zb dX5_legsThatFit_7 (by decide) (fun c_5 => ?_) (fun c_5 => ?_)
      · have fc_5 := j_lt (a := 9) (b := n4_3) (by omega) (by omega) c_5
        refine lv_iload_n zx zb dX5_legsThatFit_47 rfl (lv_at hl 1 rfl) ?_
        exact e_int S zr zlk (vp_nar_int _) G () [] rfl rfl (Or.inl rfl) (hx4_0.2.trans (by rw [show n4_3 = 10 from by omega]; first | done | rfl)) dX5_legsThatFit_48
      · have fc_5 := j_nlt (a := 9) (b := n4_3) (by omega) (by omega) c_5
        refine lv_iload_n zx zb dX5_legsThatFit_10 rfl (lv_at hl 1 rfl) ?_
        refine lv_aload_n zx zb dX5_legsThatFit_11 rfl (lv_at hl 2 rfl) ?_
        refine r_get (C := RX5) (T := TX5) (N := 8) (ci := 3) (v := .ref (an 9)) S in_X5_legsThatFit_X5 G 0 rfl rfl 5 (by decide) lk_X5_legsThatFit_39 rfl dX5_legsThatFit_12 ?_
        refine lv_iload_n zx zb dX5_legsThatFit_15 rfl (lv_at hl 3 rfl) ?_
        refine lv_aload_n zx zb dX5_legsThatFit_16 rfl (lv_at hl 2 rfl) ?_
        refine r_get (C := RX5) (T := TX5) (N := 8) (ci := 3) (v := .ref (an 0)) S in_X5_legsThatFit_X5 G 0 rfl rfl 3 (by decide) lk_X5_legsThatFit_23 rfl dX5_legsThatFit_17 ?_
        refine lv_iload_n zx zb dX5_legsThatFit_20 rfl (lv_at hl 3 rfl) ?_
        refine r_aald (C := RX8) (b := (an 2)) S G 1 3 rfl rfl (k_vp (by decide)) rfl dX5_legsThatFit_21 ?_
        refine r_get (C := RX8) (T := TX8) (N := 8) (ci := 6) (v := .int (sv 3)) S in_X5_legsThatFit_X8 G 3 rfl rfl 0 (by decide) lk_X5_legsThatFit_94 rfl dX5_legsThatFit_22 ?_
        refine lv_iload_n zx zb dX5_legsThatFit_25 rfl (lv_at hl 0 rfl) ?_
        refine o_ri (cells' := 0) (slots' := 0) G rfl rfl (n_V (As := [.int 1, .int (sv 3), .int (nI n4_3)]) (rest := [.int x4_2]) (C := RX7) (T := TX7) (N := 5) (ci := 5) S G (x_fitRunner0 l X (an 9) (an 10) n2 gs 1 (sv 3) (nI n4_3) hI_n2 H.size) gX5_legsThatFit_X7_fitRunner rfl rfl rfl hdV_X7_fitRunner ⟨Nat.le_of_ble_eq_true rfl, Nat.le_of_ble_eq_true rfl⟩ [10, 11] rfl rfl 10 rfl rfl rfl hl.1 (Nat.le_of_ble_eq_true rfl) dX5_legsThatFit_26 ⟨Nat.le_of_ble_eq_true rfl, Nat.le_of_ble_eq_true rfl⟩) (fun r_6 u_6 H locs hp_6 G => ?_)
        have G : wd X (fun _ => True) (va_A [] sz) s (rcV X hn an sv dv n0 n1 n2 n3 n4 g0 gs gn gm) H locs := G
        rcases hp_6 with ⟨rfl, hf_6⟩ | ⟨rfl, hf_6⟩
        · refine lv_if_eq (tgt := 38) zx zb dX5_legsThatFit_29 (by decide) (fun c_7 => absurd c_7 (by decide)) (fun c_7 => ?_)
          refine lv_iconst (v := 1) zx zb dX5_legsThatFit_32 (by decide) ?_
          refine lv_iload_n zx zb dX5_legsThatFit_33 rfl (lv_at hl 0 rfl) ?_
          refine lv_ishl zx zb dX5_legsThatFit_34 ?_
          refine lv_goto (tgt := 39) zx zb dX5_legsThatFit_35 (by decide) ?_
          refine lv_ior zx zb dX5_legsThatFit_39 ?_
          refine lv_istore_n (lv' := [(2, .int (x4_2 ||| (1 <<< ((nI n4_3) &&& 31)))), (3, .int (nI n4_3)), (0, .ref hn), (1, .int 1)]) zx zb dX5_legsThatFit_40 rfl hl (by decide) rfl (fun ls hl => ?_)
          refine lv_iinc (v := (nI (n4_3 + 1))) (lv' := [(3, .int (nI (n4_3 + 1))), (2, .int (x4_2 ||| (1 <<< ((nI n4_3) &&& 31)))), (0, .ref hn), (1, .int 1)]) zx zb dX5_legsThatFit_41 hl (k := 1) rfl (nI_add n4_3 1) (by decide) rfl (fun ls hl => ?_)
          refine lv_goto (tgt := 4) zx zb dX5_legsThatFit_44 (by decide) ?_
          exact ih4 (n4_3 + 1) (x4_2 ||| (1 <<< ((nI n4_3) &&& 31))) _ _ _ (by omega) ⟨by omega, by rw [setF_n (by omega), bitF_t hf_6, ← hx4_0.2]⟩ (by omega) G hl
        · refine lv_if_eq (tgt := 38) zx zb dX5_legsThatFit_29 (by decide) (fun c_8 => ?_) (fun c_8 => absurd (by decide) c_8)
          refine lv_iconst (v := 0) zx zb dX5_legsThatFit_38 (by decide) ?_
          refine lv_ior zx zb dX5_legsThatFit_39 ?_
          refine lv_istore_n (lv' := [(2, .int (x4_2 ||| 0)), (3, .int (nI n4_3)), (0, .ref hn), (1, .int 1)]) zx zb dX5_legsThatFit_40 rfl hl (by decide) rfl (fun ls hl => ?_)
          refine lv_iinc (v := (nI (n4_3 + 1))) (lv' := [(3, .int (nI (n4_3 + 1))), (2, .int (x4_2 ||| 0)), (0, .ref hn), (1, .int 1)]) zx zb dX5_legsThatFit_41 hl (k := 1) rfl (nI_add n4_3 1) (by decide) rfl (fun ls hl => ?_)
          refine lv_goto (tgt := 4) zx zb dX5_legsThatFit_44 (by decide) ?_
          exact ih4 (n4_3 + 1) (x4_2 ||| 0) _ _ _ (by omega) ⟨by omega, by rw [setF_n (by omega), bitF_f hf_6, ← hx4_0.2]⟩ (by omega) G hl
  · have hl : lv_has ls 4 [(0, .ref hn), (1, .int 2)] := hl
    refine lv_iconst (v := 0) zx zb dX5_legsThatFit_0 (by decide) ?_
    refine lv_istore_n (lv' := [(2, .int 0), (0, .ref hn), (1, .int 2)]) zx zb dX5_legsThatFit_1 rfl hl (by decide) rfl (fun ls hl => ?_)
    refine lv_iconst (v := 1) zx zb dX5_legsThatFit_2 (by decide) ?_
    refine lv_istore_n (lv' := [(3, .int 1), (2, .int 0), (0, .ref hn), (1, .int 2)]) zx zb dX5_legsThatFit_3 rfl hl (by decide) rfl (fun ls hl => ?_)
    refine k_loop (P := ∀ (zm : Nat) (n4_3 : Nat) (x4_2 : Int32) (H : Heap) (locs : List Loc) (ls : Array Slot), ((10 - n4_3) < zm) → ((1 ≤ n4_3 ∧ n4_3 ≤ 10) ∧ x4_2 = setF (fun l => fitP n2 (rowA gs 0) (fun _ => nI l) (rowA gs 2) (rowA gs 3) (rowA gs 4) 2 (sv 6)) 1 (n4_3 - 1)) → (n4_3 ≤ 10) → wd X (fun _ => True) (va_A [] sz) s (rcV X hn an sv dv n0 n1 n2 n3 n4 g0 gs gn gm) H locs → lv_has ls 4 [(3, .int (nI n4_3)), (2, .int x4_2), (0, .ref hn), (1, .int 2)] → W p l e _ s m _ below meth c H locs _ _ _ (F0 m 4 ls [])) (fun loop => loop ((10 - 1) + 1) 1 0 _ _ _ (by omega) ⟨by omega, rfl⟩ (by omega) G hl) ?_
    intro zm
    induction zm with
    | zero => intro n4_3 x4_2 H locs ls zz q_x0 q_hk_n4_3 _ _; exact absurd zz (by omega)
    | succ zm ih4 =>
      intro n4_3 x4_2 H locs ls zm_4 hx4_0 hk_n4_3 G hl
      refine lv_iload_n zx zb dX5_legsThatFit_4 rfl (lv_at hl 0 rfl) ?_
      refine lv_bipush (v := 9) zx zb dX5_legsThatFit_5 (by decide) ?_
      refine lv_icmp_gt (tgt := 47) zx zb dX5_legsThatFit_7 (by decide) (fun c_9 => ?_) (fun c_9 => ?_)
      · have fc_9 := j_lt (a := 9) (b := n4_3) (by omega) (by omega) c_9
        refine lv_iload_n zx zb dX5_legsThatFit_47 rfl (lv_at hl 1 rfl) ?_
        exact e_int S zr zlk (vp_nar_int _) G () [] rfl rfl (Or.inl rfl) (hx4_0.2.trans (by rw [show n4_3 = 10 from by omega]; first | done | rfl)) dX5_legsThatFit_48
      · have fc_9 := j_nlt (a := 9) (b := n4_3) (by omega) (by omega) c_9
        refine lv_iload_n zx zb dX5_legsThatFit_10 rfl (lv_at hl 1 rfl) ?_
        refine lv_aload_n zx zb dX5_legsThatFit_11 rfl (lv_at hl 2 rfl) ?_
        refine r_get (C := RX5) (T := TX5) (N := 8) (ci := 3) (v := .ref (an 9)) S in_X5_legsThatFit_X5 G 0 rfl rfl 5 (by decide) lk_X5_legsThatFit_39 rfl dX5_legsThatFit_12 ?_
        refine lv_iload_n zx zb dX5_legsThatFit_15 rfl (lv_at hl 3 rfl) ?_
        refine lv_aload_n zx zb dX5_legsThatFit_16 rfl (lv_at hl 2 rfl) ?_
        refine r_get (C := RX5) (T := TX5) (N := 8) (ci := 3) (v := .ref (an 0)) S in_X5_legsThatFit_X5 G 0 rfl rfl 3 (by decide) lk_X5_legsThatFit_23 rfl dX5_legsThatFit_17 ?_
        refine lv_iload_n zx zb dX5_legsThatFit_20 rfl (lv_at hl 3 rfl) ?_
        refine r_aald (C := RX8) (b := (an 3)) S G 1 3 rfl rfl (k_vp (by decide)) rfl dX5_legsThatFit_21 ?_
        refine r_get (C := RX8) (T := TX8) (N := 8) (ci := 6) (v := .int (sv 6)) S in_X5_legsThatFit_X8 G 4 rfl rfl 0 (by decide) lk_X5_legsThatFit_94 rfl dX5_legsThatFit_22 ?_
        refine lv_iload_n zx zb dX5_legsThatFit_25 rfl (lv_at hl 0 rfl) ?_
        refine o_ri (cells' := 0) (slots' := 0) G rfl rfl (n_V (As := [.int 2, .int (sv 6), .int (nI n4_3)]) (rest := [.int x4_2]) (C := RX7) (T := TX7) (N := 5) (ci := 5) S G (x_fitRunner0 l X (an 9) (an 10) n2 gs 2 (sv 6) (nI n4_3) hI_n2 H.size) gX5_legsThatFit_X7_fitRunner rfl rfl rfl hdV_X7_fitRunner ⟨Nat.le_of_ble_eq_true rfl, Nat.le_of_ble_eq_true rfl⟩ [10, 11] rfl rfl 10 rfl rfl rfl hl.1 (Nat.le_of_ble_eq_true rfl) dX5_legsThatFit_26 ⟨Nat.le_of_ble_eq_true rfl, Nat.le_of_ble_eq_true rfl⟩) (fun r_10 u_10 H locs hp_10 G => ?_)
        have G : wd X (fun _ => True) (va_A [] sz) s (rcV X hn an sv dv n0 n1 n2 n3 n4 g0 gs gn gm) H locs := G
        rcases hp_10 with ⟨rfl, hf_10⟩ | ⟨rfl, hf_10⟩
        · refine lv_if_eq (tgt := 38) zx zb dX5_legsThatFit_29 (by decide) (fun c_11 => absurd c_11 (by decide)) (fun c_11 => ?_)
          refine lv_iconst (v := 1) zx zb dX5_legsThatFit_32 (by decide) ?_
          refine lv_iload_n zx zb dX5_legsThatFit_33 rfl (lv_at hl 0 rfl) ?_
          refine lv_ishl zx zb dX5_legsThatFit_34 ?_
          refine lv_goto (tgt := 39) zx zb dX5_legsThatFit_35 (by decide) ?_
          refine lv_ior zx zb dX5_legsThatFit_39 ?_
          refine lv_istore_n (lv' := [(2, .int (x4_2 ||| (1 <<< ((nI n4_3) &&& 31)))), (3, .int (nI n4_3)), (0, .ref hn), (1, .int 2)]) zx zb dX5_legsThatFit_40 rfl hl (by decide) rfl (fun ls hl => ?_)
          refine lv_iinc (v := (nI (n4_3 + 1))) (lv' := [(3, .int (nI (n4_3 + 1))), (2, .int (x4_2 ||| (1 <<< ((nI n4_3) &&& 31)))), (0, .ref hn), (1, .int 2)]) zx zb dX5_legsThatFit_41 hl (k := 1) rfl (nI_add n4_3 1) (by decide) rfl (fun ls hl => ?_)
          refine lv_goto (tgt := 4) zx zb dX5_legsThatFit_44 (by decide) ?_
          exact ih4 (n4_3 + 1) (x4_2 ||| (1 <<< ((nI n4_3) &&& 31))) _ _ _ (by omega) ⟨by omega, by rw [setF_n (by omega), bitF_t hf_10, ← hx4_0.2]⟩ (by omega) G hl
        · refine lv_if_eq (tgt := 38) zx zb dX5_legsThatFit_29 (by decide) (fun c_12 => ?_) (fun c_12 => absurd (by decide) c_12)
          refine lv_iconst (v := 0) zx zb dX5_legsThatFit_38 (by decide) ?_
          refine lv_ior zx zb dX5_legsThatFit_39 ?_
          refine lv_istore_n (lv' := [(2, .int (x4_2 ||| 0)), (3, .int (nI n4_3)), (0, .ref hn), (1, .int 2)]) zx zb dX5_legsThatFit_40 rfl hl (by decide) rfl (fun ls hl => ?_)
          refine lv_iinc (v := (nI (n4_3 + 1))) (lv' := [(3, .int (nI (n4_3 + 1))), (2, .int (x4_2 ||| 0)), (0, .ref hn), (1, .int 2)]) zx zb dX5_legsThatFit_41 hl (k := 1) rfl (nI_add n4_3 1) (by decide) rfl (fun ls hl => ?_)
          refine lv_goto (tgt := 4) zx zb dX5_legsThatFit_44 (by decide) ?_
          exact ih4 (n4_3 + 1) (x4_2 ||| 0) _ _ _ (by omega) ⟨by omega, by rw [setF_n (by omega), bitF_f hf_10, ← hx4_0.2]⟩ (by omega) G hl
  · have hl : lv_has ls 4 [(0, .ref hn), (1, .int 3)] := hl
    refine lv_iconst (v := 0) zx zb dX5_legsThatFit_0 (by decide) ?_
    refine lv_istore_n (lv' := [(2, .int 0), (0, .ref hn), (1, .int 3)]) zx zb dX5_legsThatFit_1 rfl hl (by decide) rfl (fun ls hl => ?_)
    refine lv_iconst (v := 1) zx zb dX5_legsThatFit_2 (by decide) ?_
    refine lv_istore_n (lv' := [(3, .int 1), (2, .int 0), (0, .ref hn), (1, .int 3)]) zx zb dX5_legsThatFit_3 rfl hl (by decide) rfl (fun ls hl => ?_)
    refine k_loop (P := ∀ (zm : Nat) (n4_3 : Nat) (x4_2 : Int32) (H : Heap) (locs : List Loc) (ls : Array Slot), ((10 - n4_3) < zm) → ((1 ≤ n4_3 ∧ n4_3 ≤ 10) ∧ x4_2 = setF (fun l => fitP n2 (rowA gs 0) (fun _ => nI l) (rowA gs 2) (rowA gs 3) (rowA gs 4) 3 (sv 9)) 1 (n4_3 - 1)) → (n4_3 ≤ 10) → wd X (fun _ => True) (va_A [] sz) s (rcV X hn an sv dv n0 n1 n2 n3 n4 g0 gs gn gm) H locs → lv_has ls 4 [(3, .int (nI n4_3)), (2, .int x4_2), (0, .ref hn), (1, .int 3)] → W p l e _ s m _ below meth c H locs _ _ _ (F0 m 4 ls [])) (fun loop => loop ((10 - 1) + 1) 1 0 _ _ _ (by omega) ⟨by omega, rfl⟩ (by omega) G hl) ?_
    intro zm
    induction zm with
    | zero => intro n4_3 x4_2 H locs ls zz q_x0 q_hk_n4_3 _ _; exact absurd zz (by omega)
    | succ zm ih4 =>
      intro n4_3 x4_2 H locs ls zm_4 hx4_0 hk_n4_3 G hl
      refine lv_iload_n zx zb dX5_legsThatFit_4 rfl (lv_at hl 0 rfl) ?_
      refine lv_bipush (v := 9) zx zb dX5_legsThatFit_5 (by decide) ?_
      refine lv_icmp_gt (tgt := 47) zx zb dX5_legsThatFit_7 (by decide) (fun c_13 => ?_) (fun c_13 => ?_)
      · have fc_13 := j_lt (a := 9) (b := n4_3) (by omega) (by omega) c_13
        refine lv_iload_n zx zb dX5_legsThatFit_47 rfl (lv_at hl 1 rfl) ?_
        exact e_int S zr zlk (vp_nar_int _) G () [] rfl rfl (Or.inl rfl) (hx4_0.2.trans (by rw [show n4_3 = 10 from by omega]; first | done | rfl)) dX5_legsThatFit_48
      · have fc_13 := j_nlt (a := 9) (b := n4_3) (by omega) (by omega) c_13
        refine lv_iload_n zx zb dX5_legsThatFit_10 rfl (lv_at hl 1 rfl) ?_
        refine lv_aload_n zx zb dX5_legsThatFit_11 rfl (lv_at hl 2 rfl) ?_
        refine r_get (C := RX5) (T := TX5) (N := 8) (ci := 3) (v := .ref (an 9)) S in_X5_legsThatFit_X5 G 0 rfl rfl 5 (by decide) lk_X5_legsThatFit_39 rfl dX5_legsThatFit_12 ?_
        refine lv_iload_n zx zb dX5_legsThatFit_15 rfl (lv_at hl 3 rfl) ?_
        refine lv_aload_n zx zb dX5_legsThatFit_16 rfl (lv_at hl 2 rfl) ?_
        refine r_get (C := RX5) (T := TX5) (N := 8) (ci := 3) (v := .ref (an 0)) S in_X5_legsThatFit_X5 G 0 rfl rfl 3 (by decide) lk_X5_legsThatFit_23 rfl dX5_legsThatFit_17 ?_
        refine lv_iload_n zx zb dX5_legsThatFit_20 rfl (lv_at hl 3 rfl) ?_
        refine r_aald (C := RX8) (b := (an 4)) S G 1 3 rfl rfl (k_vp (by decide)) rfl dX5_legsThatFit_21 ?_
        refine r_get (C := RX8) (T := TX8) (N := 8) (ci := 6) (v := .int (sv 9)) S in_X5_legsThatFit_X8 G 5 rfl rfl 0 (by decide) lk_X5_legsThatFit_94 rfl dX5_legsThatFit_22 ?_
        refine lv_iload_n zx zb dX5_legsThatFit_25 rfl (lv_at hl 0 rfl) ?_
        refine o_ri (cells' := 0) (slots' := 0) G rfl rfl (n_V (As := [.int 3, .int (sv 9), .int (nI n4_3)]) (rest := [.int x4_2]) (C := RX7) (T := TX7) (N := 5) (ci := 5) S G (x_fitRunner0 l X (an 9) (an 10) n2 gs 3 (sv 9) (nI n4_3) hI_n2 H.size) gX5_legsThatFit_X7_fitRunner rfl rfl rfl hdV_X7_fitRunner ⟨Nat.le_of_ble_eq_true rfl, Nat.le_of_ble_eq_true rfl⟩ [10, 11] rfl rfl 10 rfl rfl rfl hl.1 (Nat.le_of_ble_eq_true rfl) dX5_legsThatFit_26 ⟨Nat.le_of_ble_eq_true rfl, Nat.le_of_ble_eq_true rfl⟩) (fun r_14 u_14 H locs hp_14 G => ?_)
        have G : wd X (fun _ => True) (va_A [] sz) s (rcV X hn an sv dv n0 n1 n2 n3 n4 g0 gs gn gm) H locs := G
        rcases hp_14 with ⟨rfl, hf_14⟩ | ⟨rfl, hf_14⟩
        · refine lv_if_eq (tgt := 38) zx zb dX5_legsThatFit_29 (by decide) (fun c_15 => absurd c_15 (by decide)) (fun c_15 => ?_)
          refine lv_iconst (v := 1) zx zb dX5_legsThatFit_32 (by decide) ?_
          refine lv_iload_n zx zb dX5_legsThatFit_33 rfl (lv_at hl 0 rfl) ?_
          refine lv_ishl zx zb dX5_legsThatFit_34 ?_
          refine lv_goto (tgt := 39) zx zb dX5_legsThatFit_35 (by decide) ?_
          refine lv_ior zx zb dX5_legsThatFit_39 ?_
          refine lv_istore_n (lv' := [(2, .int (x4_2 ||| (1 <<< ((nI n4_3) &&& 31)))), (3, .int (nI n4_3)), (0, .ref hn), (1, .int 3)]) zx zb dX5_legsThatFit_40 rfl hl (by decide) rfl (fun ls hl => ?_)
          refine lv_iinc (v := (nI (n4_3 + 1))) (lv' := [(3, .int (nI (n4_3 + 1))), (2, .int (x4_2 ||| (1 <<< ((nI n4_3) &&& 31)))), (0, .ref hn), (1, .int 3)]) zx zb dX5_legsThatFit_41 hl (k := 1) rfl (nI_add n4_3 1) (by decide) rfl (fun ls hl => ?_)
          refine lv_goto (tgt := 4) zx zb dX5_legsThatFit_44 (by decide) ?_
          exact ih4 (n4_3 + 1) (x4_2 ||| (1 <<< ((nI n4_3) &&& 31))) _ _ _ (by omega) ⟨by omega, by rw [setF_n (by omega), bitF_t hf_14, ← hx4_0.2]⟩ (by omega) G hl
        · refine lv_if_eq (tgt := 38) zx zb dX5_legsThatFit_29 (by decide) (fun c_16 => ?_) (fun c_16 => absurd (by decide) c_16)
          refine lv_iconst (v := 0) zx zb dX5_legsThatFit_38 (by decide) ?_
          refine lv_ior zx zb dX5_legsThatFit_39 ?_
          refine lv_istore_n (lv' := [(2, .int (x4_2 ||| 0)), (3, .int (nI n4_3)), (0, .ref hn), (1, .int 3)]) zx zb dX5_legsThatFit_40 rfl hl (by decide) rfl (fun ls hl => ?_)
          refine lv_iinc (v := (nI (n4_3 + 1))) (lv' := [(3, .int (nI (n4_3 + 1))), (2, .int (x4_2 ||| 0)), (0, .ref hn), (1, .int 3)]) zx zb dX5_legsThatFit_41 hl (k := 1) rfl (nI_add n4_3 1) (by decide) rfl (fun ls hl => ?_)
          refine lv_goto (tgt := 4) zx zb dX5_legsThatFit_44 (by decide) ?_
          exact ih4 (n4_3 + 1) (x4_2 ||| 0) _ _ _ (by omega) ⟨by omega, by rw [setF_n (by omega), bitF_f hf_14, ← hx4_0.2]⟩ (by omega) G hl
  · have hl : lv_has ls 4 [(0, .ref hn), (1, .int 4)] := hl
    refine lv_iconst (v := 0) zx zb dX5_legsThatFit_0 (by decide) ?_
    refine lv_istore_n (lv' := [(2, .int 0), (0, .ref hn), (1, .int 4)]) zx zb dX5_legsThatFit_1 rfl hl (by decide) rfl (fun ls hl => ?_)
    refine lv_iconst (v := 1) zx zb dX5_legsThatFit_2 (by decide) ?_
    refine lv_istore_n (lv' := [(3, .int 1), (2, .int 0), (0, .ref hn), (1, .int 4)]) zx zb dX5_legsThatFit_3 rfl hl (by decide) rfl (fun ls hl => ?_)
    refine k_loop (P := ∀ (zm : Nat) (n4_3 : Nat) (x4_2 : Int32) (H : Heap) (locs : List Loc) (ls : Array Slot), ((10 - n4_3) < zm) → ((1 ≤ n4_3 ∧ n4_3 ≤ 10) ∧ x4_2 = setF (fun l => fitP n2 (rowA gs 0) (fun _ => nI l) (rowA gs 2) (rowA gs 3) (rowA gs 4) 4 (sv 12)) 1 (n4_3 - 1)) → (n4_3 ≤ 10) → wd X (fun _ => True) (va_A [] sz) s (rcV X hn an sv dv n0 n1 n2 n3 n4 g0 gs gn gm) H locs → lv_has ls 4 [(3, .int (nI n4_3)), (2, .int x4_2), (0, .ref hn), (1, .int 4)] → W p l e _ s m _ below meth c H locs _ _ _ (F0 m 4 ls [])) (fun loop => loop ((10 - 1) + 1) 1 0 _ _ _ (by omega) ⟨by omega, rfl⟩ (by omega) G hl) ?_
    intro zm
    induction zm with
    | zero => intro n4_3 x4_2 H locs ls zz q_x0 q_hk_n4_3 _ _; exact absurd zz (by omega)
    | succ zm ih4 =>
      intro n4_3 x4_2 H locs ls zm_4 hx4_0 hk_n4_3 G hl
      refine lv_iload_n zx zb dX5_legsThatFit_4 rfl (lv_at hl 0 rfl) ?_
      refine lv_bipush (v := 9) zx zb dX5_legsThatFit_5 (by decide) ?_
      refine lv_icmp_gt (tgt := 47) zx zb dX5_legsThatFit_7 (by decide) (fun c_17 => ?_) (fun c_17 => ?_)
      · have fc_17 := j_lt (a := 9) (b := n4_3) (by omega) (by omega) c_17
        refine lv_iload_n zx zb dX5_legsThatFit_47 rfl (lv_at hl 1 rfl) ?_
        exact e_int S zr zlk (vp_nar_int _) G () [] rfl rfl (Or.inl rfl) (hx4_0.2.trans (by rw [show n4_3 = 10 from by omega]; first | done | rfl)) dX5_legsThatFit_48
      · have fc_17 := j_nlt (a := 9) (b := n4_3) (by omega) (by omega) c_17
        refine lv_iload_n zx zb dX5_legsThatFit_10 rfl (lv_at hl 1 rfl) ?_
        refine lv_aload_n zx zb dX5_legsThatFit_11 rfl (lv_at hl 2 rfl) ?_
        refine r_get (C := RX5) (T := TX5) (N := 8) (ci := 3) (v := .ref (an 9)) S in_X5_legsThatFit_X5 G 0 rfl rfl 5 (by decide) lk_X5_legsThatFit_39 rfl dX5_legsThatFit_12 ?_
        refine lv_iload_n zx zb dX5_legsThatFit_15 rfl (lv_at hl 3 rfl) ?_
        refine lv_aload_n zx zb dX5_legsThatFit_16 rfl (lv_at hl 2 rfl) ?_
        refine r_get (C := RX5) (T := TX5) (N := 8) (ci := 3) (v := .ref (an 0)) S in_X5_legsThatFit_X5 G 0 rfl rfl 3 (by decide) lk_X5_legsThatFit_23 rfl dX5_legsThatFit_17 ?_
        refine lv_iload_n zx zb dX5_legsThatFit_20 rfl (lv_at hl 3 rfl) ?_
        refine r_aald (C := RX8) (b := (an 5)) S G 1 3 rfl rfl (k_vp (by decide)) rfl dX5_legsThatFit_21 ?_
        refine r_get (C := RX8) (T := TX8) (N := 8) (ci := 6) (v := .int (sv 12)) S in_X5_legsThatFit_X8 G 6 rfl rfl 0 (by decide) lk_X5_legsThatFit_94 rfl dX5_legsThatFit_22 ?_
        refine lv_iload_n zx zb dX5_legsThatFit_25 rfl (lv_at hl 0 rfl) ?_
        refine o_ri (cells' := 0) (slots' := 0) G rfl rfl (n_V (As := [.int 4, .int (sv 12), .int (nI n4_3)]) (rest := [.int x4_2]) (C := RX7) (T := TX7) (N := 5) (ci := 5) S G (x_fitRunner0 l X (an 9) (an 10) n2 gs 4 (sv 12) (nI n4_3) hI_n2 H.size) gX5_legsThatFit_X7_fitRunner rfl rfl rfl hdV_X7_fitRunner ⟨Nat.le_of_ble_eq_true rfl, Nat.le_of_ble_eq_true rfl⟩ [10, 11] rfl rfl 10 rfl rfl rfl hl.1 (Nat.le_of_ble_eq_true rfl) dX5_legsThatFit_26 ⟨Nat.le_of_ble_eq_true rfl, Nat.le_of_ble_eq_true rfl⟩) (fun r_18 u_18 H locs hp_18 G => ?_)
        have G : wd X (fun _ => True) (va_A [] sz) s (rcV X hn an sv dv n0 n1 n2 n3 n4 g0 gs gn gm) H locs := G
        rcases hp_18 with ⟨rfl, hf_18⟩ | ⟨rfl, hf_18⟩
        · refine lv_if_eq (tgt := 38) zx zb dX5_legsThatFit_29 (by decide) (fun c_19 => absurd c_19 (by decide)) (fun c_19 => ?_)
          refine lv_iconst (v := 1) zx zb dX5_legsThatFit_32 (by decide) ?_
          refine lv_iload_n zx zb dX5_legsThatFit_33 rfl (lv_at hl 0 rfl) ?_
          refine lv_ishl zx zb dX5_legsThatFit_34 ?_
          refine lv_goto (tgt := 39) zx zb dX5_legsThatFit_35 (by decide) ?_
          refine lv_ior zx zb dX5_legsThatFit_39 ?_
          refine lv_istore_n (lv' := [(2, .int (x4_2 ||| (1 <<< ((nI n4_3) &&& 31)))), (3, .int (nI n4_3)), (0, .ref hn), (1, .int 4)]) zx zb dX5_legsThatFit_40 rfl hl (by decide) rfl (fun ls hl => ?_)
          refine lv_iinc (v := (nI (n4_3 + 1))) (lv' := [(3, .int (nI (n4_3 + 1))), (2, .int (x4_2 ||| (1 <<< ((nI n4_3) &&& 31)))), (0, .ref hn), (1, .int 4)]) zx zb dX5_legsThatFit_41 hl (k := 1) rfl (nI_add n4_3 1) (by decide) rfl (fun ls hl => ?_)
          refine lv_goto (tgt := 4) zx zb dX5_legsThatFit_44 (by decide) ?_
          exact ih4 (n4_3 + 1) (x4_2 ||| (1 <<< ((nI n4_3) &&& 31))) _ _ _ (by omega) ⟨by omega, by rw [setF_n (by omega), bitF_t hf_18, ← hx4_0.2]⟩ (by omega) G hl
        · refine lv_if_eq (tgt := 38) zx zb dX5_legsThatFit_29 (by decide) (fun c_20 => ?_) (fun c_20 => absurd (by decide) c_20)
          refine lv_iconst (v := 0) zx zb dX5_legsThatFit_38 (by decide) ?_
          refine lv_ior zx zb dX5_legsThatFit_39 ?_
          refine lv_istore_n (lv' := [(2, .int (x4_2 ||| 0)), (3, .int (nI n4_3)), (0, .ref hn), (1, .int 4)]) zx zb dX5_legsThatFit_40 rfl hl (by decide) rfl (fun ls hl => ?_)
          refine lv_iinc (v := (nI (n4_3 + 1))) (lv' := [(3, .int (nI (n4_3 + 1))), (2, .int (x4_2 ||| 0)), (0, .ref hn), (1, .int 4)]) zx zb dX5_legsThatFit_41 hl (k := 1) rfl (nI_add n4_3 1) (by decide) rfl (fun ls hl => ?_)
          refine lv_goto (tgt := 4) zx zb dX5_legsThatFit_44 (by decide) ?_
          exact ih4 (n4_3 + 1) (x4_2 ||| 0) _ _ _ (by omega) ⟨by omega, by rw [setF_n (by omega), bitF_f hf_18, ← hx4_0.2]⟩ (by omega) G hl
  · have hl : lv_has ls 4 [(0, .ref hn), (1, .int 5)] := hl
    refine lv_iconst (v := 0) zx zb dX5_legsThatFit_0 (by decide) ?_
    refine lv_istore_n (lv' := [(2, .int 0), (0, .ref hn), (1, .int 5)]) zx zb dX5_legsThatFit_1 rfl hl (by decide) rfl (fun ls hl => ?_)
    refine lv_iconst (v := 1) zx zb dX5_legsThatFit_2 (by decide) ?_
    refine lv_istore_n (lv' := [(3, .int 1), (2, .int 0), (0, .ref hn), (1, .int 5)]) zx zb dX5_legsThatFit_3 rfl hl (by decide) rfl (fun ls hl => ?_)
    refine k_loop (P := ∀ (zm : Nat) (n4_3 : Nat) (x4_2 : Int32) (H : Heap) (locs : List Loc) (ls : Array Slot), ((10 - n4_3) < zm) → ((1 ≤ n4_3 ∧ n4_3 ≤ 10) ∧ x4_2 = setF (fun l => fitP n2 (rowA gs 0) (fun _ => nI l) (rowA gs 2) (rowA gs 3) (rowA gs 4) 5 (sv 15)) 1 (n4_3 - 1)) → (n4_3 ≤ 10) → wd X (fun _ => True) (va_A [] sz) s (rcV X hn an sv dv n0 n1 n2 n3 n4 g0 gs gn gm) H locs → lv_has ls 4 [(3, .int (nI n4_3)), (2, .int x4_2), (0, .ref hn), (1, .int 5)] → W p l e _ s m _ below meth c H locs _ _ _ (F0 m 4 ls [])) (fun loop => loop ((10 - 1) + 1) 1 0 _ _ _ (by omega) ⟨by omega, rfl⟩ (by omega) G hl) ?_
    intro zm
    induction zm with
    | zero => intro n4_3 x4_2 H locs ls zz q_x0 q_hk_n4_3 _ _; exact absurd zz (by omega)
    | succ zm ih4 =>
      intro n4_3 x4_2 H locs ls zm_4 hx4_0 hk_n4_3 G hl
      refine lv_iload_n zx zb dX5_legsThatFit_4 rfl (lv_at hl 0 rfl) ?_
      refine lv_bipush (v := 9) zx zb dX5_legsThatFit_5 (by decide) ?_
      refine lv_icmp_gt (tgt := 47) zx zb dX5_legsThatFit_7 (by decide) (fun c_21 => ?_) (fun c_21 => ?_)
      · have fc_21 := j_lt (a := 9) (b := n4_3) (by omega) (by omega) c_21
        refine lv_iload_n zx zb dX5_legsThatFit_47 rfl (lv_at hl 1 rfl) ?_
        exact e_int S zr zlk (vp_nar_int _) G () [] rfl rfl (Or.inl rfl) (hx4_0.2.trans (by rw [show n4_3 = 10 from by omega]; first | done | rfl)) dX5_legsThatFit_48
      · have fc_21 := j_nlt (a := 9) (b := n4_3) (by omega) (by omega) c_21
        refine lv_iload_n zx zb dX5_legsThatFit_10 rfl (lv_at hl 1 rfl) ?_
        refine lv_aload_n zx zb dX5_legsThatFit_11 rfl (lv_at hl 2 rfl) ?_
        refine r_get (C := RX5) (T := TX5) (N := 8) (ci := 3) (v := .ref (an 9)) S in_X5_legsThatFit_X5 G 0 rfl rfl 5 (by decide) lk_X5_legsThatFit_39 rfl dX5_legsThatFit_12 ?_
        refine lv_iload_n zx zb dX5_legsThatFit_15 rfl (lv_at hl 3 rfl) ?_
        refine lv_aload_n zx zb dX5_legsThatFit_16 rfl (lv_at hl 2 rfl) ?_
        refine r_get (C := RX5) (T := TX5) (N := 8) (ci := 3) (v := .ref (an 0)) S in_X5_legsThatFit_X5 G 0 rfl rfl 3 (by decide) lk_X5_legsThatFit_23 rfl dX5_legsThatFit_17 ?_
        refine lv_iload_n zx zb dX5_legsThatFit_20 rfl (lv_at hl 3 rfl) ?_
        refine r_aald (C := RX8) (b := (an 6)) S G 1 3 rfl rfl (k_vp (by decide)) rfl dX5_legsThatFit_21 ?_
        refine r_get (C := RX8) (T := TX8) (N := 8) (ci := 6) (v := .int (sv 15)) S in_X5_legsThatFit_X8 G 7 rfl rfl 0 (by decide) lk_X5_legsThatFit_94 rfl dX5_legsThatFit_22 ?_
        refine lv_iload_n zx zb dX5_legsThatFit_25 rfl (lv_at hl 0 rfl) ?_
        refine o_ri (cells' := 0) (slots' := 0) G rfl rfl (n_V (As := [.int 5, .int (sv 15), .int (nI n4_3)]) (rest := [.int x4_2]) (C := RX7) (T := TX7) (N := 5) (ci := 5) S G (x_fitRunner0 l X (an 9) (an 10) n2 gs 5 (sv 15) (nI n4_3) hI_n2 H.size) gX5_legsThatFit_X7_fitRunner rfl rfl rfl hdV_X7_fitRunner ⟨Nat.le_of_ble_eq_true rfl, Nat.le_of_ble_eq_true rfl⟩ [10, 11] rfl rfl 10 rfl rfl rfl hl.1 (Nat.le_of_ble_eq_true rfl) dX5_legsThatFit_26 ⟨Nat.le_of_ble_eq_true rfl, Nat.le_of_ble_eq_true rfl⟩) (fun r_22 u_22 H locs hp_22 G => ?_)
        have G : wd X (fun _ => True) (va_A [] sz) s (rcV X hn an sv dv n0 n1 n2 n3 n4 g0 gs gn gm) H locs := G
        rcases hp_22 with ⟨rfl, hf_22⟩ | ⟨rfl, hf_22⟩
        · refine lv_if_eq (tgt := 38) zx zb dX5_legsThatFit_29 (by decide) (fun c_23 => absurd c_23 (by decide)) (fun c_23 => ?_)
          refine lv_iconst (v := 1) zx zb dX5_legsThatFit_32 (by decide) ?_
          refine lv_iload_n zx zb dX5_legsThatFit_33 rfl (lv_at hl 0 rfl) ?_
          refine lv_ishl zx zb dX5_legsThatFit_34 ?_
          refine lv_goto (tgt := 39) zx zb dX5_legsThatFit_35 (by decide) ?_
          refine lv_ior zx zb dX5_legsThatFit_39 ?_
          refine lv_istore_n (lv' := [(2, .int (x4_2 ||| (1 <<< ((nI n4_3) &&& 31)))), (3, .int (nI n4_3)), (0, .ref hn), (1, .int 5)]) zx zb dX5_legsThatFit_40 rfl hl (by decide) rfl (fun ls hl => ?_)
          refine lv_iinc (v := (nI (n4_3 + 1))) (lv' := [(3, .int (nI (n4_3 + 1))), (2, .int (x4_2 ||| (1 <<< ((nI n4_3) &&& 31)))), (0, .ref hn), (1, .int 5)]) zx zb dX5_legsThatFit_41 hl (k := 1) rfl (nI_add n4_3 1) (by decide) rfl (fun ls hl => ?_)
          refine lv_goto (tgt := 4) zx zb dX5_legsThatFit_44 (by decide) ?_
          exact ih4 (n4_3 + 1) (x4_2 ||| (1 <<< ((nI n4_3) &&& 31))) _ _ _ (by omega) ⟨by omega, by rw [setF_n (by omega), bitF_t hf_22, ← hx4_0.2]⟩ (by omega) G hl
        · refine lv_if_eq (tgt := 38) zx zb dX5_legsThatFit_29 (by decide) (fun c_24 => ?_) (fun c_24 => absurd (by decide) c_24)
          refine lv_iconst (v := 0) zx zb dX5_legsThatFit_38 (by decide) ?_
          refine lv_ior zx zb dX5_legsThatFit_39 ?_
          refine lv_istore_n (lv' := [(2, .int (x4_2 ||| 0)), (3, .int (nI n4_3)), (0, .ref hn), (1, .int 5)]) zx zb dX5_legsThatFit_40 rfl hl (by decide) rfl (fun ls hl => ?_)
          refine lv_iinc (v := (nI (n4_3 + 1))) (lv' := [(3, .int (nI (n4_3 + 1))), (2, .int (x4_2 ||| 0)), (0, .ref hn), (1, .int 5)]) zx zb dX5_legsThatFit_41 hl (k := 1) rfl (nI_add n4_3 1) (by decide) rfl (fun ls hl => ?_)
          refine lv_goto (tgt := 4) zx zb dX5_legsThatFit_44 (by decide) ?_
          exact ih4 (n4_3 + 1) (x4_2 ||| 0) _ _ _ (by omega) ⟨by omega, by rw [setF_n (by omega), bitF_f hf_22, ← hx4_0.2]⟩ (by omega) G hl
set_option maxHeartbeats 4000000 in
set_option maxRecDepth 100000 in
theorem x_kindsThatFit (l : Launch) (X : EX) (hn : Nat) (an : Nat → Nat) (sv : Nat → Int32) (dv : Nat → Int32) (n0 : Nat) (n1 : Nat) (n2 : Nat) (n3 : Nat) (n4 : Nat) (g0 : Nat → Int32) (gs : Nat → Int32) (gn : Nat → Int32) (gm : Nat → Int32) (i : Nat) (hI_n0 : n0 ≤ 6) (hI_n1 : n1 ≤ 8) (hI_n2 : n2 ≤ 5) (hI_n3 : n3 ≤ 6) (hI_n4 : n4 ≤ 6) (hi6 : i < 6) (sz : Nat) : Met l yX5_kindsThatFit wsX5_kindsThatFit ({ frames := 2, cells := 0, slots := 0, locals := 52 } : Room) (pE X [.ref hn, .int (nI i)] (rcV X hn an sv dv n0 n1 n2 n3 n4 g0 gs gn gm) sz) (qI (fun (r : Int32) (u : Unit) => r = setF (fun l => fitP n3 (rowA gn 0) (rowA gn 1) (rowA gn 2) (rowA gn 3) (rowA gn 4) (nI i) (nI l)) 0 6) X (fun (u : Unit) => []) [] sz) 0 0 (va_A [] sz) := by
  refine mk_met (B := (fun _ => True)) (A := (va_A [] sz)) (cc := cX5_kindsThatFit) (maxL := 4) (ret := (some .int)) (by decide) rfl (Nat.le_of_ble_eq_true rfl) k_ro k_a (fun p e s m below meth c S zr zlk znm zsz G ls hl => ?_)
  have S : CallFix p m c cX5_kindsThatFit 4 s _ wsX5_kindsThatFit RX5 := S
  have zx := S.1
  have zb := S.2.1
  have hl : lv_has ls 4 [(0, .ref hn), (1, .int (nI i))] := hl
  refine lv_iconst (v := 0) zx zb dX5_kindsThatFit_0 (by decide) ?_
  refine lv_istore_n (lv' := [(2, .int 0), (0, .ref hn), (1, .int (nI i))]) zx zb dX5_kindsThatFit_1 rfl hl (by decide) rfl (fun ls hl => ?_)
  refine lv_iconst (v := 0) zx zb dX5_kindsThatFit_2 (by decide) ?_
  refine lv_istore_n (lv' := [(3, .int 0), (2, .int 0), (0, .ref hn), (1, .int (nI i))]) zx zb dX5_kindsThatFit_3 rfl hl (by decide) rfl (fun ls hl => ?_)
  refine k_loop (P := ∀ (zm : Nat) (n4_3 : Nat) (x4_2 : Int32) (H : Heap) (locs : List Loc) (ls : Array Slot), ((6 - n4_3) < zm) → ((0 ≤ n4_3 ∧ n4_3 ≤ 6) ∧ x4_2 = setF (fun l => fitP n3 (rowA gn 0) (rowA gn 1) (rowA gn 2) (rowA gn 3) (rowA gn 4) (nI i) (nI l)) 0 (n4_3 - 0)) → (n4_3 ≤ 6) → wd X (fun _ => True) (va_A [] sz) s (rcV X hn an sv dv n0 n1 n2 n3 n4 g0 gs gn gm) H locs → lv_has ls 4 [(3, .int (nI n4_3)), (2, .int x4_2), (0, .ref hn), (1, .int (nI i))] → W p l e _ s m _ below meth c H locs _ _ _ (F0 m 4 ls [])) (fun loop => loop ((6 - 0) + 1) 0 0 _ _ _ (by omega) ⟨by omega, rfl⟩ (by omega) G hl) ?_
  intro zm
  induction zm with
  | zero => intro n4_3 x4_2 H locs ls zz q_x0 q_hk_n4_3 _ _; exact absurd zz (by omega)
  | succ zm ih4 =>
    intro n4_3 x4_2 H locs ls zm_4 hx4_0 hk_n4_3 G hl
    refine lv_iload_n zx zb dX5_kindsThatFit_4 rfl (lv_at hl 0 rfl) ?_
    refine lv_bipush (v := 6) zx zb dX5_kindsThatFit_5 (by decide) ?_
    refine lv_icmp_ge (tgt := 39) zx zb dX5_kindsThatFit_7 (by decide) (fun c_1 => ?_) (fun c_1 => ?_)
    · have fc_1 := j_le (a := 6) (b := n4_3) (by omega) (by omega) c_1
      refine lv_iload_n zx zb dX5_kindsThatFit_39 rfl (lv_at hl 1 rfl) ?_
      exact e_int S zr zlk (vp_nar_int _) G () [] rfl rfl (Or.inl rfl) (hx4_0.2.trans (by rw [show n4_3 = 6 from by omega]; first | done | rfl)) dX5_kindsThatFit_40
    · have fc_1 := j_nle (a := 6) (b := n4_3) (by omega) (by omega) c_1
      refine lv_iload_n zx zb dX5_kindsThatFit_10 rfl (lv_at hl 1 rfl) ?_
      refine lv_aload_n zx zb dX5_kindsThatFit_11 rfl (lv_at hl 2 rfl) ?_
      refine r_get (C := RX5) (T := TX5) (N := 8) (ci := 3) (v := .ref (an 11)) S in_X5_kindsThatFit_X5 G 0 rfl rfl 6 (by decide) lk_X5_kindsThatFit_43 rfl dX5_kindsThatFit_12 ?_
      refine lv_iload_n zx zb dX5_kindsThatFit_15 rfl (lv_at hl 3 rfl) ?_
      refine lv_iload_n zx zb dX5_kindsThatFit_16 rfl (lv_at hl 0 rfl) ?_
      refine lv_iconst (v := 0) zx zb dX5_kindsThatFit_17 (by decide) ?_
      refine o_ri (cells' := 0) (slots' := 0) G rfl rfl (n_V (As := [.int (nI i), .int (nI n4_3), .int 0]) (rest := [.int x4_2]) (C := RX7) (T := TX7) (N := 5) (ci := 5) S G (x_fitRunner1 l X (an 11) (an 12) n3 gn (nI i) (nI n4_3) 0 hI_n3 H.size) gX5_kindsThatFit_X7_fitRunner rfl rfl rfl hdV_X7_fitRunner ⟨Nat.le_of_ble_eq_true rfl, Nat.le_of_ble_eq_true rfl⟩ [12, 13] rfl rfl 12 rfl rfl rfl hl.1 (Nat.le_of_ble_eq_true rfl) dX5_kindsThatFit_18 ⟨Nat.le_of_ble_eq_true rfl, Nat.le_of_ble_eq_true rfl⟩) (fun r_2 u_2 H locs hp_2 G => ?_)
      have G : wd X (fun _ => True) (va_A [] sz) s (rcV X hn an sv dv n0 n1 n2 n3 n4 g0 gs gn gm) H locs := G
      rcases hp_2 with ⟨rfl, hf_2⟩ | ⟨rfl, hf_2⟩
      · refine lv_if_eq (tgt := 30) zx zb dX5_kindsThatFit_21 (by decide) (fun c_3 => absurd c_3 (by decide)) (fun c_3 => ?_)
        refine lv_iconst (v := 1) zx zb dX5_kindsThatFit_24 (by decide) ?_
        refine lv_iload_n zx zb dX5_kindsThatFit_25 rfl (lv_at hl 0 rfl) ?_
        refine lv_ishl zx zb dX5_kindsThatFit_26 ?_
        refine lv_goto (tgt := 31) zx zb dX5_kindsThatFit_27 (by decide) ?_
        refine lv_ior zx zb dX5_kindsThatFit_31 ?_
        refine lv_istore_n (lv' := [(2, .int (x4_2 ||| (1 <<< ((nI n4_3) &&& 31)))), (3, .int (nI n4_3)), (0, .ref hn), (1, .int (nI i))]) zx zb dX5_kindsThatFit_32 rfl hl (by decide) rfl (fun ls hl => ?_)
        refine lv_iinc (v := (nI (n4_3 + 1))) (lv' := [(3, .int (nI (n4_3 + 1))), (2, .int (x4_2 ||| (1 <<< ((nI n4_3) &&& 31)))), (0, .ref hn), (1, .int (nI i))]) zx zb dX5_kindsThatFit_33 hl (k := 1) rfl (nI_add n4_3 1) (by decide) rfl (fun ls hl => ?_)
        refine lv_goto (tgt := 4) zx zb dX5_kindsThatFit_36 (by decide) ?_
        exact ih4 (n4_3 + 1) (x4_2 ||| (1 <<< ((nI n4_3) &&& 31))) _ _ _ (by omega) ⟨by omega, by rw [setF_n (by omega), bitF_t hf_2, ← hx4_0.2]⟩ (by omega) G hl
      · refine lv_if_eq (tgt := 30) zx zb dX5_kindsThatFit_21 (by decide) (fun c_4 => ?_) (fun c_4 => absurd (by decide) c_4)
        refine lv_iconst (v := 0) zx zb dX5_kindsThatFit_30 (by decide) ?_
        refine lv_ior zx zb dX5_kindsThatFit_31 ?_
        refine lv_istore_n (lv' := [(2, .int (x4_2 ||| 0)), (3, .int (nI n4_3)), (0, .ref hn), (1, .int (nI i))]) zx zb dX5_kindsThatFit_32 rfl hl (by decide) rfl (fun ls hl => ?_)
        refine lv_iinc (v := (nI (n4_3 + 1))) (lv' := [(3, .int (nI (n4_3 + 1))), (2, .int (x4_2 ||| 0)), (0, .ref hn), (1, .int (nI i))]) zx zb dX5_kindsThatFit_33 hl (k := 1) rfl (nI_add n4_3 1) (by decide) rfl (fun ls hl => ?_)
        refine lv_goto (tgt := 4) zx zb dX5_kindsThatFit_36 (by decide) ?_
        exact ih4 (n4_3 + 1) (x4_2 ||| 0) _ _ _ (by omega) ⟨by omega, by rw [setF_n (by omega), bitF_f hf_2, ← hx4_0.2]⟩ (by omega) G hl
set_option maxHeartbeats 4000000 in
set_option maxRecDepth 100000 in
theorem x_eggsThatFit (l : Launch) (X : EX) (hn : Nat) (an : Nat → Nat) (sv : Nat → Int32) (dv : Nat → Int32) (n0 : Nat) (n1 : Nat) (n2 : Nat) (n3 : Nat) (n4 : Nat) (g0 : Nat → Int32) (gs : Nat → Int32) (gn : Nat → Int32) (gm : Nat → Int32) (i : Nat) (hI_n0 : n0 ≤ 6) (hI_n1 : n1 ≤ 8) (hI_n2 : n2 ≤ 5) (hI_n3 : n3 ≤ 6) (hI_n4 : n4 ≤ 6) (hi6 : i < 6) (sz : Nat) : Met l yX5_eggsThatFit wsX5_eggsThatFit ({ frames := 2, cells := 0, slots := 0, locals := 48 } : Room) (pE X [.ref hn, .int (nI i)] (rcV X hn an sv dv n0 n1 n2 n3 n4 g0 gs gn gm) sz) (qI (fun (r : Int32) (u : Unit) => r = setF (fun l => eggP n4 (rowA gm 0) (rowA gm 2) (rowA gm 4) (nI i) (nI l)) 0 6) X (fun (u : Unit) => []) [] sz) 0 0 (va_A [] sz) := by
  refine mk_met (B := (fun _ => True)) (A := (va_A [] sz)) (cc := cX5_eggsThatFit) (maxL := 4) (ret := (some .int)) (by decide) rfl (Nat.le_of_ble_eq_true rfl) k_ro k_a (fun p e s m below meth c S zr zlk znm zsz G ls hl => ?_)
  have S : CallFix p m c cX5_eggsThatFit 4 s _ wsX5_eggsThatFit RX5 := S
  have zx := S.1
  have zb := S.2.1
  have hl : lv_has ls 4 [(0, .ref hn), (1, .int (nI i))] := hl
  refine lv_iconst (v := 0) zx zb dX5_eggsThatFit_0 (by decide) ?_
  refine lv_istore_n (lv' := [(2, .int 0), (0, .ref hn), (1, .int (nI i))]) zx zb dX5_eggsThatFit_1 rfl hl (by decide) rfl (fun ls hl => ?_)
  refine lv_iconst (v := 0) zx zb dX5_eggsThatFit_2 (by decide) ?_
  refine lv_istore_n (lv' := [(3, .int 0), (2, .int 0), (0, .ref hn), (1, .int (nI i))]) zx zb dX5_eggsThatFit_3 rfl hl (by decide) rfl (fun ls hl => ?_)
  refine k_loop (P := ∀ (zm : Nat) (n4_3 : Nat) (x4_2 : Int32) (H : Heap) (locs : List Loc) (ls : Array Slot), ((6 - n4_3) < zm) → ((0 ≤ n4_3 ∧ n4_3 ≤ 6) ∧ x4_2 = setF (fun l => eggP n4 (rowA gm 0) (rowA gm 2) (rowA gm 4) (nI i) (nI l)) 0 (n4_3 - 0)) → (n4_3 ≤ 6) → wd X (fun _ => True) (va_A [] sz) s (rcV X hn an sv dv n0 n1 n2 n3 n4 g0 gs gn gm) H locs → lv_has ls 4 [(3, .int (nI n4_3)), (2, .int x4_2), (0, .ref hn), (1, .int (nI i))] → W p l e _ s m _ below meth c H locs _ _ _ (F0 m 4 ls [])) (fun loop => loop ((6 - 0) + 1) 0 0 _ _ _ (by omega) ⟨by omega, rfl⟩ (by omega) G hl) ?_
  intro zm
  induction zm with
  | zero => intro n4_3 x4_2 H locs ls zz q_x0 q_hk_n4_3 _ _; exact absurd zz (by omega)
  | succ zm ih4 =>
    intro n4_3 x4_2 H locs ls zm_4 hx4_0 hk_n4_3 G hl
    refine lv_iload_n zx zb dX5_eggsThatFit_4 rfl (lv_at hl 0 rfl) ?_
    refine lv_bipush (v := 6) zx zb dX5_eggsThatFit_5 (by decide) ?_
    refine lv_icmp_ge (tgt := 38) zx zb dX5_eggsThatFit_7 (by decide) (fun c_1 => ?_) (fun c_1 => ?_)
    · have fc_1 := j_le (a := 6) (b := n4_3) (by omega) (by omega) c_1
      refine lv_iload_n zx zb dX5_eggsThatFit_38 rfl (lv_at hl 1 rfl) ?_
      exact e_int S zr zlk (vp_nar_int _) G () [] rfl rfl (Or.inl rfl) (hx4_0.2.trans (by rw [show n4_3 = 6 from by omega]; first | done | rfl)) dX5_eggsThatFit_39
    · have fc_1 := j_nle (a := 6) (b := n4_3) (by omega) (by omega) c_1
      refine lv_iload_n zx zb dX5_eggsThatFit_10 rfl (lv_at hl 1 rfl) ?_
      refine lv_aload_n zx zb dX5_eggsThatFit_11 rfl (lv_at hl 2 rfl) ?_
      refine r_get (C := RX5) (T := TX5) (N := 8) (ci := 3) (v := .ref (an 13)) S in_X5_eggsThatFit_X5 G 0 rfl rfl 7 (by decide) lk_X5_eggsThatFit_46 rfl dX5_eggsThatFit_12 ?_
      refine lv_iload_n zx zb dX5_eggsThatFit_15 rfl (lv_at hl 3 rfl) ?_
      refine lv_iload_n zx zb dX5_eggsThatFit_16 rfl (lv_at hl 0 rfl) ?_
      refine o_ri (cells' := 0) (slots' := 0) G rfl rfl (n_V (As := [.int (nI i), .int (nI n4_3)]) (rest := [.int x4_2]) (C := RX7) (T := TX7) (N := 5) (ci := 5) S G (x_fitEgg2 l X (an 13) (an 14) n4 gm (nI i) (nI n4_3) hI_n4 H.size) gX5_eggsThatFit_X7_fitEgg rfl rfl rfl hdV_X7_fitEgg ⟨Nat.le_of_ble_eq_true rfl, Nat.le_of_ble_eq_true rfl⟩ [14, 15] rfl rfl 14 rfl rfl rfl hl.1 (Nat.le_of_ble_eq_true rfl) dX5_eggsThatFit_17 ⟨Nat.le_of_ble_eq_true rfl, Nat.le_of_ble_eq_true rfl⟩) (fun r_2 u_2 H locs hp_2 G => ?_)
      have G : wd X (fun _ => True) (va_A [] sz) s (rcV X hn an sv dv n0 n1 n2 n3 n4 g0 gs gn gm) H locs := G
      rcases hp_2 with ⟨rfl, hf_2⟩ | ⟨rfl, hf_2⟩
      · refine lv_if_eq (tgt := 29) zx zb dX5_eggsThatFit_20 (by decide) (fun c_3 => absurd c_3 (by decide)) (fun c_3 => ?_)
        refine lv_iconst (v := 1) zx zb dX5_eggsThatFit_23 (by decide) ?_
        refine lv_iload_n zx zb dX5_eggsThatFit_24 rfl (lv_at hl 0 rfl) ?_
        refine lv_ishl zx zb dX5_eggsThatFit_25 ?_
        refine lv_goto (tgt := 30) zx zb dX5_eggsThatFit_26 (by decide) ?_
        refine lv_ior zx zb dX5_eggsThatFit_30 ?_
        refine lv_istore_n (lv' := [(2, .int (x4_2 ||| (1 <<< ((nI n4_3) &&& 31)))), (3, .int (nI n4_3)), (0, .ref hn), (1, .int (nI i))]) zx zb dX5_eggsThatFit_31 rfl hl (by decide) rfl (fun ls hl => ?_)
        refine lv_iinc (v := (nI (n4_3 + 1))) (lv' := [(3, .int (nI (n4_3 + 1))), (2, .int (x4_2 ||| (1 <<< ((nI n4_3) &&& 31)))), (0, .ref hn), (1, .int (nI i))]) zx zb dX5_eggsThatFit_32 hl (k := 1) rfl (nI_add n4_3 1) (by decide) rfl (fun ls hl => ?_)
        refine lv_goto (tgt := 4) zx zb dX5_eggsThatFit_35 (by decide) ?_
        exact ih4 (n4_3 + 1) (x4_2 ||| (1 <<< ((nI n4_3) &&& 31))) _ _ _ (by omega) ⟨by omega, by rw [setF_n (by omega), bitF_t hf_2, ← hx4_0.2]⟩ (by omega) G hl
      · refine lv_if_eq (tgt := 29) zx zb dX5_eggsThatFit_20 (by decide) (fun c_4 => ?_) (fun c_4 => absurd (by decide) c_4)
        refine lv_iconst (v := 0) zx zb dX5_eggsThatFit_29 (by decide) ?_
        refine lv_ior zx zb dX5_eggsThatFit_30 ?_
        refine lv_istore_n (lv' := [(2, .int (x4_2 ||| 0)), (3, .int (nI n4_3)), (0, .ref hn), (1, .int (nI i))]) zx zb dX5_eggsThatFit_31 rfl hl (by decide) rfl (fun ls hl => ?_)
        refine lv_iinc (v := (nI (n4_3 + 1))) (lv' := [(3, .int (nI (n4_3 + 1))), (2, .int (x4_2 ||| 0)), (0, .ref hn), (1, .int (nI i))]) zx zb dX5_eggsThatFit_32 hl (k := 1) rfl (nI_add n4_3 1) (by decide) rfl (fun ls hl => ?_)
        refine lv_goto (tgt := 4) zx zb dX5_eggsThatFit_35 (by decide) ?_
        exact ih4 (n4_3 + 1) (x4_2 ||| 0) _ _ _ (by omega) ⟨by omega, by rw [setF_n (by omega), bitF_f hf_2, ← hx4_0.2]⟩ (by omega) G hl
set_option maxHeartbeats 4000000 in
set_option maxRecDepth 100000 in
theorem x_is (l : Launch) (X : EX) (h0 : Nat) (nw : Nat) (sp : Nat) (xa : Nat → Nat) (la : Int64) (lb : Int64) (an : Nat → Nat) (sv : Nat → Int32) (dv : Nat → Int32) (n0 : Nat) (n1 : Nat) (n2 : Nat) (n3 : Nat) (n4 : Nat) (g0 : Nat → Int32) (gs : Nat → Int32) (gn : Nat → Int32) (gm : Nat → Int32) (fr : Nat → Int32) (x1 : Int32) (hI_n0 : n0 ≤ 6) (hI_n1 : n1 ≤ 8) (hI_n2 : n2 ≤ 5) (hI_n3 : n3 ≤ 6) (hI_n4 : n4 ≤ 6) (sz : Nat) : Met l yX10_is wsX10_is ({ frames := 3, cells := 0, slots := 0, locals := 75 } : Room) (pE X [.ref h0, .int x1] (@HAppend.hAppend va_W va_W va_W _ (xW h0 nw sp xa la lb) (@HAppend.hAppend va_W va_W va_W _ (rcV X nw an sv dv n0 n1 n2 n3 n4 g0 gs gn gm) ([((xa 5), .inl (X.2.1, 3, .inl fr))]))) sz) (qI (fun (r : Int32) (u : (Nat → Int32)) => (r = ansF (thP n0 x1) (setF (fun l => fitP n3 (rowA gn 0) (rowA gn 1) (rowA gn 2) (rowA gn 3) (rowA gn 4) x1 (nI l)) 0 6))) X (fun (u : (Nat → Int32)) => @HAppend.hAppend va_W va_W va_W _ (xW h0 nw sp xa la lb) (@HAppend.hAppend va_W va_W va_W _ (rcV X nw an sv dv n0 n1 n2 n3 n4 g0 gs gn gm) ([((xa 5), .inl (X.2.1, 3, .inl u))]))) (@HAppend.hAppend va_W va_W va_W _ (xW h0 nw sp xa la lb) (@HAppend.hAppend va_W va_W va_W _ (rcV X nw an sv dv n0 n1 n2 n3 n4 g0 gs gn gm) ([((xa 5), .inl (X.2.1, 3, .inl fr))]))) sz) 0 0 (va_A (@HAppend.hAppend va_W va_W va_W _ (xW h0 nw sp xa la lb) (@HAppend.hAppend va_W va_W va_W _ (rcV X nw an sv dv n0 n1 n2 n3 n4 g0 gs gn gm) ([((xa 5), .inl (X.2.1, 3, .inl fr))]))) sz) := by
  refine mk_met (B := (va_A (@HAppend.hAppend va_W va_W va_W _ (xW h0 nw sp xa la lb) (@HAppend.hAppend va_W va_W va_W _ (rcV X nw an sv dv n0 n1 n2 n3 n4 g0 gs gn gm) ([((xa 5), .inl (X.2.1, 3, .inl fr))]))) sz)) (A := (va_A (@HAppend.hAppend va_W va_W va_W _ (xW h0 nw sp xa la lb) (@HAppend.hAppend va_W va_W va_W _ (rcV X nw an sv dv n0 n1 n2 n3 n4 g0 gs gn gm) ([((xa 5), .inl (X.2.1, 3, .inl fr))]))) sz)) (cc := cX10_is) (maxL := 2) (ret := (some .int)) (by decide) rfl (Nat.le_of_ble_eq_true rfl) k_w k_a (fun p e s m below meth c S zr zlk znm zsz G ls hl => ?_)
  have S : CallFix p m c cX10_is 2 s _ wsX10_is RX10 := S
  have zx := S.1
  have zb := S.2.1
  have hl : lv_has ls 2 [(0, .ref h0), (1, .int x1)] := hl
  refine lv_aload_n zx zb dX10_is_0 rfl (lv_at hl 0 rfl) ?_
  refine lv_iload_n zx zb dX10_is_1 rfl (lv_at hl 1 rfl) ?_
  refine o_ri (cells' := 0) (slots' := 0) G rfl rfl (n_V (As := [.int x1]) (rest := []) (C := RX10) (T := TX10) (N := 14) (ci := 8) S G (s_there l X h0 nw sp xa la lb an sv dv n0 n1 n2 n3 n4 g0 gs gn gm x1 hI_n0 hI_n1 hI_n2 hI_n3 hI_n4 s.heap.size) gX10_is_X10_there rfl rfl rfl hdV_X10_there ⟨Nat.le_of_ble_eq_true rfl, Nat.le_of_ble_eq_true rfl⟩ [0, 1, 2, 3, 4, 5, 6, 7, 8, 9, 10, 11, 12, 13, 14, 15, 16] rfl rfl 0 rfl rfl rfl hl.1 (Nat.le_of_ble_eq_true rfl) dX10_is_2 ⟨Nat.le_of_ble_eq_true rfl, Nat.le_of_ble_eq_true rfl⟩) (fun r_1 u_1 H locs hp_1 G => ?_)
  have G : wd X (va_A (@HAppend.hAppend va_W va_W va_W _ (xW h0 nw sp xa la lb) (@HAppend.hAppend va_W va_W va_W _ (rcV X nw an sv dv n0 n1 n2 n3 n4 g0 gs gn gm) ([((xa 5), .inl (X.2.1, 3, .inl fr))]))) sz) (va_A (@HAppend.hAppend va_W va_W va_W _ (xW h0 nw sp xa la lb) (@HAppend.hAppend va_W va_W va_W _ (rcV X nw an sv dv n0 n1 n2 n3 n4 g0 gs gn gm) ([((xa 5), .inl (X.2.1, 3, .inl fr))]))) sz) s (@HAppend.hAppend va_W va_W va_W _ (xW h0 nw sp xa la lb) (@HAppend.hAppend va_W va_W va_W _ (rcV X nw an sv dv n0 n1 n2 n3 n4 g0 gs gn gm) ([((xa 5), .inl (X.2.1, 3, .inl fr))]))) H locs := G
  rcases hp_1 with ⟨rfl, hj_1⟩ | ⟨rfl, hj_1⟩
  · obtain ⟨j_1, hj_1, rfl⟩ := hj_1
    refine lv_if_eq (tgt := 19) zx zb dX10_is_5 (by decide) (fun c_2 => absurd c_2 (by decide)) (fun c_2 => ?_)
    refine lv_aload_n zx zb dX10_is_8 rfl (lv_at hl 0 rfl) ?_
    refine r_get (C := RX10) (T := TX10) (N := 14) (ci := 8) (v := .ref nw) S in_X10_is_X10 G 0 rfl rfl 0 (by decide) lk_X10_is_10 rfl dX10_is_9 ?_
    refine lv_iload_n zx zb dX10_is_12 rfl (lv_at hl 1 rfl) ?_
    refine o_ri (cells' := 0) (slots' := 0) G rfl rfl (n_V (As := [.int (nI j_1)]) (rest := []) (C := RX5) (T := TX5) (N := 8) (ci := 3) S G (x_kindsThatFit l X nw an sv dv n0 n1 n2 n3 n4 g0 gs gn gm j_1 hI_n0 hI_n1 hI_n2 hI_n3 hI_n4 (by omega) H.size) gX10_is_X5_kindsThatFit rfl rfl rfl hdV_X5_kindsThatFit ⟨Nat.le_of_ble_eq_true rfl, Nat.le_of_ble_eq_true rfl⟩ [1, 2, 3, 4, 5, 6, 7, 8, 9, 10, 11, 12, 13, 14, 15, 16] rfl rfl 1 rfl rfl rfl hl.1 (Nat.le_of_ble_eq_true rfl) dX10_is_13 ⟨Nat.le_of_ble_eq_true rfl, Nat.le_of_ble_eq_true rfl⟩) (fun r_3 u_3 H locs hp_3 G => ?_)
    have G : wd X (va_A (@HAppend.hAppend va_W va_W va_W _ (xW h0 nw sp xa la lb) (@HAppend.hAppend va_W va_W va_W _ (rcV X nw an sv dv n0 n1 n2 n3 n4 g0 gs gn gm) ([((xa 5), .inl (X.2.1, 3, .inl fr))]))) sz) (va_A (@HAppend.hAppend va_W va_W va_W _ (xW h0 nw sp xa la lb) (@HAppend.hAppend va_W va_W va_W _ (rcV X nw an sv dv n0 n1 n2 n3 n4 g0 gs gn gm) ([((xa 5), .inl (X.2.1, 3, .inl fr))]))) sz) s (@HAppend.hAppend va_W va_W va_W _ (xW h0 nw sp xa la lb) (@HAppend.hAppend va_W va_W va_W _ (rcV X nw an sv dv n0 n1 n2 n3 n4 g0 gs gn gm) ([((xa 5), .inl (X.2.1, 3, .inl fr))]))) H locs := G
    refine lv_goto (tgt := 25) zx zb dX10_is_16 (by decide) ?_
    exact e_int S zr zlk (vp_nar_int _) G (fr) [0, 1, 2, 3, 4, 5, 6, 7, 8, 9, 10, 11, 12, 13, 14, 15, 16, 17] rfl rfl (Or.inr rfl) (hp_3.trans (ansF_t ⟨_, hj_1, rfl⟩).symm) dX10_is_25
  · refine lv_if_eq (tgt := 19) zx zb dX10_is_5 (by decide) (fun c_4 => ?_) (fun c_4 => absurd (by decide) c_4)
    refine lv_aload_n zx zb dX10_is_19 rfl (lv_at hl 0 rfl) ?_
    refine lv_bipush (v := (-2)) zx zb dX10_is_20 (by decide) ?_
    refine b_wi (cells' := 0) (slots' := 0) (wr := rcV X nw an sv dv n0 n1 n2 n3 n4 g0 gs gn gm) G rfl rfl [0, 17] [1, 2, 3, 4, 5, 6, 7, 8, 9, 10, 11, 12, 13, 14, 15, 16] rfl rfl rfl rfl (n_V (As := [.int (-2)]) (rest := []) (C := RX10) (T := TX10) (N := 14) (ci := 8) S G (s_refuse l X h0 nw sp xa la lb fr (-2) H.size) gX10_is_X10_refuse rfl rfl rfl hdV_X10_refuse ⟨Nat.le_of_ble_eq_true rfl, Nat.le_of_ble_eq_true rfl⟩ [0, 17] rfl rfl 0 rfl rfl rfl hl.1 (Nat.le_of_ble_eq_true rfl) dX10_is_22 ⟨Nat.le_of_ble_eq_true rfl, Nat.le_of_ble_eq_true rfl⟩) (fun r_5 u_5 H locs hp_5 G => ?_)
    obtain ⟨f_5, rfl⟩ : ∃ z, z = u_5 := ⟨_, rfl⟩
    have hq_5 := hp_5
    have G : wd X (va_A (@HAppend.hAppend va_W va_W va_W _ (xW h0 nw sp xa la lb) (@HAppend.hAppend va_W va_W va_W _ (rcV X nw an sv dv n0 n1 n2 n3 n4 g0 gs gn gm) ([((xa 5), .inl (X.2.1, 3, .inl fr))]))) sz) (va_A (@HAppend.hAppend va_W va_W va_W _ (xW h0 nw sp xa la lb) (@HAppend.hAppend va_W va_W va_W _ (rcV X nw an sv dv n0 n1 n2 n3 n4 g0 gs gn gm) ([((xa 5), .inl (X.2.1, 3, .inl fr))]))) sz) s (@HAppend.hAppend va_W va_W va_W _ (rcV X nw an sv dv n0 n1 n2 n3 n4 g0 gs gn gm) (@HAppend.hAppend va_W va_W va_W _ (xW h0 nw sp xa la lb) ([((xa 5), .inl (X.2.1, 3, .inl f_5))]))) H locs := G
    exact e_int S zr zlk (vp_nar_int _) G (f_5) [16, 0, 1, 2, 3, 4, 5, 6, 7, 8, 9, 10, 11, 12, 13, 14, 15, 17] rfl rfl (Or.inr rfl) (hq_5.trans (ansF_f (fun h => hj_1 h)).symm) dX10_is_25
set_option maxHeartbeats 4000000 in
set_option maxRecDepth 100000 in
theorem x_kinds (l : Launch) (X : EX) (h0 : Nat) (nw : Nat) (sp : Nat) (xa : Nat → Nat) (la : Int64) (lb : Int64) (an : Nat → Nat) (sv : Nat → Int32) (dv : Nat → Int32) (n0 : Nat) (n1 : Nat) (n2 : Nat) (n3 : Nat) (n4 : Nat) (g0 : Nat → Int32) (gs : Nat → Int32) (gn : Nat → Int32) (gm : Nat → Int32) (fr : Nat → Int32) (x1 : Int32) (hI_n0 : n0 ≤ 6) (hI_n1 : n1 ≤ 8) (hI_n2 : n2 ≤ 5) (hI_n3 : n3 ≤ 6) (hI_n4 : n4 ≤ 6) (sz : Nat) : Met l yX10_kinds wsX10_kinds ({ frames := 3, cells := 0, slots := 0, locals := 71 } : Room) (pE X [.ref h0, .int x1] (@HAppend.hAppend va_W va_W va_W _ (xW h0 nw sp xa la lb) (@HAppend.hAppend va_W va_W va_W _ (rcV X nw an sv dv n0 n1 n2 n3 n4 g0 gs gn gm) ([((xa 5), .inl (X.2.1, 3, .inl fr))]))) sz) (qI (fun (r : Int32) (u : (Nat → Int32)) => (r = ansF (thP n0 x1) (setF (fun l => eggP n4 (rowA gm 0) (rowA gm 2) (rowA gm 4) x1 (nI l)) 0 6))) X (fun (u : (Nat → Int32)) => @HAppend.hAppend va_W va_W va_W _ (xW h0 nw sp xa la lb) (@HAppend.hAppend va_W va_W va_W _ (rcV X nw an sv dv n0 n1 n2 n3 n4 g0 gs gn gm) ([((xa 5), .inl (X.2.1, 3, .inl u))]))) (@HAppend.hAppend va_W va_W va_W _ (xW h0 nw sp xa la lb) (@HAppend.hAppend va_W va_W va_W _ (rcV X nw an sv dv n0 n1 n2 n3 n4 g0 gs gn gm) ([((xa 5), .inl (X.2.1, 3, .inl fr))]))) sz) 0 0 (va_A (@HAppend.hAppend va_W va_W va_W _ (xW h0 nw sp xa la lb) (@HAppend.hAppend va_W va_W va_W _ (rcV X nw an sv dv n0 n1 n2 n3 n4 g0 gs gn gm) ([((xa 5), .inl (X.2.1, 3, .inl fr))]))) sz) := by
  refine mk_met (B := (va_A (@HAppend.hAppend va_W va_W va_W _ (xW h0 nw sp xa la lb) (@HAppend.hAppend va_W va_W va_W _ (rcV X nw an sv dv n0 n1 n2 n3 n4 g0 gs gn gm) ([((xa 5), .inl (X.2.1, 3, .inl fr))]))) sz)) (A := (va_A (@HAppend.hAppend va_W va_W va_W _ (xW h0 nw sp xa la lb) (@HAppend.hAppend va_W va_W va_W _ (rcV X nw an sv dv n0 n1 n2 n3 n4 g0 gs gn gm) ([((xa 5), .inl (X.2.1, 3, .inl fr))]))) sz)) (cc := cX10_kinds) (maxL := 2) (ret := (some .int)) (by decide) rfl (Nat.le_of_ble_eq_true rfl) k_w k_a (fun p e s m below meth c S zr zlk znm zsz G ls hl => ?_)
  have S : CallFix p m c cX10_kinds 2 s _ wsX10_kinds RX10 := S
  have zx := S.1
  have zb := S.2.1
  have hl : lv_has ls 2 [(0, .ref h0), (1, .int x1)] := hl
  refine lv_aload_n zx zb dX10_kinds_0 rfl (lv_at hl 0 rfl) ?_
  refine lv_iload_n zx zb dX10_kinds_1 rfl (lv_at hl 1 rfl) ?_
  refine o_ri (cells' := 0) (slots' := 0) G rfl rfl (n_V (As := [.int x1]) (rest := []) (C := RX10) (T := TX10) (N := 14) (ci := 8) S G (s_there l X h0 nw sp xa la lb an sv dv n0 n1 n2 n3 n4 g0 gs gn gm x1 hI_n0 hI_n1 hI_n2 hI_n3 hI_n4 s.heap.size) gX10_kinds_X10_there rfl rfl rfl hdV_X10_there ⟨Nat.le_of_ble_eq_true rfl, Nat.le_of_ble_eq_true rfl⟩ [0, 1, 2, 3, 4, 5, 6, 7, 8, 9, 10, 11, 12, 13, 14, 15, 16] rfl rfl 0 rfl rfl rfl hl.1 (Nat.le_of_ble_eq_true rfl) dX10_kinds_2 ⟨Nat.le_of_ble_eq_true rfl, Nat.le_of_ble_eq_true rfl⟩) (fun r_1 u_1 H locs hp_1 G => ?_)
  have G : wd X (va_A (@HAppend.hAppend va_W va_W va_W _ (xW h0 nw sp xa la lb) (@HAppend.hAppend va_W va_W va_W _ (rcV X nw an sv dv n0 n1 n2 n3 n4 g0 gs gn gm) ([((xa 5), .inl (X.2.1, 3, .inl fr))]))) sz) (va_A (@HAppend.hAppend va_W va_W va_W _ (xW h0 nw sp xa la lb) (@HAppend.hAppend va_W va_W va_W _ (rcV X nw an sv dv n0 n1 n2 n3 n4 g0 gs gn gm) ([((xa 5), .inl (X.2.1, 3, .inl fr))]))) sz) s (@HAppend.hAppend va_W va_W va_W _ (xW h0 nw sp xa la lb) (@HAppend.hAppend va_W va_W va_W _ (rcV X nw an sv dv n0 n1 n2 n3 n4 g0 gs gn gm) ([((xa 5), .inl (X.2.1, 3, .inl fr))]))) H locs := G
  rcases hp_1 with ⟨rfl, hj_1⟩ | ⟨rfl, hj_1⟩
  · obtain ⟨j_1, hj_1, rfl⟩ := hj_1
    refine lv_if_eq (tgt := 19) zx zb dX10_kinds_5 (by decide) (fun c_2 => absurd c_2 (by decide)) (fun c_2 => ?_)
    refine lv_aload_n zx zb dX10_kinds_8 rfl (lv_at hl 0 rfl) ?_
    refine r_get (C := RX10) (T := TX10) (N := 14) (ci := 8) (v := .ref nw) S in_X10_kinds_X10 G 0 rfl rfl 0 (by decide) lk_X10_kinds_10 rfl dX10_kinds_9 ?_
    refine lv_iload_n zx zb dX10_kinds_12 rfl (lv_at hl 1 rfl) ?_
    refine o_ri (cells' := 0) (slots' := 0) G rfl rfl (n_V (As := [.int (nI j_1)]) (rest := []) (C := RX5) (T := TX5) (N := 8) (ci := 3) S G (x_eggsThatFit l X nw an sv dv n0 n1 n2 n3 n4 g0 gs gn gm j_1 hI_n0 hI_n1 hI_n2 hI_n3 hI_n4 (by omega) H.size) gX10_kinds_X5_eggsThatFit rfl rfl rfl hdV_X5_eggsThatFit ⟨Nat.le_of_ble_eq_true rfl, Nat.le_of_ble_eq_true rfl⟩ [1, 2, 3, 4, 5, 6, 7, 8, 9, 10, 11, 12, 13, 14, 15, 16] rfl rfl 1 rfl rfl rfl hl.1 (Nat.le_of_ble_eq_true rfl) dX10_kinds_13 ⟨Nat.le_of_ble_eq_true rfl, Nat.le_of_ble_eq_true rfl⟩) (fun r_3 u_3 H locs hp_3 G => ?_)
    have G : wd X (va_A (@HAppend.hAppend va_W va_W va_W _ (xW h0 nw sp xa la lb) (@HAppend.hAppend va_W va_W va_W _ (rcV X nw an sv dv n0 n1 n2 n3 n4 g0 gs gn gm) ([((xa 5), .inl (X.2.1, 3, .inl fr))]))) sz) (va_A (@HAppend.hAppend va_W va_W va_W _ (xW h0 nw sp xa la lb) (@HAppend.hAppend va_W va_W va_W _ (rcV X nw an sv dv n0 n1 n2 n3 n4 g0 gs gn gm) ([((xa 5), .inl (X.2.1, 3, .inl fr))]))) sz) s (@HAppend.hAppend va_W va_W va_W _ (xW h0 nw sp xa la lb) (@HAppend.hAppend va_W va_W va_W _ (rcV X nw an sv dv n0 n1 n2 n3 n4 g0 gs gn gm) ([((xa 5), .inl (X.2.1, 3, .inl fr))]))) H locs := G
    refine lv_goto (tgt := 25) zx zb dX10_kinds_16 (by decide) ?_
    exact e_int S zr zlk (vp_nar_int _) G (fr) [0, 1, 2, 3, 4, 5, 6, 7, 8, 9, 10, 11, 12, 13, 14, 15, 16, 17] rfl rfl (Or.inr rfl) (hp_3.trans (ansF_t ⟨_, hj_1, rfl⟩).symm) dX10_kinds_25
  · refine lv_if_eq (tgt := 19) zx zb dX10_kinds_5 (by decide) (fun c_4 => ?_) (fun c_4 => absurd (by decide) c_4)
    refine lv_aload_n zx zb dX10_kinds_19 rfl (lv_at hl 0 rfl) ?_
    refine lv_bipush (v := (-2)) zx zb dX10_kinds_20 (by decide) ?_
    refine b_wi (cells' := 0) (slots' := 0) (wr := rcV X nw an sv dv n0 n1 n2 n3 n4 g0 gs gn gm) G rfl rfl [0, 17] [1, 2, 3, 4, 5, 6, 7, 8, 9, 10, 11, 12, 13, 14, 15, 16] rfl rfl rfl rfl (n_V (As := [.int (-2)]) (rest := []) (C := RX10) (T := TX10) (N := 14) (ci := 8) S G (s_refuse l X h0 nw sp xa la lb fr (-2) H.size) gX10_kinds_X10_refuse rfl rfl rfl hdV_X10_refuse ⟨Nat.le_of_ble_eq_true rfl, Nat.le_of_ble_eq_true rfl⟩ [0, 17] rfl rfl 0 rfl rfl rfl hl.1 (Nat.le_of_ble_eq_true rfl) dX10_kinds_22 ⟨Nat.le_of_ble_eq_true rfl, Nat.le_of_ble_eq_true rfl⟩) (fun r_5 u_5 H locs hp_5 G => ?_)
    obtain ⟨f_5, rfl⟩ : ∃ z, z = u_5 := ⟨_, rfl⟩
    have hq_5 := hp_5
    have G : wd X (va_A (@HAppend.hAppend va_W va_W va_W _ (xW h0 nw sp xa la lb) (@HAppend.hAppend va_W va_W va_W _ (rcV X nw an sv dv n0 n1 n2 n3 n4 g0 gs gn gm) ([((xa 5), .inl (X.2.1, 3, .inl fr))]))) sz) (va_A (@HAppend.hAppend va_W va_W va_W _ (xW h0 nw sp xa la lb) (@HAppend.hAppend va_W va_W va_W _ (rcV X nw an sv dv n0 n1 n2 n3 n4 g0 gs gn gm) ([((xa 5), .inl (X.2.1, 3, .inl fr))]))) sz) s (@HAppend.hAppend va_W va_W va_W _ (rcV X nw an sv dv n0 n1 n2 n3 n4 g0 gs gn gm) (@HAppend.hAppend va_W va_W va_W _ (xW h0 nw sp xa la lb) ([((xa 5), .inl (X.2.1, 3, .inl f_5))]))) H locs := G
    exact e_int S zr zlk (vp_nar_int _) G (f_5) [16, 0, 1, 2, 3, 4, 5, 6, 7, 8, 9, 10, 11, 12, 13, 14, 15, 17] rfl rfl (Or.inr rfl) (hq_5.trans (ansF_f (fun h => hj_1 h)).symm) dX10_kinds_25
set_option maxHeartbeats 4000000 in
set_option maxRecDepth 100000 in
theorem x_append0 (l : Launch) (X : EX) (h0 : Nat) (c0 : Nat) (n : Nat) (f : Nat → Int32) (x1 : Int32) (x2 : Int32) (x3 : Int32) (x4 : Int32) (x5 : Int32) (hI_n : n ≤ 5) (sz : Nat) : Met l yX7_append wsX7_append ({ frames := 0, cells := 0, slots := 0, locals := 0 } : Room) (pE X [.ref h0, .int x1, .int x2, .int x3, .int x4, .int x5] ([(h0, .inr (5, [.int 5, .int 0, .int 1, .ref c0, .int (nI n)])), (c0, .inl (X.2.1, 25, .inl f))]) sz) (qI (fun (r : Int32) (u : (Nat) × (Nat → Int32)) => u.1 ≤ 5 ∧ ((r = 0 ∧ n = 5 ∧ u.1 = n ∧ u.2 = f) ∨ (r = 1 ∧ n < 5 ∧ u.1 = n + 1 ∧ u.2 = app5 f n x1 x2 x3 x4 x5))) X (fun (u : (Nat) × (Nat → Int32)) => [(h0, .inr (5, [.int 5, .int 0, .int 1, .ref c0, .int (nI u.1)])), (c0, .inl (X.2.1, 25, .inl u.2))]) ([(h0, .inr (5, [.int 5, .int 0, .int 1, .ref c0, .int (nI n)])), (c0, .inl (X.2.1, 25, .inl f))]) sz) 0 0 (va_A ([(h0, .inr (5, [.int 5, .int 0, .int 1, .ref c0, .int (nI n)])), (c0, .inl (X.2.1, 25, .inl f))]) sz) := by
  refine mk_met (B := (va_A ([(h0, .inr (5, [.int 5, .int 0, .int 1, .ref c0, .int (nI n)])), (c0, .inl (X.2.1, 25, .inl f))]) sz)) (A := (va_A ([(h0, .inr (5, [.int 5, .int 0, .int 1, .ref c0, .int (nI n)])), (c0, .inl (X.2.1, 25, .inl f))]) sz)) (cc := cX7_append) (maxL := 7) (ret := (some .boolean)) (by decide) rfl (Nat.le_of_ble_eq_true rfl) k_w k_a (fun p e s m below meth c S zr zlk znm zsz G ls hl => ?_)
  have S : CallFix p m c cX7_append 7 s _ wsX7_append RX7 := S
  have zx := S.1
  have zb := S.2.1
  have hl : lv_has ls 7 [(0, .ref h0), (1, .int x1), (2, .int x2), (3, .int x3), (4, .int x4), (5, .int x5)] := hl
  refine lv_aload_n zx zb dX7_append_0 rfl (lv_at hl 0 rfl) ?_
  refine r_get (C := RX7) (T := TX7) (N := 5) (ci := 5) (v := .int (nI n)) S in_X7_append_X7 G 0 rfl rfl 4 (by decide) lk_X7_append_7 rfl dX7_append_1 ?_
  refine lv_aload_n zx zb dX7_append_4 rfl (lv_at hl 0 rfl) ?_
  refine r_get (C := RX7) (T := TX7) (N := 5) (ci := 5) (v := .int 5) S in_X7_append_X7 G 0 rfl rfl 0 (by decide) lk_X7_append_13 rfl dX7_append_5 ?_
  refine lv_icmp_lt (tgt := 13) zx zb dX7_append_8 (by decide) (fun c_1 => ?_) (fun c_1 => ?_)
  · have fc_1 := j_lt (a := n) (b := 5) (by omega) (by omega) c_1
    refine lv_aload_n zx zb dX7_append_13 rfl (lv_at hl 0 rfl) ?_
    refine r_get (C := RX7) (T := TX7) (N := 5) (ci := 5) (v := .int (nI n)) S in_X7_append_X7 G 0 rfl rfl 4 (by decide) lk_X7_append_7 rfl dX7_append_14 ?_
    refine lv_iconst (v := 5) zx zb dX7_append_17 (by decide) ?_
    refine r_imul (v := (nI (n * 5))) S (pk_mul n 5) dX7_append_18 ?_
    refine lv_istore (lv' := [(6, .int (nI (n * 5))), (0, .ref h0), (1, .int x1), (2, .int x2), (3, .int x3), (4, .int x4), (5, .int x5)]) zx zb dX7_append_19 hl (by decide) rfl (fun ls hl => ?_)
    refine lv_aload_n zx zb dX7_append_21 rfl (lv_at hl 1 rfl) ?_
    refine r_get (C := RX7) (T := TX7) (N := 5) (ci := 5) (v := .ref c0) S in_X7_append_X7 G 0 rfl rfl 3 (by decide) lk_X7_append_23 rfl dX7_append_22 ?_
    refine lv_iload zx zb dX7_append_25 (lv_at hl 0 rfl) ?_
    refine lv_iconst (v := 0) zx zb dX7_append_27 (by decide) ?_
    refine r_iadd (v := (nI ((n * 5) + 0))) S (nI_add (n * 5) 0) dX7_append_28 ?_
    refine lv_iload_n zx zb dX7_append_29 rfl (lv_at hl 2 rfl) ?_
    refine r_iast S G 1 rfl (vp_in_nI (by omega) (by decide)) dX7_append_30 (fun H locs G => ?_)
    have G : wd X (va_A ([(h0, .inr (5, [.int 5, .int 0, .int 1, .ref c0, .int (nI n)])), (c0, .inl (X.2.1, 25, .inl f))]) sz) (va_A ([(h0, .inr (5, [.int 5, .int 0, .int 1, .ref c0, .int (nI n)])), (c0, .inl (X.2.1, 25, .inl f))]) sz) s ([(h0, .inr (5, [.int 5, .int 0, .int 1, .ref c0, .int (nI n)])), (c0, .inl (X.2.1, 25, .inl (upd f ((nI ((n * 5) + 0))).toNatClampNeg x1)))]) H locs := G
    refine lv_aload_n zx zb dX7_append_31 rfl (lv_at hl 1 rfl) ?_
    refine r_get (C := RX7) (T := TX7) (N := 5) (ci := 5) (v := .ref c0) S in_X7_append_X7 G 0 rfl rfl 3 (by decide) lk_X7_append_23 rfl dX7_append_32 ?_
    refine lv_iload zx zb dX7_append_35 (lv_at hl 0 rfl) ?_
    refine lv_iconst (v := 1) zx zb dX7_append_37 (by decide) ?_
    refine r_iadd (v := (nI ((n * 5) + 1))) S (nI_add (n * 5) 1) dX7_append_38 ?_
    refine lv_iload_n zx zb dX7_append_39 rfl (lv_at hl 3 rfl) ?_
    refine r_iast S G 1 rfl (vp_in_nI (by omega) (by decide)) dX7_append_40 (fun H locs G => ?_)
    have G : wd X (va_A ([(h0, .inr (5, [.int 5, .int 0, .int 1, .ref c0, .int (nI n)])), (c0, .inl (X.2.1, 25, .inl f))]) sz) (va_A ([(h0, .inr (5, [.int 5, .int 0, .int 1, .ref c0, .int (nI n)])), (c0, .inl (X.2.1, 25, .inl f))]) sz) s ([(h0, .inr (5, [.int 5, .int 0, .int 1, .ref c0, .int (nI n)])), (c0, .inl (X.2.1, 25, .inl (upd (upd f ((nI ((n * 5) + 0))).toNatClampNeg x1) ((nI ((n * 5) + 1))).toNatClampNeg x2)))]) H locs := G
    refine lv_aload_n zx zb dX7_append_41 rfl (lv_at hl 1 rfl) ?_
    refine r_get (C := RX7) (T := TX7) (N := 5) (ci := 5) (v := .ref c0) S in_X7_append_X7 G 0 rfl rfl 3 (by decide) lk_X7_append_23 rfl dX7_append_42 ?_
    refine lv_iload zx zb dX7_append_45 (lv_at hl 0 rfl) ?_
    refine lv_iconst (v := 2) zx zb dX7_append_47 (by decide) ?_
    refine r_iadd (v := (nI ((n * 5) + 2))) S (nI_add (n * 5) 2) dX7_append_48 ?_
    refine lv_iload_n zx zb dX7_append_49 rfl (lv_at hl 4 rfl) ?_
    refine r_iast S G 1 rfl (vp_in_nI (by omega) (by decide)) dX7_append_50 (fun H locs G => ?_)
    have G : wd X (va_A ([(h0, .inr (5, [.int 5, .int 0, .int 1, .ref c0, .int (nI n)])), (c0, .inl (X.2.1, 25, .inl f))]) sz) (va_A ([(h0, .inr (5, [.int 5, .int 0, .int 1, .ref c0, .int (nI n)])), (c0, .inl (X.2.1, 25, .inl f))]) sz) s ([(h0, .inr (5, [.int 5, .int 0, .int 1, .ref c0, .int (nI n)])), (c0, .inl (X.2.1, 25, .inl (upd (upd (upd f ((nI ((n * 5) + 0))).toNatClampNeg x1) ((nI ((n * 5) + 1))).toNatClampNeg x2) ((nI ((n * 5) + 2))).toNatClampNeg x3)))]) H locs := G
    refine lv_aload_n zx zb dX7_append_51 rfl (lv_at hl 1 rfl) ?_
    refine r_get (C := RX7) (T := TX7) (N := 5) (ci := 5) (v := .ref c0) S in_X7_append_X7 G 0 rfl rfl 3 (by decide) lk_X7_append_23 rfl dX7_append_52 ?_
    refine lv_iload zx zb dX7_append_55 (lv_at hl 0 rfl) ?_
    refine lv_iconst (v := 3) zx zb dX7_append_57 (by decide) ?_
    refine r_iadd (v := (nI ((n * 5) + 3))) S (nI_add (n * 5) 3) dX7_append_58 ?_
    refine lv_iload zx zb dX7_append_59 (lv_at hl 5 rfl) ?_
    refine r_iast S G 1 rfl (vp_in_nI (by omega) (by decide)) dX7_append_61 (fun H locs G => ?_)
    have G : wd X (va_A ([(h0, .inr (5, [.int 5, .int 0, .int 1, .ref c0, .int (nI n)])), (c0, .inl (X.2.1, 25, .inl f))]) sz) (va_A ([(h0, .inr (5, [.int 5, .int 0, .int 1, .ref c0, .int (nI n)])), (c0, .inl (X.2.1, 25, .inl f))]) sz) s ([(h0, .inr (5, [.int 5, .int 0, .int 1, .ref c0, .int (nI n)])), (c0, .inl (X.2.1, 25, .inl (upd (upd (upd (upd f ((nI ((n * 5) + 0))).toNatClampNeg x1) ((nI ((n * 5) + 1))).toNatClampNeg x2) ((nI ((n * 5) + 2))).toNatClampNeg x3) ((nI ((n * 5) + 3))).toNatClampNeg x4)))]) H locs := G
    refine lv_aload_n zx zb dX7_append_62 rfl (lv_at hl 1 rfl) ?_
    refine r_get (C := RX7) (T := TX7) (N := 5) (ci := 5) (v := .ref c0) S in_X7_append_X7 G 0 rfl rfl 3 (by decide) lk_X7_append_23 rfl dX7_append_63 ?_
    refine lv_iload zx zb dX7_append_66 (lv_at hl 0 rfl) ?_
    refine lv_iconst (v := 4) zx zb dX7_append_68 (by decide) ?_
    refine r_iadd (v := (nI ((n * 5) + 4))) S (nI_add (n * 5) 4) dX7_append_69 ?_
    refine lv_iload zx zb dX7_append_70 (lv_at hl 6 rfl) ?_
    refine r_iast S G 1 rfl (vp_in_nI (by omega) (by decide)) dX7_append_72 (fun H locs G => ?_)
    have G : wd X (va_A ([(h0, .inr (5, [.int 5, .int 0, .int 1, .ref c0, .int (nI n)])), (c0, .inl (X.2.1, 25, .inl f))]) sz) (va_A ([(h0, .inr (5, [.int 5, .int 0, .int 1, .ref c0, .int (nI n)])), (c0, .inl (X.2.1, 25, .inl f))]) sz) s ([(h0, .inr (5, [.int 5, .int 0, .int 1, .ref c0, .int (nI n)])), (c0, .inl (X.2.1, 25, .inl (upd (upd (upd (upd (upd f ((nI ((n * 5) + 0))).toNatClampNeg x1) ((nI ((n * 5) + 1))).toNatClampNeg x2) ((nI ((n * 5) + 2))).toNatClampNeg x3) ((nI ((n * 5) + 3))).toNatClampNeg x4) ((nI ((n * 5) + 4))).toNatClampNeg x5)))]) H locs := G
    refine lv_aload_n zx zb dX7_append_73 rfl (lv_at hl 1 rfl) ?_
    refine lv_dup zx zb dX7_append_74 rfl ?_
    refine r_get (C := RX7) (T := TX7) (N := 5) (ci := 5) (v := .int (nI n)) S in_X7_append_X7 G 0 rfl rfl 4 (by decide) lk_X7_append_7 rfl dX7_append_75 ?_
    refine lv_iconst (v := 1) zx zb dX7_append_78 (by decide) ?_
    refine r_iadd (v := (nI (n + 1))) S (nI_add n 1) dX7_append_79 ?_
    refine r_put (C := RX7) (T := TX7) (N := 5) (ci := 5) (v := .int (nI (n + 1))) S in_X7_append_X7 tyX7_ok nmX7 G 0 rfl rfl 4 (by decide) lk_X7_append_7 rfl (vp_nar_int _) rfl (Nat.le_of_ble_eq_true rfl) dX7_append_80 (fun H locs G => ?_)
    obtain ⟨n_2, hI_n_2, hE_n_2, G⟩ : ∃ n_2 : Nat, n_2 ≤ 5 ∧ n_2 = (n + 1) ∧ wd X (va_A ([(h0, .inr (5, [.int 5, .int 0, .int 1, .ref c0, .int (nI n)])), (c0, .inl (X.2.1, 25, .inl f))]) sz) (va_A ([(h0, .inr (5, [.int 5, .int 0, .int 1, .ref c0, .int (nI n)])), (c0, .inl (X.2.1, 25, .inl f))]) sz) s ([(h0, .inr (5, [.int 5, .int 0, .int 1, .ref c0, .int (nI n_2)])), (c0, .inl (X.2.1, 25, .inl (upd (upd (upd (upd (upd f ((nI ((n * 5) + 0))).toNatClampNeg x1) ((nI ((n * 5) + 1))).toNatClampNeg x2) ((nI ((n * 5) + 2))).toNatClampNeg x3) ((nI ((n * 5) + 3))).toNatClampNeg x4) ((nI ((n * 5) + 4))).toNatClampNeg x5)))]) H locs := ⟨(n + 1), by omega, rfl, G⟩
    refine lv_iconst (v := 1) zx zb dX7_append_83 (by decide) ?_
    have hzf : (upd (upd (upd (upd (upd f ((nI ((n * 5) + 0))).toNatClampNeg x1) ((nI ((n * 5) + 1))).toNatClampNeg x2) ((nI ((n * 5) + 2))).toNatClampNeg x3) ((nI ((n * 5) + 3))).toNatClampNeg x4) ((nI ((n * 5) + 4))).toNatClampNeg x5) = app5 f n x1 x2 x3 x4 x5 := by rw [nI_clamp (by omega), nI_clamp (by omega), nI_clamp (by omega), nI_clamp (by omega), nI_clamp (by omega)]; rfl
    exact e_int S zr zlk (by decide) G (n_2, (upd (upd (upd (upd (upd f ((nI ((n * 5) + 0))).toNatClampNeg x1) ((nI ((n * 5) + 1))).toNatClampNeg x2) ((nI ((n * 5) + 2))).toNatClampNeg x3) ((nI ((n * 5) + 3))).toNatClampNeg x4) ((nI ((n * 5) + 4))).toNatClampNeg x5)) [0, 1] rfl rfl (Or.inr rfl) (⟨hI_n_2, Or.inr ⟨rfl, by first | omega | (dsimp only; omega), by first | omega | (dsimp only; omega), hzf⟩⟩) dX7_append_84
  · have fc_1 := j_nlt (a := n) (b := 5) (by omega) (by omega) c_1
    refine lv_iconst (v := 0) zx zb dX7_append_11 (by decide) ?_
    exact e_int S zr zlk (by decide) G (n, f) [0, 1] rfl rfl (Or.inr rfl) (⟨hI_n, Or.inl ⟨rfl, by first | omega | (dsimp only; omega), rfl, rfl⟩⟩) dX7_append_12
set_option maxHeartbeats 4000000 in
set_option maxRecDepth 100000 in
theorem x_append1 (l : Launch) (X : EX) (h0 : Nat) (c0 : Nat) (n : Nat) (f : Nat → Int32) (x1 : Int32) (x2 : Int32) (x3 : Int32) (x4 : Int32) (x5 : Int32) (hI_n : n ≤ 6) (sz : Nat) : Met l yX7_append wsX7_append ({ frames := 0, cells := 0, slots := 0, locals := 0 } : Room) (pE X [.ref h0, .int x1, .int x2, .int x3, .int x4, .int x5] ([(h0, .inr (5, [.int 6, .int 1, .int 1, .ref c0, .int (nI n)])), (c0, .inl (X.2.1, 30, .inl f))]) sz) (qI (fun (r : Int32) (u : (Nat) × (Nat → Int32)) => u.1 ≤ 6 ∧ ((r = 0 ∧ n = 6 ∧ u.1 = n ∧ u.2 = f) ∨ (r = 1 ∧ n < 6 ∧ u.1 = n + 1 ∧ u.2 = app5 f n x1 x2 x3 x4 x5))) X (fun (u : (Nat) × (Nat → Int32)) => [(h0, .inr (5, [.int 6, .int 1, .int 1, .ref c0, .int (nI u.1)])), (c0, .inl (X.2.1, 30, .inl u.2))]) ([(h0, .inr (5, [.int 6, .int 1, .int 1, .ref c0, .int (nI n)])), (c0, .inl (X.2.1, 30, .inl f))]) sz) 0 0 (va_A ([(h0, .inr (5, [.int 6, .int 1, .int 1, .ref c0, .int (nI n)])), (c0, .inl (X.2.1, 30, .inl f))]) sz) := by
  refine mk_met (B := (va_A ([(h0, .inr (5, [.int 6, .int 1, .int 1, .ref c0, .int (nI n)])), (c0, .inl (X.2.1, 30, .inl f))]) sz)) (A := (va_A ([(h0, .inr (5, [.int 6, .int 1, .int 1, .ref c0, .int (nI n)])), (c0, .inl (X.2.1, 30, .inl f))]) sz)) (cc := cX7_append) (maxL := 7) (ret := (some .boolean)) (by decide) rfl (Nat.le_of_ble_eq_true rfl) k_w k_a (fun p e s m below meth c S zr zlk znm zsz G ls hl => ?_)
  have S : CallFix p m c cX7_append 7 s _ wsX7_append RX7 := S
  have zx := S.1
  have zb := S.2.1
  have hl : lv_has ls 7 [(0, .ref h0), (1, .int x1), (2, .int x2), (3, .int x3), (4, .int x4), (5, .int x5)] := hl
  refine lv_aload_n zx zb dX7_append_0 rfl (lv_at hl 0 rfl) ?_
  refine r_get (C := RX7) (T := TX7) (N := 5) (ci := 5) (v := .int (nI n)) S in_X7_append_X7 G 0 rfl rfl 4 (by decide) lk_X7_append_7 rfl dX7_append_1 ?_
  refine lv_aload_n zx zb dX7_append_4 rfl (lv_at hl 0 rfl) ?_
  refine r_get (C := RX7) (T := TX7) (N := 5) (ci := 5) (v := .int 6) S in_X7_append_X7 G 0 rfl rfl 0 (by decide) lk_X7_append_13 rfl dX7_append_5 ?_
  refine lv_icmp_lt (tgt := 13) zx zb dX7_append_8 (by decide) (fun c_1 => ?_) (fun c_1 => ?_)
  · have fc_1 := j_lt (a := n) (b := 6) (by omega) (by omega) c_1
    refine lv_aload_n zx zb dX7_append_13 rfl (lv_at hl 0 rfl) ?_
    refine r_get (C := RX7) (T := TX7) (N := 5) (ci := 5) (v := .int (nI n)) S in_X7_append_X7 G 0 rfl rfl 4 (by decide) lk_X7_append_7 rfl dX7_append_14 ?_
    refine lv_iconst (v := 5) zx zb dX7_append_17 (by decide) ?_
    refine r_imul (v := (nI (n * 5))) S (pk_mul n 5) dX7_append_18 ?_
    refine lv_istore (lv' := [(6, .int (nI (n * 5))), (0, .ref h0), (1, .int x1), (2, .int x2), (3, .int x3), (4, .int x4), (5, .int x5)]) zx zb dX7_append_19 hl (by decide) rfl (fun ls hl => ?_)
    refine lv_aload_n zx zb dX7_append_21 rfl (lv_at hl 1 rfl) ?_
    refine r_get (C := RX7) (T := TX7) (N := 5) (ci := 5) (v := .ref c0) S in_X7_append_X7 G 0 rfl rfl 3 (by decide) lk_X7_append_23 rfl dX7_append_22 ?_
    refine lv_iload zx zb dX7_append_25 (lv_at hl 0 rfl) ?_
    refine lv_iconst (v := 0) zx zb dX7_append_27 (by decide) ?_
    refine r_iadd (v := (nI ((n * 5) + 0))) S (nI_add (n * 5) 0) dX7_append_28 ?_
    refine lv_iload_n zx zb dX7_append_29 rfl (lv_at hl 2 rfl) ?_
    refine r_iast S G 1 rfl (vp_in_nI (by omega) (by decide)) dX7_append_30 (fun H locs G => ?_)
    have G : wd X (va_A ([(h0, .inr (5, [.int 6, .int 1, .int 1, .ref c0, .int (nI n)])), (c0, .inl (X.2.1, 30, .inl f))]) sz) (va_A ([(h0, .inr (5, [.int 6, .int 1, .int 1, .ref c0, .int (nI n)])), (c0, .inl (X.2.1, 30, .inl f))]) sz) s ([(h0, .inr (5, [.int 6, .int 1, .int 1, .ref c0, .int (nI n)])), (c0, .inl (X.2.1, 30, .inl (upd f ((nI ((n * 5) + 0))).toNatClampNeg x1)))]) H locs := G
    refine lv_aload_n zx zb dX7_append_31 rfl (lv_at hl 1 rfl) ?_
    refine r_get (C := RX7) (T := TX7) (N := 5) (ci := 5) (v := .ref c0) S in_X7_append_X7 G 0 rfl rfl 3 (by decide) lk_X7_append_23 rfl dX7_append_32 ?_
    refine lv_iload zx zb dX7_append_35 (lv_at hl 0 rfl) ?_
    refine lv_iconst (v := 1) zx zb dX7_append_37 (by decide) ?_
    refine r_iadd (v := (nI ((n * 5) + 1))) S (nI_add (n * 5) 1) dX7_append_38 ?_
    refine lv_iload_n zx zb dX7_append_39 rfl (lv_at hl 3 rfl) ?_
    refine r_iast S G 1 rfl (vp_in_nI (by omega) (by decide)) dX7_append_40 (fun H locs G => ?_)
    have G : wd X (va_A ([(h0, .inr (5, [.int 6, .int 1, .int 1, .ref c0, .int (nI n)])), (c0, .inl (X.2.1, 30, .inl f))]) sz) (va_A ([(h0, .inr (5, [.int 6, .int 1, .int 1, .ref c0, .int (nI n)])), (c0, .inl (X.2.1, 30, .inl f))]) sz) s ([(h0, .inr (5, [.int 6, .int 1, .int 1, .ref c0, .int (nI n)])), (c0, .inl (X.2.1, 30, .inl (upd (upd f ((nI ((n * 5) + 0))).toNatClampNeg x1) ((nI ((n * 5) + 1))).toNatClampNeg x2)))]) H locs := G
    refine lv_aload_n zx zb dX7_append_41 rfl (lv_at hl 1 rfl) ?_
    refine r_get (C := RX7) (T := TX7) (N := 5) (ci := 5) (v := .ref c0) S in_X7_append_X7 G 0 rfl rfl 3 (by decide) lk_X7_append_23 rfl dX7_append_42 ?_
    refine lv_iload zx zb dX7_append_45 (lv_at hl 0 rfl) ?_
    refine lv_iconst (v := 2) zx zb dX7_append_47 (by decide) ?_
    refine r_iadd (v := (nI ((n * 5) + 2))) S (nI_add (n * 5) 2) dX7_append_48 ?_
    refine lv_iload_n zx zb dX7_append_49 rfl (lv_at hl 4 rfl) ?_
    refine r_iast S G 1 rfl (vp_in_nI (by omega) (by decide)) dX7_append_50 (fun H locs G => ?_)
    have G : wd X (va_A ([(h0, .inr (5, [.int 6, .int 1, .int 1, .ref c0, .int (nI n)])), (c0, .inl (X.2.1, 30, .inl f))]) sz) (va_A ([(h0, .inr (5, [.int 6, .int 1, .int 1, .ref c0, .int (nI n)])), (c0, .inl (X.2.1, 30, .inl f))]) sz) s ([(h0, .inr (5, [.int 6, .int 1, .int 1, .ref c0, .int (nI n)])), (c0, .inl (X.2.1, 30, .inl (upd (upd (upd f ((nI ((n * 5) + 0))).toNatClampNeg x1) ((nI ((n * 5) + 1))).toNatClampNeg x2) ((nI ((n * 5) + 2))).toNatClampNeg x3)))]) H locs := G
    refine lv_aload_n zx zb dX7_append_51 rfl (lv_at hl 1 rfl) ?_
    refine r_get (C := RX7) (T := TX7) (N := 5) (ci := 5) (v := .ref c0) S in_X7_append_X7 G 0 rfl rfl 3 (by decide) lk_X7_append_23 rfl dX7_append_52 ?_
    refine lv_iload zx zb dX7_append_55 (lv_at hl 0 rfl) ?_
    refine lv_iconst (v := 3) zx zb dX7_append_57 (by decide) ?_
    refine r_iadd (v := (nI ((n * 5) + 3))) S (nI_add (n * 5) 3) dX7_append_58 ?_
    refine lv_iload zx zb dX7_append_59 (lv_at hl 5 rfl) ?_
    refine r_iast S G 1 rfl (vp_in_nI (by omega) (by decide)) dX7_append_61 (fun H locs G => ?_)
    have G : wd X (va_A ([(h0, .inr (5, [.int 6, .int 1, .int 1, .ref c0, .int (nI n)])), (c0, .inl (X.2.1, 30, .inl f))]) sz) (va_A ([(h0, .inr (5, [.int 6, .int 1, .int 1, .ref c0, .int (nI n)])), (c0, .inl (X.2.1, 30, .inl f))]) sz) s ([(h0, .inr (5, [.int 6, .int 1, .int 1, .ref c0, .int (nI n)])), (c0, .inl (X.2.1, 30, .inl (upd (upd (upd (upd f ((nI ((n * 5) + 0))).toNatClampNeg x1) ((nI ((n * 5) + 1))).toNatClampNeg x2) ((nI ((n * 5) + 2))).toNatClampNeg x3) ((nI ((n * 5) + 3))).toNatClampNeg x4)))]) H locs := G
    refine lv_aload_n zx zb dX7_append_62 rfl (lv_at hl 1 rfl) ?_
    refine r_get (C := RX7) (T := TX7) (N := 5) (ci := 5) (v := .ref c0) S in_X7_append_X7 G 0 rfl rfl 3 (by decide) lk_X7_append_23 rfl dX7_append_63 ?_
    refine lv_iload zx zb dX7_append_66 (lv_at hl 0 rfl) ?_
    refine lv_iconst (v := 4) zx zb dX7_append_68 (by decide) ?_
    refine r_iadd (v := (nI ((n * 5) + 4))) S (nI_add (n * 5) 4) dX7_append_69 ?_
    refine lv_iload zx zb dX7_append_70 (lv_at hl 6 rfl) ?_
    refine r_iast S G 1 rfl (vp_in_nI (by omega) (by decide)) dX7_append_72 (fun H locs G => ?_)
    have G : wd X (va_A ([(h0, .inr (5, [.int 6, .int 1, .int 1, .ref c0, .int (nI n)])), (c0, .inl (X.2.1, 30, .inl f))]) sz) (va_A ([(h0, .inr (5, [.int 6, .int 1, .int 1, .ref c0, .int (nI n)])), (c0, .inl (X.2.1, 30, .inl f))]) sz) s ([(h0, .inr (5, [.int 6, .int 1, .int 1, .ref c0, .int (nI n)])), (c0, .inl (X.2.1, 30, .inl (upd (upd (upd (upd (upd f ((nI ((n * 5) + 0))).toNatClampNeg x1) ((nI ((n * 5) + 1))).toNatClampNeg x2) ((nI ((n * 5) + 2))).toNatClampNeg x3) ((nI ((n * 5) + 3))).toNatClampNeg x4) ((nI ((n * 5) + 4))).toNatClampNeg x5)))]) H locs := G
    refine lv_aload_n zx zb dX7_append_73 rfl (lv_at hl 1 rfl) ?_
    refine lv_dup zx zb dX7_append_74 rfl ?_
    refine r_get (C := RX7) (T := TX7) (N := 5) (ci := 5) (v := .int (nI n)) S in_X7_append_X7 G 0 rfl rfl 4 (by decide) lk_X7_append_7 rfl dX7_append_75 ?_
    refine lv_iconst (v := 1) zx zb dX7_append_78 (by decide) ?_
    refine r_iadd (v := (nI (n + 1))) S (nI_add n 1) dX7_append_79 ?_
    refine r_put (C := RX7) (T := TX7) (N := 5) (ci := 5) (v := .int (nI (n + 1))) S in_X7_append_X7 tyX7_ok nmX7 G 0 rfl rfl 4 (by decide) lk_X7_append_7 rfl (vp_nar_int _) rfl (Nat.le_of_ble_eq_true rfl) dX7_append_80 (fun H locs G => ?_)
    obtain ⟨n_2, hI_n_2, hE_n_2, G⟩ : ∃ n_2 : Nat, n_2 ≤ 6 ∧ n_2 = (n + 1) ∧ wd X (va_A ([(h0, .inr (5, [.int 6, .int 1, .int 1, .ref c0, .int (nI n)])), (c0, .inl (X.2.1, 30, .inl f))]) sz) (va_A ([(h0, .inr (5, [.int 6, .int 1, .int 1, .ref c0, .int (nI n)])), (c0, .inl (X.2.1, 30, .inl f))]) sz) s ([(h0, .inr (5, [.int 6, .int 1, .int 1, .ref c0, .int (nI n_2)])), (c0, .inl (X.2.1, 30, .inl (upd (upd (upd (upd (upd f ((nI ((n * 5) + 0))).toNatClampNeg x1) ((nI ((n * 5) + 1))).toNatClampNeg x2) ((nI ((n * 5) + 2))).toNatClampNeg x3) ((nI ((n * 5) + 3))).toNatClampNeg x4) ((nI ((n * 5) + 4))).toNatClampNeg x5)))]) H locs := ⟨(n + 1), by omega, rfl, G⟩
    refine lv_iconst (v := 1) zx zb dX7_append_83 (by decide) ?_
    have hzf : (upd (upd (upd (upd (upd f ((nI ((n * 5) + 0))).toNatClampNeg x1) ((nI ((n * 5) + 1))).toNatClampNeg x2) ((nI ((n * 5) + 2))).toNatClampNeg x3) ((nI ((n * 5) + 3))).toNatClampNeg x4) ((nI ((n * 5) + 4))).toNatClampNeg x5) = app5 f n x1 x2 x3 x4 x5 := by rw [nI_clamp (by omega), nI_clamp (by omega), nI_clamp (by omega), nI_clamp (by omega), nI_clamp (by omega)]; rfl
    exact e_int S zr zlk (by decide) G (n_2, (upd (upd (upd (upd (upd f ((nI ((n * 5) + 0))).toNatClampNeg x1) ((nI ((n * 5) + 1))).toNatClampNeg x2) ((nI ((n * 5) + 2))).toNatClampNeg x3) ((nI ((n * 5) + 3))).toNatClampNeg x4) ((nI ((n * 5) + 4))).toNatClampNeg x5)) [0, 1] rfl rfl (Or.inr rfl) (⟨hI_n_2, Or.inr ⟨rfl, by first | omega | (dsimp only; omega), by first | omega | (dsimp only; omega), hzf⟩⟩) dX7_append_84
  · have fc_1 := j_nlt (a := n) (b := 6) (by omega) (by omega) c_1
    refine lv_iconst (v := 0) zx zb dX7_append_11 (by decide) ?_
    exact e_int S zr zlk (by decide) G (n, f) [0, 1] rfl rfl (Or.inr rfl) (⟨hI_n, Or.inl ⟨rfl, by first | omega | (dsimp only; omega), rfl, rfl⟩⟩) dX7_append_12
set_option maxHeartbeats 4000000 in
set_option maxRecDepth 100000 in
theorem x_append2 (l : Launch) (X : EX) (h0 : Nat) (c0 : Nat) (n : Nat) (f : Nat → Int32) (x1 : Int32) (x2 : Int32) (x3 : Int32) (x4 : Int32) (x5 : Int32) (hI_n : n ≤ 6) (sz : Nat) : Met l yX7_append wsX7_append ({ frames := 0, cells := 0, slots := 0, locals := 0 } : Room) (pE X [.ref h0, .int x1, .int x2, .int x3, .int x4, .int x5] ([(h0, .inr (5, [.int 6, .int 0, .int 0, .ref c0, .int (nI n)])), (c0, .inl (X.2.1, 30, .inl f))]) sz) (qI (fun (r : Int32) (u : (Nat) × (Nat → Int32)) => u.1 ≤ 6 ∧ ((r = 0 ∧ n = 6 ∧ u.1 = n ∧ u.2 = f) ∨ (r = 1 ∧ n < 6 ∧ u.1 = n + 1 ∧ u.2 = app5 f n x1 x2 x3 x4 x5))) X (fun (u : (Nat) × (Nat → Int32)) => [(h0, .inr (5, [.int 6, .int 0, .int 0, .ref c0, .int (nI u.1)])), (c0, .inl (X.2.1, 30, .inl u.2))]) ([(h0, .inr (5, [.int 6, .int 0, .int 0, .ref c0, .int (nI n)])), (c0, .inl (X.2.1, 30, .inl f))]) sz) 0 0 (va_A ([(h0, .inr (5, [.int 6, .int 0, .int 0, .ref c0, .int (nI n)])), (c0, .inl (X.2.1, 30, .inl f))]) sz) := by
  refine mk_met (B := (va_A ([(h0, .inr (5, [.int 6, .int 0, .int 0, .ref c0, .int (nI n)])), (c0, .inl (X.2.1, 30, .inl f))]) sz)) (A := (va_A ([(h0, .inr (5, [.int 6, .int 0, .int 0, .ref c0, .int (nI n)])), (c0, .inl (X.2.1, 30, .inl f))]) sz)) (cc := cX7_append) (maxL := 7) (ret := (some .boolean)) (by decide) rfl (Nat.le_of_ble_eq_true rfl) k_w k_a (fun p e s m below meth c S zr zlk znm zsz G ls hl => ?_)
  have S : CallFix p m c cX7_append 7 s _ wsX7_append RX7 := S
  have zx := S.1
  have zb := S.2.1
  have hl : lv_has ls 7 [(0, .ref h0), (1, .int x1), (2, .int x2), (3, .int x3), (4, .int x4), (5, .int x5)] := hl
  refine lv_aload_n zx zb dX7_append_0 rfl (lv_at hl 0 rfl) ?_
  refine r_get (C := RX7) (T := TX7) (N := 5) (ci := 5) (v := .int (nI n)) S in_X7_append_X7 G 0 rfl rfl 4 (by decide) lk_X7_append_7 rfl dX7_append_1 ?_
  refine lv_aload_n zx zb dX7_append_4 rfl (lv_at hl 0 rfl) ?_
  refine r_get (C := RX7) (T := TX7) (N := 5) (ci := 5) (v := .int 6) S in_X7_append_X7 G 0 rfl rfl 0 (by decide) lk_X7_append_13 rfl dX7_append_5 ?_
  refine lv_icmp_lt (tgt := 13) zx zb dX7_append_8 (by decide) (fun c_1 => ?_) (fun c_1 => ?_)
  · have fc_1 := j_lt (a := n) (b := 6) (by omega) (by omega) c_1
    refine lv_aload_n zx zb dX7_append_13 rfl (lv_at hl 0 rfl) ?_
    refine r_get (C := RX7) (T := TX7) (N := 5) (ci := 5) (v := .int (nI n)) S in_X7_append_X7 G 0 rfl rfl 4 (by decide) lk_X7_append_7 rfl dX7_append_14 ?_
    refine lv_iconst (v := 5) zx zb dX7_append_17 (by decide) ?_
    refine r_imul (v := (nI (n * 5))) S (pk_mul n 5) dX7_append_18 ?_
    refine lv_istore (lv' := [(6, .int (nI (n * 5))), (0, .ref h0), (1, .int x1), (2, .int x2), (3, .int x3), (4, .int x4), (5, .int x5)]) zx zb dX7_append_19 hl (by decide) rfl (fun ls hl => ?_)
    refine lv_aload_n zx zb dX7_append_21 rfl (lv_at hl 1 rfl) ?_
    refine r_get (C := RX7) (T := TX7) (N := 5) (ci := 5) (v := .ref c0) S in_X7_append_X7 G 0 rfl rfl 3 (by decide) lk_X7_append_23 rfl dX7_append_22 ?_
    refine lv_iload zx zb dX7_append_25 (lv_at hl 0 rfl) ?_
    refine lv_iconst (v := 0) zx zb dX7_append_27 (by decide) ?_
    refine r_iadd (v := (nI ((n * 5) + 0))) S (nI_add (n * 5) 0) dX7_append_28 ?_
    refine lv_iload_n zx zb dX7_append_29 rfl (lv_at hl 2 rfl) ?_
    refine r_iast S G 1 rfl (vp_in_nI (by omega) (by decide)) dX7_append_30 (fun H locs G => ?_)
    have G : wd X (va_A ([(h0, .inr (5, [.int 6, .int 0, .int 0, .ref c0, .int (nI n)])), (c0, .inl (X.2.1, 30, .inl f))]) sz) (va_A ([(h0, .inr (5, [.int 6, .int 0, .int 0, .ref c0, .int (nI n)])), (c0, .inl (X.2.1, 30, .inl f))]) sz) s ([(h0, .inr (5, [.int 6, .int 0, .int 0, .ref c0, .int (nI n)])), (c0, .inl (X.2.1, 30, .inl (upd f ((nI ((n * 5) + 0))).toNatClampNeg x1)))]) H locs := G
    refine lv_aload_n zx zb dX7_append_31 rfl (lv_at hl 1 rfl) ?_
    refine r_get (C := RX7) (T := TX7) (N := 5) (ci := 5) (v := .ref c0) S in_X7_append_X7 G 0 rfl rfl 3 (by decide) lk_X7_append_23 rfl dX7_append_32 ?_
    refine lv_iload zx zb dX7_append_35 (lv_at hl 0 rfl) ?_
    refine lv_iconst (v := 1) zx zb dX7_append_37 (by decide) ?_
    refine r_iadd (v := (nI ((n * 5) + 1))) S (nI_add (n * 5) 1) dX7_append_38 ?_
    refine lv_iload_n zx zb dX7_append_39 rfl (lv_at hl 3 rfl) ?_
    refine r_iast S G 1 rfl (vp_in_nI (by omega) (by decide)) dX7_append_40 (fun H locs G => ?_)
    have G : wd X (va_A ([(h0, .inr (5, [.int 6, .int 0, .int 0, .ref c0, .int (nI n)])), (c0, .inl (X.2.1, 30, .inl f))]) sz) (va_A ([(h0, .inr (5, [.int 6, .int 0, .int 0, .ref c0, .int (nI n)])), (c0, .inl (X.2.1, 30, .inl f))]) sz) s ([(h0, .inr (5, [.int 6, .int 0, .int 0, .ref c0, .int (nI n)])), (c0, .inl (X.2.1, 30, .inl (upd (upd f ((nI ((n * 5) + 0))).toNatClampNeg x1) ((nI ((n * 5) + 1))).toNatClampNeg x2)))]) H locs := G
    refine lv_aload_n zx zb dX7_append_41 rfl (lv_at hl 1 rfl) ?_
    refine r_get (C := RX7) (T := TX7) (N := 5) (ci := 5) (v := .ref c0) S in_X7_append_X7 G 0 rfl rfl 3 (by decide) lk_X7_append_23 rfl dX7_append_42 ?_
    refine lv_iload zx zb dX7_append_45 (lv_at hl 0 rfl) ?_
    refine lv_iconst (v := 2) zx zb dX7_append_47 (by decide) ?_
    refine r_iadd (v := (nI ((n * 5) + 2))) S (nI_add (n * 5) 2) dX7_append_48 ?_
    refine lv_iload_n zx zb dX7_append_49 rfl (lv_at hl 4 rfl) ?_
    refine r_iast S G 1 rfl (vp_in_nI (by omega) (by decide)) dX7_append_50 (fun H locs G => ?_)
    have G : wd X (va_A ([(h0, .inr (5, [.int 6, .int 0, .int 0, .ref c0, .int (nI n)])), (c0, .inl (X.2.1, 30, .inl f))]) sz) (va_A ([(h0, .inr (5, [.int 6, .int 0, .int 0, .ref c0, .int (nI n)])), (c0, .inl (X.2.1, 30, .inl f))]) sz) s ([(h0, .inr (5, [.int 6, .int 0, .int 0, .ref c0, .int (nI n)])), (c0, .inl (X.2.1, 30, .inl (upd (upd (upd f ((nI ((n * 5) + 0))).toNatClampNeg x1) ((nI ((n * 5) + 1))).toNatClampNeg x2) ((nI ((n * 5) + 2))).toNatClampNeg x3)))]) H locs := G
    refine lv_aload_n zx zb dX7_append_51 rfl (lv_at hl 1 rfl) ?_
    refine r_get (C := RX7) (T := TX7) (N := 5) (ci := 5) (v := .ref c0) S in_X7_append_X7 G 0 rfl rfl 3 (by decide) lk_X7_append_23 rfl dX7_append_52 ?_
    refine lv_iload zx zb dX7_append_55 (lv_at hl 0 rfl) ?_
    refine lv_iconst (v := 3) zx zb dX7_append_57 (by decide) ?_
    refine r_iadd (v := (nI ((n * 5) + 3))) S (nI_add (n * 5) 3) dX7_append_58 ?_
    refine lv_iload zx zb dX7_append_59 (lv_at hl 5 rfl) ?_
    refine r_iast S G 1 rfl (vp_in_nI (by omega) (by decide)) dX7_append_61 (fun H locs G => ?_)
    have G : wd X (va_A ([(h0, .inr (5, [.int 6, .int 0, .int 0, .ref c0, .int (nI n)])), (c0, .inl (X.2.1, 30, .inl f))]) sz) (va_A ([(h0, .inr (5, [.int 6, .int 0, .int 0, .ref c0, .int (nI n)])), (c0, .inl (X.2.1, 30, .inl f))]) sz) s ([(h0, .inr (5, [.int 6, .int 0, .int 0, .ref c0, .int (nI n)])), (c0, .inl (X.2.1, 30, .inl (upd (upd (upd (upd f ((nI ((n * 5) + 0))).toNatClampNeg x1) ((nI ((n * 5) + 1))).toNatClampNeg x2) ((nI ((n * 5) + 2))).toNatClampNeg x3) ((nI ((n * 5) + 3))).toNatClampNeg x4)))]) H locs := G
    refine lv_aload_n zx zb dX7_append_62 rfl (lv_at hl 1 rfl) ?_
    refine r_get (C := RX7) (T := TX7) (N := 5) (ci := 5) (v := .ref c0) S in_X7_append_X7 G 0 rfl rfl 3 (by decide) lk_X7_append_23 rfl dX7_append_63 ?_
    refine lv_iload zx zb dX7_append_66 (lv_at hl 0 rfl) ?_
    refine lv_iconst (v := 4) zx zb dX7_append_68 (by decide) ?_
    refine r_iadd (v := (nI ((n * 5) + 4))) S (nI_add (n * 5) 4) dX7_append_69 ?_
    refine lv_iload zx zb dX7_append_70 (lv_at hl 6 rfl) ?_
    refine r_iast S G 1 rfl (vp_in_nI (by omega) (by decide)) dX7_append_72 (fun H locs G => ?_)
    have G : wd X (va_A ([(h0, .inr (5, [.int 6, .int 0, .int 0, .ref c0, .int (nI n)])), (c0, .inl (X.2.1, 30, .inl f))]) sz) (va_A ([(h0, .inr (5, [.int 6, .int 0, .int 0, .ref c0, .int (nI n)])), (c0, .inl (X.2.1, 30, .inl f))]) sz) s ([(h0, .inr (5, [.int 6, .int 0, .int 0, .ref c0, .int (nI n)])), (c0, .inl (X.2.1, 30, .inl (upd (upd (upd (upd (upd f ((nI ((n * 5) + 0))).toNatClampNeg x1) ((nI ((n * 5) + 1))).toNatClampNeg x2) ((nI ((n * 5) + 2))).toNatClampNeg x3) ((nI ((n * 5) + 3))).toNatClampNeg x4) ((nI ((n * 5) + 4))).toNatClampNeg x5)))]) H locs := G
    refine lv_aload_n zx zb dX7_append_73 rfl (lv_at hl 1 rfl) ?_
    refine lv_dup zx zb dX7_append_74 rfl ?_
    refine r_get (C := RX7) (T := TX7) (N := 5) (ci := 5) (v := .int (nI n)) S in_X7_append_X7 G 0 rfl rfl 4 (by decide) lk_X7_append_7 rfl dX7_append_75 ?_
    refine lv_iconst (v := 1) zx zb dX7_append_78 (by decide) ?_
    refine r_iadd (v := (nI (n + 1))) S (nI_add n 1) dX7_append_79 ?_
    refine r_put (C := RX7) (T := TX7) (N := 5) (ci := 5) (v := .int (nI (n + 1))) S in_X7_append_X7 tyX7_ok nmX7 G 0 rfl rfl 4 (by decide) lk_X7_append_7 rfl (vp_nar_int _) rfl (Nat.le_of_ble_eq_true rfl) dX7_append_80 (fun H locs G => ?_)
    obtain ⟨n_2, hI_n_2, hE_n_2, G⟩ : ∃ n_2 : Nat, n_2 ≤ 6 ∧ n_2 = (n + 1) ∧ wd X (va_A ([(h0, .inr (5, [.int 6, .int 0, .int 0, .ref c0, .int (nI n)])), (c0, .inl (X.2.1, 30, .inl f))]) sz) (va_A ([(h0, .inr (5, [.int 6, .int 0, .int 0, .ref c0, .int (nI n)])), (c0, .inl (X.2.1, 30, .inl f))]) sz) s ([(h0, .inr (5, [.int 6, .int 0, .int 0, .ref c0, .int (nI n_2)])), (c0, .inl (X.2.1, 30, .inl (upd (upd (upd (upd (upd f ((nI ((n * 5) + 0))).toNatClampNeg x1) ((nI ((n * 5) + 1))).toNatClampNeg x2) ((nI ((n * 5) + 2))).toNatClampNeg x3) ((nI ((n * 5) + 3))).toNatClampNeg x4) ((nI ((n * 5) + 4))).toNatClampNeg x5)))]) H locs := ⟨(n + 1), by omega, rfl, G⟩
    refine lv_iconst (v := 1) zx zb dX7_append_83 (by decide) ?_
    have hzf : (upd (upd (upd (upd (upd f ((nI ((n * 5) + 0))).toNatClampNeg x1) ((nI ((n * 5) + 1))).toNatClampNeg x2) ((nI ((n * 5) + 2))).toNatClampNeg x3) ((nI ((n * 5) + 3))).toNatClampNeg x4) ((nI ((n * 5) + 4))).toNatClampNeg x5) = app5 f n x1 x2 x3 x4 x5 := by rw [nI_clamp (by omega), nI_clamp (by omega), nI_clamp (by omega), nI_clamp (by omega), nI_clamp (by omega)]; rfl
    exact e_int S zr zlk (by decide) G (n_2, (upd (upd (upd (upd (upd f ((nI ((n * 5) + 0))).toNatClampNeg x1) ((nI ((n * 5) + 1))).toNatClampNeg x2) ((nI ((n * 5) + 2))).toNatClampNeg x3) ((nI ((n * 5) + 3))).toNatClampNeg x4) ((nI ((n * 5) + 4))).toNatClampNeg x5)) [0, 1] rfl rfl (Or.inr rfl) (⟨hI_n_2, Or.inr ⟨rfl, by first | omega | (dsimp only; omega), by first | omega | (dsimp only; omega), hzf⟩⟩) dX7_append_84
  · have fc_1 := j_nlt (a := n) (b := 6) (by omega) (by omega) c_1
    refine lv_iconst (v := 0) zx zb dX7_append_11 (by decide) ?_
    exact e_int S zr zlk (by decide) G (n, f) [0, 1] rfl rfl (Or.inr rfl) (⟨hI_n, Or.inl ⟨rfl, by first | omega | (dsimp only; omega), rfl, rfl⟩⟩) dX7_append_12
