set_option maxRecDepth 20000 in
theorem ggX5_welcome_X8_begin : GoodIn wsX5_welcome wsX8_begin := goodIn_r _ [9, 10, 11, 12, 13, 14, 15, 16, 17, 28, 29, 30, 31, 32, 33, 34, 35] rfl (by decide +kernel)
set_option maxRecDepth 20000 in
theorem gX5_welcome_X8_begin : GoodIn wsX5_welcome (wsV RX5 54 RX8 yX8_begin wsX8_begin) := goodIn_app (goodIn_of _ (by decide +kernel)) ggX5_welcome_X8_begin
set_option maxRecDepth 20000 in
theorem ggX6_ended_X6_nextToken : GoodIn wsX6_ended wsX6_nextToken := goodIn_r _ [8, 9, 3, 10, 2, 11, 12, 13, 14, 7, 15, 16, 17, 18, 19, 20, 21, 22, 23, 24, 25, 26, 27, 28, 29, 30, 31, 32, 33, 34, 35, 36, 37] rfl (by decide +kernel)
set_option maxRecDepth 20000 in
theorem gX6_ended_X6_nextToken : GoodIn wsX6_ended (wsV RX6 41 RX6 yX6_nextToken wsX6_nextToken) := goodIn_app (goodIn_of _ (by decide +kernel)) ggX6_ended_X6_nextToken
set_option maxRecDepth 20000 in
theorem ggX6_nextToken_X6_isFigure : GoodIn wsX6_nextToken wsX6_isFigure := goodIn_r _ [20] rfl (by decide +kernel)
set_option maxRecDepth 20000 in
theorem gX6_nextToken_X6_isFigure : GoodIn wsX6_nextToken (va_wsS RX6 125 yX6_isFigure wsX6_isFigure) := goodIn_app (goodIn_of _ (by decide +kernel)) ggX6_nextToken_X6_isFigure
set_option maxRecDepth 20000 in
theorem ggX6_nextToken_X6_isLetter : GoodIn wsX6_nextToken wsX6_isLetter := goodIn_r _ [13] rfl (by decide +kernel)
set_option maxRecDepth 20000 in
theorem gX6_nextToken_X6_isLetter : GoodIn wsX6_nextToken (va_wsS RX6 118 yX6_isLetter wsX6_isLetter) := goodIn_app (goodIn_of _ (by decide +kernel)) ggX6_nextToken_X6_isLetter
set_option maxRecDepth 20000 in
theorem ggX6_nextToken_X6_skipBlanks : GoodIn wsX6_nextToken wsX6_skipBlanks := goodIn_r _ [10, 1, 3, 5, 26, 27, 28, 29, 30, 31, 32] rfl (by decide +kernel)
set_option maxRecDepth 20000 in
theorem gX6_nextToken_X6_skipBlanks : GoodIn wsX6_nextToken (wsV RX6 38 RX6 yX6_skipBlanks wsX6_skipBlanks) := goodIn_app (goodIn_of _ (by decide +kernel)) ggX6_nextToken_X6_skipBlanks
set_option maxRecDepth 20000 in
theorem ggX6_nextToken_X6_takeFigures : GoodIn wsX6_nextToken wsX6_takeFigures := goodIn_r _ [24, 25, 1, 3, 5, 2, 4, 18, 19, 9, 20, 26, 27, 28, 29, 30, 31, 32] rfl (by decide +kernel)
set_option maxRecDepth 20000 in
theorem gX6_nextToken_X6_takeFigures : GoodIn wsX6_nextToken (wsV RX6 128 RX6 yX6_takeFigures wsX6_takeFigures) := goodIn_app (goodIn_of _ (by decide +kernel)) ggX6_nextToken_X6_takeFigures
set_option maxRecDepth 20000 in
theorem ggX6_nextToken_X6_takeLetters : GoodIn wsX6_nextToken wsX6_takeLetters := goodIn_r _ [17, 1, 3, 5, 4, 11, 12, 9, 13, 26, 27, 28, 29, 30, 31, 32] rfl (by decide +kernel)
set_option maxRecDepth 20000 in
theorem gX6_nextToken_X6_takeLetters : GoodIn wsX6_nextToken (wsV RX6 122 RX6 yX6_takeLetters wsX6_takeLetters) := goodIn_app (goodIn_of _ (by decide +kernel)) ggX6_nextToken_X6_takeLetters
set_option maxRecDepth 20000 in
theorem ggX6_number_X6_nextToken : GoodIn wsX6_number wsX6_nextToken := goodIn_r _ [9, 10, 4, 11, 2, 12, 13, 14, 15, 8, 16, 17, 18, 19, 20, 21, 22, 23, 24, 25, 26, 27, 28, 29, 30, 3, 31, 32, 33, 34, 35, 36, 37] rfl (by decide +kernel)
set_option maxRecDepth 20000 in
theorem gX6_number_X6_nextToken : GoodIn wsX6_number (wsV RX6 41 RX6 yX6_nextToken wsX6_nextToken) := goodIn_app (goodIn_of _ (by decide +kernel)) ggX6_number_X6_nextToken
set_option maxRecDepth 20000 in
theorem ggX6_spells_J0_charAt_5068e : GoodIn wsX6_spells wsJ0_charAt_5068e := goodIn_r _ [19, 9, 20, 21, 22, 7, 23, 14, 15, 24, 25, 26, 27, 28, 29, 30, 31, 32, 33, 34, 35, 36, 37, 38, 39, 40, 41, 42, 43, 44, 45, 46, 47, 48, 49, 50, 51, 52] rfl (by decide +kernel)
set_option maxRecDepth 20000 in
theorem gX6_spells_J0_charAt_5068e : GoodIn wsX6_spells (wsV RX6 136 RJ0 yJ0_charAt_5068e wsJ0_charAt_5068e) := goodIn_app (goodIn_of _ (by decide +kernel)) ggX6_spells_J0_charAt_5068e
set_option maxRecDepth 20000 in
theorem ggX6_spells_J0_length_8abf5 : GoodIn wsX6_spells wsJ0_length_8abf5 := goodIn_r _ [8, 9, 10, 11, 12, 7, 13, 14, 15] rfl (by decide +kernel)
set_option maxRecDepth 20000 in
theorem gX6_spells_J0_length_8abf5 : GoodIn wsX6_spells (wsV RX6 131 RJ0 yJ0_length_8abf5 wsJ0_length_8abf5) := goodIn_app (goodIn_of _ (by decide +kernel)) ggX6_spells_J0_length_8abf5
set_option maxRecDepth 20000 in
theorem ggX6_takeFigures_X6_isFigure : GoodIn wsX6_takeFigures wsX6_isFigure := goodIn_r _ [10] rfl (by decide +kernel)
set_option maxRecDepth 20000 in
theorem gX6_takeFigures_X6_isFigure : GoodIn wsX6_takeFigures (va_wsS RX6 125 yX6_isFigure wsX6_isFigure) := goodIn_app (goodIn_of _ (by decide +kernel)) ggX6_takeFigures_X6_isFigure
set_option maxRecDepth 20000 in
theorem ggX6_takeLength_X5_restart : GoodIn wsX6_takeLength wsX5_restart := goodIn_r _ [43, 44, 45, 46, 47, 48, 49, 50, 51, 52, 60, 61, 62, 63, 64, 65, 66, 67, 68, 69, 70, 71, 72, 73, 74] rfl (by decide +kernel)
set_option maxRecDepth 20000 in
theorem gX6_takeLength_X5_restart : GoodIn wsX6_takeLength (wsV RX6 87 RX5 yX5_restart wsX5_restart) := goodIn_app (goodIn_of _ (by decide +kernel)) ggX6_takeLength_X5_restart
set_option maxRecDepth 20000 in
theorem ggX6_takeLength_X6_ended : GoodIn wsX6_takeLength wsX6_ended := goodIn_r _ [38, 6, 7, 9, 10, 11, 12, 4, 13, 14, 15, 16, 17, 18, 19, 20, 21, 22, 23, 24, 25, 26, 27, 28, 29, 30, 31, 32, 33, 34, 8, 53, 54, 55, 56, 57, 58, 59] rfl (by decide +kernel)
set_option maxRecDepth 20000 in
theorem gX6_takeLength_X6_ended : GoodIn wsX6_takeLength (wsV RX6 83 RX6 yX6_ended wsX6_ended) := goodIn_app (goodIn_of _ (by decide +kernel)) ggX6_takeLength_X6_ended
set_option maxRecDepth 20000 in
theorem ggX6_takeLength_X6_number : GoodIn wsX6_takeLength wsX6_number := goodIn_r _ [5, 6, 7, 8, 9, 10, 11, 12, 4, 13, 14, 15, 16, 17, 18, 19, 20, 21, 22, 23, 24, 25, 26, 27, 28, 29, 30, 31, 32, 33, 34, 53, 54, 55, 56, 57, 58, 59] rfl (by decide +kernel)
set_option maxRecDepth 20000 in
theorem gX6_takeLength_X6_number : GoodIn wsX6_takeLength (wsV RX6 79 RX6 yX6_number wsX6_number) := goodIn_app (goodIn_of _ (by decide +kernel)) ggX6_takeLength_X6_number
set_option maxRecDepth 20000 in
theorem ggX6_takeLetters_X6_isLetter : GoodIn wsX6_takeLetters wsX6_isLetter := goodIn_r _ [8] rfl (by decide +kernel)
set_option maxRecDepth 20000 in
theorem gX6_takeLetters_X6_isLetter : GoodIn wsX6_takeLetters (va_wsS RX6 118 yX6_isLetter wsX6_isLetter) := goodIn_app (goodIn_of _ (by decide +kernel)) ggX6_takeLetters_X6_isLetter
set_option maxRecDepth 20000 in
theorem ggX6_takeRunner_X5_welcome : GoodIn wsX6_takeRunner wsX5_welcome := goodIn_r _ [43, 44, 45, 46, 47, 48, 49, 50, 51, 52, 53, 54, 55, 56, 57, 58, 59, 60, 68, 69, 70, 71, 72, 73, 74, 75, 76, 77, 78, 79, 80, 81, 82, 83, 84, 85] rfl (by decide +kernel)
set_option maxRecDepth 20000 in
theorem gX6_takeRunner_X5_welcome : GoodIn wsX6_takeRunner (wsV RX6 91 RX5 yX5_welcome wsX5_welcome) := goodIn_app (goodIn_of _ (by decide +kernel)) ggX6_takeRunner_X5_welcome
set_option maxRecDepth 20000 in
theorem ggX6_takeRunner_X6_ended : GoodIn wsX6_takeRunner wsX6_ended := goodIn_r _ [38, 6, 7, 9, 10, 11, 12, 4, 13, 14, 15, 16, 17, 18, 19, 20, 21, 22, 23, 24, 25, 26, 27, 28, 29, 30, 31, 32, 33, 34, 8, 61, 62, 63, 64, 65, 66, 67] rfl (by decide +kernel)
set_option maxRecDepth 20000 in
theorem gX6_takeRunner_X6_ended : GoodIn wsX6_takeRunner (wsV RX6 83 RX6 yX6_ended wsX6_ended) := goodIn_app (goodIn_of _ (by decide +kernel)) ggX6_takeRunner_X6_ended
set_option maxRecDepth 20000 in
theorem ggX6_takeRunner_X6_number : GoodIn wsX6_takeRunner wsX6_number := goodIn_r _ [5, 6, 7, 8, 9, 10, 11, 12, 4, 13, 14, 15, 16, 17, 18, 19, 20, 21, 22, 23, 24, 25, 26, 27, 28, 29, 30, 31, 32, 33, 34, 61, 62, 63, 64, 65, 66, 67] rfl (by decide +kernel)
set_option maxRecDepth 20000 in
theorem gX6_takeRunner_X6_number : GoodIn wsX6_takeRunner (wsV RX6 79 RX6 yX6_number wsX6_number) := goodIn_app (goodIn_of _ (by decide +kernel)) ggX6_takeRunner_X6_number
set_option maxRecDepth 20000 in
theorem ggX6_takeSpeed_X6_ended : GoodIn wsX6_takeSpeed wsX6_ended := goodIn_r _ [41, 9, 10, 12, 13, 14, 15, 7, 16, 17, 18, 19, 20, 21, 22, 23, 24, 25, 26, 27, 28, 29, 30, 31, 32, 33, 34, 35, 36, 37, 11, 58, 59, 60, 61, 62, 63, 64] rfl (by decide +kernel)
set_option maxRecDepth 20000 in
theorem gX6_takeSpeed_X6_ended : GoodIn wsX6_takeSpeed (wsV RX6 83 RX6 yX6_ended wsX6_ended) := goodIn_app (goodIn_of _ (by decide +kernel)) ggX6_takeSpeed_X6_ended
set_option maxRecDepth 20000 in
theorem ggX6_takeSpeed_X6_number : GoodIn wsX6_takeSpeed wsX6_number := goodIn_r _ [8, 9, 10, 11, 12, 13, 14, 15, 7, 16, 17, 18, 19, 20, 21, 22, 23, 24, 25, 26, 27, 28, 29, 30, 31, 32, 33, 34, 35, 36, 37, 58, 59, 60, 61, 62, 63, 64] rfl (by decide +kernel)
set_option maxRecDepth 20000 in
theorem gX6_takeSpeed_X6_number : GoodIn wsX6_takeSpeed (wsV RX6 79 RX6 yX6_number wsX6_number) := goodIn_app (goodIn_of _ (by decide +kernel)) ggX6_takeSpeed_X6_number
theorem dX5_welcome_0 : decode cX5_welcome 0 = .ok (.aload_n 0, 1) := by decide +kernel
theorem dX5_welcome_1 : decode cX5_welcome 1 = .ok (.getfield 18, 3) := by decide +kernel
theorem dX5_welcome_10 : decode cX5_welcome 10 = .ok (.getfield 23, 3) := by decide +kernel
theorem dX5_welcome_13 : decode cX5_welcome 13 = .ok (.aload_n 0, 1) := by decide +kernel
theorem dX5_welcome_14 : decode cX5_welcome 14 = .ok (.getfield 18, 3) := by decide +kernel
theorem dX5_welcome_17 : decode cX5_welcome 17 = .ok (.aaload, 1) := by decide +kernel
theorem dX5_welcome_18 : decode cX5_welcome 18 = .ok (.iload_n 1, 1) := by decide +kernel
theorem dX5_welcome_19 : decode cX5_welcome 19 = .ok (.iload_n 2, 1) := by decide +kernel
theorem dX5_welcome_20 : decode cX5_welcome 20 = .ok (.iload_n 3, 1) := by decide +kernel
theorem dX5_welcome_21 : decode cX5_welcome 21 = .ok (.invokevirtual 54, 3) := by decide +kernel
theorem dX5_welcome_24 : decode cX5_welcome 24 = .ok (.aload_n 0, 1) := by decide +kernel
theorem dX5_welcome_25 : decode cX5_welcome 25 = .ok (.dup, 1) := by decide +kernel
theorem dX5_welcome_26 : decode cX5_welcome 26 = .ok (.getfield 18, 3) := by decide +kernel
theorem dX5_welcome_29 : decode cX5_welcome 29 = .ok (.iconst 1, 1) := by decide +kernel
theorem dX5_welcome_30 : decode cX5_welcome 30 = .ok (.iadd, 1) := by decide +kernel
theorem dX5_welcome_31 : decode cX5_welcome 31 = .ok (.putfield 18, 3) := by decide +kernel
theorem dX5_welcome_34 : decode cX5_welcome 34 = .ok (.aload_n 0, 1) := by decide +kernel
theorem dX5_welcome_35 : decode cX5_welcome 35 = .ok (.getfield 30, 3) := by decide +kernel
theorem dX5_welcome_38 : decode cX5_welcome 38 = .ok (.iconst 0, 1) := by decide +kernel
theorem dX5_welcome_39 : decode cX5_welcome 39 = .ok (.putfield 50, 3) := by decide +kernel
theorem dX5_welcome_4 : decode cX5_welcome 4 = .ok (.bipush 6, 2) := by decide +kernel
theorem dX5_welcome_42 : decode cX5_welcome 42 = .ok (.return_, 1) := by decide +kernel
theorem dX5_welcome_6 : decode cX5_welcome 6 = .ok (.if_icmp .ge 36, 3) := by decide +kernel
theorem dX5_welcome_9 : decode cX5_welcome 9 = .ok (.aload_n 0, 1) := by decide +kernel
theorem dX6_ended_0 : decode cX6_ended 0 = .ok (.aload_n 0, 1) := by decide +kernel
theorem dX6_ended_1 : decode cX6_ended 1 = .ok (.getfield 31, 3) := by decide +kernel
theorem dX6_ended_10 : decode cX6_ended 10 = .ok (.aload_n 0, 1) := by decide +kernel
theorem dX6_ended_11 : decode cX6_ended 11 = .ok (.invokevirtual 41, 3) := by decide +kernel
theorem dX6_ended_14 : decode cX6_ended 14 = .ok (.aload_n 0, 1) := by decide +kernel
theorem dX6_ended_15 : decode cX6_ended 15 = .ok (.getfield 25, 3) := by decide +kernel
theorem dX6_ended_18 : decode cX6_ended 18 = .ok (.iconst 3, 1) := by decide +kernel
theorem dX6_ended_19 : decode cX6_ended 19 = .ok (.if_icmp .eq 11, 3) := by decide +kernel
theorem dX6_ended_22 : decode cX6_ended 22 = .ok (.aload_n 0, 1) := by decide +kernel
theorem dX6_ended_23 : decode cX6_ended 23 = .ok (.aload_n 0, 1) := by decide +kernel
theorem dX6_ended_24 : decode cX6_ended 24 = .ok (.getfield 22, 3) := by decide +kernel
theorem dX6_ended_27 : decode cX6_ended 27 = .ok (.putfield 31, 3) := by decide +kernel
theorem dX6_ended_30 : decode cX6_ended 30 = .ok (.aload_n 0, 1) := by decide +kernel
theorem dX6_ended_31 : decode cX6_ended 31 = .ok (.getfield 31, 3) := by decide +kernel
theorem dX6_ended_34 : decode cX6_ended 34 = .ok (.iconst (-1), 1) := by decide +kernel
theorem dX6_ended_35 : decode cX6_ended 35 = .ok (.if_icmp .ne 7, 3) := by decide +kernel
theorem dX6_ended_38 : decode cX6_ended 38 = .ok (.iconst 1, 1) := by decide +kernel
theorem dX6_ended_39 : decode cX6_ended 39 = .ok (.goto 4, 3) := by decide +kernel
theorem dX6_ended_4 : decode cX6_ended 4 = .ok (.iconst (-1), 1) := by decide +kernel
theorem dX6_ended_42 : decode cX6_ended 42 = .ok (.iconst 0, 1) := by decide +kernel
theorem dX6_ended_43 : decode cX6_ended 43 = .ok (.ireturn, 1) := by decide +kernel
theorem dX6_ended_5 : decode cX6_ended 5 = .ok (.if_icmp .eq 5, 3) := by decide +kernel
theorem dX6_ended_8 : decode cX6_ended 8 = .ok (.iconst 0, 1) := by decide +kernel
theorem dX6_ended_9 : decode cX6_ended 9 = .ok (.ireturn, 1) := by decide +kernel
theorem dX6_nextToken_0 : decode cX6_nextToken 0 = .ok (.aload_n 0, 1) := by decide +kernel
theorem dX6_nextToken_1 : decode cX6_nextToken 1 = .ok (.invokevirtual 38, 3) := by decide +kernel
theorem dX6_nextToken_100 : decode cX6_nextToken 100 = .ok (.getfield 19, 3) := by decide +kernel
theorem dX6_nextToken_103 : decode cX6_nextToken 103 = .ok (.iconst 1, 1) := by decide +kernel
theorem dX6_nextToken_104 : decode cX6_nextToken 104 = .ok (.iadd, 1) := by decide +kernel
theorem dX6_nextToken_105 : decode cX6_nextToken 105 = .ok (.putfield 19, 3) := by decide +kernel
theorem dX6_nextToken_108 : decode cX6_nextToken 108 = .ok (.return_, 1) := by decide +kernel
theorem dX6_nextToken_12 : decode cX6_nextToken 12 = .ok (.aload_n 0, 1) := by decide +kernel
theorem dX6_nextToken_13 : decode cX6_nextToken 13 = .ok (.getfield 19, 3) := by decide +kernel
theorem dX6_nextToken_16 : decode cX6_nextToken 16 = .ok (.aload_n 0, 1) := by decide +kernel
theorem dX6_nextToken_17 : decode cX6_nextToken 17 = .ok (.getfield 15, 3) := by decide +kernel
theorem dX6_nextToken_20 : decode cX6_nextToken 20 = .ok (.if_icmp .lt 11, 3) := by decide +kernel
theorem dX6_nextToken_23 : decode cX6_nextToken 23 = .ok (.aload_n 0, 1) := by decide +kernel
theorem dX6_nextToken_24 : decode cX6_nextToken 24 = .ok (.iconst 0, 1) := by decide +kernel
theorem dX6_nextToken_25 : decode cX6_nextToken 25 = .ok (.putfield 25, 3) := by decide +kernel
theorem dX6_nextToken_28 : decode cX6_nextToken 28 = .ok (.goto 80, 3) := by decide +kernel
theorem dX6_nextToken_31 : decode cX6_nextToken 31 = .ok (.aload_n 0, 1) := by decide +kernel
theorem dX6_nextToken_32 : decode cX6_nextToken 32 = .ok (.getfield 11, 3) := by decide +kernel
theorem dX6_nextToken_35 : decode cX6_nextToken 35 = .ok (.aload_n 0, 1) := by decide +kernel
theorem dX6_nextToken_36 : decode cX6_nextToken 36 = .ok (.getfield 19, 3) := by decide +kernel
theorem dX6_nextToken_39 : decode cX6_nextToken 39 = .ok (.iaload, 1) := by decide +kernel
theorem dX6_nextToken_4 : decode cX6_nextToken 4 = .ok (.aload_n 0, 1) := by decide +kernel
theorem dX6_nextToken_40 : decode cX6_nextToken 40 = .ok (.invokestatic 118, 3) := by decide +kernel
theorem dX6_nextToken_43 : decode cX6_nextToken 43 = .ok (.ifCond .eq 10, 3) := by decide +kernel
theorem dX6_nextToken_46 : decode cX6_nextToken 46 = .ok (.aload_n 0, 1) := by decide +kernel
theorem dX6_nextToken_47 : decode cX6_nextToken 47 = .ok (.invokevirtual 122, 3) := by decide +kernel
theorem dX6_nextToken_5 : decode cX6_nextToken 5 = .ok (.aload_n 0, 1) := by decide +kernel
theorem dX6_nextToken_50 : decode cX6_nextToken 50 = .ok (.goto 58, 3) := by decide +kernel
theorem dX6_nextToken_53 : decode cX6_nextToken 53 = .ok (.aload_n 0, 1) := by decide +kernel
theorem dX6_nextToken_54 : decode cX6_nextToken 54 = .ok (.getfield 11, 3) := by decide +kernel
theorem dX6_nextToken_57 : decode cX6_nextToken 57 = .ok (.aload_n 0, 1) := by decide +kernel
theorem dX6_nextToken_58 : decode cX6_nextToken 58 = .ok (.getfield 19, 3) := by decide +kernel
theorem dX6_nextToken_6 : decode cX6_nextToken 6 = .ok (.getfield 19, 3) := by decide +kernel
theorem dX6_nextToken_61 : decode cX6_nextToken 61 = .ok (.iaload, 1) := by decide +kernel
theorem dX6_nextToken_62 : decode cX6_nextToken 62 = .ok (.invokestatic 125, 3) := by decide +kernel
theorem dX6_nextToken_65 : decode cX6_nextToken 65 = .ok (.ifCond .eq 10, 3) := by decide +kernel
theorem dX6_nextToken_68 : decode cX6_nextToken 68 = .ok (.aload_n 0, 1) := by decide +kernel
theorem dX6_nextToken_69 : decode cX6_nextToken 69 = .ok (.invokevirtual 128, 3) := by decide +kernel
theorem dX6_nextToken_72 : decode cX6_nextToken 72 = .ok (.goto 36, 3) := by decide +kernel
theorem dX6_nextToken_75 : decode cX6_nextToken 75 = .ok (.aload_n 0, 1) := by decide +kernel
theorem dX6_nextToken_76 : decode cX6_nextToken 76 = .ok (.aload_n 0, 1) := by decide +kernel
theorem dX6_nextToken_77 : decode cX6_nextToken 77 = .ok (.getfield 11, 3) := by decide +kernel
theorem dX6_nextToken_80 : decode cX6_nextToken 80 = .ok (.aload_n 0, 1) := by decide +kernel
theorem dX6_nextToken_81 : decode cX6_nextToken 81 = .ok (.getfield 19, 3) := by decide +kernel
theorem dX6_nextToken_84 : decode cX6_nextToken 84 = .ok (.iaload, 1) := by decide +kernel
theorem dX6_nextToken_85 : decode cX6_nextToken 85 = .ok (.bipush 59, 2) := by decide +kernel
theorem dX6_nextToken_87 : decode cX6_nextToken 87 = .ok (.if_icmp .ne 7, 3) := by decide +kernel
theorem dX6_nextToken_9 : decode cX6_nextToken 9 = .ok (.putfield 22, 3) := by decide +kernel
theorem dX6_nextToken_90 : decode cX6_nextToken 90 = .ok (.iconst 3, 1) := by decide +kernel
theorem dX6_nextToken_91 : decode cX6_nextToken 91 = .ok (.goto 4, 3) := by decide +kernel
theorem dX6_nextToken_94 : decode cX6_nextToken 94 = .ok (.iconst 4, 1) := by decide +kernel
theorem dX6_nextToken_95 : decode cX6_nextToken 95 = .ok (.putfield 25, 3) := by decide +kernel
theorem dX6_nextToken_98 : decode cX6_nextToken 98 = .ok (.aload_n 0, 1) := by decide +kernel
theorem dX6_nextToken_99 : decode cX6_nextToken 99 = .ok (.dup, 1) := by decide +kernel
theorem dX6_number_0 : decode cX6_number 0 = .ok (.aload_n 0, 1) := by decide +kernel
theorem dX6_number_1 : decode cX6_number 1 = .ok (.getfield 31, 3) := by decide +kernel
theorem dX6_number_10 : decode cX6_number 10 = .ok (.aload_n 0, 1) := by decide +kernel
theorem dX6_number_11 : decode cX6_number 11 = .ok (.invokevirtual 41, 3) := by decide +kernel
theorem dX6_number_14 : decode cX6_number 14 = .ok (.aload_n 0, 1) := by decide +kernel
theorem dX6_number_15 : decode cX6_number 15 = .ok (.getfield 25, 3) := by decide +kernel
theorem dX6_number_18 : decode cX6_number 18 = .ok (.iconst 2, 1) := by decide +kernel
theorem dX6_number_19 : decode cX6_number 19 = .ok (.if_icmp .ne 19, 3) := by decide +kernel
theorem dX6_number_22 : decode cX6_number 22 = .ok (.aload_n 0, 1) := by decide +kernel
theorem dX6_number_23 : decode cX6_number 23 = .ok (.getfield 28, 3) := by decide +kernel
theorem dX6_number_26 : decode cX6_number 26 = .ok (.iload_n 1, 1) := by decide +kernel
theorem dX6_number_27 : decode cX6_number 27 = .ok (.if_icmp .lt 11, 3) := by decide +kernel
theorem dX6_number_30 : decode cX6_number 30 = .ok (.aload_n 0, 1) := by decide +kernel
theorem dX6_number_31 : decode cX6_number 31 = .ok (.getfield 28, 3) := by decide +kernel
theorem dX6_number_34 : decode cX6_number 34 = .ok (.iload_n 2, 1) := by decide +kernel
theorem dX6_number_35 : decode cX6_number 35 = .ok (.if_icmp .le 13, 3) := by decide +kernel
theorem dX6_number_38 : decode cX6_number 38 = .ok (.aload_n 0, 1) := by decide +kernel
theorem dX6_number_39 : decode cX6_number 39 = .ok (.aload_n 0, 1) := by decide +kernel
theorem dX6_number_4 : decode cX6_number 4 = .ok (.iconst (-1), 1) := by decide +kernel
theorem dX6_number_40 : decode cX6_number 40 = .ok (.getfield 22, 3) := by decide +kernel
theorem dX6_number_43 : decode cX6_number 43 = .ok (.putfield 31, 3) := by decide +kernel
theorem dX6_number_46 : decode cX6_number 46 = .ok (.iconst (-1), 1) := by decide +kernel
theorem dX6_number_47 : decode cX6_number 47 = .ok (.ireturn, 1) := by decide +kernel
theorem dX6_number_48 : decode cX6_number 48 = .ok (.aload_n 0, 1) := by decide +kernel
theorem dX6_number_49 : decode cX6_number 49 = .ok (.getfield 28, 3) := by decide +kernel
theorem dX6_number_5 : decode cX6_number 5 = .ok (.if_icmp .eq 5, 3) := by decide +kernel
theorem dX6_number_52 : decode cX6_number 52 = .ok (.ireturn, 1) := by decide +kernel
theorem dX6_number_8 : decode cX6_number 8 = .ok (.iconst (-1), 1) := by decide +kernel
theorem dX6_number_9 : decode cX6_number 9 = .ok (.ireturn, 1) := by decide +kernel
theorem dX6_spells_0 : decode cX6_spells 0 = .ok (.aload_n 0, 1) := by decide +kernel
theorem dX6_spells_1 : decode cX6_spells 1 = .ok (.getfield 19, 3) := by decide +kernel
theorem dX6_spells_10 : decode cX6_spells 10 = .ok (.invokevirtual 131, 3) := by decide +kernel
theorem dX6_spells_13 : decode cX6_spells 13 = .ok (.if_icmp .eq 5, 3) := by decide +kernel
theorem dX6_spells_16 : decode cX6_spells 16 = .ok (.iconst 0, 1) := by decide +kernel
theorem dX6_spells_17 : decode cX6_spells 17 = .ok (.ireturn, 1) := by decide +kernel
theorem dX6_spells_18 : decode cX6_spells 18 = .ok (.iconst 0, 1) := by decide +kernel
theorem dX6_spells_19 : decode cX6_spells 19 = .ok (.istore_n 2, 1) := by decide +kernel
theorem dX6_spells_20 : decode cX6_spells 20 = .ok (.iload_n 2, 1) := by decide +kernel
theorem dX6_spells_21 : decode cX6_spells 21 = .ok (.aload_n 1, 1) := by decide +kernel
theorem dX6_spells_22 : decode cX6_spells 22 = .ok (.invokevirtual 131, 3) := by decide +kernel
theorem dX6_spells_25 : decode cX6_spells 25 = .ok (.if_icmp .ge 30, 3) := by decide +kernel
theorem dX6_spells_28 : decode cX6_spells 28 = .ok (.aload_n 0, 1) := by decide +kernel
theorem dX6_spells_29 : decode cX6_spells 29 = .ok (.getfield 11, 3) := by decide +kernel
theorem dX6_spells_32 : decode cX6_spells 32 = .ok (.aload_n 0, 1) := by decide +kernel
theorem dX6_spells_33 : decode cX6_spells 33 = .ok (.getfield 22, 3) := by decide +kernel
theorem dX6_spells_36 : decode cX6_spells 36 = .ok (.iload_n 2, 1) := by decide +kernel
theorem dX6_spells_37 : decode cX6_spells 37 = .ok (.iadd, 1) := by decide +kernel
theorem dX6_spells_38 : decode cX6_spells 38 = .ok (.iaload, 1) := by decide +kernel
theorem dX6_spells_39 : decode cX6_spells 39 = .ok (.aload_n 1, 1) := by decide +kernel
theorem dX6_spells_4 : decode cX6_spells 4 = .ok (.aload_n 0, 1) := by decide +kernel
theorem dX6_spells_40 : decode cX6_spells 40 = .ok (.iload_n 2, 1) := by decide +kernel
theorem dX6_spells_41 : decode cX6_spells 41 = .ok (.invokevirtual 136, 3) := by decide +kernel
theorem dX6_spells_44 : decode cX6_spells 44 = .ok (.if_icmp .eq 5, 3) := by decide +kernel
theorem dX6_spells_47 : decode cX6_spells 47 = .ok (.iconst 0, 1) := by decide +kernel
theorem dX6_spells_48 : decode cX6_spells 48 = .ok (.ireturn, 1) := by decide +kernel
theorem dX6_spells_49 : decode cX6_spells 49 = .ok (.iinc 2 1, 3) := by decide +kernel
theorem dX6_spells_5 : decode cX6_spells 5 = .ok (.getfield 22, 3) := by decide +kernel
theorem dX6_spells_52 : decode cX6_spells 52 = .ok (.goto (-32), 3) := by decide +kernel
theorem dX6_spells_55 : decode cX6_spells 55 = .ok (.iconst 1, 1) := by decide +kernel
theorem dX6_spells_56 : decode cX6_spells 56 = .ok (.ireturn, 1) := by decide +kernel
theorem dX6_spells_8 : decode cX6_spells 8 = .ok (.isub, 1) := by decide +kernel
theorem dX6_spells_9 : decode cX6_spells 9 = .ok (.aload_n 1, 1) := by decide +kernel
theorem dX6_takeFigures_0 : decode cX6_takeFigures 0 = .ok (.aload_n 0, 1) := by decide +kernel
theorem dX6_takeFigures_1 : decode cX6_takeFigures 1 = .ok (.iconst 0, 1) := by decide +kernel
theorem dX6_takeFigures_10 : decode cX6_takeFigures 10 = .ok (.getfield 15, 3) := by decide +kernel
theorem dX6_takeFigures_13 : decode cX6_takeFigures 13 = .ok (.if_icmp .ge 55, 3) := by decide +kernel
theorem dX6_takeFigures_16 : decode cX6_takeFigures 16 = .ok (.aload_n 0, 1) := by decide +kernel
theorem dX6_takeFigures_17 : decode cX6_takeFigures 17 = .ok (.getfield 11, 3) := by decide +kernel
theorem dX6_takeFigures_2 : decode cX6_takeFigures 2 = .ok (.putfield 28, 3) := by decide +kernel
theorem dX6_takeFigures_20 : decode cX6_takeFigures 20 = .ok (.aload_n 0, 1) := by decide +kernel
theorem dX6_takeFigures_21 : decode cX6_takeFigures 21 = .ok (.getfield 19, 3) := by decide +kernel
theorem dX6_takeFigures_24 : decode cX6_takeFigures 24 = .ok (.iaload, 1) := by decide +kernel
theorem dX6_takeFigures_25 : decode cX6_takeFigures 25 = .ok (.invokestatic 125, 3) := by decide +kernel
theorem dX6_takeFigures_28 : decode cX6_takeFigures 28 = .ok (.ifCond .eq 40, 3) := by decide +kernel
theorem dX6_takeFigures_31 : decode cX6_takeFigures 31 = .ok (.aload_n 0, 1) := by decide +kernel
theorem dX6_takeFigures_32 : decode cX6_takeFigures 32 = .ok (.bipush 10, 2) := by decide +kernel
theorem dX6_takeFigures_34 : decode cX6_takeFigures 34 = .ok (.aload_n 0, 1) := by decide +kernel
theorem dX6_takeFigures_35 : decode cX6_takeFigures 35 = .ok (.getfield 28, 3) := by decide +kernel
theorem dX6_takeFigures_38 : decode cX6_takeFigures 38 = .ok (.imul, 1) := by decide +kernel
theorem dX6_takeFigures_39 : decode cX6_takeFigures 39 = .ok (.aload_n 0, 1) := by decide +kernel
theorem dX6_takeFigures_40 : decode cX6_takeFigures 40 = .ok (.getfield 11, 3) := by decide +kernel
theorem dX6_takeFigures_43 : decode cX6_takeFigures 43 = .ok (.aload_n 0, 1) := by decide +kernel
theorem dX6_takeFigures_44 : decode cX6_takeFigures 44 = .ok (.getfield 19, 3) := by decide +kernel
theorem dX6_takeFigures_47 : decode cX6_takeFigures 47 = .ok (.iaload, 1) := by decide +kernel
theorem dX6_takeFigures_48 : decode cX6_takeFigures 48 = .ok (.iadd, 1) := by decide +kernel
theorem dX6_takeFigures_49 : decode cX6_takeFigures 49 = .ok (.bipush 48, 2) := by decide +kernel
theorem dX6_takeFigures_5 : decode cX6_takeFigures 5 = .ok (.aload_n 0, 1) := by decide +kernel
theorem dX6_takeFigures_51 : decode cX6_takeFigures 51 = .ok (.isub, 1) := by decide +kernel
theorem dX6_takeFigures_52 : decode cX6_takeFigures 52 = .ok (.putfield 28, 3) := by decide +kernel
theorem dX6_takeFigures_55 : decode cX6_takeFigures 55 = .ok (.aload_n 0, 1) := by decide +kernel
theorem dX6_takeFigures_56 : decode cX6_takeFigures 56 = .ok (.dup, 1) := by decide +kernel
theorem dX6_takeFigures_57 : decode cX6_takeFigures 57 = .ok (.getfield 19, 3) := by decide +kernel
theorem dX6_takeFigures_6 : decode cX6_takeFigures 6 = .ok (.getfield 19, 3) := by decide +kernel
theorem dX6_takeFigures_60 : decode cX6_takeFigures 60 = .ok (.iconst 1, 1) := by decide +kernel
theorem dX6_takeFigures_61 : decode cX6_takeFigures 61 = .ok (.iadd, 1) := by decide +kernel
theorem dX6_takeFigures_62 : decode cX6_takeFigures 62 = .ok (.putfield 19, 3) := by decide +kernel
theorem dX6_takeFigures_65 : decode cX6_takeFigures 65 = .ok (.goto (-60), 3) := by decide +kernel
theorem dX6_takeFigures_68 : decode cX6_takeFigures 68 = .ok (.aload_n 0, 1) := by decide +kernel
theorem dX6_takeFigures_69 : decode cX6_takeFigures 69 = .ok (.aload_n 0, 1) := by decide +kernel
theorem dX6_takeFigures_70 : decode cX6_takeFigures 70 = .ok (.getfield 19, 3) := by decide +kernel
theorem dX6_takeFigures_73 : decode cX6_takeFigures 73 = .ok (.aload_n 0, 1) := by decide +kernel
theorem dX6_takeFigures_74 : decode cX6_takeFigures 74 = .ok (.getfield 22, 3) := by decide +kernel
theorem dX6_takeFigures_77 : decode cX6_takeFigures 77 = .ok (.isub, 1) := by decide +kernel
theorem dX6_takeFigures_78 : decode cX6_takeFigures 78 = .ok (.iconst 2, 1) := by decide +kernel
theorem dX6_takeFigures_79 : decode cX6_takeFigures 79 = .ok (.if_icmp .gt 7, 3) := by decide +kernel
theorem dX6_takeFigures_82 : decode cX6_takeFigures 82 = .ok (.iconst 2, 1) := by decide +kernel
theorem dX6_takeFigures_83 : decode cX6_takeFigures 83 = .ok (.goto 4, 3) := by decide +kernel
theorem dX6_takeFigures_86 : decode cX6_takeFigures 86 = .ok (.iconst 4, 1) := by decide +kernel
theorem dX6_takeFigures_87 : decode cX6_takeFigures 87 = .ok (.putfield 25, 3) := by decide +kernel
theorem dX6_takeFigures_9 : decode cX6_takeFigures 9 = .ok (.aload_n 0, 1) := by decide +kernel
theorem dX6_takeFigures_90 : decode cX6_takeFigures 90 = .ok (.return_, 1) := by decide +kernel
theorem dX6_takeLength_0 : decode cX6_takeLength 0 = .ok (.aload_n 0, 1) := by decide +kernel
theorem dX6_takeLength_1 : decode cX6_takeLength 1 = .ok (.bipush 10, 2) := by decide +kernel
theorem dX6_takeLength_10 : decode cX6_takeLength 10 = .ok (.invokevirtual 83, 3) := by decide +kernel
theorem dX6_takeLength_13 : decode cX6_takeLength 13 = .ok (.ifCond .eq 8, 3) := by decide +kernel
theorem dX6_takeLength_16 : decode cX6_takeLength 16 = .ok (.aload_n 1, 1) := by decide +kernel
theorem dX6_takeLength_17 : decode cX6_takeLength 17 = .ok (.iload_n 2, 1) := by decide +kernel
theorem dX6_takeLength_18 : decode cX6_takeLength 18 = .ok (.invokevirtual 87, 3) := by decide +kernel
theorem dX6_takeLength_21 : decode cX6_takeLength 21 = .ok (.return_, 1) := by decide +kernel
theorem dX6_takeLength_3 : decode cX6_takeLength 3 = .ok (.bipush 60, 2) := by decide +kernel
theorem dX6_takeLength_5 : decode cX6_takeLength 5 = .ok (.invokevirtual 79, 3) := by decide +kernel
theorem dX6_takeLength_8 : decode cX6_takeLength 8 = .ok (.istore_n 2, 1) := by decide +kernel
theorem dX6_takeLength_9 : decode cX6_takeLength 9 = .ok (.aload_n 0, 1) := by decide +kernel
theorem dX6_takeLetters_0 : decode cX6_takeLetters 0 = .ok (.aload_n 0, 1) := by decide +kernel
theorem dX6_takeLetters_1 : decode cX6_takeLetters 1 = .ok (.getfield 19, 3) := by decide +kernel
theorem dX6_takeLetters_11 : decode cX6_takeLetters 11 = .ok (.aload_n 0, 1) := by decide +kernel
theorem dX6_takeLetters_12 : decode cX6_takeLetters 12 = .ok (.getfield 11, 3) := by decide +kernel
theorem dX6_takeLetters_15 : decode cX6_takeLetters 15 = .ok (.aload_n 0, 1) := by decide +kernel
theorem dX6_takeLetters_16 : decode cX6_takeLetters 16 = .ok (.getfield 19, 3) := by decide +kernel
theorem dX6_takeLetters_19 : decode cX6_takeLetters 19 = .ok (.iaload, 1) := by decide +kernel
theorem dX6_takeLetters_20 : decode cX6_takeLetters 20 = .ok (.invokestatic 118, 3) := by decide +kernel
theorem dX6_takeLetters_23 : decode cX6_takeLetters 23 = .ok (.ifCond .eq 16, 3) := by decide +kernel
theorem dX6_takeLetters_26 : decode cX6_takeLetters 26 = .ok (.aload_n 0, 1) := by decide +kernel
theorem dX6_takeLetters_27 : decode cX6_takeLetters 27 = .ok (.dup, 1) := by decide +kernel
theorem dX6_takeLetters_28 : decode cX6_takeLetters 28 = .ok (.getfield 19, 3) := by decide +kernel
theorem dX6_takeLetters_31 : decode cX6_takeLetters 31 = .ok (.iconst 1, 1) := by decide +kernel
theorem dX6_takeLetters_32 : decode cX6_takeLetters 32 = .ok (.iadd, 1) := by decide +kernel
theorem dX6_takeLetters_33 : decode cX6_takeLetters 33 = .ok (.putfield 19, 3) := by decide +kernel
theorem dX6_takeLetters_36 : decode cX6_takeLetters 36 = .ok (.goto (-36), 3) := by decide +kernel
theorem dX6_takeLetters_39 : decode cX6_takeLetters 39 = .ok (.aload_n 0, 1) := by decide +kernel
theorem dX6_takeLetters_4 : decode cX6_takeLetters 4 = .ok (.aload_n 0, 1) := by decide +kernel
theorem dX6_takeLetters_40 : decode cX6_takeLetters 40 = .ok (.iconst 1, 1) := by decide +kernel
theorem dX6_takeLetters_41 : decode cX6_takeLetters 41 = .ok (.putfield 25, 3) := by decide +kernel
theorem dX6_takeLetters_44 : decode cX6_takeLetters 44 = .ok (.return_, 1) := by decide +kernel
theorem dX6_takeLetters_5 : decode cX6_takeLetters 5 = .ok (.getfield 15, 3) := by decide +kernel
theorem dX6_takeLetters_8 : decode cX6_takeLetters 8 = .ok (.if_icmp .ge 31, 3) := by decide +kernel
theorem dX6_takeRunner_0 : decode cX6_takeRunner 0 = .ok (.aload_n 0, 1) := by decide +kernel
theorem dX6_takeRunner_1 : decode cX6_takeRunner 1 = .ok (.iconst 0, 1) := by decide +kernel
theorem dX6_takeRunner_11 : decode cX6_takeRunner 11 = .ok (.invokevirtual 79, 3) := by decide +kernel
theorem dX6_takeRunner_14 : decode cX6_takeRunner 14 = .ok (.istore_n 3, 1) := by decide +kernel
theorem dX6_takeRunner_15 : decode cX6_takeRunner 15 = .ok (.aload_n 0, 1) := by decide +kernel
theorem dX6_takeRunner_16 : decode cX6_takeRunner 16 = .ok (.iconst 0, 1) := by decide +kernel
theorem dX6_takeRunner_17 : decode cX6_takeRunner 17 = .ok (.iconst 5, 1) := by decide +kernel
theorem dX6_takeRunner_18 : decode cX6_takeRunner 18 = .ok (.invokevirtual 79, 3) := by decide +kernel
theorem dX6_takeRunner_2 : decode cX6_takeRunner 2 = .ok (.iconst 5, 1) := by decide +kernel
theorem dX6_takeRunner_21 : decode cX6_takeRunner 21 = .ok (.istore 4, 2) := by decide +kernel
theorem dX6_takeRunner_23 : decode cX6_takeRunner 23 = .ok (.aload_n 0, 1) := by decide +kernel
theorem dX6_takeRunner_24 : decode cX6_takeRunner 24 = .ok (.invokevirtual 83, 3) := by decide +kernel
theorem dX6_takeRunner_27 : decode cX6_takeRunner 27 = .ok (.ifCond .eq 11, 3) := by decide +kernel
theorem dX6_takeRunner_3 : decode cX6_takeRunner 3 = .ok (.invokevirtual 79, 3) := by decide +kernel
theorem dX6_takeRunner_30 : decode cX6_takeRunner 30 = .ok (.aload_n 1, 1) := by decide +kernel
theorem dX6_takeRunner_31 : decode cX6_takeRunner 31 = .ok (.iload_n 2, 1) := by decide +kernel
theorem dX6_takeRunner_32 : decode cX6_takeRunner 32 = .ok (.iload_n 3, 1) := by decide +kernel
theorem dX6_takeRunner_33 : decode cX6_takeRunner 33 = .ok (.iload 4, 2) := by decide +kernel
theorem dX6_takeRunner_35 : decode cX6_takeRunner 35 = .ok (.invokevirtual 91, 3) := by decide +kernel
theorem dX6_takeRunner_38 : decode cX6_takeRunner 38 = .ok (.return_, 1) := by decide +kernel
theorem dX6_takeRunner_6 : decode cX6_takeRunner 6 = .ok (.istore_n 2, 1) := by decide +kernel
theorem dX6_takeRunner_7 : decode cX6_takeRunner 7 = .ok (.aload_n 0, 1) := by decide +kernel
theorem dX6_takeRunner_8 : decode cX6_takeRunner 8 = .ok (.iconst 1, 1) := by decide +kernel
theorem dX6_takeRunner_9 : decode cX6_takeRunner 9 = .ok (.bipush 9, 2) := by decide +kernel
theorem dX6_takeSpeed_0 : decode cX6_takeSpeed 0 = .ok (.aload_n 0, 1) := by decide +kernel
theorem dX6_takeSpeed_1 : decode cX6_takeSpeed 1 = .ok (.iconst 0, 1) := by decide +kernel
theorem dX6_takeSpeed_11 : decode cX6_takeSpeed 11 = .ok (.istore_n 2, 1) := by decide +kernel
theorem dX6_takeSpeed_12 : decode cX6_takeSpeed 12 = .ok (.aload_n 0, 1) := by decide +kernel
theorem dX6_takeSpeed_13 : decode cX6_takeSpeed 13 = .ok (.iconst 0, 1) := by decide +kernel
theorem dX6_takeSpeed_14 : decode cX6_takeSpeed 14 = .ok (.bipush 9, 2) := by decide +kernel
theorem dX6_takeSpeed_16 : decode cX6_takeSpeed 16 = .ok (.invokevirtual 79, 3) := by decide +kernel
theorem dX6_takeSpeed_19 : decode cX6_takeSpeed 19 = .ok (.istore_n 3, 1) := by decide +kernel
theorem dX6_takeSpeed_2 : decode cX6_takeSpeed 2 = .ok (.aload_n 1, 1) := by decide +kernel
theorem dX6_takeSpeed_20 : decode cX6_takeSpeed 20 = .ok (.aload_n 0, 1) := by decide +kernel
theorem dX6_takeSpeed_21 : decode cX6_takeSpeed 21 = .ok (.invokevirtual 83, 3) := by decide +kernel
theorem dX6_takeSpeed_24 : decode cX6_takeSpeed 24 = .ok (.ifCond .eq 25, 3) := by decide +kernel
theorem dX6_takeSpeed_27 : decode cX6_takeSpeed 27 = .ok (.iload_n 2, 1) := by decide +kernel
theorem dX6_takeSpeed_28 : decode cX6_takeSpeed 28 = .ok (.ifCond .lt 21, 3) := by decide +kernel
theorem dX6_takeSpeed_3 : decode cX6_takeSpeed 3 = .ok (.getfield 56, 3) := by decide +kernel
theorem dX6_takeSpeed_31 : decode cX6_takeSpeed 31 = .ok (.iload_n 2, 1) := by decide +kernel
theorem dX6_takeSpeed_32 : decode cX6_takeSpeed 32 = .ok (.aload_n 1, 1) := by decide +kernel
theorem dX6_takeSpeed_33 : decode cX6_takeSpeed 33 = .ok (.getfield 56, 3) := by decide +kernel
theorem dX6_takeSpeed_36 : decode cX6_takeSpeed 36 = .ok (.if_icmp .ge 13, 3) := by decide +kernel
theorem dX6_takeSpeed_39 : decode cX6_takeSpeed 39 = .ok (.aload_n 1, 1) := by decide +kernel
theorem dX6_takeSpeed_40 : decode cX6_takeSpeed 40 = .ok (.getfield 95, 3) := by decide +kernel
theorem dX6_takeSpeed_43 : decode cX6_takeSpeed 43 = .ok (.iload_n 2, 1) := by decide +kernel
theorem dX6_takeSpeed_44 : decode cX6_takeSpeed 44 = .ok (.aaload, 1) := by decide +kernel
theorem dX6_takeSpeed_45 : decode cX6_takeSpeed 45 = .ok (.iload_n 3, 1) := by decide +kernel
theorem dX6_takeSpeed_46 : decode cX6_takeSpeed 46 = .ok (.putfield 99, 3) := by decide +kernel
theorem dX6_takeSpeed_49 : decode cX6_takeSpeed 49 = .ok (.return_, 1) := by decide +kernel
theorem dX6_takeSpeed_6 : decode cX6_takeSpeed 6 = .ok (.iconst 1, 1) := by decide +kernel
theorem dX6_takeSpeed_7 : decode cX6_takeSpeed 7 = .ok (.isub, 1) := by decide +kernel
theorem dX6_takeSpeed_8 : decode cX6_takeSpeed 8 = .ok (.invokevirtual 79, 3) := by decide +kernel
set_option maxHeartbeats 4000000 in
set_option maxRecDepth 100000 in
theorem x_skipBlanksS (l : Launch) (X : EX) (h0 : Nat) (hb : Nat) (n : Nat) (bd : Nat → Nat) (vd : Nat → Int32) (fd : Nat → Int32) (hI_n : n ≤ 150) (hI_bd : InP bd) (sz : Nat) : Met l yX6_skipBlanks wsX6_skipBlanks ({ frames := 0, cells := 0, slots := 0, locals := 0 } : Room) (pE X [.ref h0] (rdV X h0 hb n bd vd fd) sz) (qV (fun (u : (Nat → Nat)) => InP u ∧ (True)) X (fun (u : (Nat → Nat)) => rdV X h0 hb n u vd fd) (rdV X h0 hb n bd vd fd) sz) 0 0 (va_A (rdV X h0 hb n bd vd fd) sz) := by
  refine mk_met (B := (va_A (rdV X h0 hb n bd vd fd) sz)) (A := (va_A (rdV X h0 hb n bd vd fd) sz)) (cc := cX6_skipBlanks) (maxL := 1) (ret := none) (by decide) rfl (Nat.le_of_ble_eq_true rfl) k_w k_a (fun p e s m below meth c S zr zlk znm zsz G ls hl => ?_)
  have S : CallFix p m c cX6_skipBlanks 1 s _ wsX6_skipBlanks RX6 := S
  have zx := S.1
  have zb := S.2.1
  have hl : lv_has ls 1 [(0, .ref h0)] := hl
  have hO_bd := hI_bd
  obtain ⟨hd0_bd, hd1_bd⟩ := hO_bd
  refine k_loop (P := ∀ (zm : Nat) (b0_0 : Nat → Nat) (H : Heap) (locs : List Loc) (ls : Array Slot), ((150 - b0_0 0) < zm) → InP b0_0 → wd X (va_A (rdV X h0 hb n bd vd fd) sz) (va_A (rdV X h0 hb n bd vd fd) sz) s (rdV X h0 hb n b0_0 vd fd) H locs → lv_has ls 1 [(0, .ref h0)] → W p l e _ s m _ below meth c H locs _ _ _ (F0 m 0 ls [])) (fun loop => loop ((150 - bd 0) + 1) bd _ _ _ (by omega)  hI_bd G hl) ?_
  intro zm
  induction zm with
  | zero => intro b0_0 H locs ls zz q_hI_b0_0 _ _; exact absurd zz (by omega)
  | succ zm ih0 =>
    intro b0_0 H locs ls zm_0 hI_b0_0 G hl
    have hO_b0_0 := hI_b0_0
    obtain ⟨hd0_b0_0, hd1_b0_0⟩ := hO_b0_0
    refine lv_aload_n zx zb dX6_skipBlanks_0 rfl (lv_at hl 0 rfl) ?_
    refine r_get (C := RX6) (T := TX6) (N := 7) (ci := 4) (v := .int (nI (b0_0 0))) S in_X6_skipBlanks_X6 G 0 rfl rfl 2 (by decide) lk_X6_skipBlanks_19 rfl dX6_skipBlanks_1 ?_
    refine lv_aload_n zx zb dX6_skipBlanks_4 rfl (lv_at hl 0 rfl) ?_
    refine r_get (C := RX6) (T := TX6) (N := 7) (ci := 4) (v := .int (nI n)) S in_X6_skipBlanks_X6 G 0 rfl rfl 1 (by decide) lk_X6_skipBlanks_15 rfl dX6_skipBlanks_5 ?_
    refine k_cutW (PP := fun Wx => ∀ (H : Heap) (locs : List Loc) (ls : Array Slot), wd X (va_A (rdV X h0 hb n bd vd fd) sz) (va_A (rdV X h0 hb n bd vd fd) sz) s (rdV X h0 hb n b0_0 vd fd) H locs → lv_has ls 1 [(0, .ref h0)] → Wx (F0 m 38 ls []) H locs) ?_ ?_
    · intro join_8
      refine lv_icmp_ge (tgt := 38) zx zb dX6_skipBlanks_8 (by decide) (fun c_1 => ?_) (fun c_1 => ?_)
      · have fc_1 := j_le (a := n) (b := (b0_0 0)) (by omega) (by omega) c_1
        exact join_8  _ _ _  G hl
      · have fc_1 := j_nle (a := n) (b := (b0_0 0)) (by omega) (by omega) c_1
        refine lv_aload_n zx zb dX6_skipBlanks_11 rfl (lv_at hl 0 rfl) ?_
        refine r_get (C := RX6) (T := TX6) (N := 7) (ci := 4) (v := .ref hb) S in_X6_skipBlanks_X6 G 0 rfl rfl 0 (by decide) lk_X6_skipBlanks_11 rfl dX6_skipBlanks_12 ?_
        refine lv_aload_n zx zb dX6_skipBlanks_15 rfl (lv_at hl 0 rfl) ?_
        refine r_get (C := RX6) (T := TX6) (N := 7) (ci := 4) (v := .int (nI (b0_0 0))) S in_X6_skipBlanks_X6 G 0 rfl rfl 2 (by decide) lk_X6_skipBlanks_19 rfl dX6_skipBlanks_16 ?_
        refine r_iald (v := (fd (b0_0 0))) S G 1 rfl (vp_in_nI (by omega) (by decide)) (congrArg fd (nI_clamp (by omega))) dX6_skipBlanks_19 ?_
        refine lv_bipush (v := 32) zx zb dX6_skipBlanks_20 (by decide) ?_
        refine lv_icmp_ne (tgt := 38) zx zb dX6_skipBlanks_22 (by decide) (fun c_3 => ?_) (fun c_3 => ?_)
        · exact join_8  _ _ _  G hl
        · refine lv_aload_n zx zb dX6_skipBlanks_25 rfl (lv_at hl 0 rfl) ?_
          refine lv_dup zx zb dX6_skipBlanks_26 rfl ?_
          refine r_get (C := RX6) (T := TX6) (N := 7) (ci := 4) (v := .int (nI (b0_0 0))) S in_X6_skipBlanks_X6 G 0 rfl rfl 2 (by decide) lk_X6_skipBlanks_19 rfl dX6_skipBlanks_27 ?_
          refine lv_iconst (v := 1) zx zb dX6_skipBlanks_30 (by decide) ?_
          refine r_iadd (v := (nI ((b0_0 0) + 1))) S (nI_add (b0_0 0) 1) dX6_skipBlanks_31 ?_
          refine r_put (C := RX6) (T := TX6) (N := 7) (ci := 4) (v := .int (nI ((b0_0 0) + 1))) S in_X6_skipBlanks_X6 tyX6_ok nmX6 G 0 rfl rfl 2 (by decide) lk_X6_skipBlanks_19 rfl (vp_nar_int _) rfl (Nat.le_of_ble_eq_true rfl) dX6_skipBlanks_32 (fun H locs G => ?_)
          obtain ⟨b_4, hI_b_4, ⟨hE_b_4_0, hE_b_4_1⟩, G⟩ : ∃ b_4 : Nat → Nat, InP b_4 ∧ (b_4 0 = ((b0_0 0) + 1) ∧ b_4 1 = b0_0 1) ∧ wd X (va_A (rdV X h0 hb n bd vd fd) sz) (va_A (rdV X h0 hb n bd vd fd) sz) s (rdV X h0 hb n b_4 vd fd) H locs := ⟨upN b0_0 0 ((b0_0 0) + 1), ⟨(by show ((b0_0 0) + 1) ≤ 150; omega), hd1_b0_0⟩, ⟨rfl, rfl⟩, G⟩
          have hO_b_4 := hI_b_4
          obtain ⟨hd0_b_4, hd1_b_4⟩ := hO_b_4
          refine lv_goto (tgt := 0) zx zb dX6_skipBlanks_35 (by decide) ?_
          exact ih0 b_4 _ _ _ (by omega)  hI_b_4 G hl
    · intro  H locs ls  G hl
      exact e_void S zr zlk G (b0_0) [0, 1] rfl rfl (Or.inr rfl) (⟨hI_b0_0, trivial⟩) dX6_skipBlanks_38
set_option maxHeartbeats 4000000 in
set_option maxRecDepth 100000 in
theorem x_takeLetters (l : Launch) (X : EX) (h0 : Nat) (hb : Nat) (n : Nat) (bd : Nat → Nat) (vd : Nat → Int32) (fd : Nat → Int32) (hI_n : n ≤ 150) (hI_bd : InP bd) (hP : bd 0 ≤ n) (sz : Nat) : Met l yX6_takeLetters wsX6_takeLetters ({ frames := 1, cells := 0, slots := 0, locals := 20 } : Room) (pE X [.ref h0] (rdV X h0 hb n bd vd fd) sz) (qV (fun (u : (Nat → Nat) × (Nat → Int32)) => InP u.1 ∧ (u.1 0 = scanP lqL fd n (bd 0) ∧ u.1 1 = bd 1 ∧ u.2 0 = 1 ∧ u.2 2 = vd 2)) X (fun (u : (Nat → Nat) × (Nat → Int32)) => rdV X h0 hb n u.1 u.2 fd) (rdV X h0 hb n bd vd fd) sz) 0 0 (va_A (rdV X h0 hb n bd vd fd) sz) := by
  refine mk_met (B := (va_A (rdV X h0 hb n bd vd fd) sz)) (A := (va_A (rdV X h0 hb n bd vd fd) sz)) (cc := cX6_takeLetters) (maxL := 1) (ret := none) (by decide) rfl (Nat.le_of_ble_eq_true rfl) k_w k_a (fun p e s m below meth c S zr zlk znm zsz G ls hl => ?_)
  have S : CallFix p m c cX6_takeLetters 1 s _ wsX6_takeLetters RX6 := S
  have zx := S.1
  have zb := S.2.1
  have hl : lv_has ls 1 [(0, .ref h0)] := hl
  have hO_bd := hI_bd
  obtain ⟨hd0_bd, hd1_bd⟩ := hO_bd
  refine k_loop (P := ∀ (zm : Nat) (b0_0 : Nat → Nat) (H : Heap) (locs : List Loc) (ls : Array Slot), ((150 - b0_0 0) < zm) → ((bd 0 ≤ b0_0 0 ∧ b0_0 0 ≤ n ∧ b0_0 1 = bd 1) ∧ scanP lqL fd n (b0_0 0) = scanP lqL fd n (bd 0)) → InP b0_0 → wd X (va_A (rdV X h0 hb n bd vd fd) sz) (va_A (rdV X h0 hb n bd vd fd) sz) s (rdV X h0 hb n b0_0 vd fd) H locs → lv_has ls 1 [(0, .ref h0)] → W p l e _ s m _ below meth c H locs _ _ _ (F0 m 0 ls [])) (fun loop => loop ((150 - bd 0) + 1) bd _ _ _ (by omega) ⟨by omega, rfl⟩ hI_bd G hl) ?_
  intro zm
  induction zm with
  | zero => intro b0_0 H locs ls zz q_x0 q_hI_b0_0 _ _; exact absurd zz (by omega)
  | succ zm ih0 =>
    intro b0_0 H locs ls zm_0 hx0_0 hI_b0_0 G hl
    have hO_b0_0 := hI_b0_0
    obtain ⟨hd0_b0_0, hd1_b0_0⟩ := hO_b0_0
    refine lv_aload_n zx zb dX6_takeLetters_0 rfl (lv_at hl 0 rfl) ?_
    refine r_get (C := RX6) (T := TX6) (N := 7) (ci := 4) (v := .int (nI (b0_0 0))) S in_X6_takeLetters_X6 G 0 rfl rfl 2 (by decide) lk_X6_takeLetters_19 rfl dX6_takeLetters_1 ?_
    refine lv_aload_n zx zb dX6_takeLetters_4 rfl (lv_at hl 0 rfl) ?_
    refine r_get (C := RX6) (T := TX6) (N := 7) (ci := 4) (v := .int (nI n)) S in_X6_takeLetters_X6 G 0 rfl rfl 1 (by decide) lk_X6_takeLetters_15 rfl dX6_takeLetters_5 ?_
    refine lv_icmp_ge (tgt := 39) zx zb dX6_takeLetters_8 (by decide) (fun c_1 => ?_) (fun c_1 => ?_)
    · have fc_1 := j_le (a := n) (b := (b0_0 0)) (by omega) (by omega) c_1
      refine lv_aload_n zx zb dX6_takeLetters_39 rfl (lv_at hl 0 rfl) ?_
      refine lv_iconst (v := 1) zx zb dX6_takeLetters_40 (by decide) ?_
      refine r_put (C := RX6) (T := TX6) (N := 7) (ci := 4) (v := .int 1) S in_X6_takeLetters_X6 tyX6_ok nmX6 G 0 rfl rfl 4 (by decide) lk_X6_takeLetters_25 rfl (vp_nar_int _) rfl (Nat.le_of_ble_eq_true rfl) dX6_takeLetters_41 (fun H locs G => ?_)
      obtain ⟨v_2, ⟨hE_v_2_0, hE_v_2_1, hE_v_2_2⟩, G⟩ : ∃ v_2 : Nat → Int32, (v_2 0 = 1 ∧ v_2 1 = vd 1 ∧ v_2 2 = vd 2) ∧ wd X (va_A (rdV X h0 hb n bd vd fd) sz) (va_A (rdV X h0 hb n bd vd fd) sz) s (rdV X h0 hb n b0_0 v_2 fd) H locs := ⟨upd vd 0 1, ⟨rfl, rfl, rfl⟩, G⟩
      exact e_void S zr zlk G (b0_0, v_2) [0, 1] rfl rfl (Or.inr rfl) (⟨hI_b0_0, ⟨by rw [← hx0_0.2]; exact (scan_e (fun h => absurd h.1 (by first | omega | (dsimp only; omega)))).symm, by first | omega | (dsimp only; omega), hE_v_2_0, hE_v_2_2⟩⟩) dX6_takeLetters_44
    · have fc_1 := j_nle (a := n) (b := (b0_0 0)) (by omega) (by omega) c_1
      refine lv_aload_n zx zb dX6_takeLetters_11 rfl (lv_at hl 0 rfl) ?_
      refine r_get (C := RX6) (T := TX6) (N := 7) (ci := 4) (v := .ref hb) S in_X6_takeLetters_X6 G 0 rfl rfl 0 (by decide) lk_X6_takeLetters_11 rfl dX6_takeLetters_12 ?_
      refine lv_aload_n zx zb dX6_takeLetters_15 rfl (lv_at hl 0 rfl) ?_
      refine r_get (C := RX6) (T := TX6) (N := 7) (ci := 4) (v := .int (nI (b0_0 0))) S in_X6_takeLetters_X6 G 0 rfl rfl 2 (by decide) lk_X6_takeLetters_19 rfl dX6_takeLetters_16 ?_
      refine r_iald (v := (fd (b0_0 0))) S G 1 rfl (vp_in_nI (by omega) (by decide)) (congrArg fd (nI_clamp (by omega))) dX6_takeLetters_19 ?_
      refine o_ri (cells' := 0) (slots' := 0) G rfl rfl (n_S (As := [.int (fd (b0_0 0))]) (rest := []) S G (x_isLetter l X (fd (b0_0 0)) H.size) gX6_takeLetters_X6_isLetter rfl rfl rfl hdS_X6_isLetter ⟨Nat.le_of_ble_eq_true rfl, Nat.le_of_ble_eq_true rfl⟩ [] rfl rfl rfl hl.1 (Nat.le_of_ble_eq_true rfl) dX6_takeLetters_20 ⟨Nat.le_of_ble_eq_true rfl, Nat.le_of_ble_eq_true rfl⟩) (fun r_4 u_4 H locs hp_4 G => ?_)
      have G : wd X (va_A (rdV X h0 hb n bd vd fd) sz) (va_A (rdV X h0 hb n bd vd fd) sz) s (rdV X h0 hb n b0_0 vd fd) H locs := G
      rcases hp_4 with ⟨rfl, hl_4⟩ | ⟨rfl, hl_4⟩
      · refine lv_if_eq (tgt := 39) zx zb dX6_takeLetters_23 (by decide) (fun c_5 => absurd c_5 (by decide)) (fun c_5 => ?_)
        refine lv_aload_n zx zb dX6_takeLetters_26 rfl (lv_at hl 0 rfl) ?_
        refine lv_dup zx zb dX6_takeLetters_27 rfl ?_
        refine r_get (C := RX6) (T := TX6) (N := 7) (ci := 4) (v := .int (nI (b0_0 0))) S in_X6_takeLetters_X6 G 0 rfl rfl 2 (by decide) lk_X6_takeLetters_19 rfl dX6_takeLetters_28 ?_
        refine lv_iconst (v := 1) zx zb dX6_takeLetters_31 (by decide) ?_
        refine r_iadd (v := (nI ((b0_0 0) + 1))) S (nI_add (b0_0 0) 1) dX6_takeLetters_32 ?_
        refine r_put (C := RX6) (T := TX6) (N := 7) (ci := 4) (v := .int (nI ((b0_0 0) + 1))) S in_X6_takeLetters_X6 tyX6_ok nmX6 G 0 rfl rfl 2 (by decide) lk_X6_takeLetters_19 rfl (vp_nar_int _) rfl (Nat.le_of_ble_eq_true rfl) dX6_takeLetters_33 (fun H locs G => ?_)
        obtain ⟨b_6, hI_b_6, ⟨hE_b_6_0, hE_b_6_1⟩, G⟩ : ∃ b_6 : Nat → Nat, InP b_6 ∧ (b_6 0 = ((b0_0 0) + 1) ∧ b_6 1 = b0_0 1) ∧ wd X (va_A (rdV X h0 hb n bd vd fd) sz) (va_A (rdV X h0 hb n bd vd fd) sz) s (rdV X h0 hb n b_6 vd fd) H locs := ⟨upN b0_0 0 ((b0_0 0) + 1), ⟨(by show ((b0_0 0) + 1) ≤ 150; omega), hd1_b0_0⟩, ⟨rfl, rfl⟩, G⟩
        have hO_b_6 := hI_b_6
        obtain ⟨hd0_b_6, hd1_b_6⟩ := hO_b_6
        refine lv_goto (tgt := 0) zx zb dX6_takeLetters_36 (by decide) ?_
        exact ih0 b_6 _ _ _ (by omega) ⟨by omega, by rw [hE_b_6_0, ← hx0_0.2]; exact (scan_s (by omega) hl_4).symm⟩ hI_b_6 G hl
      · refine lv_if_eq (tgt := 39) zx zb dX6_takeLetters_23 (by decide) (fun c_7 => ?_) (fun c_7 => absurd (by decide) c_7)
        refine lv_aload_n zx zb dX6_takeLetters_39 rfl (lv_at hl 0 rfl) ?_
        refine lv_iconst (v := 1) zx zb dX6_takeLetters_40 (by decide) ?_
        refine r_put (C := RX6) (T := TX6) (N := 7) (ci := 4) (v := .int 1) S in_X6_takeLetters_X6 tyX6_ok nmX6 G 0 rfl rfl 4 (by decide) lk_X6_takeLetters_25 rfl (vp_nar_int _) rfl (Nat.le_of_ble_eq_true rfl) dX6_takeLetters_41 (fun H locs G => ?_)
        obtain ⟨v_8, ⟨hE_v_8_0, hE_v_8_1, hE_v_8_2⟩, G⟩ : ∃ v_8 : Nat → Int32, (v_8 0 = 1 ∧ v_8 1 = vd 1 ∧ v_8 2 = vd 2) ∧ wd X (va_A (rdV X h0 hb n bd vd fd) sz) (va_A (rdV X h0 hb n bd vd fd) sz) s (rdV X h0 hb n b0_0 v_8 fd) H locs := ⟨upd vd 0 1, ⟨rfl, rfl, rfl⟩, G⟩
        exact e_void S zr zlk G (b0_0, v_8) [0, 1] rfl rfl (Or.inr rfl) (⟨hI_b0_0, ⟨by rw [← hx0_0.2]; exact (scan_e (fun h => hl_4 h.2)).symm, by first | omega | (dsimp only; omega), hE_v_8_0, hE_v_8_2⟩⟩) dX6_takeLetters_44
set_option maxHeartbeats 4000000 in
set_option maxRecDepth 100000 in
theorem x_takeFigures (l : Launch) (X : EX) (h0 : Nat) (hb : Nat) (n : Nat) (bd : Nat → Nat) (vd : Nat → Int32) (fd : Nat → Int32) (hI_n : n ≤ 150) (hI_bd : InP bd) (hP : bd 0 ≤ n) (hQ : bd 1 = bd 0) (sz : Nat) : Met l yX6_takeFigures wsX6_takeFigures ({ frames := 1, cells := 0, slots := 0, locals := 20 } : Room) (pE X [.ref h0] (rdV X h0 hb n bd vd fd) sz) (qV (fun (u : (Nat → Nat) × (Nat → Int32)) => InP u.1 ∧ (u.1 0 = scanP lqF fd n (bd 0) ∧ u.1 1 = bd 1 ∧ u.2 0 = (if scanP lqF fd n (bd 0) - bd 0 ≤ 2 then 2 else 4) ∧ u.2 1 = vF fd (bd 0) (scanP lqF fd n (bd 0) - bd 0) ∧ u.2 2 = vd 2)) X (fun (u : (Nat → Nat) × (Nat → Int32)) => rdV X h0 hb n u.1 u.2 fd) (rdV X h0 hb n bd vd fd) sz) 0 0 (va_A (rdV X h0 hb n bd vd fd) sz) := by
  refine mk_met (B := (va_A (rdV X h0 hb n bd vd fd) sz)) (A := (va_A (rdV X h0 hb n bd vd fd) sz)) (cc := cX6_takeFigures) (maxL := 1) (ret := none) (by decide) rfl (Nat.le_of_ble_eq_true rfl) k_w k_a (fun p e s m below meth c S zr zlk znm zsz G ls hl => ?_)
  have S : CallFix p m c cX6_takeFigures 1 s _ wsX6_takeFigures RX6 := S
  have zx := S.1
  have zb := S.2.1
  have hl : lv_has ls 1 [(0, .ref h0)] := hl
  have hO_bd := hI_bd
  obtain ⟨hd0_bd, hd1_bd⟩ := hO_bd
  refine lv_aload_n zx zb dX6_takeFigures_0 rfl (lv_at hl 0 rfl) ?_
  refine lv_iconst (v := 0) zx zb dX6_takeFigures_1 (by decide) ?_
  refine r_put (C := RX6) (T := TX6) (N := 7) (ci := 4) (v := .int 0) S in_X6_takeFigures_X6 tyX6_ok nmX6 G 0 rfl rfl 5 (by decide) lk_X6_takeFigures_28 rfl (vp_nar_int _) rfl (Nat.le_of_ble_eq_true rfl) dX6_takeFigures_2 (fun H locs G => ?_)
  obtain ⟨v_1, ⟨hE_v_1_1, hE_v_1_0, hE_v_1_2⟩, G⟩ : ∃ v_1 : Nat → Int32, (v_1 1 = 0 ∧ v_1 0 = vd 0 ∧ v_1 2 = vd 2) ∧ wd X (va_A (rdV X h0 hb n bd vd fd) sz) (va_A (rdV X h0 hb n bd vd fd) sz) s (rdV X h0 hb n bd v_1 fd) H locs := ⟨upd vd 1 0, ⟨rfl, rfl, rfl⟩, G⟩
  refine k_loop (P := ∀ (zm : Nat) (b5_0 : Nat → Nat) (v5_0 : Nat → Int32) (H : Heap) (locs : List Loc) (ls : Array Slot), ((150 - b5_0 0) < zm) → ((bd 0 ≤ b5_0 0 ∧ b5_0 0 ≤ n ∧ b5_0 1 = bd 1) ∧ scanP lqF fd n (b5_0 0) = scanP lqF fd n (bd 0)) → (v5_0 1 = vF fd (bd 0) (b5_0 0 - bd 0) ∧ v5_0 2 = vd 2) → InP b5_0 → wd X (va_A (rdV X h0 hb n bd vd fd) sz) (va_A (rdV X h0 hb n bd vd fd) sz) s (rdV X h0 hb n b5_0 v5_0 fd) H locs → lv_has ls 1 [(0, .ref h0)] → W p l e _ s m _ below meth c H locs _ _ _ (F0 m 5 ls [])) (fun loop => loop ((150 - bd 0) + 1) bd v_1 _ _ _ (by omega) ⟨by omega, rfl⟩ ⟨by rw [Nat.sub_self]; exact hE_v_1_1, hE_v_1_2⟩ hI_bd G hl) ?_
  intro zm
  induction zm with
  | zero => intro b5_0 v5_0 H locs ls zz q_x0 q_x1 q_hI_b5_0 _ _; exact absurd zz (by omega)
  | succ zm ih5 =>
    intro b5_0 v5_0 H locs ls zm_5 hx5_0 hx5_1 hI_b5_0 G hl
    have hO_b5_0 := hI_b5_0
    obtain ⟨hd0_b5_0, hd1_b5_0⟩ := hO_b5_0
    refine lv_aload_n zx zb dX6_takeFigures_5 rfl (lv_at hl 0 rfl) ?_
    refine r_get (C := RX6) (T := TX6) (N := 7) (ci := 4) (v := .int (nI (b5_0 0))) S in_X6_takeFigures_X6 G 0 rfl rfl 2 (by decide) lk_X6_takeFigures_19 rfl dX6_takeFigures_6 ?_
    refine lv_aload_n zx zb dX6_takeFigures_9 rfl (lv_at hl 0 rfl) ?_
    refine r_get (C := RX6) (T := TX6) (N := 7) (ci := 4) (v := .int (nI n)) S in_X6_takeFigures_X6 G 0 rfl rfl 1 (by decide) lk_X6_takeFigures_15 rfl dX6_takeFigures_10 ?_
    refine lv_icmp_ge (tgt := 68) zx zb dX6_takeFigures_13 (by decide) (fun c_2 => ?_) (fun c_2 => ?_)
    · have fc_2 := j_le (a := n) (b := (b5_0 0)) (by omega) (by omega) c_2
      refine lv_aload_n zx zb dX6_takeFigures_68 rfl (lv_at hl 0 rfl) ?_
      refine lv_aload_n zx zb dX6_takeFigures_69 rfl (lv_at hl 0 rfl) ?_
      refine r_get (C := RX6) (T := TX6) (N := 7) (ci := 4) (v := .int (nI (b5_0 0))) S in_X6_takeFigures_X6 G 0 rfl rfl 2 (by decide) lk_X6_takeFigures_19 rfl dX6_takeFigures_70 ?_
      refine lv_aload_n zx zb dX6_takeFigures_73 rfl (lv_at hl 0 rfl) ?_
      refine r_get (C := RX6) (T := TX6) (N := 7) (ci := 4) (v := .int (nI (b5_0 1))) S in_X6_takeFigures_X6 G 0 rfl rfl 3 (by decide) lk_X6_takeFigures_22 rfl dX6_takeFigures_74 ?_
      refine r_isub (v := (nI ((b5_0 0) - (b5_0 1)))) S (pk_sub (a := (b5_0 0)) (b := (b5_0 1)) (by omega)) dX6_takeFigures_77 ?_
      refine lv_iconst (v := 2) zx zb dX6_takeFigures_78 (by decide) ?_
      refine lv_icmp_gt (tgt := 86) zx zb dX6_takeFigures_79 (by decide) (fun c_3 => ?_) (fun c_3 => ?_)
      · have fc_3 := j_lt (a := 2) (b := ((b5_0 0) - (b5_0 1))) (by omega) (by omega) c_3
        refine lv_iconst (v := 4) zx zb dX6_takeFigures_86 (by decide) ?_
        refine r_put (C := RX6) (T := TX6) (N := 7) (ci := 4) (v := .int 4) S in_X6_takeFigures_X6 tyX6_ok nmX6 G 0 rfl rfl 4 (by decide) lk_X6_takeFigures_25 rfl (vp_nar_int _) rfl (Nat.le_of_ble_eq_true rfl) dX6_takeFigures_87 (fun H locs G => ?_)
        obtain ⟨v_4, ⟨hE_v_4_0, hE_v_4_1, hE_v_4_2⟩, G⟩ : ∃ v_4 : Nat → Int32, (v_4 0 = 4 ∧ v_4 1 = v5_0 1 ∧ v_4 2 = v5_0 2) ∧ wd X (va_A (rdV X h0 hb n bd vd fd) sz) (va_A (rdV X h0 hb n bd vd fd) sz) s (rdV X h0 hb n b5_0 v_4 fd) H locs := ⟨upd v5_0 0 4, ⟨rfl, rfl, rfl⟩, G⟩
        exact e_void S zr zlk G (b5_0, v_4) [0, 1] rfl rfl (Or.inr rfl) (⟨hI_b5_0, ⟨by rw [← hx5_0.2]; exact (scan_e (fun h => absurd h.1 (by first | omega | (dsimp only; omega)))).symm, by first | omega | (dsimp only; omega), hE_v_4_0.trans (by rw [← hx5_0.2, scan_e (fun h => absurd h.1 (by first | omega | (dsimp only; omega)))]; exact (if_neg (by first | omega | (dsimp only; omega))).symm), by rw [← hx5_0.2, scan_e (fun h => absurd h.1 (by first | omega | (dsimp only; omega)))]; exact hE_v_4_1.trans hx5_1.1, hE_v_4_2.trans hx5_1.2⟩⟩) dX6_takeFigures_90
      · have fc_3 := j_nlt (a := 2) (b := ((b5_0 0) - (b5_0 1))) (by omega) (by omega) c_3
        refine lv_iconst (v := 2) zx zb dX6_takeFigures_82 (by decide) ?_
        refine lv_goto (tgt := 87) zx zb dX6_takeFigures_83 (by decide) ?_
        refine r_put (C := RX6) (T := TX6) (N := 7) (ci := 4) (v := .int 2) S in_X6_takeFigures_X6 tyX6_ok nmX6 G 0 rfl rfl 4 (by decide) lk_X6_takeFigures_25 rfl (vp_nar_int _) rfl (Nat.le_of_ble_eq_true rfl) dX6_takeFigures_87 (fun H locs G => ?_)
        obtain ⟨v_5, ⟨hE_v_5_0, hE_v_5_1, hE_v_5_2⟩, G⟩ : ∃ v_5 : Nat → Int32, (v_5 0 = 2 ∧ v_5 1 = v5_0 1 ∧ v_5 2 = v5_0 2) ∧ wd X (va_A (rdV X h0 hb n bd vd fd) sz) (va_A (rdV X h0 hb n bd vd fd) sz) s (rdV X h0 hb n b5_0 v_5 fd) H locs := ⟨upd v5_0 0 2, ⟨rfl, rfl, rfl⟩, G⟩
        exact e_void S zr zlk G (b5_0, v_5) [0, 1] rfl rfl (Or.inr rfl) (⟨hI_b5_0, ⟨by rw [← hx5_0.2]; exact (scan_e (fun h => absurd h.1 (by first | omega | (dsimp only; omega)))).symm, by first | omega | (dsimp only; omega), hE_v_5_0.trans (by rw [← hx5_0.2, scan_e (fun h => absurd h.1 (by first | omega | (dsimp only; omega)))]; exact (if_pos (by first | omega | (dsimp only; omega))).symm), by rw [← hx5_0.2, scan_e (fun h => absurd h.1 (by first | omega | (dsimp only; omega)))]; exact hE_v_5_1.trans hx5_1.1, hE_v_5_2.trans hx5_1.2⟩⟩) dX6_takeFigures_90
    · have fc_2 := j_nle (a := n) (b := (b5_0 0)) (by omega) (by omega) c_2
      refine lv_aload_n zx zb dX6_takeFigures_16 rfl (lv_at hl 0 rfl) ?_
      refine r_get (C := RX6) (T := TX6) (N := 7) (ci := 4) (v := .ref hb) S in_X6_takeFigures_X6 G 0 rfl rfl 0 (by decide) lk_X6_takeFigures_11 rfl dX6_takeFigures_17 ?_
      refine lv_aload_n zx zb dX6_takeFigures_20 rfl (lv_at hl 0 rfl) ?_
      refine r_get (C := RX6) (T := TX6) (N := 7) (ci := 4) (v := .int (nI (b5_0 0))) S in_X6_takeFigures_X6 G 0 rfl rfl 2 (by decide) lk_X6_takeFigures_19 rfl dX6_takeFigures_21 ?_
      refine r_iald (v := (fd (b5_0 0))) S G 1 rfl (vp_in_nI (by omega) (by decide)) (congrArg fd (nI_clamp (by omega))) dX6_takeFigures_24 ?_
      refine o_ri (cells' := 0) (slots' := 0) G rfl rfl (n_S (As := [.int (fd (b5_0 0))]) (rest := []) S G (x_isFigure l X (fd (b5_0 0)) H.size) gX6_takeFigures_X6_isFigure rfl rfl rfl hdS_X6_isFigure ⟨Nat.le_of_ble_eq_true rfl, Nat.le_of_ble_eq_true rfl⟩ [] rfl rfl rfl hl.1 (Nat.le_of_ble_eq_true rfl) dX6_takeFigures_25 ⟨Nat.le_of_ble_eq_true rfl, Nat.le_of_ble_eq_true rfl⟩) (fun r_7 u_7 H locs hp_7 G => ?_)
      have G : wd X (va_A (rdV X h0 hb n bd vd fd) sz) (va_A (rdV X h0 hb n bd vd fd) sz) s (rdV X h0 hb n b5_0 v5_0 fd) H locs := G
      rcases hp_7 with ⟨rfl, hl_7⟩ | ⟨rfl, hl_7⟩
      · refine lv_if_eq (tgt := 68) zx zb dX6_takeFigures_28 (by decide) (fun c_8 => absurd c_8 (by decide)) (fun c_8 => ?_)
        refine lv_aload_n zx zb dX6_takeFigures_31 rfl (lv_at hl 0 rfl) ?_
        refine lv_bipush (v := 10) zx zb dX6_takeFigures_32 (by decide) ?_
        refine lv_aload_n zx zb dX6_takeFigures_34 rfl (lv_at hl 0 rfl) ?_
        refine r_get (C := RX6) (T := TX6) (N := 7) (ci := 4) (v := .int (v5_0 1)) S in_X6_takeFigures_X6 G 0 rfl rfl 5 (by decide) lk_X6_takeFigures_28 rfl dX6_takeFigures_35 ?_
        refine r_imul (v := (10 * (v5_0 1))) S rfl dX6_takeFigures_38 ?_
        refine lv_aload_n zx zb dX6_takeFigures_39 rfl (lv_at hl 0 rfl) ?_
        refine r_get (C := RX6) (T := TX6) (N := 7) (ci := 4) (v := .ref hb) S in_X6_takeFigures_X6 G 0 rfl rfl 0 (by decide) lk_X6_takeFigures_11 rfl dX6_takeFigures_40 ?_
        refine lv_aload_n zx zb dX6_takeFigures_43 rfl (lv_at hl 0 rfl) ?_
        refine r_get (C := RX6) (T := TX6) (N := 7) (ci := 4) (v := .int (nI (b5_0 0))) S in_X6_takeFigures_X6 G 0 rfl rfl 2 (by decide) lk_X6_takeFigures_19 rfl dX6_takeFigures_44 ?_
        refine r_iald (v := (fd (b5_0 0))) S G 1 rfl (vp_in_nI (by omega) (by decide)) (congrArg fd (nI_clamp (by omega))) dX6_takeFigures_47 ?_
        refine r_iadd (v := ((10 * (v5_0 1)) + (fd (b5_0 0)))) S rfl dX6_takeFigures_48 ?_
        refine lv_bipush (v := 48) zx zb dX6_takeFigures_49 (by decide) ?_
        refine r_isub (v := (((10 * (v5_0 1)) + (fd (b5_0 0))) - 48)) S rfl dX6_takeFigures_51 ?_
        refine r_put (C := RX6) (T := TX6) (N := 7) (ci := 4) (v := .int (((10 * (v5_0 1)) + (fd (b5_0 0))) - 48)) S in_X6_takeFigures_X6 tyX6_ok nmX6 G 0 rfl rfl 5 (by decide) lk_X6_takeFigures_28 rfl (vp_nar_int _) rfl (Nat.le_of_ble_eq_true rfl) dX6_takeFigures_52 (fun H locs G => ?_)
        obtain ⟨v_10, ⟨hE_v_10_1, hE_v_10_0, hE_v_10_2⟩, G⟩ : ∃ v_10 : Nat → Int32, (v_10 1 = (((10 * (v5_0 1)) + (fd (b5_0 0))) - 48) ∧ v_10 0 = v5_0 0 ∧ v_10 2 = v5_0 2) ∧ wd X (va_A (rdV X h0 hb n bd vd fd) sz) (va_A (rdV X h0 hb n bd vd fd) sz) s (rdV X h0 hb n b5_0 v_10 fd) H locs := ⟨upd v5_0 1 (((10 * (v5_0 1)) + (fd (b5_0 0))) - 48), ⟨rfl, rfl, rfl⟩, G⟩
        refine lv_aload_n zx zb dX6_takeFigures_55 rfl (lv_at hl 0 rfl) ?_
        refine lv_dup zx zb dX6_takeFigures_56 rfl ?_
        refine r_get (C := RX6) (T := TX6) (N := 7) (ci := 4) (v := .int (nI (b5_0 0))) S in_X6_takeFigures_X6 G 0 rfl rfl 2 (by decide) lk_X6_takeFigures_19 rfl dX6_takeFigures_57 ?_
        refine lv_iconst (v := 1) zx zb dX6_takeFigures_60 (by decide) ?_
        refine r_iadd (v := (nI ((b5_0 0) + 1))) S (nI_add (b5_0 0) 1) dX6_takeFigures_61 ?_
        refine r_put (C := RX6) (T := TX6) (N := 7) (ci := 4) (v := .int (nI ((b5_0 0) + 1))) S in_X6_takeFigures_X6 tyX6_ok nmX6 G 0 rfl rfl 2 (by decide) lk_X6_takeFigures_19 rfl (vp_nar_int _) rfl (Nat.le_of_ble_eq_true rfl) dX6_takeFigures_62 (fun H locs G => ?_)
        obtain ⟨b_11, hI_b_11, ⟨hE_b_11_0, hE_b_11_1⟩, G⟩ : ∃ b_11 : Nat → Nat, InP b_11 ∧ (b_11 0 = ((b5_0 0) + 1) ∧ b_11 1 = b5_0 1) ∧ wd X (va_A (rdV X h0 hb n bd vd fd) sz) (va_A (rdV X h0 hb n bd vd fd) sz) s (rdV X h0 hb n b_11 v_10 fd) H locs := ⟨upN b5_0 0 ((b5_0 0) + 1), ⟨(by show ((b5_0 0) + 1) ≤ 150; omega), hd1_b5_0⟩, ⟨rfl, rfl⟩, G⟩
        have hO_b_11 := hI_b_11
        obtain ⟨hd0_b_11, hd1_b_11⟩ := hO_b_11
        refine lv_goto (tgt := 5) zx zb dX6_takeFigures_65 (by decide) ?_
        exact ih5 b_11 v_10 _ _ _ (by omega) ⟨by omega, by rw [hE_b_11_0, ← hx5_0.2]; exact (scan_s (by omega) hl_7).symm⟩ ⟨by rw [hE_b_11_0, show b5_0 0 + 1 - bd 0 = (b5_0 0 - bd 0) + 1 from by omega, vF, ← hx5_1.1, show bd 0 + (b5_0 0 - bd 0) = b5_0 0 from by omega]; exact hE_v_10_1, hE_v_10_2.trans hx5_1.2⟩ hI_b_11 G hl
      · refine lv_if_eq (tgt := 68) zx zb dX6_takeFigures_28 (by decide) (fun c_12 => ?_) (fun c_12 => absurd (by decide) c_12)
        refine lv_aload_n zx zb dX6_takeFigures_68 rfl (lv_at hl 0 rfl) ?_
        refine lv_aload_n zx zb dX6_takeFigures_69 rfl (lv_at hl 0 rfl) ?_
        refine r_get (C := RX6) (T := TX6) (N := 7) (ci := 4) (v := .int (nI (b5_0 0))) S in_X6_takeFigures_X6 G 0 rfl rfl 2 (by decide) lk_X6_takeFigures_19 rfl dX6_takeFigures_70 ?_
        refine lv_aload_n zx zb dX6_takeFigures_73 rfl (lv_at hl 0 rfl) ?_
        refine r_get (C := RX6) (T := TX6) (N := 7) (ci := 4) (v := .int (nI (b5_0 1))) S in_X6_takeFigures_X6 G 0 rfl rfl 3 (by decide) lk_X6_takeFigures_22 rfl dX6_takeFigures_74 ?_
        refine r_isub (v := (nI ((b5_0 0) - (b5_0 1)))) S (pk_sub (a := (b5_0 0)) (b := (b5_0 1)) (by omega)) dX6_takeFigures_77 ?_
        refine lv_iconst (v := 2) zx zb dX6_takeFigures_78 (by decide) ?_
        refine lv_icmp_gt (tgt := 86) zx zb dX6_takeFigures_79 (by decide) (fun c_13 => ?_) (fun c_13 => ?_)
        · have fc_13 := j_lt (a := 2) (b := ((b5_0 0) - (b5_0 1))) (by omega) (by omega) c_13
          refine lv_iconst (v := 4) zx zb dX6_takeFigures_86 (by decide) ?_
          refine r_put (C := RX6) (T := TX6) (N := 7) (ci := 4) (v := .int 4) S in_X6_takeFigures_X6 tyX6_ok nmX6 G 0 rfl rfl 4 (by decide) lk_X6_takeFigures_25 rfl (vp_nar_int _) rfl (Nat.le_of_ble_eq_true rfl) dX6_takeFigures_87 (fun H locs G => ?_)
          obtain ⟨v_14, ⟨hE_v_14_0, hE_v_14_1, hE_v_14_2⟩, G⟩ : ∃ v_14 : Nat → Int32, (v_14 0 = 4 ∧ v_14 1 = v5_0 1 ∧ v_14 2 = v5_0 2) ∧ wd X (va_A (rdV X h0 hb n bd vd fd) sz) (va_A (rdV X h0 hb n bd vd fd) sz) s (rdV X h0 hb n b5_0 v_14 fd) H locs := ⟨upd v5_0 0 4, ⟨rfl, rfl, rfl⟩, G⟩
          exact e_void S zr zlk G (b5_0, v_14) [0, 1] rfl rfl (Or.inr rfl) (⟨hI_b5_0, ⟨by rw [← hx5_0.2]; exact (scan_e (fun h => hl_7 h.2)).symm, by first | omega | (dsimp only; omega), hE_v_14_0.trans (by rw [← hx5_0.2, scan_e (fun h => hl_7 h.2)]; exact (if_neg (by first | omega | (dsimp only; omega))).symm), by rw [← hx5_0.2, scan_e (fun h => hl_7 h.2)]; exact hE_v_14_1.trans hx5_1.1, hE_v_14_2.trans hx5_1.2⟩⟩) dX6_takeFigures_90
        · have fc_13 := j_nlt (a := 2) (b := ((b5_0 0) - (b5_0 1))) (by omega) (by omega) c_13
          refine lv_iconst (v := 2) zx zb dX6_takeFigures_82 (by decide) ?_
          refine lv_goto (tgt := 87) zx zb dX6_takeFigures_83 (by decide) ?_
          refine r_put (C := RX6) (T := TX6) (N := 7) (ci := 4) (v := .int 2) S in_X6_takeFigures_X6 tyX6_ok nmX6 G 0 rfl rfl 4 (by decide) lk_X6_takeFigures_25 rfl (vp_nar_int _) rfl (Nat.le_of_ble_eq_true rfl) dX6_takeFigures_87 (fun H locs G => ?_)
          obtain ⟨v_15, ⟨hE_v_15_0, hE_v_15_1, hE_v_15_2⟩, G⟩ : ∃ v_15 : Nat → Int32, (v_15 0 = 2 ∧ v_15 1 = v5_0 1 ∧ v_15 2 = v5_0 2) ∧ wd X (va_A (rdV X h0 hb n bd vd fd) sz) (va_A (rdV X h0 hb n bd vd fd) sz) s (rdV X h0 hb n b5_0 v_15 fd) H locs := ⟨upd v5_0 0 2, ⟨rfl, rfl, rfl⟩, G⟩
          exact e_void S zr zlk G (b5_0, v_15) [0, 1] rfl rfl (Or.inr rfl) (⟨hI_b5_0, ⟨by rw [← hx5_0.2]; exact (scan_e (fun h => hl_7 h.2)).symm, by first | omega | (dsimp only; omega), hE_v_15_0.trans (by rw [← hx5_0.2, scan_e (fun h => hl_7 h.2)]; exact (if_pos (by first | omega | (dsimp only; omega))).symm), by rw [← hx5_0.2, scan_e (fun h => hl_7 h.2)]; exact hE_v_15_1.trans hx5_1.1, hE_v_15_2.trans hx5_1.2⟩⟩) dX6_takeFigures_90
set_option maxHeartbeats 4000000 in
set_option maxRecDepth 100000 in
theorem x_nextToken (l : Launch) (X : EX) (h0 : Nat) (hb : Nat) (n : Nat) (bd : Nat → Nat) (vd : Nat → Int32) (fd : Nat → Int32) (hI_n : n ≤ 150) (hI_bd : InP bd) (hP : bd 0 ≤ n) (sz : Nat) : Met l yX6_nextToken wsX6_nextToken ({ frames := 2, cells := 0, slots := 0, locals := 40 } : Room) (pE X [.ref h0] (rdV X h0 hb n bd vd fd) sz) (qV (fun (u : (Nat → Nat) × (Nat → Int32)) => InP u.1 ∧ (u.1 1 = scanP qB fd n (bd 0) ∧ u.1 0 = tE fd n (scanP qB fd n (bd 0)) ∧ u.2 0 = tK fd n (scanP qB fd n (bd 0)) ∧ (tK fd n (scanP qB fd n (bd 0)) = 2 → u.2 1 = tV fd n (scanP qB fd n (bd 0))) ∧ u.2 2 = vd 2)) X (fun (u : (Nat → Nat) × (Nat → Int32)) => rdV X h0 hb n u.1 u.2 fd) (rdV X h0 hb n bd vd fd) sz) 0 0 (va_A (rdV X h0 hb n bd vd fd) sz) := by
  refine mk_met (B := (va_A (rdV X h0 hb n bd vd fd) sz)) (A := (va_A (rdV X h0 hb n bd vd fd) sz)) (cc := cX6_nextToken) (maxL := 1) (ret := none) (by decide) rfl (Nat.le_of_ble_eq_true rfl) k_w k_a (fun p e s m below meth c S zr zlk znm zsz G ls hl => ?_)
  have S : CallFix p m c cX6_nextToken 1 s _ wsX6_nextToken RX6 := S
  have zx := S.1
  have zb := S.2.1
  have hl : lv_has ls 1 [(0, .ref h0)] := hl
  have hO_bd := hI_bd
  obtain ⟨hd0_bd, hd1_bd⟩ := hO_bd
  refine lv_aload_n zx zb dX6_nextToken_0 rfl (lv_at hl 0 rfl) ?_
  refine b_wv (cells' := 0) (slots' := 0) (wr := []) G rfl rfl [0, 1] [] rfl rfl rfl rfl (n_V (As := []) (rest := []) (C := RX6) (T := TX6) (N := 7) (ci := 4) S G (x_skipBlanks l X h0 hb n bd vd fd hI_n hI_bd (by omega) s.heap.size) gX6_nextToken_X6_skipBlanks rfl rfl rfl hdV_X6_skipBlanks ⟨Nat.le_of_ble_eq_true rfl, Nat.le_of_ble_eq_true rfl⟩ [0, 1] rfl rfl 0 rfl rfl rfl hl.1 (Nat.le_of_ble_eq_true rfl) dX6_nextToken_1 ⟨Nat.le_of_ble_eq_true rfl, Nat.le_of_ble_eq_true rfl⟩) (fun u_1 H locs hp_1 G => ?_)
  obtain ⟨b_1, rfl⟩ : ∃ z, z = u_1 := ⟨_, rfl⟩
  obtain ⟨hI_b_1, hq_1⟩ := hp_1
  have hO_b_1 := hI_b_1
  obtain ⟨hd0_b_1, hd1_b_1⟩ := hO_b_1
  have G : wd X (va_A (rdV X h0 hb n bd vd fd) sz) (va_A (rdV X h0 hb n bd vd fd) sz) s (rdV X h0 hb n b_1 vd fd) H locs := G
  obtain ⟨hz0_1, hz1_1⟩ := hq_1
  refine lv_aload_n zx zb dX6_nextToken_4 rfl (lv_at hl 0 rfl) ?_
  refine lv_aload_n zx zb dX6_nextToken_5 rfl (lv_at hl 0 rfl) ?_
  refine r_get (C := RX6) (T := TX6) (N := 7) (ci := 4) (v := .int (nI (b_1 0))) S in_X6_nextToken_X6 G 0 rfl rfl 2 (by decide) lk_X6_nextToken_19 rfl dX6_nextToken_6 ?_
  refine r_put (C := RX6) (T := TX6) (N := 7) (ci := 4) (v := .int (nI (b_1 0))) S in_X6_nextToken_X6 tyX6_ok nmX6 G 0 rfl rfl 3 (by decide) lk_X6_nextToken_22 rfl (vp_nar_int _) rfl (Nat.le_of_ble_eq_true rfl) dX6_nextToken_9 (fun H locs G => ?_)
  obtain ⟨b_2, hI_b_2, ⟨hE_b_2_1, hE_b_2_0⟩, G⟩ : ∃ b_2 : Nat → Nat, InP b_2 ∧ (b_2 1 = (b_1 0) ∧ b_2 0 = b_1 0) ∧ wd X (va_A (rdV X h0 hb n bd vd fd) sz) (va_A (rdV X h0 hb n bd vd fd) sz) s (rdV X h0 hb n b_2 vd fd) H locs := ⟨upN b_1 1 (b_1 0), ⟨hd0_b_1, (by show (b_1 0) ≤ 150; omega)⟩, ⟨rfl, rfl⟩, G⟩
  have hO_b_2 := hI_b_2
  obtain ⟨hd0_b_2, hd1_b_2⟩ := hO_b_2
  obtain ⟨s0, hs0⟩ : ∃ s0 : Nat, scanP qB fd n (bd 0) = s0 := ⟨_, rfl⟩
  rw [hs0] at hz0_1
  have hb0 : b_2 0 = s0 := by omega
  have hb1 : b_2 1 = s0 := by omega
  have hsn := scan_le (q := qB) (T := fd) (n := n) (a := bd 0) hP
  rw [hs0] at hsn
  refine lv_aload_n zx zb dX6_nextToken_12 rfl (lv_at hl 0 rfl) ?_
  refine r_get (C := RX6) (T := TX6) (N := 7) (ci := 4) (v := .int (nI (b_2 0))) S in_X6_nextToken_X6 G 0 rfl rfl 2 (by decide) lk_X6_nextToken_19 rfl dX6_nextToken_13 ?_
  refine lv_aload_n zx zb dX6_nextToken_16 rfl (lv_at hl 0 rfl) ?_
  refine r_get (C := RX6) (T := TX6) (N := 7) (ci := 4) (v := .int (nI n)) S in_X6_nextToken_X6 G 0 rfl rfl 1 (by decide) lk_X6_nextToken_15 rfl dX6_nextToken_17 ?_
  refine lv_icmp_lt (tgt := 31) zx zb dX6_nextToken_20 (by decide) (fun c_3 => ?_) (fun c_3 => ?_)
  · have fc_3 := j_lt (a := (b_2 0)) (b := n) (by omega) (by omega) c_3
    refine lv_aload_n zx zb dX6_nextToken_31 rfl (lv_at hl 0 rfl) ?_
    refine r_get (C := RX6) (T := TX6) (N := 7) (ci := 4) (v := .ref hb) S in_X6_nextToken_X6 G 0 rfl rfl 0 (by decide) lk_X6_nextToken_11 rfl dX6_nextToken_32 ?_
    refine lv_aload_n zx zb dX6_nextToken_35 rfl (lv_at hl 0 rfl) ?_
    refine r_get (C := RX6) (T := TX6) (N := 7) (ci := 4) (v := .int (nI (b_2 0))) S in_X6_nextToken_X6 G 0 rfl rfl 2 (by decide) lk_X6_nextToken_19 rfl dX6_nextToken_36 ?_
    refine r_iald (v := (fd (b_2 0))) S G 1 rfl (vp_in_nI (by omega) (by decide)) (congrArg fd (nI_clamp (by omega))) dX6_nextToken_39 ?_
    refine o_ri (cells' := 0) (slots' := 0) G rfl rfl (n_S (As := [.int (fd (b_2 0))]) (rest := []) S G (x_isLetter l X (fd (b_2 0)) H.size) gX6_nextToken_X6_isLetter rfl rfl rfl hdS_X6_isLetter ⟨Nat.le_of_ble_eq_true rfl, Nat.le_of_ble_eq_true rfl⟩ [] rfl rfl rfl hl.1 (Nat.le_of_ble_eq_true rfl) dX6_nextToken_40 ⟨Nat.le_of_ble_eq_true rfl, Nat.le_of_ble_eq_true rfl⟩) (fun r_5 u_5 H locs hp_5 G => ?_)
    have G : wd X (va_A (rdV X h0 hb n bd vd fd) sz) (va_A (rdV X h0 hb n bd vd fd) sz) s (rdV X h0 hb n b_2 vd fd) H locs := G
    rcases hp_5 with ⟨rfl, hl_5⟩ | ⟨rfl, hl_5⟩
    · refine lv_if_eq (tgt := 53) zx zb dX6_nextToken_43 (by decide) (fun c_6 => absurd c_6 (by decide)) (fun c_6 => ?_)
      refine lv_aload_n zx zb dX6_nextToken_46 rfl (lv_at hl 0 rfl) ?_
      refine b_wv (cells' := 0) (slots' := 0) (wr := []) G rfl rfl [0, 1] [] rfl rfl rfl rfl (n_V (As := []) (rest := []) (C := RX6) (T := TX6) (N := 7) (ci := 4) S G (x_takeLetters l X h0 hb n b_2 vd fd hI_n hI_b_2 (by omega) H.size) gX6_nextToken_X6_takeLetters rfl rfl rfl hdV_X6_takeLetters ⟨Nat.le_of_ble_eq_true rfl, Nat.le_of_ble_eq_true rfl⟩ [0, 1] rfl rfl 0 rfl rfl rfl hl.1 (Nat.le_of_ble_eq_true rfl) dX6_nextToken_47 ⟨Nat.le_of_ble_eq_true rfl, Nat.le_of_ble_eq_true rfl⟩) (fun u_7 H locs hp_7 G => ?_)
      obtain ⟨b_7a, v_7b⟩ := u_7
      try dsimp only at hp_7
      obtain ⟨hI_b_7a, hq_7⟩ := hp_7
      have hO_b_7a := hI_b_7a
      obtain ⟨hd0_b_7a, hd1_b_7a⟩ := hO_b_7a
      have G : wd X (va_A (rdV X h0 hb n bd vd fd) sz) (va_A (rdV X h0 hb n bd vd fd) sz) s (rdV X h0 hb n b_7a v_7b fd) H locs := G
      obtain ⟨hz0_7, hz1_7, hz2_7, hz3_7⟩ := hq_7
      refine lv_goto (tgt := 108) zx zb dX6_nextToken_50 (by decide) ?_
      exact e_void S zr zlk G (b_7a, v_7b) [0, 1] rfl rfl (Or.inr rfl) (⟨hI_b_7a, by rw [hs0]; have hn : s0 < n := (by first | omega | (dsimp only; omega)); have hc : lqL (fd s0) = true := (by rw [← hb0]; exact hl_5); exact ⟨by first | omega | (dsimp only; omega), by rw [(tok_let hn hc).1, ← hb0]; exact hz0_7, by rw [(tok_let hn hc).2]; exact hz2_7, fun h => absurd (h.symm.trans (tok_let hn hc).2) (by decide), hz3_7⟩⟩) dX6_nextToken_108
    · refine lv_if_eq (tgt := 53) zx zb dX6_nextToken_43 (by decide) (fun c_8 => ?_) (fun c_8 => absurd (by decide) c_8)
      refine lv_aload_n zx zb dX6_nextToken_53 rfl (lv_at hl 0 rfl) ?_
      refine r_get (C := RX6) (T := TX6) (N := 7) (ci := 4) (v := .ref hb) S in_X6_nextToken_X6 G 0 rfl rfl 0 (by decide) lk_X6_nextToken_11 rfl dX6_nextToken_54 ?_
      refine lv_aload_n zx zb dX6_nextToken_57 rfl (lv_at hl 0 rfl) ?_
      refine r_get (C := RX6) (T := TX6) (N := 7) (ci := 4) (v := .int (nI (b_2 0))) S in_X6_nextToken_X6 G 0 rfl rfl 2 (by decide) lk_X6_nextToken_19 rfl dX6_nextToken_58 ?_
      refine r_iald (v := (fd (b_2 0))) S G 1 rfl (vp_in_nI (by omega) (by decide)) (congrArg fd (nI_clamp (by omega))) dX6_nextToken_61 ?_
      refine o_ri (cells' := 0) (slots' := 0) G rfl rfl (n_S (As := [.int (fd (b_2 0))]) (rest := []) S G (x_isFigure l X (fd (b_2 0)) H.size) gX6_nextToken_X6_isFigure rfl rfl rfl hdS_X6_isFigure ⟨Nat.le_of_ble_eq_true rfl, Nat.le_of_ble_eq_true rfl⟩ [] rfl rfl rfl hl.1 (Nat.le_of_ble_eq_true rfl) dX6_nextToken_62 ⟨Nat.le_of_ble_eq_true rfl, Nat.le_of_ble_eq_true rfl⟩) (fun r_10 u_10 H locs hp_10 G => ?_)
      have G : wd X (va_A (rdV X h0 hb n bd vd fd) sz) (va_A (rdV X h0 hb n bd vd fd) sz) s (rdV X h0 hb n b_2 vd fd) H locs := G
      rcases hp_10 with ⟨rfl, hl_10⟩ | ⟨rfl, hl_10⟩
      · refine lv_if_eq (tgt := 75) zx zb dX6_nextToken_65 (by decide) (fun c_11 => absurd c_11 (by decide)) (fun c_11 => ?_)
        refine lv_aload_n zx zb dX6_nextToken_68 rfl (lv_at hl 0 rfl) ?_
        refine b_wv (cells' := 0) (slots' := 0) (wr := []) G rfl rfl [0, 1] [] rfl rfl rfl rfl (n_V (As := []) (rest := []) (C := RX6) (T := TX6) (N := 7) (ci := 4) S G (x_takeFigures l X h0 hb n b_2 vd fd hI_n hI_b_2 (by omega) (by omega) H.size) gX6_nextToken_X6_takeFigures rfl rfl rfl hdV_X6_takeFigures ⟨Nat.le_of_ble_eq_true rfl, Nat.le_of_ble_eq_true rfl⟩ [0, 1] rfl rfl 0 rfl rfl rfl hl.1 (Nat.le_of_ble_eq_true rfl) dX6_nextToken_69 ⟨Nat.le_of_ble_eq_true rfl, Nat.le_of_ble_eq_true rfl⟩) (fun u_12 H locs hp_12 G => ?_)
        obtain ⟨b_12a, v_12b⟩ := u_12
        try dsimp only at hp_12
        obtain ⟨hI_b_12a, hq_12⟩ := hp_12
        have hO_b_12a := hI_b_12a
        obtain ⟨hd0_b_12a, hd1_b_12a⟩ := hO_b_12a
        have G : wd X (va_A (rdV X h0 hb n bd vd fd) sz) (va_A (rdV X h0 hb n bd vd fd) sz) s (rdV X h0 hb n b_12a v_12b fd) H locs := G
        obtain ⟨hz0_12, hz1_12, hz2_12, hz3_12, hz4_12⟩ := hq_12
        refine lv_goto (tgt := 108) zx zb dX6_nextToken_72 (by decide) ?_
        exact e_void S zr zlk G (b_12a, v_12b) [0, 1] rfl rfl (Or.inr rfl) (⟨hI_b_12a, by rw [hs0]; have hn : s0 < n := (by first | omega | (dsimp only; omega)); have hc : ¬ lqL (fd s0) = true := (by rw [← hb0]; exact hl_5); have hd : lqF (fd s0) = true := (by rw [← hb0]; exact hl_10); exact ⟨by first | omega | (dsimp only; omega), by rw [(tok_fig hn hc hd).1, ← hb0]; exact hz0_12, by rw [(tok_fig hn hc hd).2, ← hb0]; exact hz2_12, fun _ => by rw [tV, (tok_fig hn hc hd).1, ← hb0]; exact hz3_12, hz4_12⟩⟩) dX6_nextToken_108
      · refine lv_if_eq (tgt := 75) zx zb dX6_nextToken_65 (by decide) (fun c_13 => ?_) (fun c_13 => absurd (by decide) c_13)
        refine lv_aload_n zx zb dX6_nextToken_75 rfl (lv_at hl 0 rfl) ?_
        refine lv_aload_n zx zb dX6_nextToken_76 rfl (lv_at hl 0 rfl) ?_
        refine r_get (C := RX6) (T := TX6) (N := 7) (ci := 4) (v := .ref hb) S in_X6_nextToken_X6 G 0 rfl rfl 0 (by decide) lk_X6_nextToken_11 rfl dX6_nextToken_77 ?_
        refine lv_aload_n zx zb dX6_nextToken_80 rfl (lv_at hl 0 rfl) ?_
        refine r_get (C := RX6) (T := TX6) (N := 7) (ci := 4) (v := .int (nI (b_2 0))) S in_X6_nextToken_X6 G 0 rfl rfl 2 (by decide) lk_X6_nextToken_19 rfl dX6_nextToken_81 ?_
        refine r_iald (v := (fd (b_2 0))) S G 1 rfl (vp_in_nI (by omega) (by decide)) (congrArg fd (nI_clamp (by omega))) dX6_nextToken_84 ?_
        refine lv_bipush (v := 59) zx zb dX6_nextToken_85 (by decide) ?_
        refine lv_icmp_ne (tgt := 94) zx zb dX6_nextToken_87 (by decide) (fun c_15 => ?_) (fun c_15 => ?_)
        · refine lv_iconst (v := 4) zx zb dX6_nextToken_94 (by decide) ?_
          refine r_put (C := RX6) (T := TX6) (N := 7) (ci := 4) (v := .int 4) S in_X6_nextToken_X6 tyX6_ok nmX6 G 0 rfl rfl 4 (by decide) lk_X6_nextToken_25 rfl (vp_nar_int _) rfl (Nat.le_of_ble_eq_true rfl) dX6_nextToken_95 (fun H locs G => ?_)
          obtain ⟨v_16, ⟨hE_v_16_0, hE_v_16_1, hE_v_16_2⟩, G⟩ : ∃ v_16 : Nat → Int32, (v_16 0 = 4 ∧ v_16 1 = vd 1 ∧ v_16 2 = vd 2) ∧ wd X (va_A (rdV X h0 hb n bd vd fd) sz) (va_A (rdV X h0 hb n bd vd fd) sz) s (rdV X h0 hb n b_2 v_16 fd) H locs := ⟨upd vd 0 4, ⟨rfl, rfl, rfl⟩, G⟩
          refine lv_aload_n zx zb dX6_nextToken_98 rfl (lv_at hl 0 rfl) ?_
          refine lv_dup zx zb dX6_nextToken_99 rfl ?_
          refine r_get (C := RX6) (T := TX6) (N := 7) (ci := 4) (v := .int (nI (b_2 0))) S in_X6_nextToken_X6 G 0 rfl rfl 2 (by decide) lk_X6_nextToken_19 rfl dX6_nextToken_100 ?_
          refine lv_iconst (v := 1) zx zb dX6_nextToken_103 (by decide) ?_
          refine r_iadd (v := (nI ((b_2 0) + 1))) S (nI_add (b_2 0) 1) dX6_nextToken_104 ?_
          refine r_put (C := RX6) (T := TX6) (N := 7) (ci := 4) (v := .int (nI ((b_2 0) + 1))) S in_X6_nextToken_X6 tyX6_ok nmX6 G 0 rfl rfl 2 (by decide) lk_X6_nextToken_19 rfl (vp_nar_int _) rfl (Nat.le_of_ble_eq_true rfl) dX6_nextToken_105 (fun H locs G => ?_)
          obtain ⟨b_17, hI_b_17, ⟨hE_b_17_0, hE_b_17_1⟩, G⟩ : ∃ b_17 : Nat → Nat, InP b_17 ∧ (b_17 0 = ((b_2 0) + 1) ∧ b_17 1 = b_2 1) ∧ wd X (va_A (rdV X h0 hb n bd vd fd) sz) (va_A (rdV X h0 hb n bd vd fd) sz) s (rdV X h0 hb n b_17 v_16 fd) H locs := ⟨upN b_2 0 ((b_2 0) + 1), ⟨(by show ((b_2 0) + 1) ≤ 150; omega), hd1_b_2⟩, ⟨rfl, rfl⟩, G⟩
          have hO_b_17 := hI_b_17
          obtain ⟨hd0_b_17, hd1_b_17⟩ := hO_b_17
          exact e_void S zr zlk G (b_17, v_16) [0, 1] rfl rfl (Or.inr rfl) (⟨hI_b_17, by rw [hs0]; have hn : s0 < n := (by first | omega | (dsimp only; omega)); have hc : ¬ lqL (fd s0) = true := (by rw [← hb0]; exact hl_5); have hd : ¬ lqF (fd s0) = true := (by rw [← hb0]; exact hl_10); have he : ¬ fd s0 = 59 := (by rw [← hb0]; exact c_15); exact ⟨by first | omega | (dsimp only; omega), by rw [(tok_oth hn hc hd).1]; first | omega | (dsimp only; omega), by rw [(tok_oth hn hc hd).2, if_neg he]; exact hE_v_16_0, fun h => absurd (h.symm.trans ((tok_oth hn hc hd).2.trans (if_neg he))) (by decide), hE_v_16_2⟩⟩) dX6_nextToken_108
        · refine lv_iconst (v := 3) zx zb dX6_nextToken_90 (by decide) ?_
          refine lv_goto (tgt := 95) zx zb dX6_nextToken_91 (by decide) ?_
          refine r_put (C := RX6) (T := TX6) (N := 7) (ci := 4) (v := .int 3) S in_X6_nextToken_X6 tyX6_ok nmX6 G 0 rfl rfl 4 (by decide) lk_X6_nextToken_25 rfl (vp_nar_int _) rfl (Nat.le_of_ble_eq_true rfl) dX6_nextToken_95 (fun H locs G => ?_)
          obtain ⟨v_18, ⟨hE_v_18_0, hE_v_18_1, hE_v_18_2⟩, G⟩ : ∃ v_18 : Nat → Int32, (v_18 0 = 3 ∧ v_18 1 = vd 1 ∧ v_18 2 = vd 2) ∧ wd X (va_A (rdV X h0 hb n bd vd fd) sz) (va_A (rdV X h0 hb n bd vd fd) sz) s (rdV X h0 hb n b_2 v_18 fd) H locs := ⟨upd vd 0 3, ⟨rfl, rfl, rfl⟩, G⟩
          refine lv_aload_n zx zb dX6_nextToken_98 rfl (lv_at hl 0 rfl) ?_
          refine lv_dup zx zb dX6_nextToken_99 rfl ?_
          refine r_get (C := RX6) (T := TX6) (N := 7) (ci := 4) (v := .int (nI (b_2 0))) S in_X6_nextToken_X6 G 0 rfl rfl 2 (by decide) lk_X6_nextToken_19 rfl dX6_nextToken_100 ?_
          refine lv_iconst (v := 1) zx zb dX6_nextToken_103 (by decide) ?_
          refine r_iadd (v := (nI ((b_2 0) + 1))) S (nI_add (b_2 0) 1) dX6_nextToken_104 ?_
          refine r_put (C := RX6) (T := TX6) (N := 7) (ci := 4) (v := .int (nI ((b_2 0) + 1))) S in_X6_nextToken_X6 tyX6_ok nmX6 G 0 rfl rfl 2 (by decide) lk_X6_nextToken_19 rfl (vp_nar_int _) rfl (Nat.le_of_ble_eq_true rfl) dX6_nextToken_105 (fun H locs G => ?_)
          obtain ⟨b_19, hI_b_19, ⟨hE_b_19_0, hE_b_19_1⟩, G⟩ : ∃ b_19 : Nat → Nat, InP b_19 ∧ (b_19 0 = ((b_2 0) + 1) ∧ b_19 1 = b_2 1) ∧ wd X (va_A (rdV X h0 hb n bd vd fd) sz) (va_A (rdV X h0 hb n bd vd fd) sz) s (rdV X h0 hb n b_19 v_18 fd) H locs := ⟨upN b_2 0 ((b_2 0) + 1), ⟨(by show ((b_2 0) + 1) ≤ 150; omega), hd1_b_2⟩, ⟨rfl, rfl⟩, G⟩
          have hO_b_19 := hI_b_19
          obtain ⟨hd0_b_19, hd1_b_19⟩ := hO_b_19
          exact e_void S zr zlk G (b_19, v_18) [0, 1] rfl rfl (Or.inr rfl) (⟨hI_b_19, by rw [hs0]; have hn : s0 < n := (by first | omega | (dsimp only; omega)); have hc : ¬ lqL (fd s0) = true := (by rw [← hb0]; exact hl_5); have hd : ¬ lqF (fd s0) = true := (by rw [← hb0]; exact hl_10); have he : fd s0 = 59 := (by rw [← hb0]; exact c_15); exact ⟨by first | omega | (dsimp only; omega), by rw [(tok_oth hn hc hd).1]; first | omega | (dsimp only; omega), by rw [(tok_oth hn hc hd).2, if_pos he]; exact hE_v_18_0, fun h => absurd (h.symm.trans ((tok_oth hn hc hd).2.trans (if_pos he))) (by decide), hE_v_18_2⟩⟩) dX6_nextToken_108
  · have fc_3 := j_nlt (a := (b_2 0)) (b := n) (by omega) (by omega) c_3
    refine lv_aload_n zx zb dX6_nextToken_23 rfl (lv_at hl 0 rfl) ?_
    refine lv_iconst (v := 0) zx zb dX6_nextToken_24 (by decide) ?_
    refine r_put (C := RX6) (T := TX6) (N := 7) (ci := 4) (v := .int 0) S in_X6_nextToken_X6 tyX6_ok nmX6 G 0 rfl rfl 4 (by decide) lk_X6_nextToken_25 rfl (vp_nar_int _) rfl (Nat.le_of_ble_eq_true rfl) dX6_nextToken_25 (fun H locs G => ?_)
    obtain ⟨v_20, ⟨hE_v_20_0, hE_v_20_1, hE_v_20_2⟩, G⟩ : ∃ v_20 : Nat → Int32, (v_20 0 = 0 ∧ v_20 1 = vd 1 ∧ v_20 2 = vd 2) ∧ wd X (va_A (rdV X h0 hb n bd vd fd) sz) (va_A (rdV X h0 hb n bd vd fd) sz) s (rdV X h0 hb n b_2 v_20 fd) H locs := ⟨upd vd 0 0, ⟨rfl, rfl, rfl⟩, G⟩
    refine lv_goto (tgt := 108) zx zb dX6_nextToken_28 (by decide) ?_
    exact e_void S zr zlk G (b_2, v_20) [0, 1] rfl rfl (Or.inr rfl) (⟨hI_b_2, by rw [hs0]; have hn : ¬ s0 < n := (by first | omega | (dsimp only; omega)); exact ⟨by first | omega | (dsimp only; omega), by rw [(tok_end hn).1]; first | omega | (dsimp only; omega), by rw [(tok_end hn).2]; exact hE_v_20_0, fun h => absurd (h.symm.trans (tok_end hn).2) (by decide), hE_v_20_2⟩⟩) dX6_nextToken_108
set_option maxHeartbeats 4000000 in
set_option maxRecDepth 100000 in
theorem x_spells (l : Launch) (X : EX) (K : SK) (h0 : Nat) (hb : Nat) (n : Nat) (bd : Nat → Nat) (vd : Nat → Int32) (fd : Nat → Int32) (i : Nat) (hI_n : n ≤ 150) (hI_bd : InP bd) (hP : bd 0 ≤ n ∧ bd 1 ≤ bd 0) (hi : i < 5) (sz : Nat) : Met l yX6_spells wsX6_spells ({ frames := 4, cells := 0, slots := 0, locals := 85 } : Room) (pS X K [.ref h0, .ref (K.1 i)] (rdV X h0 hb n bd vd fd) sz) (qI (fun (r : Int32) (u : Unit) => (r = 1 ∧ wrdP fd (bd 1) (bd 0) i) ∨ (r = 0 ∧ ¬ wrdP fd (bd 1) (bd 0) i)) X (fun (u : Unit) => []) [] sz) 0 0 (va_A [] sz) := by
  refine mk_metS (B := (fun _ => True)) (A := (va_A [] sz)) (cc := cX6_spells) (maxL := 3) (ret := (some .boolean)) (by decide) rfl (Nat.le_of_ble_eq_true rfl) k_ro k_a (fun p e s m below meth c S zr zlk znm zsz G hZ ls hl => ?_)
  replace hZ := hZ.narrow (B := va_A [] sz) vaA0
  have S : CallFix p m c cX6_spells 3 s _ wsX6_spells RX6 := S
  have zx := S.1
  have zb := S.2.1
  have hl : lv_has ls 3 [(0, .ref h0), (1, .ref (K.1 i))] := hl
  have hO_bd := hI_bd
  obtain ⟨hd0_bd, hd1_bd⟩ := hO_bd
  obtain ⟨hP0, hP1⟩ := hP
  have h5 := k_sl hi
  refine lv_aload_n zx zb dX6_spells_0 rfl (lv_at hl 0 rfl) ?_
  refine r_get (C := RX6) (T := TX6) (N := 7) (ci := 4) (v := .int (nI (bd 0))) S in_X6_spells_X6 G 0 rfl rfl 2 (by decide) lk_X6_spells_19 rfl dX6_spells_1 ?_
  refine lv_aload_n zx zb dX6_spells_4 rfl (lv_at hl 0 rfl) ?_
  refine r_get (C := RX6) (T := TX6) (N := 7) (ci := 4) (v := .int (nI (bd 1))) S in_X6_spells_X6 G 0 rfl rfl 3 (by decide) lk_X6_spells_22 rfl dX6_spells_5 ?_
  refine r_isub (v := (nI ((bd 0) - (bd 1)))) S (pk_sub (a := (bd 0)) (b := (bd 1)) (by omega)) dX6_spells_8 ?_
  refine lv_aload_n zx zb dX6_spells_9 rfl (lv_at hl 1 rfl) ?_
  refine o_ri (cells' := 0) (slots' := 0) G rfl rfl (n_VZ (As := []) (rest := [.int (nI ((bd 0) - (bd 1)))]) S G hZ (z_length l X K i hi s.heap.size) gX6_spells_J0_length_8abf5 rfl rfl rfl hdV_J0_length ⟨Nat.le_of_ble_eq_true rfl, Nat.le_of_ble_eq_true rfl⟩ hi rfl hl.1 (Nat.le_of_ble_eq_true rfl) dX6_spells_10 ⟨Nat.le_of_ble_eq_true rfl, Nat.le_of_ble_eq_true rfl⟩) (fun r_1 u_1 H locs hp_1 G => ?_)
  obtain rfl := hp_1
  have G : wd X (fun _ => True) (va_A [] sz) s (rdV X h0 hb n bd vd fd) H locs := G
  refine lv_icmp_eq (tgt := 18) zx zb dX6_spells_13 (by decide) (fun c_2 => ?_) (fun c_2 => ?_)
  · have fc_2 := j_eq (a := ((bd 0) - (bd 1))) (b := (sLen.getD i 0)) (by omega) (by omega) c_2
    refine lv_iconst (v := 0) zx zb dX6_spells_18 (by decide) ?_
    refine lv_istore_n (lv' := [(2, .int 0), (0, .ref h0), (1, .ref (K.1 i))]) zx zb dX6_spells_19 rfl hl (by decide) rfl (fun ls hl => ?_)
    refine k_loop (P := ∀ (zm : Nat) (n20_2 : Nat) (H : Heap) (locs : List Loc) (ls : Array Slot), ((sLen.getD i 0 - n20_2) < zm) → (∀ j : Nat, j < n20_2 → fd (bd 1 + j) = (sByt.getD i []).getD j 0) → (n20_2 ≤ (sLen.getD i 0)) → wd X (fun _ => True) (va_A [] sz) s (rdV X h0 hb n bd vd fd) H locs → lv_has ls 3 [(2, .int (nI n20_2)), (0, .ref h0), (1, .ref (K.1 i))] → W p l e _ s m _ below meth c H locs _ _ _ (F0 m 20 ls [])) (fun loop => loop ((sLen.getD i 0 - 0) + 1) 0 _ _ _ (by omega) (fun j h => absurd h (Nat.not_lt_zero j)) (by omega) G hl) ?_
    intro zm
    induction zm with
    | zero => intro n20_2 H locs ls zz q_x0 q_hk_n20_2 _ _; exact absurd zz (by omega)
    | succ zm ih20 =>
      intro n20_2 H locs ls zm_20 hx20_0 hk_n20_2 G hl
      refine lv_iload_n zx zb dX6_spells_20 rfl (lv_at hl 0 rfl) ?_
      refine lv_aload_n zx zb dX6_spells_21 rfl (lv_at hl 2 rfl) ?_
      refine o_ri (cells' := 0) (slots' := 0) G rfl rfl (n_VZ (As := []) (rest := [.int (nI n20_2)]) S G hZ (z_length l X K i hi H.size) gX6_spells_J0_length_8abf5 rfl rfl rfl hdV_J0_length ⟨Nat.le_of_ble_eq_true rfl, Nat.le_of_ble_eq_true rfl⟩ hi rfl hl.1 (Nat.le_of_ble_eq_true rfl) dX6_spells_22 ⟨Nat.le_of_ble_eq_true rfl, Nat.le_of_ble_eq_true rfl⟩) (fun r_3 u_3 H locs hp_3 G => ?_)
      obtain rfl := hp_3
      have G : wd X (fun _ => True) (va_A [] sz) s (rdV X h0 hb n bd vd fd) H locs := G
      refine lv_icmp_ge (tgt := 55) zx zb dX6_spells_25 (by decide) (fun c_4 => ?_) (fun c_4 => ?_)
      · have fc_4 := j_le (a := (sLen.getD i 0)) (b := n20_2) (by omega) (by omega) c_4
        refine lv_iconst (v := 1) zx zb dX6_spells_55 (by decide) ?_
        exact e_int S zr zlk (by decide) G () [] rfl rfl (Or.inl rfl) (Or.inl ⟨rfl, by omega, fun j h => hx20_0 j (by omega)⟩) dX6_spells_56
      · have fc_4 := j_nle (a := (sLen.getD i 0)) (b := n20_2) (by omega) (by omega) c_4
        refine lv_aload_n zx zb dX6_spells_28 rfl (lv_at hl 1 rfl) ?_
        refine r_get (C := RX6) (T := TX6) (N := 7) (ci := 4) (v := .ref hb) S in_X6_spells_X6 G 0 rfl rfl 0 (by decide) lk_X6_spells_11 rfl dX6_spells_29 ?_
        refine lv_aload_n zx zb dX6_spells_32 rfl (lv_at hl 1 rfl) ?_
        refine r_get (C := RX6) (T := TX6) (N := 7) (ci := 4) (v := .int (nI (bd 1))) S in_X6_spells_X6 G 0 rfl rfl 3 (by decide) lk_X6_spells_22 rfl dX6_spells_33 ?_
        refine lv_iload_n zx zb dX6_spells_36 rfl (lv_at hl 0 rfl) ?_
        refine r_iadd (v := (nI ((bd 1) + n20_2))) S (nI_add (bd 1) n20_2) dX6_spells_37 ?_
        refine r_iald (v := (fd ((bd 1) + n20_2))) S G 1 rfl (vp_in_nI (by omega) (by decide)) (congrArg fd (nI_clamp (by omega))) dX6_spells_38 ?_
        refine lv_aload_n zx zb dX6_spells_39 rfl (lv_at hl 2 rfl) ?_
        refine lv_iload_n zx zb dX6_spells_40 rfl (lv_at hl 0 rfl) ?_
        refine o_ri (cells' := 0) (slots' := 0) G rfl rfl (n_VZ (As := [.int (nI n20_2)]) (rest := [.int (fd ((bd 1) + n20_2))]) S G hZ (z_charAt l X K i n20_2 hi (by omega) H.size) gX6_spells_J0_charAt_5068e rfl rfl rfl hdV_J0_charAt ⟨Nat.le_of_ble_eq_true rfl, Nat.le_of_ble_eq_true rfl⟩ hi rfl hl.1 (Nat.le_of_ble_eq_true rfl) dX6_spells_41 ⟨Nat.le_of_ble_eq_true rfl, Nat.le_of_ble_eq_true rfl⟩) (fun r_6 u_6 H locs hp_6 G => ?_)
        obtain rfl := hp_6
        have G : wd X (fun _ => True) (va_A [] sz) s (rdV X h0 hb n bd vd fd) H locs := G
        refine lv_icmp_eq (tgt := 49) zx zb dX6_spells_44 (by decide) (fun c_7 => ?_) (fun c_7 => ?_)
        · refine lv_iinc (v := (nI (n20_2 + 1))) (lv' := [(2, .int (nI (n20_2 + 1))), (0, .ref h0), (1, .ref (K.1 i))]) zx zb dX6_spells_49 hl (k := 0) rfl (nI_add n20_2 1) (by decide) rfl (fun ls hl => ?_)
          refine lv_goto (tgt := 20) zx zb dX6_spells_52 (by decide) ?_
          exact ih20 (n20_2 + 1) _ _ _ (by omega) (k_ext hx20_0 (c_7.trans (by_255 i hi _ (by omega)))) (by omega) G hl
        · refine lv_iconst (v := 0) zx zb dX6_spells_47 (by decide) ?_
          exact e_int S zr zlk (by decide) G () [] rfl rfl (Or.inl rfl) (Or.inr ⟨rfl, fun h => c_7 ((h.2 _ (by omega)).trans (by_255 i hi _ (by omega)).symm)⟩) dX6_spells_48
  · have fc_2 := j_ne (a := ((bd 0) - (bd 1))) (b := (sLen.getD i 0)) c_2
    refine lv_iconst (v := 0) zx zb dX6_spells_16 (by decide) ?_
    exact e_int S zr zlk (by decide) G () [] rfl rfl (Or.inl rfl) (Or.inr ⟨rfl, fun h => fc_2 h.1⟩) dX6_spells_17
set_option maxHeartbeats 4000000 in
set_option maxRecDepth 100000 in
theorem x_numN (l : Launch) (X : EX) (h0 : Nat) (hb : Nat) (n : Nat) (bd : Nat → Nat) (vd : Nat → Int32) (fd : Nat → Int32) (lo : Int32) (hi : Int32) (hI_n : n ≤ 150) (hI_bd : InP bd) (hP : bd 0 ≤ n) (hF : vd 2 = -1) (sz : Nat) : Met l yX6_number wsX6_number ({ frames := 3, cells := 0, slots := 0, locals := 60 } : Room) (pE X [.ref h0, .int lo, .int hi] (rdV X h0 hb n bd vd fd) sz) (qI (fun (r : Int32) (u : (Nat → Nat) × (Nat → Int32)) => InP u.1 ∧ ((u.1 1 = scanP qB fd n (bd 0) ∧ u.1 0 = tE fd n (scanP qB fd n (bd 0))) ∧ ((numP fd n (scanP qB fd n (bd 0)) lo hi ∧ r = tV fd n (scanP qB fd n (bd 0)) ∧ u.2 2 = -1) ∨ (¬ numP fd n (scanP qB fd n (bd 0)) lo hi ∧ r = -1 ∧ u.2 2 = nI (scanP qB fd n (bd 0)))))) X (fun (u : (Nat → Nat) × (Nat → Int32)) => rdV X h0 hb n u.1 u.2 fd) (rdV X h0 hb n bd vd fd) sz) 0 0 (va_A (rdV X h0 hb n bd vd fd) sz) := by
  refine mk_met (B := (va_A (rdV X h0 hb n bd vd fd) sz)) (A := (va_A (rdV X h0 hb n bd vd fd) sz)) (cc := cX6_number) (maxL := 3) (ret := (some .int)) (by decide) rfl (Nat.le_of_ble_eq_true rfl) k_w k_a (fun p e s m below meth c S zr zlk znm zsz G ls hl => ?_)
  have S : CallFix p m c cX6_number 3 s _ wsX6_number RX6 := S
  have zx := S.1
  have zb := S.2.1
  have hl : lv_has ls 3 [(0, .ref h0), (1, .int lo), (2, .int hi)] := hl
  have hO_bd := hI_bd
  obtain ⟨hd0_bd, hd1_bd⟩ := hO_bd
  refine lv_aload_n zx zb dX6_number_0 rfl (lv_at hl 0 rfl) ?_
  refine r_get (C := RX6) (T := TX6) (N := 7) (ci := 4) (v := .int (vd 2)) S in_X6_number_X6 G 0 rfl rfl 6 (by decide) lk_X6_number_31 rfl dX6_number_1 ?_
  refine lv_iconst (v := (-1)) zx zb dX6_number_4 (by decide) ?_
  refine lv_icmp_eq (tgt := 10) zx zb dX6_number_5 (by decide) (fun c_1 => ?_) (fun c_1 => absurd (hF) c_1)
  refine lv_aload_n zx zb dX6_number_10 rfl (lv_at hl 0 rfl) ?_
  refine b_wv (cells' := 0) (slots' := 0) (wr := []) G rfl rfl [0, 1] [] rfl rfl rfl rfl (n_V (As := []) (rest := []) (C := RX6) (T := TX6) (N := 7) (ci := 4) S G (x_nextToken l X h0 hb n bd vd fd hI_n hI_bd (by omega) s.heap.size) gX6_number_X6_nextToken rfl rfl rfl hdV_X6_nextToken ⟨Nat.le_of_ble_eq_true rfl, Nat.le_of_ble_eq_true rfl⟩ [0, 1] rfl rfl 0 rfl rfl rfl hl.1 (Nat.le_of_ble_eq_true rfl) dX6_number_11 ⟨Nat.le_of_ble_eq_true rfl, Nat.le_of_ble_eq_true rfl⟩) (fun u_2 H locs hp_2 G => ?_)
  obtain ⟨b_2a, v_2b⟩ := u_2
  try dsimp only at hp_2
  obtain ⟨hI_b_2a, hq_2⟩ := hp_2
  have hO_b_2a := hI_b_2a
  obtain ⟨hd0_b_2a, hd1_b_2a⟩ := hO_b_2a
  have G : wd X (va_A (rdV X h0 hb n bd vd fd) sz) (va_A (rdV X h0 hb n bd vd fd) sz) s (rdV X h0 hb n b_2a v_2b fd) H locs := G
  obtain ⟨hz0_2, hz1_2, hz2_2, hz3_2, hz4_2⟩ := hq_2
  refine lv_aload_n zx zb dX6_number_14 rfl (lv_at hl 0 rfl) ?_
  refine r_get (C := RX6) (T := TX6) (N := 7) (ci := 4) (v := .int (v_2b 0)) S in_X6_number_X6 G 0 rfl rfl 4 (by decide) lk_X6_number_25 rfl dX6_number_15 ?_
  refine lv_iconst (v := 2) zx zb dX6_number_18 (by decide) ?_
  refine lv_icmp_ne (tgt := 38) zx zb dX6_number_19 (by decide) (fun c_3 => ?_) (fun c_3 => ?_)
  · refine lv_aload_n zx zb dX6_number_38 rfl (lv_at hl 0 rfl) ?_
    refine lv_aload_n zx zb dX6_number_39 rfl (lv_at hl 0 rfl) ?_
    refine r_get (C := RX6) (T := TX6) (N := 7) (ci := 4) (v := .int (nI (b_2a 1))) S in_X6_number_X6 G 0 rfl rfl 3 (by decide) lk_X6_number_22 rfl dX6_number_40 ?_
    refine r_put (C := RX6) (T := TX6) (N := 7) (ci := 4) (v := .int (nI (b_2a 1))) S in_X6_number_X6 tyX6_ok nmX6 G 0 rfl rfl 6 (by decide) lk_X6_number_31 rfl (vp_nar_int _) rfl (Nat.le_of_ble_eq_true rfl) dX6_number_43 (fun H locs G => ?_)
    obtain ⟨v_4, ⟨hE_v_4_2, hE_v_4_0, hE_v_4_1⟩, G⟩ : ∃ v_4 : Nat → Int32, (v_4 2 = (nI (b_2a 1)) ∧ v_4 0 = v_2b 0 ∧ v_4 1 = v_2b 1) ∧ wd X (va_A (rdV X h0 hb n bd vd fd) sz) (va_A (rdV X h0 hb n bd vd fd) sz) s (rdV X h0 hb n b_2a v_4 fd) H locs := ⟨upd v_2b 2 (nI (b_2a 1)), ⟨rfl, rfl, rfl⟩, G⟩
    refine lv_iconst (v := (-1)) zx zb dX6_number_46 (by decide) ?_
    exact e_int S zr zlk (vp_nar_int _) G (b_2a, v_4) [0, 1] rfl rfl (Or.inr rfl) (⟨hI_b_2a, ⟨⟨hz0_2, hz1_2⟩, Or.inr ⟨fun h => c_3 (hz2_2.trans h.1), rfl, hE_v_4_2.trans (congrArg nI hz0_2)⟩⟩⟩) dX6_number_47
  · refine lv_aload_n zx zb dX6_number_22 rfl (lv_at hl 0 rfl) ?_
    refine r_get (C := RX6) (T := TX6) (N := 7) (ci := 4) (v := .int (v_2b 1)) S in_X6_number_X6 G 0 rfl rfl 5 (by decide) lk_X6_number_28 rfl dX6_number_23 ?_
    refine lv_iload_n zx zb dX6_number_26 rfl (lv_at hl 1 rfl) ?_
    refine lv_icmp_lt (tgt := 38) zx zb dX6_number_27 (by decide) (fun c_5 => ?_) (fun c_5 => ?_)
    · refine lv_aload_n zx zb dX6_number_38 rfl (lv_at hl 0 rfl) ?_
      refine lv_aload_n zx zb dX6_number_39 rfl (lv_at hl 0 rfl) ?_
      refine r_get (C := RX6) (T := TX6) (N := 7) (ci := 4) (v := .int (nI (b_2a 1))) S in_X6_number_X6 G 0 rfl rfl 3 (by decide) lk_X6_number_22 rfl dX6_number_40 ?_
      refine r_put (C := RX6) (T := TX6) (N := 7) (ci := 4) (v := .int (nI (b_2a 1))) S in_X6_number_X6 tyX6_ok nmX6 G 0 rfl rfl 6 (by decide) lk_X6_number_31 rfl (vp_nar_int _) rfl (Nat.le_of_ble_eq_true rfl) dX6_number_43 (fun H locs G => ?_)
      obtain ⟨v_6, ⟨hE_v_6_2, hE_v_6_0, hE_v_6_1⟩, G⟩ : ∃ v_6 : Nat → Int32, (v_6 2 = (nI (b_2a 1)) ∧ v_6 0 = v_2b 0 ∧ v_6 1 = v_2b 1) ∧ wd X (va_A (rdV X h0 hb n bd vd fd) sz) (va_A (rdV X h0 hb n bd vd fd) sz) s (rdV X h0 hb n b_2a v_6 fd) H locs := ⟨upd v_2b 2 (nI (b_2a 1)), ⟨rfl, rfl, rfl⟩, G⟩
      refine lv_iconst (v := (-1)) zx zb dX6_number_46 (by decide) ?_
      exact e_int S zr zlk (vp_nar_int _) G (b_2a, v_6) [0, 1] rfl rfl (Or.inr rfl) (⟨hI_b_2a, ⟨⟨hz0_2, hz1_2⟩, Or.inr ⟨fun h => absurd c_5 (Int32.not_lt.mpr (by rw [hz3_2 h.1]; exact h.2.1)), rfl, hE_v_6_2.trans (congrArg nI hz0_2)⟩⟩⟩) dX6_number_47
    · refine lv_aload_n zx zb dX6_number_30 rfl (lv_at hl 0 rfl) ?_
      refine r_get (C := RX6) (T := TX6) (N := 7) (ci := 4) (v := .int (v_2b 1)) S in_X6_number_X6 G 0 rfl rfl 5 (by decide) lk_X6_number_28 rfl dX6_number_31 ?_
      refine lv_iload_n zx zb dX6_number_34 rfl (lv_at hl 2 rfl) ?_
      refine lv_icmp_le (tgt := 48) zx zb dX6_number_35 (by decide) (fun c_7 => ?_) (fun c_7 => ?_)
      · refine lv_aload_n zx zb dX6_number_48 rfl (lv_at hl 0 rfl) ?_
        refine r_get (C := RX6) (T := TX6) (N := 7) (ci := 4) (v := .int (v_2b 1)) S in_X6_number_X6 G 0 rfl rfl 5 (by decide) lk_X6_number_28 rfl dX6_number_49 ?_
        exact e_int S zr zlk (vp_nar_int _) G (b_2a, v_2b) [0, 1] rfl rfl (Or.inr rfl) (⟨hI_b_2a, ⟨⟨hz0_2, hz1_2⟩, Or.inl ⟨⟨hz2_2.symm.trans c_3, by rw [← hz3_2 (hz2_2.symm.trans c_3)]; exact Int32.not_lt.mp c_5, by rw [← hz3_2 (hz2_2.symm.trans c_3)]; exact c_7⟩, hz3_2 (hz2_2.symm.trans c_3), hz4_2.trans hF⟩⟩⟩) dX6_number_52
      · refine lv_aload_n zx zb dX6_number_38 rfl (lv_at hl 0 rfl) ?_
        refine lv_aload_n zx zb dX6_number_39 rfl (lv_at hl 0 rfl) ?_
        refine r_get (C := RX6) (T := TX6) (N := 7) (ci := 4) (v := .int (nI (b_2a 1))) S in_X6_number_X6 G 0 rfl rfl 3 (by decide) lk_X6_number_22 rfl dX6_number_40 ?_
        refine r_put (C := RX6) (T := TX6) (N := 7) (ci := 4) (v := .int (nI (b_2a 1))) S in_X6_number_X6 tyX6_ok nmX6 G 0 rfl rfl 6 (by decide) lk_X6_number_31 rfl (vp_nar_int _) rfl (Nat.le_of_ble_eq_true rfl) dX6_number_43 (fun H locs G => ?_)
        obtain ⟨v_8, ⟨hE_v_8_2, hE_v_8_0, hE_v_8_1⟩, G⟩ : ∃ v_8 : Nat → Int32, (v_8 2 = (nI (b_2a 1)) ∧ v_8 0 = v_2b 0 ∧ v_8 1 = v_2b 1) ∧ wd X (va_A (rdV X h0 hb n bd vd fd) sz) (va_A (rdV X h0 hb n bd vd fd) sz) s (rdV X h0 hb n b_2a v_8 fd) H locs := ⟨upd v_2b 2 (nI (b_2a 1)), ⟨rfl, rfl, rfl⟩, G⟩
        refine lv_iconst (v := (-1)) zx zb dX6_number_46 (by decide) ?_
        exact e_int S zr zlk (vp_nar_int _) G (b_2a, v_8) [0, 1] rfl rfl (Or.inr rfl) (⟨hI_b_2a, ⟨⟨hz0_2, hz1_2⟩, Or.inr ⟨fun h => c_7 (by rw [hz3_2 h.1]; exact h.2.2), rfl, hE_v_8_2.trans (congrArg nI hz0_2)⟩⟩⟩) dX6_number_47
set_option maxHeartbeats 4000000 in
set_option maxRecDepth 100000 in
theorem x_numF (l : Launch) (X : EX) (h0 : Nat) (hb : Nat) (n : Nat) (bd : Nat → Nat) (vd : Nat → Int32) (fd : Nat → Int32) (lo : Int32) (hi : Int32) (hI_n : n ≤ 150) (hI_bd : InP bd) (hF : ¬ vd 2 = -1) (sz : Nat) : Met l yX6_number wsX6_number ({ frames := 0, cells := 0, slots := 0, locals := 0 } : Room) (pE X [.ref h0, .int lo, .int hi] (rdV X h0 hb n bd vd fd) sz) (qI (fun (r : Int32) (u : Unit) => r = -1) X (fun (u : Unit) => []) [] sz) 0 0 (va_A [] sz) := by
  refine mk_met (B := (fun _ => True)) (A := (va_A [] sz)) (cc := cX6_number) (maxL := 3) (ret := (some .int)) (by decide) rfl (Nat.le_of_ble_eq_true rfl) k_ro k_a (fun p e s m below meth c S zr zlk znm zsz G ls hl => ?_)
  have S : CallFix p m c cX6_number 3 s _ wsX6_number RX6 := S
  have zx := S.1
  have zb := S.2.1
  have hl : lv_has ls 3 [(0, .ref h0), (1, .int lo), (2, .int hi)] := hl
  have hO_bd := hI_bd
  obtain ⟨hd0_bd, hd1_bd⟩ := hO_bd
  refine lv_aload_n zx zb dX6_number_0 rfl (lv_at hl 0 rfl) ?_
  refine r_get (C := RX6) (T := TX6) (N := 7) (ci := 4) (v := .int (vd 2)) S in_X6_number_X6 G 0 rfl rfl 6 (by decide) lk_X6_number_31 rfl dX6_number_1 ?_
  refine lv_iconst (v := (-1)) zx zb dX6_number_4 (by decide) ?_
  refine lv_icmp_eq (tgt := 10) zx zb dX6_number_5 (by decide) (fun c_1 => absurd c_1 (hF)) (fun c_1 => ?_)
  refine lv_iconst (v := (-1)) zx zb dX6_number_8 (by decide) ?_
  exact e_int S zr zlk (vp_nar_int _) G () [] rfl rfl (Or.inl rfl) (rfl) dX6_number_9
set_option maxHeartbeats 4000000 in
set_option maxRecDepth 100000 in
theorem x_endN (l : Launch) (X : EX) (h0 : Nat) (hb : Nat) (n : Nat) (bd : Nat → Nat) (vd : Nat → Int32) (fd : Nat → Int32) (hI_n : n ≤ 150) (hI_bd : InP bd) (hP : bd 0 ≤ n) (hF : vd 2 = -1) (sz : Nat) : Met l yX6_ended wsX6_ended ({ frames := 3, cells := 0, slots := 0, locals := 60 } : Room) (pE X [.ref h0] (rdV X h0 hb n bd vd fd) sz) (qI (fun (r : Int32) (u : (Nat → Nat) × (Nat → Int32)) => InP u.1 ∧ ((u.1 1 = scanP qB fd n (bd 0) ∧ u.1 0 = tE fd n (scanP qB fd n (bd 0))) ∧ ((tK fd n (scanP qB fd n (bd 0)) = 3 ∧ r = 1 ∧ u.2 2 = -1) ∨ (¬ tK fd n (scanP qB fd n (bd 0)) = 3 ∧ r = 0 ∧ u.2 2 = nI (scanP qB fd n (bd 0)))))) X (fun (u : (Nat → Nat) × (Nat → Int32)) => rdV X h0 hb n u.1 u.2 fd) (rdV X h0 hb n bd vd fd) sz) 0 0 (va_A (rdV X h0 hb n bd vd fd) sz) := by
  refine mk_met (B := (va_A (rdV X h0 hb n bd vd fd) sz)) (A := (va_A (rdV X h0 hb n bd vd fd) sz)) (cc := cX6_ended) (maxL := 1) (ret := (some .boolean)) (by decide) rfl (Nat.le_of_ble_eq_true rfl) k_w k_a (fun p e s m below meth c S zr zlk znm zsz G ls hl => ?_)
  have S : CallFix p m c cX6_ended 1 s _ wsX6_ended RX6 := S
  have zx := S.1
  have zb := S.2.1
  have hl : lv_has ls 1 [(0, .ref h0)] := hl
  have hO_bd := hI_bd
  obtain ⟨hd0_bd, hd1_bd⟩ := hO_bd
  refine lv_aload_n zx zb dX6_ended_0 rfl (lv_at hl 0 rfl) ?_
  refine r_get (C := RX6) (T := TX6) (N := 7) (ci := 4) (v := .int (vd 2)) S in_X6_ended_X6 G 0 rfl rfl 6 (by decide) lk_X6_ended_31 rfl dX6_ended_1 ?_
  refine lv_iconst (v := (-1)) zx zb dX6_ended_4 (by decide) ?_
  refine lv_icmp_eq (tgt := 10) zx zb dX6_ended_5 (by decide) (fun c_1 => ?_) (fun c_1 => absurd (hF) c_1)
  refine lv_aload_n zx zb dX6_ended_10 rfl (lv_at hl 0 rfl) ?_
  refine b_wv (cells' := 0) (slots' := 0) (wr := []) G rfl rfl [0, 1] [] rfl rfl rfl rfl (n_V (As := []) (rest := []) (C := RX6) (T := TX6) (N := 7) (ci := 4) S G (x_nextToken l X h0 hb n bd vd fd hI_n hI_bd (by omega) s.heap.size) gX6_ended_X6_nextToken rfl rfl rfl hdV_X6_nextToken ⟨Nat.le_of_ble_eq_true rfl, Nat.le_of_ble_eq_true rfl⟩ [0, 1] rfl rfl 0 rfl rfl rfl hl.1 (Nat.le_of_ble_eq_true rfl) dX6_ended_11 ⟨Nat.le_of_ble_eq_true rfl, Nat.le_of_ble_eq_true rfl⟩) (fun u_2 H locs hp_2 G => ?_)
  obtain ⟨b_2a, v_2b⟩ := u_2
  try dsimp only at hp_2
  obtain ⟨hI_b_2a, hq_2⟩ := hp_2
  have hO_b_2a := hI_b_2a
  obtain ⟨hd0_b_2a, hd1_b_2a⟩ := hO_b_2a
  have G : wd X (va_A (rdV X h0 hb n bd vd fd) sz) (va_A (rdV X h0 hb n bd vd fd) sz) s (rdV X h0 hb n b_2a v_2b fd) H locs := G
  obtain ⟨hz0_2, hz1_2, hz2_2, hz3_2, hz4_2⟩ := hq_2
  refine lv_aload_n zx zb dX6_ended_14 rfl (lv_at hl 0 rfl) ?_
  refine r_get (C := RX6) (T := TX6) (N := 7) (ci := 4) (v := .int (v_2b 0)) S in_X6_ended_X6 G 0 rfl rfl 4 (by decide) lk_X6_ended_25 rfl dX6_ended_15 ?_
  refine lv_iconst (v := 3) zx zb dX6_ended_18 (by decide) ?_
  refine lv_icmp_eq (tgt := 30) zx zb dX6_ended_19 (by decide) (fun c_3 => ?_) (fun c_3 => ?_)
  · refine lv_aload_n zx zb dX6_ended_30 rfl (lv_at hl 0 rfl) ?_
    refine r_get (C := RX6) (T := TX6) (N := 7) (ci := 4) (v := .int (v_2b 2)) S in_X6_ended_X6 G 0 rfl rfl 6 (by decide) lk_X6_ended_31 rfl dX6_ended_31 ?_
    refine lv_iconst (v := (-1)) zx zb dX6_ended_34 (by decide) ?_
    refine lv_icmp_ne (tgt := 42) zx zb dX6_ended_35 (by decide) (fun c_4 => absurd (hz4_2.trans hF) c_4) (fun c_4 => ?_)
    refine lv_iconst (v := 1) zx zb dX6_ended_38 (by decide) ?_
    refine lv_goto (tgt := 43) zx zb dX6_ended_39 (by decide) ?_
    exact e_int S zr zlk (by decide) G (b_2a, v_2b) [0, 1] rfl rfl (Or.inr rfl) (⟨hI_b_2a, ⟨⟨hz0_2, hz1_2⟩, Or.inl ⟨hz2_2.symm.trans c_3, rfl, hz4_2.trans hF⟩⟩⟩) dX6_ended_43
  · refine lv_aload_n zx zb dX6_ended_22 rfl (lv_at hl 0 rfl) ?_
    refine lv_aload_n zx zb dX6_ended_23 rfl (lv_at hl 0 rfl) ?_
    refine r_get (C := RX6) (T := TX6) (N := 7) (ci := 4) (v := .int (nI (b_2a 1))) S in_X6_ended_X6 G 0 rfl rfl 3 (by decide) lk_X6_ended_22 rfl dX6_ended_24 ?_
    refine r_put (C := RX6) (T := TX6) (N := 7) (ci := 4) (v := .int (nI (b_2a 1))) S in_X6_ended_X6 tyX6_ok nmX6 G 0 rfl rfl 6 (by decide) lk_X6_ended_31 rfl (vp_nar_int _) rfl (Nat.le_of_ble_eq_true rfl) dX6_ended_27 (fun H locs G => ?_)
    obtain ⟨v_5, ⟨hE_v_5_2, hE_v_5_0, hE_v_5_1⟩, G⟩ : ∃ v_5 : Nat → Int32, (v_5 2 = (nI (b_2a 1)) ∧ v_5 0 = v_2b 0 ∧ v_5 1 = v_2b 1) ∧ wd X (va_A (rdV X h0 hb n bd vd fd) sz) (va_A (rdV X h0 hb n bd vd fd) sz) s (rdV X h0 hb n b_2a v_5 fd) H locs := ⟨upd v_2b 2 (nI (b_2a 1)), ⟨rfl, rfl, rfl⟩, G⟩
    refine lv_aload_n zx zb dX6_ended_30 rfl (lv_at hl 0 rfl) ?_
    refine r_get (C := RX6) (T := TX6) (N := 7) (ci := 4) (v := .int (v_5 2)) S in_X6_ended_X6 G 0 rfl rfl 6 (by decide) lk_X6_ended_31 rfl dX6_ended_31 ?_
    refine lv_iconst (v := (-1)) zx zb dX6_ended_34 (by decide) ?_
    refine lv_icmp_ne (tgt := 42) zx zb dX6_ended_35 (by decide) (fun c_6 => ?_) (fun c_6 => absurd c_6 (k_nf (hE_v_5_2.trans (congrArg nI hz0_2)) (by have := scan_le (q := qB) (T := fd) (n := n) (a := bd 0) hP; omega)))
    refine lv_iconst (v := 0) zx zb dX6_ended_42 (by decide) ?_
    exact e_int S zr zlk (by decide) G (b_2a, v_5) [0, 1] rfl rfl (Or.inr rfl) (⟨hI_b_2a, ⟨⟨hz0_2, hz1_2⟩, Or.inr ⟨fun h => c_3 (hz2_2.trans h), rfl, hE_v_5_2.trans (congrArg nI hz0_2)⟩⟩⟩) dX6_ended_43
set_option maxHeartbeats 4000000 in
set_option maxRecDepth 100000 in
theorem x_endF (l : Launch) (X : EX) (h0 : Nat) (hb : Nat) (n : Nat) (bd : Nat → Nat) (vd : Nat → Int32) (fd : Nat → Int32) (hI_n : n ≤ 150) (hI_bd : InP bd) (hF : ¬ vd 2 = -1) (sz : Nat) : Met l yX6_ended wsX6_ended ({ frames := 0, cells := 0, slots := 0, locals := 0 } : Room) (pE X [.ref h0] (rdV X h0 hb n bd vd fd) sz) (qI (fun (r : Int32) (u : Unit) => r = 0) X (fun (u : Unit) => []) [] sz) 0 0 (va_A [] sz) := by
  refine mk_met (B := (fun _ => True)) (A := (va_A [] sz)) (cc := cX6_ended) (maxL := 1) (ret := (some .boolean)) (by decide) rfl (Nat.le_of_ble_eq_true rfl) k_ro k_a (fun p e s m below meth c S zr zlk znm zsz G ls hl => ?_)
  have S : CallFix p m c cX6_ended 1 s _ wsX6_ended RX6 := S
  have zx := S.1
  have zb := S.2.1
  have hl : lv_has ls 1 [(0, .ref h0)] := hl
  have hO_bd := hI_bd
  obtain ⟨hd0_bd, hd1_bd⟩ := hO_bd
  refine lv_aload_n zx zb dX6_ended_0 rfl (lv_at hl 0 rfl) ?_
  refine r_get (C := RX6) (T := TX6) (N := 7) (ci := 4) (v := .int (vd 2)) S in_X6_ended_X6 G 0 rfl rfl 6 (by decide) lk_X6_ended_31 rfl dX6_ended_1 ?_
  refine lv_iconst (v := (-1)) zx zb dX6_ended_4 (by decide) ?_
  refine lv_icmp_eq (tgt := 10) zx zb dX6_ended_5 (by decide) (fun c_1 => absurd c_1 (hF)) (fun c_1 => ?_)
  refine lv_iconst (v := 0) zx zb dX6_ended_8 (by decide) ?_
  exact e_int S zr zlk (by decide) G () [] rfl rfl (Or.inl rfl) (rfl) dX6_ended_9
set_option maxHeartbeats 4000000 in
set_option maxRecDepth 100000 in
theorem x_restart (l : Launch) (X : EX) (hn : Nat) (an : Nat → Nat) (sv : Nat → Int32) (dv : Nat → Int32) (n0 : Nat) (n1 : Nat) (n2 : Nat) (n3 : Nat) (n4 : Nat) (g0 : Nat → Int32) (gs : Nat → Int32) (gn : Nat → Int32) (gm : Nat → Int32) (x1 : Int32) (hI_n0 : n0 ≤ 6) (hI_n1 : n1 ≤ 8) (hI_n2 : n2 ≤ 5) (hI_n3 : n3 ≤ 6) (hI_n4 : n4 ≤ 6) (sz : Nat) : Met l yX5_restart wsX5_restart ({ frames := 0, cells := 0, slots := 0, locals := 0 } : Room) (pE X [.ref hn, .int x1] (rcV X hn an sv dv n0 n1 n2 n3 n4 g0 gs gn gm) sz) (qV (fun (u : (Nat → Int32) × (Nat) × (Nat) × (Nat) × (Nat) × (Nat)) => u.2.1 ≤ 6 ∧ u.2.2.1 ≤ 8 ∧ u.2.2.2.1 ≤ 5 ∧ u.2.2.2.2.1 ≤ 6 ∧ u.2.2.2.2.2 ≤ 6 ∧ (u.1 = upd (upd dv 0 x1) 1 0 ∧ u.2.1 = 0 ∧ u.2.2.2.1 = 0 ∧ u.2.2.2.2.1 = 0 ∧ u.2.2.2.2.2 = 0)) X (fun (u : (Nat → Int32) × (Nat) × (Nat) × (Nat) × (Nat) × (Nat)) => rcV X hn an sv u.1 u.2.1 u.2.2.1 u.2.2.2.1 u.2.2.2.2.1 u.2.2.2.2.2 g0 gs gn gm) (rcV X hn an sv dv n0 n1 n2 n3 n4 g0 gs gn gm) sz) 0 0 (va_A (rcV X hn an sv dv n0 n1 n2 n3 n4 g0 gs gn gm) sz) := by
  refine mk_met (B := (va_A (rcV X hn an sv dv n0 n1 n2 n3 n4 g0 gs gn gm) sz)) (A := (va_A (rcV X hn an sv dv n0 n1 n2 n3 n4 g0 gs gn gm) sz)) (cc := cX5_restart) (maxL := 2) (ret := none) (by decide) rfl (Nat.le_of_ble_eq_true rfl) k_w k_a (fun p e s m below meth c S zr zlk znm zsz G ls hl => ?_)
  have S : CallFix p m c cX5_restart 2 s _ wsX5_restart RX5 := S
  have zx := S.1
  have zb := S.2.1
  have hl : lv_has ls 2 [(0, .ref hn), (1, .int x1)] := hl
  refine lv_aload_n zx zb dX5_restart_0 rfl (lv_at hl 0 rfl) ?_
  refine lv_iload_n zx zb dX5_restart_1 rfl (lv_at hl 1 rfl) ?_
  refine r_put (C := RX5) (T := TX5) (N := 8) (ci := 3) (v := .int x1) S in_X5_restart_X5 tyX5_ok nmX5 G 0 rfl rfl 0 (by decide) lk_X5_restart_9 rfl (vp_nar_int _) rfl (Nat.le_of_ble_eq_true rfl) dX5_restart_2 (fun H locs G => ?_)
  have G : wd X (va_A (rcV X hn an sv dv n0 n1 n2 n3 n4 g0 gs gn gm) sz) (va_A (rcV X hn an sv dv n0 n1 n2 n3 n4 g0 gs gn gm) sz) s (rcV X hn an sv (upd dv 0 x1) n0 n1 n2 n3 n4 g0 gs gn gm) H locs := G
  refine lv_aload_n zx zb dX5_restart_5 rfl (lv_at hl 0 rfl) ?_
  refine lv_iconst (v := 0) zx zb dX5_restart_6 (by decide) ?_
  refine r_put (C := RX5) (T := TX5) (N := 8) (ci := 3) (v := .int 0) S in_X5_restart_X5 tyX5_ok nmX5 G 0 rfl rfl 1 (by decide) lk_X5_restart_15 rfl (vp_nar_int _) rfl (Nat.le_of_ble_eq_true rfl) dX5_restart_7 (fun H locs G => ?_)
  have G : wd X (va_A (rcV X hn an sv dv n0 n1 n2 n3 n4 g0 gs gn gm) sz) (va_A (rcV X hn an sv dv n0 n1 n2 n3 n4 g0 gs gn gm) sz) s (rcV X hn an sv (upd (upd dv 0 x1) 1 0) n0 n1 n2 n3 n4 g0 gs gn gm) H locs := G
  refine lv_aload_n zx zb dX5_restart_10 rfl (lv_at hl 0 rfl) ?_
  refine lv_iconst (v := 0) zx zb dX5_restart_11 (by decide) ?_
  refine r_put (C := RX5) (T := TX5) (N := 8) (ci := 3) (v := .int 0) S in_X5_restart_X5 tyX5_ok nmX5 G 0 rfl rfl 2 (by decide) lk_X5_restart_18 rfl (vp_nar_int _) rfl (Nat.le_of_ble_eq_true rfl) dX5_restart_12 (fun H locs G => ?_)
  obtain ⟨n_1, hI_n_1, hE_n_1, G⟩ : ∃ n_1 : Nat, n_1 ≤ 6 ∧ n_1 = 0 ∧ wd X (va_A (rcV X hn an sv dv n0 n1 n2 n3 n4 g0 gs gn gm) sz) (va_A (rcV X hn an sv dv n0 n1 n2 n3 n4 g0 gs gn gm) sz) s (rcV X hn an sv (upd (upd dv 0 x1) 1 0) n_1 n1 n2 n3 n4 g0 gs gn gm) H locs := ⟨0, by omega, rfl, G⟩
  refine lv_aload_n zx zb dX5_restart_15 rfl (lv_at hl 0 rfl) ?_
  refine r_get (C := RX5) (T := TX5) (N := 8) (ci := 3) (v := .ref (an 7)) S in_X5_restart_X5 G 0 rfl rfl 4 (by decide) lk_X5_restart_30 rfl dX5_restart_16 ?_
  refine lv_iconst (v := 0) zx zb dX5_restart_19 (by decide) ?_
  refine r_put (C := RX4) (T := TX4) (N := 2) (ci := 2) (v := .int 0) S in_X5_restart_X4 tyX4_ok nmX4 G 8 rfl rfl 1 (by decide) lk_X5_restart_50 rfl (vp_nar_int _) rfl (Nat.le_of_ble_eq_true rfl) dX5_restart_20 (fun H locs G => ?_)
  obtain ⟨n_2, hI_n_2, hE_n_2, G⟩ : ∃ n_2 : Nat, n_2 ≤ 8 ∧ n_2 = 0 ∧ wd X (va_A (rcV X hn an sv dv n0 n1 n2 n3 n4 g0 gs gn gm) sz) (va_A (rcV X hn an sv dv n0 n1 n2 n3 n4 g0 gs gn gm) sz) s (rcV X hn an sv (upd (upd dv 0 x1) 1 0) n_1 n_2 n2 n3 n4 g0 gs gn gm) H locs := ⟨0, by omega, rfl, G⟩
  refine lv_aload_n zx zb dX5_restart_23 rfl (lv_at hl 0 rfl) ?_
  refine r_get (C := RX5) (T := TX5) (N := 8) (ci := 3) (v := .ref (an 9)) S in_X5_restart_X5 G 0 rfl rfl 5 (by decide) lk_X5_restart_39 rfl dX5_restart_24 ?_
  refine lv_iconst (v := 0) zx zb dX5_restart_27 (by decide) ?_
  refine r_put (C := RX7) (T := TX7) (N := 5) (ci := 5) (v := .int 0) S in_X5_restart_X7 tyX7_ok nmX7 G 10 rfl rfl 4 (by decide) lk_X5_restart_53 rfl (vp_nar_int _) rfl (Nat.le_of_ble_eq_true rfl) dX5_restart_28 (fun H locs G => ?_)
  obtain ⟨n_3, hI_n_3, hE_n_3, G⟩ : ∃ n_3 : Nat, n_3 ≤ 5 ∧ n_3 = 0 ∧ wd X (va_A (rcV X hn an sv dv n0 n1 n2 n3 n4 g0 gs gn gm) sz) (va_A (rcV X hn an sv dv n0 n1 n2 n3 n4 g0 gs gn gm) sz) s (rcV X hn an sv (upd (upd dv 0 x1) 1 0) n_1 n_2 n_3 n3 n4 g0 gs gn gm) H locs := ⟨0, by omega, rfl, G⟩
  refine lv_aload_n zx zb dX5_restart_31 rfl (lv_at hl 0 rfl) ?_
  refine r_get (C := RX5) (T := TX5) (N := 8) (ci := 3) (v := .ref (an 11)) S in_X5_restart_X5 G 0 rfl rfl 6 (by decide) lk_X5_restart_43 rfl dX5_restart_32 ?_
  refine lv_iconst (v := 0) zx zb dX5_restart_35 (by decide) ?_
  refine r_put (C := RX7) (T := TX7) (N := 5) (ci := 5) (v := .int 0) S in_X5_restart_X7 tyX7_ok nmX7 G 12 rfl rfl 4 (by decide) lk_X5_restart_53 rfl (vp_nar_int _) rfl (Nat.le_of_ble_eq_true rfl) dX5_restart_36 (fun H locs G => ?_)
  obtain ⟨n_4, hI_n_4, hE_n_4, G⟩ : ∃ n_4 : Nat, n_4 ≤ 6 ∧ n_4 = 0 ∧ wd X (va_A (rcV X hn an sv dv n0 n1 n2 n3 n4 g0 gs gn gm) sz) (va_A (rcV X hn an sv dv n0 n1 n2 n3 n4 g0 gs gn gm) sz) s (rcV X hn an sv (upd (upd dv 0 x1) 1 0) n_1 n_2 n_3 n_4 n4 g0 gs gn gm) H locs := ⟨0, by omega, rfl, G⟩
  refine lv_aload_n zx zb dX5_restart_39 rfl (lv_at hl 0 rfl) ?_
  refine r_get (C := RX5) (T := TX5) (N := 8) (ci := 3) (v := .ref (an 13)) S in_X5_restart_X5 G 0 rfl rfl 7 (by decide) lk_X5_restart_46 rfl dX5_restart_40 ?_
  refine lv_iconst (v := 0) zx zb dX5_restart_43 (by decide) ?_
  refine r_put (C := RX7) (T := TX7) (N := 5) (ci := 5) (v := .int 0) S in_X5_restart_X7 tyX7_ok nmX7 G 14 rfl rfl 4 (by decide) lk_X5_restart_53 rfl (vp_nar_int _) rfl (Nat.le_of_ble_eq_true rfl) dX5_restart_44 (fun H locs G => ?_)
  obtain ⟨n_5, hI_n_5, hE_n_5, G⟩ : ∃ n_5 : Nat, n_5 ≤ 6 ∧ n_5 = 0 ∧ wd X (va_A (rcV X hn an sv dv n0 n1 n2 n3 n4 g0 gs gn gm) sz) (va_A (rcV X hn an sv dv n0 n1 n2 n3 n4 g0 gs gn gm) sz) s (rcV X hn an sv (upd (upd dv 0 x1) 1 0) n_1 n_2 n_3 n_4 n_5 g0 gs gn gm) H locs := ⟨0, by omega, rfl, G⟩
  exact e_void S zr zlk G ((upd (upd dv 0 x1) 1 0), n_1, n_2, n_3, n_4, n_5) [0, 1, 2, 3, 4, 5, 6, 7, 8, 9, 10, 11, 12, 13, 14, 15] rfl rfl (Or.inr rfl) (⟨hI_n_1, hI_n_2, hI_n_3, hI_n_4, hI_n_5, ⟨rfl, hE_n_1, hE_n_3, hE_n_4, hE_n_5⟩⟩) dX5_restart_47
set_option maxHeartbeats 4000000 in
set_option maxRecDepth 100000 in
theorem x_welcome (l : Launch) (X : EX) (hn : Nat) (an : Nat → Nat) (sv : Nat → Int32) (dv : Nat → Int32) (n0 : Nat) (n1 : Nat) (n2 : Nat) (n3 : Nat) (n4 : Nat) (g0 : Nat → Int32) (gs : Nat → Int32) (gn : Nat → Int32) (gm : Nat → Int32) (x1 : Int32) (x2 : Int32) (x3 : Int32) (hI_n0 : n0 ≤ 6) (hI_n1 : n1 ≤ 8) (hI_n2 : n2 ≤ 5) (hI_n3 : n3 ≤ 6) (hI_n4 : n4 ≤ 6) (h5 : n0 < 6) (sz : Nat) : Met l yX5_welcome wsX5_welcome ({ frames := 1, cells := 0, slots := 0, locals := 23 } : Room) (pE X [.ref hn, .int x1, .int x2, .int x3] (rcV X hn an sv dv n0 n1 n2 n3 n4 g0 gs gn gm) sz) (qV (fun (u : (Nat → Int32) × (Nat → Int32) × (Nat) × (Nat)) => u.2.2.1 ≤ 6 ∧ u.2.2.2 ≤ 8 ∧ (u.2.2.1 = n0 + 1 ∧ u.1 = addS sv n0 x1 x2 x3 ∧ u.2.1 = addD dv n0)) X (fun (u : (Nat → Int32) × (Nat → Int32) × (Nat) × (Nat)) => rcV X hn an u.1 u.2.1 u.2.2.1 u.2.2.2 n2 n3 n4 g0 gs gn gm) (rcV X hn an sv dv n0 n1 n2 n3 n4 g0 gs gn gm) sz) 0 0 (va_A (rcV X hn an sv dv n0 n1 n2 n3 n4 g0 gs gn gm) sz) := by
  refine mk_met (B := (va_A (rcV X hn an sv dv n0 n1 n2 n3 n4 g0 gs gn gm) sz)) (A := (va_A (rcV X hn an sv dv n0 n1 n2 n3 n4 g0 gs gn gm) sz)) (cc := cX5_welcome) (maxL := 4) (ret := none) (by decide) rfl (Nat.le_of_ble_eq_true rfl) k_w k_a (fun p e s m below meth c S zr zlk znm zsz G ls hl => ?_)
  have S : CallFix p m c cX5_welcome 4 s _ wsX5_welcome RX5 := S
  have zx := S.1
  have zb := S.2.1
  have hl : lv_has ls 4 [(0, .ref hn), (1, .int x1), (2, .int x2), (3, .int x3)] := hl
  refine lv_aload_n zx zb dX5_welcome_0 rfl (lv_at hl 0 rfl) ?_
  refine r_get (C := RX5) (T := TX5) (N := 8) (ci := 3) (v := .int (nI n0)) S in_X5_welcome_X5 G 0 rfl rfl 2 (by decide) lk_X5_welcome_18 rfl dX5_welcome_1 ?_
  refine lv_bipush (v := 6) zx zb dX5_welcome_4 (by decide) ?_
  refine lv_icmp_ge (tgt := 42) zx zb dX5_welcome_6 (by decide) (fun c_1 => ?_) (fun c_1 => ?_)
  · have fc_1 := j_le (a := 6) (b := n0) (by omega) (by omega) c_1
    exact e_void S zr zlk G (sv, dv, n0, n1) [0, 1, 2, 3, 4, 5, 6, 7, 8, 9, 10, 11, 12, 13, 14, 15] rfl rfl (Or.inr rfl) (⟨hI_n0, hI_n1, by exfalso; omega⟩) dX5_welcome_42
  · have fc_1 := j_nle (a := 6) (b := n0) (by omega) (by omega) c_1
    refine lv_aload_n zx zb dX5_welcome_9 rfl (lv_at hl 0 rfl) ?_
    refine r_get (C := RX5) (T := TX5) (N := 8) (ci := 3) (v := .ref (an 0)) S in_X5_welcome_X5 G 0 rfl rfl 3 (by decide) lk_X5_welcome_23 rfl dX5_welcome_10 ?_
    refine lv_aload_n zx zb dX5_welcome_13 rfl (lv_at hl 0 rfl) ?_
    refine r_get (C := RX5) (T := TX5) (N := 8) (ci := 3) (v := .int (nI n0)) S in_X5_welcome_X5 G 0 rfl rfl 2 (by decide) lk_X5_welcome_18 rfl dX5_welcome_14 ?_
    rcases k_6c (show n0 < 6 by omega) with q_2 | q_2 | q_2 | q_2 | q_2 | q_2
    · refine k_it (v := 0) (by rw [q_2]; rfl) ?_
      refine r_aald (C := RX8) (b := (an 1)) S G 1 3 rfl rfl (k_vp (by decide)) rfl dX5_welcome_17 ?_
      refine lv_iload_n zx zb dX5_welcome_18 rfl (lv_at hl 1 rfl) ?_
      refine lv_iload_n zx zb dX5_welcome_19 rfl (lv_at hl 2 rfl) ?_
      refine lv_iload_n zx zb dX5_welcome_20 rfl (lv_at hl 3 rfl) ?_
      refine b_wv (cells' := 0) (slots' := 0) (wr := [(hn, .inr (3, [.int (dv 0), .int (dv 1), .int (nI n0), .ref (an 0), .ref (an 7), .ref (an 9), .ref (an 11), .ref (an 13)])), ((an 0), .inl (X.2.2.2.2, 6, .inr (.inr (.inr (.inr (rowQ an)))))), ((an 2), .inr (6, [.int (sv 3), .int (sv 4), .int (sv 5), .int (dv 15), .int (dv 16), .int (dv 17), .int (dv 18), .int (dv 19)])), ((an 3), .inr (6, [.int (sv 6), .int (sv 7), .int (sv 8), .int (dv 20), .int (dv 21), .int (dv 22), .int (dv 23), .int (dv 24)])), ((an 4), .inr (6, [.int (sv 9), .int (sv 10), .int (sv 11), .int (dv 25), .int (dv 26), .int (dv 27), .int (dv 28), .int (dv 29)])), ((an 5), .inr (6, [.int (sv 12), .int (sv 13), .int (sv 14), .int (dv 30), .int (dv 31), .int (dv 32), .int (dv 33), .int (dv 34)])), ((an 6), .inr (6, [.int (sv 15), .int (sv 16), .int (sv 17), .int (dv 35), .int (dv 36), .int (dv 37), .int (dv 38), .int (dv 39)])), ((an 7), .inr (2, [.ref (an 8), .int (nI n1)])), ((an 8), .inl (X.2.1, 248, .inl g0)), ((an 9), .inr (5, [.int 5, .int 0, .int 1, .ref (an 10), .int (nI n2)])), ((an 10), .inl (X.2.1, 25, .inl gs)), ((an 11), .inr (5, [.int 6, .int 1, .int 1, .ref (an 12), .int (nI n3)])), ((an 12), .inl (X.2.1, 30, .inl gn)), ((an 13), .inr (5, [.int 6, .int 0, .int 0, .ref (an 14), .int (nI n4)])), ((an 14), .inl (X.2.1, 30, .inl gm))]) G rfl rfl [2] [0, 1, 3, 4, 5, 6, 7, 8, 9, 10, 11, 12, 13, 14, 15] rfl rfl rfl rfl (n_V (As := [.int x1, .int x2, .int x3]) (rest := []) (C := RX8) (T := TX8) (N := 8) (ci := 6) S G (x_begin l X (an 1) (fun k => sv (0 + k)) (fun k => dv (10 + k)) x1 x2 x3 s.heap.size) gX5_welcome_X8_begin rfl rfl rfl hdV_X8_begin ⟨Nat.le_of_ble_eq_true rfl, Nat.le_of_ble_eq_true rfl⟩ [2] rfl rfl 2 rfl rfl rfl hl.1 (Nat.le_of_ble_eq_true rfl) dX5_welcome_21 ⟨Nat.le_of_ble_eq_true rfl, Nat.le_of_ble_eq_true rfl⟩) (fun u_3 H locs hp_3 G => ?_)
      obtain ⟨a_3a, d_3b⟩ := u_3
      try dsimp only at hp_3
      have hq_3 := hp_3
      have G : wd X (va_A (rcV X hn an sv dv n0 n1 n2 n3 n4 g0 gs gn gm) sz) (va_A (rcV X hn an sv dv n0 n1 n2 n3 n4 g0 gs gn gm) sz) s (rcV X hn an (ovr sv 0 3 a_3a) (ovr dv 10 5 d_3b) n0 n1 n2 n3 n4 g0 gs gn gm) H locs := wd_sub G [0, 1, 15, 2, 3, 4, 5, 6, 7, 8, 9, 10, 11, 12, 13, 14] rfl rfl
      refine lv_aload_n zx zb dX5_welcome_24 rfl (lv_at hl 0 rfl) ?_
      refine lv_dup zx zb dX5_welcome_25 rfl ?_
      refine r_get (C := RX5) (T := TX5) (N := 8) (ci := 3) (v := .int (nI n0)) S in_X5_welcome_X5 G 0 rfl rfl 2 (by decide) lk_X5_welcome_18 rfl dX5_welcome_26 ?_
      refine lv_iconst (v := 1) zx zb dX5_welcome_29 (by decide) ?_
      refine r_iadd (v := (nI (n0 + 1))) S (nI_add n0 1) dX5_welcome_30 ?_
      refine r_put (C := RX5) (T := TX5) (N := 8) (ci := 3) (v := .int (nI (n0 + 1))) S in_X5_welcome_X5 tyX5_ok nmX5 G 0 rfl rfl 2 (by decide) lk_X5_welcome_18 rfl (vp_nar_int _) rfl (Nat.le_of_ble_eq_true rfl) dX5_welcome_31 (fun H locs G => ?_)
      obtain ⟨n_4, hI_n_4, hE_n_4, G⟩ : ∃ n_4 : Nat, n_4 ≤ 6 ∧ n_4 = (n0 + 1) ∧ wd X (va_A (rcV X hn an sv dv n0 n1 n2 n3 n4 g0 gs gn gm) sz) (va_A (rcV X hn an sv dv n0 n1 n2 n3 n4 g0 gs gn gm) sz) s (rcV X hn an (ovr sv 0 3 a_3a) (ovr dv 10 5 d_3b) n_4 n1 n2 n3 n4 g0 gs gn gm) H locs := ⟨(n0 + 1), by omega, rfl, G⟩
      refine lv_aload_n zx zb dX5_welcome_34 rfl (lv_at hl 0 rfl) ?_
      refine r_get (C := RX5) (T := TX5) (N := 8) (ci := 3) (v := .ref (an 7)) S in_X5_welcome_X5 G 0 rfl rfl 4 (by decide) lk_X5_welcome_30 rfl dX5_welcome_35 ?_
      refine lv_iconst (v := 0) zx zb dX5_welcome_38 (by decide) ?_
      refine r_put (C := RX4) (T := TX4) (N := 2) (ci := 2) (v := .int 0) S in_X5_welcome_X4 tyX4_ok nmX4 G 8 rfl rfl 1 (by decide) lk_X5_welcome_50 rfl (vp_nar_int _) rfl (Nat.le_of_ble_eq_true rfl) dX5_welcome_39 (fun H locs G => ?_)
      obtain ⟨n_5, hI_n_5, hE_n_5, G⟩ : ∃ n_5 : Nat, n_5 ≤ 8 ∧ n_5 = 0 ∧ wd X (va_A (rcV X hn an sv dv n0 n1 n2 n3 n4 g0 gs gn gm) sz) (va_A (rcV X hn an sv dv n0 n1 n2 n3 n4 g0 gs gn gm) sz) s (rcV X hn an (ovr sv 0 3 a_3a) (ovr dv 10 5 d_3b) n_4 n_5 n2 n3 n4 g0 gs gn gm) H locs := ⟨0, by omega, rfl, G⟩
      exact e_void S zr zlk G ((ovr sv 0 3 a_3a), (ovr dv 10 5 d_3b), n_4, n_5) [0, 1, 2, 3, 4, 5, 6, 7, 8, 9, 10, 11, 12, 13, 14, 15] rfl rfl (Or.inr rfl) (⟨hI_n_4, hI_n_5, ⟨by first | omega | (dsimp only; omega), by rw [q_2]; exact ovr_ext3 hq_3.1.1 hq_3.1.2.1 hq_3.1.2.2, by rw [q_2]; exact ovr_ext5 hq_3.2.1 hq_3.2.2.1 hq_3.2.2.2.1 hq_3.2.2.2.2.1 hq_3.2.2.2.2.2⟩⟩) dX5_welcome_42
    · refine k_it (v := 1) (by rw [q_2]; rfl) ?_
      refine r_aald (C := RX8) (b := (an 2)) S G 1 3 rfl rfl (k_vp (by decide)) rfl dX5_welcome_17 ?_
      refine lv_iload_n zx zb dX5_welcome_18 rfl (lv_at hl 1 rfl) ?_
      refine lv_iload_n zx zb dX5_welcome_19 rfl (lv_at hl 2 rfl) ?_
      refine lv_iload_n zx zb dX5_welcome_20 rfl (lv_at hl 3 rfl) ?_
      refine b_wv (cells' := 0) (slots' := 0) (wr := [(hn, .inr (3, [.int (dv 0), .int (dv 1), .int (nI n0), .ref (an 0), .ref (an 7), .ref (an 9), .ref (an 11), .ref (an 13)])), ((an 0), .inl (X.2.2.2.2, 6, .inr (.inr (.inr (.inr (rowQ an)))))), ((an 1), .inr (6, [.int (sv 0), .int (sv 1), .int (sv 2), .int (dv 10), .int (dv 11), .int (dv 12), .int (dv 13), .int (dv 14)])), ((an 3), .inr (6, [.int (sv 6), .int (sv 7), .int (sv 8), .int (dv 20), .int (dv 21), .int (dv 22), .int (dv 23), .int (dv 24)])), ((an 4), .inr (6, [.int (sv 9), .int (sv 10), .int (sv 11), .int (dv 25), .int (dv 26), .int (dv 27), .int (dv 28), .int (dv 29)])), ((an 5), .inr (6, [.int (sv 12), .int (sv 13), .int (sv 14), .int (dv 30), .int (dv 31), .int (dv 32), .int (dv 33), .int (dv 34)])), ((an 6), .inr (6, [.int (sv 15), .int (sv 16), .int (sv 17), .int (dv 35), .int (dv 36), .int (dv 37), .int (dv 38), .int (dv 39)])), ((an 7), .inr (2, [.ref (an 8), .int (nI n1)])), ((an 8), .inl (X.2.1, 248, .inl g0)), ((an 9), .inr (5, [.int 5, .int 0, .int 1, .ref (an 10), .int (nI n2)])), ((an 10), .inl (X.2.1, 25, .inl gs)), ((an 11), .inr (5, [.int 6, .int 1, .int 1, .ref (an 12), .int (nI n3)])), ((an 12), .inl (X.2.1, 30, .inl gn)), ((an 13), .inr (5, [.int 6, .int 0, .int 0, .ref (an 14), .int (nI n4)])), ((an 14), .inl (X.2.1, 30, .inl gm))]) G rfl rfl [3] [0, 1, 2, 4, 5, 6, 7, 8, 9, 10, 11, 12, 13, 14, 15] rfl rfl rfl rfl (n_V (As := [.int x1, .int x2, .int x3]) (rest := []) (C := RX8) (T := TX8) (N := 8) (ci := 6) S G (x_begin l X (an 2) (fun k => sv (3 + k)) (fun k => dv (15 + k)) x1 x2 x3 s.heap.size) gX5_welcome_X8_begin rfl rfl rfl hdV_X8_begin ⟨Nat.le_of_ble_eq_true rfl, Nat.le_of_ble_eq_true rfl⟩ [3] rfl rfl 3 rfl rfl rfl hl.1 (Nat.le_of_ble_eq_true rfl) dX5_welcome_21 ⟨Nat.le_of_ble_eq_true rfl, Nat.le_of_ble_eq_true rfl⟩) (fun u_6 H locs hp_6 G => ?_)
      obtain ⟨a_6a, d_6b⟩ := u_6
      try dsimp only at hp_6
      have hq_6 := hp_6
      have G : wd X (va_A (rcV X hn an sv dv n0 n1 n2 n3 n4 g0 gs gn gm) sz) (va_A (rcV X hn an sv dv n0 n1 n2 n3 n4 g0 gs gn gm) sz) s (rcV X hn an (ovr sv 3 3 a_6a) (ovr dv 15 5 d_6b) n0 n1 n2 n3 n4 g0 gs gn gm) H locs := wd_sub G [0, 1, 2, 15, 3, 4, 5, 6, 7, 8, 9, 10, 11, 12, 13, 14] rfl rfl
      refine lv_aload_n zx zb dX5_welcome_24 rfl (lv_at hl 0 rfl) ?_
      refine lv_dup zx zb dX5_welcome_25 rfl ?_
      refine r_get (C := RX5) (T := TX5) (N := 8) (ci := 3) (v := .int (nI n0)) S in_X5_welcome_X5 G 0 rfl rfl 2 (by decide) lk_X5_welcome_18 rfl dX5_welcome_26 ?_
      refine lv_iconst (v := 1) zx zb dX5_welcome_29 (by decide) ?_
      refine r_iadd (v := (nI (n0 + 1))) S (nI_add n0 1) dX5_welcome_30 ?_
      refine r_put (C := RX5) (T := TX5) (N := 8) (ci := 3) (v := .int (nI (n0 + 1))) S in_X5_welcome_X5 tyX5_ok nmX5 G 0 rfl rfl 2 (by decide) lk_X5_welcome_18 rfl (vp_nar_int _) rfl (Nat.le_of_ble_eq_true rfl) dX5_welcome_31 (fun H locs G => ?_)
      obtain ⟨n_7, hI_n_7, hE_n_7, G⟩ : ∃ n_7 : Nat, n_7 ≤ 6 ∧ n_7 = (n0 + 1) ∧ wd X (va_A (rcV X hn an sv dv n0 n1 n2 n3 n4 g0 gs gn gm) sz) (va_A (rcV X hn an sv dv n0 n1 n2 n3 n4 g0 gs gn gm) sz) s (rcV X hn an (ovr sv 3 3 a_6a) (ovr dv 15 5 d_6b) n_7 n1 n2 n3 n4 g0 gs gn gm) H locs := ⟨(n0 + 1), by omega, rfl, G⟩
      refine lv_aload_n zx zb dX5_welcome_34 rfl (lv_at hl 0 rfl) ?_
      refine r_get (C := RX5) (T := TX5) (N := 8) (ci := 3) (v := .ref (an 7)) S in_X5_welcome_X5 G 0 rfl rfl 4 (by decide) lk_X5_welcome_30 rfl dX5_welcome_35 ?_
      refine lv_iconst (v := 0) zx zb dX5_welcome_38 (by decide) ?_
      refine r_put (C := RX4) (T := TX4) (N := 2) (ci := 2) (v := .int 0) S in_X5_welcome_X4 tyX4_ok nmX4 G 8 rfl rfl 1 (by decide) lk_X5_welcome_50 rfl (vp_nar_int _) rfl (Nat.le_of_ble_eq_true rfl) dX5_welcome_39 (fun H locs G => ?_)
      obtain ⟨n_8, hI_n_8, hE_n_8, G⟩ : ∃ n_8 : Nat, n_8 ≤ 8 ∧ n_8 = 0 ∧ wd X (va_A (rcV X hn an sv dv n0 n1 n2 n3 n4 g0 gs gn gm) sz) (va_A (rcV X hn an sv dv n0 n1 n2 n3 n4 g0 gs gn gm) sz) s (rcV X hn an (ovr sv 3 3 a_6a) (ovr dv 15 5 d_6b) n_7 n_8 n2 n3 n4 g0 gs gn gm) H locs := ⟨0, by omega, rfl, G⟩
      exact e_void S zr zlk G ((ovr sv 3 3 a_6a), (ovr dv 15 5 d_6b), n_7, n_8) [0, 1, 2, 3, 4, 5, 6, 7, 8, 9, 10, 11, 12, 13, 14, 15] rfl rfl (Or.inr rfl) (⟨hI_n_7, hI_n_8, ⟨by first | omega | (dsimp only; omega), by rw [q_2]; exact ovr_ext3 hq_6.1.1 hq_6.1.2.1 hq_6.1.2.2, by rw [q_2]; exact ovr_ext5 hq_6.2.1 hq_6.2.2.1 hq_6.2.2.2.1 hq_6.2.2.2.2.1 hq_6.2.2.2.2.2⟩⟩) dX5_welcome_42
    · refine k_it (v := 2) (by rw [q_2]; rfl) ?_
      refine r_aald (C := RX8) (b := (an 3)) S G 1 3 rfl rfl (k_vp (by decide)) rfl dX5_welcome_17 ?_
      refine lv_iload_n zx zb dX5_welcome_18 rfl (lv_at hl 1 rfl) ?_
      refine lv_iload_n zx zb dX5_welcome_19 rfl (lv_at hl 2 rfl) ?_
      refine lv_iload_n zx zb dX5_welcome_20 rfl (lv_at hl 3 rfl) ?_
      refine b_wv (cells' := 0) (slots' := 0) (wr := [(hn, .inr (3, [.int (dv 0), .int (dv 1), .int (nI n0), .ref (an 0), .ref (an 7), .ref (an 9), .ref (an 11), .ref (an 13)])), ((an 0), .inl (X.2.2.2.2, 6, .inr (.inr (.inr (.inr (rowQ an)))))), ((an 1), .inr (6, [.int (sv 0), .int (sv 1), .int (sv 2), .int (dv 10), .int (dv 11), .int (dv 12), .int (dv 13), .int (dv 14)])), ((an 2), .inr (6, [.int (sv 3), .int (sv 4), .int (sv 5), .int (dv 15), .int (dv 16), .int (dv 17), .int (dv 18), .int (dv 19)])), ((an 4), .inr (6, [.int (sv 9), .int (sv 10), .int (sv 11), .int (dv 25), .int (dv 26), .int (dv 27), .int (dv 28), .int (dv 29)])), ((an 5), .inr (6, [.int (sv 12), .int (sv 13), .int (sv 14), .int (dv 30), .int (dv 31), .int (dv 32), .int (dv 33), .int (dv 34)])), ((an 6), .inr (6, [.int (sv 15), .int (sv 16), .int (sv 17), .int (dv 35), .int (dv 36), .int (dv 37), .int (dv 38), .int (dv 39)])), ((an 7), .inr (2, [.ref (an 8), .int (nI n1)])), ((an 8), .inl (X.2.1, 248, .inl g0)), ((an 9), .inr (5, [.int 5, .int 0, .int 1, .ref (an 10), .int (nI n2)])), ((an 10), .inl (X.2.1, 25, .inl gs)), ((an 11), .inr (5, [.int 6, .int 1, .int 1, .ref (an 12), .int (nI n3)])), ((an 12), .inl (X.2.1, 30, .inl gn)), ((an 13), .inr (5, [.int 6, .int 0, .int 0, .ref (an 14), .int (nI n4)])), ((an 14), .inl (X.2.1, 30, .inl gm))]) G rfl rfl [4] [0, 1, 2, 3, 5, 6, 7, 8, 9, 10, 11, 12, 13, 14, 15] rfl rfl rfl rfl (n_V (As := [.int x1, .int x2, .int x3]) (rest := []) (C := RX8) (T := TX8) (N := 8) (ci := 6) S G (x_begin l X (an 3) (fun k => sv (6 + k)) (fun k => dv (20 + k)) x1 x2 x3 s.heap.size) gX5_welcome_X8_begin rfl rfl rfl hdV_X8_begin ⟨Nat.le_of_ble_eq_true rfl, Nat.le_of_ble_eq_true rfl⟩ [4] rfl rfl 4 rfl rfl rfl hl.1 (Nat.le_of_ble_eq_true rfl) dX5_welcome_21 ⟨Nat.le_of_ble_eq_true rfl, Nat.le_of_ble_eq_true rfl⟩) (fun u_9 H locs hp_9 G => ?_)
      obtain ⟨a_9a, d_9b⟩ := u_9
      try dsimp only at hp_9
      have hq_9 := hp_9
      have G : wd X (va_A (rcV X hn an sv dv n0 n1 n2 n3 n4 g0 gs gn gm) sz) (va_A (rcV X hn an sv dv n0 n1 n2 n3 n4 g0 gs gn gm) sz) s (rcV X hn an (ovr sv 6 3 a_9a) (ovr dv 20 5 d_9b) n0 n1 n2 n3 n4 g0 gs gn gm) H locs := wd_sub G [0, 1, 2, 3, 15, 4, 5, 6, 7, 8, 9, 10, 11, 12, 13, 14] rfl rfl
      refine lv_aload_n zx zb dX5_welcome_24 rfl (lv_at hl 0 rfl) ?_
      refine lv_dup zx zb dX5_welcome_25 rfl ?_
      refine r_get (C := RX5) (T := TX5) (N := 8) (ci := 3) (v := .int (nI n0)) S in_X5_welcome_X5 G 0 rfl rfl 2 (by decide) lk_X5_welcome_18 rfl dX5_welcome_26 ?_
      refine lv_iconst (v := 1) zx zb dX5_welcome_29 (by decide) ?_
      refine r_iadd (v := (nI (n0 + 1))) S (nI_add n0 1) dX5_welcome_30 ?_
      refine r_put (C := RX5) (T := TX5) (N := 8) (ci := 3) (v := .int (nI (n0 + 1))) S in_X5_welcome_X5 tyX5_ok nmX5 G 0 rfl rfl 2 (by decide) lk_X5_welcome_18 rfl (vp_nar_int _) rfl (Nat.le_of_ble_eq_true rfl) dX5_welcome_31 (fun H locs G => ?_)
      obtain ⟨n_10, hI_n_10, hE_n_10, G⟩ : ∃ n_10 : Nat, n_10 ≤ 6 ∧ n_10 = (n0 + 1) ∧ wd X (va_A (rcV X hn an sv dv n0 n1 n2 n3 n4 g0 gs gn gm) sz) (va_A (rcV X hn an sv dv n0 n1 n2 n3 n4 g0 gs gn gm) sz) s (rcV X hn an (ovr sv 6 3 a_9a) (ovr dv 20 5 d_9b) n_10 n1 n2 n3 n4 g0 gs gn gm) H locs := ⟨(n0 + 1), by omega, rfl, G⟩
      refine lv_aload_n zx zb dX5_welcome_34 rfl (lv_at hl 0 rfl) ?_
      refine r_get (C := RX5) (T := TX5) (N := 8) (ci := 3) (v := .ref (an 7)) S in_X5_welcome_X5 G 0 rfl rfl 4 (by decide) lk_X5_welcome_30 rfl dX5_welcome_35 ?_
      refine lv_iconst (v := 0) zx zb dX5_welcome_38 (by decide) ?_
      refine r_put (C := RX4) (T := TX4) (N := 2) (ci := 2) (v := .int 0) S in_X5_welcome_X4 tyX4_ok nmX4 G 8 rfl rfl 1 (by decide) lk_X5_welcome_50 rfl (vp_nar_int _) rfl (Nat.le_of_ble_eq_true rfl) dX5_welcome_39 (fun H locs G => ?_)
      obtain ⟨n_11, hI_n_11, hE_n_11, G⟩ : ∃ n_11 : Nat, n_11 ≤ 8 ∧ n_11 = 0 ∧ wd X (va_A (rcV X hn an sv dv n0 n1 n2 n3 n4 g0 gs gn gm) sz) (va_A (rcV X hn an sv dv n0 n1 n2 n3 n4 g0 gs gn gm) sz) s (rcV X hn an (ovr sv 6 3 a_9a) (ovr dv 20 5 d_9b) n_10 n_11 n2 n3 n4 g0 gs gn gm) H locs := ⟨0, by omega, rfl, G⟩
      exact e_void S zr zlk G ((ovr sv 6 3 a_9a), (ovr dv 20 5 d_9b), n_10, n_11) [0, 1, 2, 3, 4, 5, 6, 7, 8, 9, 10, 11, 12, 13, 14, 15] rfl rfl (Or.inr rfl) (⟨hI_n_10, hI_n_11, ⟨by first | omega | (dsimp only; omega), by rw [q_2]; exact ovr_ext3 hq_9.1.1 hq_9.1.2.1 hq_9.1.2.2, by rw [q_2]; exact ovr_ext5 hq_9.2.1 hq_9.2.2.1 hq_9.2.2.2.1 hq_9.2.2.2.2.1 hq_9.2.2.2.2.2⟩⟩) dX5_welcome_42
    · refine k_it (v := 3) (by rw [q_2]; rfl) ?_
      refine r_aald (C := RX8) (b := (an 4)) S G 1 3 rfl rfl (k_vp (by decide)) rfl dX5_welcome_17 ?_
      refine lv_iload_n zx zb dX5_welcome_18 rfl (lv_at hl 1 rfl) ?_
      refine lv_iload_n zx zb dX5_welcome_19 rfl (lv_at hl 2 rfl) ?_
      refine lv_iload_n zx zb dX5_welcome_20 rfl (lv_at hl 3 rfl) ?_
      refine b_wv (cells' := 0) (slots' := 0) (wr := [(hn, .inr (3, [.int (dv 0), .int (dv 1), .int (nI n0), .ref (an 0), .ref (an 7), .ref (an 9), .ref (an 11), .ref (an 13)])), ((an 0), .inl (X.2.2.2.2, 6, .inr (.inr (.inr (.inr (rowQ an)))))), ((an 1), .inr (6, [.int (sv 0), .int (sv 1), .int (sv 2), .int (dv 10), .int (dv 11), .int (dv 12), .int (dv 13), .int (dv 14)])), ((an 2), .inr (6, [.int (sv 3), .int (sv 4), .int (sv 5), .int (dv 15), .int (dv 16), .int (dv 17), .int (dv 18), .int (dv 19)])), ((an 3), .inr (6, [.int (sv 6), .int (sv 7), .int (sv 8), .int (dv 20), .int (dv 21), .int (dv 22), .int (dv 23), .int (dv 24)])), ((an 5), .inr (6, [.int (sv 12), .int (sv 13), .int (sv 14), .int (dv 30), .int (dv 31), .int (dv 32), .int (dv 33), .int (dv 34)])), ((an 6), .inr (6, [.int (sv 15), .int (sv 16), .int (sv 17), .int (dv 35), .int (dv 36), .int (dv 37), .int (dv 38), .int (dv 39)])), ((an 7), .inr (2, [.ref (an 8), .int (nI n1)])), ((an 8), .inl (X.2.1, 248, .inl g0)), ((an 9), .inr (5, [.int 5, .int 0, .int 1, .ref (an 10), .int (nI n2)])), ((an 10), .inl (X.2.1, 25, .inl gs)), ((an 11), .inr (5, [.int 6, .int 1, .int 1, .ref (an 12), .int (nI n3)])), ((an 12), .inl (X.2.1, 30, .inl gn)), ((an 13), .inr (5, [.int 6, .int 0, .int 0, .ref (an 14), .int (nI n4)])), ((an 14), .inl (X.2.1, 30, .inl gm))]) G rfl rfl [5] [0, 1, 2, 3, 4, 6, 7, 8, 9, 10, 11, 12, 13, 14, 15] rfl rfl rfl rfl (n_V (As := [.int x1, .int x2, .int x3]) (rest := []) (C := RX8) (T := TX8) (N := 8) (ci := 6) S G (x_begin l X (an 4) (fun k => sv (9 + k)) (fun k => dv (25 + k)) x1 x2 x3 s.heap.size) gX5_welcome_X8_begin rfl rfl rfl hdV_X8_begin ⟨Nat.le_of_ble_eq_true rfl, Nat.le_of_ble_eq_true rfl⟩ [5] rfl rfl 5 rfl rfl rfl hl.1 (Nat.le_of_ble_eq_true rfl) dX5_welcome_21 ⟨Nat.le_of_ble_eq_true rfl, Nat.le_of_ble_eq_true rfl⟩) (fun u_12 H locs hp_12 G => ?_)
      obtain ⟨a_12a, d_12b⟩ := u_12
      try dsimp only at hp_12
      have hq_12 := hp_12
      have G : wd X (va_A (rcV X hn an sv dv n0 n1 n2 n3 n4 g0 gs gn gm) sz) (va_A (rcV X hn an sv dv n0 n1 n2 n3 n4 g0 gs gn gm) sz) s (rcV X hn an (ovr sv 9 3 a_12a) (ovr dv 25 5 d_12b) n0 n1 n2 n3 n4 g0 gs gn gm) H locs := wd_sub G [0, 1, 2, 3, 4, 15, 5, 6, 7, 8, 9, 10, 11, 12, 13, 14] rfl rfl
      refine lv_aload_n zx zb dX5_welcome_24 rfl (lv_at hl 0 rfl) ?_
      refine lv_dup zx zb dX5_welcome_25 rfl ?_
      refine r_get (C := RX5) (T := TX5) (N := 8) (ci := 3) (v := .int (nI n0)) S in_X5_welcome_X5 G 0 rfl rfl 2 (by decide) lk_X5_welcome_18 rfl dX5_welcome_26 ?_
      refine lv_iconst (v := 1) zx zb dX5_welcome_29 (by decide) ?_
      refine r_iadd (v := (nI (n0 + 1))) S (nI_add n0 1) dX5_welcome_30 ?_
      refine r_put (C := RX5) (T := TX5) (N := 8) (ci := 3) (v := .int (nI (n0 + 1))) S in_X5_welcome_X5 tyX5_ok nmX5 G 0 rfl rfl 2 (by decide) lk_X5_welcome_18 rfl (vp_nar_int _) rfl (Nat.le_of_ble_eq_true rfl) dX5_welcome_31 (fun H locs G => ?_)
      obtain ⟨n_13, hI_n_13, hE_n_13, G⟩ : ∃ n_13 : Nat, n_13 ≤ 6 ∧ n_13 = (n0 + 1) ∧ wd X (va_A (rcV X hn an sv dv n0 n1 n2 n3 n4 g0 gs gn gm) sz) (va_A (rcV X hn an sv dv n0 n1 n2 n3 n4 g0 gs gn gm) sz) s (rcV X hn an (ovr sv 9 3 a_12a) (ovr dv 25 5 d_12b) n_13 n1 n2 n3 n4 g0 gs gn gm) H locs := ⟨(n0 + 1), by omega, rfl, G⟩
      refine lv_aload_n zx zb dX5_welcome_34 rfl (lv_at hl 0 rfl) ?_
      refine r_get (C := RX5) (T := TX5) (N := 8) (ci := 3) (v := .ref (an 7)) S in_X5_welcome_X5 G 0 rfl rfl 4 (by decide) lk_X5_welcome_30 rfl dX5_welcome_35 ?_
      refine lv_iconst (v := 0) zx zb dX5_welcome_38 (by decide) ?_
      refine r_put (C := RX4) (T := TX4) (N := 2) (ci := 2) (v := .int 0) S in_X5_welcome_X4 tyX4_ok nmX4 G 8 rfl rfl 1 (by decide) lk_X5_welcome_50 rfl (vp_nar_int _) rfl (Nat.le_of_ble_eq_true rfl) dX5_welcome_39 (fun H locs G => ?_)
      obtain ⟨n_14, hI_n_14, hE_n_14, G⟩ : ∃ n_14 : Nat, n_14 ≤ 8 ∧ n_14 = 0 ∧ wd X (va_A (rcV X hn an sv dv n0 n1 n2 n3 n4 g0 gs gn gm) sz) (va_A (rcV X hn an sv dv n0 n1 n2 n3 n4 g0 gs gn gm) sz) s (rcV X hn an (ovr sv 9 3 a_12a) (ovr dv 25 5 d_12b) n_13 n_14 n2 n3 n4 g0 gs gn gm) H locs := ⟨0, by omega, rfl, G⟩
      exact e_void S zr zlk G ((ovr sv 9 3 a_12a), (ovr dv 25 5 d_12b), n_13, n_14) [0, 1, 2, 3, 4, 5, 6, 7, 8, 9, 10, 11, 12, 13, 14, 15] rfl rfl (Or.inr rfl) (⟨hI_n_13, hI_n_14, ⟨by first | omega | (dsimp only; omega), by rw [q_2]; exact ovr_ext3 hq_12.1.1 hq_12.1.2.1 hq_12.1.2.2, by rw [q_2]; exact ovr_ext5 hq_12.2.1 hq_12.2.2.1 hq_12.2.2.2.1 hq_12.2.2.2.2.1 hq_12.2.2.2.2.2⟩⟩) dX5_welcome_42
    · refine k_it (v := 4) (by rw [q_2]; rfl) ?_
      refine r_aald (C := RX8) (b := (an 5)) S G 1 3 rfl rfl (k_vp (by decide)) rfl dX5_welcome_17 ?_
      refine lv_iload_n zx zb dX5_welcome_18 rfl (lv_at hl 1 rfl) ?_
      refine lv_iload_n zx zb dX5_welcome_19 rfl (lv_at hl 2 rfl) ?_
      refine lv_iload_n zx zb dX5_welcome_20 rfl (lv_at hl 3 rfl) ?_
      refine b_wv (cells' := 0) (slots' := 0) (wr := [(hn, .inr (3, [.int (dv 0), .int (dv 1), .int (nI n0), .ref (an 0), .ref (an 7), .ref (an 9), .ref (an 11), .ref (an 13)])), ((an 0), .inl (X.2.2.2.2, 6, .inr (.inr (.inr (.inr (rowQ an)))))), ((an 1), .inr (6, [.int (sv 0), .int (sv 1), .int (sv 2), .int (dv 10), .int (dv 11), .int (dv 12), .int (dv 13), .int (dv 14)])), ((an 2), .inr (6, [.int (sv 3), .int (sv 4), .int (sv 5), .int (dv 15), .int (dv 16), .int (dv 17), .int (dv 18), .int (dv 19)])), ((an 3), .inr (6, [.int (sv 6), .int (sv 7), .int (sv 8), .int (dv 20), .int (dv 21), .int (dv 22), .int (dv 23), .int (dv 24)])), ((an 4), .inr (6, [.int (sv 9), .int (sv 10), .int (sv 11), .int (dv 25), .int (dv 26), .int (dv 27), .int (dv 28), .int (dv 29)])), ((an 6), .inr (6, [.int (sv 15), .int (sv 16), .int (sv 17), .int (dv 35), .int (dv 36), .int (dv 37), .int (dv 38), .int (dv 39)])), ((an 7), .inr (2, [.ref (an 8), .int (nI n1)])), ((an 8), .inl (X.2.1, 248, .inl g0)), ((an 9), .inr (5, [.int 5, .int 0, .int 1, .ref (an 10), .int (nI n2)])), ((an 10), .inl (X.2.1, 25, .inl gs)), ((an 11), .inr (5, [.int 6, .int 1, .int 1, .ref (an 12), .int (nI n3)])), ((an 12), .inl (X.2.1, 30, .inl gn)), ((an 13), .inr (5, [.int 6, .int 0, .int 0, .ref (an 14), .int (nI n4)])), ((an 14), .inl (X.2.1, 30, .inl gm))]) G rfl rfl [6] [0, 1, 2, 3, 4, 5, 7, 8, 9, 10, 11, 12, 13, 14, 15] rfl rfl rfl rfl (n_V (As := [.int x1, .int x2, .int x3]) (rest := []) (C := RX8) (T := TX8) (N := 8) (ci := 6) S G (x_begin l X (an 5) (fun k => sv (12 + k)) (fun k => dv (30 + k)) x1 x2 x3 s.heap.size) gX5_welcome_X8_begin rfl rfl rfl hdV_X8_begin ⟨Nat.le_of_ble_eq_true rfl, Nat.le_of_ble_eq_true rfl⟩ [6] rfl rfl 6 rfl rfl rfl hl.1 (Nat.le_of_ble_eq_true rfl) dX5_welcome_21 ⟨Nat.le_of_ble_eq_true rfl, Nat.le_of_ble_eq_true rfl⟩) (fun u_15 H locs hp_15 G => ?_)
      obtain ⟨a_15a, d_15b⟩ := u_15
      try dsimp only at hp_15
      have hq_15 := hp_15
      have G : wd X (va_A (rcV X hn an sv dv n0 n1 n2 n3 n4 g0 gs gn gm) sz) (va_A (rcV X hn an sv dv n0 n1 n2 n3 n4 g0 gs gn gm) sz) s (rcV X hn an (ovr sv 12 3 a_15a) (ovr dv 30 5 d_15b) n0 n1 n2 n3 n4 g0 gs gn gm) H locs := wd_sub G [0, 1, 2, 3, 4, 5, 15, 6, 7, 8, 9, 10, 11, 12, 13, 14] rfl rfl
      refine lv_aload_n zx zb dX5_welcome_24 rfl (lv_at hl 0 rfl) ?_
      refine lv_dup zx zb dX5_welcome_25 rfl ?_
      refine r_get (C := RX5) (T := TX5) (N := 8) (ci := 3) (v := .int (nI n0)) S in_X5_welcome_X5 G 0 rfl rfl 2 (by decide) lk_X5_welcome_18 rfl dX5_welcome_26 ?_
      refine lv_iconst (v := 1) zx zb dX5_welcome_29 (by decide) ?_
      refine r_iadd (v := (nI (n0 + 1))) S (nI_add n0 1) dX5_welcome_30 ?_
      refine r_put (C := RX5) (T := TX5) (N := 8) (ci := 3) (v := .int (nI (n0 + 1))) S in_X5_welcome_X5 tyX5_ok nmX5 G 0 rfl rfl 2 (by decide) lk_X5_welcome_18 rfl (vp_nar_int _) rfl (Nat.le_of_ble_eq_true rfl) dX5_welcome_31 (fun H locs G => ?_)
      obtain ⟨n_16, hI_n_16, hE_n_16, G⟩ : ∃ n_16 : Nat, n_16 ≤ 6 ∧ n_16 = (n0 + 1) ∧ wd X (va_A (rcV X hn an sv dv n0 n1 n2 n3 n4 g0 gs gn gm) sz) (va_A (rcV X hn an sv dv n0 n1 n2 n3 n4 g0 gs gn gm) sz) s (rcV X hn an (ovr sv 12 3 a_15a) (ovr dv 30 5 d_15b) n_16 n1 n2 n3 n4 g0 gs gn gm) H locs := ⟨(n0 + 1), by omega, rfl, G⟩
      refine lv_aload_n zx zb dX5_welcome_34 rfl (lv_at hl 0 rfl) ?_
      refine r_get (C := RX5) (T := TX5) (N := 8) (ci := 3) (v := .ref (an 7)) S in_X5_welcome_X5 G 0 rfl rfl 4 (by decide) lk_X5_welcome_30 rfl dX5_welcome_35 ?_
      refine lv_iconst (v := 0) zx zb dX5_welcome_38 (by decide) ?_
      refine r_put (C := RX4) (T := TX4) (N := 2) (ci := 2) (v := .int 0) S in_X5_welcome_X4 tyX4_ok nmX4 G 8 rfl rfl 1 (by decide) lk_X5_welcome_50 rfl (vp_nar_int _) rfl (Nat.le_of_ble_eq_true rfl) dX5_welcome_39 (fun H locs G => ?_)
      obtain ⟨n_17, hI_n_17, hE_n_17, G⟩ : ∃ n_17 : Nat, n_17 ≤ 8 ∧ n_17 = 0 ∧ wd X (va_A (rcV X hn an sv dv n0 n1 n2 n3 n4 g0 gs gn gm) sz) (va_A (rcV X hn an sv dv n0 n1 n2 n3 n4 g0 gs gn gm) sz) s (rcV X hn an (ovr sv 12 3 a_15a) (ovr dv 30 5 d_15b) n_16 n_17 n2 n3 n4 g0 gs gn gm) H locs := ⟨0, by omega, rfl, G⟩
      exact e_void S zr zlk G ((ovr sv 12 3 a_15a), (ovr dv 30 5 d_15b), n_16, n_17) [0, 1, 2, 3, 4, 5, 6, 7, 8, 9, 10, 11, 12, 13, 14, 15] rfl rfl (Or.inr rfl) (⟨hI_n_16, hI_n_17, ⟨by first | omega | (dsimp only; omega), by rw [q_2]; exact ovr_ext3 hq_15.1.1 hq_15.1.2.1 hq_15.1.2.2, by rw [q_2]; exact ovr_ext5 hq_15.2.1 hq_15.2.2.1 hq_15.2.2.2.1 hq_15.2.2.2.2.1 hq_15.2.2.2.2.2⟩⟩) dX5_welcome_42
    · refine k_it (v := 5) (by rw [q_2]; rfl) ?_
      refine r_aald (C := RX8) (b := (an 6)) S G 1 3 rfl rfl (k_vp (by decide)) rfl dX5_welcome_17 ?_
      refine lv_iload_n zx zb dX5_welcome_18 rfl (lv_at hl 1 rfl) ?_
      refine lv_iload_n zx zb dX5_welcome_19 rfl (lv_at hl 2 rfl) ?_
      refine lv_iload_n zx zb dX5_welcome_20 rfl (lv_at hl 3 rfl) ?_
      refine b_wv (cells' := 0) (slots' := 0) (wr := [(hn, .inr (3, [.int (dv 0), .int (dv 1), .int (nI n0), .ref (an 0), .ref (an 7), .ref (an 9), .ref (an 11), .ref (an 13)])), ((an 0), .inl (X.2.2.2.2, 6, .inr (.inr (.inr (.inr (rowQ an)))))), ((an 1), .inr (6, [.int (sv 0), .int (sv 1), .int (sv 2), .int (dv 10), .int (dv 11), .int (dv 12), .int (dv 13), .int (dv 14)])), ((an 2), .inr (6, [.int (sv 3), .int (sv 4), .int (sv 5), .int (dv 15), .int (dv 16), .int (dv 17), .int (dv 18), .int (dv 19)])), ((an 3), .inr (6, [.int (sv 6), .int (sv 7), .int (sv 8), .int (dv 20), .int (dv 21), .int (dv 22), .int (dv 23), .int (dv 24)])), ((an 4), .inr (6, [.int (sv 9), .int (sv 10), .int (sv 11), .int (dv 25), .int (dv 26), .int (dv 27), .int (dv 28), .int (dv 29)])), ((an 5), .inr (6, [.int (sv 12), .int (sv 13), .int (sv 14), .int (dv 30), .int (dv 31), .int (dv 32), .int (dv 33), .int (dv 34)])), ((an 7), .inr (2, [.ref (an 8), .int (nI n1)])), ((an 8), .inl (X.2.1, 248, .inl g0)), ((an 9), .inr (5, [.int 5, .int 0, .int 1, .ref (an 10), .int (nI n2)])), ((an 10), .inl (X.2.1, 25, .inl gs)), ((an 11), .inr (5, [.int 6, .int 1, .int 1, .ref (an 12), .int (nI n3)])), ((an 12), .inl (X.2.1, 30, .inl gn)), ((an 13), .inr (5, [.int 6, .int 0, .int 0, .ref (an 14), .int (nI n4)])), ((an 14), .inl (X.2.1, 30, .inl gm))]) G rfl rfl [7] [0, 1, 2, 3, 4, 5, 6, 8, 9, 10, 11, 12, 13, 14, 15] rfl rfl rfl rfl (n_V (As := [.int x1, .int x2, .int x3]) (rest := []) (C := RX8) (T := TX8) (N := 8) (ci := 6) S G (x_begin l X (an 6) (fun k => sv (15 + k)) (fun k => dv (35 + k)) x1 x2 x3 s.heap.size) gX5_welcome_X8_begin rfl rfl rfl hdV_X8_begin ⟨Nat.le_of_ble_eq_true rfl, Nat.le_of_ble_eq_true rfl⟩ [7] rfl rfl 7 rfl rfl rfl hl.1 (Nat.le_of_ble_eq_true rfl) dX5_welcome_21 ⟨Nat.le_of_ble_eq_true rfl, Nat.le_of_ble_eq_true rfl⟩) (fun u_18 H locs hp_18 G => ?_)
      obtain ⟨a_18a, d_18b⟩ := u_18
      try dsimp only at hp_18
      have hq_18 := hp_18
      have G : wd X (va_A (rcV X hn an sv dv n0 n1 n2 n3 n4 g0 gs gn gm) sz) (va_A (rcV X hn an sv dv n0 n1 n2 n3 n4 g0 gs gn gm) sz) s (rcV X hn an (ovr sv 15 3 a_18a) (ovr dv 35 5 d_18b) n0 n1 n2 n3 n4 g0 gs gn gm) H locs := wd_sub G [0, 1, 2, 3, 4, 5, 6, 15, 7, 8, 9, 10, 11, 12, 13, 14] rfl rfl
      refine lv_aload_n zx zb dX5_welcome_24 rfl (lv_at hl 0 rfl) ?_
      refine lv_dup zx zb dX5_welcome_25 rfl ?_
      refine r_get (C := RX5) (T := TX5) (N := 8) (ci := 3) (v := .int (nI n0)) S in_X5_welcome_X5 G 0 rfl rfl 2 (by decide) lk_X5_welcome_18 rfl dX5_welcome_26 ?_
      refine lv_iconst (v := 1) zx zb dX5_welcome_29 (by decide) ?_
      refine r_iadd (v := (nI (n0 + 1))) S (nI_add n0 1) dX5_welcome_30 ?_
      refine r_put (C := RX5) (T := TX5) (N := 8) (ci := 3) (v := .int (nI (n0 + 1))) S in_X5_welcome_X5 tyX5_ok nmX5 G 0 rfl rfl 2 (by decide) lk_X5_welcome_18 rfl (vp_nar_int _) rfl (Nat.le_of_ble_eq_true rfl) dX5_welcome_31 (fun H locs G => ?_)
      obtain ⟨n_19, hI_n_19, hE_n_19, G⟩ : ∃ n_19 : Nat, n_19 ≤ 6 ∧ n_19 = (n0 + 1) ∧ wd X (va_A (rcV X hn an sv dv n0 n1 n2 n3 n4 g0 gs gn gm) sz) (va_A (rcV X hn an sv dv n0 n1 n2 n3 n4 g0 gs gn gm) sz) s (rcV X hn an (ovr sv 15 3 a_18a) (ovr dv 35 5 d_18b) n_19 n1 n2 n3 n4 g0 gs gn gm) H locs := ⟨(n0 + 1), by omega, rfl, G⟩
      refine lv_aload_n zx zb dX5_welcome_34 rfl (lv_at hl 0 rfl) ?_
      refine r_get (C := RX5) (T := TX5) (N := 8) (ci := 3) (v := .ref (an 7)) S in_X5_welcome_X5 G 0 rfl rfl 4 (by decide) lk_X5_welcome_30 rfl dX5_welcome_35 ?_
      refine lv_iconst (v := 0) zx zb dX5_welcome_38 (by decide) ?_
      refine r_put (C := RX4) (T := TX4) (N := 2) (ci := 2) (v := .int 0) S in_X5_welcome_X4 tyX4_ok nmX4 G 8 rfl rfl 1 (by decide) lk_X5_welcome_50 rfl (vp_nar_int _) rfl (Nat.le_of_ble_eq_true rfl) dX5_welcome_39 (fun H locs G => ?_)
      obtain ⟨n_20, hI_n_20, hE_n_20, G⟩ : ∃ n_20 : Nat, n_20 ≤ 8 ∧ n_20 = 0 ∧ wd X (va_A (rcV X hn an sv dv n0 n1 n2 n3 n4 g0 gs gn gm) sz) (va_A (rcV X hn an sv dv n0 n1 n2 n3 n4 g0 gs gn gm) sz) s (rcV X hn an (ovr sv 15 3 a_18a) (ovr dv 35 5 d_18b) n_19 n_20 n2 n3 n4 g0 gs gn gm) H locs := ⟨0, by omega, rfl, G⟩
      exact e_void S zr zlk G ((ovr sv 15 3 a_18a), (ovr dv 35 5 d_18b), n_19, n_20) [0, 1, 2, 3, 4, 5, 6, 7, 8, 9, 10, 11, 12, 13, 14, 15] rfl rfl (Or.inr rfl) (⟨hI_n_19, hI_n_20, ⟨by first | omega | (dsimp only; omega), by rw [q_2]; exact ovr_ext3 hq_18.1.1 hq_18.1.2.1 hq_18.1.2.2, by rw [q_2]; exact ovr_ext5 hq_18.2.1 hq_18.2.2.1 hq_18.2.2.2.1 hq_18.2.2.2.2.1 hq_18.2.2.2.2.2⟩⟩) dX5_welcome_42
set_option maxHeartbeats 4000000 in
set_option maxRecDepth 100000 in
theorem x_takeRunner (l : Launch) (X : EX) (h0 : Nat) (hb : Nat) (n : Nat) (bd : Nat → Nat) (vd : Nat → Int32) (fd : Nat → Int32) (s0 : Nat) (hn : Nat) (an : Nat → Nat) (sv : Nat → Int32) (dv : Nat → Int32) (n0 : Nat) (n1 : Nat) (n2 : Nat) (n3 : Nat) (n4 : Nat) (g0 : Nat → Int32) (gs : Nat → Int32) (gn : Nat → Int32) (gm : Nat → Int32) (hI_n : n ≤ 150) (hI_bd : InP bd) (hI_n0 : n0 ≤ 6) (hI_n1 : n1 ≤ 8) (hI_n2 : n2 ≤ 5) (hI_n3 : n3 ≤ 6) (hI_n4 : n4 ≤ 6) (hP : s0 ≤ n) (hA : bd 0 = tE fd n s0) (hF : vd 2 = -1) (h5 : n0 < 6) (sz : Nat) : Met l yX6_takeRunner wsX6_takeRunner ({ frames := 4, cells := 0, slots := 0, locals := 82 } : Room) (pE X [.ref h0, .ref hn] (@HAppend.hAppend va_W va_W va_W _ (rdV X h0 hb n bd vd fd) (rcV X hn an sv dv n0 n1 n2 n3 n4 g0 gs gn gm)) sz) (qV (fun (u : (Nat → Nat) × (Nat → Int32) × (Nat → Int32) × (Nat → Int32) × (Nat) × (Nat)) => InP u.1 ∧ u.2.2.2.2.1 ≤ 6 ∧ u.2.2.2.2.2 ≤ 8 ∧ ((oneC fd n s0 = none ∧ u.2.2.2.2.1 = n0 + 1 ∧ u.2.2.1 = addS sv n0 (tV fd n (tN fd n s0)) (tV fd n (t2 fd n s0)) (tV fd n (t3 fd n s0)) ∧ u.2.2.2.1 = addD dv n0 ∧ u.2.1 2 = -1 ∧ u.1 0 = tE fd n (t4 fd n s0)) ∨ (∃ p : Nat, oneC fd n s0 = some p ∧ u.2.1 2 = nI p ∧ p ≤ n))) X (fun (u : (Nat → Nat) × (Nat → Int32) × (Nat → Int32) × (Nat → Int32) × (Nat) × (Nat)) => @HAppend.hAppend va_W va_W va_W _ (rdV X h0 hb n u.1 u.2.1 fd) (rcV X hn an u.2.2.1 u.2.2.2.1 u.2.2.2.2.1 u.2.2.2.2.2 n2 n3 n4 g0 gs gn gm)) (@HAppend.hAppend va_W va_W va_W _ (rdV X h0 hb n bd vd fd) (rcV X hn an sv dv n0 n1 n2 n3 n4 g0 gs gn gm)) sz) 0 0 (va_A (@HAppend.hAppend va_W va_W va_W _ (rdV X h0 hb n bd vd fd) (rcV X hn an sv dv n0 n1 n2 n3 n4 g0 gs gn gm)) sz) := by
  refine mk_met (B := (va_A (@HAppend.hAppend va_W va_W va_W _ (rdV X h0 hb n bd vd fd) (rcV X hn an sv dv n0 n1 n2 n3 n4 g0 gs gn gm)) sz)) (A := (va_A (@HAppend.hAppend va_W va_W va_W _ (rdV X h0 hb n bd vd fd) (rcV X hn an sv dv n0 n1 n2 n3 n4 g0 gs gn gm)) sz)) (cc := cX6_takeRunner) (maxL := 5) (ret := none) (by decide) rfl (Nat.le_of_ble_eq_true rfl) k_w k_a (fun p e s m below meth c S zr zlk znm zsz G ls hl => ?_)
  have S : CallFix p m c cX6_takeRunner 5 s _ wsX6_takeRunner RX6 := S
  have zx := S.1
  have zb := S.2.1
  have hl : lv_has ls 5 [(0, .ref h0), (1, .ref hn)] := hl
  have hO_bd := hI_bd
  obtain ⟨hd0_bd, hd1_bd⟩ := hO_bd
  have hTs := tE_le (T := fd) (n := n) (s := s0) hP
  have hT0 := tN_le (T := fd) (n := n) (s := s0) hP
  have hT1 : tE fd n (tN fd n s0) ≤ t2 fd n s0 ∧ t2 fd n s0 ≤ n := tN_le hT0.2
  have hT2 : tE fd n (t2 fd n s0) ≤ t3 fd n s0 ∧ t3 fd n s0 ≤ n := tN_le hT1.2
  have hT3 : tE fd n (t3 fd n s0) ≤ t4 fd n s0 ∧ t4 fd n s0 ≤ n := tN_le hT2.2
  have hU0 := tE_le (T := fd) (n := n) (s := tN fd n s0) hT0.2
  have hU1 := tE_le (T := fd) (n := n) (s := t2 fd n s0) hT1.2
  have hU2 := tE_le (T := fd) (n := n) (s := t3 fd n s0) hT2.2
  have hU3 := tE_le (T := fd) (n := n) (s := t4 fd n s0) hT3.2
  refine lv_aload_n zx zb dX6_takeRunner_0 rfl (lv_at hl 0 rfl) ?_
  refine lv_iconst (v := 0) zx zb dX6_takeRunner_1 (by decide) ?_
  refine lv_iconst (v := 5) zx zb dX6_takeRunner_2 (by decide) ?_
  refine b_wi (cells' := 0) (slots' := 0) (wr := rcV X hn an sv dv n0 n1 n2 n3 n4 g0 gs gn gm) G rfl rfl [0, 1] [2, 3, 4, 5, 6, 7, 8, 9, 10, 11, 12, 13, 14, 15, 16, 17] rfl rfl rfl rfl (n_V (As := [.int 0, .int 5]) (rest := []) (C := RX6) (T := TX6) (N := 7) (ci := 4) S G (x_numN l X h0 hb n bd vd fd 0 5 hI_n hI_bd (by have := hT0; have := hT1; have := hT2; have := hT3; omega) hF s.heap.size) gX6_takeRunner_X6_number rfl rfl rfl hdV_X6_number ⟨Nat.le_of_ble_eq_true rfl, Nat.le_of_ble_eq_true rfl⟩ [0, 1] rfl rfl 0 rfl rfl rfl hl.1 (Nat.le_of_ble_eq_true rfl) dX6_takeRunner_3 ⟨Nat.le_of_ble_eq_true rfl, Nat.le_of_ble_eq_true rfl⟩) (fun r_1 u_1 H locs hp_1 G => ?_)
  obtain ⟨b_1a, v_1b⟩ := u_1
  try dsimp only at hp_1
  obtain ⟨hI_b_1a, hq_1⟩ := hp_1
  have hO_b_1a := hI_b_1a
  obtain ⟨hd0_b_1a, hd1_b_1a⟩ := hO_b_1a
  have G : wd X (va_A (@HAppend.hAppend va_W va_W va_W _ (rdV X h0 hb n bd vd fd) (rcV X hn an sv dv n0 n1 n2 n3 n4 g0 gs gn gm)) sz) (va_A (@HAppend.hAppend va_W va_W va_W _ (rdV X h0 hb n bd vd fd) (rcV X hn an sv dv n0 n1 n2 n3 n4 g0 gs gn gm)) sz) s (@HAppend.hAppend va_W va_W va_W _ (rcV X hn an sv dv n0 n1 n2 n3 n4 g0 gs gn gm) (rdV X h0 hb n b_1a v_1b fd)) H locs := G
  have ht_1 : scanP qB fd n (bd 0) = tN fd n s0 := by rw [hA]; rfl
  rw [ht_1] at hq_1
  obtain ⟨⟨hy0_1, hy1_1⟩, hr_1⟩ := hq_1
  rcases hr_1 with ⟨hn_1, hv_1, hf_1⟩ | ⟨hn_1, hv_1, hf_1⟩
  · refine lv_istore_n (lv' := [(2, .int r_1), (0, .ref h0), (1, .ref hn)]) zx zb dX6_takeRunner_6 rfl hl (by decide) rfl (fun ls hl => ?_)
    refine lv_aload_n zx zb dX6_takeRunner_7 rfl (lv_at hl 1 rfl) ?_
    refine lv_iconst (v := 1) zx zb dX6_takeRunner_8 (by decide) ?_
    refine lv_bipush (v := 9) zx zb dX6_takeRunner_9 (by decide) ?_
    refine b_wi (cells' := 0) (slots' := 0) (wr := rcV X hn an sv dv n0 n1 n2 n3 n4 g0 gs gn gm) G rfl rfl [16, 17] [0, 1, 2, 3, 4, 5, 6, 7, 8, 9, 10, 11, 12, 13, 14, 15] rfl rfl rfl rfl (n_V (As := [.int 1, .int 9]) (rest := []) (C := RX6) (T := TX6) (N := 7) (ci := 4) S G (x_numN l X h0 hb n b_1a v_1b fd 1 9 hI_n hI_b_1a (by have := hT0; have := hT1; have := hT2; have := hT3; omega) hf_1 H.size) gX6_takeRunner_X6_number rfl rfl rfl hdV_X6_number ⟨Nat.le_of_ble_eq_true rfl, Nat.le_of_ble_eq_true rfl⟩ [16, 17] rfl rfl 16 rfl rfl rfl hl.1 (Nat.le_of_ble_eq_true rfl) dX6_takeRunner_11 ⟨Nat.le_of_ble_eq_true rfl, Nat.le_of_ble_eq_true rfl⟩) (fun r_2 u_2 H locs hp_2 G => ?_)
    obtain ⟨b_2a, v_2b⟩ := u_2
    try dsimp only at hp_2
    obtain ⟨hI_b_2a, hq_2⟩ := hp_2
    have hO_b_2a := hI_b_2a
    obtain ⟨hd0_b_2a, hd1_b_2a⟩ := hO_b_2a
    have G : wd X (va_A (@HAppend.hAppend va_W va_W va_W _ (rdV X h0 hb n bd vd fd) (rcV X hn an sv dv n0 n1 n2 n3 n4 g0 gs gn gm)) sz) (va_A (@HAppend.hAppend va_W va_W va_W _ (rdV X h0 hb n bd vd fd) (rcV X hn an sv dv n0 n1 n2 n3 n4 g0 gs gn gm)) sz) s (@HAppend.hAppend va_W va_W va_W _ (rcV X hn an sv dv n0 n1 n2 n3 n4 g0 gs gn gm) (rdV X h0 hb n b_2a v_2b fd)) H locs := G
    have ht_2 : scanP qB fd n (b_1a 0) = t2 fd n s0 := by rw [hy1_1]; rfl
    rw [ht_2] at hq_2
    obtain ⟨⟨hy0_2, hy1_2⟩, hr_2⟩ := hq_2
    rcases hr_2 with ⟨hn_2, hv_2, hf_2⟩ | ⟨hn_2, hv_2, hf_2⟩
    · refine lv_istore_n (lv' := [(3, .int r_2), (2, .int r_1), (0, .ref h0), (1, .ref hn)]) zx zb dX6_takeRunner_14 rfl hl (by decide) rfl (fun ls hl => ?_)
      refine lv_aload_n zx zb dX6_takeRunner_15 rfl (lv_at hl 2 rfl) ?_
      refine lv_iconst (v := 0) zx zb dX6_takeRunner_16 (by decide) ?_
      refine lv_iconst (v := 5) zx zb dX6_takeRunner_17 (by decide) ?_
      refine b_wi (cells' := 0) (slots' := 0) (wr := rcV X hn an sv dv n0 n1 n2 n3 n4 g0 gs gn gm) G rfl rfl [16, 17] [0, 1, 2, 3, 4, 5, 6, 7, 8, 9, 10, 11, 12, 13, 14, 15] rfl rfl rfl rfl (n_V (As := [.int 0, .int 5]) (rest := []) (C := RX6) (T := TX6) (N := 7) (ci := 4) S G (x_numN l X h0 hb n b_2a v_2b fd 0 5 hI_n hI_b_2a (by have := hT0; have := hT1; have := hT2; have := hT3; omega) hf_2 H.size) gX6_takeRunner_X6_number rfl rfl rfl hdV_X6_number ⟨Nat.le_of_ble_eq_true rfl, Nat.le_of_ble_eq_true rfl⟩ [16, 17] rfl rfl 16 rfl rfl rfl hl.1 (Nat.le_of_ble_eq_true rfl) dX6_takeRunner_18 ⟨Nat.le_of_ble_eq_true rfl, Nat.le_of_ble_eq_true rfl⟩) (fun r_3 u_3 H locs hp_3 G => ?_)
      obtain ⟨b_3a, v_3b⟩ := u_3
      try dsimp only at hp_3
      obtain ⟨hI_b_3a, hq_3⟩ := hp_3
      have hO_b_3a := hI_b_3a
      obtain ⟨hd0_b_3a, hd1_b_3a⟩ := hO_b_3a
      have G : wd X (va_A (@HAppend.hAppend va_W va_W va_W _ (rdV X h0 hb n bd vd fd) (rcV X hn an sv dv n0 n1 n2 n3 n4 g0 gs gn gm)) sz) (va_A (@HAppend.hAppend va_W va_W va_W _ (rdV X h0 hb n bd vd fd) (rcV X hn an sv dv n0 n1 n2 n3 n4 g0 gs gn gm)) sz) s (@HAppend.hAppend va_W va_W va_W _ (rcV X hn an sv dv n0 n1 n2 n3 n4 g0 gs gn gm) (rdV X h0 hb n b_3a v_3b fd)) H locs := G
      have ht_3 : scanP qB fd n (b_2a 0) = t3 fd n s0 := by rw [hy1_2]; rfl
      rw [ht_3] at hq_3
      obtain ⟨⟨hy0_3, hy1_3⟩, hr_3⟩ := hq_3
      rcases hr_3 with ⟨hn_3, hv_3, hf_3⟩ | ⟨hn_3, hv_3, hf_3⟩
      · refine lv_istore (lv' := [(4, .int r_3), (3, .int r_2), (2, .int r_1), (0, .ref h0), (1, .ref hn)]) zx zb dX6_takeRunner_21 hl (by decide) rfl (fun ls hl => ?_)
        refine lv_aload_n zx zb dX6_takeRunner_23 rfl (lv_at hl 3 rfl) ?_
        refine b_wi (cells' := 0) (slots' := 0) (wr := rcV X hn an sv dv n0 n1 n2 n3 n4 g0 gs gn gm) G rfl rfl [16, 17] [0, 1, 2, 3, 4, 5, 6, 7, 8, 9, 10, 11, 12, 13, 14, 15] rfl rfl rfl rfl (n_V (As := []) (rest := []) (C := RX6) (T := TX6) (N := 7) (ci := 4) S G (x_endN l X h0 hb n b_3a v_3b fd hI_n hI_b_3a (by have := hT0; have := hT1; have := hT2; have := hT3; omega) hf_3 H.size) gX6_takeRunner_X6_ended rfl rfl rfl hdV_X6_ended ⟨Nat.le_of_ble_eq_true rfl, Nat.le_of_ble_eq_true rfl⟩ [16, 17] rfl rfl 16 rfl rfl rfl hl.1 (Nat.le_of_ble_eq_true rfl) dX6_takeRunner_24 ⟨Nat.le_of_ble_eq_true rfl, Nat.le_of_ble_eq_true rfl⟩) (fun r_4 u_4 H locs hp_4 G => ?_)
        obtain ⟨b_4a, v_4b⟩ := u_4
        try dsimp only at hp_4
        obtain ⟨hI_b_4a, hq_4⟩ := hp_4
        have hO_b_4a := hI_b_4a
        obtain ⟨hd0_b_4a, hd1_b_4a⟩ := hO_b_4a
        have G : wd X (va_A (@HAppend.hAppend va_W va_W va_W _ (rdV X h0 hb n bd vd fd) (rcV X hn an sv dv n0 n1 n2 n3 n4 g0 gs gn gm)) sz) (va_A (@HAppend.hAppend va_W va_W va_W _ (rdV X h0 hb n bd vd fd) (rcV X hn an sv dv n0 n1 n2 n3 n4 g0 gs gn gm)) sz) s (@HAppend.hAppend va_W va_W va_W _ (rcV X hn an sv dv n0 n1 n2 n3 n4 g0 gs gn gm) (rdV X h0 hb n b_4a v_4b fd)) H locs := G
        have ht_4 : scanP qB fd n (b_3a 0) = t4 fd n s0 := by rw [hy1_3]; rfl
        rw [ht_4] at hq_4
        obtain ⟨⟨hy0_4, hy1_4⟩, hr_4⟩ := hq_4
        rcases hr_4 with ⟨hn_4, hv_4, hf_4⟩ | ⟨hn_4, hv_4, hf_4⟩
        · obtain rfl := hv_4
          refine lv_if_eq (tgt := 38) zx zb dX6_takeRunner_27 (by decide) (fun c_5 => absurd c_5 (by decide)) (fun c_5 => ?_)
          refine lv_aload_n zx zb dX6_takeRunner_30 rfl (lv_at hl 4 rfl) ?_
          refine lv_iload_n zx zb dX6_takeRunner_31 rfl (lv_at hl 2 rfl) ?_
          refine lv_iload_n zx zb dX6_takeRunner_32 rfl (lv_at hl 1 rfl) ?_
          refine lv_iload zx zb dX6_takeRunner_33 (lv_at hl 0 rfl) ?_
          refine b_wv (cells' := 0) (slots' := 0) (wr := rdV X h0 hb n b_4a v_4b fd) G rfl rfl [0, 1, 2, 3, 4, 5, 6, 7, 8, 9, 10, 11, 12, 13, 14, 15] [16, 17] rfl rfl rfl rfl (n_V (As := [.int r_1, .int r_2, .int r_3]) (rest := []) (C := RX5) (T := TX5) (N := 8) (ci := 3) S G (x_welcome l X hn an sv dv n0 n1 n2 n3 n4 g0 gs gn gm r_1 r_2 r_3 hI_n0 hI_n1 hI_n2 hI_n3 hI_n4 (by omega) H.size) gX6_takeRunner_X5_welcome rfl rfl rfl hdV_X5_welcome ⟨Nat.le_of_ble_eq_true rfl, Nat.le_of_ble_eq_true rfl⟩ [0, 1, 2, 3, 4, 5, 6, 7, 8, 9, 10, 11, 12, 13, 14, 15] rfl rfl 0 rfl rfl rfl hl.1 (Nat.le_of_ble_eq_true rfl) dX6_takeRunner_35 ⟨Nat.le_of_ble_eq_true rfl, Nat.le_of_ble_eq_true rfl⟩) (fun u_6 H locs hp_6 G => ?_)
          obtain ⟨sv_6a, dv_6b, n0_6c, n1_6d⟩ := u_6
          try dsimp only at hp_6
          obtain ⟨hI_n0_6c, hI_n1_6d, hq_6⟩ := hp_6
          have G : wd X (va_A (@HAppend.hAppend va_W va_W va_W _ (rdV X h0 hb n bd vd fd) (rcV X hn an sv dv n0 n1 n2 n3 n4 g0 gs gn gm)) sz) (va_A (@HAppend.hAppend va_W va_W va_W _ (rdV X h0 hb n bd vd fd) (rcV X hn an sv dv n0 n1 n2 n3 n4 g0 gs gn gm)) sz) s (@HAppend.hAppend va_W va_W va_W _ (rdV X h0 hb n b_4a v_4b fd) (rcV X hn an sv_6a dv_6b n0_6c n1_6d n2 n3 n4 g0 gs gn gm)) H locs := G
          obtain ⟨hw0_6, hw1_6, hw2_6⟩ := hq_6
          exact e_void S zr zlk G (b_4a, v_4b, sv_6a, dv_6b, n0_6c, n1_6d) [0, 1, 2, 3, 4, 5, 6, 7, 8, 9, 10, 11, 12, 13, 14, 15, 16, 17] rfl rfl (Or.inr rfl) (⟨hI_b_4a, hI_n0_6c, hI_n1_6d, Or.inl ⟨by rw [oneC, chk_t (numB_t.mpr hn_1), chk_t (numB_t.mpr hn_2), chk_t (numB_t.mpr hn_3), chk_t (stpB_t hn_4)]; rfl, hw0_6, by rw [hw1_6, hv_1, hv_2, hv_3], hw2_6, hf_4, hy1_4⟩⟩) dX6_takeRunner_38
        · obtain rfl := hv_4
          refine lv_if_eq (tgt := 38) zx zb dX6_takeRunner_27 (by decide) (fun c_7 => ?_) (fun c_7 => absurd (by decide) c_7)
          exact e_void S zr zlk G (b_4a, v_4b, sv, dv, n0, n1) [16, 17, 0, 1, 2, 3, 4, 5, 6, 7, 8, 9, 10, 11, 12, 13, 14, 15] rfl rfl (Or.inr rfl) (⟨hI_b_4a, hI_n0, hI_n1, Or.inr ⟨_, by rw [oneC, chk_t (numB_t.mpr hn_1), chk_t (numB_t.mpr hn_2), chk_t (numB_t.mpr hn_3), chk_f (stpB_f hn_4)], hf_4, by first | omega | (dsimp only; omega)⟩⟩) dX6_takeRunner_38
      · obtain rfl := hv_3
        refine lv_istore (lv' := [(4, .int (-1)), (3, .int r_2), (2, .int r_1), (0, .ref h0), (1, .ref hn)]) zx zb dX6_takeRunner_21 hl (by decide) rfl (fun ls hl => ?_)
        refine lv_aload_n zx zb dX6_takeRunner_23 rfl (lv_at hl 3 rfl) ?_
        refine o_ri (cells' := 0) (slots' := 0) G rfl rfl (n_V (As := []) (rest := []) (C := RX6) (T := TX6) (N := 7) (ci := 4) S G (x_endF l X h0 hb n b_3a v_3b fd hI_n hI_b_3a (k_nf hf_3 (by have := hT2; omega)) H.size) gX6_takeRunner_X6_ended rfl rfl rfl hdV_X6_ended ⟨Nat.le_of_ble_eq_true rfl, Nat.le_of_ble_eq_true rfl⟩ [16, 17] rfl rfl 16 rfl rfl rfl hl.1 (Nat.le_of_ble_eq_true rfl) dX6_takeRunner_24 ⟨Nat.le_of_ble_eq_true rfl, Nat.le_of_ble_eq_true rfl⟩) (fun r_8 u_8 H locs hp_8 G => ?_)
        have G : wd X (va_A (@HAppend.hAppend va_W va_W va_W _ (rdV X h0 hb n bd vd fd) (rcV X hn an sv dv n0 n1 n2 n3 n4 g0 gs gn gm)) sz) (va_A (@HAppend.hAppend va_W va_W va_W _ (rdV X h0 hb n bd vd fd) (rcV X hn an sv dv n0 n1 n2 n3 n4 g0 gs gn gm)) sz) s (@HAppend.hAppend va_W va_W va_W _ (rcV X hn an sv dv n0 n1 n2 n3 n4 g0 gs gn gm) (rdV X h0 hb n b_3a v_3b fd)) H locs := G
        obtain rfl := hp_8
        refine lv_if_eq (tgt := 38) zx zb dX6_takeRunner_27 (by decide) (fun c_9 => ?_) (fun c_9 => absurd (by decide) c_9)
        exact e_void S zr zlk G (b_3a, v_3b, sv, dv, n0, n1) [16, 17, 0, 1, 2, 3, 4, 5, 6, 7, 8, 9, 10, 11, 12, 13, 14, 15] rfl rfl (Or.inr rfl) (⟨hI_b_3a, hI_n0, hI_n1, Or.inr ⟨_, by rw [oneC, chk_t (numB_t.mpr hn_1), chk_t (numB_t.mpr hn_2), chk_f (numB_f hn_3)], hf_3, by first | omega | (dsimp only; omega)⟩⟩) dX6_takeRunner_38
    · obtain rfl := hv_2
      refine lv_istore_n (lv' := [(3, .int (-1)), (2, .int r_1), (0, .ref h0), (1, .ref hn)]) zx zb dX6_takeRunner_14 rfl hl (by decide) rfl (fun ls hl => ?_)
      refine lv_aload_n zx zb dX6_takeRunner_15 rfl (lv_at hl 2 rfl) ?_
      refine lv_iconst (v := 0) zx zb dX6_takeRunner_16 (by decide) ?_
      refine lv_iconst (v := 5) zx zb dX6_takeRunner_17 (by decide) ?_
      refine o_ri (cells' := 0) (slots' := 0) G rfl rfl (n_V (As := [.int 0, .int 5]) (rest := []) (C := RX6) (T := TX6) (N := 7) (ci := 4) S G (x_numF l X h0 hb n b_2a v_2b fd 0 5 hI_n hI_b_2a (k_nf hf_2 (by have := hT1; omega)) H.size) gX6_takeRunner_X6_number rfl rfl rfl hdV_X6_number ⟨Nat.le_of_ble_eq_true rfl, Nat.le_of_ble_eq_true rfl⟩ [16, 17] rfl rfl 16 rfl rfl rfl hl.1 (Nat.le_of_ble_eq_true rfl) dX6_takeRunner_18 ⟨Nat.le_of_ble_eq_true rfl, Nat.le_of_ble_eq_true rfl⟩) (fun r_10 u_10 H locs hp_10 G => ?_)
      have G : wd X (va_A (@HAppend.hAppend va_W va_W va_W _ (rdV X h0 hb n bd vd fd) (rcV X hn an sv dv n0 n1 n2 n3 n4 g0 gs gn gm)) sz) (va_A (@HAppend.hAppend va_W va_W va_W _ (rdV X h0 hb n bd vd fd) (rcV X hn an sv dv n0 n1 n2 n3 n4 g0 gs gn gm)) sz) s (@HAppend.hAppend va_W va_W va_W _ (rcV X hn an sv dv n0 n1 n2 n3 n4 g0 gs gn gm) (rdV X h0 hb n b_2a v_2b fd)) H locs := G
      obtain rfl := hp_10
      refine lv_istore (lv' := [(4, .int (-1)), (3, .int (-1)), (2, .int r_1), (0, .ref h0), (1, .ref hn)]) zx zb dX6_takeRunner_21 hl (by decide) rfl (fun ls hl => ?_)
      refine lv_aload_n zx zb dX6_takeRunner_23 rfl (lv_at hl 3 rfl) ?_
      refine o_ri (cells' := 0) (slots' := 0) G rfl rfl (n_V (As := []) (rest := []) (C := RX6) (T := TX6) (N := 7) (ci := 4) S G (x_endF l X h0 hb n b_2a v_2b fd hI_n hI_b_2a (k_nf hf_2 (by have := hT1; omega)) H.size) gX6_takeRunner_X6_ended rfl rfl rfl hdV_X6_ended ⟨Nat.le_of_ble_eq_true rfl, Nat.le_of_ble_eq_true rfl⟩ [16, 17] rfl rfl 16 rfl rfl rfl hl.1 (Nat.le_of_ble_eq_true rfl) dX6_takeRunner_24 ⟨Nat.le_of_ble_eq_true rfl, Nat.le_of_ble_eq_true rfl⟩) (fun r_11 u_11 H locs hp_11 G => ?_)
      have G : wd X (va_A (@HAppend.hAppend va_W va_W va_W _ (rdV X h0 hb n bd vd fd) (rcV X hn an sv dv n0 n1 n2 n3 n4 g0 gs gn gm)) sz) (va_A (@HAppend.hAppend va_W va_W va_W _ (rdV X h0 hb n bd vd fd) (rcV X hn an sv dv n0 n1 n2 n3 n4 g0 gs gn gm)) sz) s (@HAppend.hAppend va_W va_W va_W _ (rcV X hn an sv dv n0 n1 n2 n3 n4 g0 gs gn gm) (rdV X h0 hb n b_2a v_2b fd)) H locs := G
      obtain rfl := hp_11
      refine lv_if_eq (tgt := 38) zx zb dX6_takeRunner_27 (by decide) (fun c_12 => ?_) (fun c_12 => absurd (by decide) c_12)
      exact e_void S zr zlk G (b_2a, v_2b, sv, dv, n0, n1) [16, 17, 0, 1, 2, 3, 4, 5, 6, 7, 8, 9, 10, 11, 12, 13, 14, 15] rfl rfl (Or.inr rfl) (⟨hI_b_2a, hI_n0, hI_n1, Or.inr ⟨_, by rw [oneC, chk_t (numB_t.mpr hn_1), chk_f (numB_f hn_2)], hf_2, by first | omega | (dsimp only; omega)⟩⟩) dX6_takeRunner_38
  · obtain rfl := hv_1
    refine lv_istore_n (lv' := [(2, .int (-1)), (0, .ref h0), (1, .ref hn)]) zx zb dX6_takeRunner_6 rfl hl (by decide) rfl (fun ls hl => ?_)
    refine lv_aload_n zx zb dX6_takeRunner_7 rfl (lv_at hl 1 rfl) ?_
    refine lv_iconst (v := 1) zx zb dX6_takeRunner_8 (by decide) ?_
    refine lv_bipush (v := 9) zx zb dX6_takeRunner_9 (by decide) ?_
    refine o_ri (cells' := 0) (slots' := 0) G rfl rfl (n_V (As := [.int 1, .int 9]) (rest := []) (C := RX6) (T := TX6) (N := 7) (ci := 4) S G (x_numF l X h0 hb n b_1a v_1b fd 1 9 hI_n hI_b_1a (k_nf hf_1 (by have := hT0; omega)) H.size) gX6_takeRunner_X6_number rfl rfl rfl hdV_X6_number ⟨Nat.le_of_ble_eq_true rfl, Nat.le_of_ble_eq_true rfl⟩ [16, 17] rfl rfl 16 rfl rfl rfl hl.1 (Nat.le_of_ble_eq_true rfl) dX6_takeRunner_11 ⟨Nat.le_of_ble_eq_true rfl, Nat.le_of_ble_eq_true rfl⟩) (fun r_13 u_13 H locs hp_13 G => ?_)
    have G : wd X (va_A (@HAppend.hAppend va_W va_W va_W _ (rdV X h0 hb n bd vd fd) (rcV X hn an sv dv n0 n1 n2 n3 n4 g0 gs gn gm)) sz) (va_A (@HAppend.hAppend va_W va_W va_W _ (rdV X h0 hb n bd vd fd) (rcV X hn an sv dv n0 n1 n2 n3 n4 g0 gs gn gm)) sz) s (@HAppend.hAppend va_W va_W va_W _ (rcV X hn an sv dv n0 n1 n2 n3 n4 g0 gs gn gm) (rdV X h0 hb n b_1a v_1b fd)) H locs := G
    obtain rfl := hp_13
    refine lv_istore_n (lv' := [(3, .int (-1)), (2, .int (-1)), (0, .ref h0), (1, .ref hn)]) zx zb dX6_takeRunner_14 rfl hl (by decide) rfl (fun ls hl => ?_)
    refine lv_aload_n zx zb dX6_takeRunner_15 rfl (lv_at hl 2 rfl) ?_
    refine lv_iconst (v := 0) zx zb dX6_takeRunner_16 (by decide) ?_
    refine lv_iconst (v := 5) zx zb dX6_takeRunner_17 (by decide) ?_
    refine o_ri (cells' := 0) (slots' := 0) G rfl rfl (n_V (As := [.int 0, .int 5]) (rest := []) (C := RX6) (T := TX6) (N := 7) (ci := 4) S G (x_numF l X h0 hb n b_1a v_1b fd 0 5 hI_n hI_b_1a (k_nf hf_1 (by have := hT0; omega)) H.size) gX6_takeRunner_X6_number rfl rfl rfl hdV_X6_number ⟨Nat.le_of_ble_eq_true rfl, Nat.le_of_ble_eq_true rfl⟩ [16, 17] rfl rfl 16 rfl rfl rfl hl.1 (Nat.le_of_ble_eq_true rfl) dX6_takeRunner_18 ⟨Nat.le_of_ble_eq_true rfl, Nat.le_of_ble_eq_true rfl⟩) (fun r_14 u_14 H locs hp_14 G => ?_)
    have G : wd X (va_A (@HAppend.hAppend va_W va_W va_W _ (rdV X h0 hb n bd vd fd) (rcV X hn an sv dv n0 n1 n2 n3 n4 g0 gs gn gm)) sz) (va_A (@HAppend.hAppend va_W va_W va_W _ (rdV X h0 hb n bd vd fd) (rcV X hn an sv dv n0 n1 n2 n3 n4 g0 gs gn gm)) sz) s (@HAppend.hAppend va_W va_W va_W _ (rcV X hn an sv dv n0 n1 n2 n3 n4 g0 gs gn gm) (rdV X h0 hb n b_1a v_1b fd)) H locs := G
    obtain rfl := hp_14
    refine lv_istore (lv' := [(4, .int (-1)), (3, .int (-1)), (2, .int (-1)), (0, .ref h0), (1, .ref hn)]) zx zb dX6_takeRunner_21 hl (by decide) rfl (fun ls hl => ?_)
    refine lv_aload_n zx zb dX6_takeRunner_23 rfl (lv_at hl 3 rfl) ?_
    refine o_ri (cells' := 0) (slots' := 0) G rfl rfl (n_V (As := []) (rest := []) (C := RX6) (T := TX6) (N := 7) (ci := 4) S G (x_endF l X h0 hb n b_1a v_1b fd hI_n hI_b_1a (k_nf hf_1 (by have := hT0; omega)) H.size) gX6_takeRunner_X6_ended rfl rfl rfl hdV_X6_ended ⟨Nat.le_of_ble_eq_true rfl, Nat.le_of_ble_eq_true rfl⟩ [16, 17] rfl rfl 16 rfl rfl rfl hl.1 (Nat.le_of_ble_eq_true rfl) dX6_takeRunner_24 ⟨Nat.le_of_ble_eq_true rfl, Nat.le_of_ble_eq_true rfl⟩) (fun r_15 u_15 H locs hp_15 G => ?_)
    have G : wd X (va_A (@HAppend.hAppend va_W va_W va_W _ (rdV X h0 hb n bd vd fd) (rcV X hn an sv dv n0 n1 n2 n3 n4 g0 gs gn gm)) sz) (va_A (@HAppend.hAppend va_W va_W va_W _ (rdV X h0 hb n bd vd fd) (rcV X hn an sv dv n0 n1 n2 n3 n4 g0 gs gn gm)) sz) s (@HAppend.hAppend va_W va_W va_W _ (rcV X hn an sv dv n0 n1 n2 n3 n4 g0 gs gn gm) (rdV X h0 hb n b_1a v_1b fd)) H locs := G
    obtain rfl := hp_15
    refine lv_if_eq (tgt := 38) zx zb dX6_takeRunner_27 (by decide) (fun c_16 => ?_) (fun c_16 => absurd (by decide) c_16)
    exact e_void S zr zlk G (b_1a, v_1b, sv, dv, n0, n1) [16, 17, 0, 1, 2, 3, 4, 5, 6, 7, 8, 9, 10, 11, 12, 13, 14, 15] rfl rfl (Or.inr rfl) (⟨hI_b_1a, hI_n0, hI_n1, Or.inr ⟨_, by rw [oneC, chk_f (numB_f hn_1)], hf_1, by first | omega | (dsimp only; omega)⟩⟩) dX6_takeRunner_38
set_option maxHeartbeats 4000000 in
set_option maxRecDepth 100000 in
theorem x_takeLength (l : Launch) (X : EX) (h0 : Nat) (hb : Nat) (n : Nat) (bd : Nat → Nat) (vd : Nat → Int32) (fd : Nat → Int32) (s0 : Nat) (hn : Nat) (an : Nat → Nat) (sv : Nat → Int32) (dv : Nat → Int32) (n0 : Nat) (n1 : Nat) (n2 : Nat) (n3 : Nat) (n4 : Nat) (g0 : Nat → Int32) (gs : Nat → Int32) (gn : Nat → Int32) (gm : Nat → Int32) (hI_n : n ≤ 150) (hI_bd : InP bd) (hI_n0 : n0 ≤ 6) (hI_n1 : n1 ≤ 8) (hI_n2 : n2 ≤ 5) (hI_n3 : n3 ≤ 6) (hI_n4 : n4 ≤ 6) (hP : s0 ≤ n) (hA : bd 0 = tE fd n s0) (hF : vd 2 = -1) (sz : Nat) : Met l yX6_takeLength wsX6_takeLength ({ frames := 4, cells := 0, slots := 0, locals := 82 } : Room) (pE X [.ref h0, .ref hn] (@HAppend.hAppend va_W va_W va_W _ (rdV X h0 hb n bd vd fd) (rcV X hn an sv dv n0 n1 n2 n3 n4 g0 gs gn gm)) sz) (qV (fun (u : (Nat → Nat) × (Nat → Int32) × (Nat → Int32) × (Nat) × (Nat) × (Nat) × (Nat) × (Nat)) => InP u.1 ∧ u.2.2.2.1 ≤ 6 ∧ u.2.2.2.2.1 ≤ 8 ∧ u.2.2.2.2.2.1 ≤ 5 ∧ u.2.2.2.2.2.2.1 ≤ 6 ∧ u.2.2.2.2.2.2.2 ≤ 6 ∧ ((racC fd n s0 = none ∧ (u.2.2.1 = upd (upd dv 0 (tV fd n (tN fd n s0))) 1 0 ∧ u.2.2.2.1 = 0 ∧ u.2.2.2.2.2.1 = 0 ∧ u.2.2.2.2.2.2.1 = 0 ∧ u.2.2.2.2.2.2.2 = 0) ∧ u.2.1 2 = -1 ∧ u.1 0 = tE fd n (t2 fd n s0)) ∨ (∃ p : Nat, racC fd n s0 = some p ∧ u.2.1 2 = nI p ∧ p ≤ n))) X (fun (u : (Nat → Nat) × (Nat → Int32) × (Nat → Int32) × (Nat) × (Nat) × (Nat) × (Nat) × (Nat)) => @HAppend.hAppend va_W va_W va_W _ (rdV X h0 hb n u.1 u.2.1 fd) (rcV X hn an sv u.2.2.1 u.2.2.2.1 u.2.2.2.2.1 u.2.2.2.2.2.1 u.2.2.2.2.2.2.1 u.2.2.2.2.2.2.2 g0 gs gn gm)) (@HAppend.hAppend va_W va_W va_W _ (rdV X h0 hb n bd vd fd) (rcV X hn an sv dv n0 n1 n2 n3 n4 g0 gs gn gm)) sz) 0 0 (va_A (@HAppend.hAppend va_W va_W va_W _ (rdV X h0 hb n bd vd fd) (rcV X hn an sv dv n0 n1 n2 n3 n4 g0 gs gn gm)) sz) := by
  refine mk_met (B := (va_A (@HAppend.hAppend va_W va_W va_W _ (rdV X h0 hb n bd vd fd) (rcV X hn an sv dv n0 n1 n2 n3 n4 g0 gs gn gm)) sz)) (A := (va_A (@HAppend.hAppend va_W va_W va_W _ (rdV X h0 hb n bd vd fd) (rcV X hn an sv dv n0 n1 n2 n3 n4 g0 gs gn gm)) sz)) (cc := cX6_takeLength) (maxL := 3) (ret := none) (by decide) rfl (Nat.le_of_ble_eq_true rfl) k_w k_a (fun p e s m below meth c S zr zlk znm zsz G ls hl => ?_)
  have S : CallFix p m c cX6_takeLength 3 s _ wsX6_takeLength RX6 := S
  have zx := S.1
  have zb := S.2.1
  have hl : lv_has ls 3 [(0, .ref h0), (1, .ref hn)] := hl
  have hO_bd := hI_bd
  obtain ⟨hd0_bd, hd1_bd⟩ := hO_bd
  have hTs := tE_le (T := fd) (n := n) (s := s0) hP
  have hT0 := tN_le (T := fd) (n := n) (s := s0) hP
  have hT1 : tE fd n (tN fd n s0) ≤ t2 fd n s0 ∧ t2 fd n s0 ≤ n := tN_le hT0.2
  have hT2 : tE fd n (t2 fd n s0) ≤ t3 fd n s0 ∧ t3 fd n s0 ≤ n := tN_le hT1.2
  have hT3 : tE fd n (t3 fd n s0) ≤ t4 fd n s0 ∧ t4 fd n s0 ≤ n := tN_le hT2.2
  have hU0 := tE_le (T := fd) (n := n) (s := tN fd n s0) hT0.2
  have hU1 := tE_le (T := fd) (n := n) (s := t2 fd n s0) hT1.2
  have hU2 := tE_le (T := fd) (n := n) (s := t3 fd n s0) hT2.2
  have hU3 := tE_le (T := fd) (n := n) (s := t4 fd n s0) hT3.2
  refine lv_aload_n zx zb dX6_takeLength_0 rfl (lv_at hl 0 rfl) ?_
  refine lv_bipush (v := 10) zx zb dX6_takeLength_1 (by decide) ?_
  refine lv_bipush (v := 60) zx zb dX6_takeLength_3 (by decide) ?_
  refine b_wi (cells' := 0) (slots' := 0) (wr := rcV X hn an sv dv n0 n1 n2 n3 n4 g0 gs gn gm) G rfl rfl [0, 1] [2, 3, 4, 5, 6, 7, 8, 9, 10, 11, 12, 13, 14, 15, 16, 17] rfl rfl rfl rfl (n_V (As := [.int 10, .int 60]) (rest := []) (C := RX6) (T := TX6) (N := 7) (ci := 4) S G (x_numN l X h0 hb n bd vd fd 10 60 hI_n hI_bd (by have := hT0; have := hT1; have := hT2; have := hT3; omega) hF s.heap.size) gX6_takeLength_X6_number rfl rfl rfl hdV_X6_number ⟨Nat.le_of_ble_eq_true rfl, Nat.le_of_ble_eq_true rfl⟩ [0, 1] rfl rfl 0 rfl rfl rfl hl.1 (Nat.le_of_ble_eq_true rfl) dX6_takeLength_5 ⟨Nat.le_of_ble_eq_true rfl, Nat.le_of_ble_eq_true rfl⟩) (fun r_1 u_1 H locs hp_1 G => ?_)
  obtain ⟨b_1a, v_1b⟩ := u_1
  try dsimp only at hp_1
  obtain ⟨hI_b_1a, hq_1⟩ := hp_1
  have hO_b_1a := hI_b_1a
  obtain ⟨hd0_b_1a, hd1_b_1a⟩ := hO_b_1a
  have G : wd X (va_A (@HAppend.hAppend va_W va_W va_W _ (rdV X h0 hb n bd vd fd) (rcV X hn an sv dv n0 n1 n2 n3 n4 g0 gs gn gm)) sz) (va_A (@HAppend.hAppend va_W va_W va_W _ (rdV X h0 hb n bd vd fd) (rcV X hn an sv dv n0 n1 n2 n3 n4 g0 gs gn gm)) sz) s (@HAppend.hAppend va_W va_W va_W _ (rcV X hn an sv dv n0 n1 n2 n3 n4 g0 gs gn gm) (rdV X h0 hb n b_1a v_1b fd)) H locs := G
  have ht_1 : scanP qB fd n (bd 0) = tN fd n s0 := by rw [hA]; rfl
  rw [ht_1] at hq_1
  obtain ⟨⟨hy0_1, hy1_1⟩, hr_1⟩ := hq_1
  rcases hr_1 with ⟨hn_1, hv_1, hf_1⟩ | ⟨hn_1, hv_1, hf_1⟩
  · refine lv_istore_n (lv' := [(2, .int r_1), (0, .ref h0), (1, .ref hn)]) zx zb dX6_takeLength_8 rfl hl (by decide) rfl (fun ls hl => ?_)
    refine lv_aload_n zx zb dX6_takeLength_9 rfl (lv_at hl 1 rfl) ?_
    refine b_wi (cells' := 0) (slots' := 0) (wr := rcV X hn an sv dv n0 n1 n2 n3 n4 g0 gs gn gm) G rfl rfl [16, 17] [0, 1, 2, 3, 4, 5, 6, 7, 8, 9, 10, 11, 12, 13, 14, 15] rfl rfl rfl rfl (n_V (As := []) (rest := []) (C := RX6) (T := TX6) (N := 7) (ci := 4) S G (x_endN l X h0 hb n b_1a v_1b fd hI_n hI_b_1a (by have := hT0; have := hT1; have := hT2; have := hT3; omega) hf_1 H.size) gX6_takeLength_X6_ended rfl rfl rfl hdV_X6_ended ⟨Nat.le_of_ble_eq_true rfl, Nat.le_of_ble_eq_true rfl⟩ [16, 17] rfl rfl 16 rfl rfl rfl hl.1 (Nat.le_of_ble_eq_true rfl) dX6_takeLength_10 ⟨Nat.le_of_ble_eq_true rfl, Nat.le_of_ble_eq_true rfl⟩) (fun r_2 u_2 H locs hp_2 G => ?_)
    obtain ⟨b_2a, v_2b⟩ := u_2
    try dsimp only at hp_2
    obtain ⟨hI_b_2a, hq_2⟩ := hp_2
    have hO_b_2a := hI_b_2a
    obtain ⟨hd0_b_2a, hd1_b_2a⟩ := hO_b_2a
    have G : wd X (va_A (@HAppend.hAppend va_W va_W va_W _ (rdV X h0 hb n bd vd fd) (rcV X hn an sv dv n0 n1 n2 n3 n4 g0 gs gn gm)) sz) (va_A (@HAppend.hAppend va_W va_W va_W _ (rdV X h0 hb n bd vd fd) (rcV X hn an sv dv n0 n1 n2 n3 n4 g0 gs gn gm)) sz) s (@HAppend.hAppend va_W va_W va_W _ (rcV X hn an sv dv n0 n1 n2 n3 n4 g0 gs gn gm) (rdV X h0 hb n b_2a v_2b fd)) H locs := G
    have ht_2 : scanP qB fd n (b_1a 0) = t2 fd n s0 := by rw [hy1_1]; rfl
    rw [ht_2] at hq_2
    obtain ⟨⟨hy0_2, hy1_2⟩, hr_2⟩ := hq_2
    rcases hr_2 with ⟨hn_2, hv_2, hf_2⟩ | ⟨hn_2, hv_2, hf_2⟩
    · obtain rfl := hv_2
      refine lv_if_eq (tgt := 21) zx zb dX6_takeLength_13 (by decide) (fun c_3 => absurd c_3 (by decide)) (fun c_3 => ?_)
      refine lv_aload_n zx zb dX6_takeLength_16 rfl (lv_at hl 2 rfl) ?_
      refine lv_iload_n zx zb dX6_takeLength_17 rfl (lv_at hl 0 rfl) ?_
      refine b_wv (cells' := 0) (slots' := 0) (wr := rdV X h0 hb n b_2a v_2b fd) G rfl rfl [0, 1, 2, 3, 4, 5, 6, 7, 8, 9, 10, 11, 12, 13, 14, 15] [16, 17] rfl rfl rfl rfl (n_V (As := [.int r_1]) (rest := []) (C := RX5) (T := TX5) (N := 8) (ci := 3) S G (x_restart l X hn an sv dv n0 n1 n2 n3 n4 g0 gs gn gm r_1 hI_n0 hI_n1 hI_n2 hI_n3 hI_n4 H.size) gX6_takeLength_X5_restart rfl rfl rfl hdV_X5_restart ⟨Nat.le_of_ble_eq_true rfl, Nat.le_of_ble_eq_true rfl⟩ [0, 1, 2, 3, 4, 5, 6, 7, 8, 9, 10, 11, 12, 13, 14, 15] rfl rfl 0 rfl rfl rfl hl.1 (Nat.le_of_ble_eq_true rfl) dX6_takeLength_18 ⟨Nat.le_of_ble_eq_true rfl, Nat.le_of_ble_eq_true rfl⟩) (fun u_4 H locs hp_4 G => ?_)
      obtain ⟨dv_4a, n0_4b, n1_4c, n2_4d, n3_4e, n4_4f⟩ := u_4
      try dsimp only at hp_4
      obtain ⟨hI_n0_4b, hI_n1_4c, hI_n2_4d, hI_n3_4e, hI_n4_4f, hq_4⟩ := hp_4
      have G : wd X (va_A (@HAppend.hAppend va_W va_W va_W _ (rdV X h0 hb n bd vd fd) (rcV X hn an sv dv n0 n1 n2 n3 n4 g0 gs gn gm)) sz) (va_A (@HAppend.hAppend va_W va_W va_W _ (rdV X h0 hb n bd vd fd) (rcV X hn an sv dv n0 n1 n2 n3 n4 g0 gs gn gm)) sz) s (@HAppend.hAppend va_W va_W va_W _ (rdV X h0 hb n b_2a v_2b fd) (rcV X hn an sv dv_4a n0_4b n1_4c n2_4d n3_4e n4_4f g0 gs gn gm)) H locs := G
      obtain ⟨hw0_4, hw1_4, hw2_4, hw3_4, hw4_4⟩ := hq_4
      exact e_void S zr zlk G (b_2a, v_2b, dv_4a, n0_4b, n1_4c, n2_4d, n3_4e, n4_4f) [0, 1, 2, 3, 4, 5, 6, 7, 8, 9, 10, 11, 12, 13, 14, 15, 16, 17] rfl rfl (Or.inr rfl) (⟨hI_b_2a, hI_n0_4b, hI_n1_4c, hI_n2_4d, hI_n3_4e, hI_n4_4f, Or.inl ⟨by rw [racC, chk_t (numB_t.mpr hn_1), chk_t (stpB_t hn_2)]; rfl, ⟨by rw [hw0_4, hv_1], hw1_4, hw2_4, hw3_4, hw4_4⟩, hf_2, hy1_2⟩⟩) dX6_takeLength_21
    · obtain rfl := hv_2
      refine lv_if_eq (tgt := 21) zx zb dX6_takeLength_13 (by decide) (fun c_5 => ?_) (fun c_5 => absurd (by decide) c_5)
      exact e_void S zr zlk G (b_2a, v_2b, dv, n0, n1, n2, n3, n4) [16, 17, 0, 1, 2, 3, 4, 5, 6, 7, 8, 9, 10, 11, 12, 13, 14, 15] rfl rfl (Or.inr rfl) (⟨hI_b_2a, hI_n0, hI_n1, hI_n2, hI_n3, hI_n4, Or.inr ⟨_, by rw [racC, chk_t (numB_t.mpr hn_1), chk_f (stpB_f hn_2)], hf_2, by first | omega | (dsimp only; omega)⟩⟩) dX6_takeLength_21
  · obtain rfl := hv_1
    refine lv_istore_n (lv' := [(2, .int (-1)), (0, .ref h0), (1, .ref hn)]) zx zb dX6_takeLength_8 rfl hl (by decide) rfl (fun ls hl => ?_)
    refine lv_aload_n zx zb dX6_takeLength_9 rfl (lv_at hl 1 rfl) ?_
    refine o_ri (cells' := 0) (slots' := 0) G rfl rfl (n_V (As := []) (rest := []) (C := RX6) (T := TX6) (N := 7) (ci := 4) S G (x_endF l X h0 hb n b_1a v_1b fd hI_n hI_b_1a (k_nf hf_1 (by have := hT0; omega)) H.size) gX6_takeLength_X6_ended rfl rfl rfl hdV_X6_ended ⟨Nat.le_of_ble_eq_true rfl, Nat.le_of_ble_eq_true rfl⟩ [16, 17] rfl rfl 16 rfl rfl rfl hl.1 (Nat.le_of_ble_eq_true rfl) dX6_takeLength_10 ⟨Nat.le_of_ble_eq_true rfl, Nat.le_of_ble_eq_true rfl⟩) (fun r_6 u_6 H locs hp_6 G => ?_)
    have G : wd X (va_A (@HAppend.hAppend va_W va_W va_W _ (rdV X h0 hb n bd vd fd) (rcV X hn an sv dv n0 n1 n2 n3 n4 g0 gs gn gm)) sz) (va_A (@HAppend.hAppend va_W va_W va_W _ (rdV X h0 hb n bd vd fd) (rcV X hn an sv dv n0 n1 n2 n3 n4 g0 gs gn gm)) sz) s (@HAppend.hAppend va_W va_W va_W _ (rcV X hn an sv dv n0 n1 n2 n3 n4 g0 gs gn gm) (rdV X h0 hb n b_1a v_1b fd)) H locs := G
    obtain rfl := hp_6
    refine lv_if_eq (tgt := 21) zx zb dX6_takeLength_13 (by decide) (fun c_7 => ?_) (fun c_7 => absurd (by decide) c_7)
    exact e_void S zr zlk G (b_1a, v_1b, dv, n0, n1, n2, n3, n4) [16, 17, 0, 1, 2, 3, 4, 5, 6, 7, 8, 9, 10, 11, 12, 13, 14, 15] rfl rfl (Or.inr rfl) (⟨hI_b_1a, hI_n0, hI_n1, hI_n2, hI_n3, hI_n4, Or.inr ⟨_, by rw [racC, chk_f (numB_f hn_1)], hf_1, by first | omega | (dsimp only; omega)⟩⟩) dX6_takeLength_21
set_option maxHeartbeats 4000000 in
set_option maxRecDepth 100000 in
theorem x_takeSpeed (l : Launch) (X : EX) (h0 : Nat) (hb : Nat) (n : Nat) (bd : Nat → Nat) (vd : Nat → Int32) (fd : Nat → Int32) (s0 : Nat) (hn : Nat) (an : Nat → Nat) (sv : Nat → Int32) (dv : Nat → Int32) (n0 : Nat) (n1 : Nat) (n2 : Nat) (n3 : Nat) (n4 : Nat) (g0 : Nat → Int32) (gs : Nat → Int32) (gn : Nat → Int32) (gm : Nat → Int32) (hI_n : n ≤ 150) (hI_bd : InP bd) (hI_n0 : n0 ≤ 6) (hI_n1 : n1 ≤ 8) (hI_n2 : n2 ≤ 5) (hI_n3 : n3 ≤ 6) (hI_n4 : n4 ≤ 6) (hP : s0 ≤ n) (hA : bd 0 = tE fd n s0) (hF : vd 2 = -1) (sz : Nat) : Met l yX6_takeSpeed wsX6_takeSpeed ({ frames := 4, cells := 0, slots := 0, locals := 82 } : Room) (pE X [.ref h0, .ref hn] (@HAppend.hAppend va_W va_W va_W _ (rdV X h0 hb n bd vd fd) (rcV X hn an sv dv n0 n1 n2 n3 n4 g0 gs gn gm)) sz) (qV (fun (u : (Nat → Nat) × (Nat → Int32) × (Nat → Int32)) => InP u.1 ∧ ((spdC fd n s0 n0 = none ∧ u.2.2 = upd dv (10 + 5 * (tV fd n (tN fd n s0)).toNatClampNeg) (tV fd n (t2 fd n s0)) ∧ u.2.1 2 = -1 ∧ u.1 0 = tE fd n (t3 fd n s0)) ∨ (∃ p : Nat, spdC fd n s0 n0 = some p ∧ u.2.1 2 = nI p ∧ p ≤ n))) X (fun (u : (Nat → Nat) × (Nat → Int32) × (Nat → Int32)) => @HAppend.hAppend va_W va_W va_W _ (rdV X h0 hb n u.1 u.2.1 fd) (rcV X hn an sv u.2.2 n0 n1 n2 n3 n4 g0 gs gn gm)) (@HAppend.hAppend va_W va_W va_W _ (rdV X h0 hb n bd vd fd) (rcV X hn an sv dv n0 n1 n2 n3 n4 g0 gs gn gm)) sz) 0 0 (va_A (@HAppend.hAppend va_W va_W va_W _ (rdV X h0 hb n bd vd fd) (rcV X hn an sv dv n0 n1 n2 n3 n4 g0 gs gn gm)) sz) := by
  refine mk_met (B := (va_A (@HAppend.hAppend va_W va_W va_W _ (rdV X h0 hb n bd vd fd) (rcV X hn an sv dv n0 n1 n2 n3 n4 g0 gs gn gm)) sz)) (A := (va_A (@HAppend.hAppend va_W va_W va_W _ (rdV X h0 hb n bd vd fd) (rcV X hn an sv dv n0 n1 n2 n3 n4 g0 gs gn gm)) sz)) (cc := cX6_takeSpeed) (maxL := 4) (ret := none) (by decide) rfl (Nat.le_of_ble_eq_true rfl) k_w k_a (fun p e s m below meth c S zr zlk znm zsz G ls hl => ?_)
  have S : CallFix p m c cX6_takeSpeed 4 s _ wsX6_takeSpeed RX6 := S
  have zx := S.1
  have zb := S.2.1
  have hl : lv_has ls 4 [(0, .ref h0), (1, .ref hn)] := hl
  have hO_bd := hI_bd
  obtain ⟨hd0_bd, hd1_bd⟩ := hO_bd
  have hTs := tE_le (T := fd) (n := n) (s := s0) hP
  have hT0 := tN_le (T := fd) (n := n) (s := s0) hP
  have hT1 : tE fd n (tN fd n s0) ≤ t2 fd n s0 ∧ t2 fd n s0 ≤ n := tN_le hT0.2
  have hT2 : tE fd n (t2 fd n s0) ≤ t3 fd n s0 ∧ t3 fd n s0 ≤ n := tN_le hT1.2
  have hT3 : tE fd n (t3 fd n s0) ≤ t4 fd n s0 ∧ t4 fd n s0 ≤ n := tN_le hT2.2
  have hU0 := tE_le (T := fd) (n := n) (s := tN fd n s0) hT0.2
  have hU1 := tE_le (T := fd) (n := n) (s := t2 fd n s0) hT1.2
  have hU2 := tE_le (T := fd) (n := n) (s := t3 fd n s0) hT2.2
  have hU3 := tE_le (T := fd) (n := n) (s := t4 fd n s0) hT3.2
  refine lv_aload_n zx zb dX6_takeSpeed_0 rfl (lv_at hl 0 rfl) ?_
  refine lv_iconst (v := 0) zx zb dX6_takeSpeed_1 (by decide) ?_
  refine lv_aload_n zx zb dX6_takeSpeed_2 rfl (lv_at hl 1 rfl) ?_
  refine r_get (C := RX5) (T := TX5) (N := 8) (ci := 3) (v := .int (nI n0)) S in_X6_takeSpeed_X5 G 2 rfl rfl 2 (by decide) lk_X6_takeSpeed_56 rfl dX6_takeSpeed_3 ?_
  refine lv_iconst (v := 1) zx zb dX6_takeSpeed_6 (by decide) ?_
  refine r_isub (v := ((nI n0) - 1)) S rfl dX6_takeSpeed_7 ?_
  refine b_wi (cells' := 0) (slots' := 0) (wr := rcV X hn an sv dv n0 n1 n2 n3 n4 g0 gs gn gm) G rfl rfl [0, 1] [2, 3, 4, 5, 6, 7, 8, 9, 10, 11, 12, 13, 14, 15, 16, 17] rfl rfl rfl rfl (n_V (As := [.int 0, .int ((nI n0) - 1)]) (rest := []) (C := RX6) (T := TX6) (N := 7) (ci := 4) S G (x_numN l X h0 hb n bd vd fd 0 ((nI n0) - 1) hI_n hI_bd (by have := hT0; have := hT1; have := hT2; have := hT3; omega) hF s.heap.size) gX6_takeSpeed_X6_number rfl rfl rfl hdV_X6_number ⟨Nat.le_of_ble_eq_true rfl, Nat.le_of_ble_eq_true rfl⟩ [0, 1] rfl rfl 0 rfl rfl rfl hl.1 (Nat.le_of_ble_eq_true rfl) dX6_takeSpeed_8 ⟨Nat.le_of_ble_eq_true rfl, Nat.le_of_ble_eq_true rfl⟩) (fun r_1 u_1 H locs hp_1 G => ?_)
  obtain ⟨b_1a, v_1b⟩ := u_1
  try dsimp only at hp_1
  obtain ⟨hI_b_1a, hq_1⟩ := hp_1
  have hO_b_1a := hI_b_1a
  obtain ⟨hd0_b_1a, hd1_b_1a⟩ := hO_b_1a
  have G : wd X (va_A (@HAppend.hAppend va_W va_W va_W _ (rdV X h0 hb n bd vd fd) (rcV X hn an sv dv n0 n1 n2 n3 n4 g0 gs gn gm)) sz) (va_A (@HAppend.hAppend va_W va_W va_W _ (rdV X h0 hb n bd vd fd) (rcV X hn an sv dv n0 n1 n2 n3 n4 g0 gs gn gm)) sz) s (@HAppend.hAppend va_W va_W va_W _ (rcV X hn an sv dv n0 n1 n2 n3 n4 g0 gs gn gm) (rdV X h0 hb n b_1a v_1b fd)) H locs := G
  have ht_1 : scanP qB fd n (bd 0) = tN fd n s0 := by rw [hA]; rfl
  rw [ht_1] at hq_1
  obtain ⟨⟨hy0_1, hy1_1⟩, hr_1⟩ := hq_1
  rcases hr_1 with ⟨hn_1, hv_1, hf_1⟩ | ⟨hn_1, hv_1, hf_1⟩
  · refine lv_istore_n (lv' := [(2, .int r_1), (0, .ref h0), (1, .ref hn)]) zx zb dX6_takeSpeed_11 rfl hl (by decide) rfl (fun ls hl => ?_)
    refine lv_aload_n zx zb dX6_takeSpeed_12 rfl (lv_at hl 1 rfl) ?_
    refine lv_iconst (v := 0) zx zb dX6_takeSpeed_13 (by decide) ?_
    refine lv_bipush (v := 9) zx zb dX6_takeSpeed_14 (by decide) ?_
    refine b_wi (cells' := 0) (slots' := 0) (wr := rcV X hn an sv dv n0 n1 n2 n3 n4 g0 gs gn gm) G rfl rfl [16, 17] [0, 1, 2, 3, 4, 5, 6, 7, 8, 9, 10, 11, 12, 13, 14, 15] rfl rfl rfl rfl (n_V (As := [.int 0, .int 9]) (rest := []) (C := RX6) (T := TX6) (N := 7) (ci := 4) S G (x_numN l X h0 hb n b_1a v_1b fd 0 9 hI_n hI_b_1a (by have := hT0; have := hT1; have := hT2; have := hT3; omega) hf_1 H.size) gX6_takeSpeed_X6_number rfl rfl rfl hdV_X6_number ⟨Nat.le_of_ble_eq_true rfl, Nat.le_of_ble_eq_true rfl⟩ [16, 17] rfl rfl 16 rfl rfl rfl hl.1 (Nat.le_of_ble_eq_true rfl) dX6_takeSpeed_16 ⟨Nat.le_of_ble_eq_true rfl, Nat.le_of_ble_eq_true rfl⟩) (fun r_2 u_2 H locs hp_2 G => ?_)
    obtain ⟨b_2a, v_2b⟩ := u_2
    try dsimp only at hp_2
    obtain ⟨hI_b_2a, hq_2⟩ := hp_2
    have hO_b_2a := hI_b_2a
    obtain ⟨hd0_b_2a, hd1_b_2a⟩ := hO_b_2a
    have G : wd X (va_A (@HAppend.hAppend va_W va_W va_W _ (rdV X h0 hb n bd vd fd) (rcV X hn an sv dv n0 n1 n2 n3 n4 g0 gs gn gm)) sz) (va_A (@HAppend.hAppend va_W va_W va_W _ (rdV X h0 hb n bd vd fd) (rcV X hn an sv dv n0 n1 n2 n3 n4 g0 gs gn gm)) sz) s (@HAppend.hAppend va_W va_W va_W _ (rcV X hn an sv dv n0 n1 n2 n3 n4 g0 gs gn gm) (rdV X h0 hb n b_2a v_2b fd)) H locs := G
    have ht_2 : scanP qB fd n (b_1a 0) = t2 fd n s0 := by rw [hy1_1]; rfl
    rw [ht_2] at hq_2
    obtain ⟨⟨hy0_2, hy1_2⟩, hr_2⟩ := hq_2
    rcases hr_2 with ⟨hn_2, hv_2, hf_2⟩ | ⟨hn_2, hv_2, hf_2⟩
    · refine lv_istore_n (lv' := [(3, .int r_2), (2, .int r_1), (0, .ref h0), (1, .ref hn)]) zx zb dX6_takeSpeed_19 rfl hl (by decide) rfl (fun ls hl => ?_)
      refine lv_aload_n zx zb dX6_takeSpeed_20 rfl (lv_at hl 2 rfl) ?_
      refine b_wi (cells' := 0) (slots' := 0) (wr := rcV X hn an sv dv n0 n1 n2 n3 n4 g0 gs gn gm) G rfl rfl [16, 17] [0, 1, 2, 3, 4, 5, 6, 7, 8, 9, 10, 11, 12, 13, 14, 15] rfl rfl rfl rfl (n_V (As := []) (rest := []) (C := RX6) (T := TX6) (N := 7) (ci := 4) S G (x_endN l X h0 hb n b_2a v_2b fd hI_n hI_b_2a (by have := hT0; have := hT1; have := hT2; have := hT3; omega) hf_2 H.size) gX6_takeSpeed_X6_ended rfl rfl rfl hdV_X6_ended ⟨Nat.le_of_ble_eq_true rfl, Nat.le_of_ble_eq_true rfl⟩ [16, 17] rfl rfl 16 rfl rfl rfl hl.1 (Nat.le_of_ble_eq_true rfl) dX6_takeSpeed_21 ⟨Nat.le_of_ble_eq_true rfl, Nat.le_of_ble_eq_true rfl⟩) (fun r_3 u_3 H locs hp_3 G => ?_)
      obtain ⟨b_3a, v_3b⟩ := u_3
      try dsimp only at hp_3
      obtain ⟨hI_b_3a, hq_3⟩ := hp_3
      have hO_b_3a := hI_b_3a
      obtain ⟨hd0_b_3a, hd1_b_3a⟩ := hO_b_3a
      have G : wd X (va_A (@HAppend.hAppend va_W va_W va_W _ (rdV X h0 hb n bd vd fd) (rcV X hn an sv dv n0 n1 n2 n3 n4 g0 gs gn gm)) sz) (va_A (@HAppend.hAppend va_W va_W va_W _ (rdV X h0 hb n bd vd fd) (rcV X hn an sv dv n0 n1 n2 n3 n4 g0 gs gn gm)) sz) s (@HAppend.hAppend va_W va_W va_W _ (rcV X hn an sv dv n0 n1 n2 n3 n4 g0 gs gn gm) (rdV X h0 hb n b_3a v_3b fd)) H locs := G
      have ht_3 : scanP qB fd n (b_2a 0) = t3 fd n s0 := by rw [hy1_2]; rfl
      rw [ht_3] at hq_3
      obtain ⟨⟨hy0_3, hy1_3⟩, hr_3⟩ := hq_3
      rcases hr_3 with ⟨hn_3, hv_3, hf_3⟩ | ⟨hn_3, hv_3, hf_3⟩
      · obtain rfl := hv_3
        refine lv_if_eq (tgt := 49) zx zb dX6_takeSpeed_24 (by decide) (fun c_4 => absurd c_4 (by decide)) (fun c_4 => ?_)
        obtain ⟨jx, hjx, ejx⟩ := k_one (n := n0) (by omega) hn_1.2
        have er := hv_1.trans ejx
        subst er
        have hl : lv_has ls 4 [(3, .int r_2), (2, .int (nI jx)), (0, .ref h0), (1, .ref hn)] := hl
        refine lv_iload_n zx zb dX6_takeSpeed_27 rfl (lv_at hl 1 rfl) ?_
        refine lv_if_lt (tgt := 49) zx zb dX6_takeSpeed_28 (by decide) (fun c_5 => absurd c_5 (nI_pos (by omega))) (fun c_5 => ?_)
        refine lv_iload_n zx zb dX6_takeSpeed_31 rfl (lv_at hl 1 rfl) ?_
        refine lv_aload_n zx zb dX6_takeSpeed_32 rfl (lv_at hl 3 rfl) ?_
        refine r_get (C := RX5) (T := TX5) (N := 8) (ci := 3) (v := .int (nI n0)) S in_X6_takeSpeed_X5 G 0 rfl rfl 2 (by decide) lk_X6_takeSpeed_56 rfl dX6_takeSpeed_33 ?_
        refine lv_icmp_ge (tgt := 49) zx zb dX6_takeSpeed_36 (by decide) (fun c_6 => absurd c_6 (fun q => absurd (j_le (by omega) (by omega) q) (by omega))) (fun c_6 => ?_)
        refine lv_aload_n zx zb dX6_takeSpeed_39 rfl (lv_at hl 3 rfl) ?_
        refine r_get (C := RX5) (T := TX5) (N := 8) (ci := 3) (v := .ref (an 0)) S in_X6_takeSpeed_X5 G 0 rfl rfl 3 (by decide) lk_X6_takeSpeed_95 rfl dX6_takeSpeed_40 ?_
        refine lv_iload_n zx zb dX6_takeSpeed_43 rfl (lv_at hl 1 rfl) ?_
        rcases k_6c (show jx < 6 by omega) with rfl | rfl | rfl | rfl | rfl | rfl
        · refine k_it (v := 0) rfl ?_
          refine r_aald (C := RX8) (b := (an 1)) S G 1 3 rfl rfl (k_vp (by decide)) rfl dX6_takeSpeed_44 ?_
          refine lv_iload_n zx zb dX6_takeSpeed_45 rfl (lv_at hl 0 rfl) ?_
          refine r_put (C := RX8) (T := TX8) (N := 8) (ci := 6) (v := .int r_2) S in_X6_takeSpeed_X8 tyX8_ok nmX8 G 2 rfl rfl 3 (by decide) lk_X6_takeSpeed_99 rfl (vp_nar_int _) rfl (Nat.le_of_ble_eq_true rfl) dX6_takeSpeed_46 (fun H locs G => ?_)
          have G : wd X (va_A (@HAppend.hAppend va_W va_W va_W _ (rdV X h0 hb n bd vd fd) (rcV X hn an sv dv n0 n1 n2 n3 n4 g0 gs gn gm)) sz) (va_A (@HAppend.hAppend va_W va_W va_W _ (rdV X h0 hb n bd vd fd) (rcV X hn an sv dv n0 n1 n2 n3 n4 g0 gs gn gm)) sz) s (@HAppend.hAppend va_W va_W va_W _ (rcV X hn an sv (upd dv 10 r_2) n0 n1 n2 n3 n4 g0 gs gn gm) (rdV X h0 hb n b_3a v_3b fd)) H locs := G
          exact e_void S zr zlk G (b_3a, v_3b, (upd dv 10 r_2)) [16, 17, 0, 1, 2, 3, 4, 5, 6, 7, 8, 9, 10, 11, 12, 13, 14, 15] rfl rfl (Or.inr rfl) (⟨hI_b_3a, Or.inl ⟨by rw [spdC, chk_t (numB_t.mpr hn_1), chk_t (numB_t.mpr hn_2), chk_t (stpB_t hn_3)]; rfl, by rw [ejx, ← hv_2]; rfl, hf_3, hy1_3⟩⟩) dX6_takeSpeed_49
        · refine k_it (v := 1) rfl ?_
          refine r_aald (C := RX8) (b := (an 2)) S G 1 3 rfl rfl (k_vp (by decide)) rfl dX6_takeSpeed_44 ?_
          refine lv_iload_n zx zb dX6_takeSpeed_45 rfl (lv_at hl 0 rfl) ?_
          refine r_put (C := RX8) (T := TX8) (N := 8) (ci := 6) (v := .int r_2) S in_X6_takeSpeed_X8 tyX8_ok nmX8 G 3 rfl rfl 3 (by decide) lk_X6_takeSpeed_99 rfl (vp_nar_int _) rfl (Nat.le_of_ble_eq_true rfl) dX6_takeSpeed_46 (fun H locs G => ?_)
          have G : wd X (va_A (@HAppend.hAppend va_W va_W va_W _ (rdV X h0 hb n bd vd fd) (rcV X hn an sv dv n0 n1 n2 n3 n4 g0 gs gn gm)) sz) (va_A (@HAppend.hAppend va_W va_W va_W _ (rdV X h0 hb n bd vd fd) (rcV X hn an sv dv n0 n1 n2 n3 n4 g0 gs gn gm)) sz) s (@HAppend.hAppend va_W va_W va_W _ (rcV X hn an sv (upd dv 15 r_2) n0 n1 n2 n3 n4 g0 gs gn gm) (rdV X h0 hb n b_3a v_3b fd)) H locs := G
          exact e_void S zr zlk G (b_3a, v_3b, (upd dv 15 r_2)) [16, 17, 0, 1, 2, 3, 4, 5, 6, 7, 8, 9, 10, 11, 12, 13, 14, 15] rfl rfl (Or.inr rfl) (⟨hI_b_3a, Or.inl ⟨by rw [spdC, chk_t (numB_t.mpr hn_1), chk_t (numB_t.mpr hn_2), chk_t (stpB_t hn_3)]; rfl, by rw [ejx, ← hv_2]; rfl, hf_3, hy1_3⟩⟩) dX6_takeSpeed_49
        · refine k_it (v := 2) rfl ?_
          refine r_aald (C := RX8) (b := (an 3)) S G 1 3 rfl rfl (k_vp (by decide)) rfl dX6_takeSpeed_44 ?_
          refine lv_iload_n zx zb dX6_takeSpeed_45 rfl (lv_at hl 0 rfl) ?_
          refine r_put (C := RX8) (T := TX8) (N := 8) (ci := 6) (v := .int r_2) S in_X6_takeSpeed_X8 tyX8_ok nmX8 G 4 rfl rfl 3 (by decide) lk_X6_takeSpeed_99 rfl (vp_nar_int _) rfl (Nat.le_of_ble_eq_true rfl) dX6_takeSpeed_46 (fun H locs G => ?_)
          have G : wd X (va_A (@HAppend.hAppend va_W va_W va_W _ (rdV X h0 hb n bd vd fd) (rcV X hn an sv dv n0 n1 n2 n3 n4 g0 gs gn gm)) sz) (va_A (@HAppend.hAppend va_W va_W va_W _ (rdV X h0 hb n bd vd fd) (rcV X hn an sv dv n0 n1 n2 n3 n4 g0 gs gn gm)) sz) s (@HAppend.hAppend va_W va_W va_W _ (rcV X hn an sv (upd dv 20 r_2) n0 n1 n2 n3 n4 g0 gs gn gm) (rdV X h0 hb n b_3a v_3b fd)) H locs := G
          exact e_void S zr zlk G (b_3a, v_3b, (upd dv 20 r_2)) [16, 17, 0, 1, 2, 3, 4, 5, 6, 7, 8, 9, 10, 11, 12, 13, 14, 15] rfl rfl (Or.inr rfl) (⟨hI_b_3a, Or.inl ⟨by rw [spdC, chk_t (numB_t.mpr hn_1), chk_t (numB_t.mpr hn_2), chk_t (stpB_t hn_3)]; rfl, by rw [ejx, ← hv_2]; rfl, hf_3, hy1_3⟩⟩) dX6_takeSpeed_49
        · refine k_it (v := 3) rfl ?_
          refine r_aald (C := RX8) (b := (an 4)) S G 1 3 rfl rfl (k_vp (by decide)) rfl dX6_takeSpeed_44 ?_
          refine lv_iload_n zx zb dX6_takeSpeed_45 rfl (lv_at hl 0 rfl) ?_
          refine r_put (C := RX8) (T := TX8) (N := 8) (ci := 6) (v := .int r_2) S in_X6_takeSpeed_X8 tyX8_ok nmX8 G 5 rfl rfl 3 (by decide) lk_X6_takeSpeed_99 rfl (vp_nar_int _) rfl (Nat.le_of_ble_eq_true rfl) dX6_takeSpeed_46 (fun H locs G => ?_)
          have G : wd X (va_A (@HAppend.hAppend va_W va_W va_W _ (rdV X h0 hb n bd vd fd) (rcV X hn an sv dv n0 n1 n2 n3 n4 g0 gs gn gm)) sz) (va_A (@HAppend.hAppend va_W va_W va_W _ (rdV X h0 hb n bd vd fd) (rcV X hn an sv dv n0 n1 n2 n3 n4 g0 gs gn gm)) sz) s (@HAppend.hAppend va_W va_W va_W _ (rcV X hn an sv (upd dv 25 r_2) n0 n1 n2 n3 n4 g0 gs gn gm) (rdV X h0 hb n b_3a v_3b fd)) H locs := G
          exact e_void S zr zlk G (b_3a, v_3b, (upd dv 25 r_2)) [16, 17, 0, 1, 2, 3, 4, 5, 6, 7, 8, 9, 10, 11, 12, 13, 14, 15] rfl rfl (Or.inr rfl) (⟨hI_b_3a, Or.inl ⟨by rw [spdC, chk_t (numB_t.mpr hn_1), chk_t (numB_t.mpr hn_2), chk_t (stpB_t hn_3)]; rfl, by rw [ejx, ← hv_2]; rfl, hf_3, hy1_3⟩⟩) dX6_takeSpeed_49
        · refine k_it (v := 4) rfl ?_
          refine r_aald (C := RX8) (b := (an 5)) S G 1 3 rfl rfl (k_vp (by decide)) rfl dX6_takeSpeed_44 ?_
          refine lv_iload_n zx zb dX6_takeSpeed_45 rfl (lv_at hl 0 rfl) ?_
          refine r_put (C := RX8) (T := TX8) (N := 8) (ci := 6) (v := .int r_2) S in_X6_takeSpeed_X8 tyX8_ok nmX8 G 6 rfl rfl 3 (by decide) lk_X6_takeSpeed_99 rfl (vp_nar_int _) rfl (Nat.le_of_ble_eq_true rfl) dX6_takeSpeed_46 (fun H locs G => ?_)
          have G : wd X (va_A (@HAppend.hAppend va_W va_W va_W _ (rdV X h0 hb n bd vd fd) (rcV X hn an sv dv n0 n1 n2 n3 n4 g0 gs gn gm)) sz) (va_A (@HAppend.hAppend va_W va_W va_W _ (rdV X h0 hb n bd vd fd) (rcV X hn an sv dv n0 n1 n2 n3 n4 g0 gs gn gm)) sz) s (@HAppend.hAppend va_W va_W va_W _ (rcV X hn an sv (upd dv 30 r_2) n0 n1 n2 n3 n4 g0 gs gn gm) (rdV X h0 hb n b_3a v_3b fd)) H locs := G
          exact e_void S zr zlk G (b_3a, v_3b, (upd dv 30 r_2)) [16, 17, 0, 1, 2, 3, 4, 5, 6, 7, 8, 9, 10, 11, 12, 13, 14, 15] rfl rfl (Or.inr rfl) (⟨hI_b_3a, Or.inl ⟨by rw [spdC, chk_t (numB_t.mpr hn_1), chk_t (numB_t.mpr hn_2), chk_t (stpB_t hn_3)]; rfl, by rw [ejx, ← hv_2]; rfl, hf_3, hy1_3⟩⟩) dX6_takeSpeed_49
        · refine k_it (v := 5) rfl ?_
          refine r_aald (C := RX8) (b := (an 6)) S G 1 3 rfl rfl (k_vp (by decide)) rfl dX6_takeSpeed_44 ?_
          refine lv_iload_n zx zb dX6_takeSpeed_45 rfl (lv_at hl 0 rfl) ?_
          refine r_put (C := RX8) (T := TX8) (N := 8) (ci := 6) (v := .int r_2) S in_X6_takeSpeed_X8 tyX8_ok nmX8 G 7 rfl rfl 3 (by decide) lk_X6_takeSpeed_99 rfl (vp_nar_int _) rfl (Nat.le_of_ble_eq_true rfl) dX6_takeSpeed_46 (fun H locs G => ?_)
          have G : wd X (va_A (@HAppend.hAppend va_W va_W va_W _ (rdV X h0 hb n bd vd fd) (rcV X hn an sv dv n0 n1 n2 n3 n4 g0 gs gn gm)) sz) (va_A (@HAppend.hAppend va_W va_W va_W _ (rdV X h0 hb n bd vd fd) (rcV X hn an sv dv n0 n1 n2 n3 n4 g0 gs gn gm)) sz) s (@HAppend.hAppend va_W va_W va_W _ (rcV X hn an sv (upd dv 35 r_2) n0 n1 n2 n3 n4 g0 gs gn gm) (rdV X h0 hb n b_3a v_3b fd)) H locs := G
          exact e_void S zr zlk G (b_3a, v_3b, (upd dv 35 r_2)) [16, 17, 0, 1, 2, 3, 4, 5, 6, 7, 8, 9, 10, 11, 12, 13, 14, 15] rfl rfl (Or.inr rfl) (⟨hI_b_3a, Or.inl ⟨by rw [spdC, chk_t (numB_t.mpr hn_1), chk_t (numB_t.mpr hn_2), chk_t (stpB_t hn_3)]; rfl, by rw [ejx, ← hv_2]; rfl, hf_3, hy1_3⟩⟩) dX6_takeSpeed_49
      · obtain rfl := hv_3
        refine lv_if_eq (tgt := 49) zx zb dX6_takeSpeed_24 (by decide) (fun c_7 => ?_) (fun c_7 => absurd (by decide) c_7)
        exact e_void S zr zlk G (b_3a, v_3b, dv) [16, 17, 0, 1, 2, 3, 4, 5, 6, 7, 8, 9, 10, 11, 12, 13, 14, 15] rfl rfl (Or.inr rfl) (⟨hI_b_3a, Or.inr ⟨_, by rw [spdC, chk_t (numB_t.mpr hn_1), chk_t (numB_t.mpr hn_2), chk_f (stpB_f hn_3)], hf_3, by first | omega | (dsimp only; omega)⟩⟩) dX6_takeSpeed_49
    · obtain rfl := hv_2
      refine lv_istore_n (lv' := [(3, .int (-1)), (2, .int r_1), (0, .ref h0), (1, .ref hn)]) zx zb dX6_takeSpeed_19 rfl hl (by decide) rfl (fun ls hl => ?_)
      refine lv_aload_n zx zb dX6_takeSpeed_20 rfl (lv_at hl 2 rfl) ?_
      refine o_ri (cells' := 0) (slots' := 0) G rfl rfl (n_V (As := []) (rest := []) (C := RX6) (T := TX6) (N := 7) (ci := 4) S G (x_endF l X h0 hb n b_2a v_2b fd hI_n hI_b_2a (k_nf hf_2 (by have := hT1; omega)) H.size) gX6_takeSpeed_X6_ended rfl rfl rfl hdV_X6_ended ⟨Nat.le_of_ble_eq_true rfl, Nat.le_of_ble_eq_true rfl⟩ [16, 17] rfl rfl 16 rfl rfl rfl hl.1 (Nat.le_of_ble_eq_true rfl) dX6_takeSpeed_21 ⟨Nat.le_of_ble_eq_true rfl, Nat.le_of_ble_eq_true rfl⟩) (fun r_8 u_8 H locs hp_8 G => ?_)
      have G : wd X (va_A (@HAppend.hAppend va_W va_W va_W _ (rdV X h0 hb n bd vd fd) (rcV X hn an sv dv n0 n1 n2 n3 n4 g0 gs gn gm)) sz) (va_A (@HAppend.hAppend va_W va_W va_W _ (rdV X h0 hb n bd vd fd) (rcV X hn an sv dv n0 n1 n2 n3 n4 g0 gs gn gm)) sz) s (@HAppend.hAppend va_W va_W va_W _ (rcV X hn an sv dv n0 n1 n2 n3 n4 g0 gs gn gm) (rdV X h0 hb n b_2a v_2b fd)) H locs := G
      obtain rfl := hp_8
      refine lv_if_eq (tgt := 49) zx zb dX6_takeSpeed_24 (by decide) (fun c_9 => ?_) (fun c_9 => absurd (by decide) c_9)
      exact e_void S zr zlk G (b_2a, v_2b, dv) [16, 17, 0, 1, 2, 3, 4, 5, 6, 7, 8, 9, 10, 11, 12, 13, 14, 15] rfl rfl (Or.inr rfl) (⟨hI_b_2a, Or.inr ⟨_, by rw [spdC, chk_t (numB_t.mpr hn_1), chk_f (numB_f hn_2)], hf_2, by first | omega | (dsimp only; omega)⟩⟩) dX6_takeSpeed_49
  · obtain rfl := hv_1
    refine lv_istore_n (lv' := [(2, .int (-1)), (0, .ref h0), (1, .ref hn)]) zx zb dX6_takeSpeed_11 rfl hl (by decide) rfl (fun ls hl => ?_)
    refine lv_aload_n zx zb dX6_takeSpeed_12 rfl (lv_at hl 1 rfl) ?_
    refine lv_iconst (v := 0) zx zb dX6_takeSpeed_13 (by decide) ?_
    refine lv_bipush (v := 9) zx zb dX6_takeSpeed_14 (by decide) ?_
    refine o_ri (cells' := 0) (slots' := 0) G rfl rfl (n_V (As := [.int 0, .int 9]) (rest := []) (C := RX6) (T := TX6) (N := 7) (ci := 4) S G (x_numF l X h0 hb n b_1a v_1b fd 0 9 hI_n hI_b_1a (k_nf hf_1 (by have := hT0; omega)) H.size) gX6_takeSpeed_X6_number rfl rfl rfl hdV_X6_number ⟨Nat.le_of_ble_eq_true rfl, Nat.le_of_ble_eq_true rfl⟩ [16, 17] rfl rfl 16 rfl rfl rfl hl.1 (Nat.le_of_ble_eq_true rfl) dX6_takeSpeed_16 ⟨Nat.le_of_ble_eq_true rfl, Nat.le_of_ble_eq_true rfl⟩) (fun r_10 u_10 H locs hp_10 G => ?_)
    have G : wd X (va_A (@HAppend.hAppend va_W va_W va_W _ (rdV X h0 hb n bd vd fd) (rcV X hn an sv dv n0 n1 n2 n3 n4 g0 gs gn gm)) sz) (va_A (@HAppend.hAppend va_W va_W va_W _ (rdV X h0 hb n bd vd fd) (rcV X hn an sv dv n0 n1 n2 n3 n4 g0 gs gn gm)) sz) s (@HAppend.hAppend va_W va_W va_W _ (rcV X hn an sv dv n0 n1 n2 n3 n4 g0 gs gn gm) (rdV X h0 hb n b_1a v_1b fd)) H locs := G
    obtain rfl := hp_10
    refine lv_istore_n (lv' := [(3, .int (-1)), (2, .int (-1)), (0, .ref h0), (1, .ref hn)]) zx zb dX6_takeSpeed_19 rfl hl (by decide) rfl (fun ls hl => ?_)
    refine lv_aload_n zx zb dX6_takeSpeed_20 rfl (lv_at hl 2 rfl) ?_
    refine o_ri (cells' := 0) (slots' := 0) G rfl rfl (n_V (As := []) (rest := []) (C := RX6) (T := TX6) (N := 7) (ci := 4) S G (x_endF l X h0 hb n b_1a v_1b fd hI_n hI_b_1a (k_nf hf_1 (by have := hT0; omega)) H.size) gX6_takeSpeed_X6_ended rfl rfl rfl hdV_X6_ended ⟨Nat.le_of_ble_eq_true rfl, Nat.le_of_ble_eq_true rfl⟩ [16, 17] rfl rfl 16 rfl rfl rfl hl.1 (Nat.le_of_ble_eq_true rfl) dX6_takeSpeed_21 ⟨Nat.le_of_ble_eq_true rfl, Nat.le_of_ble_eq_true rfl⟩) (fun r_11 u_11 H locs hp_11 G => ?_)
    have G : wd X (va_A (@HAppend.hAppend va_W va_W va_W _ (rdV X h0 hb n bd vd fd) (rcV X hn an sv dv n0 n1 n2 n3 n4 g0 gs gn gm)) sz) (va_A (@HAppend.hAppend va_W va_W va_W _ (rdV X h0 hb n bd vd fd) (rcV X hn an sv dv n0 n1 n2 n3 n4 g0 gs gn gm)) sz) s (@HAppend.hAppend va_W va_W va_W _ (rcV X hn an sv dv n0 n1 n2 n3 n4 g0 gs gn gm) (rdV X h0 hb n b_1a v_1b fd)) H locs := G
    obtain rfl := hp_11
    refine lv_if_eq (tgt := 49) zx zb dX6_takeSpeed_24 (by decide) (fun c_12 => ?_) (fun c_12 => absurd (by decide) c_12)
    exact e_void S zr zlk G (b_1a, v_1b, dv) [16, 17, 0, 1, 2, 3, 4, 5, 6, 7, 8, 9, 10, 11, 12, 13, 14, 15] rfl rfl (Or.inr rfl) (⟨hI_b_1a, Or.inr ⟨_, by rw [spdC, chk_f (numB_f hn_1)], hf_1, by first | omega | (dsimp only; omega)⟩⟩) dX6_takeSpeed_49
