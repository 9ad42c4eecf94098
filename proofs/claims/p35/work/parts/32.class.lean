set_option maxRecDepth 20000 in
theorem ggX6_ended_X6_nextToken : GoodIn wsX6_ended wsX6_nextToken := goodIn_r _ [8, 9, 3, 10, 2, 11, 12, 13, 14, 7, 15, 16, 17, 18, 19, 20, 21, 22, 23, 24, 25, 26, 27, 28, 29, 30, 31, 32, 33, 34, 35, 36, 37] rfl (by decide +kernel)
set_option maxRecDepth 20000 in
theorem gX6_ended_X6_nextToken : GoodIn wsX6_ended (wsV RX6 41 RX6 yX6_nextToken wsX6_nextToken) := goodIn_app (goodIn_of _ (by decide +kernel)) ggX6_ended_X6_nextToken
set_option maxRecDepth 20000 in
theorem ggX6_nextToken_X6_isFigure : GoodIn wsX6_nextToken wsX6_isFigure := goodIn_r _ [20] rfl (by decide +kernel)
set_option maxRecDepth 20000 in
theorem gX6_nextToken_X6_isFigure : GoodIn wsX6_nextToken (va_wsS RX6 125 yX6_isFigure wsX6_isFigure) := goodIn_app (goodIn_of _ (by decide +kernel)) ggX6_nextToken_X6_isFigure
set_option maxRecDepth 20000 in
theorem ggX6_nextToken_X6_isLetter : GoodIn wsX6_nextToken wsX6_isLetter := goodIn_r _ [13] rfl (by decide +kernel)
set_option maxRecDepth 20000 in
theorem gX6_nextToken_X6_isLetter : GoodIn wsX6_nextToken (va_wsS RX6 118 yX6_isLetter wsX6_isLetter) := goodIn_app (goodIn_of _ (by decide +kernel)) ggX6_nextToken_X6_isLetter
set_option maxRecDepth 20000 in
theorem ggX6_nextToken_X6_skipBlanks : GoodIn wsX6_nextToken wsX6_skipBlanks := goodIn_r _ [10, 1, 3, 5, 26, 27, 28, 29, 30, 31, 32] rfl (by decide +kernel)
set_option maxRecDepth 20000 in
theorem gX6_nextToken_X6_skipBlanks : GoodIn wsX6_nextToken (wsV RX6 38 RX6 yX6_skipBlanks wsX6_skipBlanks) := goodIn_app (goodIn_of _ (by decide +kernel)) ggX6_nextToken_X6_skipBlanks
set_option maxRecDepth 20000 in
theorem ggX6_nextToken_X6_takeFigures : GoodIn wsX6_nextToken wsX6_takeFigures := goodIn_r _ [24, 25, 1, 3, 5, 2, 4, 18, 19, 9, 20, 26, 27, 28, 29, 30, 31, 32] rfl (by decide +kernel)
set_option maxRecDepth 20000 in
theorem gX6_nextToken_X6_takeFigures : GoodIn wsX6_nextToken (wsV RX6 128 RX6 yX6_takeFigures wsX6_takeFigures) := goodIn_app (goodIn_of _ (by decide +kernel)) ggX6_nextToken_X6_takeFigures
set_option maxRecDepth 20000 in
theorem ggX6_nextToken_X6_takeLetters : GoodIn wsX6_nextToken wsX6_takeLetters := goodIn_r _ [17, 1, 3, 5, 4, 11, 12, 9, 13, 26, 27, 28, 29, 30, 31, 32] rfl (by decide +kernel)
set_option maxRecDepth 20000 in
theorem gX6_nextToken_X6_takeLetters : GoodIn wsX6_nextToken (wsV RX6 122 RX6 yX6_takeLetters wsX6_takeLetters) := goodIn_app (goodIn_of _ (by decide +kernel)) ggX6_nextToken_X6_takeLetters
set_option maxRecDepth 20000 in
theorem ggX6_number_X6_nextToken : GoodIn wsX6_number wsX6_nextToken := goodIn_r _ [9, 10, 4, 11, 2, 12, 13, 14, 15, 8, 16, 17, 18, 19, 20, 21, 22, 23, 24, 25, 26, 27, 28, 29, 30, 3, 31, 32, 33, 34, 35, 36, 37] rfl (by decide +kernel)
set_option maxRecDepth 20000 in
theorem gX6_number_X6_nextToken : GoodIn wsX6_number (wsV RX6 41 RX6 yX6_nextToken wsX6_nextToken) := goodIn_app (goodIn_of _ (by decide +kernel)) ggX6_number_X6_nextToken
set_option maxRecDepth 20000 in
theorem ggX6_spells_J0_charAt_5068e : GoodIn wsX6_spells wsJ0_charAt_5068e := goodIn_r _ [19, 9, 20, 21, 22, 7, 23, 14, 15, 24, 25, 26, 27, 28, 29, 30, 31, 32, 33, 34, 35, 36, 37, 38, 39, 40, 41, 42, 43, 44, 45, 46, 47, 48, 49, 50, 51, 52] rfl (by decide +kernel)
set_option maxRecDepth 20000 in
theorem gX6_spells_J0_charAt_5068e : GoodIn wsX6_spells (wsV RX6 136 RJ0 yJ0_charAt_5068e wsJ0_charAt_5068e) := goodIn_app (goodIn_of _ (by decide +kernel)) ggX6_spells_J0_charAt_5068e
set_option maxRecDepth 20000 in
theorem ggX6_spells_J0_length_8abf5 : GoodIn wsX6_spells wsJ0_length_8abf5 := goodIn_r _ [8, 9, 10, 11, 12, 7, 13, 14, 15] rfl (by decide +kernel)
set_option maxRecDepth 20000 in
theorem gX6_spells_J0_length_8abf5 : GoodIn wsX6_spells (wsV RX6 131 RJ0 yJ0_length_8abf5 wsJ0_length_8abf5) := goodIn_app (goodIn_of _ (by decide +kernel)) ggX6_spells_J0_length_8abf5
set_option maxRecDepth 20000 in
theorem ggX6_takeFigures_X6_isFigure : GoodIn wsX6_takeFigures wsX6_isFigure := goodIn_r _ [10] rfl (by decide +kernel)
set_option maxRecDepth 20000 in
theorem gX6_takeFigures_X6_isFigure : GoodIn wsX6_takeFigures (va_wsS RX6 125 yX6_isFigure wsX6_isFigure) := goodIn_app (goodIn_of _ (by decide +kernel)) ggX6_takeFigures_X6_isFigure
set_option maxRecDepth 20000 in
theorem ggX6_takeItem_X6_nextToken : GoodIn wsX6_takeItem wsX6_nextToken := goodIn_r _ [9, 10, 2, 11, 1, 12, 13, 14, 15, 8, 16, 17, 18, 19, 20, 21, 22, 23, 24, 25, 26, 27, 28, 29, 30, 31, 174, 175, 176, 177, 178, 179, 180] rfl (by decide +kernel)
set_option maxRecDepth 20000 in
theorem gX6_takeItem_X6_nextToken : GoodIn wsX6_takeItem (wsV RX6 41 RX6 yX6_nextToken wsX6_nextToken) := goodIn_app (goodIn_of _ (by decide +kernel)) ggX6_takeItem_X6_nextToken
set_option maxRecDepth 20000 in
theorem ggX6_takeItem_X6_spells : GoodIn wsX6_takeItem wsX6_spells := goodIn_r _ [35, 10, 2, 12, 36, 37, 38, 39, 40, 41, 42, 43, 44, 45, 46, 47, 48, 49, 50, 51, 52, 53, 54, 55, 56, 57, 58, 59, 60, 61, 62, 63, 64, 65, 66, 67, 68, 69, 70, 71, 72, 73, 74, 75, 76, 77, 78, 79, 80, 81, 82, 83, 84, 174, 175, 176, 177, 178, 179, 180] rfl (by decide +kernel)
set_option maxRecDepth 20000 in
theorem gX6_takeItem_X6_spells : GoodIn wsX6_takeItem (wsV RX6 46 RX6 yX6_spells wsX6_spells) := goodIn_app (goodIn_of _ (by decide +kernel)) ggX6_takeItem_X6_spells
set_option maxRecDepth 20000 in
theorem ggX6_takeItem_X6_takeLength : GoodIn wsX6_takeItem wsX6_takeLength := goodIn_r _ [88, 89, 90, 91, 8, 92, 3, 1, 31, 2, 5, 6, 7, 9, 10, 11, 12, 13, 14, 15, 16, 17, 18, 19, 20, 21, 22, 23, 24, 25, 26, 27, 28, 29, 30, 93, 94, 95, 96, 97, 98, 99, 100, 101, 102, 103, 104, 105, 106, 107, 108, 109, 110, 174, 175, 176, 177, 178, 179, 180, 181, 182, 183, 184, 185, 186, 187, 188, 189, 190, 191, 192, 193, 194, 195] rfl (by decide +kernel)
set_option maxRecDepth 20000 in
theorem gX6_takeItem_X6_takeLength : GoodIn wsX6_takeItem (wsV RX6 50 RX6 yX6_takeLength wsX6_takeLength) := goodIn_app (goodIn_of _ (by decide +kernel)) ggX6_takeItem_X6_takeLength
set_option maxRecDepth 20000 in
theorem ggX6_takeItem_X6_takeRunner : GoodIn wsX6_takeItem wsX6_takeRunner := goodIn_r _ [114, 89, 90, 91, 8, 92, 3, 1, 31, 2, 5, 6, 7, 9, 10, 11, 12, 13, 14, 15, 16, 17, 18, 19, 20, 21, 22, 23, 24, 25, 26, 27, 28, 29, 30, 93, 94, 95, 96, 115, 116, 117, 100, 118, 104, 119, 105, 106, 120, 121, 122, 123, 124, 125, 126, 127, 128, 129, 130, 131, 132, 174, 175, 176, 177, 178, 179, 180, 181, 182, 183, 184, 185, 186, 187, 188, 189, 190, 196, 197, 198, 199, 200, 201, 202, 203] rfl (by decide +kernel)
set_option maxRecDepth 20000 in
theorem gX6_takeItem_X6_takeRunner : GoodIn wsX6_takeItem (wsV RX6 61 RX6 yX6_takeRunner wsX6_takeRunner) := goodIn_app (goodIn_of _ (by decide +kernel)) ggX6_takeItem_X6_takeRunner
set_option maxRecDepth 20000 in
theorem ggX6_takeItem_X6_takeSpeed : GoodIn wsX6_takeItem wsX6_takeSpeed := goodIn_r _ [136, 4, 137, 138, 89, 90, 91, 8, 92, 3, 1, 31, 2, 5, 6, 7, 9, 10, 11, 12, 13, 14, 15, 16, 17, 18, 19, 20, 21, 22, 23, 24, 25, 26, 27, 28, 29, 30, 93, 94, 95, 96, 181, 182, 183, 184, 185, 186, 187, 188, 196, 197, 198, 199, 200, 201, 202, 203, 174, 175, 176, 177, 178, 179, 180] rfl (by decide +kernel)
set_option maxRecDepth 20000 in
theorem gX6_takeItem_X6_takeSpeed : GoodIn wsX6_takeItem (wsV RX6 66 RX6 yX6_takeSpeed wsX6_takeSpeed) := goodIn_app (goodIn_of _ (by decide +kernel)) ggX6_takeItem_X6_takeSpeed
set_option maxRecDepth 20000 in
theorem ggX6_takeItem_X6_takeStart : GoodIn wsX6_takeItem wsX6_takeStart := goodIn_r _ [142, 4, 137, 2, 3, 143, 144, 145, 146, 147, 148, 89, 90, 91, 8, 92, 1, 31, 5, 6, 7, 9, 10, 11, 12, 13, 14, 15, 16, 17, 18, 19, 20, 21, 22, 23, 24, 25, 26, 27, 28, 29, 30, 149, 150, 151, 123, 152, 132, 93, 94, 95, 96, 181, 182, 183, 184, 185, 186, 187, 188, 174, 175, 176, 177, 178, 179, 180, 196, 197, 198, 199, 200, 201, 202, 203] rfl (by decide +kernel)
set_option maxRecDepth 20000 in
theorem gX6_takeItem_X6_takeStart : GoodIn wsX6_takeItem (wsV RX6 71 RX6 yX6_takeStart wsX6_takeStart) := goodIn_app (goodIn_of _ (by decide +kernel)) ggX6_takeItem_X6_takeStart
set_option maxRecDepth 20000 in
theorem ggX6_takeItem_X6_takeTicks : GoodIn wsX6_takeItem wsX6_takeTicks := goodIn_r _ [156, 89, 90, 91, 8, 92, 3, 1, 31, 2, 5, 6, 7, 9, 10, 11, 12, 13, 14, 15, 16, 17, 18, 19, 20, 21, 22, 23, 24, 25, 26, 27, 28, 29, 30, 93, 94, 95, 96, 157, 158, 159, 100, 160, 103, 104, 119, 102, 161, 162, 163, 123, 164, 131, 125, 126, 128, 127, 130, 129, 132, 165, 150, 151, 152, 166, 167, 168, 169, 170, 171, 172, 173, 174, 175, 176, 177, 178, 179, 180, 181, 182, 183, 184, 185, 186, 187, 188, 196, 197, 198, 199, 200, 201, 202, 203] rfl (by decide +kernel)
set_option maxRecDepth 20000 in
theorem gX6_takeItem_X6_takeTicks : GoodIn wsX6_takeItem (wsV RX6 76 RX6 yX6_takeTicks wsX6_takeTicks) := goodIn_app (goodIn_of _ (by decide +kernel)) ggX6_takeItem_X6_takeTicks
set_option maxRecDepth 20000 in
theorem ggX6_takeLength_X5_restart : GoodIn wsX6_takeLength wsX5_restart := goodIn_r _ [43, 44, 45, 46, 47, 48, 49, 50, 51, 52, 60, 61, 62, 63, 64, 65, 66, 67, 68, 69, 70, 71, 72, 73, 74] rfl (by decide +kernel)
set_option maxRecDepth 20000 in
theorem gX6_takeLength_X5_restart : GoodIn wsX6_takeLength (wsV RX6 87 RX5 yX5_restart wsX5_restart) := goodIn_app (goodIn_of _ (by decide +kernel)) ggX6_takeLength_X5_restart
set_option maxRecDepth 20000 in
theorem ggX6_takeLength_X6_ended : GoodIn wsX6_takeLength wsX6_ended := goodIn_r _ [38, 6, 7, 9, 10, 11, 12, 4, 13, 14, 15, 16, 17, 18, 19, 20, 21, 22, 23, 24, 25, 26, 27, 28, 29, 30, 31, 32, 33, 34, 8, 53, 54, 55, 56, 57, 58, 59] rfl (by decide +kernel)
set_option maxRecDepth 20000 in
theorem gX6_takeLength_X6_ended : GoodIn wsX6_takeLength (wsV RX6 83 RX6 yX6_ended wsX6_ended) := goodIn_app (goodIn_of _ (by decide +kernel)) ggX6_takeLength_X6_ended
set_option maxRecDepth 20000 in
theorem ggX6_takeLength_X6_number : GoodIn wsX6_takeLength wsX6_number := goodIn_r _ [5, 6, 7, 8, 9, 10, 11, 12, 4, 13, 14, 15, 16, 17, 18, 19, 20, 21, 22, 23, 24, 25, 26, 27, 28, 29, 30, 31, 32, 33, 34, 53, 54, 55, 56, 57, 58, 59] rfl (by decide +kernel)
set_option maxRecDepth 20000 in
theorem gX6_takeLength_X6_number : GoodIn wsX6_takeLength (wsV RX6 79 RX6 yX6_number wsX6_number) := goodIn_app (goodIn_of _ (by decide +kernel)) ggX6_takeLength_X6_number
set_option maxRecDepth 20000 in
theorem ggX6_takeLetters_X6_isLetter : GoodIn wsX6_takeLetters wsX6_isLetter := goodIn_r _ [8] rfl (by decide +kernel)
set_option maxRecDepth 20000 in
theorem gX6_takeLetters_X6_isLetter : GoodIn wsX6_takeLetters (va_wsS RX6 118 yX6_isLetter wsX6_isLetter) := goodIn_app (goodIn_of _ (by decide +kernel)) ggX6_takeLetters_X6_isLetter
set_option maxRecDepth 20000 in
theorem ggX6_takeRunner_X5_welcome : GoodIn wsX6_takeRunner wsX5_welcome := goodIn_r _ [43, 44, 45, 46, 47, 48, 49, 50, 51, 52, 53, 54, 55, 56, 57, 58, 59, 60, 68, 69, 70, 71, 72, 73, 74, 75, 76, 77, 78, 79, 80, 81, 82, 83, 84, 85] rfl (by decide +kernel)
set_option maxRecDepth 20000 in
theorem gX6_takeRunner_X5_welcome : GoodIn wsX6_takeRunner (wsV RX6 91 RX5 yX5_welcome wsX5_welcome) := goodIn_app (goodIn_of _ (by decide +kernel)) ggX6_takeRunner_X5_welcome
set_option maxRecDepth 20000 in
theorem ggX6_takeRunner_X6_ended : GoodIn wsX6_takeRunner wsX6_ended := goodIn_r _ [38, 6, 7, 9, 10, 11, 12, 4, 13, 14, 15, 16, 17, 18, 19, 20, 21, 22, 23, 24, 25, 26, 27, 28, 29, 30, 31, 32, 33, 34, 8, 61, 62, 63, 64, 65, 66, 67] rfl (by decide +kernel)
set_option maxRecDepth 20000 in
theorem gX6_takeRunner_X6_ended : GoodIn wsX6_takeRunner (wsV RX6 83 RX6 yX6_ended wsX6_ended) := goodIn_app (goodIn_of _ (by decide +kernel)) ggX6_takeRunner_X6_ended
set_option maxRecDepth 20000 in
theorem ggX6_takeRunner_X6_number : GoodIn wsX6_takeRunner wsX6_number := goodIn_r _ [5, 6, 7, 8, 9, 10, 11, 12, 4, 13, 14, 15, 16, 17, 18, 19, 20, 21, 22, 23, 24, 25, 26, 27, 28, 29, 30, 31, 32, 33, 34, 61, 62, 63, 64, 65, 66, 67] rfl (by decide +kernel)
set_option maxRecDepth 20000 in
theorem gX6_takeRunner_X6_number : GoodIn wsX6_takeRunner (wsV RX6 79 RX6 yX6_number wsX6_number) := goodIn_app (goodIn_of _ (by decide +kernel)) ggX6_takeRunner_X6_number
set_option maxRecDepth 20000 in
theorem ggX6_takeSpeed_X6_ended : GoodIn wsX6_takeSpeed wsX6_ended := goodIn_r _ [41, 9, 10, 12, 13, 14, 15, 7, 16, 17, 18, 19, 20, 21, 22, 23, 24, 25, 26, 27, 28, 29, 30, 31, 32, 33, 34, 35, 36, 37, 11, 58, 59, 60, 61, 62, 63, 64] rfl (by decide +kernel)
set_option maxRecDepth 20000 in
theorem gX6_takeSpeed_X6_ended : GoodIn wsX6_takeSpeed (wsV RX6 83 RX6 yX6_ended wsX6_ended) := goodIn_app (goodIn_of _ (by decide +kernel)) ggX6_takeSpeed_X6_ended
set_option maxRecDepth 20000 in
theorem ggX6_takeSpeed_X6_number : GoodIn wsX6_takeSpeed wsX6_number := goodIn_r _ [8, 9, 10, 11, 12, 13, 14, 15, 7, 16, 17, 18, 19, 20, 21, 22, 23, 24, 25, 26, 27, 28, 29, 30, 31, 32, 33, 34, 35, 36, 37, 58, 59, 60, 61, 62, 63, 64] rfl (by decide +kernel)
set_option maxRecDepth 20000 in
theorem gX6_takeSpeed_X6_number : GoodIn wsX6_takeSpeed (wsV RX6 79 RX6 yX6_number wsX6_number) := goodIn_app (goodIn_of _ (by decide +kernel)) ggX6_takeSpeed_X6_number
set_option maxRecDepth 20000 in
theorem ggX6_takeStart_X6_ended : GoodIn wsX6_takeStart wsX6_ended := goodIn_r _ [52, 4, 16, 3, 18, 19, 20, 14, 21, 22, 23, 24, 25, 26, 27, 28, 29, 30, 31, 32, 33, 34, 35, 36, 37, 38, 39, 40, 41, 42, 17, 61, 62, 63, 64, 65, 66, 67] rfl (by decide +kernel)
set_option maxRecDepth 20000 in
theorem gX6_takeStart_X6_ended : GoodIn wsX6_takeStart (wsV RX6 83 RX6 yX6_ended wsX6_ended) := goodIn_app (goodIn_of _ (by decide +kernel)) ggX6_takeStart_X6_ended
set_option maxRecDepth 20000 in
theorem ggX6_takeStart_X6_number : GoodIn wsX6_takeStart wsX6_number := goodIn_r _ [15, 4, 16, 17, 3, 18, 19, 20, 14, 21, 22, 23, 24, 25, 26, 27, 28, 29, 30, 31, 32, 33, 34, 35, 36, 37, 38, 39, 40, 41, 42, 61, 62, 63, 64, 65, 66, 67] rfl (by decide +kernel)
set_option maxRecDepth 20000 in
theorem gX6_takeStart_X6_number : GoodIn wsX6_takeStart (wsV RX6 79 RX6 yX6_number wsX6_number) := goodIn_app (goodIn_of _ (by decide +kernel)) ggX6_takeStart_X6_number
set_option maxRecDepth 20000 in
theorem ggX6_takeStart_X8_isHome : GoodIn wsX6_takeStart wsX8_isHome := goodIn_r _ [47, 48, 68, 69, 70, 71, 72, 73, 74, 75] rfl (by decide +kernel)
set_option maxRecDepth 20000 in
theorem gX6_takeStart_X8_isHome : GoodIn wsX6_takeStart (wsV RX6 103 RX8 yX8_isHome wsX8_isHome) := goodIn_app (goodIn_of _ (by decide +kernel)) ggX6_takeStart_X8_isHome
set_option maxRecDepth 20000 in
theorem ggX6_takeTicks_X5_goOn : GoodIn wsX6_takeTicks wsX5_goOn := goodIn_r _ [43, 44, 45, 46, 47, 48, 49, 50, 51, 52, 53, 54, 55, 56, 57, 58, 59, 60, 61, 62, 63, 64, 65, 66, 67, 68, 69, 70, 71, 72, 80, 81, 82, 83, 84, 85, 86, 87, 88, 89, 90, 91, 92, 93, 94, 95] rfl (by decide +kernel)
set_option maxRecDepth 20000 in
theorem gX6_takeTicks_X5_goOn : GoodIn wsX6_takeTicks (wsV RX6 115 RX5 yX5_goOn wsX5_goOn) := goodIn_app (goodIn_of _ (by decide +kernel)) ggX6_takeTicks_X5_goOn
set_option maxRecDepth 20000 in
theorem ggX6_takeTicks_X6_ended : GoodIn wsX6_takeTicks wsX6_ended := goodIn_r _ [38, 6, 7, 9, 10, 11, 12, 4, 13, 14, 15, 16, 17, 18, 19, 20, 21, 22, 23, 24, 25, 26, 27, 28, 29, 30, 31, 32, 33, 34, 8, 73, 74, 75, 76, 77, 78, 79] rfl (by decide +kernel)
set_option maxRecDepth 20000 in
theorem gX6_takeTicks_X6_ended : GoodIn wsX6_takeTicks (wsV RX6 83 RX6 yX6_ended wsX6_ended) := goodIn_app (goodIn_of _ (by decide +kernel)) ggX6_takeTicks_X6_ended
set_option maxRecDepth 20000 in
theorem ggX6_takeTicks_X6_number : GoodIn wsX6_takeTicks wsX6_number := goodIn_r _ [5, 6, 7, 8, 9, 10, 11, 12, 4, 13, 14, 15, 16, 17, 18, 19, 20, 21, 22, 23, 24, 25, 26, 27, 28, 29, 30, 31, 32, 33, 34, 73, 74, 75, 76, 77, 78, 79] rfl (by decide +kernel)
set_option maxRecDepth 20000 in
theorem gX6_takeTicks_X6_number : GoodIn wsX6_takeTicks (wsV RX6 79 RX6 yX6_number wsX6_number) := goodIn_app (goodIn_of _ (by decide +kernel)) ggX6_takeTicks_X6_number
theorem dX6_ended_0 : decode cX6_ended 0 = .ok (.aload_n 0, 1) := by decide +kernel
theorem dX6_ended_1 : decode cX6_ended 1 = .ok (.getfield 31, 3) := by decide +kernel
theorem dX6_ended_10 : decode cX6_ended 10 = .ok (.aload_n 0, 1) := by decide +kernel
theorem dX6_ended_11 : decode cX6_ended 11 = .ok (.invokevirtual 41, 3) := by decide +kernel
theorem dX6_ended_14 : decode cX6_ended 14 = .ok (.aload_n 0, 1) := by decide +kernel
theorem dX6_ended_15 : decode cX6_ended 15 = .ok (.getfield 25, 3) := by decide +kernel
theorem dX6_ended_18 : decode cX6_ended 18 = .ok (.iconst 3, 1) := by decide +kernel
theorem dX6_ended_19 : decode cX6_ended 19 = .ok (.if_icmp .eq 11, 3) := by decide +kernel
theorem dX6_ended_22 : decode cX6_ended 22 = .ok (.aload_n 0, 1) := by decide +kernel
theorem dX6_ended_23 : decode cX6_ended 23 = .ok (.aload_n 0, 1) := by decide +kernel
theorem dX6_ended_24 : decode cX6_ended 24 = .ok (.getfield 22, 3) := by decide +kernel
theorem dX6_ended_27 : decode cX6_ended 27 = .ok (.putfield 31, 3) := by decide +kernel
theorem dX6_ended_30 : decode cX6_ended 30 = .ok (.aload_n 0, 1) := by decide +kernel
theorem dX6_ended_31 : decode cX6_ended 31 = .ok (.getfield 31, 3) := by decide +kernel
theorem dX6_ended_34 : decode cX6_ended 34 = .ok (.iconst (-1), 1) := by decide +kernel
theorem dX6_ended_35 : decode cX6_ended 35 = .ok (.if_icmp .ne 7, 3) := by decide +kernel
theorem dX6_ended_38 : decode cX6_ended 38 = .ok (.iconst 1, 1) := by decide +kernel
theorem dX6_ended_39 : decode cX6_ended 39 = .ok (.goto 4, 3) := by decide +kernel
theorem dX6_ended_4 : decode cX6_ended 4 = .ok (.iconst (-1), 1) := by decide +kernel
theorem dX6_ended_42 : decode cX6_ended 42 = .ok (.iconst 0, 1) := by decide +kernel
theorem dX6_ended_43 : decode cX6_ended 43 = .ok (.ireturn, 1) := by decide +kernel
theorem dX6_ended_5 : decode cX6_ended 5 = .ok (.if_icmp .eq 5, 3) := by decide +kernel
theorem dX6_ended_8 : decode cX6_ended 8 = .ok (.iconst 0, 1) := by decide +kernel
theorem dX6_ended_9 : decode cX6_ended 9 = .ok (.ireturn, 1) := by decide +kernel
theorem dX6_isFigure_0 : decode cX6_isFigure 0 = .ok (.iload_n 0, 1) := by decide +kernel
theorem dX6_isFigure_1 : decode cX6_isFigure 1 = .ok (.bipush 48, 2) := by decide +kernel
theorem dX6_isFigure_12 : decode cX6_isFigure 12 = .ok (.iconst 1, 1) := by decide +kernel
theorem dX6_isFigure_13 : decode cX6_isFigure 13 = .ok (.goto 4, 3) := by decide +kernel
theorem dX6_isFigure_16 : decode cX6_isFigure 16 = .ok (.iconst 0, 1) := by decide +kernel
theorem dX6_isFigure_17 : decode cX6_isFigure 17 = .ok (.ireturn, 1) := by decide +kernel
theorem dX6_isFigure_3 : decode cX6_isFigure 3 = .ok (.if_icmp .lt 13, 3) := by decide +kernel
theorem dX6_isFigure_6 : decode cX6_isFigure 6 = .ok (.iload_n 0, 1) := by decide +kernel
theorem dX6_isFigure_7 : decode cX6_isFigure 7 = .ok (.bipush 57, 2) := by decide +kernel
theorem dX6_isFigure_9 : decode cX6_isFigure 9 = .ok (.if_icmp .gt 7, 3) := by decide +kernel
theorem dX6_isLetter_0 : decode cX6_isLetter 0 = .ok (.iload_n 0, 1) := by decide +kernel
theorem dX6_isLetter_1 : decode cX6_isLetter 1 = .ok (.bipush 97, 2) := by decide +kernel
theorem dX6_isLetter_12 : decode cX6_isLetter 12 = .ok (.iconst 1, 1) := by decide +kernel
theorem dX6_isLetter_13 : decode cX6_isLetter 13 = .ok (.goto 4, 3) := by decide +kernel
theorem dX6_isLetter_16 : decode cX6_isLetter 16 = .ok (.iconst 0, 1) := by decide +kernel
theorem dX6_isLetter_17 : decode cX6_isLetter 17 = .ok (.ireturn, 1) := by decide +kernel
theorem dX6_isLetter_3 : decode cX6_isLetter 3 = .ok (.if_icmp .lt 13, 3) := by decide +kernel
theorem dX6_isLetter_6 : decode cX6_isLetter 6 = .ok (.iload_n 0, 1) := by decide +kernel
theorem dX6_isLetter_7 : decode cX6_isLetter 7 = .ok (.bipush 122, 2) := by decide +kernel
theorem dX6_isLetter_9 : decode cX6_isLetter 9 = .ok (.if_icmp .gt 7, 3) := by decide +kernel
theorem dX6_nextToken_0 : decode cX6_nextToken 0 = .ok (.aload_n 0, 1) := by decide +kernel
theorem dX6_nextToken_1 : decode cX6_nextToken 1 = .ok (.invokevirtual 38, 3) := by decide +kernel
theorem dX6_nextToken_100 : decode cX6_nextToken 100 = .ok (.getfield 19, 3) := by decide +kernel
theorem dX6_nextToken_103 : decode cX6_nextToken 103 = .ok (.iconst 1, 1) := by decide +kernel
theorem dX6_nextToken_104 : decode cX6_nextToken 104 = .ok (.iadd, 1) := by decide +kernel
theorem dX6_nextToken_105 : decode cX6_nextToken 105 = .ok (.putfield 19, 3) := by decide +kernel
theorem dX6_nextToken_108 : decode cX6_nextToken 108 = .ok (.return_, 1) := by decide +kernel
theorem dX6_nextToken_12 : decode cX6_nextToken 12 = .ok (.aload_n 0, 1) := by decide +kernel
theorem dX6_nextToken_13 : decode cX6_nextToken 13 = .ok (.getfield 19, 3) := by decide +kernel
theorem dX6_nextToken_16 : decode cX6_nextToken 16 = .ok (.aload_n 0, 1) := by decide +kernel
theorem dX6_nextToken_17 : decode cX6_nextToken 17 = .ok (.getfield 15, 3) := by decide +kernel
theorem dX6_nextToken_20 : decode cX6_nextToken 20 = .ok (.if_icmp .lt 11, 3) := by decide +kernel
theorem dX6_nextToken_23 : decode cX6_nextToken 23 = .ok (.aload_n 0, 1) := by decide +kernel
theorem dX6_nextToken_24 : decode cX6_nextToken 24 = .ok (.iconst 0, 1) := by decide +kernel
theorem dX6_nextToken_25 : decode cX6_nextToken 25 = .ok (.putfield 25, 3) := by decide +kernel
theorem dX6_nextToken_28 : decode cX6_nextToken 28 = .ok (.goto 80, 3) := by decide +kernel
theorem dX6_nextToken_31 : decode cX6_nextToken 31 = .ok (.aload_n 0, 1) := by decide +kernel
theorem dX6_nextToken_32 : decode cX6_nextToken 32 = .ok (.getfield 11, 3) := by decide +kernel
theorem dX6_nextToken_35 : decode cX6_nextToken 35 = .ok (.aload_n 0, 1) := by decide +kernel
theorem dX6_nextToken_36 : decode cX6_nextToken 36 = .ok (.getfield 19, 3) := by decide +kernel
theorem dX6_nextToken_39 : decode cX6_nextToken 39 = .ok (.iaload, 1) := by decide +kernel
theorem dX6_nextToken_4 : decode cX6_nextToken 4 = .ok (.aload_n 0, 1) := by decide +kernel
theorem dX6_nextToken_40 : decode cX6_nextToken 40 = .ok (.invokestatic 118, 3) := by decide +kernel
theorem dX6_nextToken_43 : decode cX6_nextToken 43 = .ok (.ifCond .eq 10, 3) := by decide +kernel
theorem dX6_nextToken_46 : decode cX6_nextToken 46 = .ok (.aload_n 0, 1) := by decide +kernel
theorem dX6_nextToken_47 : decode cX6_nextToken 47 = .ok (.invokevirtual 122, 3) := by decide +kernel
theorem dX6_nextToken_5 : decode cX6_nextToken 5 = .ok (.aload_n 0, 1) := by decide +kernel
theorem dX6_nextToken_50 : decode cX6_nextToken 50 = .ok (.goto 58, 3) := by decide +kernel
theorem dX6_nextToken_53 : decode cX6_nextToken 53 = .ok (.aload_n 0, 1) := by decide +kernel
theorem dX6_nextToken_54 : decode cX6_nextToken 54 = .ok (.getfield 11, 3) := by decide +kernel
theorem dX6_nextToken_57 : decode cX6_nextToken 57 = .ok (.aload_n 0, 1) := by decide +kernel
theorem dX6_nextToken_58 : decode cX6_nextToken 58 = .ok (.getfield 19, 3) := by decide +kernel
theorem dX6_nextToken_6 : decode cX6_nextToken 6 = .ok (.getfield 19, 3) := by decide +kernel
theorem dX6_nextToken_61 : decode cX6_nextToken 61 = .ok (.iaload, 1) := by decide +kernel
theorem dX6_nextToken_62 : decode cX6_nextToken 62 = .ok (.invokestatic 125, 3) := by decide +kernel
theorem dX6_nextToken_65 : decode cX6_nextToken 65 = .ok (.ifCond .eq 10, 3) := by decide +kernel
theorem dX6_nextToken_68 : decode cX6_nextToken 68 = .ok (.aload_n 0, 1) := by decide +kernel
theorem dX6_nextToken_69 : decode cX6_nextToken 69 = .ok (.invokevirtual 128, 3) := by decide +kernel
theorem dX6_nextToken_72 : decode cX6_nextToken 72 = .ok (.goto 36, 3) := by decide +kernel
theorem dX6_nextToken_75 : decode cX6_nextToken 75 = .ok (.aload_n 0, 1) := by decide +kernel
theorem dX6_nextToken_76 : decode cX6_nextToken 76 = .ok (.aload_n 0, 1) := by decide +kernel
theorem dX6_nextToken_77 : decode cX6_nextToken 77 = .ok (.getfield 11, 3) := by decide +kernel
theorem dX6_nextToken_80 : decode cX6_nextToken 80 = .ok (.aload_n 0, 1) := by decide +kernel
theorem dX6_nextToken_81 : decode cX6_nextToken 81 = .ok (.getfield 19, 3) := by decide +kernel
theorem dX6_nextToken_84 : decode cX6_nextToken 84 = .ok (.iaload, 1) := by decide +kernel
theorem dX6_nextToken_85 : decode cX6_nextToken 85 = .ok (.bipush 59, 2) := by decide +kernel
theorem dX6_nextToken_87 : decode cX6_nextToken 87 = .ok (.if_icmp .ne 7, 3) := by decide +kernel
theorem dX6_nextToken_9 : decode cX6_nextToken 9 = .ok (.putfield 22, 3) := by decide +kernel
theorem dX6_nextToken_90 : decode cX6_nextToken 90 = .ok (.iconst 3, 1) := by decide +kernel
theorem dX6_nextToken_91 : decode cX6_nextToken 91 = .ok (.goto 4, 3) := by decide +kernel
theorem dX6_nextToken_94 : decode cX6_nextToken 94 = .ok (.iconst 4, 1) := by decide +kernel
theorem dX6_nextToken_95 : decode cX6_nextToken 95 = .ok (.putfield 25, 3) := by decide +kernel
theorem dX6_nextToken_98 : decode cX6_nextToken 98 = .ok (.aload_n 0, 1) := by decide +kernel
theorem dX6_nextToken_99 : decode cX6_nextToken 99 = .ok (.dup, 1) := by decide +kernel
theorem dX6_number_0 : decode cX6_number 0 = .ok (.aload_n 0, 1) := by decide +kernel
theorem dX6_number_1 : decode cX6_number 1 = .ok (.getfield 31, 3) := by decide +kernel
theorem dX6_number_10 : decode cX6_number 10 = .ok (.aload_n 0, 1) := by decide +kernel
theorem dX6_number_11 : decode cX6_number 11 = .ok (.invokevirtual 41, 3) := by decide +kernel
theorem dX6_number_14 : decode cX6_number 14 = .ok (.aload_n 0, 1) := by decide +kernel
theorem dX6_number_15 : decode cX6_number 15 = .ok (.getfield 25, 3) := by decide +kernel
theorem dX6_number_18 : decode cX6_number 18 = .ok (.iconst 2, 1) := by decide +kernel
theorem dX6_number_19 : decode cX6_number 19 = .ok (.if_icmp .ne 19, 3) := by decide +kernel
theorem dX6_number_22 : decode cX6_number 22 = .ok (.aload_n 0, 1) := by decide +kernel
theorem dX6_number_23 : decode cX6_number 23 = .ok (.getfield 28, 3) := by decide +kernel
theorem dX6_number_26 : decode cX6_number 26 = .ok (.iload_n 1, 1) := by decide +kernel
theorem dX6_number_27 : decode cX6_number 27 = .ok (.if_icmp .lt 11, 3) := by decide +kernel
theorem dX6_number_30 : decode cX6_number 30 = .ok (.aload_n 0, 1) := by decide +kernel
theorem dX6_number_31 : decode cX6_number 31 = .ok (.getfield 28, 3) := by decide +kernel
theorem dX6_number_34 : decode cX6_number 34 = .ok (.iload_n 2, 1) := by decide +kernel
theorem dX6_number_35 : decode cX6_number 35 = .ok (.if_icmp .le 13, 3) := by decide +kernel
theorem dX6_number_38 : decode cX6_number 38 = .ok (.aload_n 0, 1) := by decide +kernel
theorem dX6_number_39 : decode cX6_number 39 = .ok (.aload_n 0, 1) := by decide +kernel
theorem dX6_number_4 : decode cX6_number 4 = .ok (.iconst (-1), 1) := by decide +kernel
theorem dX6_number_40 : decode cX6_number 40 = .ok (.getfield 22, 3) := by decide +kernel
theorem dX6_number_43 : decode cX6_number 43 = .ok (.putfield 31, 3) := by decide +kernel
theorem dX6_number_46 : decode cX6_number 46 = .ok (.iconst (-1), 1) := by decide +kernel
theorem dX6_number_47 : decode cX6_number 47 = .ok (.ireturn, 1) := by decide +kernel
theorem dX6_number_48 : decode cX6_number 48 = .ok (.aload_n 0, 1) := by decide +kernel
theorem dX6_number_49 : decode cX6_number 49 = .ok (.getfield 28, 3) := by decide +kernel
theorem dX6_number_5 : decode cX6_number 5 = .ok (.if_icmp .eq 5, 3) := by decide +kernel
theorem dX6_number_52 : decode cX6_number 52 = .ok (.ireturn, 1) := by decide +kernel
theorem dX6_number_8 : decode cX6_number 8 = .ok (.iconst (-1), 1) := by decide +kernel
theorem dX6_number_9 : decode cX6_number 9 = .ok (.ireturn, 1) := by decide +kernel
theorem dX6_skipBlanks_0 : decode cX6_skipBlanks 0 = .ok (.aload_n 0, 1) := by decide +kernel
theorem dX6_skipBlanks_1 : decode cX6_skipBlanks 1 = .ok (.getfield 19, 3) := by decide +kernel
theorem dX6_skipBlanks_11 : decode cX6_skipBlanks 11 = .ok (.aload_n 0, 1) := by decide +kernel
theorem dX6_skipBlanks_12 : decode cX6_skipBlanks 12 = .ok (.getfield 11, 3) := by decide +kernel
theorem dX6_skipBlanks_15 : decode cX6_skipBlanks 15 = .ok (.aload_n 0, 1) := by decide +kernel
theorem dX6_skipBlanks_16 : decode cX6_skipBlanks 16 = .ok (.getfield 19, 3) := by decide +kernel
theorem dX6_skipBlanks_19 : decode cX6_skipBlanks 19 = .ok (.iaload, 1) := by decide +kernel
theorem dX6_skipBlanks_20 : decode cX6_skipBlanks 20 = .ok (.bipush 32, 2) := by decide +kernel
theorem dX6_skipBlanks_22 : decode cX6_skipBlanks 22 = .ok (.if_icmp .ne 16, 3) := by decide +kernel
theorem dX6_skipBlanks_25 : decode cX6_skipBlanks 25 = .ok (.aload_n 0, 1) := by decide +kernel
theorem dX6_skipBlanks_26 : decode cX6_skipBlanks 26 = .ok (.dup, 1) := by decide +kernel
theorem dX6_skipBlanks_27 : decode cX6_skipBlanks 27 = .ok (.getfield 19, 3) := by decide +kernel
theorem dX6_skipBlanks_30 : decode cX6_skipBlanks 30 = .ok (.iconst 1, 1) := by decide +kernel
theorem dX6_skipBlanks_31 : decode cX6_skipBlanks 31 = .ok (.iadd, 1) := by decide +kernel
theorem dX6_skipBlanks_32 : decode cX6_skipBlanks 32 = .ok (.putfield 19, 3) := by decide +kernel
theorem dX6_skipBlanks_35 : decode cX6_skipBlanks 35 = .ok (.goto (-35), 3) := by decide +kernel
theorem dX6_skipBlanks_38 : decode cX6_skipBlanks 38 = .ok (.return_, 1) := by decide +kernel
theorem dX6_skipBlanks_4 : decode cX6_skipBlanks 4 = .ok (.aload_n 0, 1) := by decide +kernel
theorem dX6_skipBlanks_5 : decode cX6_skipBlanks 5 = .ok (.getfield 15, 3) := by decide +kernel
theorem dX6_skipBlanks_8 : decode cX6_skipBlanks 8 = .ok (.if_icmp .ge 30, 3) := by decide +kernel
theorem dX6_spells_0 : decode cX6_spells 0 = .ok (.aload_n 0, 1) := by decide +kernel
theorem dX6_spells_1 : decode cX6_spells 1 = .ok (.getfield 19, 3) := by decide +kernel
theorem dX6_spells_10 : decode cX6_spells 10 = .ok (.invokevirtual 131, 3) := by decide +kernel
theorem dX6_spells_13 : decode cX6_spells 13 = .ok (.if_icmp .eq 5, 3) := by decide +kernel
theorem dX6_spells_16 : decode cX6_spells 16 = .ok (.iconst 0, 1) := by decide +kernel
theorem dX6_spells_17 : decode cX6_spells 17 = .ok (.ireturn, 1) := by decide +kernel
theorem dX6_spells_18 : decode cX6_spells 18 = .ok (.iconst 0, 1) := by decide +kernel
theorem dX6_spells_19 : decode cX6_spells 19 = .ok (.istore_n 2, 1) := by decide +kernel
theorem dX6_spells_20 : decode cX6_spells 20 = .ok (.iload_n 2, 1) := by decide +kernel
theorem dX6_spells_21 : decode cX6_spells 21 = .ok (.aload_n 1, 1) := by decide +kernel
theorem dX6_spells_22 : decode cX6_spells 22 = .ok (.invokevirtual 131, 3) := by decide +kernel
theorem dX6_spells_25 : decode cX6_spells 25 = .ok (.if_icmp .ge 30, 3) := by decide +kernel
theorem dX6_spells_28 : decode cX6_spells 28 = .ok (.aload_n 0, 1) := by decide +kernel
theorem dX6_spells_29 : decode cX6_spells 29 = .ok (.getfield 11, 3) := by decide +kernel
theorem dX6_spells_32 : decode cX6_spells 32 = .ok (.aload_n 0, 1) := by decide +kernel
theorem dX6_spells_33 : decode cX6_spells 33 = .ok (.getfield 22, 3) := by decide +kernel
theorem dX6_spells_36 : decode cX6_spells 36 = .ok (.iload_n 2, 1) := by decide +kernel
theorem dX6_spells_37 : decode cX6_spells 37 = .ok (.iadd, 1) := by decide +kernel
theorem dX6_spells_38 : decode cX6_spells 38 = .ok (.iaload, 1) := by decide +kernel
theorem dX6_spells_39 : decode cX6_spells 39 = .ok (.aload_n 1, 1) := by decide +kernel
theorem dX6_spells_4 : decode cX6_spells 4 = .ok (.aload_n 0, 1) := by decide +kernel
theorem dX6_spells_40 : decode cX6_spells 40 = .ok (.iload_n 2, 1) := by decide +kernel
theorem dX6_spells_41 : decode cX6_spells 41 = .ok (.invokevirtual 136, 3) := by decide +kernel
theorem dX6_spells_44 : decode cX6_spells 44 = .ok (.if_icmp .eq 5, 3) := by decide +kernel
theorem dX6_spells_47 : decode cX6_spells 47 = .ok (.iconst 0, 1) := by decide +kernel
theorem dX6_spells_48 : decode cX6_spells 48 = .ok (.ireturn, 1) := by decide +kernel
theorem dX6_spells_49 : decode cX6_spells 49 = .ok (.iinc 2 1, 3) := by decide +kernel
theorem dX6_spells_5 : decode cX6_spells 5 = .ok (.getfield 22, 3) := by decide +kernel
theorem dX6_spells_52 : decode cX6_spells 52 = .ok (.goto (-32), 3) := by decide +kernel
theorem dX6_spells_55 : decode cX6_spells 55 = .ok (.iconst 1, 1) := by decide +kernel
theorem dX6_spells_56 : decode cX6_spells 56 = .ok (.ireturn, 1) := by decide +kernel
theorem dX6_spells_8 : decode cX6_spells 8 = .ok (.isub, 1) := by decide +kernel
theorem dX6_spells_9 : decode cX6_spells 9 = .ok (.aload_n 1, 1) := by decide +kernel
theorem dX6_takeFigures_0 : decode cX6_takeFigures 0 = .ok (.aload_n 0, 1) := by decide +kernel
theorem dX6_takeFigures_1 : decode cX6_takeFigures 1 = .ok (.iconst 0, 1) := by decide +kernel
theorem dX6_takeFigures_10 : decode cX6_takeFigures 10 = .ok (.getfield 15, 3) := by decide +kernel
theorem dX6_takeFigures_13 : decode cX6_takeFigures 13 = .ok (.if_icmp .ge 55, 3) := by decide +kernel
theorem dX6_takeFigures_16 : decode cX6_takeFigures 16 = .ok (.aload_n 0, 1) := by decide +kernel
theorem dX6_takeFigures_17 : decode cX6_takeFigures 17 = .ok (.getfield 11, 3) := by decide +kernel
theorem dX6_takeFigures_2 : decode cX6_takeFigures 2 = .ok (.putfield 28, 3) := by decide +kernel
theorem dX6_takeFigures_20 : decode cX6_takeFigures 20 = .ok (.aload_n 0, 1) := by decide +kernel
theorem dX6_takeFigures_21 : decode cX6_takeFigures 21 = .ok (.getfield 19, 3) := by decide +kernel
theorem dX6_takeFigures_24 : decode cX6_takeFigures 24 = .ok (.iaload, 1) := by decide +kernel
theorem dX6_takeFigures_25 : decode cX6_takeFigures 25 = .ok (.invokestatic 125, 3) := by decide +kernel
theorem dX6_takeFigures_28 : decode cX6_takeFigures 28 = .ok (.ifCond .eq 40, 3) := by decide +kernel
theorem dX6_takeFigures_31 : decode cX6_takeFigures 31 = .ok (.aload_n 0, 1) := by decide +kernel
theorem dX6_takeFigures_32 : decode cX6_takeFigures 32 = .ok (.bipush 10, 2) := by decide +kernel
theorem dX6_takeFigures_34 : decode cX6_takeFigures 34 = .ok (.aload_n 0, 1) := by decide +kernel
theorem dX6_takeFigures_35 : decode cX6_takeFigures 35 = .ok (.getfield 28, 3) := by decide +kernel
theorem dX6_takeFigures_38 : decode cX6_takeFigures 38 = .ok (.imul, 1) := by decide +kernel
theorem dX6_takeFigures_39 : decode cX6_takeFigures 39 = .ok (.aload_n 0, 1) := by decide +kernel
theorem dX6_takeFigures_40 : decode cX6_takeFigures 40 = .ok (.getfield 11, 3) := by decide +kernel
theorem dX6_takeFigures_43 : decode cX6_takeFigures 43 = .ok (.aload_n 0, 1) := by decide +kernel
theorem dX6_takeFigures_44 : decode cX6_takeFigures 44 = .ok (.getfield 19, 3) := by decide +kernel
theorem dX6_takeFigures_47 : decode cX6_takeFigures 47 = .ok (.iaload, 1) := by decide +kernel
theorem dX6_takeFigures_48 : decode cX6_takeFigures 48 = .ok (.iadd, 1) := by decide +kernel
theorem dX6_takeFigures_49 : decode cX6_takeFigures 49 = .ok (.bipush 48, 2) := by decide +kernel
theorem dX6_takeFigures_5 : decode cX6_takeFigures 5 = .ok (.aload_n 0, 1) := by decide +kernel
theorem dX6_takeFigures_51 : decode cX6_takeFigures 51 = .ok (.isub, 1) := by decide +kernel
theorem dX6_takeFigures_52 : decode cX6_takeFigures 52 = .ok (.putfield 28, 3) := by decide +kernel
theorem dX6_takeFigures_55 : decode cX6_takeFigures 55 = .ok (.aload_n 0, 1) := by decide +kernel
theorem dX6_takeFigures_56 : decode cX6_takeFigures 56 = .ok (.dup, 1) := by decide +kernel
theorem dX6_takeFigures_57 : decode cX6_takeFigures 57 = .ok (.getfield 19, 3) := by decide +kernel
theorem dX6_takeFigures_6 : decode cX6_takeFigures 6 = .ok (.getfield 19, 3) := by decide +kernel
theorem dX6_takeFigures_60 : decode cX6_takeFigures 60 = .ok (.iconst 1, 1) := by decide +kernel
theorem dX6_takeFigures_61 : decode cX6_takeFigures 61 = .ok (.iadd, 1) := by decide +kernel
theorem dX6_takeFigures_62 : decode cX6_takeFigures 62 = .ok (.putfield 19, 3) := by decide +kernel
theorem dX6_takeFigures_65 : decode cX6_takeFigures 65 = .ok (.goto (-60), 3) := by decide +kernel
theorem dX6_takeFigures_68 : decode cX6_takeFigures 68 = .ok (.aload_n 0, 1) := by decide +kernel
theorem dX6_takeFigures_69 : decode cX6_takeFigures 69 = .ok (.aload_n 0, 1) := by decide +kernel
theorem dX6_takeFigures_70 : decode cX6_takeFigures 70 = .ok (.getfield 19, 3) := by decide +kernel
theorem dX6_takeFigures_73 : decode cX6_takeFigures 73 = .ok (.aload_n 0, 1) := by decide +kernel
theorem dX6_takeFigures_74 : decode cX6_takeFigures 74 = .ok (.getfield 22, 3) := by decide +kernel
theorem dX6_takeFigures_77 : decode cX6_takeFigures 77 = .ok (.isub, 1) := by decide +kernel
theorem dX6_takeFigures_78 : decode cX6_takeFigures 78 = .ok (.iconst 2, 1) := by decide +kernel
theorem dX6_takeFigures_79 : decode cX6_takeFigures 79 = .ok (.if_icmp .gt 7, 3) := by decide +kernel
theorem dX6_takeFigures_82 : decode cX6_takeFigures 82 = .ok (.iconst 2, 1) := by decide +kernel
theorem dX6_takeFigures_83 : decode cX6_takeFigures 83 = .ok (.goto 4, 3) := by decide +kernel
theorem dX6_takeFigures_86 : decode cX6_takeFigures 86 = .ok (.iconst 4, 1) := by decide +kernel
theorem dX6_takeFigures_87 : decode cX6_takeFigures 87 = .ok (.putfield 25, 3) := by decide +kernel
theorem dX6_takeFigures_9 : decode cX6_takeFigures 9 = .ok (.aload_n 0, 1) := by decide +kernel
theorem dX6_takeFigures_90 : decode cX6_takeFigures 90 = .ok (.return_, 1) := by decide +kernel
theorem dX6_takeItem_0 : decode cX6_takeItem 0 = .ok (.aload_n 0, 1) := by decide +kernel
theorem dX6_takeItem_1 : decode cX6_takeItem 1 = .ok (.invokevirtual 41, 3) := by decide +kernel
theorem dX6_takeItem_102 : decode cX6_takeItem 102 = .ok (.goto 28, 3) := by decide +kernel
theorem dX6_takeItem_105 : decode cX6_takeItem 105 = .ok (.aload_n 0, 1) := by decide +kernel
theorem dX6_takeItem_106 : decode cX6_takeItem 106 = .ok (.ldc 74, 2) := by decide +kernel
theorem dX6_takeItem_108 : decode cX6_takeItem 108 = .ok (.invokevirtual 46, 3) := by decide +kernel
theorem dX6_takeItem_111 : decode cX6_takeItem 111 = .ok (.ifCond .eq 11, 3) := by decide +kernel
theorem dX6_takeItem_114 : decode cX6_takeItem 114 = .ok (.aload_n 0, 1) := by decide +kernel
theorem dX6_takeItem_115 : decode cX6_takeItem 115 = .ok (.aload_n 1, 1) := by decide +kernel
theorem dX6_takeItem_116 : decode cX6_takeItem 116 = .ok (.invokevirtual 76, 3) := by decide +kernel
theorem dX6_takeItem_119 : decode cX6_takeItem 119 = .ok (.goto 11, 3) := by decide +kernel
theorem dX6_takeItem_12 : decode cX6_takeItem 12 = .ok (.aload_n 0, 1) := by decide +kernel
theorem dX6_takeItem_122 : decode cX6_takeItem 122 = .ok (.aload_n 0, 1) := by decide +kernel
theorem dX6_takeItem_123 : decode cX6_takeItem 123 = .ok (.aload_n 0, 1) := by decide +kernel
theorem dX6_takeItem_124 : decode cX6_takeItem 124 = .ok (.getfield 22, 3) := by decide +kernel
theorem dX6_takeItem_127 : decode cX6_takeItem 127 = .ok (.putfield 31, 3) := by decide +kernel
theorem dX6_takeItem_13 : decode cX6_takeItem 13 = .ok (.ldc 44, 2) := by decide +kernel
theorem dX6_takeItem_130 : decode cX6_takeItem 130 = .ok (.return_, 1) := by decide +kernel
theorem dX6_takeItem_15 : decode cX6_takeItem 15 = .ok (.invokevirtual 46, 3) := by decide +kernel
theorem dX6_takeItem_18 : decode cX6_takeItem 18 = .ok (.iload_n 2, 1) := by decide +kernel
theorem dX6_takeItem_19 : decode cX6_takeItem 19 = .ok (.if_icmp .eq 14, 3) := by decide +kernel
theorem dX6_takeItem_22 : decode cX6_takeItem 22 = .ok (.aload_n 0, 1) := by decide +kernel
theorem dX6_takeItem_23 : decode cX6_takeItem 23 = .ok (.aload_n 0, 1) := by decide +kernel
theorem dX6_takeItem_24 : decode cX6_takeItem 24 = .ok (.getfield 22, 3) := by decide +kernel
theorem dX6_takeItem_27 : decode cX6_takeItem 27 = .ok (.putfield 31, 3) := by decide +kernel
theorem dX6_takeItem_30 : decode cX6_takeItem 30 = .ok (.goto 100, 3) := by decide +kernel
theorem dX6_takeItem_33 : decode cX6_takeItem 33 = .ok (.iload_n 2, 1) := by decide +kernel
theorem dX6_takeItem_34 : decode cX6_takeItem 34 = .ok (.ifCond .eq 11, 3) := by decide +kernel
theorem dX6_takeItem_37 : decode cX6_takeItem 37 = .ok (.aload_n 0, 1) := by decide +kernel
theorem dX6_takeItem_38 : decode cX6_takeItem 38 = .ok (.aload_n 1, 1) := by decide +kernel
theorem dX6_takeItem_39 : decode cX6_takeItem 39 = .ok (.invokevirtual 50, 3) := by decide +kernel
theorem dX6_takeItem_4 : decode cX6_takeItem 4 = .ok (.aload_n 0, 1) := by decide +kernel
theorem dX6_takeItem_42 : decode cX6_takeItem 42 = .ok (.goto 88, 3) := by decide +kernel
theorem dX6_takeItem_45 : decode cX6_takeItem 45 = .ok (.aload_n 0, 1) := by decide +kernel
theorem dX6_takeItem_46 : decode cX6_takeItem 46 = .ok (.ldc 54, 2) := by decide +kernel
theorem dX6_takeItem_48 : decode cX6_takeItem 48 = .ok (.invokevirtual 46, 3) := by decide +kernel
theorem dX6_takeItem_5 : decode cX6_takeItem 5 = .ok (.getfield 25, 3) := by decide +kernel
theorem dX6_takeItem_51 : decode cX6_takeItem 51 = .ok (.ifCond .eq 20, 3) := by decide +kernel
theorem dX6_takeItem_54 : decode cX6_takeItem 54 = .ok (.aload_n 1, 1) := by decide +kernel
theorem dX6_takeItem_55 : decode cX6_takeItem 55 = .ok (.getfield 56, 3) := by decide +kernel
theorem dX6_takeItem_58 : decode cX6_takeItem 58 = .ok (.bipush 6, 2) := by decide +kernel
theorem dX6_takeItem_60 : decode cX6_takeItem 60 = .ok (.if_icmp .ge 11, 3) := by decide +kernel
theorem dX6_takeItem_63 : decode cX6_takeItem 63 = .ok (.aload_n 0, 1) := by decide +kernel
theorem dX6_takeItem_64 : decode cX6_takeItem 64 = .ok (.aload_n 1, 1) := by decide +kernel
theorem dX6_takeItem_65 : decode cX6_takeItem 65 = .ok (.invokevirtual 61, 3) := by decide +kernel
theorem dX6_takeItem_68 : decode cX6_takeItem 68 = .ok (.goto 62, 3) := by decide +kernel
theorem dX6_takeItem_71 : decode cX6_takeItem 71 = .ok (.aload_n 0, 1) := by decide +kernel
theorem dX6_takeItem_72 : decode cX6_takeItem 72 = .ok (.ldc 64, 2) := by decide +kernel
theorem dX6_takeItem_74 : decode cX6_takeItem 74 = .ok (.invokevirtual 46, 3) := by decide +kernel
theorem dX6_takeItem_77 : decode cX6_takeItem 77 = .ok (.ifCond .eq 11, 3) := by decide +kernel
theorem dX6_takeItem_8 : decode cX6_takeItem 8 = .ok (.iconst 1, 1) := by decide +kernel
theorem dX6_takeItem_80 : decode cX6_takeItem 80 = .ok (.aload_n 0, 1) := by decide +kernel
theorem dX6_takeItem_81 : decode cX6_takeItem 81 = .ok (.aload_n 1, 1) := by decide +kernel
theorem dX6_takeItem_82 : decode cX6_takeItem 82 = .ok (.invokevirtual 66, 3) := by decide +kernel
theorem dX6_takeItem_85 : decode cX6_takeItem 85 = .ok (.goto 45, 3) := by decide +kernel
theorem dX6_takeItem_88 : decode cX6_takeItem 88 = .ok (.aload_n 0, 1) := by decide +kernel
theorem dX6_takeItem_89 : decode cX6_takeItem 89 = .ok (.ldc 69, 2) := by decide +kernel
theorem dX6_takeItem_9 : decode cX6_takeItem 9 = .ok (.if_icmp .ne 13, 3) := by decide +kernel
theorem dX6_takeItem_91 : decode cX6_takeItem 91 = .ok (.invokevirtual 46, 3) := by decide +kernel
theorem dX6_takeItem_94 : decode cX6_takeItem 94 = .ok (.ifCond .eq 11, 3) := by decide +kernel
theorem dX6_takeItem_97 : decode cX6_takeItem 97 = .ok (.aload_n 0, 1) := by decide +kernel
theorem dX6_takeItem_98 : decode cX6_takeItem 98 = .ok (.aload_n 1, 1) := by decide +kernel
theorem dX6_takeItem_99 : decode cX6_takeItem 99 = .ok (.invokevirtual 71, 3) := by decide +kernel
theorem dX6_takeLength_0 : decode cX6_takeLength 0 = .ok (.aload_n 0, 1) := by decide +kernel
theorem dX6_takeLength_1 : decode cX6_takeLength 1 = .ok (.bipush 10, 2) := by decide +kernel
theorem dX6_takeLength_10 : decode cX6_takeLength 10 = .ok (.invokevirtual 83, 3) := by decide +kernel
theorem dX6_takeLength_13 : decode cX6_takeLength 13 = .ok (.ifCond .eq 8, 3) := by decide +kernel
theorem dX6_takeLength_16 : decode cX6_takeLength 16 = .ok (.aload_n 1, 1) := by decide +kernel
theorem dX6_takeLength_17 : decode cX6_takeLength 17 = .ok (.iload_n 2, 1) := by decide +kernel
theorem dX6_takeLength_18 : decode cX6_takeLength 18 = .ok (.invokevirtual 87, 3) := by decide +kernel
theorem dX6_takeLength_21 : decode cX6_takeLength 21 = .ok (.return_, 1) := by decide +kernel
theorem dX6_takeLength_3 : decode cX6_takeLength 3 = .ok (.bipush 60, 2) := by decide +kernel
theorem dX6_takeLength_5 : decode cX6_takeLength 5 = .ok (.invokevirtual 79, 3) := by decide +kernel
theorem dX6_takeLength_8 : decode cX6_takeLength 8 = .ok (.istore_n 2, 1) := by decide +kernel
theorem dX6_takeLength_9 : decode cX6_takeLength 9 = .ok (.aload_n 0, 1) := by decide +kernel
theorem dX6_takeLetters_0 : decode cX6_takeLetters 0 = .ok (.aload_n 0, 1) := by decide +kernel
theorem dX6_takeLetters_1 : decode cX6_takeLetters 1 = .ok (.getfield 19, 3) := by decide +kernel
theorem dX6_takeLetters_11 : decode cX6_takeLetters 11 = .ok (.aload_n 0, 1) := by decide +kernel
theorem dX6_takeLetters_12 : decode cX6_takeLetters 12 = .ok (.getfield 11, 3) := by decide +kernel
theorem dX6_takeLetters_15 : decode cX6_takeLetters 15 = .ok (.aload_n 0, 1) := by decide +kernel
theorem dX6_takeLetters_16 : decode cX6_takeLetters 16 = .ok (.getfield 19, 3) := by decide +kernel
theorem dX6_takeLetters_19 : decode cX6_takeLetters 19 = .ok (.iaload, 1) := by decide +kernel
theorem dX6_takeLetters_20 : decode cX6_takeLetters 20 = .ok (.invokestatic 118, 3) := by decide +kernel
theorem dX6_takeLetters_23 : decode cX6_takeLetters 23 = .ok (.ifCond .eq 16, 3) := by decide +kernel
theorem dX6_takeLetters_26 : decode cX6_takeLetters 26 = .ok (.aload_n 0, 1) := by decide +kernel
theorem dX6_takeLetters_27 : decode cX6_takeLetters 27 = .ok (.dup, 1) := by decide +kernel
theorem dX6_takeLetters_28 : decode cX6_takeLetters 28 = .ok (.getfield 19, 3) := by decide +kernel
theorem dX6_takeLetters_31 : decode cX6_takeLetters 31 = .ok (.iconst 1, 1) := by decide +kernel
theorem dX6_takeLetters_32 : decode cX6_takeLetters 32 = .ok (.iadd, 1) := by decide +kernel
theorem dX6_takeLetters_33 : decode cX6_takeLetters 33 = .ok (.putfield 19, 3) := by decide +kernel
theorem dX6_takeLetters_36 : decode cX6_takeLetters 36 = .ok (.goto (-36), 3) := by decide +kernel
theorem dX6_takeLetters_39 : decode cX6_takeLetters 39 = .ok (.aload_n 0, 1) := by decide +kernel
theorem dX6_takeLetters_4 : decode cX6_takeLetters 4 = .ok (.aload_n 0, 1) := by decide +kernel
theorem dX6_takeLetters_40 : decode cX6_takeLetters 40 = .ok (.iconst 1, 1) := by decide +kernel
theorem dX6_takeLetters_41 : decode cX6_takeLetters 41 = .ok (.putfield 25, 3) := by decide +kernel
theorem dX6_takeLetters_44 : decode cX6_takeLetters 44 = .ok (.return_, 1) := by decide +kernel
theorem dX6_takeLetters_5 : decode cX6_takeLetters 5 = .ok (.getfield 15, 3) := by decide +kernel
theorem dX6_takeLetters_8 : decode cX6_takeLetters 8 = .ok (.if_icmp .ge 31, 3) := by decide +kernel
theorem dX6_takeRunner_0 : decode cX6_takeRunner 0 = .ok (.aload_n 0, 1) := by decide +kernel
theorem dX6_takeRunner_1 : decode cX6_takeRunner 1 = .ok (.iconst 0, 1) := by decide +kernel
theorem dX6_takeRunner_11 : decode cX6_takeRunner 11 = .ok (.invokevirtual 79, 3) := by decide +kernel
theorem dX6_takeRunner_14 : decode cX6_takeRunner 14 = .ok (.istore_n 3, 1) := by decide +kernel
theorem dX6_takeRunner_15 : decode cX6_takeRunner 15 = .ok (.aload_n 0, 1) := by decide +kernel
theorem dX6_takeRunner_16 : decode cX6_takeRunner 16 = .ok (.iconst 0, 1) := by decide +kernel
theorem dX6_takeRunner_17 : decode cX6_takeRunner 17 = .ok (.iconst 5, 1) := by decide +kernel
theorem dX6_takeRunner_18 : decode cX6_takeRunner 18 = .ok (.invokevirtual 79, 3) := by decide +kernel
theorem dX6_takeRunner_2 : decode cX6_takeRunner 2 = .ok (.iconst 5, 1) := by decide +kernel
theorem dX6_takeRunner_21 : decode cX6_takeRunner 21 = .ok (.istore 4, 2) := by decide +kernel
theorem dX6_takeRunner_23 : decode cX6_takeRunner 23 = .ok (.aload_n 0, 1) := by decide +kernel
theorem dX6_takeRunner_24 : decode cX6_takeRunner 24 = .ok (.invokevirtual 83, 3) := by decide +kernel
theorem dX6_takeRunner_27 : decode cX6_takeRunner 27 = .ok (.ifCond .eq 11, 3) := by decide +kernel
theorem dX6_takeRunner_3 : decode cX6_takeRunner 3 = .ok (.invokevirtual 79, 3) := by decide +kernel
theorem dX6_takeRunner_30 : decode cX6_takeRunner 30 = .ok (.aload_n 1, 1) := by decide +kernel
theorem dX6_takeRunner_31 : decode cX6_takeRunner 31 = .ok (.iload_n 2, 1) := by decide +kernel
theorem dX6_takeRunner_32 : decode cX6_takeRunner 32 = .ok (.iload_n 3, 1) := by decide +kernel
theorem dX6_takeRunner_33 : decode cX6_takeRunner 33 = .ok (.iload 4, 2) := by decide +kernel
theorem dX6_takeRunner_35 : decode cX6_takeRunner 35 = .ok (.invokevirtual 91, 3) := by decide +kernel
theorem dX6_takeRunner_38 : decode cX6_takeRunner 38 = .ok (.return_, 1) := by decide +kernel
theorem dX6_takeRunner_6 : decode cX6_takeRunner 6 = .ok (.istore_n 2, 1) := by decide +kernel
theorem dX6_takeRunner_7 : decode cX6_takeRunner 7 = .ok (.aload_n 0, 1) := by decide +kernel
theorem dX6_takeRunner_8 : decode cX6_takeRunner 8 = .ok (.iconst 1, 1) := by decide +kernel
theorem dX6_takeRunner_9 : decode cX6_takeRunner 9 = .ok (.bipush 9, 2) := by decide +kernel
theorem dX6_takeSpeed_0 : decode cX6_takeSpeed 0 = .ok (.aload_n 0, 1) := by decide +kernel
theorem dX6_takeSpeed_1 : decode cX6_takeSpeed 1 = .ok (.iconst 0, 1) := by decide +kernel
theorem dX6_takeSpeed_11 : decode cX6_takeSpeed 11 = .ok (.istore_n 2, 1) := by decide +kernel
theorem dX6_takeSpeed_12 : decode cX6_takeSpeed 12 = .ok (.aload_n 0, 1) := by decide +kernel
theorem dX6_takeSpeed_13 : decode cX6_takeSpeed 13 = .ok (.iconst 0, 1) := by decide +kernel
theorem dX6_takeSpeed_14 : decode cX6_takeSpeed 14 = .ok (.bipush 9, 2) := by decide +kernel
theorem dX6_takeSpeed_16 : decode cX6_takeSpeed 16 = .ok (.invokevirtual 79, 3) := by decide +kernel
theorem dX6_takeSpeed_19 : decode cX6_takeSpeed 19 = .ok (.istore_n 3, 1) := by decide +kernel
theorem dX6_takeSpeed_2 : decode cX6_takeSpeed 2 = .ok (.aload_n 1, 1) := by decide +kernel
theorem dX6_takeSpeed_20 : decode cX6_takeSpeed 20 = .ok (.aload_n 0, 1) := by decide +kernel
theorem dX6_takeSpeed_21 : decode cX6_takeSpeed 21 = .ok (.invokevirtual 83, 3) := by decide +kernel
theorem dX6_takeSpeed_24 : decode cX6_takeSpeed 24 = .ok (.ifCond .eq 25, 3) := by decide +kernel
theorem dX6_takeSpeed_27 : decode cX6_takeSpeed 27 = .ok (.iload_n 2, 1) := by decide +kernel
theorem dX6_takeSpeed_28 : decode cX6_takeSpeed 28 = .ok (.ifCond .lt 21, 3) := by decide +kernel
theorem dX6_takeSpeed_3 : decode cX6_takeSpeed 3 = .ok (.getfield 56, 3) := by decide +kernel
theorem dX6_takeSpeed_31 : decode cX6_takeSpeed 31 = .ok (.iload_n 2, 1) := by decide +kernel
theorem dX6_takeSpeed_32 : decode cX6_takeSpeed 32 = .ok (.aload_n 1, 1) := by decide +kernel
theorem dX6_takeSpeed_33 : decode cX6_takeSpeed 33 = .ok (.getfield 56, 3) := by decide +kernel
theorem dX6_takeSpeed_36 : decode cX6_takeSpeed 36 = .ok (.if_icmp .ge 13, 3) := by decide +kernel
theorem dX6_takeSpeed_39 : decode cX6_takeSpeed 39 = .ok (.aload_n 1, 1) := by decide +kernel
theorem dX6_takeSpeed_40 : decode cX6_takeSpeed 40 = .ok (.getfield 95, 3) := by decide +kernel
theorem dX6_takeSpeed_43 : decode cX6_takeSpeed 43 = .ok (.iload_n 2, 1) := by decide +kernel
theorem dX6_takeSpeed_44 : decode cX6_takeSpeed 44 = .ok (.aaload, 1) := by decide +kernel
theorem dX6_takeSpeed_45 : decode cX6_takeSpeed 45 = .ok (.iload_n 3, 1) := by decide +kernel
theorem dX6_takeSpeed_46 : decode cX6_takeSpeed 46 = .ok (.putfield 99, 3) := by decide +kernel
theorem dX6_takeSpeed_49 : decode cX6_takeSpeed 49 = .ok (.return_, 1) := by decide +kernel
theorem dX6_takeSpeed_6 : decode cX6_takeSpeed 6 = .ok (.iconst 1, 1) := by decide +kernel
theorem dX6_takeSpeed_7 : decode cX6_takeSpeed 7 = .ok (.isub, 1) := by decide +kernel
theorem dX6_takeSpeed_8 : decode cX6_takeSpeed 8 = .ok (.invokevirtual 79, 3) := by decide +kernel
theorem dX6_takeStart_0 : decode cX6_takeStart 0 = .ok (.aload_n 0, 1) := by decide +kernel
theorem dX6_takeStart_1 : decode cX6_takeStart 1 = .ok (.iconst 0, 1) := by decide +kernel
theorem dX6_takeStart_11 : decode cX6_takeStart 11 = .ok (.istore_n 2, 1) := by decide +kernel
theorem dX6_takeStart_12 : decode cX6_takeStart 12 = .ok (.iload_n 2, 1) := by decide +kernel
theorem dX6_takeStart_13 : decode cX6_takeStart 13 = .ok (.ifCond .lt 15, 3) := by decide +kernel
theorem dX6_takeStart_16 : decode cX6_takeStart 16 = .ok (.iload_n 2, 1) := by decide +kernel
theorem dX6_takeStart_17 : decode cX6_takeStart 17 = .ok (.aload_n 1, 1) := by decide +kernel
theorem dX6_takeStart_18 : decode cX6_takeStart 18 = .ok (.getfield 56, 3) := by decide +kernel
theorem dX6_takeStart_2 : decode cX6_takeStart 2 = .ok (.aload_n 1, 1) := by decide +kernel
theorem dX6_takeStart_21 : decode cX6_takeStart 21 = .ok (.if_icmp .ge 7, 3) := by decide +kernel
theorem dX6_takeStart_24 : decode cX6_takeStart 24 = .ok (.iconst 1, 1) := by decide +kernel
theorem dX6_takeStart_25 : decode cX6_takeStart 25 = .ok (.goto 4, 3) := by decide +kernel
theorem dX6_takeStart_28 : decode cX6_takeStart 28 = .ok (.iconst 0, 1) := by decide +kernel
theorem dX6_takeStart_29 : decode cX6_takeStart 29 = .ok (.istore_n 3, 1) := by decide +kernel
theorem dX6_takeStart_3 : decode cX6_takeStart 3 = .ok (.getfield 56, 3) := by decide +kernel
theorem dX6_takeStart_30 : decode cX6_takeStart 30 = .ok (.iload_n 3, 1) := by decide +kernel
theorem dX6_takeStart_31 : decode cX6_takeStart 31 = .ok (.ifCond .eq 23, 3) := by decide +kernel
theorem dX6_takeStart_34 : decode cX6_takeStart 34 = .ok (.aload_n 1, 1) := by decide +kernel
theorem dX6_takeStart_35 : decode cX6_takeStart 35 = .ok (.getfield 95, 3) := by decide +kernel
theorem dX6_takeStart_38 : decode cX6_takeStart 38 = .ok (.iload_n 2, 1) := by decide +kernel
theorem dX6_takeStart_39 : decode cX6_takeStart 39 = .ok (.aaload, 1) := by decide +kernel
theorem dX6_takeStart_40 : decode cX6_takeStart 40 = .ok (.invokevirtual 103, 3) := by decide +kernel
theorem dX6_takeStart_43 : decode cX6_takeStart 43 = .ok (.ifCond .eq 11, 3) := by decide +kernel
theorem dX6_takeStart_46 : decode cX6_takeStart 46 = .ok (.aload_n 0, 1) := by decide +kernel
theorem dX6_takeStart_47 : decode cX6_takeStart 47 = .ok (.aload_n 0, 1) := by decide +kernel
theorem dX6_takeStart_48 : decode cX6_takeStart 48 = .ok (.getfield 22, 3) := by decide +kernel
theorem dX6_takeStart_51 : decode cX6_takeStart 51 = .ok (.putfield 31, 3) := by decide +kernel
theorem dX6_takeStart_54 : decode cX6_takeStart 54 = .ok (.aload_n 0, 1) := by decide +kernel
theorem dX6_takeStart_55 : decode cX6_takeStart 55 = .ok (.iconst 0, 1) := by decide +kernel
theorem dX6_takeStart_56 : decode cX6_takeStart 56 = .ok (.bipush 30, 2) := by decide +kernel
theorem dX6_takeStart_58 : decode cX6_takeStart 58 = .ok (.aload_n 1, 1) := by decide +kernel
theorem dX6_takeStart_59 : decode cX6_takeStart 59 = .ok (.getfield 106, 3) := by decide +kernel
theorem dX6_takeStart_6 : decode cX6_takeStart 6 = .ok (.iconst 1, 1) := by decide +kernel
theorem dX6_takeStart_62 : decode cX6_takeStart 62 = .ok (.iconst 1, 1) := by decide +kernel
theorem dX6_takeStart_63 : decode cX6_takeStart 63 = .ok (.isub, 1) := by decide +kernel
theorem dX6_takeStart_64 : decode cX6_takeStart 64 = .ok (.invokestatic 107, 3) := by decide +kernel
theorem dX6_takeStart_67 : decode cX6_takeStart 67 = .ok (.invokevirtual 79, 3) := by decide +kernel
theorem dX6_takeStart_7 : decode cX6_takeStart 7 = .ok (.isub, 1) := by decide +kernel
theorem dX6_takeStart_70 : decode cX6_takeStart 70 = .ok (.istore 4, 2) := by decide +kernel
theorem dX6_takeStart_72 : decode cX6_takeStart 72 = .ok (.aload_n 0, 1) := by decide +kernel
theorem dX6_takeStart_73 : decode cX6_takeStart 73 = .ok (.invokevirtual 83, 3) := by decide +kernel
theorem dX6_takeStart_76 : decode cX6_takeStart 76 = .ok (.ifCond .eq 18, 3) := by decide +kernel
theorem dX6_takeStart_79 : decode cX6_takeStart 79 = .ok (.iload_n 3, 1) := by decide +kernel
theorem dX6_takeStart_8 : decode cX6_takeStart 8 = .ok (.invokevirtual 79, 3) := by decide +kernel
theorem dX6_takeStart_80 : decode cX6_takeStart 80 = .ok (.ifCond .eq 14, 3) := by decide +kernel
theorem dX6_takeStart_83 : decode cX6_takeStart 83 = .ok (.aload_n 1, 1) := by decide +kernel
theorem dX6_takeStart_84 : decode cX6_takeStart 84 = .ok (.getfield 95, 3) := by decide +kernel
theorem dX6_takeStart_87 : decode cX6_takeStart 87 = .ok (.iload_n 2, 1) := by decide +kernel
theorem dX6_takeStart_88 : decode cX6_takeStart 88 = .ok (.aaload, 1) := by decide +kernel
theorem dX6_takeStart_89 : decode cX6_takeStart 89 = .ok (.iload 4, 2) := by decide +kernel
theorem dX6_takeStart_91 : decode cX6_takeStart 91 = .ok (.putfield 112, 3) := by decide +kernel
theorem dX6_takeStart_94 : decode cX6_takeStart 94 = .ok (.return_, 1) := by decide +kernel
theorem dX6_takeTicks_0 : decode cX6_takeTicks 0 = .ok (.aload_n 0, 1) := by decide +kernel
theorem dX6_takeTicks_1 : decode cX6_takeTicks 1 = .ok (.iconst 1, 1) := by decide +kernel
theorem dX6_takeTicks_12 : decode cX6_takeTicks 12 = .ok (.ifCond .eq 20, 3) := by decide +kernel
theorem dX6_takeTicks_15 : decode cX6_takeTicks 15 = .ok (.iconst 0, 1) := by decide +kernel
theorem dX6_takeTicks_16 : decode cX6_takeTicks 16 = .ok (.istore_n 3, 1) := by decide +kernel
theorem dX6_takeTicks_17 : decode cX6_takeTicks 17 = .ok (.iload_n 3, 1) := by decide +kernel
theorem dX6_takeTicks_18 : decode cX6_takeTicks 18 = .ok (.iload_n 2, 1) := by decide +kernel
theorem dX6_takeTicks_19 : decode cX6_takeTicks 19 = .ok (.if_icmp .ge 13, 3) := by decide +kernel
theorem dX6_takeTicks_2 : decode cX6_takeTicks 2 = .ok (.bipush 99, 2) := by decide +kernel
theorem dX6_takeTicks_22 : decode cX6_takeTicks 22 = .ok (.aload_n 1, 1) := by decide +kernel
theorem dX6_takeTicks_23 : decode cX6_takeTicks 23 = .ok (.invokevirtual 115, 3) := by decide +kernel
theorem dX6_takeTicks_26 : decode cX6_takeTicks 26 = .ok (.iinc 3 1, 3) := by decide +kernel
theorem dX6_takeTicks_29 : decode cX6_takeTicks 29 = .ok (.goto (-12), 3) := by decide +kernel
theorem dX6_takeTicks_32 : decode cX6_takeTicks 32 = .ok (.return_, 1) := by decide +kernel
theorem dX6_takeTicks_4 : decode cX6_takeTicks 4 = .ok (.invokevirtual 79, 3) := by decide +kernel
theorem dX6_takeTicks_7 : decode cX6_takeTicks 7 = .ok (.istore_n 2, 1) := by decide +kernel
theorem dX6_takeTicks_8 : decode cX6_takeTicks 8 = .ok (.aload_n 0, 1) := by decide +kernel
theorem dX6_takeTicks_9 : decode cX6_takeTicks 9 = .ok (.invokevirtual 83, 3) := by decide +kernel
set_option maxHeartbeats 4000000 in
set_option maxRecDepth 100000 in
/-- isLetter -/
theorem s_isLetter (l : Launch) (X : EX) (x : Int32) (sz : Nat) : Met l yX6_isLetter wsX6_isLetter ({ frames := 0, cells := 0, slots := 0, locals := 0 } : Room) (pE X [.int x] ([]) sz) (qI (fun (r : Int32) (u : Unit) => r = 0 ∨ r = 1) X (fun (u : Unit) => []) [] sz) 0 0 (va_A [] sz) := by
  refine mk_met (B := (fun _ => True)) (A := (va_A [] sz)) (cc := cX6_isLetter) (maxL := 1) (ret := (some .boolean)) (by decide) rfl (Nat.le_of_ble_eq_true rfl) k_ro k_a (fun p e s m below meth c S zr zlk znm zsz G ls hl => ?_)
  have S : CallFix p m c cX6_isLetter 1 s _ wsX6_isLetter RX6 := S
  have zx := S.1
  have zb := S.2.1
  have hl : lv_has ls 1 [(0, .int x)] := hl
  refine lv_iload_n zx zb dX6_isLetter_0 rfl (lv_at hl 0 rfl) ?_
  refine lv_bipush (v := 97) zx zb dX6_isLetter_1 (by decide) ?_
  refine lv_icmp_lt (tgt := 16) zx zb dX6_isLetter_3 (by decide) (fun c_1 => ?_) (fun c_1 => ?_)
  · refine lv_iconst (v := 0) zx zb dX6_isLetter_16 (by decide) ?_
    exact e_int S zr zlk (by decide) G () [] rfl rfl (Or.inl rfl) ((Or.inl rfl)) dX6_isLetter_17
  · refine lv_iload_n zx zb dX6_isLetter_6 rfl (lv_at hl 0 rfl) ?_
    refine lv_bipush (v := 122) zx zb dX6_isLetter_7 (by decide) ?_
    refine lv_icmp_gt (tgt := 16) zx zb dX6_isLetter_9 (by decide) (fun c_2 => ?_) (fun c_2 => ?_)
    · refine lv_iconst (v := 0) zx zb dX6_isLetter_16 (by decide) ?_
      exact e_int S zr zlk (by decide) G () [] rfl rfl (Or.inl rfl) ((Or.inl rfl)) dX6_isLetter_17
    · refine lv_iconst (v := 1) zx zb dX6_isLetter_12 (by decide) ?_
      refine lv_goto (tgt := 17) zx zb dX6_isLetter_13 (by decide) ?_
      exact e_int S zr zlk (by decide) G () [] rfl rfl (Or.inl rfl) ((Or.inr rfl)) dX6_isLetter_17
set_option maxHeartbeats 4000000 in
set_option maxRecDepth 100000 in
/-- isFigure -/
theorem s_isFigure (l : Launch) (X : EX) (x : Int32) (sz : Nat) : Met l yX6_isFigure wsX6_isFigure ({ frames := 0, cells := 0, slots := 0, locals := 0 } : Room) (pE X [.int x] ([]) sz) (qI (fun (r : Int32) (u : Unit) => r = 0 ∨ r = 1) X (fun (u : Unit) => []) [] sz) 0 0 (va_A [] sz) := by
  refine mk_met (B := (fun _ => True)) (A := (va_A [] sz)) (cc := cX6_isFigure) (maxL := 1) (ret := (some .boolean)) (by decide) rfl (Nat.le_of_ble_eq_true rfl) k_ro k_a (fun p e s m below meth c S zr zlk znm zsz G ls hl => ?_)
  have S : CallFix p m c cX6_isFigure 1 s _ wsX6_isFigure RX6 := S
  have zx := S.1
  have zb := S.2.1
  have hl : lv_has ls 1 [(0, .int x)] := hl
  refine lv_iload_n zx zb dX6_isFigure_0 rfl (lv_at hl 0 rfl) ?_
  refine lv_bipush (v := 48) zx zb dX6_isFigure_1 (by decide) ?_
  refine lv_icmp_lt (tgt := 16) zx zb dX6_isFigure_3 (by decide) (fun c_1 => ?_) (fun c_1 => ?_)
  · refine lv_iconst (v := 0) zx zb dX6_isFigure_16 (by decide) ?_
    exact e_int S zr zlk (by decide) G () [] rfl rfl (Or.inl rfl) ((Or.inl rfl)) dX6_isFigure_17
  · refine lv_iload_n zx zb dX6_isFigure_6 rfl (lv_at hl 0 rfl) ?_
    refine lv_bipush (v := 57) zx zb dX6_isFigure_7 (by decide) ?_
    refine lv_icmp_gt (tgt := 16) zx zb dX6_isFigure_9 (by decide) (fun c_2 => ?_) (fun c_2 => ?_)
    · refine lv_iconst (v := 0) zx zb dX6_isFigure_16 (by decide) ?_
      exact e_int S zr zlk (by decide) G () [] rfl rfl (Or.inl rfl) ((Or.inl rfl)) dX6_isFigure_17
    · refine lv_iconst (v := 1) zx zb dX6_isFigure_12 (by decide) ?_
      refine lv_goto (tgt := 17) zx zb dX6_isFigure_13 (by decide) ?_
      exact e_int S zr zlk (by decide) G () [] rfl rfl (Or.inl rfl) ((Or.inr rfl)) dX6_isFigure_17
theorem in_X6_skipBlanks_X6 : ∀ w ∈ wsX60, w ∈ wsX6_skipBlanks := by decide +kernel
theorem lk_X6_skipBlanks_19 : Cond.fieldLink RX6 19 "EggSpoons$Reader" "at" "I" ∈ wsX6_skipBlanks := by decide +kernel
theorem lk_X6_skipBlanks_15 : Cond.fieldLink RX6 15 "EggSpoons$Reader" "length" "I" ∈ wsX6_skipBlanks := by decide +kernel
theorem lk_X6_skipBlanks_11 : Cond.fieldLink RX6 11 "EggSpoons$Reader" "bytes" "[I" ∈ wsX6_skipBlanks := by decide +kernel
set_option maxHeartbeats 4000000 in
set_option maxRecDepth 100000 in
/-- skipBlanks -/
theorem s_skipBlanks (l : Launch) (X : EX) (h0 : Nat) (hb : Nat) (n : Nat) (bd : Nat → Nat) (vd : Nat → Int32) (fd : Nat → Int32) (hI_n : n ≤ 150) (hI_bd : InP bd) (hP : bd 0 ≤ n) (sz : Nat) : Met l yX6_skipBlanks wsX6_skipBlanks ({ frames := 0, cells := 0, slots := 0, locals := 0 } : Room) (pE X [.ref h0] (rdV X h0 hb n bd vd fd) sz) (qV (fun (u : (Nat → Nat)) => InP u ∧ (bd 0 ≤ u 0 ∧ u 0 ≤ n ∧ u 1 = bd 1)) X (fun (u : (Nat → Nat)) => rdV X h0 hb n u vd fd) (rdV X h0 hb n bd vd fd) sz) 0 0 (va_A (rdV X h0 hb n bd vd fd) sz) := by
  refine mk_met (B := (va_A (rdV X h0 hb n bd vd fd) sz)) (A := (va_A (rdV X h0 hb n bd vd fd) sz)) (cc := cX6_skipBlanks) (maxL := 1) (ret := none) (by decide) rfl (Nat.le_of_ble_eq_true rfl) k_w k_a (fun p e s m below meth c S zr zlk znm zsz G ls hl => ?_)
  have S : CallFix p m c cX6_skipBlanks 1 s _ wsX6_skipBlanks RX6 := S
  have zx := S.1
  have zb := S.2.1
  have hl : lv_has ls 1 [(0, .ref h0)] := hl
  have hO_bd := hI_bd
  obtain ⟨hd0_bd, hd1_bd⟩ := hO_bd
  refine k_loop (P := ∀ (zm : Nat) (b0_0 : Nat → Nat) (H : Heap) (locs : List Loc) (ls : Array Slot), ((150 - b0_0 0) < zm) → (bd 0 ≤ b0_0 0 ∧ b0_0 0 ≤ n ∧ b0_0 1 = bd 1) → InP b0_0 → wd X (va_A (rdV X h0 hb n bd vd fd) sz) (va_A (rdV X h0 hb n bd vd fd) sz) s (rdV X h0 hb n b0_0 vd fd) H locs → lv_has ls 1 [(0, .ref h0)] → W p l e _ s m _ below meth c H locs _ _ _ (F0 m 0 ls [])) (fun loop => loop ((150 - bd 0) + 1) bd _ _ _ (by omega) (by omega) hI_bd G hl) ?_
  intro zm
  induction zm with
  | zero => intro b0_0 H locs ls zz q_x0 q_hI_b0_0 _ _; exact absurd zz (by omega)
  | succ zm ih0 =>
    intro b0_0 H locs ls zm_0 hx0_0 hI_b0_0 G hl
    have hO_b0_0 := hI_b0_0
    obtain ⟨hd0_b0_0, hd1_b0_0⟩ := hO_b0_0
    refine lv_aload_n zx zb dX6_skipBlanks_0 rfl (lv_at hl 0 rfl) ?_
    refine r_get (C := RX6) (T := TX6) (N := 7) (ci := 4) (v := .int (nI (b0_0 0))) S in_X6_skipBlanks_X6 G 0 rfl rfl 2 (by decide) lk_X6_skipBlanks_19 rfl dX6_skipBlanks_1 ?_
    refine lv_aload_n zx zb dX6_skipBlanks_4 rfl (lv_at hl 0 rfl) ?_
    refine r_get (C := RX6) (T := TX6) (N := 7) (ci := 4) (v := .int (nI n)) S in_X6_skipBlanks_X6 G 0 rfl rfl 1 (by decide) lk_X6_skipBlanks_15 rfl dX6_skipBlanks_5 ?_
    refine k_cutW (PP := fun Wx => ∀ (H : Heap) (locs : List Loc) (ls : Array Slot), wd X (va_A (rdV X h0 hb n bd vd fd) sz) (va_A (rdV X h0 hb n bd vd fd) sz) s (rdV X h0 hb n b0_0 vd fd) H locs → lv_has ls 1 [(0, .ref h0)] → Wx (F0 m 38 ls []) H locs) ?_ ?_
    · intro join_8
      refine lv_icmp_ge (tgt := 38) zx zb dX6_skipBlanks_8 (by decide) (fun c_1 => ?_) (fun c_1 => ?_)
      · have fc_1 := j_le (a := n) (b := (b0_0 0)) (by omega) (by omega) c_1
        exact join_8  _ _ _  G hl
      · have fc_1 := j_nle (a := n) (b := (b0_0 0)) (by omega) (by omega) c_1
        refine lv_aload_n zx zb dX6_skipBlanks_11 rfl (lv_at hl 0 rfl) ?_
        refine r_get (C := RX6) (T := TX6) (N := 7) (ci := 4) (v := .ref hb) S in_X6_skipBlanks_X6 G 0 rfl rfl 0 (by decide) lk_X6_skipBlanks_11 rfl dX6_skipBlanks_12 ?_
        refine lv_aload_n zx zb dX6_skipBlanks_15 rfl (lv_at hl 0 rfl) ?_
        refine r_get (C := RX6) (T := TX6) (N := 7) (ci := 4) (v := .int (nI (b0_0 0))) S in_X6_skipBlanks_X6 G 0 rfl rfl 2 (by decide) lk_X6_skipBlanks_19 rfl dX6_skipBlanks_16 ?_
        refine r_iald S G 1 rfl (vp_in_nI (by omega) (by decide)) rfl dX6_skipBlanks_19 ?_
        refine k_itE (fun y_2 => ?_)
        refine lv_bipush (v := 32) zx zb dX6_skipBlanks_20 (by decide) ?_
        refine lv_icmp_ne (tgt := 38) zx zb dX6_skipBlanks_22 (by decide) (fun c_3 => ?_) (fun c_3 => ?_)
        · exact join_8  _ _ _  G hl
        · refine lv_aload_n zx zb dX6_skipBlanks_25 rfl (lv_at hl 0 rfl) ?_
          refine lv_dup zx zb dX6_skipBlanks_26 rfl ?_
          refine r_get (C := RX6) (T := TX6) (N := 7) (ci := 4) (v := .int (nI (b0_0 0))) S in_X6_skipBlanks_X6 G 0 rfl rfl 2 (by decide) lk_X6_skipBlanks_19 rfl dX6_skipBlanks_27 ?_
          refine lv_iconst (v := 1) zx zb dX6_skipBlanks_30 (by decide) ?_
          refine r_iadd (v := (nI ((b0_0 0) + 1))) S (nI_add (b0_0 0) 1) dX6_skipBlanks_31 ?_
          refine r_put (C := RX6) (T := TX6) (N := 7) (ci := 4) (v := .int (nI ((b0_0 0) + 1))) S in_X6_skipBlanks_X6 tyX6_ok nmX6 G 0 rfl rfl 2 (by decide) lk_X6_skipBlanks_19 rfl (vp_nar_int _) rfl (Nat.le_of_ble_eq_true rfl) dX6_skipBlanks_32 (fun H locs G => ?_)
          obtain ⟨b_4, hI_b_4, ⟨hE_b_4_0, hE_b_4_1⟩, G⟩ : ∃ b_4 : Nat → Nat, InP b_4 ∧ (b_4 0 = ((b0_0 0) + 1) ∧ b_4 1 = b0_0 1) ∧ wd X (va_A (rdV X h0 hb n bd vd fd) sz) (va_A (rdV X h0 hb n bd vd fd) sz) s (rdV X h0 hb n b_4 vd fd) H locs := ⟨upN b0_0 0 ((b0_0 0) + 1), ⟨(by show ((b0_0 0) + 1) ≤ 150; omega), hd1_b0_0⟩, ⟨rfl, rfl⟩, G⟩
          have hO_b_4 := hI_b_4
          obtain ⟨hd0_b_4, hd1_b_4⟩ := hO_b_4
          refine lv_goto (tgt := 0) zx zb dX6_skipBlanks_35 (by decide) ?_
          exact ih0 b_4 _ _ _ (by omega) (by omega) hI_b_4 G hl
    · intro  H locs ls  G hl
      exact e_void S zr zlk G (b0_0) [0, 1] rfl rfl (Or.inr rfl) (⟨hI_b0_0, ⟨by first | omega | (dsimp only; omega), by first | omega | (dsimp only; omega), by first | omega | (dsimp only; omega)⟩⟩) dX6_skipBlanks_38
theorem in_X6_takeLetters_X6 : ∀ w ∈ wsX60, w ∈ wsX6_takeLetters := by decide +kernel
theorem lk_X6_takeLetters_19 : Cond.fieldLink RX6 19 "EggSpoons$Reader" "at" "I" ∈ wsX6_takeLetters := by decide +kernel
theorem lk_X6_takeLetters_15 : Cond.fieldLink RX6 15 "EggSpoons$Reader" "length" "I" ∈ wsX6_takeLetters := by decide +kernel
theorem lk_X6_takeLetters_11 : Cond.fieldLink RX6 11 "EggSpoons$Reader" "bytes" "[I" ∈ wsX6_takeLetters := by decide +kernel
theorem hdS_X6_isLetter : yX6_isLetter.cls ≠ "java/lang/invoke/MethodHandle" ∧ yX6_isLetter.cls ≠ "java/lang/invoke/VarHandle" ∧ (parseMethodDescriptor yX6_isLetter.desc).map (fun d => d.parameters.length) = some 1 := by decide +kernel
theorem lk_X6_takeLetters_25 : Cond.fieldLink RX6 25 "EggSpoons$Reader" "sort" "I" ∈ wsX6_takeLetters := by decide +kernel
set_option maxHeartbeats 4000000 in
set_option maxRecDepth 100000 in
/-- takeLetters -/
theorem s_takeLetters (l : Launch) (X : EX) (h0 : Nat) (hb : Nat) (n : Nat) (bd : Nat → Nat) (vd : Nat → Int32) (fd : Nat → Int32) (hI_n : n ≤ 150) (hI_bd : InP bd) (hP : bd 0 ≤ n) (sz : Nat) : Met l yX6_takeLetters wsX6_takeLetters ({ frames := 1, cells := 0, slots := 0, locals := 20 } : Room) (pE X [.ref h0] (rdV X h0 hb n bd vd fd) sz) (qV (fun (u : (Nat → Nat) × (Nat → Int32)) => InP u.1 ∧ (bd 0 ≤ u.1 0 ∧ u.1 0 ≤ n ∧ u.1 1 = bd 1)) X (fun (u : (Nat → Nat) × (Nat → Int32)) => rdV X h0 hb n u.1 u.2 fd) (rdV X h0 hb n bd vd fd) sz) 0 0 (va_A (rdV X h0 hb n bd vd fd) sz) := by
  refine mk_met (B := (va_A (rdV X h0 hb n bd vd fd) sz)) (A := (va_A (rdV X h0 hb n bd vd fd) sz)) (cc := cX6_takeLetters) (maxL := 1) (ret := none) (by decide) rfl (Nat.le_of_ble_eq_true rfl) k_w k_a (fun p e s m below meth c S zr zlk znm zsz G ls hl => ?_)
  have S : CallFix p m c cX6_takeLetters 1 s _ wsX6_takeLetters RX6 := S
  have zx := S.1
  have zb := S.2.1
  have hl : lv_has ls 1 [(0, .ref h0)] := hl
  have hO_bd := hI_bd
  obtain ⟨hd0_bd, hd1_bd⟩ := hO_bd
  refine k_loop (P := ∀ (zm : Nat) (b0_0 : Nat → Nat) (H : Heap) (locs : List Loc) (ls : Array Slot), ((150 - b0_0 0) < zm) → (bd 0 ≤ b0_0 0 ∧ b0_0 0 ≤ n ∧ b0_0 1 = bd 1) → InP b0_0 → wd X (va_A (rdV X h0 hb n bd vd fd) sz) (va_A (rdV X h0 hb n bd vd fd) sz) s (rdV X h0 hb n b0_0 vd fd) H locs → lv_has ls 1 [(0, .ref h0)] → W p l e _ s m _ below meth c H locs _ _ _ (F0 m 0 ls [])) (fun loop => loop ((150 - bd 0) + 1) bd _ _ _ (by omega) (by omega) hI_bd G hl) ?_
  intro zm
  induction zm with
  | zero => intro b0_0 H locs ls zz q_x0 q_hI_b0_0 _ _; exact absurd zz (by omega)
  | succ zm ih0 =>
    intro b0_0 H locs ls zm_0 hx0_0 hI_b0_0 G hl
    have hO_b0_0 := hI_b0_0
    obtain ⟨hd0_b0_0, hd1_b0_0⟩ := hO_b0_0
    refine lv_aload_n zx zb dX6_takeLetters_0 rfl (lv_at hl 0 rfl) ?_
    refine r_get (C := RX6) (T := TX6) (N := 7) (ci := 4) (v := .int (nI (b0_0 0))) S in_X6_takeLetters_X6 G 0 rfl rfl 2 (by decide) lk_X6_takeLetters_19 rfl dX6_takeLetters_1 ?_
    refine lv_aload_n zx zb dX6_takeLetters_4 rfl (lv_at hl 0 rfl) ?_
    refine r_get (C := RX6) (T := TX6) (N := 7) (ci := 4) (v := .int (nI n)) S in_X6_takeLetters_X6 G 0 rfl rfl 1 (by decide) lk_X6_takeLetters_15 rfl dX6_takeLetters_5 ?_
    refine k_cutW (PP := fun Wx => ∀ (H : Heap) (locs : List Loc) (ls : Array Slot), wd X (va_A (rdV X h0 hb n bd vd fd) sz) (va_A (rdV X h0 hb n bd vd fd) sz) s (rdV X h0 hb n b0_0 vd fd) H locs → lv_has ls 1 [(0, .ref h0)] → Wx (F0 m 39 ls []) H locs) ?_ ?_
    · intro join_8
      refine lv_icmp_ge (tgt := 39) zx zb dX6_takeLetters_8 (by decide) (fun c_1 => ?_) (fun c_1 => ?_)
      · have fc_1 := j_le (a := n) (b := (b0_0 0)) (by omega) (by omega) c_1
        exact join_8  _ _ _  G hl
      · have fc_1 := j_nle (a := n) (b := (b0_0 0)) (by omega) (by omega) c_1
        refine lv_aload_n zx zb dX6_takeLetters_11 rfl (lv_at hl 0 rfl) ?_
        refine r_get (C := RX6) (T := TX6) (N := 7) (ci := 4) (v := .ref hb) S in_X6_takeLetters_X6 G 0 rfl rfl 0 (by decide) lk_X6_takeLetters_11 rfl dX6_takeLetters_12 ?_
        refine lv_aload_n zx zb dX6_takeLetters_15 rfl (lv_at hl 0 rfl) ?_
        refine r_get (C := RX6) (T := TX6) (N := 7) (ci := 4) (v := .int (nI (b0_0 0))) S in_X6_takeLetters_X6 G 0 rfl rfl 2 (by decide) lk_X6_takeLetters_19 rfl dX6_takeLetters_16 ?_
        refine r_iald S G 1 rfl (vp_in_nI (by omega) (by decide)) rfl dX6_takeLetters_19 ?_
        refine k_itE (fun y_2 => ?_)
        refine o_ri (cells' := 0) (slots' := 0) G rfl rfl (n_S (As := [.int y_2]) (rest := []) S G (s_isLetter l X y_2 H.size) gX6_takeLetters_X6_isLetter rfl rfl rfl hdS_X6_isLetter ⟨Nat.le_of_ble_eq_true rfl, Nat.le_of_ble_eq_true rfl⟩ [] rfl rfl rfl hl.1 (Nat.le_of_ble_eq_true rfl) dX6_takeLetters_20 ⟨Nat.le_of_ble_eq_true rfl, Nat.le_of_ble_eq_true rfl⟩) (fun r_3 u_3 H locs hp_3 G => ?_)
        have G : wd X (va_A (rdV X h0 hb n bd vd fd) sz) (va_A (rdV X h0 hb n bd vd fd) sz) s (rdV X h0 hb n b0_0 vd fd) H locs := G
        refine lv_if_eq (tgt := 39) zx zb dX6_takeLetters_23 (by decide) (fun c_4 => ?_) (fun c_4 => ?_)
        · exact join_8  _ _ _  G hl
        · refine lv_aload_n zx zb dX6_takeLetters_26 rfl (lv_at hl 0 rfl) ?_
          refine lv_dup zx zb dX6_takeLetters_27 rfl ?_
          refine r_get (C := RX6) (T := TX6) (N := 7) (ci := 4) (v := .int (nI (b0_0 0))) S in_X6_takeLetters_X6 G 0 rfl rfl 2 (by decide) lk_X6_takeLetters_19 rfl dX6_takeLetters_28 ?_
          refine lv_iconst (v := 1) zx zb dX6_takeLetters_31 (by decide) ?_
          refine r_iadd (v := (nI ((b0_0 0) + 1))) S (nI_add (b0_0 0) 1) dX6_takeLetters_32 ?_
          refine r_put (C := RX6) (T := TX6) (N := 7) (ci := 4) (v := .int (nI ((b0_0 0) + 1))) S in_X6_takeLetters_X6 tyX6_ok nmX6 G 0 rfl rfl 2 (by decide) lk_X6_takeLetters_19 rfl (vp_nar_int _) rfl (Nat.le_of_ble_eq_true rfl) dX6_takeLetters_33 (fun H locs G => ?_)
          obtain ⟨b_5, hI_b_5, ⟨hE_b_5_0, hE_b_5_1⟩, G⟩ : ∃ b_5 : Nat → Nat, InP b_5 ∧ (b_5 0 = ((b0_0 0) + 1) ∧ b_5 1 = b0_0 1) ∧ wd X (va_A (rdV X h0 hb n bd vd fd) sz) (va_A (rdV X h0 hb n bd vd fd) sz) s (rdV X h0 hb n b_5 vd fd) H locs := ⟨upN b0_0 0 ((b0_0 0) + 1), ⟨(by show ((b0_0 0) + 1) ≤ 150; omega), hd1_b0_0⟩, ⟨rfl, rfl⟩, G⟩
          have hO_b_5 := hI_b_5
          obtain ⟨hd0_b_5, hd1_b_5⟩ := hO_b_5
          refine lv_goto (tgt := 0) zx zb dX6_takeLetters_36 (by decide) ?_
          exact ih0 b_5 _ _ _ (by omega) (by omega) hI_b_5 G hl
    · intro  H locs ls  G hl
      refine lv_aload_n zx zb dX6_takeLetters_39 rfl (lv_at hl 0 rfl) ?_
      refine lv_iconst (v := 1) zx zb dX6_takeLetters_40 (by decide) ?_
      refine r_put (C := RX6) (T := TX6) (N := 7) (ci := 4) (v := .int 1) S in_X6_takeLetters_X6 tyX6_ok nmX6 G 0 rfl rfl 4 (by decide) lk_X6_takeLetters_25 rfl (vp_nar_int _) rfl (Nat.le_of_ble_eq_true rfl) dX6_takeLetters_41 (fun H locs G => ?_)
      obtain ⟨v_6, ⟨hE_v_6_0, hE_v_6_1, hE_v_6_2⟩, G⟩ : ∃ v_6 : Nat → Int32, (v_6 0 = 1 ∧ v_6 1 = vd 1 ∧ v_6 2 = vd 2) ∧ wd X (va_A (rdV X h0 hb n bd vd fd) sz) (va_A (rdV X h0 hb n bd vd fd) sz) s (rdV X h0 hb n b0_0 v_6 fd) H locs := ⟨upd vd 0 1, ⟨rfl, rfl, rfl⟩, G⟩
      exact e_void S zr zlk G (b0_0, v_6) [0, 1] rfl rfl (Or.inr rfl) (⟨hI_b0_0, ⟨by first | omega | (dsimp only; omega), by first | omega | (dsimp only; omega), by first | omega | (dsimp only; omega)⟩⟩) dX6_takeLetters_44
theorem in_X6_takeFigures_X6 : ∀ w ∈ wsX60, w ∈ wsX6_takeFigures := by decide +kernel
theorem lk_X6_takeFigures_28 : Cond.fieldLink RX6 28 "EggSpoons$Reader" "value" "I" ∈ wsX6_takeFigures := by decide +kernel
theorem lk_X6_takeFigures_19 : Cond.fieldLink RX6 19 "EggSpoons$Reader" "at" "I" ∈ wsX6_takeFigures := by decide +kernel
theorem lk_X6_takeFigures_15 : Cond.fieldLink RX6 15 "EggSpoons$Reader" "length" "I" ∈ wsX6_takeFigures := by decide +kernel
theorem lk_X6_takeFigures_11 : Cond.fieldLink RX6 11 "EggSpoons$Reader" "bytes" "[I" ∈ wsX6_takeFigures := by decide +kernel
theorem hdS_X6_isFigure : yX6_isFigure.cls ≠ "java/lang/invoke/MethodHandle" ∧ yX6_isFigure.cls ≠ "java/lang/invoke/VarHandle" ∧ (parseMethodDescriptor yX6_isFigure.desc).map (fun d => d.parameters.length) = some 1 := by decide +kernel
theorem lk_X6_takeFigures_22 : Cond.fieldLink RX6 22 "EggSpoons$Reader" "tokenAt" "I" ∈ wsX6_takeFigures := by decide +kernel
theorem lk_X6_takeFigures_25 : Cond.fieldLink RX6 25 "EggSpoons$Reader" "sort" "I" ∈ wsX6_takeFigures := by decide +kernel
set_option maxHeartbeats 4000000 in
set_option maxRecDepth 100000 in
/-- takeFigures -/
theorem s_takeFigures (l : Launch) (X : EX) (h0 : Nat) (hb : Nat) (n : Nat) (bd : Nat → Nat) (vd : Nat → Int32) (fd : Nat → Int32) (hI_n : n ≤ 150) (hI_bd : InP bd) (hP : bd 0 ≤ n) (sz : Nat) : Met l yX6_takeFigures wsX6_takeFigures ({ frames := 1, cells := 0, slots := 0, locals := 20 } : Room) (pE X [.ref h0] (rdV X h0 hb n bd vd fd) sz) (qV (fun (u : (Nat → Nat) × (Nat → Int32)) => InP u.1 ∧ (bd 0 ≤ u.1 0 ∧ u.1 0 ≤ n ∧ u.1 1 = bd 1)) X (fun (u : (Nat → Nat) × (Nat → Int32)) => rdV X h0 hb n u.1 u.2 fd) (rdV X h0 hb n bd vd fd) sz) 0 0 (va_A (rdV X h0 hb n bd vd fd) sz) := by
  refine mk_met (B := (va_A (rdV X h0 hb n bd vd fd) sz)) (A := (va_A (rdV X h0 hb n bd vd fd) sz)) (cc := cX6_takeFigures) (maxL := 1) (ret := none) (by decide) rfl (Nat.le_of_ble_eq_true rfl) k_w k_a (fun p e s m below meth c S zr zlk znm zsz G ls hl => ?_)
  have S : CallFix p m c cX6_takeFigures 1 s _ wsX6_takeFigures RX6 := S
  have zx := S.1
  have zb := S.2.1
  have hl : lv_has ls 1 [(0, .ref h0)] := hl
  have hO_bd := hI_bd
  obtain ⟨hd0_bd, hd1_bd⟩ := hO_bd
  refine lv_aload_n zx zb dX6_takeFigures_0 rfl (lv_at hl 0 rfl) ?_
  refine lv_iconst (v := 0) zx zb dX6_takeFigures_1 (by decide) ?_
  refine r_put (C := RX6) (T := TX6) (N := 7) (ci := 4) (v := .int 0) S in_X6_takeFigures_X6 tyX6_ok nmX6 G 0 rfl rfl 5 (by decide) lk_X6_takeFigures_28 rfl (vp_nar_int _) rfl (Nat.le_of_ble_eq_true rfl) dX6_takeFigures_2 (fun H locs G => ?_)
  obtain ⟨v_1, ⟨hE_v_1_1, hE_v_1_0, hE_v_1_2⟩, G⟩ : ∃ v_1 : Nat → Int32, (v_1 1 = 0 ∧ v_1 0 = vd 0 ∧ v_1 2 = vd 2) ∧ wd X (va_A (rdV X h0 hb n bd vd fd) sz) (va_A (rdV X h0 hb n bd vd fd) sz) s (rdV X h0 hb n bd v_1 fd) H locs := ⟨upd vd 1 0, ⟨rfl, rfl, rfl⟩, G⟩
  refine k_loop (P := ∀ (zm : Nat) (b5_0 : Nat → Nat) (v5_0 : Nat → Int32) (H : Heap) (locs : List Loc) (ls : Array Slot), ((150 - b5_0 0) < zm) → (bd 0 ≤ b5_0 0 ∧ b5_0 0 ≤ n ∧ b5_0 1 = bd 1) → InP b5_0 → wd X (va_A (rdV X h0 hb n bd vd fd) sz) (va_A (rdV X h0 hb n bd vd fd) sz) s (rdV X h0 hb n b5_0 v5_0 fd) H locs → lv_has ls 1 [(0, .ref h0)] → W p l e _ s m _ below meth c H locs _ _ _ (F0 m 5 ls [])) (fun loop => loop ((150 - bd 0) + 1) bd v_1 _ _ _ (by omega) (by omega) hI_bd G hl) ?_
  intro zm
  induction zm with
  | zero => intro b5_0 v5_0 H locs ls zz q_x0 q_hI_b5_0 _ _; exact absurd zz (by omega)
  | succ zm ih5 =>
    intro b5_0 v5_0 H locs ls zm_5 hx5_0 hI_b5_0 G hl
    have hO_b5_0 := hI_b5_0
    obtain ⟨hd0_b5_0, hd1_b5_0⟩ := hO_b5_0
    refine lv_aload_n zx zb dX6_takeFigures_5 rfl (lv_at hl 0 rfl) ?_
    refine r_get (C := RX6) (T := TX6) (N := 7) (ci := 4) (v := .int (nI (b5_0 0))) S in_X6_takeFigures_X6 G 0 rfl rfl 2 (by decide) lk_X6_takeFigures_19 rfl dX6_takeFigures_6 ?_
    refine lv_aload_n zx zb dX6_takeFigures_9 rfl (lv_at hl 0 rfl) ?_
    refine r_get (C := RX6) (T := TX6) (N := 7) (ci := 4) (v := .int (nI n)) S in_X6_takeFigures_X6 G 0 rfl rfl 1 (by decide) lk_X6_takeFigures_15 rfl dX6_takeFigures_10 ?_
    refine k_cutW (PP := fun Wx => ∀ (H : Heap) (locs : List Loc) (ls : Array Slot), wd X (va_A (rdV X h0 hb n bd vd fd) sz) (va_A (rdV X h0 hb n bd vd fd) sz) s (rdV X h0 hb n b5_0 v5_0 fd) H locs → lv_has ls 1 [(0, .ref h0)] → Wx (F0 m 68 ls []) H locs) ?_ ?_
    · intro join_13
      refine lv_icmp_ge (tgt := 68) zx zb dX6_takeFigures_13 (by decide) (fun c_2 => ?_) (fun c_2 => ?_)
      · have fc_2 := j_le (a := n) (b := (b5_0 0)) (by omega) (by omega) c_2
        exact join_13  _ _ _  G hl
      · have fc_2 := j_nle (a := n) (b := (b5_0 0)) (by omega) (by omega) c_2
        refine lv_aload_n zx zb dX6_takeFigures_16 rfl (lv_at hl 0 rfl) ?_
        refine r_get (C := RX6) (T := TX6) (N := 7) (ci := 4) (v := .ref hb) S in_X6_takeFigures_X6 G 0 rfl rfl 0 (by decide) lk_X6_takeFigures_11 rfl dX6_takeFigures_17 ?_
        refine lv_aload_n zx zb dX6_takeFigures_20 rfl (lv_at hl 0 rfl) ?_
        refine r_get (C := RX6) (T := TX6) (N := 7) (ci := 4) (v := .int (nI (b5_0 0))) S in_X6_takeFigures_X6 G 0 rfl rfl 2 (by decide) lk_X6_takeFigures_19 rfl dX6_takeFigures_21 ?_
        refine r_iald S G 1 rfl (vp_in_nI (by omega) (by decide)) rfl dX6_takeFigures_24 ?_
        refine k_itE (fun y_3 => ?_)
        refine o_ri (cells' := 0) (slots' := 0) G rfl rfl (n_S (As := [.int y_3]) (rest := []) S G (s_isFigure l X y_3 H.size) gX6_takeFigures_X6_isFigure rfl rfl rfl hdS_X6_isFigure ⟨Nat.le_of_ble_eq_true rfl, Nat.le_of_ble_eq_true rfl⟩ [] rfl rfl rfl hl.1 (Nat.le_of_ble_eq_true rfl) dX6_takeFigures_25 ⟨Nat.le_of_ble_eq_true rfl, Nat.le_of_ble_eq_true rfl⟩) (fun r_4 u_4 H locs hp_4 G => ?_)
        have G : wd X (va_A (rdV X h0 hb n bd vd fd) sz) (va_A (rdV X h0 hb n bd vd fd) sz) s (rdV X h0 hb n b5_0 v5_0 fd) H locs := G
        refine lv_if_eq (tgt := 68) zx zb dX6_takeFigures_28 (by decide) (fun c_5 => ?_) (fun c_5 => ?_)
        · exact join_13  _ _ _  G hl
        · refine lv_aload_n zx zb dX6_takeFigures_31 rfl (lv_at hl 0 rfl) ?_
          refine lv_bipush (v := 10) zx zb dX6_takeFigures_32 (by decide) ?_
          refine lv_aload_n zx zb dX6_takeFigures_34 rfl (lv_at hl 0 rfl) ?_
          refine r_get (C := RX6) (T := TX6) (N := 7) (ci := 4) (v := .int (v5_0 1)) S in_X6_takeFigures_X6 G 0 rfl rfl 5 (by decide) lk_X6_takeFigures_28 rfl dX6_takeFigures_35 ?_
          refine r_imul (v := (10 * (v5_0 1))) S rfl dX6_takeFigures_38 ?_
          refine lv_aload_n zx zb dX6_takeFigures_39 rfl (lv_at hl 0 rfl) ?_
          refine r_get (C := RX6) (T := TX6) (N := 7) (ci := 4) (v := .ref hb) S in_X6_takeFigures_X6 G 0 rfl rfl 0 (by decide) lk_X6_takeFigures_11 rfl dX6_takeFigures_40 ?_
          refine lv_aload_n zx zb dX6_takeFigures_43 rfl (lv_at hl 0 rfl) ?_
          refine r_get (C := RX6) (T := TX6) (N := 7) (ci := 4) (v := .int (nI (b5_0 0))) S in_X6_takeFigures_X6 G 0 rfl rfl 2 (by decide) lk_X6_takeFigures_19 rfl dX6_takeFigures_44 ?_
          refine r_iald S G 1 rfl (vp_in_nI (by omega) (by decide)) rfl dX6_takeFigures_47 ?_
          refine k_itE (fun y_6 => ?_)
          refine r_iadd (v := ((10 * (v5_0 1)) + y_6)) S rfl dX6_takeFigures_48 ?_
          refine lv_bipush (v := 48) zx zb dX6_takeFigures_49 (by decide) ?_
          refine r_isub (v := (((10 * (v5_0 1)) + y_6) - 48)) S rfl dX6_takeFigures_51 ?_
          refine r_put (C := RX6) (T := TX6) (N := 7) (ci := 4) (v := .int (((10 * (v5_0 1)) + y_6) - 48)) S in_X6_takeFigures_X6 tyX6_ok nmX6 G 0 rfl rfl 5 (by decide) lk_X6_takeFigures_28 rfl (vp_nar_int _) rfl (Nat.le_of_ble_eq_true rfl) dX6_takeFigures_52 (fun H locs G => ?_)
          obtain ⟨v_7, ⟨hE_v_7_1, hE_v_7_0, hE_v_7_2⟩, G⟩ : ∃ v_7 : Nat → Int32, (v_7 1 = (((10 * (v5_0 1)) + y_6) - 48) ∧ v_7 0 = v5_0 0 ∧ v_7 2 = v5_0 2) ∧ wd X (va_A (rdV X h0 hb n bd vd fd) sz) (va_A (rdV X h0 hb n bd vd fd) sz) s (rdV X h0 hb n b5_0 v_7 fd) H locs := ⟨upd v5_0 1 (((10 * (v5_0 1)) + y_6) - 48), ⟨rfl, rfl, rfl⟩, G⟩
          refine lv_aload_n zx zb dX6_takeFigures_55 rfl (lv_at hl 0 rfl) ?_
          refine lv_dup zx zb dX6_takeFigures_56 rfl ?_
          refine r_get (C := RX6) (T := TX6) (N := 7) (ci := 4) (v := .int (nI (b5_0 0))) S in_X6_takeFigures_X6 G 0 rfl rfl 2 (by decide) lk_X6_takeFigures_19 rfl dX6_takeFigures_57 ?_
          refine lv_iconst (v := 1) zx zb dX6_takeFigures_60 (by decide) ?_
          refine r_iadd (v := (nI ((b5_0 0) + 1))) S (nI_add (b5_0 0) 1) dX6_takeFigures_61 ?_
          refine r_put (C := RX6) (T := TX6) (N := 7) (ci := 4) (v := .int (nI ((b5_0 0) + 1))) S in_X6_takeFigures_X6 tyX6_ok nmX6 G 0 rfl rfl 2 (by decide) lk_X6_takeFigures_19 rfl (vp_nar_int _) rfl (Nat.le_of_ble_eq_true rfl) dX6_takeFigures_62 (fun H locs G => ?_)
          obtain ⟨b_8, hI_b_8, ⟨hE_b_8_0, hE_b_8_1⟩, G⟩ : ∃ b_8 : Nat → Nat, InP b_8 ∧ (b_8 0 = ((b5_0 0) + 1) ∧ b_8 1 = b5_0 1) ∧ wd X (va_A (rdV X h0 hb n bd vd fd) sz) (va_A (rdV X h0 hb n bd vd fd) sz) s (rdV X h0 hb n b_8 v_7 fd) H locs := ⟨upN b5_0 0 ((b5_0 0) + 1), ⟨(by show ((b5_0 0) + 1) ≤ 150; omega), hd1_b5_0⟩, ⟨rfl, rfl⟩, G⟩
          have hO_b_8 := hI_b_8
          obtain ⟨hd0_b_8, hd1_b_8⟩ := hO_b_8
          refine lv_goto (tgt := 5) zx zb dX6_takeFigures_65 (by decide) ?_
          exact ih5 b_8 v_7 _ _ _ (by omega) (by omega) hI_b_8 G hl
    · intro  H locs ls  G hl
      refine lv_aload_n zx zb dX6_takeFigures_68 rfl (lv_at hl 0 rfl) ?_
      refine lv_aload_n zx zb dX6_takeFigures_69 rfl (lv_at hl 0 rfl) ?_
      refine r_get (C := RX6) (T := TX6) (N := 7) (ci := 4) (v := .int (nI (b5_0 0))) S in_X6_takeFigures_X6 G 0 rfl rfl 2 (by decide) lk_X6_takeFigures_19 rfl dX6_takeFigures_70 ?_
      refine lv_aload_n zx zb dX6_takeFigures_73 rfl (lv_at hl 0 rfl) ?_
      refine r_get (C := RX6) (T := TX6) (N := 7) (ci := 4) (v := .int (nI (b5_0 1))) S in_X6_takeFigures_X6 G 0 rfl rfl 3 (by decide) lk_X6_takeFigures_22 rfl dX6_takeFigures_74 ?_
      refine r_isub (v := ((nI (b5_0 0)) - (nI (b5_0 1)))) S rfl dX6_takeFigures_77 ?_
      refine lv_iconst (v := 2) zx zb dX6_takeFigures_78 (by decide) ?_
      refine k_cutW (PP := fun Wx => ∀ (x_10 : Int32) (H : Heap) (locs : List Loc) (ls : Array Slot), wd X (va_A (rdV X h0 hb n bd vd fd) sz) (va_A (rdV X h0 hb n bd vd fd) sz) s (rdV X h0 hb n b5_0 v5_0 fd) H locs → lv_has ls 1 [(0, .ref h0)] → Wx (F0 m 87 ls [.int x_10, .ref h0]) H locs) ?_ ?_
      · intro join_79
        refine lv_icmp_gt (tgt := 86) zx zb dX6_takeFigures_79 (by decide) (fun c_9 => ?_) (fun c_9 => ?_)
        · refine lv_iconst (v := 4) zx zb dX6_takeFigures_86 (by decide) ?_
          exact join_79 4 _ _ _  G hl
        · refine lv_iconst (v := 2) zx zb dX6_takeFigures_82 (by decide) ?_
          refine lv_goto (tgt := 87) zx zb dX6_takeFigures_83 (by decide) ?_
          exact join_79 2 _ _ _  G hl
      · intro x_10 H locs ls  G hl
        refine r_put (C := RX6) (T := TX6) (N := 7) (ci := 4) (v := .int x_10) S in_X6_takeFigures_X6 tyX6_ok nmX6 G 0 rfl rfl 4 (by decide) lk_X6_takeFigures_25 rfl (vp_nar_int _) rfl (Nat.le_of_ble_eq_true rfl) dX6_takeFigures_87 (fun H locs G => ?_)
        obtain ⟨v_11, ⟨hE_v_11_0, hE_v_11_1, hE_v_11_2⟩, G⟩ : ∃ v_11 : Nat → Int32, (v_11 0 = x_10 ∧ v_11 1 = v5_0 1 ∧ v_11 2 = v5_0 2) ∧ wd X (va_A (rdV X h0 hb n bd vd fd) sz) (va_A (rdV X h0 hb n bd vd fd) sz) s (rdV X h0 hb n b5_0 v_11 fd) H locs := ⟨upd v5_0 0 x_10, ⟨rfl, rfl, rfl⟩, G⟩
        exact e_void S zr zlk G (b5_0, v_11) [0, 1] rfl rfl (Or.inr rfl) (⟨hI_b5_0, ⟨by first | omega | (dsimp only; omega), by first | omega | (dsimp only; omega), by first | omega | (dsimp only; omega)⟩⟩) dX6_takeFigures_90
theorem hdV_X6_skipBlanks : yX6_skipBlanks.cls = RX6 ∧ yX6_skipBlanks.cls ≠ "java/lang/invoke/MethodHandle" ∧ yX6_skipBlanks.cls ≠ "java/lang/invoke/VarHandle" ∧ (parseMethodDescriptor yX6_skipBlanks.desc).map (fun d => d.parameters.length) = some 0 := by decide +kernel
theorem in_X6_nextToken_X6 : ∀ w ∈ wsX60, w ∈ wsX6_nextToken := by decide +kernel
theorem lk_X6_nextToken_19 : Cond.fieldLink RX6 19 "EggSpoons$Reader" "at" "I" ∈ wsX6_nextToken := by decide +kernel
theorem lk_X6_nextToken_22 : Cond.fieldLink RX6 22 "EggSpoons$Reader" "tokenAt" "I" ∈ wsX6_nextToken := by decide +kernel
theorem lk_X6_nextToken_15 : Cond.fieldLink RX6 15 "EggSpoons$Reader" "length" "I" ∈ wsX6_nextToken := by decide +kernel
theorem lk_X6_nextToken_11 : Cond.fieldLink RX6 11 "EggSpoons$Reader" "bytes" "[I" ∈ wsX6_nextToken := by decide +kernel
theorem lk_X6_nextToken_25 : Cond.fieldLink RX6 25 "EggSpoons$Reader" "sort" "I" ∈ wsX6_nextToken := by decide +kernel
theorem hdV_X6_takeFigures : yX6_takeFigures.cls = RX6 ∧ yX6_takeFigures.cls ≠ "java/lang/invoke/MethodHandle" ∧ yX6_takeFigures.cls ≠ "java/lang/invoke/VarHandle" ∧ (parseMethodDescriptor yX6_takeFigures.desc).map (fun d => d.parameters.length) = some 0 := by decide +kernel
theorem hdV_X6_takeLetters : yX6_takeLetters.cls = RX6 ∧ yX6_takeLetters.cls ≠ "java/lang/invoke/MethodHandle" ∧ yX6_takeLetters.cls ≠ "java/lang/invoke/VarHandle" ∧ (parseMethodDescriptor yX6_takeLetters.desc).map (fun d => d.parameters.length) = some 0 := by decide +kernel
set_option maxHeartbeats 4000000 in
set_option maxRecDepth 100000 in
/-- nextToken -/
theorem s_nextToken (l : Launch) (X : EX) (h0 : Nat) (hb : Nat) (n : Nat) (bd : Nat → Nat) (vd : Nat → Int32) (fd : Nat → Int32) (hI_n : n ≤ 150) (hI_bd : InP bd) (hP : bd 0 ≤ n) (sz : Nat) : Met l yX6_nextToken wsX6_nextToken ({ frames := 2, cells := 0, slots := 0, locals := 40 } : Room) (pE X [.ref h0] (rdV X h0 hb n bd vd fd) sz) (qV (fun (u : (Nat → Nat) × (Nat → Int32)) => InP u.1 ∧ (bd 0 ≤ u.1 0 ∧ u.1 0 ≤ n ∧ u.1 1 ≤ u.1 0)) X (fun (u : (Nat → Nat) × (Nat → Int32)) => rdV X h0 hb n u.1 u.2 fd) (rdV X h0 hb n bd vd fd) sz) 0 0 (va_A (rdV X h0 hb n bd vd fd) sz) := by
  refine mk_met (B := (va_A (rdV X h0 hb n bd vd fd) sz)) (A := (va_A (rdV X h0 hb n bd vd fd) sz)) (cc := cX6_nextToken) (maxL := 1) (ret := none) (by decide) rfl (Nat.le_of_ble_eq_true rfl) k_w k_a (fun p e s m below meth c S zr zlk znm zsz G ls hl => ?_)
  have S : CallFix p m c cX6_nextToken 1 s _ wsX6_nextToken RX6 := S
  have zx := S.1
  have zb := S.2.1
  have hl : lv_has ls 1 [(0, .ref h0)] := hl
  have hO_bd := hI_bd
  obtain ⟨hd0_bd, hd1_bd⟩ := hO_bd
  refine lv_aload_n zx zb dX6_nextToken_0 rfl (lv_at hl 0 rfl) ?_
  refine b_wv (cells' := 0) (slots' := 0) (wr := []) G rfl rfl [0, 1] [] rfl rfl rfl rfl (n_V (As := []) (rest := []) (C := RX6) (T := TX6) (N := 7) (ci := 4) S G (s_skipBlanks l X h0 hb n bd vd fd hI_n hI_bd (by omega) s.heap.size) gX6_nextToken_X6_skipBlanks rfl rfl rfl hdV_X6_skipBlanks ⟨Nat.le_of_ble_eq_true rfl, Nat.le_of_ble_eq_true rfl⟩ [0, 1] rfl rfl 0 rfl rfl rfl hl.1 (Nat.le_of_ble_eq_true rfl) dX6_nextToken_1 ⟨Nat.le_of_ble_eq_true rfl, Nat.le_of_ble_eq_true rfl⟩) (fun u_1 H locs hp_1 G => ?_)
  obtain ⟨b_1, rfl⟩ : ∃ z, z = u_1 := ⟨_, rfl⟩
  obtain ⟨hI_b_1, hq_1⟩ := hp_1
  have hO_b_1 := hI_b_1
  obtain ⟨hd0_b_1, hd1_b_1⟩ := hO_b_1
  have G : wd X (va_A (rdV X h0 hb n bd vd fd) sz) (va_A (rdV X h0 hb n bd vd fd) sz) s (rdV X h0 hb n b_1 vd fd) H locs := G
  obtain ⟨hz0_1, hz1_1, hz2_1⟩ := hq_1
  refine lv_aload_n zx zb dX6_nextToken_4 rfl (lv_at hl 0 rfl) ?_
  refine lv_aload_n zx zb dX6_nextToken_5 rfl (lv_at hl 0 rfl) ?_
  refine r_get (C := RX6) (T := TX6) (N := 7) (ci := 4) (v := .int (nI (b_1 0))) S in_X6_nextToken_X6 G 0 rfl rfl 2 (by decide) lk_X6_nextToken_19 rfl dX6_nextToken_6 ?_
  refine r_put (C := RX6) (T := TX6) (N := 7) (ci := 4) (v := .int (nI (b_1 0))) S in_X6_nextToken_X6 tyX6_ok nmX6 G 0 rfl rfl 3 (by decide) lk_X6_nextToken_22 rfl (vp_nar_int _) rfl (Nat.le_of_ble_eq_true rfl) dX6_nextToken_9 (fun H locs G => ?_)
  obtain ⟨b_2, hI_b_2, ⟨hE_b_2_1, hE_b_2_0⟩, G⟩ : ∃ b_2 : Nat → Nat, InP b_2 ∧ (b_2 1 = (b_1 0) ∧ b_2 0 = b_1 0) ∧ wd X (va_A (rdV X h0 hb n bd vd fd) sz) (va_A (rdV X h0 hb n bd vd fd) sz) s (rdV X h0 hb n b_2 vd fd) H locs := ⟨upN b_1 1 (b_1 0), ⟨hd0_b_1, (by show (b_1 0) ≤ 150; omega)⟩, ⟨rfl, rfl⟩, G⟩
  have hO_b_2 := hI_b_2
  obtain ⟨hd0_b_2, hd1_b_2⟩ := hO_b_2
  refine lv_aload_n zx zb dX6_nextToken_12 rfl (lv_at hl 0 rfl) ?_
  refine r_get (C := RX6) (T := TX6) (N := 7) (ci := 4) (v := .int (nI (b_2 0))) S in_X6_nextToken_X6 G 0 rfl rfl 2 (by decide) lk_X6_nextToken_19 rfl dX6_nextToken_13 ?_
  refine lv_aload_n zx zb dX6_nextToken_16 rfl (lv_at hl 0 rfl) ?_
  refine r_get (C := RX6) (T := TX6) (N := 7) (ci := 4) (v := .int (nI n)) S in_X6_nextToken_X6 G 0 rfl rfl 1 (by decide) lk_X6_nextToken_15 rfl dX6_nextToken_17 ?_
  refine lv_icmp_lt (tgt := 31) zx zb dX6_nextToken_20 (by decide) (fun c_3 => ?_) (fun c_3 => ?_)
  · have fc_3 := j_lt (a := (b_2 0)) (b := n) (by omega) (by omega) c_3
    refine lv_aload_n zx zb dX6_nextToken_31 rfl (lv_at hl 0 rfl) ?_
    refine r_get (C := RX6) (T := TX6) (N := 7) (ci := 4) (v := .ref hb) S in_X6_nextToken_X6 G 0 rfl rfl 0 (by decide) lk_X6_nextToken_11 rfl dX6_nextToken_32 ?_
    refine lv_aload_n zx zb dX6_nextToken_35 rfl (lv_at hl 0 rfl) ?_
    refine r_get (C := RX6) (T := TX6) (N := 7) (ci := 4) (v := .int (nI (b_2 0))) S in_X6_nextToken_X6 G 0 rfl rfl 2 (by decide) lk_X6_nextToken_19 rfl dX6_nextToken_36 ?_
    refine r_iald S G 1 rfl (vp_in_nI (by omega) (by decide)) rfl dX6_nextToken_39 ?_
    refine k_itE (fun y_4 => ?_)
    refine o_ri (cells' := 0) (slots' := 0) G rfl rfl (n_S (As := [.int y_4]) (rest := []) S G (s_isLetter l X y_4 H.size) gX6_nextToken_X6_isLetter rfl rfl rfl hdS_X6_isLetter ⟨Nat.le_of_ble_eq_true rfl, Nat.le_of_ble_eq_true rfl⟩ [] rfl rfl rfl hl.1 (Nat.le_of_ble_eq_true rfl) dX6_nextToken_40 ⟨Nat.le_of_ble_eq_true rfl, Nat.le_of_ble_eq_true rfl⟩) (fun r_5 u_5 H locs hp_5 G => ?_)
    have G : wd X (va_A (rdV X h0 hb n bd vd fd) sz) (va_A (rdV X h0 hb n bd vd fd) sz) s (rdV X h0 hb n b_2 vd fd) H locs := G
    refine lv_if_eq (tgt := 53) zx zb dX6_nextToken_43 (by decide) (fun c_6 => ?_) (fun c_6 => ?_)
    · refine lv_aload_n zx zb dX6_nextToken_53 rfl (lv_at hl 0 rfl) ?_
      refine r_get (C := RX6) (T := TX6) (N := 7) (ci := 4) (v := .ref hb) S in_X6_nextToken_X6 G 0 rfl rfl 0 (by decide) lk_X6_nextToken_11 rfl dX6_nextToken_54 ?_
      refine lv_aload_n zx zb dX6_nextToken_57 rfl (lv_at hl 0 rfl) ?_
      refine r_get (C := RX6) (T := TX6) (N := 7) (ci := 4) (v := .int (nI (b_2 0))) S in_X6_nextToken_X6 G 0 rfl rfl 2 (by decide) lk_X6_nextToken_19 rfl dX6_nextToken_58 ?_
      refine r_iald S G 1 rfl (vp_in_nI (by omega) (by decide)) rfl dX6_nextToken_61 ?_
      refine k_itE (fun y_7 => ?_)
      refine o_ri (cells' := 0) (slots' := 0) G rfl rfl (n_S (As := [.int y_7]) (rest := []) S G (s_isFigure l X y_7 H.size) gX6_nextToken_X6_isFigure rfl rfl rfl hdS_X6_isFigure ⟨Nat.le_of_ble_eq_true rfl, Nat.le_of_ble_eq_true rfl⟩ [] rfl rfl rfl hl.1 (Nat.le_of_ble_eq_true rfl) dX6_nextToken_62 ⟨Nat.le_of_ble_eq_true rfl, Nat.le_of_ble_eq_true rfl⟩) (fun r_8 u_8 H locs hp_8 G => ?_)
      have G : wd X (va_A (rdV X h0 hb n bd vd fd) sz) (va_A (rdV X h0 hb n bd vd fd) sz) s (rdV X h0 hb n b_2 vd fd) H locs := G
      refine lv_if_eq (tgt := 75) zx zb dX6_nextToken_65 (by decide) (fun c_9 => ?_) (fun c_9 => ?_)
      · refine lv_aload_n zx zb dX6_nextToken_75 rfl (lv_at hl 0 rfl) ?_
        refine lv_aload_n zx zb dX6_nextToken_76 rfl (lv_at hl 0 rfl) ?_
        refine r_get (C := RX6) (T := TX6) (N := 7) (ci := 4) (v := .ref hb) S in_X6_nextToken_X6 G 0 rfl rfl 0 (by decide) lk_X6_nextToken_11 rfl dX6_nextToken_77 ?_
        refine lv_aload_n zx zb dX6_nextToken_80 rfl (lv_at hl 0 rfl) ?_
        refine r_get (C := RX6) (T := TX6) (N := 7) (ci := 4) (v := .int (nI (b_2 0))) S in_X6_nextToken_X6 G 0 rfl rfl 2 (by decide) lk_X6_nextToken_19 rfl dX6_nextToken_81 ?_
        refine r_iald S G 1 rfl (vp_in_nI (by omega) (by decide)) rfl dX6_nextToken_84 ?_
        refine k_itE (fun y_10 => ?_)
        refine lv_bipush (v := 59) zx zb dX6_nextToken_85 (by decide) ?_
        refine k_cutW (PP := fun Wx => ∀ (x_12 : Int32) (H : Heap) (locs : List Loc) (ls : Array Slot), wd X (va_A (rdV X h0 hb n bd vd fd) sz) (va_A (rdV X h0 hb n bd vd fd) sz) s (rdV X h0 hb n b_2 vd fd) H locs → lv_has ls 1 [(0, .ref h0)] → Wx (F0 m 95 ls [.int x_12, .ref h0]) H locs) ?_ ?_
        · intro join_87
          refine lv_icmp_ne (tgt := 94) zx zb dX6_nextToken_87 (by decide) (fun c_11 => ?_) (fun c_11 => ?_)
          · refine lv_iconst (v := 4) zx zb dX6_nextToken_94 (by decide) ?_
            exact join_87 4 _ _ _  G hl
          · refine lv_iconst (v := 3) zx zb dX6_nextToken_90 (by decide) ?_
            refine lv_goto (tgt := 95) zx zb dX6_nextToken_91 (by decide) ?_
            exact join_87 3 _ _ _  G hl
        · intro x_12 H locs ls  G hl
          refine r_put (C := RX6) (T := TX6) (N := 7) (ci := 4) (v := .int x_12) S in_X6_nextToken_X6 tyX6_ok nmX6 G 0 rfl rfl 4 (by decide) lk_X6_nextToken_25 rfl (vp_nar_int _) rfl (Nat.le_of_ble_eq_true rfl) dX6_nextToken_95 (fun H locs G => ?_)
          obtain ⟨v_13, ⟨hE_v_13_0, hE_v_13_1, hE_v_13_2⟩, G⟩ : ∃ v_13 : Nat → Int32, (v_13 0 = x_12 ∧ v_13 1 = vd 1 ∧ v_13 2 = vd 2) ∧ wd X (va_A (rdV X h0 hb n bd vd fd) sz) (va_A (rdV X h0 hb n bd vd fd) sz) s (rdV X h0 hb n b_2 v_13 fd) H locs := ⟨upd vd 0 x_12, ⟨rfl, rfl, rfl⟩, G⟩
          refine lv_aload_n zx zb dX6_nextToken_98 rfl (lv_at hl 0 rfl) ?_
          refine lv_dup zx zb dX6_nextToken_99 rfl ?_
          refine r_get (C := RX6) (T := TX6) (N := 7) (ci := 4) (v := .int (nI (b_2 0))) S in_X6_nextToken_X6 G 0 rfl rfl 2 (by decide) lk_X6_nextToken_19 rfl dX6_nextToken_100 ?_
          refine lv_iconst (v := 1) zx zb dX6_nextToken_103 (by decide) ?_
          refine r_iadd (v := (nI ((b_2 0) + 1))) S (nI_add (b_2 0) 1) dX6_nextToken_104 ?_
          refine r_put (C := RX6) (T := TX6) (N := 7) (ci := 4) (v := .int (nI ((b_2 0) + 1))) S in_X6_nextToken_X6 tyX6_ok nmX6 G 0 rfl rfl 2 (by decide) lk_X6_nextToken_19 rfl (vp_nar_int _) rfl (Nat.le_of_ble_eq_true rfl) dX6_nextToken_105 (fun H locs G => ?_)
          obtain ⟨b_14, hI_b_14, ⟨hE_b_14_0, hE_b_14_1⟩, G⟩ : ∃ b_14 : Nat → Nat, InP b_14 ∧ (b_14 0 = ((b_2 0) + 1) ∧ b_14 1 = b_2 1) ∧ wd X (va_A (rdV X h0 hb n bd vd fd) sz) (va_A (rdV X h0 hb n bd vd fd) sz) s (rdV X h0 hb n b_14 v_13 fd) H locs := ⟨upN b_2 0 ((b_2 0) + 1), ⟨(by show ((b_2 0) + 1) ≤ 150; omega), hd1_b_2⟩, ⟨rfl, rfl⟩, G⟩
          have hO_b_14 := hI_b_14
          obtain ⟨hd0_b_14, hd1_b_14⟩ := hO_b_14
          exact e_void S zr zlk G (b_14, v_13) [0, 1] rfl rfl (Or.inr rfl) (⟨hI_b_14, ⟨by first | omega | (dsimp only; omega), by first | omega | (dsimp only; omega), by first | omega | (dsimp only; omega)⟩⟩) dX6_nextToken_108
      · refine lv_aload_n zx zb dX6_nextToken_68 rfl (lv_at hl 0 rfl) ?_
        refine b_wv (cells' := 0) (slots' := 0) (wr := []) G rfl rfl [0, 1] [] rfl rfl rfl rfl (n_V (As := []) (rest := []) (C := RX6) (T := TX6) (N := 7) (ci := 4) S G (s_takeFigures l X h0 hb n b_2 vd fd hI_n hI_b_2 (by omega) H.size) gX6_nextToken_X6_takeFigures rfl rfl rfl hdV_X6_takeFigures ⟨Nat.le_of_ble_eq_true rfl, Nat.le_of_ble_eq_true rfl⟩ [0, 1] rfl rfl 0 rfl rfl rfl hl.1 (Nat.le_of_ble_eq_true rfl) dX6_nextToken_69 ⟨Nat.le_of_ble_eq_true rfl, Nat.le_of_ble_eq_true rfl⟩) (fun u_15 H locs hp_15 G => ?_)
        obtain ⟨b_15a, v_15b⟩ := u_15
        try dsimp only at hp_15
        obtain ⟨hI_b_15a, hq_15⟩ := hp_15
        have hO_b_15a := hI_b_15a
        obtain ⟨hd0_b_15a, hd1_b_15a⟩ := hO_b_15a
        have G : wd X (va_A (rdV X h0 hb n bd vd fd) sz) (va_A (rdV X h0 hb n bd vd fd) sz) s (rdV X h0 hb n b_15a v_15b fd) H locs := G
        obtain ⟨hz0_15, hz1_15, hz2_15⟩ := hq_15
        refine lv_goto (tgt := 108) zx zb dX6_nextToken_72 (by decide) ?_
        exact e_void S zr zlk G (b_15a, v_15b) [0, 1] rfl rfl (Or.inr rfl) (⟨hI_b_15a, ⟨by first | omega | (dsimp only; omega), by first | omega | (dsimp only; omega), by first | omega | (dsimp only; omega)⟩⟩) dX6_nextToken_108
    · refine lv_aload_n zx zb dX6_nextToken_46 rfl (lv_at hl 0 rfl) ?_
      refine b_wv (cells' := 0) (slots' := 0) (wr := []) G rfl rfl [0, 1] [] rfl rfl rfl rfl (n_V (As := []) (rest := []) (C := RX6) (T := TX6) (N := 7) (ci := 4) S G (s_takeLetters l X h0 hb n b_2 vd fd hI_n hI_b_2 (by omega) H.size) gX6_nextToken_X6_takeLetters rfl rfl rfl hdV_X6_takeLetters ⟨Nat.le_of_ble_eq_true rfl, Nat.le_of_ble_eq_true rfl⟩ [0, 1] rfl rfl 0 rfl rfl rfl hl.1 (Nat.le_of_ble_eq_true rfl) dX6_nextToken_47 ⟨Nat.le_of_ble_eq_true rfl, Nat.le_of_ble_eq_true rfl⟩) (fun u_16 H locs hp_16 G => ?_)
      obtain ⟨b_16a, v_16b⟩ := u_16
      try dsimp only at hp_16
      obtain ⟨hI_b_16a, hq_16⟩ := hp_16
      have hO_b_16a := hI_b_16a
      obtain ⟨hd0_b_16a, hd1_b_16a⟩ := hO_b_16a
      have G : wd X (va_A (rdV X h0 hb n bd vd fd) sz) (va_A (rdV X h0 hb n bd vd fd) sz) s (rdV X h0 hb n b_16a v_16b fd) H locs := G
      obtain ⟨hz0_16, hz1_16, hz2_16⟩ := hq_16
      refine lv_goto (tgt := 108) zx zb dX6_nextToken_50 (by decide) ?_
      exact e_void S zr zlk G (b_16a, v_16b) [0, 1] rfl rfl (Or.inr rfl) (⟨hI_b_16a, ⟨by first | omega | (dsimp only; omega), by first | omega | (dsimp only; omega), by first | omega | (dsimp only; omega)⟩⟩) dX6_nextToken_108
  · have fc_3 := j_nlt (a := (b_2 0)) (b := n) (by omega) (by omega) c_3
    refine lv_aload_n zx zb dX6_nextToken_23 rfl (lv_at hl 0 rfl) ?_
    refine lv_iconst (v := 0) zx zb dX6_nextToken_24 (by decide) ?_
    refine r_put (C := RX6) (T := TX6) (N := 7) (ci := 4) (v := .int 0) S in_X6_nextToken_X6 tyX6_ok nmX6 G 0 rfl rfl 4 (by decide) lk_X6_nextToken_25 rfl (vp_nar_int _) rfl (Nat.le_of_ble_eq_true rfl) dX6_nextToken_25 (fun H locs G => ?_)
    obtain ⟨v_17, ⟨hE_v_17_0, hE_v_17_1, hE_v_17_2⟩, G⟩ : ∃ v_17 : Nat → Int32, (v_17 0 = 0 ∧ v_17 1 = vd 1 ∧ v_17 2 = vd 2) ∧ wd X (va_A (rdV X h0 hb n bd vd fd) sz) (va_A (rdV X h0 hb n bd vd fd) sz) s (rdV X h0 hb n b_2 v_17 fd) H locs := ⟨upd vd 0 0, ⟨rfl, rfl, rfl⟩, G⟩
    refine lv_goto (tgt := 108) zx zb dX6_nextToken_28 (by decide) ?_
    exact e_void S zr zlk G (b_2, v_17) [0, 1] rfl rfl (Or.inr rfl) (⟨hI_b_2, ⟨by first | omega | (dsimp only; omega), by first | omega | (dsimp only; omega), by first | omega | (dsimp only; omega)⟩⟩) dX6_nextToken_108
theorem in_X6_number_X6 : ∀ w ∈ wsX60, w ∈ wsX6_number := by decide +kernel
theorem lk_X6_number_31 : Cond.fieldLink RX6 31 "EggSpoons$Reader" "fault" "I" ∈ wsX6_number := by decide +kernel
theorem hdV_X6_nextToken : yX6_nextToken.cls = RX6 ∧ yX6_nextToken.cls ≠ "java/lang/invoke/MethodHandle" ∧ yX6_nextToken.cls ≠ "java/lang/invoke/VarHandle" ∧ (parseMethodDescriptor yX6_nextToken.desc).map (fun d => d.parameters.length) = some 0 := by decide +kernel
theorem lk_X6_number_25 : Cond.fieldLink RX6 25 "EggSpoons$Reader" "sort" "I" ∈ wsX6_number := by decide +kernel
theorem lk_X6_number_22 : Cond.fieldLink RX6 22 "EggSpoons$Reader" "tokenAt" "I" ∈ wsX6_number := by decide +kernel
theorem lk_X6_number_28 : Cond.fieldLink RX6 28 "EggSpoons$Reader" "value" "I" ∈ wsX6_number := by decide +kernel
set_option maxHeartbeats 4000000 in
set_option maxRecDepth 100000 in
/-- number -/
theorem s_number (l : Launch) (X : EX) (h0 : Nat) (hb : Nat) (n : Nat) (bd : Nat → Nat) (vd : Nat → Int32) (fd : Nat → Int32) (lo : Int32) (hi : Int32) (hI_n : n ≤ 150) (hI_bd : InP bd) (hP : bd 0 ≤ n ∧ bd 1 ≤ bd 0) (sz : Nat) : Met l yX6_number wsX6_number ({ frames := 3, cells := 0, slots := 0, locals := 60 } : Room) (pE X [.ref h0, .int lo, .int hi] (rdV X h0 hb n bd vd fd) sz) (qI (fun (r : Int32) (u : (Nat → Nat) × (Nat → Int32)) => InP u.1 ∧ (u.1 0 ≤ n ∧ u.1 1 ≤ u.1 0 ∧ (r = -1 ∨ (lo ≤ r ∧ r ≤ hi)))) X (fun (u : (Nat → Nat) × (Nat → Int32)) => rdV X h0 hb n u.1 u.2 fd) (rdV X h0 hb n bd vd fd) sz) 0 0 (va_A (rdV X h0 hb n bd vd fd) sz) := by
  refine mk_met (B := (va_A (rdV X h0 hb n bd vd fd) sz)) (A := (va_A (rdV X h0 hb n bd vd fd) sz)) (cc := cX6_number) (maxL := 3) (ret := (some .int)) (by decide) rfl (Nat.le_of_ble_eq_true rfl) k_w k_a (fun p e s m below meth c S zr zlk znm zsz G ls hl => ?_)
  have S : CallFix p m c cX6_number 3 s _ wsX6_number RX6 := S
  have zx := S.1
  have zb := S.2.1
  have hl : lv_has ls 3 [(0, .ref h0), (1, .int lo), (2, .int hi)] := hl
  have hO_bd := hI_bd
  obtain ⟨hd0_bd, hd1_bd⟩ := hO_bd
  obtain ⟨hP0, hP1⟩ := hP
  refine lv_aload_n zx zb dX6_number_0 rfl (lv_at hl 0 rfl) ?_
  refine r_get (C := RX6) (T := TX6) (N := 7) (ci := 4) (v := .int (vd 2)) S in_X6_number_X6 G 0 rfl rfl 6 (by decide) lk_X6_number_31 rfl dX6_number_1 ?_
  refine lv_iconst (v := (-1)) zx zb dX6_number_4 (by decide) ?_
  refine lv_icmp_eq (tgt := 10) zx zb dX6_number_5 (by decide) (fun c_1 => ?_) (fun c_1 => ?_)
  · refine lv_aload_n zx zb dX6_number_10 rfl (lv_at hl 0 rfl) ?_
    refine b_wv (cells' := 0) (slots' := 0) (wr := []) G rfl rfl [0, 1] [] rfl rfl rfl rfl (n_V (As := []) (rest := []) (C := RX6) (T := TX6) (N := 7) (ci := 4) S G (s_nextToken l X h0 hb n bd vd fd hI_n hI_bd (by omega) s.heap.size) gX6_number_X6_nextToken rfl rfl rfl hdV_X6_nextToken ⟨Nat.le_of_ble_eq_true rfl, Nat.le_of_ble_eq_true rfl⟩ [0, 1] rfl rfl 0 rfl rfl rfl hl.1 (Nat.le_of_ble_eq_true rfl) dX6_number_11 ⟨Nat.le_of_ble_eq_true rfl, Nat.le_of_ble_eq_true rfl⟩) (fun u_2 H locs hp_2 G => ?_)
    obtain ⟨b_2a, v_2b⟩ := u_2
    try dsimp only at hp_2
    obtain ⟨hI_b_2a, hq_2⟩ := hp_2
    have hO_b_2a := hI_b_2a
    obtain ⟨hd0_b_2a, hd1_b_2a⟩ := hO_b_2a
    have G : wd X (va_A (rdV X h0 hb n bd vd fd) sz) (va_A (rdV X h0 hb n bd vd fd) sz) s (rdV X h0 hb n b_2a v_2b fd) H locs := G
    obtain ⟨hz0_2, hz1_2, hz2_2⟩ := hq_2
    refine lv_aload_n zx zb dX6_number_14 rfl (lv_at hl 0 rfl) ?_
    refine r_get (C := RX6) (T := TX6) (N := 7) (ci := 4) (v := .int (v_2b 0)) S in_X6_number_X6 G 0 rfl rfl 4 (by decide) lk_X6_number_25 rfl dX6_number_15 ?_
    refine lv_iconst (v := 2) zx zb dX6_number_18 (by decide) ?_
    refine lv_icmp_ne (tgt := 38) zx zb dX6_number_19 (by decide) (fun c_3 => ?_) (fun c_3 => ?_)
    · refine lv_aload_n zx zb dX6_number_38 rfl (lv_at hl 0 rfl) ?_
      refine lv_aload_n zx zb dX6_number_39 rfl (lv_at hl 0 rfl) ?_
      refine r_get (C := RX6) (T := TX6) (N := 7) (ci := 4) (v := .int (nI (b_2a 1))) S in_X6_number_X6 G 0 rfl rfl 3 (by decide) lk_X6_number_22 rfl dX6_number_40 ?_
      refine r_put (C := RX6) (T := TX6) (N := 7) (ci := 4) (v := .int (nI (b_2a 1))) S in_X6_number_X6 tyX6_ok nmX6 G 0 rfl rfl 6 (by decide) lk_X6_number_31 rfl (vp_nar_int _) rfl (Nat.le_of_ble_eq_true rfl) dX6_number_43 (fun H locs G => ?_)
      obtain ⟨v_4, ⟨hE_v_4_2, hE_v_4_0, hE_v_4_1⟩, G⟩ : ∃ v_4 : Nat → Int32, (v_4 2 = (nI (b_2a 1)) ∧ v_4 0 = v_2b 0 ∧ v_4 1 = v_2b 1) ∧ wd X (va_A (rdV X h0 hb n bd vd fd) sz) (va_A (rdV X h0 hb n bd vd fd) sz) s (rdV X h0 hb n b_2a v_4 fd) H locs := ⟨upd v_2b 2 (nI (b_2a 1)), ⟨rfl, rfl, rfl⟩, G⟩
      refine lv_iconst (v := (-1)) zx zb dX6_number_46 (by decide) ?_
      exact e_int S zr zlk (vp_nar_int _) G (b_2a, v_4) [0, 1] rfl rfl (Or.inr rfl) (⟨hI_b_2a, ⟨by first | omega | (dsimp only; omega), by first | omega | (dsimp only; omega), Or.inl rfl⟩⟩) dX6_number_47
    · refine lv_aload_n zx zb dX6_number_22 rfl (lv_at hl 0 rfl) ?_
      refine r_get (C := RX6) (T := TX6) (N := 7) (ci := 4) (v := .int (v_2b 1)) S in_X6_number_X6 G 0 rfl rfl 5 (by decide) lk_X6_number_28 rfl dX6_number_23 ?_
      refine lv_iload_n zx zb dX6_number_26 rfl (lv_at hl 1 rfl) ?_
      refine lv_icmp_lt (tgt := 38) zx zb dX6_number_27 (by decide) (fun c_5 => ?_) (fun c_5 => ?_)
      · refine lv_aload_n zx zb dX6_number_38 rfl (lv_at hl 0 rfl) ?_
        refine lv_aload_n zx zb dX6_number_39 rfl (lv_at hl 0 rfl) ?_
        refine r_get (C := RX6) (T := TX6) (N := 7) (ci := 4) (v := .int (nI (b_2a 1))) S in_X6_number_X6 G 0 rfl rfl 3 (by decide) lk_X6_number_22 rfl dX6_number_40 ?_
        refine r_put (C := RX6) (T := TX6) (N := 7) (ci := 4) (v := .int (nI (b_2a 1))) S in_X6_number_X6 tyX6_ok nmX6 G 0 rfl rfl 6 (by decide) lk_X6_number_31 rfl (vp_nar_int _) rfl (Nat.le_of_ble_eq_true rfl) dX6_number_43 (fun H locs G => ?_)
        obtain ⟨v_6, ⟨hE_v_6_2, hE_v_6_0, hE_v_6_1⟩, G⟩ : ∃ v_6 : Nat → Int32, (v_6 2 = (nI (b_2a 1)) ∧ v_6 0 = v_2b 0 ∧ v_6 1 = v_2b 1) ∧ wd X (va_A (rdV X h0 hb n bd vd fd) sz) (va_A (rdV X h0 hb n bd vd fd) sz) s (rdV X h0 hb n b_2a v_6 fd) H locs := ⟨upd v_2b 2 (nI (b_2a 1)), ⟨rfl, rfl, rfl⟩, G⟩
        refine lv_iconst (v := (-1)) zx zb dX6_number_46 (by decide) ?_
        exact e_int S zr zlk (vp_nar_int _) G (b_2a, v_6) [0, 1] rfl rfl (Or.inr rfl) (⟨hI_b_2a, ⟨by first | omega | (dsimp only; omega), by first | omega | (dsimp only; omega), Or.inl rfl⟩⟩) dX6_number_47
      · refine lv_aload_n zx zb dX6_number_30 rfl (lv_at hl 0 rfl) ?_
        refine r_get (C := RX6) (T := TX6) (N := 7) (ci := 4) (v := .int (v_2b 1)) S in_X6_number_X6 G 0 rfl rfl 5 (by decide) lk_X6_number_28 rfl dX6_number_31 ?_
        refine lv_iload_n zx zb dX6_number_34 rfl (lv_at hl 2 rfl) ?_
        refine lv_icmp_le (tgt := 48) zx zb dX6_number_35 (by decide) (fun c_7 => ?_) (fun c_7 => ?_)
        · refine lv_aload_n zx zb dX6_number_48 rfl (lv_at hl 0 rfl) ?_
          refine r_get (C := RX6) (T := TX6) (N := 7) (ci := 4) (v := .int (v_2b 1)) S in_X6_number_X6 G 0 rfl rfl 5 (by decide) lk_X6_number_28 rfl dX6_number_49 ?_
          exact e_int S zr zlk (vp_nar_int _) G (b_2a, v_2b) [0, 1] rfl rfl (Or.inr rfl) (⟨hI_b_2a, ⟨by first | omega | (dsimp only; omega), by first | omega | (dsimp only; omega), Or.inr ⟨Int32.not_lt.mp c_5, c_7⟩⟩⟩) dX6_number_52
        · refine lv_aload_n zx zb dX6_number_38 rfl (lv_at hl 0 rfl) ?_
          refine lv_aload_n zx zb dX6_number_39 rfl (lv_at hl 0 rfl) ?_
          refine r_get (C := RX6) (T := TX6) (N := 7) (ci := 4) (v := .int (nI (b_2a 1))) S in_X6_number_X6 G 0 rfl rfl 3 (by decide) lk_X6_number_22 rfl dX6_number_40 ?_
          refine r_put (C := RX6) (T := TX6) (N := 7) (ci := 4) (v := .int (nI (b_2a 1))) S in_X6_number_X6 tyX6_ok nmX6 G 0 rfl rfl 6 (by decide) lk_X6_number_31 rfl (vp_nar_int _) rfl (Nat.le_of_ble_eq_true rfl) dX6_number_43 (fun H locs G => ?_)
          obtain ⟨v_8, ⟨hE_v_8_2, hE_v_8_0, hE_v_8_1⟩, G⟩ : ∃ v_8 : Nat → Int32, (v_8 2 = (nI (b_2a 1)) ∧ v_8 0 = v_2b 0 ∧ v_8 1 = v_2b 1) ∧ wd X (va_A (rdV X h0 hb n bd vd fd) sz) (va_A (rdV X h0 hb n bd vd fd) sz) s (rdV X h0 hb n b_2a v_8 fd) H locs := ⟨upd v_2b 2 (nI (b_2a 1)), ⟨rfl, rfl, rfl⟩, G⟩
          refine lv_iconst (v := (-1)) zx zb dX6_number_46 (by decide) ?_
          exact e_int S zr zlk (vp_nar_int _) G (b_2a, v_8) [0, 1] rfl rfl (Or.inr rfl) (⟨hI_b_2a, ⟨by first | omega | (dsimp only; omega), by first | omega | (dsimp only; omega), Or.inl rfl⟩⟩) dX6_number_47
  · refine lv_iconst (v := (-1)) zx zb dX6_number_8 (by decide) ?_
    exact e_int S zr zlk (vp_nar_int _) G (bd, vd) [0, 1] rfl rfl (Or.inr rfl) (⟨hI_bd, ⟨by first | omega | (dsimp only; omega), by first | omega | (dsimp only; omega), Or.inl rfl⟩⟩) dX6_number_9
theorem in_X6_ended_X6 : ∀ w ∈ wsX60, w ∈ wsX6_ended := by decide +kernel
theorem lk_X6_ended_31 : Cond.fieldLink RX6 31 "EggSpoons$Reader" "fault" "I" ∈ wsX6_ended := by decide +kernel
theorem lk_X6_ended_25 : Cond.fieldLink RX6 25 "EggSpoons$Reader" "sort" "I" ∈ wsX6_ended := by decide +kernel
theorem lk_X6_ended_22 : Cond.fieldLink RX6 22 "EggSpoons$Reader" "tokenAt" "I" ∈ wsX6_ended := by decide +kernel
set_option maxHeartbeats 4000000 in
set_option maxRecDepth 100000 in
/-- ended -/
theorem s_ended (l : Launch) (X : EX) (h0 : Nat) (hb : Nat) (n : Nat) (bd : Nat → Nat) (vd : Nat → Int32) (fd : Nat → Int32) (hI_n : n ≤ 150) (hI_bd : InP bd) (hP : bd 0 ≤ n ∧ bd 1 ≤ bd 0) (sz : Nat) : Met l yX6_ended wsX6_ended ({ frames := 3, cells := 0, slots := 0, locals := 60 } : Room) (pE X [.ref h0] (rdV X h0 hb n bd vd fd) sz) (qI (fun (r : Int32) (u : (Nat → Nat) × (Nat → Int32)) => InP u.1 ∧ (u.1 0 ≤ n ∧ u.1 1 ≤ u.1 0 ∧ (r = 0 ∨ r = 1))) X (fun (u : (Nat → Nat) × (Nat → Int32)) => rdV X h0 hb n u.1 u.2 fd) (rdV X h0 hb n bd vd fd) sz) 0 0 (va_A (rdV X h0 hb n bd vd fd) sz) := by
  refine mk_met (B := (va_A (rdV X h0 hb n bd vd fd) sz)) (A := (va_A (rdV X h0 hb n bd vd fd) sz)) (cc := cX6_ended) (maxL := 1) (ret := (some .boolean)) (by decide) rfl (Nat.le_of_ble_eq_true rfl) k_w k_a (fun p e s m below meth c S zr zlk znm zsz G ls hl => ?_)
  have S : CallFix p m c cX6_ended 1 s _ wsX6_ended RX6 := S
  have zx := S.1
  have zb := S.2.1
  have hl : lv_has ls 1 [(0, .ref h0)] := hl
  have hO_bd := hI_bd
  obtain ⟨hd0_bd, hd1_bd⟩ := hO_bd
  obtain ⟨hP0, hP1⟩ := hP
  refine lv_aload_n zx zb dX6_ended_0 rfl (lv_at hl 0 rfl) ?_
  refine r_get (C := RX6) (T := TX6) (N := 7) (ci := 4) (v := .int (vd 2)) S in_X6_ended_X6 G 0 rfl rfl 6 (by decide) lk_X6_ended_31 rfl dX6_ended_1 ?_
  refine lv_iconst (v := (-1)) zx zb dX6_ended_4 (by decide) ?_
  refine lv_icmp_eq (tgt := 10) zx zb dX6_ended_5 (by decide) (fun c_1 => ?_) (fun c_1 => ?_)
  · refine lv_aload_n zx zb dX6_ended_10 rfl (lv_at hl 0 rfl) ?_
    refine b_wv (cells' := 0) (slots' := 0) (wr := []) G rfl rfl [0, 1] [] rfl rfl rfl rfl (n_V (As := []) (rest := []) (C := RX6) (T := TX6) (N := 7) (ci := 4) S G (s_nextToken l X h0 hb n bd vd fd hI_n hI_bd (by omega) s.heap.size) gX6_ended_X6_nextToken rfl rfl rfl hdV_X6_nextToken ⟨Nat.le_of_ble_eq_true rfl, Nat.le_of_ble_eq_true rfl⟩ [0, 1] rfl rfl 0 rfl rfl rfl hl.1 (Nat.le_of_ble_eq_true rfl) dX6_ended_11 ⟨Nat.le_of_ble_eq_true rfl, Nat.le_of_ble_eq_true rfl⟩) (fun u_2 H locs hp_2 G => ?_)
    obtain ⟨b_2a, v_2b⟩ := u_2
    try dsimp only at hp_2
    obtain ⟨hI_b_2a, hq_2⟩ := hp_2
    have hO_b_2a := hI_b_2a
    obtain ⟨hd0_b_2a, hd1_b_2a⟩ := hO_b_2a
    have G : wd X (va_A (rdV X h0 hb n bd vd fd) sz) (va_A (rdV X h0 hb n bd vd fd) sz) s (rdV X h0 hb n b_2a v_2b fd) H locs := G
    obtain ⟨hz0_2, hz1_2, hz2_2⟩ := hq_2
    refine lv_aload_n zx zb dX6_ended_14 rfl (lv_at hl 0 rfl) ?_
    refine r_get (C := RX6) (T := TX6) (N := 7) (ci := 4) (v := .int (v_2b 0)) S in_X6_ended_X6 G 0 rfl rfl 4 (by decide) lk_X6_ended_25 rfl dX6_ended_15 ?_
    refine lv_iconst (v := 3) zx zb dX6_ended_18 (by decide) ?_
    refine k_cutW (PP := fun Wx => ∀ (v_4 : Nat → Int32) (H : Heap) (locs : List Loc) (ls : Array Slot), wd X (va_A (rdV X h0 hb n bd vd fd) sz) (va_A (rdV X h0 hb n bd vd fd) sz) s (rdV X h0 hb n b_2a v_4 fd) H locs → lv_has ls 1 [(0, .ref h0)] → Wx (F0 m 30 ls []) H locs) ?_ ?_
    · intro join_19
      refine lv_icmp_eq (tgt := 30) zx zb dX6_ended_19 (by decide) (fun c_3 => ?_) (fun c_3 => ?_)
      · exact join_19 v_2b _ _ _  G hl
      · refine lv_aload_n zx zb dX6_ended_22 rfl (lv_at hl 0 rfl) ?_
        refine lv_aload_n zx zb dX6_ended_23 rfl (lv_at hl 0 rfl) ?_
        refine r_get (C := RX6) (T := TX6) (N := 7) (ci := 4) (v := .int (nI (b_2a 1))) S in_X6_ended_X6 G 0 rfl rfl 3 (by decide) lk_X6_ended_22 rfl dX6_ended_24 ?_
        refine r_put (C := RX6) (T := TX6) (N := 7) (ci := 4) (v := .int (nI (b_2a 1))) S in_X6_ended_X6 tyX6_ok nmX6 G 0 rfl rfl 6 (by decide) lk_X6_ended_31 rfl (vp_nar_int _) rfl (Nat.le_of_ble_eq_true rfl) dX6_ended_27 (fun H locs G => ?_)
        obtain ⟨v_5, ⟨hE_v_5_2, hE_v_5_0, hE_v_5_1⟩, G⟩ : ∃ v_5 : Nat → Int32, (v_5 2 = (nI (b_2a 1)) ∧ v_5 0 = v_2b 0 ∧ v_5 1 = v_2b 1) ∧ wd X (va_A (rdV X h0 hb n bd vd fd) sz) (va_A (rdV X h0 hb n bd vd fd) sz) s (rdV X h0 hb n b_2a v_5 fd) H locs := ⟨upd v_2b 2 (nI (b_2a 1)), ⟨rfl, rfl, rfl⟩, G⟩
        exact join_19 v_5 _ _ _  G hl
    · intro v_4 H locs ls  G hl
      refine lv_aload_n zx zb dX6_ended_30 rfl (lv_at hl 0 rfl) ?_
      refine r_get (C := RX6) (T := TX6) (N := 7) (ci := 4) (v := .int (v_4 2)) S in_X6_ended_X6 G 0 rfl rfl 6 (by decide) lk_X6_ended_31 rfl dX6_ended_31 ?_
      refine lv_iconst (v := (-1)) zx zb dX6_ended_34 (by decide) ?_
      refine lv_icmp_ne (tgt := 42) zx zb dX6_ended_35 (by decide) (fun c_6 => ?_) (fun c_6 => ?_)
      · refine lv_iconst (v := 0) zx zb dX6_ended_42 (by decide) ?_
        exact e_int S zr zlk (by decide) G (b_2a, v_4) [0, 1] rfl rfl (Or.inr rfl) (⟨hI_b_2a, ⟨by first | omega | (dsimp only; omega), by first | omega | (dsimp only; omega), Or.inl rfl⟩⟩) dX6_ended_43
      · refine lv_iconst (v := 1) zx zb dX6_ended_38 (by decide) ?_
        refine lv_goto (tgt := 43) zx zb dX6_ended_39 (by decide) ?_
        exact e_int S zr zlk (by decide) G (b_2a, v_4) [0, 1] rfl rfl (Or.inr rfl) (⟨hI_b_2a, ⟨by first | omega | (dsimp only; omega), by first | omega | (dsimp only; omega), Or.inr rfl⟩⟩) dX6_ended_43
  · refine lv_iconst (v := 0) zx zb dX6_ended_8 (by decide) ?_
    exact e_int S zr zlk (by decide) G (bd, vd) [0, 1] rfl rfl (Or.inr rfl) (⟨hI_bd, ⟨by first | omega | (dsimp only; omega), by first | omega | (dsimp only; omega), Or.inl rfl⟩⟩) dX6_ended_9
theorem hdV_X6_number : yX6_number.cls = RX6 ∧ yX6_number.cls ≠ "java/lang/invoke/MethodHandle" ∧ yX6_number.cls ≠ "java/lang/invoke/VarHandle" ∧ (parseMethodDescriptor yX6_number.desc).map (fun d => d.parameters.length) = some 2 := by decide +kernel
theorem hdV_X6_ended : yX6_ended.cls = RX6 ∧ yX6_ended.cls ≠ "java/lang/invoke/MethodHandle" ∧ yX6_ended.cls ≠ "java/lang/invoke/VarHandle" ∧ (parseMethodDescriptor yX6_ended.desc).map (fun d => d.parameters.length) = some 0 := by decide +kernel
set_option maxHeartbeats 4000000 in
set_option maxRecDepth 100000 in
/-- takeLength -/
theorem s_takeLength (l : Launch) (X : EX) (h0 : Nat) (hb : Nat) (n : Nat) (bd : Nat → Nat) (vd : Nat → Int32) (fd : Nat → Int32) (hn : Nat) (an : Nat → Nat) (v : Nat → Int32) (b : Nat → Nat) (g : Nat → Nat → Int32) (hI_n : n ≤ 150) (hI_bd : InP bd) (hI_b : InR b) (hP : bd 0 ≤ n ∧ bd 1 ≤ bd 0) (sz : Nat) : Met l yX6_takeLength wsX6_takeLength ({ frames := 4, cells := 0, slots := 0, locals := 82 } : Room) (pE X [.ref h0, .ref hn] (@HAppend.hAppend va_W va_W va_W _ (rdV X h0 hb n bd vd fd) (rcW X hn an v b g)) sz) (qV (fun (u : (Nat → Nat) × (Nat → Int32) × (Nat → Int32) × (Nat → Nat) × (Nat → Nat → Int32)) => InP u.1 ∧ InR u.2.2.2.1 ∧ (u.1 0 ≤ n ∧ u.1 1 ≤ u.1 0)) X (fun (u : (Nat → Nat) × (Nat → Int32) × (Nat → Int32) × (Nat → Nat) × (Nat → Nat → Int32)) => @HAppend.hAppend va_W va_W va_W _ (rdV X h0 hb n u.1 u.2.1 fd) (rcW X hn an u.2.2.1 u.2.2.2.1 u.2.2.2.2)) (@HAppend.hAppend va_W va_W va_W _ (rdV X h0 hb n bd vd fd) (rcW X hn an v b g)) sz) 0 0 (va_A (@HAppend.hAppend va_W va_W va_W _ (rdV X h0 hb n bd vd fd) (rcW X hn an v b g)) sz) := by
  refine mk_met (B := (va_A (@HAppend.hAppend va_W va_W va_W _ (rdV X h0 hb n bd vd fd) (rcW X hn an v b g)) sz)) (A := (va_A (@HAppend.hAppend va_W va_W va_W _ (rdV X h0 hb n bd vd fd) (rcW X hn an v b g)) sz)) (cc := cX6_takeLength) (maxL := 3) (ret := none) (by decide) rfl (Nat.le_of_ble_eq_true rfl) k_w k_a (fun p e s m below meth c S zr zlk znm zsz G ls hl => ?_)
  have S : CallFix p m c cX6_takeLength 3 s _ wsX6_takeLength RX6 := S
  have zx := S.1
  have zb := S.2.1
  have hl : lv_has ls 3 [(0, .ref h0), (1, .ref hn)] := hl
  have hO_bd := hI_bd
  obtain ⟨hd0_bd, hd1_bd⟩ := hO_bd
  have hO_b := hI_b
  obtain ⟨hb0_b, hb1_b, hb2_b, hb3_b, hb4_b⟩ := hO_b
  obtain ⟨hP0, hP1⟩ := hP
  refine lv_aload_n zx zb dX6_takeLength_0 rfl (lv_at hl 0 rfl) ?_
  refine lv_bipush (v := 10) zx zb dX6_takeLength_1 (by decide) ?_
  refine lv_bipush (v := 60) zx zb dX6_takeLength_3 (by decide) ?_
  refine b_wi (cells' := 0) (slots' := 0) (wr := rcW X hn an v b g) G rfl rfl [0, 1] [2, 3, 4, 5, 6, 7, 8, 9, 10, 11, 12, 13, 14, 15, 16, 17] rfl rfl rfl rfl (n_V (As := [.int 10, .int 60]) (rest := []) (C := RX6) (T := TX6) (N := 7) (ci := 4) S G (s_number l X h0 hb n bd vd fd 10 60 hI_n hI_bd ⟨by omega, by omega⟩ s.heap.size) gX6_takeLength_X6_number rfl rfl rfl hdV_X6_number ⟨Nat.le_of_ble_eq_true rfl, Nat.le_of_ble_eq_true rfl⟩ [0, 1] rfl rfl 0 rfl rfl rfl hl.1 (Nat.le_of_ble_eq_true rfl) dX6_takeLength_5 ⟨Nat.le_of_ble_eq_true rfl, Nat.le_of_ble_eq_true rfl⟩) (fun r_1 u_1 H locs hp_1 G => ?_)
  obtain ⟨b_1a, v_1b⟩ := u_1
  try dsimp only at hp_1
  obtain ⟨hI_b_1a, hq_1⟩ := hp_1
  have hO_b_1a := hI_b_1a
  obtain ⟨hd0_b_1a, hd1_b_1a⟩ := hO_b_1a
  have G : wd X (va_A (@HAppend.hAppend va_W va_W va_W _ (rdV X h0 hb n bd vd fd) (rcW X hn an v b g)) sz) (va_A (@HAppend.hAppend va_W va_W va_W _ (rdV X h0 hb n bd vd fd) (rcW X hn an v b g)) sz) s (@HAppend.hAppend va_W va_W va_W _ (rcW X hn an v b g) (rdV X h0 hb n b_1a v_1b fd)) H locs := G
  obtain ⟨hz0_1, hz1_1, hz2_1⟩ := hq_1
  refine lv_istore_n (lv' := [(2, .int r_1), (0, .ref h0), (1, .ref hn)]) zx zb dX6_takeLength_8 rfl hl (by decide) rfl (fun ls hl => ?_)
  refine lv_aload_n zx zb dX6_takeLength_9 rfl (lv_at hl 1 rfl) ?_
  refine b_wi (cells' := 0) (slots' := 0) (wr := rcW X hn an v b g) G rfl rfl [16, 17] [0, 1, 2, 3, 4, 5, 6, 7, 8, 9, 10, 11, 12, 13, 14, 15] rfl rfl rfl rfl (n_V (As := []) (rest := []) (C := RX6) (T := TX6) (N := 7) (ci := 4) S G (s_ended l X h0 hb n b_1a v_1b fd hI_n hI_b_1a ⟨by omega, by omega⟩ H.size) gX6_takeLength_X6_ended rfl rfl rfl hdV_X6_ended ⟨Nat.le_of_ble_eq_true rfl, Nat.le_of_ble_eq_true rfl⟩ [16, 17] rfl rfl 16 rfl rfl rfl hl.1 (Nat.le_of_ble_eq_true rfl) dX6_takeLength_10 ⟨Nat.le_of_ble_eq_true rfl, Nat.le_of_ble_eq_true rfl⟩) (fun r_2 u_2 H locs hp_2 G => ?_)
  obtain ⟨b_2a, v_2b⟩ := u_2
  try dsimp only at hp_2
  obtain ⟨hI_b_2a, hq_2⟩ := hp_2
  have hO_b_2a := hI_b_2a
  obtain ⟨hd0_b_2a, hd1_b_2a⟩ := hO_b_2a
  have G : wd X (va_A (@HAppend.hAppend va_W va_W va_W _ (rdV X h0 hb n bd vd fd) (rcW X hn an v b g)) sz) (va_A (@HAppend.hAppend va_W va_W va_W _ (rdV X h0 hb n bd vd fd) (rcW X hn an v b g)) sz) s (@HAppend.hAppend va_W va_W va_W _ (rcW X hn an v b g) (rdV X h0 hb n b_2a v_2b fd)) H locs := G
  obtain ⟨hz0_2, hz1_2, hz2_2⟩ := hq_2
  rcases hz2_2 with rfl | rfl
  · refine lv_if_eq (tgt := 21) zx zb dX6_takeLength_13 (by decide) (fun c_3 => ?_) (fun c_3 => absurd (by decide) c_3)
    exact e_void S zr zlk G (b_2a, v_2b, v, b, g) [16, 17, 0, 1, 2, 3, 4, 5, 6, 7, 8, 9, 10, 11, 12, 13, 14, 15] rfl rfl (Or.inr rfl) (⟨hI_b_2a, hI_b, ⟨by first | omega | (dsimp only; omega), by first | omega | (dsimp only; omega)⟩⟩) dX6_takeLength_21
  · refine lv_if_eq (tgt := 21) zx zb dX6_takeLength_13 (by decide) (fun c_4 => absurd c_4 (by decide)) (fun c_4 => ?_)
    refine lv_aload_n zx zb dX6_takeLength_16 rfl (lv_at hl 2 rfl) ?_
    refine lv_iload_n zx zb dX6_takeLength_17 rfl (lv_at hl 0 rfl) ?_
    refine b_wv (cells' := 0) (slots' := 0) (wr := rdV X h0 hb n b_2a v_2b fd) G rfl rfl [0, 1, 2, 3, 4, 5, 6, 7, 8, 9, 10, 11, 12, 13, 14, 15] [16, 17] rfl rfl rfl rfl (n_V (As := [.int r_1]) (rest := []) (C := RX5) (T := TX5) (N := 8) (ci := 3) S G (s_restart l X hn an v b g r_1 hI_b H.size) gX6_takeLength_X5_restart rfl rfl rfl hdV_X5_restart ⟨Nat.le_of_ble_eq_true rfl, Nat.le_of_ble_eq_true rfl⟩ [0, 1, 2, 3, 4, 5, 6, 7, 8, 9, 10, 11, 12, 13, 14, 15] rfl rfl 0 rfl rfl rfl hl.1 (Nat.le_of_ble_eq_true rfl) dX6_takeLength_18 ⟨Nat.le_of_ble_eq_true rfl, Nat.le_of_ble_eq_true rfl⟩) (fun u_5 H locs hp_5 G => ?_)
    obtain ⟨v_5a, b_5b, g_5c⟩ := u_5
    obtain ⟨hI_b_5b, hq_5⟩ := hp_5
    have hO_b_5b := hI_b_5b
    obtain ⟨hb0_b_5b, hb1_b_5b, hb2_b_5b, hb3_b_5b, hb4_b_5b⟩ := hO_b_5b
    have G : wd X (va_A (@HAppend.hAppend va_W va_W va_W _ (rdV X h0 hb n bd vd fd) (rcW X hn an v b g)) sz) (va_A (@HAppend.hAppend va_W va_W va_W _ (rdV X h0 hb n bd vd fd) (rcW X hn an v b g)) sz) s (@HAppend.hAppend va_W va_W va_W _ (rdV X h0 hb n b_2a v_2b fd) (rcW X hn an v_5a b_5b g_5c)) H locs := G
    exact e_void S zr zlk G (b_2a, v_2b, v_5a, b_5b, g_5c) [0, 1, 2, 3, 4, 5, 6, 7, 8, 9, 10, 11, 12, 13, 14, 15, 16, 17] rfl rfl (Or.inr rfl) (⟨hI_b_2a, hI_b_5b, ⟨by first | omega | (dsimp only; omega), by first | omega | (dsimp only; omega)⟩⟩) dX6_takeLength_21
set_option maxHeartbeats 4000000 in
set_option maxRecDepth 100000 in
/-- takeRunner -/
theorem s_takeRunner (l : Launch) (X : EX) (h0 : Nat) (hb : Nat) (n : Nat) (bd : Nat → Nat) (vd : Nat → Int32) (fd : Nat → Int32) (hn : Nat) (an : Nat → Nat) (v : Nat → Int32) (b : Nat → Nat) (g : Nat → Nat → Int32) (hI_n : n ≤ 150) (hI_bd : InP bd) (hI_b : InR b) (hP : bd 0 ≤ n ∧ bd 1 ≤ bd 0) (sz : Nat) : Met l yX6_takeRunner wsX6_takeRunner ({ frames := 4, cells := 0, slots := 0, locals := 82 } : Room) (pE X [.ref h0, .ref hn] (@HAppend.hAppend va_W va_W va_W _ (rdV X h0 hb n bd vd fd) (rcW X hn an v b g)) sz) (qV (fun (u : (Nat → Nat) × (Nat → Int32) × (Nat → Int32) × (Nat → Nat) × (Nat → Nat → Int32)) => InP u.1 ∧ InR u.2.2.2.1 ∧ (u.1 0 ≤ n ∧ u.1 1 ≤ u.1 0)) X (fun (u : (Nat → Nat) × (Nat → Int32) × (Nat → Int32) × (Nat → Nat) × (Nat → Nat → Int32)) => @HAppend.hAppend va_W va_W va_W _ (rdV X h0 hb n u.1 u.2.1 fd) (rcW X hn an u.2.2.1 u.2.2.2.1 u.2.2.2.2)) (@HAppend.hAppend va_W va_W va_W _ (rdV X h0 hb n bd vd fd) (rcW X hn an v b g)) sz) 0 0 (va_A (@HAppend.hAppend va_W va_W va_W _ (rdV X h0 hb n bd vd fd) (rcW X hn an v b g)) sz) := by
  refine mk_met (B := (va_A (@HAppend.hAppend va_W va_W va_W _ (rdV X h0 hb n bd vd fd) (rcW X hn an v b g)) sz)) (A := (va_A (@HAppend.hAppend va_W va_W va_W _ (rdV X h0 hb n bd vd fd) (rcW X hn an v b g)) sz)) (cc := cX6_takeRunner) (maxL := 5) (ret := none) (by decide) rfl (Nat.le_of_ble_eq_true rfl) k_w k_a (fun p e s m below meth c S zr zlk znm zsz G ls hl => ?_)
  have S : CallFix p m c cX6_takeRunner 5 s _ wsX6_takeRunner RX6 := S
  have zx := S.1
  have zb := S.2.1
  have hl : lv_has ls 5 [(0, .ref h0), (1, .ref hn)] := hl
  have hO_bd := hI_bd
  obtain ⟨hd0_bd, hd1_bd⟩ := hO_bd
  have hO_b := hI_b
  obtain ⟨hb0_b, hb1_b, hb2_b, hb3_b, hb4_b⟩ := hO_b
  obtain ⟨hP0, hP1⟩ := hP
  refine lv_aload_n zx zb dX6_takeRunner_0 rfl (lv_at hl 0 rfl) ?_
  refine lv_iconst (v := 0) zx zb dX6_takeRunner_1 (by decide) ?_
  refine lv_iconst (v := 5) zx zb dX6_takeRunner_2 (by decide) ?_
  refine b_wi (cells' := 0) (slots' := 0) (wr := rcW X hn an v b g) G rfl rfl [0, 1] [2, 3, 4, 5, 6, 7, 8, 9, 10, 11, 12, 13, 14, 15, 16, 17] rfl rfl rfl rfl (n_V (As := [.int 0, .int 5]) (rest := []) (C := RX6) (T := TX6) (N := 7) (ci := 4) S G (s_number l X h0 hb n bd vd fd 0 5 hI_n hI_bd ⟨by omega, by omega⟩ s.heap.size) gX6_takeRunner_X6_number rfl rfl rfl hdV_X6_number ⟨Nat.le_of_ble_eq_true rfl, Nat.le_of_ble_eq_true rfl⟩ [0, 1] rfl rfl 0 rfl rfl rfl hl.1 (Nat.le_of_ble_eq_true rfl) dX6_takeRunner_3 ⟨Nat.le_of_ble_eq_true rfl, Nat.le_of_ble_eq_true rfl⟩) (fun r_1 u_1 H locs hp_1 G => ?_)
  obtain ⟨b_1a, v_1b⟩ := u_1
  try dsimp only at hp_1
  obtain ⟨hI_b_1a, hq_1⟩ := hp_1
  have hO_b_1a := hI_b_1a
  obtain ⟨hd0_b_1a, hd1_b_1a⟩ := hO_b_1a
  have G : wd X (va_A (@HAppend.hAppend va_W va_W va_W _ (rdV X h0 hb n bd vd fd) (rcW X hn an v b g)) sz) (va_A (@HAppend.hAppend va_W va_W va_W _ (rdV X h0 hb n bd vd fd) (rcW X hn an v b g)) sz) s (@HAppend.hAppend va_W va_W va_W _ (rcW X hn an v b g) (rdV X h0 hb n b_1a v_1b fd)) H locs := G
  obtain ⟨hz0_1, hz1_1, hz2_1⟩ := hq_1
  refine lv_istore_n (lv' := [(2, .int r_1), (0, .ref h0), (1, .ref hn)]) zx zb dX6_takeRunner_6 rfl hl (by decide) rfl (fun ls hl => ?_)
  refine lv_aload_n zx zb dX6_takeRunner_7 rfl (lv_at hl 1 rfl) ?_
  refine lv_iconst (v := 1) zx zb dX6_takeRunner_8 (by decide) ?_
  refine lv_bipush (v := 9) zx zb dX6_takeRunner_9 (by decide) ?_
  refine b_wi (cells' := 0) (slots' := 0) (wr := rcW X hn an v b g) G rfl rfl [16, 17] [0, 1, 2, 3, 4, 5, 6, 7, 8, 9, 10, 11, 12, 13, 14, 15] rfl rfl rfl rfl (n_V (As := [.int 1, .int 9]) (rest := []) (C := RX6) (T := TX6) (N := 7) (ci := 4) S G (s_number l X h0 hb n b_1a v_1b fd 1 9 hI_n hI_b_1a ⟨by omega, by omega⟩ H.size) gX6_takeRunner_X6_number rfl rfl rfl hdV_X6_number ⟨Nat.le_of_ble_eq_true rfl, Nat.le_of_ble_eq_true rfl⟩ [16, 17] rfl rfl 16 rfl rfl rfl hl.1 (Nat.le_of_ble_eq_true rfl) dX6_takeRunner_11 ⟨Nat.le_of_ble_eq_true rfl, Nat.le_of_ble_eq_true rfl⟩) (fun r_2 u_2 H locs hp_2 G => ?_)
  obtain ⟨b_2a, v_2b⟩ := u_2
  try dsimp only at hp_2
  obtain ⟨hI_b_2a, hq_2⟩ := hp_2
  have hO_b_2a := hI_b_2a
  obtain ⟨hd0_b_2a, hd1_b_2a⟩ := hO_b_2a
  have G : wd X (va_A (@HAppend.hAppend va_W va_W va_W _ (rdV X h0 hb n bd vd fd) (rcW X hn an v b g)) sz) (va_A (@HAppend.hAppend va_W va_W va_W _ (rdV X h0 hb n bd vd fd) (rcW X hn an v b g)) sz) s (@HAppend.hAppend va_W va_W va_W _ (rcW X hn an v b g) (rdV X h0 hb n b_2a v_2b fd)) H locs := G
  obtain ⟨hz0_2, hz1_2, hz2_2⟩ := hq_2
  refine lv_istore_n (lv' := [(3, .int r_2), (2, .int r_1), (0, .ref h0), (1, .ref hn)]) zx zb dX6_takeRunner_14 rfl hl (by decide) rfl (fun ls hl => ?_)
  refine lv_aload_n zx zb dX6_takeRunner_15 rfl (lv_at hl 2 rfl) ?_
  refine lv_iconst (v := 0) zx zb dX6_takeRunner_16 (by decide) ?_
  refine lv_iconst (v := 5) zx zb dX6_takeRunner_17 (by decide) ?_
  refine b_wi (cells' := 0) (slots' := 0) (wr := rcW X hn an v b g) G rfl rfl [16, 17] [0, 1, 2, 3, 4, 5, 6, 7, 8, 9, 10, 11, 12, 13, 14, 15] rfl rfl rfl rfl (n_V (As := [.int 0, .int 5]) (rest := []) (C := RX6) (T := TX6) (N := 7) (ci := 4) S G (s_number l X h0 hb n b_2a v_2b fd 0 5 hI_n hI_b_2a ⟨by omega, by omega⟩ H.size) gX6_takeRunner_X6_number rfl rfl rfl hdV_X6_number ⟨Nat.le_of_ble_eq_true rfl, Nat.le_of_ble_eq_true rfl⟩ [16, 17] rfl rfl 16 rfl rfl rfl hl.1 (Nat.le_of_ble_eq_true rfl) dX6_takeRunner_18 ⟨Nat.le_of_ble_eq_true rfl, Nat.le_of_ble_eq_true rfl⟩) (fun r_3 u_3 H locs hp_3 G => ?_)
  obtain ⟨b_3a, v_3b⟩ := u_3
  try dsimp only at hp_3
  obtain ⟨hI_b_3a, hq_3⟩ := hp_3
  have hO_b_3a := hI_b_3a
  obtain ⟨hd0_b_3a, hd1_b_3a⟩ := hO_b_3a
  have G : wd X (va_A (@HAppend.hAppend va_W va_W va_W _ (rdV X h0 hb n bd vd fd) (rcW X hn an v b g)) sz) (va_A (@HAppend.hAppend va_W va_W va_W _ (rdV X h0 hb n bd vd fd) (rcW X hn an v b g)) sz) s (@HAppend.hAppend va_W va_W va_W _ (rcW X hn an v b g) (rdV X h0 hb n b_3a v_3b fd)) H locs := G
  obtain ⟨hz0_3, hz1_3, hz2_3⟩ := hq_3
  refine lv_istore (lv' := [(4, .int r_3), (3, .int r_2), (2, .int r_1), (0, .ref h0), (1, .ref hn)]) zx zb dX6_takeRunner_21 hl (by decide) rfl (fun ls hl => ?_)
  refine lv_aload_n zx zb dX6_takeRunner_23 rfl (lv_at hl 3 rfl) ?_
  refine b_wi (cells' := 0) (slots' := 0) (wr := rcW X hn an v b g) G rfl rfl [16, 17] [0, 1, 2, 3, 4, 5, 6, 7, 8, 9, 10, 11, 12, 13, 14, 15] rfl rfl rfl rfl (n_V (As := []) (rest := []) (C := RX6) (T := TX6) (N := 7) (ci := 4) S G (s_ended l X h0 hb n b_3a v_3b fd hI_n hI_b_3a ⟨by omega, by omega⟩ H.size) gX6_takeRunner_X6_ended rfl rfl rfl hdV_X6_ended ⟨Nat.le_of_ble_eq_true rfl, Nat.le_of_ble_eq_true rfl⟩ [16, 17] rfl rfl 16 rfl rfl rfl hl.1 (Nat.le_of_ble_eq_true rfl) dX6_takeRunner_24 ⟨Nat.le_of_ble_eq_true rfl, Nat.le_of_ble_eq_true rfl⟩) (fun r_4 u_4 H locs hp_4 G => ?_)
  obtain ⟨b_4a, v_4b⟩ := u_4
  try dsimp only at hp_4
  obtain ⟨hI_b_4a, hq_4⟩ := hp_4
  have hO_b_4a := hI_b_4a
  obtain ⟨hd0_b_4a, hd1_b_4a⟩ := hO_b_4a
  have G : wd X (va_A (@HAppend.hAppend va_W va_W va_W _ (rdV X h0 hb n bd vd fd) (rcW X hn an v b g)) sz) (va_A (@HAppend.hAppend va_W va_W va_W _ (rdV X h0 hb n bd vd fd) (rcW X hn an v b g)) sz) s (@HAppend.hAppend va_W va_W va_W _ (rcW X hn an v b g) (rdV X h0 hb n b_4a v_4b fd)) H locs := G
  obtain ⟨hz0_4, hz1_4, hz2_4⟩ := hq_4
  rcases hz2_4 with rfl | rfl
  · refine lv_if_eq (tgt := 38) zx zb dX6_takeRunner_27 (by decide) (fun c_5 => ?_) (fun c_5 => absurd (by decide) c_5)
    exact e_void S zr zlk G (b_4a, v_4b, v, b, g) [16, 17, 0, 1, 2, 3, 4, 5, 6, 7, 8, 9, 10, 11, 12, 13, 14, 15] rfl rfl (Or.inr rfl) (⟨hI_b_4a, hI_b, ⟨by first | omega | (dsimp only; omega), by first | omega | (dsimp only; omega)⟩⟩) dX6_takeRunner_38
  · refine lv_if_eq (tgt := 38) zx zb dX6_takeRunner_27 (by decide) (fun c_6 => absurd c_6 (by decide)) (fun c_6 => ?_)
    refine lv_aload_n zx zb dX6_takeRunner_30 rfl (lv_at hl 4 rfl) ?_
    refine lv_iload_n zx zb dX6_takeRunner_31 rfl (lv_at hl 2 rfl) ?_
    refine lv_iload_n zx zb dX6_takeRunner_32 rfl (lv_at hl 1 rfl) ?_
    refine lv_iload zx zb dX6_takeRunner_33 (lv_at hl 0 rfl) ?_
    refine b_wv (cells' := 0) (slots' := 0) (wr := rdV X h0 hb n b_4a v_4b fd) G rfl rfl [0, 1, 2, 3, 4, 5, 6, 7, 8, 9, 10, 11, 12, 13, 14, 15] [16, 17] rfl rfl rfl rfl (n_V (As := [.int r_1, .int r_2, .int r_3]) (rest := []) (C := RX5) (T := TX5) (N := 8) (ci := 3) S G (s_welcome l X hn an v b g r_1 r_2 r_3 hI_b H.size) gX6_takeRunner_X5_welcome rfl rfl rfl hdV_X5_welcome ⟨Nat.le_of_ble_eq_true rfl, Nat.le_of_ble_eq_true rfl⟩ [0, 1, 2, 3, 4, 5, 6, 7, 8, 9, 10, 11, 12, 13, 14, 15] rfl rfl 0 rfl rfl rfl hl.1 (Nat.le_of_ble_eq_true rfl) dX6_takeRunner_35 ⟨Nat.le_of_ble_eq_true rfl, Nat.le_of_ble_eq_true rfl⟩) (fun u_7 H locs hp_7 G => ?_)
    obtain ⟨v_7a, b_7b, g_7c⟩ := u_7
    obtain ⟨hI_b_7b, hq_7⟩ := hp_7
    have hO_b_7b := hI_b_7b
    obtain ⟨hb0_b_7b, hb1_b_7b, hb2_b_7b, hb3_b_7b, hb4_b_7b⟩ := hO_b_7b
    have G : wd X (va_A (@HAppend.hAppend va_W va_W va_W _ (rdV X h0 hb n bd vd fd) (rcW X hn an v b g)) sz) (va_A (@HAppend.hAppend va_W va_W va_W _ (rdV X h0 hb n bd vd fd) (rcW X hn an v b g)) sz) s (@HAppend.hAppend va_W va_W va_W _ (rdV X h0 hb n b_4a v_4b fd) (rcW X hn an v_7a b_7b g_7c)) H locs := G
    exact e_void S zr zlk G (b_4a, v_4b, v_7a, b_7b, g_7c) [0, 1, 2, 3, 4, 5, 6, 7, 8, 9, 10, 11, 12, 13, 14, 15, 16, 17] rfl rfl (Or.inr rfl) (⟨hI_b_4a, hI_b_7b, ⟨by first | omega | (dsimp only; omega), by first | omega | (dsimp only; omega)⟩⟩) dX6_takeRunner_38
theorem in_X6_takeSpeed_X5 : ∀ w ∈ wsX50, w ∈ wsX6_takeSpeed := by decide +kernel
theorem lk_X6_takeSpeed_56 : Cond.fieldLink RX6 56 "EggSpoons$Race" "runners" "I" ∈ wsX6_takeSpeed := by decide +kernel
theorem lk_X6_takeSpeed_95 : Cond.fieldLink RX6 95 "EggSpoons$Race" "row" "[LEggSpoons$Runner;" ∈ wsX6_takeSpeed := by decide +kernel
theorem in_X6_takeSpeed_X8 : ∀ w ∈ wsX80, w ∈ wsX6_takeSpeed := by decide +kernel
theorem lk_X6_takeSpeed_99 : Cond.fieldLink RX6 99 "EggSpoons$Runner" "speed" "I" ∈ wsX6_takeSpeed := by decide +kernel
set_option maxHeartbeats 4000000 in
set_option maxRecDepth 100000 in
/-- takeSpeed -/
theorem s_takeSpeed (l : Launch) (X : EX) (h0 : Nat) (hb : Nat) (n : Nat) (bd : Nat → Nat) (vd : Nat → Int32) (fd : Nat → Int32) (hn : Nat) (an : Nat → Nat) (v : Nat → Int32) (b : Nat → Nat) (g : Nat → Nat → Int32) (hI_n : n ≤ 150) (hI_bd : InP bd) (hI_b : InR b) (hP : bd 0 ≤ n ∧ bd 1 ≤ bd 0) (sz : Nat) : Met l yX6_takeSpeed wsX6_takeSpeed ({ frames := 4, cells := 0, slots := 0, locals := 82 } : Room) (pE X [.ref h0, .ref hn] (@HAppend.hAppend va_W va_W va_W _ (rdV X h0 hb n bd vd fd) (rcW X hn an v b g)) sz) (qV (fun (u : (Nat → Nat) × (Nat → Int32) × (Nat → Int32)) => InP u.1 ∧ (u.1 0 ≤ n ∧ u.1 1 ≤ u.1 0)) X (fun (u : (Nat → Nat) × (Nat → Int32) × (Nat → Int32)) => @HAppend.hAppend va_W va_W va_W _ (rdV X h0 hb n u.1 u.2.1 fd) (rcW X hn an u.2.2 b g)) (@HAppend.hAppend va_W va_W va_W _ (rdV X h0 hb n bd vd fd) (rcW X hn an v b g)) sz) 0 0 (va_A (@HAppend.hAppend va_W va_W va_W _ (rdV X h0 hb n bd vd fd) (rcW X hn an v b g)) sz) := by
  refine mk_met (B := (va_A (@HAppend.hAppend va_W va_W va_W _ (rdV X h0 hb n bd vd fd) (rcW X hn an v b g)) sz)) (A := (va_A (@HAppend.hAppend va_W va_W va_W _ (rdV X h0 hb n bd vd fd) (rcW X hn an v b g)) sz)) (cc := cX6_takeSpeed) (maxL := 4) (ret := none) (by decide) rfl (Nat.le_of_ble_eq_true rfl) k_w k_a (fun p e s m below meth c S zr zlk znm zsz G ls hl => ?_)
  have S : CallFix p m c cX6_takeSpeed 4 s _ wsX6_takeSpeed RX6 := S
  have zx := S.1
  have zb := S.2.1
  have hl : lv_has ls 4 [(0, .ref h0), (1, .ref hn)] := hl
  have hO_bd := hI_bd
  obtain ⟨hd0_bd, hd1_bd⟩ := hO_bd
  have hO_b := hI_b
  obtain ⟨hb0_b, hb1_b, hb2_b, hb3_b, hb4_b⟩ := hO_b
  obtain ⟨hP0, hP1⟩ := hP
  refine lv_aload_n zx zb dX6_takeSpeed_0 rfl (lv_at hl 0 rfl) ?_
  refine lv_iconst (v := 0) zx zb dX6_takeSpeed_1 (by decide) ?_
  refine lv_aload_n zx zb dX6_takeSpeed_2 rfl (lv_at hl 1 rfl) ?_
  refine r_get (C := RX5) (T := TX5) (N := 8) (ci := 3) (v := .int (nI (b 0))) S in_X6_takeSpeed_X5 G 2 rfl rfl 2 (by decide) lk_X6_takeSpeed_56 rfl dX6_takeSpeed_3 ?_
  refine lv_iconst (v := 1) zx zb dX6_takeSpeed_6 (by decide) ?_
  refine r_isub (v := ((nI (b 0)) - 1)) S rfl dX6_takeSpeed_7 ?_
  refine b_wi (cells' := 0) (slots' := 0) (wr := rcW X hn an v b g) G rfl rfl [0, 1] [2, 3, 4, 5, 6, 7, 8, 9, 10, 11, 12, 13, 14, 15, 16, 17] rfl rfl rfl rfl (n_V (As := [.int 0, .int ((nI (b 0)) - 1)]) (rest := []) (C := RX6) (T := TX6) (N := 7) (ci := 4) S G (s_number l X h0 hb n bd vd fd 0 ((nI (b 0)) - 1) hI_n hI_bd ⟨by omega, by omega⟩ s.heap.size) gX6_takeSpeed_X6_number rfl rfl rfl hdV_X6_number ⟨Nat.le_of_ble_eq_true rfl, Nat.le_of_ble_eq_true rfl⟩ [0, 1] rfl rfl 0 rfl rfl rfl hl.1 (Nat.le_of_ble_eq_true rfl) dX6_takeSpeed_8 ⟨Nat.le_of_ble_eq_true rfl, Nat.le_of_ble_eq_true rfl⟩) (fun r_1 u_1 H locs hp_1 G => ?_)
  obtain ⟨b_1a, v_1b⟩ := u_1
  try dsimp only at hp_1
  obtain ⟨hI_b_1a, hq_1⟩ := hp_1
  have hO_b_1a := hI_b_1a
  obtain ⟨hd0_b_1a, hd1_b_1a⟩ := hO_b_1a
  have G : wd X (va_A (@HAppend.hAppend va_W va_W va_W _ (rdV X h0 hb n bd vd fd) (rcW X hn an v b g)) sz) (va_A (@HAppend.hAppend va_W va_W va_W _ (rdV X h0 hb n bd vd fd) (rcW X hn an v b g)) sz) s (@HAppend.hAppend va_W va_W va_W _ (rcW X hn an v b g) (rdV X h0 hb n b_1a v_1b fd)) H locs := G
  obtain ⟨hz0_1, hz1_1, hz2_1⟩ := hq_1
  refine lv_istore_n (lv' := [(2, .int r_1), (0, .ref h0), (1, .ref hn)]) zx zb dX6_takeSpeed_11 rfl hl (by decide) rfl (fun ls hl => ?_)
  refine lv_aload_n zx zb dX6_takeSpeed_12 rfl (lv_at hl 1 rfl) ?_
  refine lv_iconst (v := 0) zx zb dX6_takeSpeed_13 (by decide) ?_
  refine lv_bipush (v := 9) zx zb dX6_takeSpeed_14 (by decide) ?_
  refine b_wi (cells' := 0) (slots' := 0) (wr := rcW X hn an v b g) G rfl rfl [16, 17] [0, 1, 2, 3, 4, 5, 6, 7, 8, 9, 10, 11, 12, 13, 14, 15] rfl rfl rfl rfl (n_V (As := [.int 0, .int 9]) (rest := []) (C := RX6) (T := TX6) (N := 7) (ci := 4) S G (s_number l X h0 hb n b_1a v_1b fd 0 9 hI_n hI_b_1a ⟨by omega, by omega⟩ H.size) gX6_takeSpeed_X6_number rfl rfl rfl hdV_X6_number ⟨Nat.le_of_ble_eq_true rfl, Nat.le_of_ble_eq_true rfl⟩ [16, 17] rfl rfl 16 rfl rfl rfl hl.1 (Nat.le_of_ble_eq_true rfl) dX6_takeSpeed_16 ⟨Nat.le_of_ble_eq_true rfl, Nat.le_of_ble_eq_true rfl⟩) (fun r_2 u_2 H locs hp_2 G => ?_)
  obtain ⟨b_2a, v_2b⟩ := u_2
  try dsimp only at hp_2
  obtain ⟨hI_b_2a, hq_2⟩ := hp_2
  have hO_b_2a := hI_b_2a
  obtain ⟨hd0_b_2a, hd1_b_2a⟩ := hO_b_2a
  have G : wd X (va_A (@HAppend.hAppend va_W va_W va_W _ (rdV X h0 hb n bd vd fd) (rcW X hn an v b g)) sz) (va_A (@HAppend.hAppend va_W va_W va_W _ (rdV X h0 hb n bd vd fd) (rcW X hn an v b g)) sz) s (@HAppend.hAppend va_W va_W va_W _ (rcW X hn an v b g) (rdV X h0 hb n b_2a v_2b fd)) H locs := G
  obtain ⟨hz0_2, hz1_2, hz2_2⟩ := hq_2
  refine lv_istore_n (lv' := [(3, .int r_2), (2, .int r_1), (0, .ref h0), (1, .ref hn)]) zx zb dX6_takeSpeed_19 rfl hl (by decide) rfl (fun ls hl => ?_)
  refine lv_aload_n zx zb dX6_takeSpeed_20 rfl (lv_at hl 2 rfl) ?_
  refine b_wi (cells' := 0) (slots' := 0) (wr := rcW X hn an v b g) G rfl rfl [16, 17] [0, 1, 2, 3, 4, 5, 6, 7, 8, 9, 10, 11, 12, 13, 14, 15] rfl rfl rfl rfl (n_V (As := []) (rest := []) (C := RX6) (T := TX6) (N := 7) (ci := 4) S G (s_ended l X h0 hb n b_2a v_2b fd hI_n hI_b_2a ⟨by omega, by omega⟩ H.size) gX6_takeSpeed_X6_ended rfl rfl rfl hdV_X6_ended ⟨Nat.le_of_ble_eq_true rfl, Nat.le_of_ble_eq_true rfl⟩ [16, 17] rfl rfl 16 rfl rfl rfl hl.1 (Nat.le_of_ble_eq_true rfl) dX6_takeSpeed_21 ⟨Nat.le_of_ble_eq_true rfl, Nat.le_of_ble_eq_true rfl⟩) (fun r_3 u_3 H locs hp_3 G => ?_)
  obtain ⟨b_3a, v_3b⟩ := u_3
  try dsimp only at hp_3
  obtain ⟨hI_b_3a, hq_3⟩ := hp_3
  have hO_b_3a := hI_b_3a
  obtain ⟨hd0_b_3a, hd1_b_3a⟩ := hO_b_3a
  have G : wd X (va_A (@HAppend.hAppend va_W va_W va_W _ (rdV X h0 hb n bd vd fd) (rcW X hn an v b g)) sz) (va_A (@HAppend.hAppend va_W va_W va_W _ (rdV X h0 hb n bd vd fd) (rcW X hn an v b g)) sz) s (@HAppend.hAppend va_W va_W va_W _ (rcW X hn an v b g) (rdV X h0 hb n b_3a v_3b fd)) H locs := G
  obtain ⟨hz0_3, hz1_3, hz2_3⟩ := hq_3
  rcases hz2_3 with rfl | rfl
  · refine lv_if_eq (tgt := 49) zx zb dX6_takeSpeed_24 (by decide) (fun c_4 => ?_) (fun c_4 => absurd (by decide) c_4)
    exact e_void S zr zlk G (b_3a, v_3b, v) [16, 17, 0, 1, 2, 3, 4, 5, 6, 7, 8, 9, 10, 11, 12, 13, 14, 15] rfl rfl (Or.inr rfl) (⟨hI_b_3a, ⟨by first | omega | (dsimp only; omega), by first | omega | (dsimp only; omega)⟩⟩) dX6_takeSpeed_49
  · refine lv_if_eq (tgt := 49) zx zb dX6_takeSpeed_24 (by decide) (fun c_5 => absurd c_5 (by decide)) (fun c_5 => ?_)
    refine lv_iload_n zx zb dX6_takeSpeed_27 rfl (lv_at hl 1 rfl) ?_
    refine k_cutW (PP := fun Wx => ∀ (x_7 : Int32) (v_8 : Nat → Int32) (H : Heap) (locs : List Loc) (ls : Array Slot), wd X (va_A (@HAppend.hAppend va_W va_W va_W _ (rdV X h0 hb n bd vd fd) (rcW X hn an v b g)) sz) (va_A (@HAppend.hAppend va_W va_W va_W _ (rdV X h0 hb n bd vd fd) (rcW X hn an v b g)) sz) s (@HAppend.hAppend va_W va_W va_W _ (rcW X hn an v_8 b g) (rdV X h0 hb n b_3a v_3b fd)) H locs → lv_has ls 4 [(3, .int r_2), (2, .int x_7), (0, .ref h0), (1, .ref hn)] → Wx (F0 m 49 ls []) H locs) ?_ ?_
    · intro join_28
      refine lv_if_lt (tgt := 49) zx zb dX6_takeSpeed_28 (by decide) (fun c_6 => ?_) (fun c_6 => ?_)
      · exact join_28 r_1 v _ _ _  G hl
      · refine lv_iload_n zx zb dX6_takeSpeed_31 rfl (lv_at hl 1 rfl) ?_
        refine lv_aload_n zx zb dX6_takeSpeed_32 rfl (lv_at hl 3 rfl) ?_
        refine r_get (C := RX5) (T := TX5) (N := 8) (ci := 3) (v := .int (nI (b 0))) S in_X6_takeSpeed_X5 G 0 rfl rfl 2 (by decide) lk_X6_takeSpeed_56 rfl dX6_takeSpeed_33 ?_
        refine lv_icmp_ge (tgt := 49) zx zb dX6_takeSpeed_36 (by decide) (fun c_9 => ?_) (fun c_9 => ?_)
        · exact join_28 r_1 v _ _ _  G hl
        · obtain ⟨jx, hjx, ejx⟩ := k_ix (by omega) c_6 c_9
          subst ejx
          have hl : lv_has ls 4 [(3, .int r_2), (2, .int (nI jx)), (0, .ref h0), (1, .ref hn)] := hl
          refine lv_aload_n zx zb dX6_takeSpeed_39 rfl (lv_at hl 3 rfl) ?_
          refine r_get (C := RX5) (T := TX5) (N := 8) (ci := 3) (v := .ref (an 0)) S in_X6_takeSpeed_X5 G 0 rfl rfl 3 (by decide) lk_X6_takeSpeed_95 rfl dX6_takeSpeed_40 ?_
          refine lv_iload_n zx zb dX6_takeSpeed_43 rfl (lv_at hl 1 rfl) ?_
          rcases k_6c (show jx < 6 by omega) with rfl | rfl | rfl | rfl | rfl | rfl
          · refine k_it (v := 0) rfl ?_
            refine r_aald (C := RX8) (b := (an 1)) S G 1 3 rfl rfl (k_vp (by decide)) rfl dX6_takeSpeed_44 ?_
            refine lv_iload_n zx zb dX6_takeSpeed_45 rfl (lv_at hl 0 rfl) ?_
            refine r_put (C := RX8) (T := TX8) (N := 8) (ci := 6) (v := .int r_2) S in_X6_takeSpeed_X8 tyX8_ok nmX8 G 2 rfl rfl 3 (by decide) lk_X6_takeSpeed_99 rfl (vp_nar_int _) rfl (Nat.le_of_ble_eq_true rfl) dX6_takeSpeed_46 (fun H locs G => ?_)
            obtain ⟨v_10, G⟩ : ∃ v_10 : Nat → Int32, wd X (va_A (@HAppend.hAppend va_W va_W va_W _ (rdV X h0 hb n bd vd fd) (rcW X hn an v b g)) sz) (va_A (@HAppend.hAppend va_W va_W va_W _ (rdV X h0 hb n bd vd fd) (rcW X hn an v b g)) sz) s (@HAppend.hAppend va_W va_W va_W _ (rcW X hn an v_10 b g) (rdV X h0 hb n b_3a v_3b fd)) H locs := ⟨upd v 13 r_2, G⟩
            exact join_28 0 v_10 _ _ _  G hl
          · refine k_it (v := 1) rfl ?_
            refine r_aald (C := RX8) (b := (an 2)) S G 1 3 rfl rfl (k_vp (by decide)) rfl dX6_takeSpeed_44 ?_
            refine lv_iload_n zx zb dX6_takeSpeed_45 rfl (lv_at hl 0 rfl) ?_
            refine r_put (C := RX8) (T := TX8) (N := 8) (ci := 6) (v := .int r_2) S in_X6_takeSpeed_X8 tyX8_ok nmX8 G 3 rfl rfl 3 (by decide) lk_X6_takeSpeed_99 rfl (vp_nar_int _) rfl (Nat.le_of_ble_eq_true rfl) dX6_takeSpeed_46 (fun H locs G => ?_)
            obtain ⟨v_11, G⟩ : ∃ v_11 : Nat → Int32, wd X (va_A (@HAppend.hAppend va_W va_W va_W _ (rdV X h0 hb n bd vd fd) (rcW X hn an v b g)) sz) (va_A (@HAppend.hAppend va_W va_W va_W _ (rdV X h0 hb n bd vd fd) (rcW X hn an v b g)) sz) s (@HAppend.hAppend va_W va_W va_W _ (rcW X hn an v_11 b g) (rdV X h0 hb n b_3a v_3b fd)) H locs := ⟨upd v 21 r_2, G⟩
            exact join_28 1 v_11 _ _ _  G hl
          · refine k_it (v := 2) rfl ?_
            refine r_aald (C := RX8) (b := (an 3)) S G 1 3 rfl rfl (k_vp (by decide)) rfl dX6_takeSpeed_44 ?_
            refine lv_iload_n zx zb dX6_takeSpeed_45 rfl (lv_at hl 0 rfl) ?_
            refine r_put (C := RX8) (T := TX8) (N := 8) (ci := 6) (v := .int r_2) S in_X6_takeSpeed_X8 tyX8_ok nmX8 G 4 rfl rfl 3 (by decide) lk_X6_takeSpeed_99 rfl (vp_nar_int _) rfl (Nat.le_of_ble_eq_true rfl) dX6_takeSpeed_46 (fun H locs G => ?_)
            obtain ⟨v_12, G⟩ : ∃ v_12 : Nat → Int32, wd X (va_A (@HAppend.hAppend va_W va_W va_W _ (rdV X h0 hb n bd vd fd) (rcW X hn an v b g)) sz) (va_A (@HAppend.hAppend va_W va_W va_W _ (rdV X h0 hb n bd vd fd) (rcW X hn an v b g)) sz) s (@HAppend.hAppend va_W va_W va_W _ (rcW X hn an v_12 b g) (rdV X h0 hb n b_3a v_3b fd)) H locs := ⟨upd v 29 r_2, G⟩
            exact join_28 2 v_12 _ _ _  G hl
          · refine k_it (v := 3) rfl ?_
            refine r_aald (C := RX8) (b := (an 4)) S G 1 3 rfl rfl (k_vp (by decide)) rfl dX6_takeSpeed_44 ?_
            refine lv_iload_n zx zb dX6_takeSpeed_45 rfl (lv_at hl 0 rfl) ?_
            refine r_put (C := RX8) (T := TX8) (N := 8) (ci := 6) (v := .int r_2) S in_X6_takeSpeed_X8 tyX8_ok nmX8 G 5 rfl rfl 3 (by decide) lk_X6_takeSpeed_99 rfl (vp_nar_int _) rfl (Nat.le_of_ble_eq_true rfl) dX6_takeSpeed_46 (fun H locs G => ?_)
            obtain ⟨v_13, G⟩ : ∃ v_13 : Nat → Int32, wd X (va_A (@HAppend.hAppend va_W va_W va_W _ (rdV X h0 hb n bd vd fd) (rcW X hn an v b g)) sz) (va_A (@HAppend.hAppend va_W va_W va_W _ (rdV X h0 hb n bd vd fd) (rcW X hn an v b g)) sz) s (@HAppend.hAppend va_W va_W va_W _ (rcW X hn an v_13 b g) (rdV X h0 hb n b_3a v_3b fd)) H locs := ⟨upd v 37 r_2, G⟩
            exact join_28 3 v_13 _ _ _  G hl
          · refine k_it (v := 4) rfl ?_
            refine r_aald (C := RX8) (b := (an 5)) S G 1 3 rfl rfl (k_vp (by decide)) rfl dX6_takeSpeed_44 ?_
            refine lv_iload_n zx zb dX6_takeSpeed_45 rfl (lv_at hl 0 rfl) ?_
            refine r_put (C := RX8) (T := TX8) (N := 8) (ci := 6) (v := .int r_2) S in_X6_takeSpeed_X8 tyX8_ok nmX8 G 6 rfl rfl 3 (by decide) lk_X6_takeSpeed_99 rfl (vp_nar_int _) rfl (Nat.le_of_ble_eq_true rfl) dX6_takeSpeed_46 (fun H locs G => ?_)
            obtain ⟨v_14, G⟩ : ∃ v_14 : Nat → Int32, wd X (va_A (@HAppend.hAppend va_W va_W va_W _ (rdV X h0 hb n bd vd fd) (rcW X hn an v b g)) sz) (va_A (@HAppend.hAppend va_W va_W va_W _ (rdV X h0 hb n bd vd fd) (rcW X hn an v b g)) sz) s (@HAppend.hAppend va_W va_W va_W _ (rcW X hn an v_14 b g) (rdV X h0 hb n b_3a v_3b fd)) H locs := ⟨upd v 45 r_2, G⟩
            exact join_28 4 v_14 _ _ _  G hl
          · refine k_it (v := 5) rfl ?_
            refine r_aald (C := RX8) (b := (an 6)) S G 1 3 rfl rfl (k_vp (by decide)) rfl dX6_takeSpeed_44 ?_
            refine lv_iload_n zx zb dX6_takeSpeed_45 rfl (lv_at hl 0 rfl) ?_
            refine r_put (C := RX8) (T := TX8) (N := 8) (ci := 6) (v := .int r_2) S in_X6_takeSpeed_X8 tyX8_ok nmX8 G 7 rfl rfl 3 (by decide) lk_X6_takeSpeed_99 rfl (vp_nar_int _) rfl (Nat.le_of_ble_eq_true rfl) dX6_takeSpeed_46 (fun H locs G => ?_)
            obtain ⟨v_15, G⟩ : ∃ v_15 : Nat → Int32, wd X (va_A (@HAppend.hAppend va_W va_W va_W _ (rdV X h0 hb n bd vd fd) (rcW X hn an v b g)) sz) (va_A (@HAppend.hAppend va_W va_W va_W _ (rdV X h0 hb n bd vd fd) (rcW X hn an v b g)) sz) s (@HAppend.hAppend va_W va_W va_W _ (rcW X hn an v_15 b g) (rdV X h0 hb n b_3a v_3b fd)) H locs := ⟨upd v 53 r_2, G⟩
            exact join_28 5 v_15 _ _ _  G hl
    · intro x_7 v_8 H locs ls  G hl
      exact e_void S zr zlk G (b_3a, v_3b, v_8) [16, 17, 0, 1, 2, 3, 4, 5, 6, 7, 8, 9, 10, 11, 12, 13, 14, 15] rfl rfl (Or.inr rfl) (⟨hI_b_3a, ⟨by first | omega | (dsimp only; omega), by first | omega | (dsimp only; omega)⟩⟩) dX6_takeSpeed_49
theorem in_X6_takeStart_X5 : ∀ w ∈ wsX50, w ∈ wsX6_takeStart := by decide +kernel
theorem lk_X6_takeStart_56 : Cond.fieldLink RX6 56 "EggSpoons$Race" "runners" "I" ∈ wsX6_takeStart := by decide +kernel
theorem lk_X6_takeStart_106 : Cond.fieldLink RX6 106 "EggSpoons$Race" "length" "I" ∈ wsX6_takeStart := by decide +kernel
theorem mm_X6_takeStart_ml107 : Cond.methodLink RX6 107 Lib.Math.min.name ∈ wsX6_takeStart := by decide +kernel
theorem mm_X6_takeStart_msmin : Cond.static Lib.Math.min.name ∈ wsX6_takeStart := by decide +kernel
theorem mm_X6_takeStart_mi : Cond.initialized "java/lang/Math" ∈ wsX6_takeStart := by decide +kernel
theorem mm_X6_takeStart_mcmin : Cond.code Lib.Math.min.name Lib.Math.min.code 2 (some .int) ∈ wsX6_takeStart := by decide +kernel
theorem lk_X6_takeStart_95 : Cond.fieldLink RX6 95 "EggSpoons$Race" "row" "[LEggSpoons$Runner;" ∈ wsX6_takeStart := by decide +kernel
theorem in_X6_takeStart_X6 : ∀ w ∈ wsX60, w ∈ wsX6_takeStart := by decide +kernel
theorem lk_X6_takeStart_22 : Cond.fieldLink RX6 22 "EggSpoons$Reader" "tokenAt" "I" ∈ wsX6_takeStart := by decide +kernel
theorem lk_X6_takeStart_31 : Cond.fieldLink RX6 31 "EggSpoons$Reader" "fault" "I" ∈ wsX6_takeStart := by decide +kernel
theorem in_X6_takeStart_X8 : ∀ w ∈ wsX80, w ∈ wsX6_takeStart := by decide +kernel
theorem lk_X6_takeStart_112 : Cond.fieldLink RX6 112 "EggSpoons$Runner" "place" "I" ∈ wsX6_takeStart := by decide +kernel
set_option maxHeartbeats 4000000 in
set_option maxRecDepth 100000 in
/-- takeStart -/
theorem s_takeStart (l : Launch) (X : EX) (h0 : Nat) (hb : Nat) (n : Nat) (bd : Nat → Nat) (vd : Nat → Int32) (fd : Nat → Int32) (hn : Nat) (an : Nat → Nat) (v : Nat → Int32) (b : Nat → Nat) (g : Nat → Nat → Int32) (hI_n : n ≤ 150) (hI_bd : InP bd) (hI_b : InR b) (hP : bd 0 ≤ n ∧ bd 1 ≤ bd 0) (sz : Nat) : Met l yX6_takeStart wsX6_takeStart ({ frames := 4, cells := 0, slots := 0, locals := 82 } : Room) (pE X [.ref h0, .ref hn] (@HAppend.hAppend va_W va_W va_W _ (rdV X h0 hb n bd vd fd) (rcW X hn an v b g)) sz) (qV (fun (u : (Nat → Nat) × (Nat → Int32) × (Nat → Int32)) => InP u.1 ∧ (u.1 0 ≤ n ∧ u.1 1 ≤ u.1 0)) X (fun (u : (Nat → Nat) × (Nat → Int32) × (Nat → Int32)) => @HAppend.hAppend va_W va_W va_W _ (rdV X h0 hb n u.1 u.2.1 fd) (rcW X hn an u.2.2 b g)) (@HAppend.hAppend va_W va_W va_W _ (rdV X h0 hb n bd vd fd) (rcW X hn an v b g)) sz) 0 0 (va_A (@HAppend.hAppend va_W va_W va_W _ (rdV X h0 hb n bd vd fd) (rcW X hn an v b g)) sz) := by
  refine mk_met (B := (va_A (@HAppend.hAppend va_W va_W va_W _ (rdV X h0 hb n bd vd fd) (rcW X hn an v b g)) sz)) (A := (va_A (@HAppend.hAppend va_W va_W va_W _ (rdV X h0 hb n bd vd fd) (rcW X hn an v b g)) sz)) (cc := cX6_takeStart) (maxL := 5) (ret := none) (by decide) rfl (Nat.le_of_ble_eq_true rfl) k_w k_a (fun p e s m below meth c S zr zlk znm zsz G ls hl => ?_)
  have S : CallFix p m c cX6_takeStart 5 s _ wsX6_takeStart RX6 := S
  have zx := S.1
  have zb := S.2.1
  have hl : lv_has ls 5 [(0, .ref h0), (1, .ref hn)] := hl
  have hO_bd := hI_bd
  obtain ⟨hd0_bd, hd1_bd⟩ := hO_bd
  have hO_b := hI_b
  obtain ⟨hb0_b, hb1_b, hb2_b, hb3_b, hb4_b⟩ := hO_b
  obtain ⟨hP0, hP1⟩ := hP
  refine lv_aload_n zx zb dX6_takeStart_0 rfl (lv_at hl 0 rfl) ?_
  refine lv_iconst (v := 0) zx zb dX6_takeStart_1 (by decide) ?_
  refine lv_aload_n zx zb dX6_takeStart_2 rfl (lv_at hl 1 rfl) ?_
  refine r_get (C := RX5) (T := TX5) (N := 8) (ci := 3) (v := .int (nI (b 0))) S in_X6_takeStart_X5 G 2 rfl rfl 2 (by decide) lk_X6_takeStart_56 rfl dX6_takeStart_3 ?_
  refine lv_iconst (v := 1) zx zb dX6_takeStart_6 (by decide) ?_
  refine r_isub (v := ((nI (b 0)) - 1)) S rfl dX6_takeStart_7 ?_
  refine b_wi (cells' := 0) (slots' := 0) (wr := rcW X hn an v b g) G rfl rfl [0, 1] [2, 3, 4, 5, 6, 7, 8, 9, 10, 11, 12, 13, 14, 15, 16, 17] rfl rfl rfl rfl (n_V (As := [.int 0, .int ((nI (b 0)) - 1)]) (rest := []) (C := RX6) (T := TX6) (N := 7) (ci := 4) S G (s_number l X h0 hb n bd vd fd 0 ((nI (b 0)) - 1) hI_n hI_bd ⟨by omega, by omega⟩ s.heap.size) gX6_takeStart_X6_number rfl rfl rfl hdV_X6_number ⟨Nat.le_of_ble_eq_true rfl, Nat.le_of_ble_eq_true rfl⟩ [0, 1] rfl rfl 0 rfl rfl rfl hl.1 (Nat.le_of_ble_eq_true rfl) dX6_takeStart_8 ⟨Nat.le_of_ble_eq_true rfl, Nat.le_of_ble_eq_true rfl⟩) (fun r_1 u_1 H locs hp_1 G => ?_)
  obtain ⟨b_1a, v_1b⟩ := u_1
  try dsimp only at hp_1
  obtain ⟨hI_b_1a, hq_1⟩ := hp_1
  have hO_b_1a := hI_b_1a
  obtain ⟨hd0_b_1a, hd1_b_1a⟩ := hO_b_1a
  have G : wd X (va_A (@HAppend.hAppend va_W va_W va_W _ (rdV X h0 hb n bd vd fd) (rcW X hn an v b g)) sz) (va_A (@HAppend.hAppend va_W va_W va_W _ (rdV X h0 hb n bd vd fd) (rcW X hn an v b g)) sz) s (@HAppend.hAppend va_W va_W va_W _ (rcW X hn an v b g) (rdV X h0 hb n b_1a v_1b fd)) H locs := G
  obtain ⟨hz0_1, hz1_1, hz2_1⟩ := hq_1
  refine lv_istore_n (lv' := [(2, .int r_1), (0, .ref h0), (1, .ref hn)]) zx zb dX6_takeStart_11 rfl hl (by decide) rfl (fun ls hl => ?_)
  refine lv_iload_n zx zb dX6_takeStart_12 rfl (lv_at hl 0 rfl) ?_
  refine lv_if_lt (tgt := 28) zx zb dX6_takeStart_13 (by decide) (fun c_2 => ?_) (fun c_2 => ?_)
  · refine lv_iconst (v := 0) zx zb dX6_takeStart_28 (by decide) ?_
    refine lv_istore_n (lv' := [(3, .int 0), (2, .int r_1), (0, .ref h0), (1, .ref hn)]) zx zb dX6_takeStart_29 rfl hl (by decide) rfl (fun ls hl => ?_)
    refine lv_iload_n zx zb dX6_takeStart_30 rfl (lv_at hl 0 rfl) ?_
    refine lv_if_eq (tgt := 54) zx zb dX6_takeStart_31 (by decide) (fun c_3 => ?_) (fun c_3 => absurd (by decide) c_3)
    refine lv_aload_n zx zb dX6_takeStart_54 rfl (lv_at hl 2 rfl) ?_
    refine lv_iconst (v := 0) zx zb dX6_takeStart_55 (by decide) ?_
    refine lv_bipush (v := 30) zx zb dX6_takeStart_56 (by decide) ?_
    refine lv_aload_n zx zb dX6_takeStart_58 rfl (lv_at hl 3 rfl) ?_
    refine r_get (C := RX5) (T := TX5) (N := 8) (ci := 3) (v := .int (v 0)) S in_X6_takeStart_X5 G 0 rfl rfl 0 (by decide) lk_X6_takeStart_106 rfl dX6_takeStart_59 ?_
    refine lv_iconst (v := 1) zx zb dX6_takeStart_62 (by decide) ?_
    refine r_isub (v := ((v 0) - 1)) S rfl dX6_takeStart_63 ?_
    refine r_mminE S hl.1 mm_X6_takeStart_ml107 mm_X6_takeStart_msmin mm_X6_takeStart_mi mm_X6_takeStart_mcmin (Nat.le_of_ble_eq_true rfl) (Nat.le_of_ble_eq_true rfl) (Nat.zero_le _) (Nat.zero_le _) dX6_takeStart_64 (fun y_4 => ?_)
    refine b_wi (cells' := 0) (slots' := 0) (wr := rcW X hn an v b g) G rfl rfl [16, 17] [0, 1, 2, 3, 4, 5, 6, 7, 8, 9, 10, 11, 12, 13, 14, 15] rfl rfl rfl rfl (n_V (As := [.int 0, .int y_4]) (rest := []) (C := RX6) (T := TX6) (N := 7) (ci := 4) S G (s_number l X h0 hb n b_1a v_1b fd 0 y_4 hI_n hI_b_1a ⟨by omega, by omega⟩ H.size) gX6_takeStart_X6_number rfl rfl rfl hdV_X6_number ⟨Nat.le_of_ble_eq_true rfl, Nat.le_of_ble_eq_true rfl⟩ [16, 17] rfl rfl 16 rfl rfl rfl hl.1 (Nat.le_of_ble_eq_true rfl) dX6_takeStart_67 ⟨Nat.le_of_ble_eq_true rfl, Nat.le_of_ble_eq_true rfl⟩) (fun r_5 u_5 H locs hp_5 G => ?_)
    obtain ⟨b_5a, v_5b⟩ := u_5
    try dsimp only at hp_5
    obtain ⟨hI_b_5a, hq_5⟩ := hp_5
    have hO_b_5a := hI_b_5a
    obtain ⟨hd0_b_5a, hd1_b_5a⟩ := hO_b_5a
    have G : wd X (va_A (@HAppend.hAppend va_W va_W va_W _ (rdV X h0 hb n bd vd fd) (rcW X hn an v b g)) sz) (va_A (@HAppend.hAppend va_W va_W va_W _ (rdV X h0 hb n bd vd fd) (rcW X hn an v b g)) sz) s (@HAppend.hAppend va_W va_W va_W _ (rcW X hn an v b g) (rdV X h0 hb n b_5a v_5b fd)) H locs := G
    obtain ⟨hz0_5, hz1_5, hz2_5⟩ := hq_5
    refine lv_istore (lv' := [(4, .int r_5), (3, .int 0), (2, .int r_1), (0, .ref h0), (1, .ref hn)]) zx zb dX6_takeStart_70 hl (by decide) rfl (fun ls hl => ?_)
    refine lv_aload_n zx zb dX6_takeStart_72 rfl (lv_at hl 3 rfl) ?_
    refine b_wi (cells' := 0) (slots' := 0) (wr := rcW X hn an v b g) G rfl rfl [16, 17] [0, 1, 2, 3, 4, 5, 6, 7, 8, 9, 10, 11, 12, 13, 14, 15] rfl rfl rfl rfl (n_V (As := []) (rest := []) (C := RX6) (T := TX6) (N := 7) (ci := 4) S G (s_ended l X h0 hb n b_5a v_5b fd hI_n hI_b_5a ⟨by omega, by omega⟩ H.size) gX6_takeStart_X6_ended rfl rfl rfl hdV_X6_ended ⟨Nat.le_of_ble_eq_true rfl, Nat.le_of_ble_eq_true rfl⟩ [16, 17] rfl rfl 16 rfl rfl rfl hl.1 (Nat.le_of_ble_eq_true rfl) dX6_takeStart_73 ⟨Nat.le_of_ble_eq_true rfl, Nat.le_of_ble_eq_true rfl⟩) (fun r_6 u_6 H locs hp_6 G => ?_)
    obtain ⟨b_6a, v_6b⟩ := u_6
    try dsimp only at hp_6
    obtain ⟨hI_b_6a, hq_6⟩ := hp_6
    have hO_b_6a := hI_b_6a
    obtain ⟨hd0_b_6a, hd1_b_6a⟩ := hO_b_6a
    have G : wd X (va_A (@HAppend.hAppend va_W va_W va_W _ (rdV X h0 hb n bd vd fd) (rcW X hn an v b g)) sz) (va_A (@HAppend.hAppend va_W va_W va_W _ (rdV X h0 hb n bd vd fd) (rcW X hn an v b g)) sz) s (@HAppend.hAppend va_W va_W va_W _ (rcW X hn an v b g) (rdV X h0 hb n b_6a v_6b fd)) H locs := G
    obtain ⟨hz0_6, hz1_6, hz2_6⟩ := hq_6
    rcases hz2_6 with rfl | rfl
    · refine lv_if_eq (tgt := 94) zx zb dX6_takeStart_76 (by decide) (fun c_7 => ?_) (fun c_7 => absurd (by decide) c_7)
      exact e_void S zr zlk G (b_6a, v_6b, v) [16, 17, 0, 1, 2, 3, 4, 5, 6, 7, 8, 9, 10, 11, 12, 13, 14, 15] rfl rfl (Or.inr rfl) (⟨hI_b_6a, ⟨by first | omega | (dsimp only; omega), by first | omega | (dsimp only; omega)⟩⟩) dX6_takeStart_94
    · refine lv_if_eq (tgt := 94) zx zb dX6_takeStart_76 (by decide) (fun c_8 => absurd c_8 (by decide)) (fun c_8 => ?_)
      refine lv_iload_n zx zb dX6_takeStart_79 rfl (lv_at hl 1 rfl) ?_
      refine lv_if_eq (tgt := 94) zx zb dX6_takeStart_80 (by decide) (fun c_9 => ?_) (fun c_9 => absurd (by decide) c_9)
      exact e_void S zr zlk G (b_6a, v_6b, v) [16, 17, 0, 1, 2, 3, 4, 5, 6, 7, 8, 9, 10, 11, 12, 13, 14, 15] rfl rfl (Or.inr rfl) (⟨hI_b_6a, ⟨by first | omega | (dsimp only; omega), by first | omega | (dsimp only; omega)⟩⟩) dX6_takeStart_94
  · refine lv_iload_n zx zb dX6_takeStart_16 rfl (lv_at hl 0 rfl) ?_
    refine lv_aload_n zx zb dX6_takeStart_17 rfl (lv_at hl 2 rfl) ?_
    refine r_get (C := RX5) (T := TX5) (N := 8) (ci := 3) (v := .int (nI (b 0))) S in_X6_takeStart_X5 G 0 rfl rfl 2 (by decide) lk_X6_takeStart_56 rfl dX6_takeStart_18 ?_
    refine lv_icmp_ge (tgt := 28) zx zb dX6_takeStart_21 (by decide) (fun c_10 => ?_) (fun c_10 => ?_)
    · refine lv_iconst (v := 0) zx zb dX6_takeStart_28 (by decide) ?_
      refine lv_istore_n (lv' := [(3, .int 0), (2, .int r_1), (0, .ref h0), (1, .ref hn)]) zx zb dX6_takeStart_29 rfl hl (by decide) rfl (fun ls hl => ?_)
      refine lv_iload_n zx zb dX6_takeStart_30 rfl (lv_at hl 0 rfl) ?_
      refine lv_if_eq (tgt := 54) zx zb dX6_takeStart_31 (by decide) (fun c_11 => ?_) (fun c_11 => absurd (by decide) c_11)
      refine lv_aload_n zx zb dX6_takeStart_54 rfl (lv_at hl 2 rfl) ?_
      refine lv_iconst (v := 0) zx zb dX6_takeStart_55 (by decide) ?_
      refine lv_bipush (v := 30) zx zb dX6_takeStart_56 (by decide) ?_
      refine lv_aload_n zx zb dX6_takeStart_58 rfl (lv_at hl 3 rfl) ?_
      refine r_get (C := RX5) (T := TX5) (N := 8) (ci := 3) (v := .int (v 0)) S in_X6_takeStart_X5 G 0 rfl rfl 0 (by decide) lk_X6_takeStart_106 rfl dX6_takeStart_59 ?_
      refine lv_iconst (v := 1) zx zb dX6_takeStart_62 (by decide) ?_
      refine r_isub (v := ((v 0) - 1)) S rfl dX6_takeStart_63 ?_
      refine r_mminE S hl.1 mm_X6_takeStart_ml107 mm_X6_takeStart_msmin mm_X6_takeStart_mi mm_X6_takeStart_mcmin (Nat.le_of_ble_eq_true rfl) (Nat.le_of_ble_eq_true rfl) (Nat.zero_le _) (Nat.zero_le _) dX6_takeStart_64 (fun y_12 => ?_)
      refine b_wi (cells' := 0) (slots' := 0) (wr := rcW X hn an v b g) G rfl rfl [16, 17] [0, 1, 2, 3, 4, 5, 6, 7, 8, 9, 10, 11, 12, 13, 14, 15] rfl rfl rfl rfl (n_V (As := [.int 0, .int y_12]) (rest := []) (C := RX6) (T := TX6) (N := 7) (ci := 4) S G (s_number l X h0 hb n b_1a v_1b fd 0 y_12 hI_n hI_b_1a ⟨by omega, by omega⟩ H.size) gX6_takeStart_X6_number rfl rfl rfl hdV_X6_number ⟨Nat.le_of_ble_eq_true rfl, Nat.le_of_ble_eq_true rfl⟩ [16, 17] rfl rfl 16 rfl rfl rfl hl.1 (Nat.le_of_ble_eq_true rfl) dX6_takeStart_67 ⟨Nat.le_of_ble_eq_true rfl, Nat.le_of_ble_eq_true rfl⟩) (fun r_13 u_13 H locs hp_13 G => ?_)
      obtain ⟨b_13a, v_13b⟩ := u_13
      try dsimp only at hp_13
      obtain ⟨hI_b_13a, hq_13⟩ := hp_13
      have hO_b_13a := hI_b_13a
      obtain ⟨hd0_b_13a, hd1_b_13a⟩ := hO_b_13a
      have G : wd X (va_A (@HAppend.hAppend va_W va_W va_W _ (rdV X h0 hb n bd vd fd) (rcW X hn an v b g)) sz) (va_A (@HAppend.hAppend va_W va_W va_W _ (rdV X h0 hb n bd vd fd) (rcW X hn an v b g)) sz) s (@HAppend.hAppend va_W va_W va_W _ (rcW X hn an v b g) (rdV X h0 hb n b_13a v_13b fd)) H locs := G
      obtain ⟨hz0_13, hz1_13, hz2_13⟩ := hq_13
      refine lv_istore (lv' := [(4, .int r_13), (3, .int 0), (2, .int r_1), (0, .ref h0), (1, .ref hn)]) zx zb dX6_takeStart_70 hl (by decide) rfl (fun ls hl => ?_)
      refine lv_aload_n zx zb dX6_takeStart_72 rfl (lv_at hl 3 rfl) ?_
      refine b_wi (cells' := 0) (slots' := 0) (wr := rcW X hn an v b g) G rfl rfl [16, 17] [0, 1, 2, 3, 4, 5, 6, 7, 8, 9, 10, 11, 12, 13, 14, 15] rfl rfl rfl rfl (n_V (As := []) (rest := []) (C := RX6) (T := TX6) (N := 7) (ci := 4) S G (s_ended l X h0 hb n b_13a v_13b fd hI_n hI_b_13a ⟨by omega, by omega⟩ H.size) gX6_takeStart_X6_ended rfl rfl rfl hdV_X6_ended ⟨Nat.le_of_ble_eq_true rfl, Nat.le_of_ble_eq_true rfl⟩ [16, 17] rfl rfl 16 rfl rfl rfl hl.1 (Nat.le_of_ble_eq_true rfl) dX6_takeStart_73 ⟨Nat.le_of_ble_eq_true rfl, Nat.le_of_ble_eq_true rfl⟩) (fun r_14 u_14 H locs hp_14 G => ?_)
      obtain ⟨b_14a, v_14b⟩ := u_14
      try dsimp only at hp_14
      obtain ⟨hI_b_14a, hq_14⟩ := hp_14
      have hO_b_14a := hI_b_14a
      obtain ⟨hd0_b_14a, hd1_b_14a⟩ := hO_b_14a
      have G : wd X (va_A (@HAppend.hAppend va_W va_W va_W _ (rdV X h0 hb n bd vd fd) (rcW X hn an v b g)) sz) (va_A (@HAppend.hAppend va_W va_W va_W _ (rdV X h0 hb n bd vd fd) (rcW X hn an v b g)) sz) s (@HAppend.hAppend va_W va_W va_W _ (rcW X hn an v b g) (rdV X h0 hb n b_14a v_14b fd)) H locs := G
      obtain ⟨hz0_14, hz1_14, hz2_14⟩ := hq_14
      rcases hz2_14 with rfl | rfl
      · refine lv_if_eq (tgt := 94) zx zb dX6_takeStart_76 (by decide) (fun c_15 => ?_) (fun c_15 => absurd (by decide) c_15)
        exact e_void S zr zlk G (b_14a, v_14b, v) [16, 17, 0, 1, 2, 3, 4, 5, 6, 7, 8, 9, 10, 11, 12, 13, 14, 15] rfl rfl (Or.inr rfl) (⟨hI_b_14a, ⟨by first | omega | (dsimp only; omega), by first | omega | (dsimp only; omega)⟩⟩) dX6_takeStart_94
      · refine lv_if_eq (tgt := 94) zx zb dX6_takeStart_76 (by decide) (fun c_16 => absurd c_16 (by decide)) (fun c_16 => ?_)
        refine lv_iload_n zx zb dX6_takeStart_79 rfl (lv_at hl 1 rfl) ?_
        refine lv_if_eq (tgt := 94) zx zb dX6_takeStart_80 (by decide) (fun c_17 => ?_) (fun c_17 => absurd (by decide) c_17)
        exact e_void S zr zlk G (b_14a, v_14b, v) [16, 17, 0, 1, 2, 3, 4, 5, 6, 7, 8, 9, 10, 11, 12, 13, 14, 15] rfl rfl (Or.inr rfl) (⟨hI_b_14a, ⟨by first | omega | (dsimp only; omega), by first | omega | (dsimp only; omega)⟩⟩) dX6_takeStart_94
    · obtain ⟨jx, hjx, ejx⟩ := k_ix (by omega) c_2 c_10
      subst ejx
      have hl : lv_has ls 5 [(2, .int (nI jx)), (0, .ref h0), (1, .ref hn)] := hl
      refine lv_iconst (v := 1) zx zb dX6_takeStart_24 (by decide) ?_
      refine lv_goto (tgt := 29) zx zb dX6_takeStart_25 (by decide) ?_
      refine lv_istore_n (lv' := [(3, .int 1), (2, .int (nI jx)), (0, .ref h0), (1, .ref hn)]) zx zb dX6_takeStart_29 rfl hl (by decide) rfl (fun ls hl => ?_)
      refine lv_iload_n zx zb dX6_takeStart_30 rfl (lv_at hl 0 rfl) ?_
      refine lv_if_eq (tgt := 54) zx zb dX6_takeStart_31 (by decide) (fun c_18 => absurd c_18 (by decide)) (fun c_18 => ?_)
      refine lv_aload_n zx zb dX6_takeStart_34 rfl (lv_at hl 3 rfl) ?_
      refine r_get (C := RX5) (T := TX5) (N := 8) (ci := 3) (v := .ref (an 0)) S in_X6_takeStart_X5 G 0 rfl rfl 3 (by decide) lk_X6_takeStart_95 rfl dX6_takeStart_35 ?_
      refine lv_iload_n zx zb dX6_takeStart_38 rfl (lv_at hl 1 rfl) ?_
      refine k_cutW (PP := fun Wx => ∀ (x_19 : Int32) (H : Heap) (locs : List Loc) (ls : Array Slot), (x_19 = 0 ∨ x_19 = 1) → wd X (va_A (@HAppend.hAppend va_W va_W va_W _ (rdV X h0 hb n bd vd fd) (rcW X hn an v b g)) sz) (va_A (@HAppend.hAppend va_W va_W va_W _ (rdV X h0 hb n bd vd fd) (rcW X hn an v b g)) sz) s (@HAppend.hAppend va_W va_W va_W _ (rcW X hn an v b g) (rdV X h0 hb n b_1a v_1b fd)) H locs → lv_has ls 5 [(3, .int 1), (2, .int (nI jx)), (0, .ref h0), (1, .ref hn)] → Wx (F0 m 43 ls [.int x_19]) H locs) ?_ ?_
      · intro join_39
        rcases k_6c (show jx < 6 by omega) with q_20 | q_20 | q_20 | q_20 | q_20 | q_20
        · refine k_it (v := 0) (by rw [q_20]; rfl) ?_
          refine r_aald (C := RX8) (b := (an 1)) S G 1 3 rfl rfl (k_vp (by decide)) rfl dX6_takeStart_39 ?_
          refine o_ri (cells' := 0) (slots' := 0) G rfl rfl (n_V (As := []) (rest := []) (C := RX8) (T := TX8) (N := 8) (ci := 6) S G (s_isHome l X (an 1) (fun k => v (10 + k)) H.size) gX6_takeStart_X8_isHome rfl rfl rfl hdV_X8_isHome ⟨Nat.le_of_ble_eq_true rfl, Nat.le_of_ble_eq_true rfl⟩ [2] rfl rfl 2 rfl rfl rfl hl.1 (Nat.le_of_ble_eq_true rfl) dX6_takeStart_40 ⟨Nat.le_of_ble_eq_true rfl, Nat.le_of_ble_eq_true rfl⟩) (fun r_21 u_21 H locs hp_21 G => ?_)
          have G : wd X (va_A (@HAppend.hAppend va_W va_W va_W _ (rdV X h0 hb n bd vd fd) (rcW X hn an v b g)) sz) (va_A (@HAppend.hAppend va_W va_W va_W _ (rdV X h0 hb n bd vd fd) (rcW X hn an v b g)) sz) s (@HAppend.hAppend va_W va_W va_W _ (rcW X hn an v b g) (rdV X h0 hb n b_1a v_1b fd)) H locs := G
          exact join_39 r_21 _ _ _ (by first | assumption | exact Or.inl rfl | exact Or.inr rfl) G hl
        · refine k_it (v := 1) (by rw [q_20]; rfl) ?_
          refine r_aald (C := RX8) (b := (an 2)) S G 1 3 rfl rfl (k_vp (by decide)) rfl dX6_takeStart_39 ?_
          refine o_ri (cells' := 0) (slots' := 0) G rfl rfl (n_V (As := []) (rest := []) (C := RX8) (T := TX8) (N := 8) (ci := 6) S G (s_isHome l X (an 2) (fun k => v (18 + k)) H.size) gX6_takeStart_X8_isHome rfl rfl rfl hdV_X8_isHome ⟨Nat.le_of_ble_eq_true rfl, Nat.le_of_ble_eq_true rfl⟩ [3] rfl rfl 3 rfl rfl rfl hl.1 (Nat.le_of_ble_eq_true rfl) dX6_takeStart_40 ⟨Nat.le_of_ble_eq_true rfl, Nat.le_of_ble_eq_true rfl⟩) (fun r_22 u_22 H locs hp_22 G => ?_)
          have G : wd X (va_A (@HAppend.hAppend va_W va_W va_W _ (rdV X h0 hb n bd vd fd) (rcW X hn an v b g)) sz) (va_A (@HAppend.hAppend va_W va_W va_W _ (rdV X h0 hb n bd vd fd) (rcW X hn an v b g)) sz) s (@HAppend.hAppend va_W va_W va_W _ (rcW X hn an v b g) (rdV X h0 hb n b_1a v_1b fd)) H locs := G
          exact join_39 r_22 _ _ _ (by first | assumption | exact Or.inl rfl | exact Or.inr rfl) G hl
        · refine k_it (v := 2) (by rw [q_20]; rfl) ?_
          refine r_aald (C := RX8) (b := (an 3)) S G 1 3 rfl rfl (k_vp (by decide)) rfl dX6_takeStart_39 ?_
          refine o_ri (cells' := 0) (slots' := 0) G rfl rfl (n_V (As := []) (rest := []) (C := RX8) (T := TX8) (N := 8) (ci := 6) S G (s_isHome l X (an 3) (fun k => v (26 + k)) H.size) gX6_takeStart_X8_isHome rfl rfl rfl hdV_X8_isHome ⟨Nat.le_of_ble_eq_true rfl, Nat.le_of_ble_eq_true rfl⟩ [4] rfl rfl 4 rfl rfl rfl hl.1 (Nat.le_of_ble_eq_true rfl) dX6_takeStart_40 ⟨Nat.le_of_ble_eq_true rfl, Nat.le_of_ble_eq_true rfl⟩) (fun r_23 u_23 H locs hp_23 G => ?_)
          have G : wd X (va_A (@HAppend.hAppend va_W va_W va_W _ (rdV X h0 hb n bd vd fd) (rcW X hn an v b g)) sz) (va_A (@HAppend.hAppend va_W va_W va_W _ (rdV X h0 hb n bd vd fd) (rcW X hn an v b g)) sz) s (@HAppend.hAppend va_W va_W va_W _ (rcW X hn an v b g) (rdV X h0 hb n b_1a v_1b fd)) H locs := G
          exact join_39 r_23 _ _ _ (by first | assumption | exact Or.inl rfl | exact Or.inr rfl) G hl
        · refine k_it (v := 3) (by rw [q_20]; rfl) ?_
          refine r_aald (C := RX8) (b := (an 4)) S G 1 3 rfl rfl (k_vp (by decide)) rfl dX6_takeStart_39 ?_
          refine o_ri (cells' := 0) (slots' := 0) G rfl rfl (n_V (As := []) (rest := []) (C := RX8) (T := TX8) (N := 8) (ci := 6) S G (s_isHome l X (an 4) (fun k => v (34 + k)) H.size) gX6_takeStart_X8_isHome rfl rfl rfl hdV_X8_isHome ⟨Nat.le_of_ble_eq_true rfl, Nat.le_of_ble_eq_true rfl⟩ [5] rfl rfl 5 rfl rfl rfl hl.1 (Nat.le_of_ble_eq_true rfl) dX6_takeStart_40 ⟨Nat.le_of_ble_eq_true rfl, Nat.le_of_ble_eq_true rfl⟩) (fun r_24 u_24 H locs hp_24 G => ?_)
          have G : wd X (va_A (@HAppend.hAppend va_W va_W va_W _ (rdV X h0 hb n bd vd fd) (rcW X hn an v b g)) sz) (va_A (@HAppend.hAppend va_W va_W va_W _ (rdV X h0 hb n bd vd fd) (rcW X hn an v b g)) sz) s (@HAppend.hAppend va_W va_W va_W _ (rcW X hn an v b g) (rdV X h0 hb n b_1a v_1b fd)) H locs := G
          exact join_39 r_24 _ _ _ (by first | assumption | exact Or.inl rfl | exact Or.inr rfl) G hl
        · refine k_it (v := 4) (by rw [q_20]; rfl) ?_
          refine r_aald (C := RX8) (b := (an 5)) S G 1 3 rfl rfl (k_vp (by decide)) rfl dX6_takeStart_39 ?_
          refine o_ri (cells' := 0) (slots' := 0) G rfl rfl (n_V (As := []) (rest := []) (C := RX8) (T := TX8) (N := 8) (ci := 6) S G (s_isHome l X (an 5) (fun k => v (42 + k)) H.size) gX6_takeStart_X8_isHome rfl rfl rfl hdV_X8_isHome ⟨Nat.le_of_ble_eq_true rfl, Nat.le_of_ble_eq_true rfl⟩ [6] rfl rfl 6 rfl rfl rfl hl.1 (Nat.le_of_ble_eq_true rfl) dX6_takeStart_40 ⟨Nat.le_of_ble_eq_true rfl, Nat.le_of_ble_eq_true rfl⟩) (fun r_25 u_25 H locs hp_25 G => ?_)
          have G : wd X (va_A (@HAppend.hAppend va_W va_W va_W _ (rdV X h0 hb n bd vd fd) (rcW X hn an v b g)) sz) (va_A (@HAppend.hAppend va_W va_W va_W _ (rdV X h0 hb n bd vd fd) (rcW X hn an v b g)) sz) s (@HAppend.hAppend va_W va_W va_W _ (rcW X hn an v b g) (rdV X h0 hb n b_1a v_1b fd)) H locs := G
          exact join_39 r_25 _ _ _ (by first | assumption | exact Or.inl rfl | exact Or.inr rfl) G hl
        · refine k_it (v := 5) (by rw [q_20]; rfl) ?_
          refine r_aald (C := RX8) (b := (an 6)) S G 1 3 rfl rfl (k_vp (by decide)) rfl dX6_takeStart_39 ?_
          refine o_ri (cells' := 0) (slots' := 0) G rfl rfl (n_V (As := []) (rest := []) (C := RX8) (T := TX8) (N := 8) (ci := 6) S G (s_isHome l X (an 6) (fun k => v (50 + k)) H.size) gX6_takeStart_X8_isHome rfl rfl rfl hdV_X8_isHome ⟨Nat.le_of_ble_eq_true rfl, Nat.le_of_ble_eq_true rfl⟩ [7] rfl rfl 7 rfl rfl rfl hl.1 (Nat.le_of_ble_eq_true rfl) dX6_takeStart_40 ⟨Nat.le_of_ble_eq_true rfl, Nat.le_of_ble_eq_true rfl⟩) (fun r_26 u_26 H locs hp_26 G => ?_)
          have G : wd X (va_A (@HAppend.hAppend va_W va_W va_W _ (rdV X h0 hb n bd vd fd) (rcW X hn an v b g)) sz) (va_A (@HAppend.hAppend va_W va_W va_W _ (rdV X h0 hb n bd vd fd) (rcW X hn an v b g)) sz) s (@HAppend.hAppend va_W va_W va_W _ (rcW X hn an v b g) (rdV X h0 hb n b_1a v_1b fd)) H locs := G
          exact join_39 r_26 _ _ _ (by first | assumption | exact Or.inl rfl | exact Or.inr rfl) G hl
      · intro x_19 H locs ls hk_x_19 G hl
        refine k_cutW (PP := fun Wx => ∀ (v_28 : Nat → Int32) (H : Heap) (locs : List Loc) (ls : Array Slot), wd X (va_A (@HAppend.hAppend va_W va_W va_W _ (rdV X h0 hb n bd vd fd) (rcW X hn an v b g)) sz) (va_A (@HAppend.hAppend va_W va_W va_W _ (rdV X h0 hb n bd vd fd) (rcW X hn an v b g)) sz) s (@HAppend.hAppend va_W va_W va_W _ (rcW X hn an v b g) (rdV X h0 hb n b_1a v_28 fd)) H locs → lv_has ls 5 [(3, .int 1), (2, .int (nI jx)), (0, .ref h0), (1, .ref hn)] → Wx (F0 m 54 ls []) H locs) ?_ ?_
        · intro join_43
          refine lv_if_eq (tgt := 54) zx zb dX6_takeStart_43 (by decide) (fun c_27 => ?_) (fun c_27 => ?_)
          · exact join_43 v_1b _ _ _  G hl
          · refine lv_aload_n zx zb dX6_takeStart_46 rfl (lv_at hl 2 rfl) ?_
            refine lv_aload_n zx zb dX6_takeStart_47 rfl (lv_at hl 2 rfl) ?_
            refine r_get (C := RX6) (T := TX6) (N := 7) (ci := 4) (v := .int (nI (b_1a 1))) S in_X6_takeStart_X6 G 16 rfl rfl 3 (by decide) lk_X6_takeStart_22 rfl dX6_takeStart_48 ?_
            refine r_put (C := RX6) (T := TX6) (N := 7) (ci := 4) (v := .int (nI (b_1a 1))) S in_X6_takeStart_X6 tyX6_ok nmX6 G 16 rfl rfl 6 (by decide) lk_X6_takeStart_31 rfl (vp_nar_int _) rfl (Nat.le_of_ble_eq_true rfl) dX6_takeStart_51 (fun H locs G => ?_)
            obtain ⟨v_29, ⟨hE_v_29_2, hE_v_29_0, hE_v_29_1⟩, G⟩ : ∃ v_29 : Nat → Int32, (v_29 2 = (nI (b_1a 1)) ∧ v_29 0 = v_1b 0 ∧ v_29 1 = v_1b 1) ∧ wd X (va_A (@HAppend.hAppend va_W va_W va_W _ (rdV X h0 hb n bd vd fd) (rcW X hn an v b g)) sz) (va_A (@HAppend.hAppend va_W va_W va_W _ (rdV X h0 hb n bd vd fd) (rcW X hn an v b g)) sz) s (@HAppend.hAppend va_W va_W va_W _ (rcW X hn an v b g) (rdV X h0 hb n b_1a v_29 fd)) H locs := ⟨upd v_1b 2 (nI (b_1a 1)), ⟨rfl, rfl, rfl⟩, G⟩
            exact join_43 v_29 _ _ _  G hl
        · intro v_28 H locs ls  G hl
          refine lv_aload_n zx zb dX6_takeStart_54 rfl (lv_at hl 2 rfl) ?_
          refine lv_iconst (v := 0) zx zb dX6_takeStart_55 (by decide) ?_
          refine lv_bipush (v := 30) zx zb dX6_takeStart_56 (by decide) ?_
          refine lv_aload_n zx zb dX6_takeStart_58 rfl (lv_at hl 3 rfl) ?_
          refine r_get (C := RX5) (T := TX5) (N := 8) (ci := 3) (v := .int (v 0)) S in_X6_takeStart_X5 G 0 rfl rfl 0 (by decide) lk_X6_takeStart_106 rfl dX6_takeStart_59 ?_
          refine lv_iconst (v := 1) zx zb dX6_takeStart_62 (by decide) ?_
          refine r_isub (v := ((v 0) - 1)) S rfl dX6_takeStart_63 ?_
          refine r_mminE S hl.1 mm_X6_takeStart_ml107 mm_X6_takeStart_msmin mm_X6_takeStart_mi mm_X6_takeStart_mcmin (Nat.le_of_ble_eq_true rfl) (Nat.le_of_ble_eq_true rfl) (Nat.zero_le _) (Nat.zero_le _) dX6_takeStart_64 (fun y_30 => ?_)
          refine b_wi (cells' := 0) (slots' := 0) (wr := rcW X hn an v b g) G rfl rfl [16, 17] [0, 1, 2, 3, 4, 5, 6, 7, 8, 9, 10, 11, 12, 13, 14, 15] rfl rfl rfl rfl (n_V (As := [.int 0, .int y_30]) (rest := []) (C := RX6) (T := TX6) (N := 7) (ci := 4) S G (s_number l X h0 hb n b_1a v_28 fd 0 y_30 hI_n hI_b_1a ⟨by omega, by omega⟩ H.size) gX6_takeStart_X6_number rfl rfl rfl hdV_X6_number ⟨Nat.le_of_ble_eq_true rfl, Nat.le_of_ble_eq_true rfl⟩ [16, 17] rfl rfl 16 rfl rfl rfl hl.1 (Nat.le_of_ble_eq_true rfl) dX6_takeStart_67 ⟨Nat.le_of_ble_eq_true rfl, Nat.le_of_ble_eq_true rfl⟩) (fun r_31 u_31 H locs hp_31 G => ?_)
          obtain ⟨b_31a, v_31b⟩ := u_31
          try dsimp only at hp_31
          obtain ⟨hI_b_31a, hq_31⟩ := hp_31
          have hO_b_31a := hI_b_31a
          obtain ⟨hd0_b_31a, hd1_b_31a⟩ := hO_b_31a
          have G : wd X (va_A (@HAppend.hAppend va_W va_W va_W _ (rdV X h0 hb n bd vd fd) (rcW X hn an v b g)) sz) (va_A (@HAppend.hAppend va_W va_W va_W _ (rdV X h0 hb n bd vd fd) (rcW X hn an v b g)) sz) s (@HAppend.hAppend va_W va_W va_W _ (rcW X hn an v b g) (rdV X h0 hb n b_31a v_31b fd)) H locs := G
          obtain ⟨hz0_31, hz1_31, hz2_31⟩ := hq_31
          refine lv_istore (lv' := [(4, .int r_31), (3, .int 1), (2, .int (nI jx)), (0, .ref h0), (1, .ref hn)]) zx zb dX6_takeStart_70 hl (by decide) rfl (fun ls hl => ?_)
          refine lv_aload_n zx zb dX6_takeStart_72 rfl (lv_at hl 3 rfl) ?_
          refine b_wi (cells' := 0) (slots' := 0) (wr := rcW X hn an v b g) G rfl rfl [16, 17] [0, 1, 2, 3, 4, 5, 6, 7, 8, 9, 10, 11, 12, 13, 14, 15] rfl rfl rfl rfl (n_V (As := []) (rest := []) (C := RX6) (T := TX6) (N := 7) (ci := 4) S G (s_ended l X h0 hb n b_31a v_31b fd hI_n hI_b_31a ⟨by omega, by omega⟩ H.size) gX6_takeStart_X6_ended rfl rfl rfl hdV_X6_ended ⟨Nat.le_of_ble_eq_true rfl, Nat.le_of_ble_eq_true rfl⟩ [16, 17] rfl rfl 16 rfl rfl rfl hl.1 (Nat.le_of_ble_eq_true rfl) dX6_takeStart_73 ⟨Nat.le_of_ble_eq_true rfl, Nat.le_of_ble_eq_true rfl⟩) (fun r_32 u_32 H locs hp_32 G => ?_)
          obtain ⟨b_32a, v_32b⟩ := u_32
          try dsimp only at hp_32
          obtain ⟨hI_b_32a, hq_32⟩ := hp_32
          have hO_b_32a := hI_b_32a
          obtain ⟨hd0_b_32a, hd1_b_32a⟩ := hO_b_32a
          have G : wd X (va_A (@HAppend.hAppend va_W va_W va_W _ (rdV X h0 hb n bd vd fd) (rcW X hn an v b g)) sz) (va_A (@HAppend.hAppend va_W va_W va_W _ (rdV X h0 hb n bd vd fd) (rcW X hn an v b g)) sz) s (@HAppend.hAppend va_W va_W va_W _ (rcW X hn an v b g) (rdV X h0 hb n b_32a v_32b fd)) H locs := G
          obtain ⟨hz0_32, hz1_32, hz2_32⟩ := hq_32
          rcases hz2_32 with rfl | rfl
          · refine lv_if_eq (tgt := 94) zx zb dX6_takeStart_76 (by decide) (fun c_33 => ?_) (fun c_33 => absurd (by decide) c_33)
            exact e_void S zr zlk G (b_32a, v_32b, v) [16, 17, 0, 1, 2, 3, 4, 5, 6, 7, 8, 9, 10, 11, 12, 13, 14, 15] rfl rfl (Or.inr rfl) (⟨hI_b_32a, ⟨by first | omega | (dsimp only; omega), by first | omega | (dsimp only; omega)⟩⟩) dX6_takeStart_94
          · refine lv_if_eq (tgt := 94) zx zb dX6_takeStart_76 (by decide) (fun c_34 => absurd c_34 (by decide)) (fun c_34 => ?_)
            refine lv_iload_n zx zb dX6_takeStart_79 rfl (lv_at hl 1 rfl) ?_
            refine lv_if_eq (tgt := 94) zx zb dX6_takeStart_80 (by decide) (fun c_35 => absurd c_35 (by decide)) (fun c_35 => ?_)
            refine lv_aload_n zx zb dX6_takeStart_83 rfl (lv_at hl 4 rfl) ?_
            refine r_get (C := RX5) (T := TX5) (N := 8) (ci := 3) (v := .ref (an 0)) S in_X6_takeStart_X5 G 0 rfl rfl 3 (by decide) lk_X6_takeStart_95 rfl dX6_takeStart_84 ?_
            refine lv_iload_n zx zb dX6_takeStart_87 rfl (lv_at hl 2 rfl) ?_
            rcases k_6c (show jx < 6 by omega) with rfl | rfl | rfl | rfl | rfl | rfl
            · refine k_it (v := 0) rfl ?_
              refine r_aald (C := RX8) (b := (an 1)) S G 1 3 rfl rfl (k_vp (by decide)) rfl dX6_takeStart_88 ?_
              refine lv_iload zx zb dX6_takeStart_89 (lv_at hl 0 rfl) ?_
              refine r_put (C := RX8) (T := TX8) (N := 8) (ci := 6) (v := .int r_31) S in_X6_takeStart_X8 tyX8_ok nmX8 G 2 rfl rfl 4 (by decide) lk_X6_takeStart_112 rfl (vp_nar_int _) rfl (Nat.le_of_ble_eq_true rfl) dX6_takeStart_91 (fun H locs G => ?_)
              obtain ⟨v_36, G⟩ : ∃ v_36 : Nat → Int32, wd X (va_A (@HAppend.hAppend va_W va_W va_W _ (rdV X h0 hb n bd vd fd) (rcW X hn an v b g)) sz) (va_A (@HAppend.hAppend va_W va_W va_W _ (rdV X h0 hb n bd vd fd) (rcW X hn an v b g)) sz) s (@HAppend.hAppend va_W va_W va_W _ (rcW X hn an v_36 b g) (rdV X h0 hb n b_32a v_32b fd)) H locs := ⟨upd v 14 r_31, G⟩
              exact e_void S zr zlk G (b_32a, v_32b, v_36) [16, 17, 0, 1, 2, 3, 4, 5, 6, 7, 8, 9, 10, 11, 12, 13, 14, 15] rfl rfl (Or.inr rfl) (⟨hI_b_32a, ⟨by first | omega | (dsimp only; omega), by first | omega | (dsimp only; omega)⟩⟩) dX6_takeStart_94
            · refine k_it (v := 1) rfl ?_
              refine r_aald (C := RX8) (b := (an 2)) S G 1 3 rfl rfl (k_vp (by decide)) rfl dX6_takeStart_88 ?_
              refine lv_iload zx zb dX6_takeStart_89 (lv_at hl 0 rfl) ?_
              refine r_put (C := RX8) (T := TX8) (N := 8) (ci := 6) (v := .int r_31) S in_X6_takeStart_X8 tyX8_ok nmX8 G 3 rfl rfl 4 (by decide) lk_X6_takeStart_112 rfl (vp_nar_int _) rfl (Nat.le_of_ble_eq_true rfl) dX6_takeStart_91 (fun H locs G => ?_)
              obtain ⟨v_37, G⟩ : ∃ v_37 : Nat → Int32, wd X (va_A (@HAppend.hAppend va_W va_W va_W _ (rdV X h0 hb n bd vd fd) (rcW X hn an v b g)) sz) (va_A (@HAppend.hAppend va_W va_W va_W _ (rdV X h0 hb n bd vd fd) (rcW X hn an v b g)) sz) s (@HAppend.hAppend va_W va_W va_W _ (rcW X hn an v_37 b g) (rdV X h0 hb n b_32a v_32b fd)) H locs := ⟨upd v 22 r_31, G⟩
              exact e_void S zr zlk G (b_32a, v_32b, v_37) [16, 17, 0, 1, 2, 3, 4, 5, 6, 7, 8, 9, 10, 11, 12, 13, 14, 15] rfl rfl (Or.inr rfl) (⟨hI_b_32a, ⟨by first | omega | (dsimp only; omega), by first | omega | (dsimp only; omega)⟩⟩) dX6_takeStart_94
            · refine k_it (v := 2) rfl ?_
              refine r_aald (C := RX8) (b := (an 3)) S G 1 3 rfl rfl (k_vp (by decide)) rfl dX6_takeStart_88 ?_
              refine lv_iload zx zb dX6_takeStart_89 (lv_at hl 0 rfl) ?_
              refine r_put (C := RX8) (T := TX8) (N := 8) (ci := 6) (v := .int r_31) S in_X6_takeStart_X8 tyX8_ok nmX8 G 4 rfl rfl 4 (by decide) lk_X6_takeStart_112 rfl (vp_nar_int _) rfl (Nat.le_of_ble_eq_true rfl) dX6_takeStart_91 (fun H locs G => ?_)
              obtain ⟨v_38, G⟩ : ∃ v_38 : Nat → Int32, wd X (va_A (@HAppend.hAppend va_W va_W va_W _ (rdV X h0 hb n bd vd fd) (rcW X hn an v b g)) sz) (va_A (@HAppend.hAppend va_W va_W va_W _ (rdV X h0 hb n bd vd fd) (rcW X hn an v b g)) sz) s (@HAppend.hAppend va_W va_W va_W _ (rcW X hn an v_38 b g) (rdV X h0 hb n b_32a v_32b fd)) H locs := ⟨upd v 30 r_31, G⟩
              exact e_void S zr zlk G (b_32a, v_32b, v_38) [16, 17, 0, 1, 2, 3, 4, 5, 6, 7, 8, 9, 10, 11, 12, 13, 14, 15] rfl rfl (Or.inr rfl) (⟨hI_b_32a, ⟨by first | omega | (dsimp only; omega), by first | omega | (dsimp only; omega)⟩⟩) dX6_takeStart_94
            · refine k_it (v := 3) rfl ?_
              refine r_aald (C := RX8) (b := (an 4)) S G 1 3 rfl rfl (k_vp (by decide)) rfl dX6_takeStart_88 ?_
              refine lv_iload zx zb dX6_takeStart_89 (lv_at hl 0 rfl) ?_
              refine r_put (C := RX8) (T := TX8) (N := 8) (ci := 6) (v := .int r_31) S in_X6_takeStart_X8 tyX8_ok nmX8 G 5 rfl rfl 4 (by decide) lk_X6_takeStart_112 rfl (vp_nar_int _) rfl (Nat.le_of_ble_eq_true rfl) dX6_takeStart_91 (fun H locs G => ?_)
              obtain ⟨v_39, G⟩ : ∃ v_39 : Nat → Int32, wd X (va_A (@HAppend.hAppend va_W va_W va_W _ (rdV X h0 hb n bd vd fd) (rcW X hn an v b g)) sz) (va_A (@HAppend.hAppend va_W va_W va_W _ (rdV X h0 hb n bd vd fd) (rcW X hn an v b g)) sz) s (@HAppend.hAppend va_W va_W va_W _ (rcW X hn an v_39 b g) (rdV X h0 hb n b_32a v_32b fd)) H locs := ⟨upd v 38 r_31, G⟩
              exact e_void S zr zlk G (b_32a, v_32b, v_39) [16, 17, 0, 1, 2, 3, 4, 5, 6, 7, 8, 9, 10, 11, 12, 13, 14, 15] rfl rfl (Or.inr rfl) (⟨hI_b_32a, ⟨by first | omega | (dsimp only; omega), by first | omega | (dsimp only; omega)⟩⟩) dX6_takeStart_94
            · refine k_it (v := 4) rfl ?_
              refine r_aald (C := RX8) (b := (an 5)) S G 1 3 rfl rfl (k_vp (by decide)) rfl dX6_takeStart_88 ?_
              refine lv_iload zx zb dX6_takeStart_89 (lv_at hl 0 rfl) ?_
              refine r_put (C := RX8) (T := TX8) (N := 8) (ci := 6) (v := .int r_31) S in_X6_takeStart_X8 tyX8_ok nmX8 G 6 rfl rfl 4 (by decide) lk_X6_takeStart_112 rfl (vp_nar_int _) rfl (Nat.le_of_ble_eq_true rfl) dX6_takeStart_91 (fun H locs G => ?_)
              obtain ⟨v_40, G⟩ : ∃ v_40 : Nat → Int32, wd X (va_A (@HAppend.hAppend va_W va_W va_W _ (rdV X h0 hb n bd vd fd) (rcW X hn an v b g)) sz) (va_A (@HAppend.hAppend va_W va_W va_W _ (rdV X h0 hb n bd vd fd) (rcW X hn an v b g)) sz) s (@HAppend.hAppend va_W va_W va_W _ (rcW X hn an v_40 b g) (rdV X h0 hb n b_32a v_32b fd)) H locs := ⟨upd v 46 r_31, G⟩
              exact e_void S zr zlk G (b_32a, v_32b, v_40) [16, 17, 0, 1, 2, 3, 4, 5, 6, 7, 8, 9, 10, 11, 12, 13, 14, 15] rfl rfl (Or.inr rfl) (⟨hI_b_32a, ⟨by first | omega | (dsimp only; omega), by first | omega | (dsimp only; omega)⟩⟩) dX6_takeStart_94
            · refine k_it (v := 5) rfl ?_
              refine r_aald (C := RX8) (b := (an 6)) S G 1 3 rfl rfl (k_vp (by decide)) rfl dX6_takeStart_88 ?_
              refine lv_iload zx zb dX6_takeStart_89 (lv_at hl 0 rfl) ?_
              refine r_put (C := RX8) (T := TX8) (N := 8) (ci := 6) (v := .int r_31) S in_X6_takeStart_X8 tyX8_ok nmX8 G 7 rfl rfl 4 (by decide) lk_X6_takeStart_112 rfl (vp_nar_int _) rfl (Nat.le_of_ble_eq_true rfl) dX6_takeStart_91 (fun H locs G => ?_)
              obtain ⟨v_41, G⟩ : ∃ v_41 : Nat → Int32, wd X (va_A (@HAppend.hAppend va_W va_W va_W _ (rdV X h0 hb n bd vd fd) (rcW X hn an v b g)) sz) (va_A (@HAppend.hAppend va_W va_W va_W _ (rdV X h0 hb n bd vd fd) (rcW X hn an v b g)) sz) s (@HAppend.hAppend va_W va_W va_W _ (rcW X hn an v_41 b g) (rdV X h0 hb n b_32a v_32b fd)) H locs := ⟨upd v 54 r_31, G⟩
              exact e_void S zr zlk G (b_32a, v_32b, v_41) [16, 17, 0, 1, 2, 3, 4, 5, 6, 7, 8, 9, 10, 11, 12, 13, 14, 15] rfl rfl (Or.inr rfl) (⟨hI_b_32a, ⟨by first | omega | (dsimp only; omega), by first | omega | (dsimp only; omega)⟩⟩) dX6_takeStart_94
set_option maxHeartbeats 4000000 in
set_option maxRecDepth 100000 in
/-- takeTicks -/
theorem s_takeTicks (l : Launch) (X : EX) (h0 : Nat) (hb : Nat) (n : Nat) (bd : Nat → Nat) (vd : Nat → Int32) (fd : Nat → Int32) (hn : Nat) (an : Nat → Nat) (v : Nat → Int32) (b : Nat → Nat) (g : Nat → Nat → Int32) (hI_n : n ≤ 150) (hI_bd : InP bd) (hI_b : InR b) (hP : bd 0 ≤ n ∧ bd 1 ≤ bd 0) (sz : Nat) : Met l yX6_takeTicks wsX6_takeTicks ({ frames := 4, cells := 0, slots := 0, locals := 82 } : Room) (pE X [.ref h0, .ref hn] (@HAppend.hAppend va_W va_W va_W _ (rdV X h0 hb n bd vd fd) (rcW X hn an v b g)) sz) (qV (fun (u : (Nat → Nat) × (Nat → Int32) × (Nat → Int32) × (Nat → Nat) × (Nat → Nat → Int32)) => InP u.1 ∧ InR u.2.2.2.1 ∧ (u.1 0 ≤ n ∧ u.1 1 ≤ u.1 0)) X (fun (u : (Nat → Nat) × (Nat → Int32) × (Nat → Int32) × (Nat → Nat) × (Nat → Nat → Int32)) => @HAppend.hAppend va_W va_W va_W _ (rdV X h0 hb n u.1 u.2.1 fd) (rcW X hn an u.2.2.1 u.2.2.2.1 u.2.2.2.2)) (@HAppend.hAppend va_W va_W va_W _ (rdV X h0 hb n bd vd fd) (rcW X hn an v b g)) sz) 0 0 (va_A (@HAppend.hAppend va_W va_W va_W _ (rdV X h0 hb n bd vd fd) (rcW X hn an v b g)) sz) := by
  refine mk_met (B := (va_A (@HAppend.hAppend va_W va_W va_W _ (rdV X h0 hb n bd vd fd) (rcW X hn an v b g)) sz)) (A := (va_A (@HAppend.hAppend va_W va_W va_W _ (rdV X h0 hb n bd vd fd) (rcW X hn an v b g)) sz)) (cc := cX6_takeTicks) (maxL := 4) (ret := none) (by decide) rfl (Nat.le_of_ble_eq_true rfl) k_w k_a (fun p e s m below meth c S zr zlk znm zsz G ls hl => ?_)
  have S : CallFix p m c cX6_takeTicks 4 s _ wsX6_takeTicks RX6 := S
  have zx := S.1
  have zb := S.2.1
  have hl : lv_has ls 4 [(0, .ref h0), (1, .ref hn)] := hl
  have hO_bd := hI_bd
  obtain ⟨hd0_bd, hd1_bd⟩ := hO_bd
  have hO_b := hI_b
  obtain ⟨hb0_b, hb1_b, hb2_b, hb3_b, hb4_b⟩ := hO_b
  obtain ⟨hP0, hP1⟩ := hP
  refine lv_aload_n zx zb dX6_takeTicks_0 rfl (lv_at hl 0 rfl) ?_
  refine lv_iconst (v := 1) zx zb dX6_takeTicks_1 (by decide) ?_
  refine lv_bipush (v := 99) zx zb dX6_takeTicks_2 (by decide) ?_
  refine b_wi (cells' := 0) (slots' := 0) (wr := rcW X hn an v b g) G rfl rfl [0, 1] [2, 3, 4, 5, 6, 7, 8, 9, 10, 11, 12, 13, 14, 15, 16, 17] rfl rfl rfl rfl (n_V (As := [.int 1, .int 99]) (rest := []) (C := RX6) (T := TX6) (N := 7) (ci := 4) S G (s_number l X h0 hb n bd vd fd 1 99 hI_n hI_bd ⟨by omega, by omega⟩ s.heap.size) gX6_takeTicks_X6_number rfl rfl rfl hdV_X6_number ⟨Nat.le_of_ble_eq_true rfl, Nat.le_of_ble_eq_true rfl⟩ [0, 1] rfl rfl 0 rfl rfl rfl hl.1 (Nat.le_of_ble_eq_true rfl) dX6_takeTicks_4 ⟨Nat.le_of_ble_eq_true rfl, Nat.le_of_ble_eq_true rfl⟩) (fun r_1 u_1 H locs hp_1 G => ?_)
  obtain ⟨b_1a, v_1b⟩ := u_1
  try dsimp only at hp_1
  obtain ⟨hI_b_1a, hq_1⟩ := hp_1
  have hO_b_1a := hI_b_1a
  obtain ⟨hd0_b_1a, hd1_b_1a⟩ := hO_b_1a
  have G : wd X (va_A (@HAppend.hAppend va_W va_W va_W _ (rdV X h0 hb n bd vd fd) (rcW X hn an v b g)) sz) (va_A (@HAppend.hAppend va_W va_W va_W _ (rdV X h0 hb n bd vd fd) (rcW X hn an v b g)) sz) s (@HAppend.hAppend va_W va_W va_W _ (rcW X hn an v b g) (rdV X h0 hb n b_1a v_1b fd)) H locs := G
  obtain ⟨hz0_1, hz1_1, hz2_1⟩ := hq_1
  refine lv_istore_n (lv' := [(2, .int r_1), (0, .ref h0), (1, .ref hn)]) zx zb dX6_takeTicks_7 rfl hl (by decide) rfl (fun ls hl => ?_)
  refine lv_aload_n zx zb dX6_takeTicks_8 rfl (lv_at hl 1 rfl) ?_
  refine b_wi (cells' := 0) (slots' := 0) (wr := rcW X hn an v b g) G rfl rfl [16, 17] [0, 1, 2, 3, 4, 5, 6, 7, 8, 9, 10, 11, 12, 13, 14, 15] rfl rfl rfl rfl (n_V (As := []) (rest := []) (C := RX6) (T := TX6) (N := 7) (ci := 4) S G (s_ended l X h0 hb n b_1a v_1b fd hI_n hI_b_1a ⟨by omega, by omega⟩ H.size) gX6_takeTicks_X6_ended rfl rfl rfl hdV_X6_ended ⟨Nat.le_of_ble_eq_true rfl, Nat.le_of_ble_eq_true rfl⟩ [16, 17] rfl rfl 16 rfl rfl rfl hl.1 (Nat.le_of_ble_eq_true rfl) dX6_takeTicks_9 ⟨Nat.le_of_ble_eq_true rfl, Nat.le_of_ble_eq_true rfl⟩) (fun r_2 u_2 H locs hp_2 G => ?_)
  obtain ⟨b_2a, v_2b⟩ := u_2
  try dsimp only at hp_2
  obtain ⟨hI_b_2a, hq_2⟩ := hp_2
  have hO_b_2a := hI_b_2a
  obtain ⟨hd0_b_2a, hd1_b_2a⟩ := hO_b_2a
  have G : wd X (va_A (@HAppend.hAppend va_W va_W va_W _ (rdV X h0 hb n bd vd fd) (rcW X hn an v b g)) sz) (va_A (@HAppend.hAppend va_W va_W va_W _ (rdV X h0 hb n bd vd fd) (rcW X hn an v b g)) sz) s (@HAppend.hAppend va_W va_W va_W _ (rcW X hn an v b g) (rdV X h0 hb n b_2a v_2b fd)) H locs := G
  obtain ⟨hz0_2, hz1_2, hz2_2⟩ := hq_2
  rcases hz2_2 with rfl | rfl
  · refine lv_if_eq (tgt := 32) zx zb dX6_takeTicks_12 (by decide) (fun c_3 => ?_) (fun c_3 => absurd (by decide) c_3)
    exact e_void S zr zlk G (b_2a, v_2b, v, b, g) [16, 17, 0, 1, 2, 3, 4, 5, 6, 7, 8, 9, 10, 11, 12, 13, 14, 15] rfl rfl (Or.inr rfl) (⟨hI_b_2a, hI_b, ⟨by first | omega | (dsimp only; omega), by first | omega | (dsimp only; omega)⟩⟩) dX6_takeTicks_32
  · refine lv_if_eq (tgt := 32) zx zb dX6_takeTicks_12 (by decide) (fun c_4 => absurd c_4 (by decide)) (fun c_4 => ?_)
    have h99 := k_99 hz2_1 (by decide)
    refine lv_iconst (v := 0) zx zb dX6_takeTicks_15 (by decide) ?_
    refine lv_istore_n (lv' := [(3, .int 0), (2, .int r_1), (0, .ref h0), (1, .ref hn)]) zx zb dX6_takeTicks_16 rfl hl (by decide) rfl (fun ls hl => ?_)
    refine k_loop (P := ∀ (zm : Nat) (k17 : Nat) (v17_0 : Nat → Int32) (b17_0 : Nat → Nat) (g17_0 : Nat → Nat → Int32) (H : Heap) (locs : List Loc) (ls : Array Slot), 99 + 1 ≤ k17 + zm → InR b17_0 → (k17 ≤ 99) → wd X (va_A (@HAppend.hAppend va_W va_W va_W _ (rdV X h0 hb n bd vd fd) (rcW X hn an v b g)) sz) (va_A (@HAppend.hAppend va_W va_W va_W _ (rdV X h0 hb n bd vd fd) (rcW X hn an v b g)) sz) s (@HAppend.hAppend va_W va_W va_W _ (rcW X hn an v17_0 b17_0 g17_0) (rdV X h0 hb n b_2a v_2b fd)) H locs → lv_has ls 4 [(3, .int (nI k17)), (2, .int r_1), (0, .ref h0), (1, .ref hn)] → W p l e _ s m _ below meth c H locs _ _ _ (F0 m 17 ls [])) (fun loop => loop (99 + 1) 0 v b g _ _ _ (by omega) hI_b (by omega) G hl) ?_
    intro zm
    induction zm with
    | zero => intro k17 v17_0 b17_0 g17_0 H locs ls zz q_hI_b17_0 q_hk_k17 _ _; exact absurd zz (by omega)
    | succ zm ih17 =>
      intro k17 v17_0 b17_0 g17_0 H locs ls zm_17 hI_b17_0 hk_k17 G hl
      have hO_b17_0 := hI_b17_0
      obtain ⟨hb0_b17_0, hb1_b17_0, hb2_b17_0, hb3_b17_0, hb4_b17_0⟩ := hO_b17_0
      refine lv_iload_n zx zb dX6_takeTicks_17 rfl (lv_at hl 0 rfl) ?_
      refine lv_iload_n zx zb dX6_takeTicks_18 rfl (lv_at hl 1 rfl) ?_
      refine lv_icmp_ge (tgt := 32) zx zb dX6_takeTicks_19 (by decide) (fun c_5 => ?_) (fun c_5 => ?_)
      · exact e_void S zr zlk G (b_2a, v_2b, v17_0, b17_0, g17_0) [16, 17, 0, 1, 2, 3, 4, 5, 6, 7, 8, 9, 10, 11, 12, 13, 14, 15] rfl rfl (Or.inr rfl) (⟨hI_b_2a, hI_b17_0, ⟨by first | omega | (dsimp only; omega), by first | omega | (dsimp only; omega)⟩⟩) dX6_takeTicks_32
      · have fk_c_5 := k_lt99 (Int32.not_le.mp c_5) h99 (by omega)
        refine lv_aload_n zx zb dX6_takeTicks_22 rfl (lv_at hl 3 rfl) ?_
        refine b_wv (cells' := 0) (slots' := 0) (wr := rdV X h0 hb n b_2a v_2b fd) G rfl rfl [0, 1, 2, 3, 4, 5, 6, 7, 8, 9, 10, 11, 12, 13, 14, 15] [16, 17] rfl rfl rfl rfl (n_V (As := []) (rest := []) (C := RX5) (T := TX5) (N := 8) (ci := 3) S G (s_goOn l X hn an v17_0 b17_0 g17_0 hI_b17_0 H.size) gX6_takeTicks_X5_goOn rfl rfl rfl hdV_X5_goOn ⟨Nat.le_of_ble_eq_true rfl, Nat.le_of_ble_eq_true rfl⟩ [0, 1, 2, 3, 4, 5, 6, 7, 8, 9, 10, 11, 12, 13, 14, 15] rfl rfl 0 rfl rfl rfl hl.1 (Nat.le_of_ble_eq_true rfl) dX6_takeTicks_23 ⟨Nat.le_of_ble_eq_true rfl, Nat.le_of_ble_eq_true rfl⟩) (fun u_6 H locs hp_6 G => ?_)
        obtain ⟨v_6a, b_6b, g_6c⟩ := u_6
        obtain ⟨hI_b_6b, hq_6⟩ := hp_6
        have hO_b_6b := hI_b_6b
        obtain ⟨hb0_b_6b, hb1_b_6b, hb2_b_6b, hb3_b_6b, hb4_b_6b⟩ := hO_b_6b
        have G : wd X (va_A (@HAppend.hAppend va_W va_W va_W _ (rdV X h0 hb n bd vd fd) (rcW X hn an v b g)) sz) (va_A (@HAppend.hAppend va_W va_W va_W _ (rdV X h0 hb n bd vd fd) (rcW X hn an v b g)) sz) s (@HAppend.hAppend va_W va_W va_W _ (rdV X h0 hb n b_2a v_2b fd) (rcW X hn an v_6a b_6b g_6c)) H locs := G
        refine lv_iinc (v := (nI (k17 + 1))) (lv' := [(3, .int (nI (k17 + 1))), (2, .int r_1), (0, .ref h0), (1, .ref hn)]) zx zb dX6_takeTicks_26 hl (k := 0) rfl (nI_add k17 1) (by decide) rfl (fun ls hl => ?_)
        refine lv_goto (tgt := 17) zx zb dX6_takeTicks_29 (by decide) ?_
        have G : wd X (va_A (@HAppend.hAppend va_W va_W va_W _ (rdV X h0 hb n bd vd fd) (rcW X hn an v b g)) sz) (va_A (@HAppend.hAppend va_W va_W va_W _ (rdV X h0 hb n bd vd fd) (rcW X hn an v b g)) sz) s (@HAppend.hAppend va_W va_W va_W _ (rcW X hn an v_6a b_6b g_6c) (rdV X h0 hb n b_2a v_2b fd)) H locs := wd_sub G [2, 3, 4, 5, 6, 7, 8, 9, 10, 11, 12, 13, 14, 15, 16, 17, 0, 1] rfl rfl
        exact ih17 (k17 + 1) v_6a b_6b g_6c _ _ _ (by omega) hI_b_6b (by omega) G hl
theorem in_X6_spells_X6 : ∀ w ∈ wsX60, w ∈ wsX6_spells := by decide +kernel
theorem lk_X6_spells_19 : Cond.fieldLink RX6 19 "EggSpoons$Reader" "at" "I" ∈ wsX6_spells := by decide +kernel
theorem lk_X6_spells_22 : Cond.fieldLink RX6 22 "EggSpoons$Reader" "tokenAt" "I" ∈ wsX6_spells := by decide +kernel
theorem lk_X6_spells_11 : Cond.fieldLink RX6 11 "EggSpoons$Reader" "bytes" "[I" ∈ wsX6_spells := by decide +kernel
set_option maxHeartbeats 4000000 in
set_option maxRecDepth 100000 in
/-- spells -/
theorem s_spells (l : Launch) (X : EX) (K : SK) (h0 : Nat) (hb : Nat) (n : Nat) (bd : Nat → Nat) (vd : Nat → Int32) (fd : Nat → Int32) (i : Nat) (hI_n : n ≤ 150) (hI_bd : InP bd) (hP : bd 0 ≤ n ∧ bd 1 ≤ bd 0) (hi : i < 5) (sz : Nat) : Met l yX6_spells wsX6_spells ({ frames := 4, cells := 0, slots := 0, locals := 85 } : Room) (pS X K [.ref h0, .ref (K.1 i)] (rdV X h0 hb n bd vd fd) sz) (qI (fun (r : Int32) (u : Unit) => r = 0 ∨ r = 1) X (fun (u : Unit) => []) [] sz) 0 0 (va_A [] sz) := by
  refine mk_metS (B := (fun _ => True)) (A := (va_A [] sz)) (cc := cX6_spells) (maxL := 3) (ret := (some .boolean)) (by decide) rfl (Nat.le_of_ble_eq_true rfl) k_ro k_a (fun p e s m below meth c S zr zlk znm zsz G hZ ls hl => ?_)
  replace hZ := hZ.narrow (B := va_A [] sz) vaA0
  have S : CallFix p m c cX6_spells 3 s _ wsX6_spells RX6 := S
  have zx := S.1
  have zb := S.2.1
  have hl : lv_has ls 3 [(0, .ref h0), (1, .ref (K.1 i))] := hl
  have hO_bd := hI_bd
  obtain ⟨hd0_bd, hd1_bd⟩ := hO_bd
  obtain ⟨hP0, hP1⟩ := hP
  have h5 := k_sl hi
  refine lv_aload_n zx zb dX6_spells_0 rfl (lv_at hl 0 rfl) ?_
  refine r_get (C := RX6) (T := TX6) (N := 7) (ci := 4) (v := .int (nI (bd 0))) S in_X6_spells_X6 G 0 rfl rfl 2 (by decide) lk_X6_spells_19 rfl dX6_spells_1 ?_
  refine lv_aload_n zx zb dX6_spells_4 rfl (lv_at hl 0 rfl) ?_
  refine r_get (C := RX6) (T := TX6) (N := 7) (ci := 4) (v := .int (nI (bd 1))) S in_X6_spells_X6 G 0 rfl rfl 3 (by decide) lk_X6_spells_22 rfl dX6_spells_5 ?_
  refine r_isub (v := (nI ((bd 0) - (bd 1)))) S (pk_sub (a := (bd 0)) (b := (bd 1)) (by omega)) dX6_spells_8 ?_
  refine lv_aload_n zx zb dX6_spells_9 rfl (lv_at hl 1 rfl) ?_
  refine o_ri (cells' := 0) (slots' := 0) G rfl rfl (n_VZ (As := []) (rest := [.int (nI ((bd 0) - (bd 1)))]) S G hZ (z_length l X K i hi s.heap.size) gX6_spells_J0_length_8abf5 rfl rfl rfl hdV_J0_length ⟨Nat.le_of_ble_eq_true rfl, Nat.le_of_ble_eq_true rfl⟩ hi rfl hl.1 (Nat.le_of_ble_eq_true rfl) dX6_spells_10 ⟨Nat.le_of_ble_eq_true rfl, Nat.le_of_ble_eq_true rfl⟩) (fun r_1 u_1 H locs hp_1 G => ?_)
  obtain rfl := hp_1
  have G : wd X (fun _ => True) (va_A [] sz) s (rdV X h0 hb n bd vd fd) H locs := G
  refine lv_icmp_eq (tgt := 18) zx zb dX6_spells_13 (by decide) (fun c_2 => ?_) (fun c_2 => ?_)
  · have fc_2 := j_eq (a := ((bd 0) - (bd 1))) (b := (sLen.getD i 0)) (by omega) (by omega) c_2
    refine lv_iconst (v := 0) zx zb dX6_spells_18 (by decide) ?_
    refine lv_istore_n (lv' := [(2, .int 0), (0, .ref h0), (1, .ref (K.1 i))]) zx zb dX6_spells_19 rfl hl (by decide) rfl (fun ls hl => ?_)
    refine k_loop (P := ∀ (zm : Nat) (k20 : Nat) (H : Heap) (locs : List Loc) (ls : Array Slot), (sLen.getD i 0) + 1 ≤ k20 + zm → (k20 ≤ (sLen.getD i 0)) → wd X (fun _ => True) (va_A [] sz) s (rdV X h0 hb n bd vd fd) H locs → lv_has ls 3 [(2, .int (nI k20)), (0, .ref h0), (1, .ref (K.1 i))] → W p l e _ s m _ below meth c H locs _ _ _ (F0 m 20 ls [])) (fun loop => loop ((sLen.getD i 0) + 1) 0 _ _ _ (by omega) (by omega) G hl) ?_
    intro zm
    induction zm with
    | zero => intro k20 H locs ls zz q_hk_k20 _ _; exact absurd zz (by omega)
    | succ zm ih20 =>
      intro k20 H locs ls zm_20 hk_k20 G hl
      refine lv_iload_n zx zb dX6_spells_20 rfl (lv_at hl 0 rfl) ?_
      refine lv_aload_n zx zb dX6_spells_21 rfl (lv_at hl 2 rfl) ?_
      refine o_ri (cells' := 0) (slots' := 0) G rfl rfl (n_VZ (As := []) (rest := [.int (nI k20)]) S G hZ (z_length l X K i hi H.size) gX6_spells_J0_length_8abf5 rfl rfl rfl hdV_J0_length ⟨Nat.le_of_ble_eq_true rfl, Nat.le_of_ble_eq_true rfl⟩ hi rfl hl.1 (Nat.le_of_ble_eq_true rfl) dX6_spells_22 ⟨Nat.le_of_ble_eq_true rfl, Nat.le_of_ble_eq_true rfl⟩) (fun r_3 u_3 H locs hp_3 G => ?_)
      obtain rfl := hp_3
      have G : wd X (fun _ => True) (va_A [] sz) s (rdV X h0 hb n bd vd fd) H locs := G
      refine lv_icmp_ge (tgt := 55) zx zb dX6_spells_25 (by decide) (fun c_4 => ?_) (fun c_4 => ?_)
      · have fc_4 := j_le (a := (sLen.getD i 0)) (b := k20) (by omega) (by omega) c_4
        refine lv_iconst (v := 1) zx zb dX6_spells_55 (by decide) ?_
        exact e_int S zr zlk (by decide) G () [] rfl rfl (Or.inl rfl) ((Or.inr rfl)) dX6_spells_56
      · have fc_4 := j_nle (a := (sLen.getD i 0)) (b := k20) (by omega) (by omega) c_4
        refine lv_aload_n zx zb dX6_spells_28 rfl (lv_at hl 1 rfl) ?_
        refine r_get (C := RX6) (T := TX6) (N := 7) (ci := 4) (v := .ref hb) S in_X6_spells_X6 G 0 rfl rfl 0 (by decide) lk_X6_spells_11 rfl dX6_spells_29 ?_
        refine lv_aload_n zx zb dX6_spells_32 rfl (lv_at hl 1 rfl) ?_
        refine r_get (C := RX6) (T := TX6) (N := 7) (ci := 4) (v := .int (nI (bd 1))) S in_X6_spells_X6 G 0 rfl rfl 3 (by decide) lk_X6_spells_22 rfl dX6_spells_33 ?_
        refine lv_iload_n zx zb dX6_spells_36 rfl (lv_at hl 0 rfl) ?_
        refine r_iadd (v := (nI ((bd 1) + k20))) S (nI_add (bd 1) k20) dX6_spells_37 ?_
        refine r_iald S G 1 rfl (vp_in_nI (by omega) (by decide)) rfl dX6_spells_38 ?_
        refine k_itE (fun y_5 => ?_)
        refine lv_aload_n zx zb dX6_spells_39 rfl (lv_at hl 2 rfl) ?_
        refine lv_iload_n zx zb dX6_spells_40 rfl (lv_at hl 0 rfl) ?_
        refine o_ri (cells' := 0) (slots' := 0) G rfl rfl (n_VZ (As := [.int (nI k20)]) (rest := [.int y_5]) S G hZ (z_charAt l X K i k20 hi (by omega) H.size) gX6_spells_J0_charAt_5068e rfl rfl rfl hdV_J0_charAt ⟨Nat.le_of_ble_eq_true rfl, Nat.le_of_ble_eq_true rfl⟩ hi rfl hl.1 (Nat.le_of_ble_eq_true rfl) dX6_spells_41 ⟨Nat.le_of_ble_eq_true rfl, Nat.le_of_ble_eq_true rfl⟩) (fun r_6 u_6 H locs hp_6 G => ?_)
        obtain rfl := hp_6
        have G : wd X (fun _ => True) (va_A [] sz) s (rdV X h0 hb n bd vd fd) H locs := G
        refine lv_icmp_eq (tgt := 49) zx zb dX6_spells_44 (by decide) (fun c_7 => ?_) (fun c_7 => ?_)
        · refine lv_iinc (v := (nI (k20 + 1))) (lv' := [(2, .int (nI (k20 + 1))), (0, .ref h0), (1, .ref (K.1 i))]) zx zb dX6_spells_49 hl (k := 0) rfl (nI_add k20 1) (by decide) rfl (fun ls hl => ?_)
          refine lv_goto (tgt := 20) zx zb dX6_spells_52 (by decide) ?_
          exact ih20 (k20 + 1) _ _ _ (by omega) (by omega) G hl
        · refine lv_iconst (v := 0) zx zb dX6_spells_47 (by decide) ?_
          exact e_int S zr zlk (by decide) G () [] rfl rfl (Or.inl rfl) ((Or.inl rfl)) dX6_spells_48
  · have fc_2 := j_ne (a := ((bd 0) - (bd 1))) (b := (sLen.getD i 0)) c_2
    refine lv_iconst (v := 0) zx zb dX6_spells_16 (by decide) ?_
    exact e_int S zr zlk (by decide) G () [] rfl rfl (Or.inl rfl) ((Or.inl rfl)) dX6_spells_17
theorem in_X6_takeItem_X6 : ∀ w ∈ wsX60, w ∈ wsX6_takeItem := by decide +kernel
theorem lk_X6_takeItem_25 : Cond.fieldLink RX6 25 "EggSpoons$Reader" "sort" "I" ∈ wsX6_takeItem := by decide +kernel
theorem lk_X6_takeItem_22 : Cond.fieldLink RX6 22 "EggSpoons$Reader" "tokenAt" "I" ∈ wsX6_takeItem := by decide +kernel
theorem lk_X6_takeItem_31 : Cond.fieldLink RX6 31 "EggSpoons$Reader" "fault" "I" ∈ wsX6_takeItem := by decide +kernel
theorem hdV_X6_spells : yX6_spells.cls = RX6 ∧ yX6_spells.cls ≠ "java/lang/invoke/MethodHandle" ∧ yX6_spells.cls ≠ "java/lang/invoke/VarHandle" ∧ (parseMethodDescriptor yX6_spells.desc).map (fun d => d.parameters.length) = some 1 := by decide +kernel
theorem hdV_X6_takeTicks : yX6_takeTicks.cls = RX6 ∧ yX6_takeTicks.cls ≠ "java/lang/invoke/MethodHandle" ∧ yX6_takeTicks.cls ≠ "java/lang/invoke/VarHandle" ∧ (parseMethodDescriptor yX6_takeTicks.desc).map (fun d => d.parameters.length) = some 1 := by decide +kernel
theorem hdV_X6_takeStart : yX6_takeStart.cls = RX6 ∧ yX6_takeStart.cls ≠ "java/lang/invoke/MethodHandle" ∧ yX6_takeStart.cls ≠ "java/lang/invoke/VarHandle" ∧ (parseMethodDescriptor yX6_takeStart.desc).map (fun d => d.parameters.length) = some 1 := by decide +kernel
theorem hdV_X6_takeSpeed : yX6_takeSpeed.cls = RX6 ∧ yX6_takeSpeed.cls ≠ "java/lang/invoke/MethodHandle" ∧ yX6_takeSpeed.cls ≠ "java/lang/invoke/VarHandle" ∧ (parseMethodDescriptor yX6_takeSpeed.desc).map (fun d => d.parameters.length) = some 1 := by decide +kernel
theorem in_X6_takeItem_X5 : ∀ w ∈ wsX50, w ∈ wsX6_takeItem := by decide +kernel
theorem lk_X6_takeItem_56 : Cond.fieldLink RX6 56 "EggSpoons$Race" "runners" "I" ∈ wsX6_takeItem := by decide +kernel
theorem hdV_X6_takeRunner : yX6_takeRunner.cls = RX6 ∧ yX6_takeRunner.cls ≠ "java/lang/invoke/MethodHandle" ∧ yX6_takeRunner.cls ≠ "java/lang/invoke/VarHandle" ∧ (parseMethodDescriptor yX6_takeRunner.desc).map (fun d => d.parameters.length) = some 1 := by decide +kernel
theorem hdV_X6_takeLength : yX6_takeLength.cls = RX6 ∧ yX6_takeLength.cls ≠ "java/lang/invoke/MethodHandle" ∧ yX6_takeLength.cls ≠ "java/lang/invoke/VarHandle" ∧ (parseMethodDescriptor yX6_takeLength.desc).map (fun d => d.parameters.length) = some 1 := by decide +kernel
set_option maxHeartbeats 4000000 in
set_option maxRecDepth 100000 in
/-- takeItem -/
theorem s_takeItem (l : Launch) (X : EX) (K : SK) (h0 : Nat) (hb : Nat) (n : Nat) (bd : Nat → Nat) (vd : Nat → Int32) (fd : Nat → Int32) (hn : Nat) (an : Nat → Nat) (v : Nat → Int32) (b : Nat → Nat) (g : Nat → Nat → Int32) (x : Int32) (hI_n : n ≤ 150) (hI_bd : InP bd) (hI_b : InR b) (hP : bd 0 ≤ n) (sz : Nat) : Met l yX6_takeItem wsX6_takeItem ({ frames := 5, cells := 0, slots := 0, locals := 107 } : Room) (pS X K [.ref h0, .ref hn, .int x] (@HAppend.hAppend va_W va_W va_W _ (rdV X h0 hb n bd vd fd) (rcW X hn an v b g)) sz) (qV (fun (u : (Nat → Nat) × (Nat → Int32) × (Nat → Int32) × (Nat → Nat) × (Nat → Nat → Int32)) => InP u.1 ∧ InR u.2.2.2.1 ∧ (u.1 0 ≤ n ∧ u.1 1 ≤ u.1 0)) X (fun (u : (Nat → Nat) × (Nat → Int32) × (Nat → Int32) × (Nat → Nat) × (Nat → Nat → Int32)) => @HAppend.hAppend va_W va_W va_W _ (rdV X h0 hb n u.1 u.2.1 fd) (rcW X hn an u.2.2.1 u.2.2.2.1 u.2.2.2.2)) (@HAppend.hAppend va_W va_W va_W _ (rdV X h0 hb n bd vd fd) (rcW X hn an v b g)) sz) 0 0 (va_A (@HAppend.hAppend va_W va_W va_W _ (rdV X h0 hb n bd vd fd) (rcW X hn an v b g)) sz) := by
  refine mk_metS (B := (va_A (@HAppend.hAppend va_W va_W va_W _ (rdV X h0 hb n bd vd fd) (rcW X hn an v b g)) sz)) (A := (va_A (@HAppend.hAppend va_W va_W va_W _ (rdV X h0 hb n bd vd fd) (rcW X hn an v b g)) sz)) (cc := cX6_takeItem) (maxL := 3) (ret := none) (by decide) rfl (Nat.le_of_ble_eq_true rfl) k_w k_a (fun p e s m below meth c S zr zlk znm zsz G hZ ls hl => ?_)
  have S : CallFix p m c cX6_takeItem 3 s _ wsX6_takeItem RX6 := S
  have zx := S.1
  have zb := S.2.1
  have hl : lv_has ls 3 [(0, .ref h0), (1, .ref hn), (2, .int x)] := hl
  have hO_bd := hI_bd
  obtain ⟨hd0_bd, hd1_bd⟩ := hO_bd
  have hO_b := hI_b
  obtain ⟨hb0_b, hb1_b, hb2_b, hb3_b, hb4_b⟩ := hO_b
  refine lv_aload_n zx zb dX6_takeItem_0 rfl (lv_at hl 0 rfl) ?_
  refine b_wv (cells' := 0) (slots' := 0) (wr := rcW X hn an v b g) G rfl rfl [0, 1] [2, 3, 4, 5, 6, 7, 8, 9, 10, 11, 12, 13, 14, 15, 16, 17] rfl rfl rfl rfl (n_V (As := []) (rest := []) (C := RX6) (T := TX6) (N := 7) (ci := 4) S G (s_nextToken l X h0 hb n bd vd fd hI_n hI_bd (by omega) s.heap.size) gX6_takeItem_X6_nextToken rfl rfl rfl hdV_X6_nextToken ⟨Nat.le_of_ble_eq_true rfl, Nat.le_of_ble_eq_true rfl⟩ [0, 1] rfl rfl 0 rfl rfl rfl hl.1 (Nat.le_of_ble_eq_true rfl) dX6_takeItem_1 ⟨Nat.le_of_ble_eq_true rfl, Nat.le_of_ble_eq_true rfl⟩) (fun u_1 H locs hp_1 G => ?_)
  obtain ⟨b_1a, v_1b⟩ := u_1
  try dsimp only at hp_1
  obtain ⟨hI_b_1a, hq_1⟩ := hp_1
  have hO_b_1a := hI_b_1a
  obtain ⟨hd0_b_1a, hd1_b_1a⟩ := hO_b_1a
  have G : wd X (va_A (@HAppend.hAppend va_W va_W va_W _ (rdV X h0 hb n bd vd fd) (rcW X hn an v b g)) sz) (va_A (@HAppend.hAppend va_W va_W va_W _ (rdV X h0 hb n bd vd fd) (rcW X hn an v b g)) sz) s (@HAppend.hAppend va_W va_W va_W _ (rcW X hn an v b g) (rdV X h0 hb n b_1a v_1b fd)) H locs := G
  obtain ⟨hz0_1, hz1_1, hz2_1⟩ := hq_1
  refine lv_aload_n zx zb dX6_takeItem_4 rfl (lv_at hl 0 rfl) ?_
  refine r_get (C := RX6) (T := TX6) (N := 7) (ci := 4) (v := .int (v_1b 0)) S in_X6_takeItem_X6 G 16 rfl rfl 4 (by decide) lk_X6_takeItem_25 rfl dX6_takeItem_5 ?_
  refine lv_iconst (v := 1) zx zb dX6_takeItem_8 (by decide) ?_
  refine lv_icmp_ne (tgt := 22) zx zb dX6_takeItem_9 (by decide) (fun c_2 => ?_) (fun c_2 => ?_)
  · refine lv_aload_n zx zb dX6_takeItem_22 rfl (lv_at hl 0 rfl) ?_
    refine lv_aload_n zx zb dX6_takeItem_23 rfl (lv_at hl 0 rfl) ?_
    refine r_get (C := RX6) (T := TX6) (N := 7) (ci := 4) (v := .int (nI (b_1a 1))) S in_X6_takeItem_X6 G 16 rfl rfl 3 (by decide) lk_X6_takeItem_22 rfl dX6_takeItem_24 ?_
    refine r_put (C := RX6) (T := TX6) (N := 7) (ci := 4) (v := .int (nI (b_1a 1))) S in_X6_takeItem_X6 tyX6_ok nmX6 G 16 rfl rfl 6 (by decide) lk_X6_takeItem_31 rfl (vp_nar_int _) rfl (Nat.le_of_ble_eq_true rfl) dX6_takeItem_27 (fun H locs G => ?_)
    obtain ⟨v_3, ⟨hE_v_3_2, hE_v_3_0, hE_v_3_1⟩, G⟩ : ∃ v_3 : Nat → Int32, (v_3 2 = (nI (b_1a 1)) ∧ v_3 0 = v_1b 0 ∧ v_3 1 = v_1b 1) ∧ wd X (va_A (@HAppend.hAppend va_W va_W va_W _ (rdV X h0 hb n bd vd fd) (rcW X hn an v b g)) sz) (va_A (@HAppend.hAppend va_W va_W va_W _ (rdV X h0 hb n bd vd fd) (rcW X hn an v b g)) sz) s (@HAppend.hAppend va_W va_W va_W _ (rcW X hn an v b g) (rdV X h0 hb n b_1a v_3 fd)) H locs := ⟨upd v_1b 2 (nI (b_1a 1)), ⟨rfl, rfl, rfl⟩, G⟩
    refine lv_goto (tgt := 130) zx zb dX6_takeItem_30 (by decide) ?_
    exact e_void S zr zlk G (b_1a, v_3, v, b, g) [16, 17, 0, 1, 2, 3, 4, 5, 6, 7, 8, 9, 10, 11, 12, 13, 14, 15] rfl rfl (Or.inr rfl) (⟨hI_b_1a, hI_b, ⟨by first | omega | (dsimp only; omega), by first | omega | (dsimp only; omega)⟩⟩) dX6_takeItem_130
  · refine lv_aload_n zx zb dX6_takeItem_12 rfl (lv_at hl 0 rfl) ?_
    refine va_ldcS zx zb S.2.2.2.1 hZ.2.1 dX6_takeItem_13 ?_
    refine o_ri (cells' := 0) (slots' := 0) G rfl rfl (n_VS (As := [.ref (K.1 0)]) (rest := []) (C := RX6) (T := TX6) (N := 7) (ci := 4) S G hZ (s_spells l X K h0 hb n b_1a v_1b fd 0 hI_n hI_b_1a ⟨by omega, by omega⟩ (by omega) H.size) gX6_takeItem_X6_spells rfl rfl rfl hdV_X6_spells ⟨Nat.le_of_ble_eq_true rfl, Nat.le_of_ble_eq_true rfl⟩ [16, 17] rfl rfl 16 rfl rfl rfl hl.1 (Nat.le_of_ble_eq_true rfl) dX6_takeItem_15 ⟨Nat.le_of_ble_eq_true rfl, Nat.le_of_ble_eq_true rfl⟩) (fun r_4 u_4 H locs hp_4 G => ?_)
    have G : wd X (va_A (@HAppend.hAppend va_W va_W va_W _ (rdV X h0 hb n bd vd fd) (rcW X hn an v b g)) sz) (va_A (@HAppend.hAppend va_W va_W va_W _ (rdV X h0 hb n bd vd fd) (rcW X hn an v b g)) sz) s (@HAppend.hAppend va_W va_W va_W _ (rcW X hn an v b g) (rdV X h0 hb n b_1a v_1b fd)) H locs := G
    rcases hp_4 with rfl | rfl
    · refine lv_iload_n zx zb dX6_takeItem_18 rfl (lv_at hl 2 rfl) ?_
      refine lv_icmp_eq (tgt := 33) zx zb dX6_takeItem_19 (by decide) (fun c_5 => ?_) (fun c_5 => ?_)
      · refine lv_iload_n zx zb dX6_takeItem_33 rfl (lv_at hl 2 rfl) ?_
        refine lv_if_eq (tgt := 45) zx zb dX6_takeItem_34 (by decide) (fun c_6 => ?_) (fun c_6 => ?_)
        · refine lv_aload_n zx zb dX6_takeItem_45 rfl (lv_at hl 0 rfl) ?_
          refine va_ldcS zx zb S.2.2.2.1 hZ.2.2.1 dX6_takeItem_46 ?_
          refine o_ri (cells' := 0) (slots' := 0) G rfl rfl (n_VS (As := [.ref (K.1 1)]) (rest := []) (C := RX6) (T := TX6) (N := 7) (ci := 4) S G hZ (s_spells l X K h0 hb n b_1a v_1b fd 1 hI_n hI_b_1a ⟨by omega, by omega⟩ (by omega) H.size) gX6_takeItem_X6_spells rfl rfl rfl hdV_X6_spells ⟨Nat.le_of_ble_eq_true rfl, Nat.le_of_ble_eq_true rfl⟩ [16, 17] rfl rfl 16 rfl rfl rfl hl.1 (Nat.le_of_ble_eq_true rfl) dX6_takeItem_48 ⟨Nat.le_of_ble_eq_true rfl, Nat.le_of_ble_eq_true rfl⟩) (fun r_7 u_7 H locs hp_7 G => ?_)
          have G : wd X (va_A (@HAppend.hAppend va_W va_W va_W _ (rdV X h0 hb n bd vd fd) (rcW X hn an v b g)) sz) (va_A (@HAppend.hAppend va_W va_W va_W _ (rdV X h0 hb n bd vd fd) (rcW X hn an v b g)) sz) s (@HAppend.hAppend va_W va_W va_W _ (rcW X hn an v b g) (rdV X h0 hb n b_1a v_1b fd)) H locs := G
          rcases hp_7 with rfl | rfl
          · refine lv_if_eq (tgt := 71) zx zb dX6_takeItem_51 (by decide) (fun c_8 => ?_) (fun c_8 => absurd (by decide) c_8)
            refine lv_aload_n zx zb dX6_takeItem_71 rfl (lv_at hl 0 rfl) ?_
            refine va_ldcS zx zb S.2.2.2.1 hZ.2.2.2.1 dX6_takeItem_72 ?_
            refine o_ri (cells' := 0) (slots' := 0) G rfl rfl (n_VS (As := [.ref (K.1 2)]) (rest := []) (C := RX6) (T := TX6) (N := 7) (ci := 4) S G hZ (s_spells l X K h0 hb n b_1a v_1b fd 2 hI_n hI_b_1a ⟨by omega, by omega⟩ (by omega) H.size) gX6_takeItem_X6_spells rfl rfl rfl hdV_X6_spells ⟨Nat.le_of_ble_eq_true rfl, Nat.le_of_ble_eq_true rfl⟩ [16, 17] rfl rfl 16 rfl rfl rfl hl.1 (Nat.le_of_ble_eq_true rfl) dX6_takeItem_74 ⟨Nat.le_of_ble_eq_true rfl, Nat.le_of_ble_eq_true rfl⟩) (fun r_9 u_9 H locs hp_9 G => ?_)
            have G : wd X (va_A (@HAppend.hAppend va_W va_W va_W _ (rdV X h0 hb n bd vd fd) (rcW X hn an v b g)) sz) (va_A (@HAppend.hAppend va_W va_W va_W _ (rdV X h0 hb n bd vd fd) (rcW X hn an v b g)) sz) s (@HAppend.hAppend va_W va_W va_W _ (rcW X hn an v b g) (rdV X h0 hb n b_1a v_1b fd)) H locs := G
            rcases hp_9 with rfl | rfl
            · refine lv_if_eq (tgt := 88) zx zb dX6_takeItem_77 (by decide) (fun c_10 => ?_) (fun c_10 => absurd (by decide) c_10)
              refine lv_aload_n zx zb dX6_takeItem_88 rfl (lv_at hl 0 rfl) ?_
              refine va_ldcS zx zb S.2.2.2.1 hZ.2.2.2.2.1 dX6_takeItem_89 ?_
              refine o_ri (cells' := 0) (slots' := 0) G rfl rfl (n_VS (As := [.ref (K.1 3)]) (rest := []) (C := RX6) (T := TX6) (N := 7) (ci := 4) S G hZ (s_spells l X K h0 hb n b_1a v_1b fd 3 hI_n hI_b_1a ⟨by omega, by omega⟩ (by omega) H.size) gX6_takeItem_X6_spells rfl rfl rfl hdV_X6_spells ⟨Nat.le_of_ble_eq_true rfl, Nat.le_of_ble_eq_true rfl⟩ [16, 17] rfl rfl 16 rfl rfl rfl hl.1 (Nat.le_of_ble_eq_true rfl) dX6_takeItem_91 ⟨Nat.le_of_ble_eq_true rfl, Nat.le_of_ble_eq_true rfl⟩) (fun r_11 u_11 H locs hp_11 G => ?_)
              have G : wd X (va_A (@HAppend.hAppend va_W va_W va_W _ (rdV X h0 hb n bd vd fd) (rcW X hn an v b g)) sz) (va_A (@HAppend.hAppend va_W va_W va_W _ (rdV X h0 hb n bd vd fd) (rcW X hn an v b g)) sz) s (@HAppend.hAppend va_W va_W va_W _ (rcW X hn an v b g) (rdV X h0 hb n b_1a v_1b fd)) H locs := G
              rcases hp_11 with rfl | rfl
              · refine lv_if_eq (tgt := 105) zx zb dX6_takeItem_94 (by decide) (fun c_12 => ?_) (fun c_12 => absurd (by decide) c_12)
                refine lv_aload_n zx zb dX6_takeItem_105 rfl (lv_at hl 0 rfl) ?_
                refine va_ldcS zx zb S.2.2.2.1 hZ.2.2.2.2.2 dX6_takeItem_106 ?_
                refine o_ri (cells' := 0) (slots' := 0) G rfl rfl (n_VS (As := [.ref (K.1 4)]) (rest := []) (C := RX6) (T := TX6) (N := 7) (ci := 4) S G hZ (s_spells l X K h0 hb n b_1a v_1b fd 4 hI_n hI_b_1a ⟨by omega, by omega⟩ (by omega) H.size) gX6_takeItem_X6_spells rfl rfl rfl hdV_X6_spells ⟨Nat.le_of_ble_eq_true rfl, Nat.le_of_ble_eq_true rfl⟩ [16, 17] rfl rfl 16 rfl rfl rfl hl.1 (Nat.le_of_ble_eq_true rfl) dX6_takeItem_108 ⟨Nat.le_of_ble_eq_true rfl, Nat.le_of_ble_eq_true rfl⟩) (fun r_13 u_13 H locs hp_13 G => ?_)
                have G : wd X (va_A (@HAppend.hAppend va_W va_W va_W _ (rdV X h0 hb n bd vd fd) (rcW X hn an v b g)) sz) (va_A (@HAppend.hAppend va_W va_W va_W _ (rdV X h0 hb n bd vd fd) (rcW X hn an v b g)) sz) s (@HAppend.hAppend va_W va_W va_W _ (rcW X hn an v b g) (rdV X h0 hb n b_1a v_1b fd)) H locs := G
                rcases hp_13 with rfl | rfl
                · refine lv_if_eq (tgt := 122) zx zb dX6_takeItem_111 (by decide) (fun c_14 => ?_) (fun c_14 => absurd (by decide) c_14)
                  refine lv_aload_n zx zb dX6_takeItem_122 rfl (lv_at hl 0 rfl) ?_
                  refine lv_aload_n zx zb dX6_takeItem_123 rfl (lv_at hl 0 rfl) ?_
                  refine r_get (C := RX6) (T := TX6) (N := 7) (ci := 4) (v := .int (nI (b_1a 1))) S in_X6_takeItem_X6 G 16 rfl rfl 3 (by decide) lk_X6_takeItem_22 rfl dX6_takeItem_124 ?_
                  refine r_put (C := RX6) (T := TX6) (N := 7) (ci := 4) (v := .int (nI (b_1a 1))) S in_X6_takeItem_X6 tyX6_ok nmX6 G 16 rfl rfl 6 (by decide) lk_X6_takeItem_31 rfl (vp_nar_int _) rfl (Nat.le_of_ble_eq_true rfl) dX6_takeItem_127 (fun H locs G => ?_)
                  obtain ⟨v_15, ⟨hE_v_15_2, hE_v_15_0, hE_v_15_1⟩, G⟩ : ∃ v_15 : Nat → Int32, (v_15 2 = (nI (b_1a 1)) ∧ v_15 0 = v_1b 0 ∧ v_15 1 = v_1b 1) ∧ wd X (va_A (@HAppend.hAppend va_W va_W va_W _ (rdV X h0 hb n bd vd fd) (rcW X hn an v b g)) sz) (va_A (@HAppend.hAppend va_W va_W va_W _ (rdV X h0 hb n bd vd fd) (rcW X hn an v b g)) sz) s (@HAppend.hAppend va_W va_W va_W _ (rcW X hn an v b g) (rdV X h0 hb n b_1a v_15 fd)) H locs := ⟨upd v_1b 2 (nI (b_1a 1)), ⟨rfl, rfl, rfl⟩, G⟩
                  exact e_void S zr zlk G (b_1a, v_15, v, b, g) [16, 17, 0, 1, 2, 3, 4, 5, 6, 7, 8, 9, 10, 11, 12, 13, 14, 15] rfl rfl (Or.inr rfl) (⟨hI_b_1a, hI_b, ⟨by first | omega | (dsimp only; omega), by first | omega | (dsimp only; omega)⟩⟩) dX6_takeItem_130
                · refine lv_if_eq (tgt := 122) zx zb dX6_takeItem_111 (by decide) (fun c_16 => absurd c_16 (by decide)) (fun c_16 => ?_)
                  refine lv_aload_n zx zb dX6_takeItem_114 rfl (lv_at hl 0 rfl) ?_
                  refine lv_aload_n zx zb dX6_takeItem_115 rfl (lv_at hl 1 rfl) ?_
                  refine b_wv (cells' := 0) (slots' := 0) (wr := []) G rfl rfl [16, 17, 0, 1, 2, 3, 4, 5, 6, 7, 8, 9, 10, 11, 12, 13, 14, 15] [] rfl rfl rfl rfl (n_V (As := [.ref hn]) (rest := []) (C := RX6) (T := TX6) (N := 7) (ci := 4) S G (s_takeTicks l X h0 hb n b_1a v_1b fd hn an v b g hI_n hI_b_1a hI_b ⟨by omega, by omega⟩ H.size) gX6_takeItem_X6_takeTicks rfl rfl rfl hdV_X6_takeTicks ⟨Nat.le_of_ble_eq_true rfl, Nat.le_of_ble_eq_true rfl⟩ [16, 17, 0, 1, 2, 3, 4, 5, 6, 7, 8, 9, 10, 11, 12, 13, 14, 15] rfl rfl 16 rfl rfl rfl hl.1 (Nat.le_of_ble_eq_true rfl) dX6_takeItem_116 ⟨Nat.le_of_ble_eq_true rfl, Nat.le_of_ble_eq_true rfl⟩) (fun u_17 H locs hp_17 G => ?_)
                  obtain ⟨b_17a, v_17b, v_17c, b_17d, g_17e⟩ := u_17
                  try dsimp only at hp_17
                  obtain ⟨hI_b_17a, hI_b_17d, hq_17⟩ := hp_17
                  have hO_b_17a := hI_b_17a
                  obtain ⟨hd0_b_17a, hd1_b_17a⟩ := hO_b_17a
                  have hO_b_17d := hI_b_17d
                  obtain ⟨hb0_b_17d, hb1_b_17d, hb2_b_17d, hb3_b_17d, hb4_b_17d⟩ := hO_b_17d
                  have G : wd X (va_A (@HAppend.hAppend va_W va_W va_W _ (rdV X h0 hb n bd vd fd) (rcW X hn an v b g)) sz) (va_A (@HAppend.hAppend va_W va_W va_W _ (rdV X h0 hb n bd vd fd) (rcW X hn an v b g)) sz) s (@HAppend.hAppend va_W va_W va_W _ (rdV X h0 hb n b_17a v_17b fd) (rcW X hn an v_17c b_17d g_17e)) H locs := G
                  obtain ⟨hz0_17, hz1_17⟩ := hq_17
                  refine lv_goto (tgt := 130) zx zb dX6_takeItem_119 (by decide) ?_
                  exact e_void S zr zlk G (b_17a, v_17b, v_17c, b_17d, g_17e) [0, 1, 2, 3, 4, 5, 6, 7, 8, 9, 10, 11, 12, 13, 14, 15, 16, 17] rfl rfl (Or.inr rfl) (⟨hI_b_17a, hI_b_17d, ⟨by first | omega | (dsimp only; omega), by first | omega | (dsimp only; omega)⟩⟩) dX6_takeItem_130
              · refine lv_if_eq (tgt := 105) zx zb dX6_takeItem_94 (by decide) (fun c_18 => absurd c_18 (by decide)) (fun c_18 => ?_)
                refine lv_aload_n zx zb dX6_takeItem_97 rfl (lv_at hl 0 rfl) ?_
                refine lv_aload_n zx zb dX6_takeItem_98 rfl (lv_at hl 1 rfl) ?_
                refine b_wv (cells' := 0) (slots' := 0) (wr := []) G rfl rfl [16, 17, 0, 1, 2, 3, 4, 5, 6, 7, 8, 9, 10, 11, 12, 13, 14, 15] [] rfl rfl rfl rfl (n_V (As := [.ref hn]) (rest := []) (C := RX6) (T := TX6) (N := 7) (ci := 4) S G (s_takeStart l X h0 hb n b_1a v_1b fd hn an v b g hI_n hI_b_1a hI_b ⟨by omega, by omega⟩ H.size) gX6_takeItem_X6_takeStart rfl rfl rfl hdV_X6_takeStart ⟨Nat.le_of_ble_eq_true rfl, Nat.le_of_ble_eq_true rfl⟩ [16, 17, 0, 1, 2, 3, 4, 5, 6, 7, 8, 9, 10, 11, 12, 13, 14, 15] rfl rfl 16 rfl rfl rfl hl.1 (Nat.le_of_ble_eq_true rfl) dX6_takeItem_99 ⟨Nat.le_of_ble_eq_true rfl, Nat.le_of_ble_eq_true rfl⟩) (fun u_19 H locs hp_19 G => ?_)
                obtain ⟨b_19a, v_19b, v_19c⟩ := u_19
                try dsimp only at hp_19
                obtain ⟨hI_b_19a, hq_19⟩ := hp_19
                have hO_b_19a := hI_b_19a
                obtain ⟨hd0_b_19a, hd1_b_19a⟩ := hO_b_19a
                have hO_b := hI_b
                obtain ⟨hb0_b, hb1_b, hb2_b, hb3_b, hb4_b⟩ := hO_b
                have G : wd X (va_A (@HAppend.hAppend va_W va_W va_W _ (rdV X h0 hb n bd vd fd) (rcW X hn an v b g)) sz) (va_A (@HAppend.hAppend va_W va_W va_W _ (rdV X h0 hb n bd vd fd) (rcW X hn an v b g)) sz) s (@HAppend.hAppend va_W va_W va_W _ (rdV X h0 hb n b_19a v_19b fd) (rcW X hn an v_19c b g)) H locs := G
                obtain ⟨hz0_19, hz1_19⟩ := hq_19
                refine lv_goto (tgt := 130) zx zb dX6_takeItem_102 (by decide) ?_
                exact e_void S zr zlk G (b_19a, v_19b, v_19c, b, g) [0, 1, 2, 3, 4, 5, 6, 7, 8, 9, 10, 11, 12, 13, 14, 15, 16, 17] rfl rfl (Or.inr rfl) (⟨hI_b_19a, hI_b, ⟨by first | omega | (dsimp only; omega), by first | omega | (dsimp only; omega)⟩⟩) dX6_takeItem_130
            · refine lv_if_eq (tgt := 88) zx zb dX6_takeItem_77 (by decide) (fun c_20 => absurd c_20 (by decide)) (fun c_20 => ?_)
              refine lv_aload_n zx zb dX6_takeItem_80 rfl (lv_at hl 0 rfl) ?_
              refine lv_aload_n zx zb dX6_takeItem_81 rfl (lv_at hl 1 rfl) ?_
              refine b_wv (cells' := 0) (slots' := 0) (wr := []) G rfl rfl [16, 17, 0, 1, 2, 3, 4, 5, 6, 7, 8, 9, 10, 11, 12, 13, 14, 15] [] rfl rfl rfl rfl (n_V (As := [.ref hn]) (rest := []) (C := RX6) (T := TX6) (N := 7) (ci := 4) S G (s_takeSpeed l X h0 hb n b_1a v_1b fd hn an v b g hI_n hI_b_1a hI_b ⟨by omega, by omega⟩ H.size) gX6_takeItem_X6_takeSpeed rfl rfl rfl hdV_X6_takeSpeed ⟨Nat.le_of_ble_eq_true rfl, Nat.le_of_ble_eq_true rfl⟩ [16, 17, 0, 1, 2, 3, 4, 5, 6, 7, 8, 9, 10, 11, 12, 13, 14, 15] rfl rfl 16 rfl rfl rfl hl.1 (Nat.le_of_ble_eq_true rfl) dX6_takeItem_82 ⟨Nat.le_of_ble_eq_true rfl, Nat.le_of_ble_eq_true rfl⟩) (fun u_21 H locs hp_21 G => ?_)
              obtain ⟨b_21a, v_21b, v_21c⟩ := u_21
              try dsimp only at hp_21
              obtain ⟨hI_b_21a, hq_21⟩ := hp_21
              have hO_b_21a := hI_b_21a
              obtain ⟨hd0_b_21a, hd1_b_21a⟩ := hO_b_21a
              have hO_b := hI_b
              obtain ⟨hb0_b, hb1_b, hb2_b, hb3_b, hb4_b⟩ := hO_b
              have G : wd X (va_A (@HAppend.hAppend va_W va_W va_W _ (rdV X h0 hb n bd vd fd) (rcW X hn an v b g)) sz) (va_A (@HAppend.hAppend va_W va_W va_W _ (rdV X h0 hb n bd vd fd) (rcW X hn an v b g)) sz) s (@HAppend.hAppend va_W va_W va_W _ (rdV X h0 hb n b_21a v_21b fd) (rcW X hn an v_21c b g)) H locs := G
              obtain ⟨hz0_21, hz1_21⟩ := hq_21
              refine lv_goto (tgt := 130) zx zb dX6_takeItem_85 (by decide) ?_
              exact e_void S zr zlk G (b_21a, v_21b, v_21c, b, g) [0, 1, 2, 3, 4, 5, 6, 7, 8, 9, 10, 11, 12, 13, 14, 15, 16, 17] rfl rfl (Or.inr rfl) (⟨hI_b_21a, hI_b, ⟨by first | omega | (dsimp only; omega), by first | omega | (dsimp only; omega)⟩⟩) dX6_takeItem_130
          · refine lv_if_eq (tgt := 71) zx zb dX6_takeItem_51 (by decide) (fun c_22 => absurd c_22 (by decide)) (fun c_22 => ?_)
            refine lv_aload_n zx zb dX6_takeItem_54 rfl (lv_at hl 1 rfl) ?_
            refine r_get (C := RX5) (T := TX5) (N := 8) (ci := 3) (v := .int (nI (b 0))) S in_X6_takeItem_X5 G 0 rfl rfl 2 (by decide) lk_X6_takeItem_56 rfl dX6_takeItem_55 ?_
            refine lv_bipush (v := 6) zx zb dX6_takeItem_58 (by decide) ?_
            refine lv_icmp_ge (tgt := 71) zx zb dX6_takeItem_60 (by decide) (fun c_23 => ?_) (fun c_23 => ?_)
            · have fc_23 := j_le (a := 6) (b := (b 0)) (by omega) (by omega) c_23
              refine lv_aload_n zx zb dX6_takeItem_71 rfl (lv_at hl 0 rfl) ?_
              refine va_ldcS zx zb S.2.2.2.1 hZ.2.2.2.1 dX6_takeItem_72 ?_
              refine o_ri (cells' := 0) (slots' := 0) G rfl rfl (n_VS (As := [.ref (K.1 2)]) (rest := []) (C := RX6) (T := TX6) (N := 7) (ci := 4) S G hZ (s_spells l X K h0 hb n b_1a v_1b fd 2 hI_n hI_b_1a ⟨by omega, by omega⟩ (by omega) H.size) gX6_takeItem_X6_spells rfl rfl rfl hdV_X6_spells ⟨Nat.le_of_ble_eq_true rfl, Nat.le_of_ble_eq_true rfl⟩ [16, 17] rfl rfl 16 rfl rfl rfl hl.1 (Nat.le_of_ble_eq_true rfl) dX6_takeItem_74 ⟨Nat.le_of_ble_eq_true rfl, Nat.le_of_ble_eq_true rfl⟩) (fun r_24 u_24 H locs hp_24 G => ?_)
              have G : wd X (va_A (@HAppend.hAppend va_W va_W va_W _ (rdV X h0 hb n bd vd fd) (rcW X hn an v b g)) sz) (va_A (@HAppend.hAppend va_W va_W va_W _ (rdV X h0 hb n bd vd fd) (rcW X hn an v b g)) sz) s (@HAppend.hAppend va_W va_W va_W _ (rcW X hn an v b g) (rdV X h0 hb n b_1a v_1b fd)) H locs := G
              rcases hp_24 with rfl | rfl
              · refine lv_if_eq (tgt := 88) zx zb dX6_takeItem_77 (by decide) (fun c_25 => ?_) (fun c_25 => absurd (by decide) c_25)
                refine lv_aload_n zx zb dX6_takeItem_88 rfl (lv_at hl 0 rfl) ?_
                refine va_ldcS zx zb S.2.2.2.1 hZ.2.2.2.2.1 dX6_takeItem_89 ?_
                refine o_ri (cells' := 0) (slots' := 0) G rfl rfl (n_VS (As := [.ref (K.1 3)]) (rest := []) (C := RX6) (T := TX6) (N := 7) (ci := 4) S G hZ (s_spells l X K h0 hb n b_1a v_1b fd 3 hI_n hI_b_1a ⟨by omega, by omega⟩ (by omega) H.size) gX6_takeItem_X6_spells rfl rfl rfl hdV_X6_spells ⟨Nat.le_of_ble_eq_true rfl, Nat.le_of_ble_eq_true rfl⟩ [16, 17] rfl rfl 16 rfl rfl rfl hl.1 (Nat.le_of_ble_eq_true rfl) dX6_takeItem_91 ⟨Nat.le_of_ble_eq_true rfl, Nat.le_of_ble_eq_true rfl⟩) (fun r_26 u_26 H locs hp_26 G => ?_)
                have G : wd X (va_A (@HAppend.hAppend va_W va_W va_W _ (rdV X h0 hb n bd vd fd) (rcW X hn an v b g)) sz) (va_A (@HAppend.hAppend va_W va_W va_W _ (rdV X h0 hb n bd vd fd) (rcW X hn an v b g)) sz) s (@HAppend.hAppend va_W va_W va_W _ (rcW X hn an v b g) (rdV X h0 hb n b_1a v_1b fd)) H locs := G
                rcases hp_26 with rfl | rfl
                · refine lv_if_eq (tgt := 105) zx zb dX6_takeItem_94 (by decide) (fun c_27 => ?_) (fun c_27 => absurd (by decide) c_27)
                  refine lv_aload_n zx zb dX6_takeItem_105 rfl (lv_at hl 0 rfl) ?_
                  refine va_ldcS zx zb S.2.2.2.1 hZ.2.2.2.2.2 dX6_takeItem_106 ?_
                  refine o_ri (cells' := 0) (slots' := 0) G rfl rfl (n_VS (As := [.ref (K.1 4)]) (rest := []) (C := RX6) (T := TX6) (N := 7) (ci := 4) S G hZ (s_spells l X K h0 hb n b_1a v_1b fd 4 hI_n hI_b_1a ⟨by omega, by omega⟩ (by omega) H.size) gX6_takeItem_X6_spells rfl rfl rfl hdV_X6_spells ⟨Nat.le_of_ble_eq_true rfl, Nat.le_of_ble_eq_true rfl⟩ [16, 17] rfl rfl 16 rfl rfl rfl hl.1 (Nat.le_of_ble_eq_true rfl) dX6_takeItem_108 ⟨Nat.le_of_ble_eq_true rfl, Nat.le_of_ble_eq_true rfl⟩) (fun r_28 u_28 H locs hp_28 G => ?_)
                  have G : wd X (va_A (@HAppend.hAppend va_W va_W va_W _ (rdV X h0 hb n bd vd fd) (rcW X hn an v b g)) sz) (va_A (@HAppend.hAppend va_W va_W va_W _ (rdV X h0 hb n bd vd fd) (rcW X hn an v b g)) sz) s (@HAppend.hAppend va_W va_W va_W _ (rcW X hn an v b g) (rdV X h0 hb n b_1a v_1b fd)) H locs := G
                  rcases hp_28 with rfl | rfl
                  · refine lv_if_eq (tgt := 122) zx zb dX6_takeItem_111 (by decide) (fun c_29 => ?_) (fun c_29 => absurd (by decide) c_29)
                    refine lv_aload_n zx zb dX6_takeItem_122 rfl (lv_at hl 0 rfl) ?_
                    refine lv_aload_n zx zb dX6_takeItem_123 rfl (lv_at hl 0 rfl) ?_
                    refine r_get (C := RX6) (T := TX6) (N := 7) (ci := 4) (v := .int (nI (b_1a 1))) S in_X6_takeItem_X6 G 16 rfl rfl 3 (by decide) lk_X6_takeItem_22 rfl dX6_takeItem_124 ?_
                    refine r_put (C := RX6) (T := TX6) (N := 7) (ci := 4) (v := .int (nI (b_1a 1))) S in_X6_takeItem_X6 tyX6_ok nmX6 G 16 rfl rfl 6 (by decide) lk_X6_takeItem_31 rfl (vp_nar_int _) rfl (Nat.le_of_ble_eq_true rfl) dX6_takeItem_127 (fun H locs G => ?_)
                    obtain ⟨v_30, ⟨hE_v_30_2, hE_v_30_0, hE_v_30_1⟩, G⟩ : ∃ v_30 : Nat → Int32, (v_30 2 = (nI (b_1a 1)) ∧ v_30 0 = v_1b 0 ∧ v_30 1 = v_1b 1) ∧ wd X (va_A (@HAppend.hAppend va_W va_W va_W _ (rdV X h0 hb n bd vd fd) (rcW X hn an v b g)) sz) (va_A (@HAppend.hAppend va_W va_W va_W _ (rdV X h0 hb n bd vd fd) (rcW X hn an v b g)) sz) s (@HAppend.hAppend va_W va_W va_W _ (rcW X hn an v b g) (rdV X h0 hb n b_1a v_30 fd)) H locs := ⟨upd v_1b 2 (nI (b_1a 1)), ⟨rfl, rfl, rfl⟩, G⟩
                    exact e_void S zr zlk G (b_1a, v_30, v, b, g) [16, 17, 0, 1, 2, 3, 4, 5, 6, 7, 8, 9, 10, 11, 12, 13, 14, 15] rfl rfl (Or.inr rfl) (⟨hI_b_1a, hI_b, ⟨by first | omega | (dsimp only; omega), by first | omega | (dsimp only; omega)⟩⟩) dX6_takeItem_130
                  · refine lv_if_eq (tgt := 122) zx zb dX6_takeItem_111 (by decide) (fun c_31 => absurd c_31 (by decide)) (fun c_31 => ?_)
                    refine lv_aload_n zx zb dX6_takeItem_114 rfl (lv_at hl 0 rfl) ?_
                    refine lv_aload_n zx zb dX6_takeItem_115 rfl (lv_at hl 1 rfl) ?_
                    refine b_wv (cells' := 0) (slots' := 0) (wr := []) G rfl rfl [16, 17, 0, 1, 2, 3, 4, 5, 6, 7, 8, 9, 10, 11, 12, 13, 14, 15] [] rfl rfl rfl rfl (n_V (As := [.ref hn]) (rest := []) (C := RX6) (T := TX6) (N := 7) (ci := 4) S G (s_takeTicks l X h0 hb n b_1a v_1b fd hn an v b g hI_n hI_b_1a hI_b ⟨by omega, by omega⟩ H.size) gX6_takeItem_X6_takeTicks rfl rfl rfl hdV_X6_takeTicks ⟨Nat.le_of_ble_eq_true rfl, Nat.le_of_ble_eq_true rfl⟩ [16, 17, 0, 1, 2, 3, 4, 5, 6, 7, 8, 9, 10, 11, 12, 13, 14, 15] rfl rfl 16 rfl rfl rfl hl.1 (Nat.le_of_ble_eq_true rfl) dX6_takeItem_116 ⟨Nat.le_of_ble_eq_true rfl, Nat.le_of_ble_eq_true rfl⟩) (fun u_32 H locs hp_32 G => ?_)
                    obtain ⟨b_32a, v_32b, v_32c, b_32d, g_32e⟩ := u_32
                    try dsimp only at hp_32
                    obtain ⟨hI_b_32a, hI_b_32d, hq_32⟩ := hp_32
                    have hO_b_32a := hI_b_32a
                    obtain ⟨hd0_b_32a, hd1_b_32a⟩ := hO_b_32a
                    have hO_b_32d := hI_b_32d
                    obtain ⟨hb0_b_32d, hb1_b_32d, hb2_b_32d, hb3_b_32d, hb4_b_32d⟩ := hO_b_32d
                    have G : wd X (va_A (@HAppend.hAppend va_W va_W va_W _ (rdV X h0 hb n bd vd fd) (rcW X hn an v b g)) sz) (va_A (@HAppend.hAppend va_W va_W va_W _ (rdV X h0 hb n bd vd fd) (rcW X hn an v b g)) sz) s (@HAppend.hAppend va_W va_W va_W _ (rdV X h0 hb n b_32a v_32b fd) (rcW X hn an v_32c b_32d g_32e)) H locs := G
                    obtain ⟨hz0_32, hz1_32⟩ := hq_32
                    refine lv_goto (tgt := 130) zx zb dX6_takeItem_119 (by decide) ?_
                    exact e_void S zr zlk G (b_32a, v_32b, v_32c, b_32d, g_32e) [0, 1, 2, 3, 4, 5, 6, 7, 8, 9, 10, 11, 12, 13, 14, 15, 16, 17] rfl rfl (Or.inr rfl) (⟨hI_b_32a, hI_b_32d, ⟨by first | omega | (dsimp only; omega), by first | omega | (dsimp only; omega)⟩⟩) dX6_takeItem_130
                · refine lv_if_eq (tgt := 105) zx zb dX6_takeItem_94 (by decide) (fun c_33 => absurd c_33 (by decide)) (fun c_33 => ?_)
                  refine lv_aload_n zx zb dX6_takeItem_97 rfl (lv_at hl 0 rfl) ?_
                  refine lv_aload_n zx zb dX6_takeItem_98 rfl (lv_at hl 1 rfl) ?_
                  refine b_wv (cells' := 0) (slots' := 0) (wr := []) G rfl rfl [16, 17, 0, 1, 2, 3, 4, 5, 6, 7, 8, 9, 10, 11, 12, 13, 14, 15] [] rfl rfl rfl rfl (n_V (As := [.ref hn]) (rest := []) (C := RX6) (T := TX6) (N := 7) (ci := 4) S G (s_takeStart l X h0 hb n b_1a v_1b fd hn an v b g hI_n hI_b_1a hI_b ⟨by omega, by omega⟩ H.size) gX6_takeItem_X6_takeStart rfl rfl rfl hdV_X6_takeStart ⟨Nat.le_of_ble_eq_true rfl, Nat.le_of_ble_eq_true rfl⟩ [16, 17, 0, 1, 2, 3, 4, 5, 6, 7, 8, 9, 10, 11, 12, 13, 14, 15] rfl rfl 16 rfl rfl rfl hl.1 (Nat.le_of_ble_eq_true rfl) dX6_takeItem_99 ⟨Nat.le_of_ble_eq_true rfl, Nat.le_of_ble_eq_true rfl⟩) (fun u_34 H locs hp_34 G => ?_)
                  obtain ⟨b_34a, v_34b, v_34c⟩ := u_34
                  try dsimp only at hp_34
                  obtain ⟨hI_b_34a, hq_34⟩ := hp_34
                  have hO_b_34a := hI_b_34a
                  obtain ⟨hd0_b_34a, hd1_b_34a⟩ := hO_b_34a
                  have hO_b := hI_b
                  obtain ⟨hb0_b, hb1_b, hb2_b, hb3_b, hb4_b⟩ := hO_b
                  have G : wd X (va_A (@HAppend.hAppend va_W va_W va_W _ (rdV X h0 hb n bd vd fd) (rcW X hn an v b g)) sz) (va_A (@HAppend.hAppend va_W va_W va_W _ (rdV X h0 hb n bd vd fd) (rcW X hn an v b g)) sz) s (@HAppend.hAppend va_W va_W va_W _ (rdV X h0 hb n b_34a v_34b fd) (rcW X hn an v_34c b g)) H locs := G
                  obtain ⟨hz0_34, hz1_34⟩ := hq_34
                  refine lv_goto (tgt := 130) zx zb dX6_takeItem_102 (by decide) ?_
                  exact e_void S zr zlk G (b_34a, v_34b, v_34c, b, g) [0, 1, 2, 3, 4, 5, 6, 7, 8, 9, 10, 11, 12, 13, 14, 15, 16, 17] rfl rfl (Or.inr rfl) (⟨hI_b_34a, hI_b, ⟨by first | omega | (dsimp only; omega), by first | omega | (dsimp only; omega)⟩⟩) dX6_takeItem_130
              · refine lv_if_eq (tgt := 88) zx zb dX6_takeItem_77 (by decide) (fun c_35 => absurd c_35 (by decide)) (fun c_35 => ?_)
                refine lv_aload_n zx zb dX6_takeItem_80 rfl (lv_at hl 0 rfl) ?_
                refine lv_aload_n zx zb dX6_takeItem_81 rfl (lv_at hl 1 rfl) ?_
                refine b_wv (cells' := 0) (slots' := 0) (wr := []) G rfl rfl [16, 17, 0, 1, 2, 3, 4, 5, 6, 7, 8, 9, 10, 11, 12, 13, 14, 15] [] rfl rfl rfl rfl (n_V (As := [.ref hn]) (rest := []) (C := RX6) (T := TX6) (N := 7) (ci := 4) S G (s_takeSpeed l X h0 hb n b_1a v_1b fd hn an v b g hI_n hI_b_1a hI_b ⟨by omega, by omega⟩ H.size) gX6_takeItem_X6_takeSpeed rfl rfl rfl hdV_X6_takeSpeed ⟨Nat.le_of_ble_eq_true rfl, Nat.le_of_ble_eq_true rfl⟩ [16, 17, 0, 1, 2, 3, 4, 5, 6, 7, 8, 9, 10, 11, 12, 13, 14, 15] rfl rfl 16 rfl rfl rfl hl.1 (Nat.le_of_ble_eq_true rfl) dX6_takeItem_82 ⟨Nat.le_of_ble_eq_true rfl, Nat.le_of_ble_eq_true rfl⟩) (fun u_36 H locs hp_36 G => ?_)
                obtain ⟨b_36a, v_36b, v_36c⟩ := u_36
                try dsimp only at hp_36
                obtain ⟨hI_b_36a, hq_36⟩ := hp_36
                have hO_b_36a := hI_b_36a
                obtain ⟨hd0_b_36a, hd1_b_36a⟩ := hO_b_36a
                have hO_b := hI_b
                obtain ⟨hb0_b, hb1_b, hb2_b, hb3_b, hb4_b⟩ := hO_b
                have G : wd X (va_A (@HAppend.hAppend va_W va_W va_W _ (rdV X h0 hb n bd vd fd) (rcW X hn an v b g)) sz) (va_A (@HAppend.hAppend va_W va_W va_W _ (rdV X h0 hb n bd vd fd) (rcW X hn an v b g)) sz) s (@HAppend.hAppend va_W va_W va_W _ (rdV X h0 hb n b_36a v_36b fd) (rcW X hn an v_36c b g)) H locs := G
                obtain ⟨hz0_36, hz1_36⟩ := hq_36
                refine lv_goto (tgt := 130) zx zb dX6_takeItem_85 (by decide) ?_
                exact e_void S zr zlk G (b_36a, v_36b, v_36c, b, g) [0, 1, 2, 3, 4, 5, 6, 7, 8, 9, 10, 11, 12, 13, 14, 15, 16, 17] rfl rfl (Or.inr rfl) (⟨hI_b_36a, hI_b, ⟨by first | omega | (dsimp only; omega), by first | omega | (dsimp only; omega)⟩⟩) dX6_takeItem_130
            · have fc_23 := j_nle (a := 6) (b := (b 0)) (by omega) (by omega) c_23
              refine lv_aload_n zx zb dX6_takeItem_63 rfl (lv_at hl 0 rfl) ?_
              refine lv_aload_n zx zb dX6_takeItem_64 rfl (lv_at hl 1 rfl) ?_
              refine b_wv (cells' := 0) (slots' := 0) (wr := []) G rfl rfl [16, 17, 0, 1, 2, 3, 4, 5, 6, 7, 8, 9, 10, 11, 12, 13, 14, 15] [] rfl rfl rfl rfl (n_V (As := [.ref hn]) (rest := []) (C := RX6) (T := TX6) (N := 7) (ci := 4) S G (s_takeRunner l X h0 hb n b_1a v_1b fd hn an v b g hI_n hI_b_1a hI_b ⟨by omega, by omega⟩ H.size) gX6_takeItem_X6_takeRunner rfl rfl rfl hdV_X6_takeRunner ⟨Nat.le_of_ble_eq_true rfl, Nat.le_of_ble_eq_true rfl⟩ [16, 17, 0, 1, 2, 3, 4, 5, 6, 7, 8, 9, 10, 11, 12, 13, 14, 15] rfl rfl 16 rfl rfl rfl hl.1 (Nat.le_of_ble_eq_true rfl) dX6_takeItem_65 ⟨Nat.le_of_ble_eq_true rfl, Nat.le_of_ble_eq_true rfl⟩) (fun u_37 H locs hp_37 G => ?_)
              obtain ⟨b_37a, v_37b, v_37c, b_37d, g_37e⟩ := u_37
              try dsimp only at hp_37
              obtain ⟨hI_b_37a, hI_b_37d, hq_37⟩ := hp_37
              have hO_b_37a := hI_b_37a
              obtain ⟨hd0_b_37a, hd1_b_37a⟩ := hO_b_37a
              have hO_b_37d := hI_b_37d
              obtain ⟨hb0_b_37d, hb1_b_37d, hb2_b_37d, hb3_b_37d, hb4_b_37d⟩ := hO_b_37d
              have G : wd X (va_A (@HAppend.hAppend va_W va_W va_W _ (rdV X h0 hb n bd vd fd) (rcW X hn an v b g)) sz) (va_A (@HAppend.hAppend va_W va_W va_W _ (rdV X h0 hb n bd vd fd) (rcW X hn an v b g)) sz) s (@HAppend.hAppend va_W va_W va_W _ (rdV X h0 hb n b_37a v_37b fd) (rcW X hn an v_37c b_37d g_37e)) H locs := G
              obtain ⟨hz0_37, hz1_37⟩ := hq_37
              refine lv_goto (tgt := 130) zx zb dX6_takeItem_68 (by decide) ?_
              exact e_void S zr zlk G (b_37a, v_37b, v_37c, b_37d, g_37e) [0, 1, 2, 3, 4, 5, 6, 7, 8, 9, 10, 11, 12, 13, 14, 15, 16, 17] rfl rfl (Or.inr rfl) (⟨hI_b_37a, hI_b_37d, ⟨by first | omega | (dsimp only; omega), by first | omega | (dsimp only; omega)⟩⟩) dX6_takeItem_130
        · refine lv_aload_n zx zb dX6_takeItem_37 rfl (lv_at hl 0 rfl) ?_
          refine lv_aload_n zx zb dX6_takeItem_38 rfl (lv_at hl 1 rfl) ?_
          refine b_wv (cells' := 0) (slots' := 0) (wr := []) G rfl rfl [16, 17, 0, 1, 2, 3, 4, 5, 6, 7, 8, 9, 10, 11, 12, 13, 14, 15] [] rfl rfl rfl rfl (n_V (As := [.ref hn]) (rest := []) (C := RX6) (T := TX6) (N := 7) (ci := 4) S G (s_takeLength l X h0 hb n b_1a v_1b fd hn an v b g hI_n hI_b_1a hI_b ⟨by omega, by omega⟩ H.size) gX6_takeItem_X6_takeLength rfl rfl rfl hdV_X6_takeLength ⟨Nat.le_of_ble_eq_true rfl, Nat.le_of_ble_eq_true rfl⟩ [16, 17, 0, 1, 2, 3, 4, 5, 6, 7, 8, 9, 10, 11, 12, 13, 14, 15] rfl rfl 16 rfl rfl rfl hl.1 (Nat.le_of_ble_eq_true rfl) dX6_takeItem_39 ⟨Nat.le_of_ble_eq_true rfl, Nat.le_of_ble_eq_true rfl⟩) (fun u_38 H locs hp_38 G => ?_)
          obtain ⟨b_38a, v_38b, v_38c, b_38d, g_38e⟩ := u_38
          try dsimp only at hp_38
          obtain ⟨hI_b_38a, hI_b_38d, hq_38⟩ := hp_38
          have hO_b_38a := hI_b_38a
          obtain ⟨hd0_b_38a, hd1_b_38a⟩ := hO_b_38a
          have hO_b_38d := hI_b_38d
          obtain ⟨hb0_b_38d, hb1_b_38d, hb2_b_38d, hb3_b_38d, hb4_b_38d⟩ := hO_b_38d
          have G : wd X (va_A (@HAppend.hAppend va_W va_W va_W _ (rdV X h0 hb n bd vd fd) (rcW X hn an v b g)) sz) (va_A (@HAppend.hAppend va_W va_W va_W _ (rdV X h0 hb n bd vd fd) (rcW X hn an v b g)) sz) s (@HAppend.hAppend va_W va_W va_W _ (rdV X h0 hb n b_38a v_38b fd) (rcW X hn an v_38c b_38d g_38e)) H locs := G
          obtain ⟨hz0_38, hz1_38⟩ := hq_38
          refine lv_goto (tgt := 130) zx zb dX6_takeItem_42 (by decide) ?_
          exact e_void S zr zlk G (b_38a, v_38b, v_38c, b_38d, g_38e) [0, 1, 2, 3, 4, 5, 6, 7, 8, 9, 10, 11, 12, 13, 14, 15, 16, 17] rfl rfl (Or.inr rfl) (⟨hI_b_38a, hI_b_38d, ⟨by first | omega | (dsimp only; omega), by first | omega | (dsimp only; omega)⟩⟩) dX6_takeItem_130
      · refine lv_aload_n zx zb dX6_takeItem_22 rfl (lv_at hl 0 rfl) ?_
        refine lv_aload_n zx zb dX6_takeItem_23 rfl (lv_at hl 0 rfl) ?_
        refine r_get (C := RX6) (T := TX6) (N := 7) (ci := 4) (v := .int (nI (b_1a 1))) S in_X6_takeItem_X6 G 16 rfl rfl 3 (by decide) lk_X6_takeItem_22 rfl dX6_takeItem_24 ?_
        refine r_put (C := RX6) (T := TX6) (N := 7) (ci := 4) (v := .int (nI (b_1a 1))) S in_X6_takeItem_X6 tyX6_ok nmX6 G 16 rfl rfl 6 (by decide) lk_X6_takeItem_31 rfl (vp_nar_int _) rfl (Nat.le_of_ble_eq_true rfl) dX6_takeItem_27 (fun H locs G => ?_)
        obtain ⟨v_39, ⟨hE_v_39_2, hE_v_39_0, hE_v_39_1⟩, G⟩ : ∃ v_39 : Nat → Int32, (v_39 2 = (nI (b_1a 1)) ∧ v_39 0 = v_1b 0 ∧ v_39 1 = v_1b 1) ∧ wd X (va_A (@HAppend.hAppend va_W va_W va_W _ (rdV X h0 hb n bd vd fd) (rcW X hn an v b g)) sz) (va_A (@HAppend.hAppend va_W va_W va_W _ (rdV X h0 hb n bd vd fd) (rcW X hn an v b g)) sz) s (@HAppend.hAppend va_W va_W va_W _ (rcW X hn an v b g) (rdV X h0 hb n b_1a v_39 fd)) H locs := ⟨upd v_1b 2 (nI (b_1a 1)), ⟨rfl, rfl, rfl⟩, G⟩
        refine lv_goto (tgt := 130) zx zb dX6_takeItem_30 (by decide) ?_
        exact e_void S zr zlk G (b_1a, v_39, v, b, g) [16, 17, 0, 1, 2, 3, 4, 5, 6, 7, 8, 9, 10, 11, 12, 13, 14, 15] rfl rfl (Or.inr rfl) (⟨hI_b_1a, hI_b, ⟨by first | omega | (dsimp only; omega), by first | omega | (dsimp only; omega)⟩⟩) dX6_takeItem_130
    · refine lv_iload_n zx zb dX6_takeItem_18 rfl (lv_at hl 2 rfl) ?_
      refine lv_icmp_eq (tgt := 33) zx zb dX6_takeItem_19 (by decide) (fun c_40 => ?_) (fun c_40 => ?_)
      · refine lv_iload_n zx zb dX6_takeItem_33 rfl (lv_at hl 2 rfl) ?_
        refine lv_if_eq (tgt := 45) zx zb dX6_takeItem_34 (by decide) (fun c_41 => ?_) (fun c_41 => ?_)
        · refine lv_aload_n zx zb dX6_takeItem_45 rfl (lv_at hl 0 rfl) ?_
          refine va_ldcS zx zb S.2.2.2.1 hZ.2.2.1 dX6_takeItem_46 ?_
          refine o_ri (cells' := 0) (slots' := 0) G rfl rfl (n_VS (As := [.ref (K.1 1)]) (rest := []) (C := RX6) (T := TX6) (N := 7) (ci := 4) S G hZ (s_spells l X K h0 hb n b_1a v_1b fd 1 hI_n hI_b_1a ⟨by omega, by omega⟩ (by omega) H.size) gX6_takeItem_X6_spells rfl rfl rfl hdV_X6_spells ⟨Nat.le_of_ble_eq_true rfl, Nat.le_of_ble_eq_true rfl⟩ [16, 17] rfl rfl 16 rfl rfl rfl hl.1 (Nat.le_of_ble_eq_true rfl) dX6_takeItem_48 ⟨Nat.le_of_ble_eq_true rfl, Nat.le_of_ble_eq_true rfl⟩) (fun r_42 u_42 H locs hp_42 G => ?_)
          have G : wd X (va_A (@HAppend.hAppend va_W va_W va_W _ (rdV X h0 hb n bd vd fd) (rcW X hn an v b g)) sz) (va_A (@HAppend.hAppend va_W va_W va_W _ (rdV X h0 hb n bd vd fd) (rcW X hn an v b g)) sz) s (@HAppend.hAppend va_W va_W va_W _ (rcW X hn an v b g) (rdV X h0 hb n b_1a v_1b fd)) H locs := G
          rcases hp_42 with rfl | rfl
          · refine lv_if_eq (tgt := 71) zx zb dX6_takeItem_51 (by decide) (fun c_43 => ?_) (fun c_43 => absurd (by decide) c_43)
            refine lv_aload_n zx zb dX6_takeItem_71 rfl (lv_at hl 0 rfl) ?_
            refine va_ldcS zx zb S.2.2.2.1 hZ.2.2.2.1 dX6_takeItem_72 ?_
            refine o_ri (cells' := 0) (slots' := 0) G rfl rfl (n_VS (As := [.ref (K.1 2)]) (rest := []) (C := RX6) (T := TX6) (N := 7) (ci := 4) S G hZ (s_spells l X K h0 hb n b_1a v_1b fd 2 hI_n hI_b_1a ⟨by omega, by omega⟩ (by omega) H.size) gX6_takeItem_X6_spells rfl rfl rfl hdV_X6_spells ⟨Nat.le_of_ble_eq_true rfl, Nat.le_of_ble_eq_true rfl⟩ [16, 17] rfl rfl 16 rfl rfl rfl hl.1 (Nat.le_of_ble_eq_true rfl) dX6_takeItem_74 ⟨Nat.le_of_ble_eq_true rfl, Nat.le_of_ble_eq_true rfl⟩) (fun r_44 u_44 H locs hp_44 G => ?_)
            have G : wd X (va_A (@HAppend.hAppend va_W va_W va_W _ (rdV X h0 hb n bd vd fd) (rcW X hn an v b g)) sz) (va_A (@HAppend.hAppend va_W va_W va_W _ (rdV X h0 hb n bd vd fd) (rcW X hn an v b g)) sz) s (@HAppend.hAppend va_W va_W va_W _ (rcW X hn an v b g) (rdV X h0 hb n b_1a v_1b fd)) H locs := G
            rcases hp_44 with rfl | rfl
            · refine lv_if_eq (tgt := 88) zx zb dX6_takeItem_77 (by decide) (fun c_45 => ?_) (fun c_45 => absurd (by decide) c_45)
              refine lv_aload_n zx zb dX6_takeItem_88 rfl (lv_at hl 0 rfl) ?_
              refine va_ldcS zx zb S.2.2.2.1 hZ.2.2.2.2.1 dX6_takeItem_89 ?_
              refine o_ri (cells' := 0) (slots' := 0) G rfl rfl (n_VS (As := [.ref (K.1 3)]) (rest := []) (C := RX6) (T := TX6) (N := 7) (ci := 4) S G hZ (s_spells l X K h0 hb n b_1a v_1b fd 3 hI_n hI_b_1a ⟨by omega, by omega⟩ (by omega) H.size) gX6_takeItem_X6_spells rfl rfl rfl hdV_X6_spells ⟨Nat.le_of_ble_eq_true rfl, Nat.le_of_ble_eq_true rfl⟩ [16, 17] rfl rfl 16 rfl rfl rfl hl.1 (Nat.le_of_ble_eq_true rfl) dX6_takeItem_91 ⟨Nat.le_of_ble_eq_true rfl, Nat.le_of_ble_eq_true rfl⟩) (fun r_46 u_46 H locs hp_46 G => ?_)
              have G : wd X (va_A (@HAppend.hAppend va_W va_W va_W _ (rdV X h0 hb n bd vd fd) (rcW X hn an v b g)) sz) (va_A (@HAppend.hAppend va_W va_W va_W _ (rdV X h0 hb n bd vd fd) (rcW X hn an v b g)) sz) s (@HAppend.hAppend va_W va_W va_W _ (rcW X hn an v b g) (rdV X h0 hb n b_1a v_1b fd)) H locs := G
              rcases hp_46 with rfl | rfl
              · refine lv_if_eq (tgt := 105) zx zb dX6_takeItem_94 (by decide) (fun c_47 => ?_) (fun c_47 => absurd (by decide) c_47)
                refine lv_aload_n zx zb dX6_takeItem_105 rfl (lv_at hl 0 rfl) ?_
                refine va_ldcS zx zb S.2.2.2.1 hZ.2.2.2.2.2 dX6_takeItem_106 ?_
                refine o_ri (cells' := 0) (slots' := 0) G rfl rfl (n_VS (As := [.ref (K.1 4)]) (rest := []) (C := RX6) (T := TX6) (N := 7) (ci := 4) S G hZ (s_spells l X K h0 hb n b_1a v_1b fd 4 hI_n hI_b_1a ⟨by omega, by omega⟩ (by omega) H.size) gX6_takeItem_X6_spells rfl rfl rfl hdV_X6_spells ⟨Nat.le_of_ble_eq_true rfl, Nat.le_of_ble_eq_true rfl⟩ [16, 17] rfl rfl 16 rfl rfl rfl hl.1 (Nat.le_of_ble_eq_true rfl) dX6_takeItem_108 ⟨Nat.le_of_ble_eq_true rfl, Nat.le_of_ble_eq_true rfl⟩) (fun r_48 u_48 H locs hp_48 G => ?_)
                have G : wd X (va_A (@HAppend.hAppend va_W va_W va_W _ (rdV X h0 hb n bd vd fd) (rcW X hn an v b g)) sz) (va_A (@HAppend.hAppend va_W va_W va_W _ (rdV X h0 hb n bd vd fd) (rcW X hn an v b g)) sz) s (@HAppend.hAppend va_W va_W va_W _ (rcW X hn an v b g) (rdV X h0 hb n b_1a v_1b fd)) H locs := G
                rcases hp_48 with rfl | rfl
                · refine lv_if_eq (tgt := 122) zx zb dX6_takeItem_111 (by decide) (fun c_49 => ?_) (fun c_49 => absurd (by decide) c_49)
                  refine lv_aload_n zx zb dX6_takeItem_122 rfl (lv_at hl 0 rfl) ?_
                  refine lv_aload_n zx zb dX6_takeItem_123 rfl (lv_at hl 0 rfl) ?_
                  refine r_get (C := RX6) (T := TX6) (N := 7) (ci := 4) (v := .int (nI (b_1a 1))) S in_X6_takeItem_X6 G 16 rfl rfl 3 (by decide) lk_X6_takeItem_22 rfl dX6_takeItem_124 ?_
                  refine r_put (C := RX6) (T := TX6) (N := 7) (ci := 4) (v := .int (nI (b_1a 1))) S in_X6_takeItem_X6 tyX6_ok nmX6 G 16 rfl rfl 6 (by decide) lk_X6_takeItem_31 rfl (vp_nar_int _) rfl (Nat.le_of_ble_eq_true rfl) dX6_takeItem_127 (fun H locs G => ?_)
                  obtain ⟨v_50, ⟨hE_v_50_2, hE_v_50_0, hE_v_50_1⟩, G⟩ : ∃ v_50 : Nat → Int32, (v_50 2 = (nI (b_1a 1)) ∧ v_50 0 = v_1b 0 ∧ v_50 1 = v_1b 1) ∧ wd X (va_A (@HAppend.hAppend va_W va_W va_W _ (rdV X h0 hb n bd vd fd) (rcW X hn an v b g)) sz) (va_A (@HAppend.hAppend va_W va_W va_W _ (rdV X h0 hb n bd vd fd) (rcW X hn an v b g)) sz) s (@HAppend.hAppend va_W va_W va_W _ (rcW X hn an v b g) (rdV X h0 hb n b_1a v_50 fd)) H locs := ⟨upd v_1b 2 (nI (b_1a 1)), ⟨rfl, rfl, rfl⟩, G⟩
                  exact e_void S zr zlk G (b_1a, v_50, v, b, g) [16, 17, 0, 1, 2, 3, 4, 5, 6, 7, 8, 9, 10, 11, 12, 13, 14, 15] rfl rfl (Or.inr rfl) (⟨hI_b_1a, hI_b, ⟨by first | omega | (dsimp only; omega), by first | omega | (dsimp only; omega)⟩⟩) dX6_takeItem_130
                · refine lv_if_eq (tgt := 122) zx zb dX6_takeItem_111 (by decide) (fun c_51 => absurd c_51 (by decide)) (fun c_51 => ?_)
                  refine lv_aload_n zx zb dX6_takeItem_114 rfl (lv_at hl 0 rfl) ?_
                  refine lv_aload_n zx zb dX6_takeItem_115 rfl (lv_at hl 1 rfl) ?_
                  refine b_wv (cells' := 0) (slots' := 0) (wr := []) G rfl rfl [16, 17, 0, 1, 2, 3, 4, 5, 6, 7, 8, 9, 10, 11, 12, 13, 14, 15] [] rfl rfl rfl rfl (n_V (As := [.ref hn]) (rest := []) (C := RX6) (T := TX6) (N := 7) (ci := 4) S G (s_takeTicks l X h0 hb n b_1a v_1b fd hn an v b g hI_n hI_b_1a hI_b ⟨by omega, by omega⟩ H.size) gX6_takeItem_X6_takeTicks rfl rfl rfl hdV_X6_takeTicks ⟨Nat.le_of_ble_eq_true rfl, Nat.le_of_ble_eq_true rfl⟩ [16, 17, 0, 1, 2, 3, 4, 5, 6, 7, 8, 9, 10, 11, 12, 13, 14, 15] rfl rfl 16 rfl rfl rfl hl.1 (Nat.le_of_ble_eq_true rfl) dX6_takeItem_116 ⟨Nat.le_of_ble_eq_true rfl, Nat.le_of_ble_eq_true rfl⟩) (fun u_52 H locs hp_52 G => ?_)
                  obtain ⟨b_52a, v_52b, v_52c, b_52d, g_52e⟩ := u_52
                  try dsimp only at hp_52
                  obtain ⟨hI_b_52a, hI_b_52d, hq_52⟩ := hp_52
                  have hO_b_52a := hI_b_52a
                  obtain ⟨hd0_b_52a, hd1_b_52a⟩ := hO_b_52a
                  have hO_b_52d := hI_b_52d
                  obtain ⟨hb0_b_52d, hb1_b_52d, hb2_b_52d, hb3_b_52d, hb4_b_52d⟩ := hO_b_52d
                  have G : wd X (va_A (@HAppend.hAppend va_W va_W va_W _ (rdV X h0 hb n bd vd fd) (rcW X hn an v b g)) sz) (va_A (@HAppend.hAppend va_W va_W va_W _ (rdV X h0 hb n bd vd fd) (rcW X hn an v b g)) sz) s (@HAppend.hAppend va_W va_W va_W _ (rdV X h0 hb n b_52a v_52b fd) (rcW X hn an v_52c b_52d g_52e)) H locs := G
                  obtain ⟨hz0_52, hz1_52⟩ := hq_52
                  refine lv_goto (tgt := 130) zx zb dX6_takeItem_119 (by decide) ?_
                  exact e_void S zr zlk G (b_52a, v_52b, v_52c, b_52d, g_52e) [0, 1, 2, 3, 4, 5, 6, 7, 8, 9, 10, 11, 12, 13, 14, 15, 16, 17] rfl rfl (Or.inr rfl) (⟨hI_b_52a, hI_b_52d, ⟨by first | omega | (dsimp only; omega), by first | omega | (dsimp only; omega)⟩⟩) dX6_takeItem_130
              · refine lv_if_eq (tgt := 105) zx zb dX6_takeItem_94 (by decide) (fun c_53 => absurd c_53 (by decide)) (fun c_53 => ?_)
                refine lv_aload_n zx zb dX6_takeItem_97 rfl (lv_at hl 0 rfl) ?_
                refine lv_aload_n zx zb dX6_takeItem_98 rfl (lv_at hl 1 rfl) ?_
                refine b_wv (cells' := 0) (slots' := 0) (wr := []) G rfl rfl [16, 17, 0, 1, 2, 3, 4, 5, 6, 7, 8, 9, 10, 11, 12, 13, 14, 15] [] rfl rfl rfl rfl (n_V (As := [.ref hn]) (rest := []) (C := RX6) (T := TX6) (N := 7) (ci := 4) S G (s_takeStart l X h0 hb n b_1a v_1b fd hn an v b g hI_n hI_b_1a hI_b ⟨by omega, by omega⟩ H.size) gX6_takeItem_X6_takeStart rfl rfl rfl hdV_X6_takeStart ⟨Nat.le_of_ble_eq_true rfl, Nat.le_of_ble_eq_true rfl⟩ [16, 17, 0, 1, 2, 3, 4, 5, 6, 7, 8, 9, 10, 11, 12, 13, 14, 15] rfl rfl 16 rfl rfl rfl hl.1 (Nat.le_of_ble_eq_true rfl) dX6_takeItem_99 ⟨Nat.le_of_ble_eq_true rfl, Nat.le_of_ble_eq_true rfl⟩) (fun u_54 H locs hp_54 G => ?_)
                obtain ⟨b_54a, v_54b, v_54c⟩ := u_54
                try dsimp only at hp_54
                obtain ⟨hI_b_54a, hq_54⟩ := hp_54
                have hO_b_54a := hI_b_54a
                obtain ⟨hd0_b_54a, hd1_b_54a⟩ := hO_b_54a
                have hO_b := hI_b
                obtain ⟨hb0_b, hb1_b, hb2_b, hb3_b, hb4_b⟩ := hO_b
                have G : wd X (va_A (@HAppend.hAppend va_W va_W va_W _ (rdV X h0 hb n bd vd fd) (rcW X hn an v b g)) sz) (va_A (@HAppend.hAppend va_W va_W va_W _ (rdV X h0 hb n bd vd fd) (rcW X hn an v b g)) sz) s (@HAppend.hAppend va_W va_W va_W _ (rdV X h0 hb n b_54a v_54b fd) (rcW X hn an v_54c b g)) H locs := G
                obtain ⟨hz0_54, hz1_54⟩ := hq_54
                refine lv_goto (tgt := 130) zx zb dX6_takeItem_102 (by decide) ?_
                exact e_void S zr zlk G (b_54a, v_54b, v_54c, b, g) [0, 1, 2, 3, 4, 5, 6, 7, 8, 9, 10, 11, 12, 13, 14, 15, 16, 17] rfl rfl (Or.inr rfl) (⟨hI_b_54a, hI_b, ⟨by first | omega | (dsimp only; omega), by first | omega | (dsimp only; omega)⟩⟩) dX6_takeItem_130
            · refine lv_if_eq (tgt := 88) zx zb dX6_takeItem_77 (by decide) (fun c_55 => absurd c_55 (by decide)) (fun c_55 => ?_)
              refine lv_aload_n zx zb dX6_takeItem_80 rfl (lv_at hl 0 rfl) ?_
              refine lv_aload_n zx zb dX6_takeItem_81 rfl (lv_at hl 1 rfl) ?_
              refine b_wv (cells' := 0) (slots' := 0) (wr := []) G rfl rfl [16, 17, 0, 1, 2, 3, 4, 5, 6, 7, 8, 9, 10, 11, 12, 13, 14, 15] [] rfl rfl rfl rfl (n_V (As := [.ref hn]) (rest := []) (C := RX6) (T := TX6) (N := 7) (ci := 4) S G (s_takeSpeed l X h0 hb n b_1a v_1b fd hn an v b g hI_n hI_b_1a hI_b ⟨by omega, by omega⟩ H.size) gX6_takeItem_X6_takeSpeed rfl rfl rfl hdV_X6_takeSpeed ⟨Nat.le_of_ble_eq_true rfl, Nat.le_of_ble_eq_true rfl⟩ [16, 17, 0, 1, 2, 3, 4, 5, 6, 7, 8, 9, 10, 11, 12, 13, 14, 15] rfl rfl 16 rfl rfl rfl hl.1 (Nat.le_of_ble_eq_true rfl) dX6_takeItem_82 ⟨Nat.le_of_ble_eq_true rfl, Nat.le_of_ble_eq_true rfl⟩) (fun u_56 H locs hp_56 G => ?_)
              obtain ⟨b_56a, v_56b, v_56c⟩ := u_56
              try dsimp only at hp_56
              obtain ⟨hI_b_56a, hq_56⟩ := hp_56
              have hO_b_56a := hI_b_56a
              obtain ⟨hd0_b_56a, hd1_b_56a⟩ := hO_b_56a
              have hO_b := hI_b
              obtain ⟨hb0_b, hb1_b, hb2_b, hb3_b, hb4_b⟩ := hO_b
              have G : wd X (va_A (@HAppend.hAppend va_W va_W va_W _ (rdV X h0 hb n bd vd fd) (rcW X hn an v b g)) sz) (va_A (@HAppend.hAppend va_W va_W va_W _ (rdV X h0 hb n bd vd fd) (rcW X hn an v b g)) sz) s (@HAppend.hAppend va_W va_W va_W _ (rdV X h0 hb n b_56a v_56b fd) (rcW X hn an v_56c b g)) H locs := G
              obtain ⟨hz0_56, hz1_56⟩ := hq_56
              refine lv_goto (tgt := 130) zx zb dX6_takeItem_85 (by decide) ?_
              exact e_void S zr zlk G (b_56a, v_56b, v_56c, b, g) [0, 1, 2, 3, 4, 5, 6, 7, 8, 9, 10, 11, 12, 13, 14, 15, 16, 17] rfl rfl (Or.inr rfl) (⟨hI_b_56a, hI_b, ⟨by first | omega | (dsimp only; omega), by first | omega | (dsimp only; omega)⟩⟩) dX6_takeItem_130
          · refine lv_if_eq (tgt := 71) zx zb dX6_takeItem_51 (by decide) (fun c_57 => absurd c_57 (by decide)) (fun c_57 => ?_)
            refine lv_aload_n zx zb dX6_takeItem_54 rfl (lv_at hl 1 rfl) ?_
            refine r_get (C := RX5) (T := TX5) (N := 8) (ci := 3) (v := .int (nI (b 0))) S in_X6_takeItem_X5 G 0 rfl rfl 2 (by decide) lk_X6_takeItem_56 rfl dX6_takeItem_55 ?_
            refine lv_bipush (v := 6) zx zb dX6_takeItem_58 (by decide) ?_
            refine lv_icmp_ge (tgt := 71) zx zb dX6_takeItem_60 (by decide) (fun c_58 => ?_) (fun c_58 => ?_)
            · have fc_58 := j_le (a := 6) (b := (b 0)) (by omega) (by omega) c_58
              refine lv_aload_n zx zb dX6_takeItem_71 rfl (lv_at hl 0 rfl) ?_
              refine va_ldcS zx zb S.2.2.2.1 hZ.2.2.2.1 dX6_takeItem_72 ?_
              refine o_ri (cells' := 0) (slots' := 0) G rfl rfl (n_VS (As := [.ref (K.1 2)]) (rest := []) (C := RX6) (T := TX6) (N := 7) (ci := 4) S G hZ (s_spells l X K h0 hb n b_1a v_1b fd 2 hI_n hI_b_1a ⟨by omega, by omega⟩ (by omega) H.size) gX6_takeItem_X6_spells rfl rfl rfl hdV_X6_spells ⟨Nat.le_of_ble_eq_true rfl, Nat.le_of_ble_eq_true rfl⟩ [16, 17] rfl rfl 16 rfl rfl rfl hl.1 (Nat.le_of_ble_eq_true rfl) dX6_takeItem_74 ⟨Nat.le_of_ble_eq_true rfl, Nat.le_of_ble_eq_true rfl⟩) (fun r_59 u_59 H locs hp_59 G => ?_)
              have G : wd X (va_A (@HAppend.hAppend va_W va_W va_W _ (rdV X h0 hb n bd vd fd) (rcW X hn an v b g)) sz) (va_A (@HAppend.hAppend va_W va_W va_W _ (rdV X h0 hb n bd vd fd) (rcW X hn an v b g)) sz) s (@HAppend.hAppend va_W va_W va_W _ (rcW X hn an v b g) (rdV X h0 hb n b_1a v_1b fd)) H locs := G
              rcases hp_59 with rfl | rfl
              · refine lv_if_eq (tgt := 88) zx zb dX6_takeItem_77 (by decide) (fun c_60 => ?_) (fun c_60 => absurd (by decide) c_60)
                refine lv_aload_n zx zb dX6_takeItem_88 rfl (lv_at hl 0 rfl) ?_
                refine va_ldcS zx zb S.2.2.2.1 hZ.2.2.2.2.1 dX6_takeItem_89 ?_
                refine o_ri (cells' := 0) (slots' := 0) G rfl rfl (n_VS (As := [.ref (K.1 3)]) (rest := []) (C := RX6) (T := TX6) (N := 7) (ci := 4) S G hZ (s_spells l X K h0 hb n b_1a v_1b fd 3 hI_n hI_b_1a ⟨by omega, by omega⟩ (by omega) H.size) gX6_takeItem_X6_spells rfl rfl rfl hdV_X6_spells ⟨Nat.le_of_ble_eq_true rfl, Nat.le_of_ble_eq_true rfl⟩ [16, 17] rfl rfl 16 rfl rfl rfl hl.1 (Nat.le_of_ble_eq_true rfl) dX6_takeItem_91 ⟨Nat.le_of_ble_eq_true rfl, Nat.le_of_ble_eq_true rfl⟩) (fun r_61 u_61 H locs hp_61 G => ?_)
                have G : wd X (va_A (@HAppend.hAppend va_W va_W va_W _ (rdV X h0 hb n bd vd fd) (rcW X hn an v b g)) sz) (va_A (@HAppend.hAppend va_W va_W va_W _ (rdV X h0 hb n bd vd fd) (rcW X hn an v b g)) sz) s (@HAppend.hAppend va_W va_W va_W _ (rcW X hn an v b g) (rdV X h0 hb n b_1a v_1b fd)) H locs := G
                rcases hp_61 with rfl | rfl
                · refine lv_if_eq (tgt := 105) zx zb dX6_takeItem_94 (by decide) (fun c_62 => ?_) (fun c_62 => absurd (by decide) c_62)
                  refine lv_aload_n zx zb dX6_takeItem_105 rfl (lv_at hl 0 rfl) ?_
                  refine va_ldcS zx zb S.2.2.2.1 hZ.2.2.2.2.2 dX6_takeItem_106 ?_
                  refine o_ri (cells' := 0) (slots' := 0) G rfl rfl (n_VS (As := [.ref (K.1 4)]) (rest := []) (C := RX6) (T := TX6) (N := 7) (ci := 4) S G hZ (s_spells l X K h0 hb n b_1a v_1b fd 4 hI_n hI_b_1a ⟨by omega, by omega⟩ (by omega) H.size) gX6_takeItem_X6_spells rfl rfl rfl hdV_X6_spells ⟨Nat.le_of_ble_eq_true rfl, Nat.le_of_ble_eq_true rfl⟩ [16, 17] rfl rfl 16 rfl rfl rfl hl.1 (Nat.le_of_ble_eq_true rfl) dX6_takeItem_108 ⟨Nat.le_of_ble_eq_true rfl, Nat.le_of_ble_eq_true rfl⟩) (fun r_63 u_63 H locs hp_63 G => ?_)
                  have G : wd X (va_A (@HAppend.hAppend va_W va_W va_W _ (rdV X h0 hb n bd vd fd) (rcW X hn an v b g)) sz) (va_A (@HAppend.hAppend va_W va_W va_W _ (rdV X h0 hb n bd vd fd) (rcW X hn an v b g)) sz) s (@HAppend.hAppend va_W va_W va_W _ (rcW X hn an v b g) (rdV X h0 hb n b_1a v_1b fd)) H locs := G
                  rcases hp_63 with rfl | rfl
                  · refine lv_if_eq (tgt := 122) zx zb dX6_takeItem_111 (by decide) (fun c_64 => ?_) (fun c_64 => absurd (by decide) c_64)
                    refine lv_aload_n zx zb dX6_takeItem_122 rfl (lv_at hl 0 rfl) ?_
                    refine lv_aload_n zx zb dX6_takeItem_123 rfl (lv_at hl 0 rfl) ?_
                    refine r_get (C := RX6) (T := TX6) (N := 7) (ci := 4) (v := .int (nI (b_1a 1))) S in_X6_takeItem_X6 G 16 rfl rfl 3 (by decide) lk_X6_takeItem_22 rfl dX6_takeItem_124 ?_
                    refine r_put (C := RX6) (T := TX6) (N := 7) (ci := 4) (v := .int (nI (b_1a 1))) S in_X6_takeItem_X6 tyX6_ok nmX6 G 16 rfl rfl 6 (by decide) lk_X6_takeItem_31 rfl (vp_nar_int _) rfl (Nat.le_of_ble_eq_true rfl) dX6_takeItem_127 (fun H locs G => ?_)
                    obtain ⟨v_65, ⟨hE_v_65_2, hE_v_65_0, hE_v_65_1⟩, G⟩ : ∃ v_65 : Nat → Int32, (v_65 2 = (nI (b_1a 1)) ∧ v_65 0 = v_1b 0 ∧ v_65 1 = v_1b 1) ∧ wd X (va_A (@HAppend.hAppend va_W va_W va_W _ (rdV X h0 hb n bd vd fd) (rcW X hn an v b g)) sz) (va_A (@HAppend.hAppend va_W va_W va_W _ (rdV X h0 hb n bd vd fd) (rcW X hn an v b g)) sz) s (@HAppend.hAppend va_W va_W va_W _ (rcW X hn an v b g) (rdV X h0 hb n b_1a v_65 fd)) H locs := ⟨upd v_1b 2 (nI (b_1a 1)), ⟨rfl, rfl, rfl⟩, G⟩
                    exact e_void S zr zlk G (b_1a, v_65, v, b, g) [16, 17, 0, 1, 2, 3, 4, 5, 6, 7, 8, 9, 10, 11, 12, 13, 14, 15] rfl rfl (Or.inr rfl) (⟨hI_b_1a, hI_b, ⟨by first | omega | (dsimp only; omega), by first | omega | (dsimp only; omega)⟩⟩) dX6_takeItem_130
                  · refine lv_if_eq (tgt := 122) zx zb dX6_takeItem_111 (by decide) (fun c_66 => absurd c_66 (by decide)) (fun c_66 => ?_)
                    refine lv_aload_n zx zb dX6_takeItem_114 rfl (lv_at hl 0 rfl) ?_
                    refine lv_aload_n zx zb dX6_takeItem_115 rfl (lv_at hl 1 rfl) ?_
                    refine b_wv (cells' := 0) (slots' := 0) (wr := []) G rfl rfl [16, 17, 0, 1, 2, 3, 4, 5, 6, 7, 8, 9, 10, 11, 12, 13, 14, 15] [] rfl rfl rfl rfl (n_V (As := [.ref hn]) (rest := []) (C := RX6) (T := TX6) (N := 7) (ci := 4) S G (s_takeTicks l X h0 hb n b_1a v_1b fd hn an v b g hI_n hI_b_1a hI_b ⟨by omega, by omega⟩ H.size) gX6_takeItem_X6_takeTicks rfl rfl rfl hdV_X6_takeTicks ⟨Nat.le_of_ble_eq_true rfl, Nat.le_of_ble_eq_true rfl⟩ [16, 17, 0, 1, 2, 3, 4, 5, 6, 7, 8, 9, 10, 11, 12, 13, 14, 15] rfl rfl 16 rfl rfl rfl hl.1 (Nat.le_of_ble_eq_true rfl) dX6_takeItem_116 ⟨Nat.le_of_ble_eq_true rfl, Nat.le_of_ble_eq_true rfl⟩) (fun u_67 H locs hp_67 G => ?_)
                    obtain ⟨b_67a, v_67b, v_67c, b_67d, g_67e⟩ := u_67
                    try dsimp only at hp_67
                    obtain ⟨hI_b_67a, hI_b_67d, hq_67⟩ := hp_67
                    have hO_b_67a := hI_b_67a
                    obtain ⟨hd0_b_67a, hd1_b_67a⟩ := hO_b_67a
                    have hO_b_67d := hI_b_67d
                    obtain ⟨hb0_b_67d, hb1_b_67d, hb2_b_67d, hb3_b_67d, hb4_b_67d⟩ := hO_b_67d
                    have G : wd X (va_A (@HAppend.hAppend va_W va_W va_W _ (rdV X h0 hb n bd vd fd) (rcW X hn an v b g)) sz) (va_A (@HAppend.hAppend va_W va_W va_W _ (rdV X h0 hb n bd vd fd) (rcW X hn an v b g)) sz) s (@HAppend.hAppend va_W va_W va_W _ (rdV X h0 hb n b_67a v_67b fd) (rcW X hn an v_67c b_67d g_67e)) H locs := G
                    obtain ⟨hz0_67, hz1_67⟩ := hq_67
                    refine lv_goto (tgt := 130) zx zb dX6_takeItem_119 (by decide) ?_
                    exact e_void S zr zlk G (b_67a, v_67b, v_67c, b_67d, g_67e) [0, 1, 2, 3, 4, 5, 6, 7, 8, 9, 10, 11, 12, 13, 14, 15, 16, 17] rfl rfl (Or.inr rfl) (⟨hI_b_67a, hI_b_67d, ⟨by first | omega | (dsimp only; omega), by first | omega | (dsimp only; omega)⟩⟩) dX6_takeItem_130
                · refine lv_if_eq (tgt := 105) zx zb dX6_takeItem_94 (by decide) (fun c_68 => absurd c_68 (by decide)) (fun c_68 => ?_)
                  refine lv_aload_n zx zb dX6_takeItem_97 rfl (lv_at hl 0 rfl) ?_
                  refine lv_aload_n zx zb dX6_takeItem_98 rfl (lv_at hl 1 rfl) ?_
                  refine b_wv (cells' := 0) (slots' := 0) (wr := []) G rfl rfl [16, 17, 0, 1, 2, 3, 4, 5, 6, 7, 8, 9, 10, 11, 12, 13, 14, 15] [] rfl rfl rfl rfl (n_V (As := [.ref hn]) (rest := []) (C := RX6) (T := TX6) (N := 7) (ci := 4) S G (s_takeStart l X h0 hb n b_1a v_1b fd hn an v b g hI_n hI_b_1a hI_b ⟨by omega, by omega⟩ H.size) gX6_takeItem_X6_takeStart rfl rfl rfl hdV_X6_takeStart ⟨Nat.le_of_ble_eq_true rfl, Nat.le_of_ble_eq_true rfl⟩ [16, 17, 0, 1, 2, 3, 4, 5, 6, 7, 8, 9, 10, 11, 12, 13, 14, 15] rfl rfl 16 rfl rfl rfl hl.1 (Nat.le_of_ble_eq_true rfl) dX6_takeItem_99 ⟨Nat.le_of_ble_eq_true rfl, Nat.le_of_ble_eq_true rfl⟩) (fun u_69 H locs hp_69 G => ?_)
                  obtain ⟨b_69a, v_69b, v_69c⟩ := u_69
                  try dsimp only at hp_69
                  obtain ⟨hI_b_69a, hq_69⟩ := hp_69
                  have hO_b_69a := hI_b_69a
                  obtain ⟨hd0_b_69a, hd1_b_69a⟩ := hO_b_69a
                  have hO_b := hI_b
                  obtain ⟨hb0_b, hb1_b, hb2_b, hb3_b, hb4_b⟩ := hO_b
                  have G : wd X (va_A (@HAppend.hAppend va_W va_W va_W _ (rdV X h0 hb n bd vd fd) (rcW X hn an v b g)) sz) (va_A (@HAppend.hAppend va_W va_W va_W _ (rdV X h0 hb n bd vd fd) (rcW X hn an v b g)) sz) s (@HAppend.hAppend va_W va_W va_W _ (rdV X h0 hb n b_69a v_69b fd) (rcW X hn an v_69c b g)) H locs := G
                  obtain ⟨hz0_69, hz1_69⟩ := hq_69
                  refine lv_goto (tgt := 130) zx zb dX6_takeItem_102 (by decide) ?_
                  exact e_void S zr zlk G (b_69a, v_69b, v_69c, b, g) [0, 1, 2, 3, 4, 5, 6, 7, 8, 9, 10, 11, 12, 13, 14, 15, 16, 17] rfl rfl (Or.inr rfl) (⟨hI_b_69a, hI_b, ⟨by first | omega | (dsimp only; omega), by first | omega | (dsimp only; omega)⟩⟩) dX6_takeItem_130
              · refine lv_if_eq (tgt := 88) zx zb dX6_takeItem_77 (by decide) (fun c_70 => absurd c_70 (by decide)) (fun c_70 => ?_)
                refine lv_aload_n zx zb dX6_takeItem_80 rfl (lv_at hl 0 rfl) ?_
                refine lv_aload_n zx zb dX6_takeItem_81 rfl (lv_at hl 1 rfl) ?_
                refine b_wv (cells' := 0) (slots' := 0) (wr := []) G rfl rfl [16, 17, 0, 1, 2, 3, 4, 5, 6, 7, 8, 9, 10, 11, 12, 13, 14, 15] [] rfl rfl rfl rfl (n_V (As := [.ref hn]) (rest := []) (C := RX6) (T := TX6) (N := 7) (ci := 4) S G (s_takeSpeed l X h0 hb n b_1a v_1b fd hn an v b g hI_n hI_b_1a hI_b ⟨by omega, by omega⟩ H.size) gX6_takeItem_X6_takeSpeed rfl rfl rfl hdV_X6_takeSpeed ⟨Nat.le_of_ble_eq_true rfl, Nat.le_of_ble_eq_true rfl⟩ [16, 17, 0, 1, 2, 3, 4, 5, 6, 7, 8, 9, 10, 11, 12, 13, 14, 15] rfl rfl 16 rfl rfl rfl hl.1 (Nat.le_of_ble_eq_true rfl) dX6_takeItem_82 ⟨Nat.le_of_ble_eq_true rfl, Nat.le_of_ble_eq_true rfl⟩) (fun u_71 H locs hp_71 G => ?_)
                obtain ⟨b_71a, v_71b, v_71c⟩ := u_71
                try dsimp only at hp_71
                obtain ⟨hI_b_71a, hq_71⟩ := hp_71
                have hO_b_71a := hI_b_71a
                obtain ⟨hd0_b_71a, hd1_b_71a⟩ := hO_b_71a
                have hO_b := hI_b
                obtain ⟨hb0_b, hb1_b, hb2_b, hb3_b, hb4_b⟩ := hO_b
                have G : wd X (va_A (@HAppend.hAppend va_W va_W va_W _ (rdV X h0 hb n bd vd fd) (rcW X hn an v b g)) sz) (va_A (@HAppend.hAppend va_W va_W va_W _ (rdV X h0 hb n bd vd fd) (rcW X hn an v b g)) sz) s (@HAppend.hAppend va_W va_W va_W _ (rdV X h0 hb n b_71a v_71b fd) (rcW X hn an v_71c b g)) H locs := G
                obtain ⟨hz0_71, hz1_71⟩ := hq_71
                refine lv_goto (tgt := 130) zx zb dX6_takeItem_85 (by decide) ?_
                exact e_void S zr zlk G (b_71a, v_71b, v_71c, b, g) [0, 1, 2, 3, 4, 5, 6, 7, 8, 9, 10, 11, 12, 13, 14, 15, 16, 17] rfl rfl (Or.inr rfl) (⟨hI_b_71a, hI_b, ⟨by first | omega | (dsimp only; omega), by first | omega | (dsimp only; omega)⟩⟩) dX6_takeItem_130
            · have fc_58 := j_nle (a := 6) (b := (b 0)) (by omega) (by omega) c_58
              refine lv_aload_n zx zb dX6_takeItem_63 rfl (lv_at hl 0 rfl) ?_
              refine lv_aload_n zx zb dX6_takeItem_64 rfl (lv_at hl 1 rfl) ?_
              refine b_wv (cells' := 0) (slots' := 0) (wr := []) G rfl rfl [16, 17, 0, 1, 2, 3, 4, 5, 6, 7, 8, 9, 10, 11, 12, 13, 14, 15] [] rfl rfl rfl rfl (n_V (As := [.ref hn]) (rest := []) (C := RX6) (T := TX6) (N := 7) (ci := 4) S G (s_takeRunner l X h0 hb n b_1a v_1b fd hn an v b g hI_n hI_b_1a hI_b ⟨by omega, by omega⟩ H.size) gX6_takeItem_X6_takeRunner rfl rfl rfl hdV_X6_takeRunner ⟨Nat.le_of_ble_eq_true rfl, Nat.le_of_ble_eq_true rfl⟩ [16, 17, 0, 1, 2, 3, 4, 5, 6, 7, 8, 9, 10, 11, 12, 13, 14, 15] rfl rfl 16 rfl rfl rfl hl.1 (Nat.le_of_ble_eq_true rfl) dX6_takeItem_65 ⟨Nat.le_of_ble_eq_true rfl, Nat.le_of_ble_eq_true rfl⟩) (fun u_72 H locs hp_72 G => ?_)
              obtain ⟨b_72a, v_72b, v_72c, b_72d, g_72e⟩ := u_72
              try dsimp only at hp_72
              obtain ⟨hI_b_72a, hI_b_72d, hq_72⟩ := hp_72
              have hO_b_72a := hI_b_72a
              obtain ⟨hd0_b_72a, hd1_b_72a⟩ := hO_b_72a
              have hO_b_72d := hI_b_72d
              obtain ⟨hb0_b_72d, hb1_b_72d, hb2_b_72d, hb3_b_72d, hb4_b_72d⟩ := hO_b_72d
              have G : wd X (va_A (@HAppend.hAppend va_W va_W va_W _ (rdV X h0 hb n bd vd fd) (rcW X hn an v b g)) sz) (va_A (@HAppend.hAppend va_W va_W va_W _ (rdV X h0 hb n bd vd fd) (rcW X hn an v b g)) sz) s (@HAppend.hAppend va_W va_W va_W _ (rdV X h0 hb n b_72a v_72b fd) (rcW X hn an v_72c b_72d g_72e)) H locs := G
              obtain ⟨hz0_72, hz1_72⟩ := hq_72
              refine lv_goto (tgt := 130) zx zb dX6_takeItem_68 (by decide) ?_
              exact e_void S zr zlk G (b_72a, v_72b, v_72c, b_72d, g_72e) [0, 1, 2, 3, 4, 5, 6, 7, 8, 9, 10, 11, 12, 13, 14, 15, 16, 17] rfl rfl (Or.inr rfl) (⟨hI_b_72a, hI_b_72d, ⟨by first | omega | (dsimp only; omega), by first | omega | (dsimp only; omega)⟩⟩) dX6_takeItem_130
        · refine lv_aload_n zx zb dX6_takeItem_37 rfl (lv_at hl 0 rfl) ?_
          refine lv_aload_n zx zb dX6_takeItem_38 rfl (lv_at hl 1 rfl) ?_
          refine b_wv (cells' := 0) (slots' := 0) (wr := []) G rfl rfl [16, 17, 0, 1, 2, 3, 4, 5, 6, 7, 8, 9, 10, 11, 12, 13, 14, 15] [] rfl rfl rfl rfl (n_V (As := [.ref hn]) (rest := []) (C := RX6) (T := TX6) (N := 7) (ci := 4) S G (s_takeLength l X h0 hb n b_1a v_1b fd hn an v b g hI_n hI_b_1a hI_b ⟨by omega, by omega⟩ H.size) gX6_takeItem_X6_takeLength rfl rfl rfl hdV_X6_takeLength ⟨Nat.le_of_ble_eq_true rfl, Nat.le_of_ble_eq_true rfl⟩ [16, 17, 0, 1, 2, 3, 4, 5, 6, 7, 8, 9, 10, 11, 12, 13, 14, 15] rfl rfl 16 rfl rfl rfl hl.1 (Nat.le_of_ble_eq_true rfl) dX6_takeItem_39 ⟨Nat.le_of_ble_eq_true rfl, Nat.le_of_ble_eq_true rfl⟩) (fun u_73 H locs hp_73 G => ?_)
          obtain ⟨b_73a, v_73b, v_73c, b_73d, g_73e⟩ := u_73
          try dsimp only at hp_73
          obtain ⟨hI_b_73a, hI_b_73d, hq_73⟩ := hp_73
          have hO_b_73a := hI_b_73a
          obtain ⟨hd0_b_73a, hd1_b_73a⟩ := hO_b_73a
          have hO_b_73d := hI_b_73d
          obtain ⟨hb0_b_73d, hb1_b_73d, hb2_b_73d, hb3_b_73d, hb4_b_73d⟩ := hO_b_73d
          have G : wd X (va_A (@HAppend.hAppend va_W va_W va_W _ (rdV X h0 hb n bd vd fd) (rcW X hn an v b g)) sz) (va_A (@HAppend.hAppend va_W va_W va_W _ (rdV X h0 hb n bd vd fd) (rcW X hn an v b g)) sz) s (@HAppend.hAppend va_W va_W va_W _ (rdV X h0 hb n b_73a v_73b fd) (rcW X hn an v_73c b_73d g_73e)) H locs := G
          obtain ⟨hz0_73, hz1_73⟩ := hq_73
          refine lv_goto (tgt := 130) zx zb dX6_takeItem_42 (by decide) ?_
          exact e_void S zr zlk G (b_73a, v_73b, v_73c, b_73d, g_73e) [0, 1, 2, 3, 4, 5, 6, 7, 8, 9, 10, 11, 12, 13, 14, 15, 16, 17] rfl rfl (Or.inr rfl) (⟨hI_b_73a, hI_b_73d, ⟨by first | omega | (dsimp only; omega), by first | omega | (dsimp only; omega)⟩⟩) dX6_takeItem_130
      · refine lv_aload_n zx zb dX6_takeItem_22 rfl (lv_at hl 0 rfl) ?_
        refine lv_aload_n zx zb dX6_takeItem_23 rfl (lv_at hl 0 rfl) ?_
        refine r_get (C := RX6) (T := TX6) (N := 7) (ci := 4) (v := .int (nI (b_1a 1))) S in_X6_takeItem_X6 G 16 rfl rfl 3 (by decide) lk_X6_takeItem_22 rfl dX6_takeItem_24 ?_
        refine r_put (C := RX6) (T := TX6) (N := 7) (ci := 4) (v := .int (nI (b_1a 1))) S in_X6_takeItem_X6 tyX6_ok nmX6 G 16 rfl rfl 6 (by decide) lk_X6_takeItem_31 rfl (vp_nar_int _) rfl (Nat.le_of_ble_eq_true rfl) dX6_takeItem_27 (fun H locs G => ?_)
        obtain ⟨v_74, ⟨hE_v_74_2, hE_v_74_0, hE_v_74_1⟩, G⟩ : ∃ v_74 : Nat → Int32, (v_74 2 = (nI (b_1a 1)) ∧ v_74 0 = v_1b 0 ∧ v_74 1 = v_1b 1) ∧ wd X (va_A (@HAppend.hAppend va_W va_W va_W _ (rdV X h0 hb n bd vd fd) (rcW X hn an v b g)) sz) (va_A (@HAppend.hAppend va_W va_W va_W _ (rdV X h0 hb n bd vd fd) (rcW X hn an v b g)) sz) s (@HAppend.hAppend va_W va_W va_W _ (rcW X hn an v b g) (rdV X h0 hb n b_1a v_74 fd)) H locs := ⟨upd v_1b 2 (nI (b_1a 1)), ⟨rfl, rfl, rfl⟩, G⟩
        refine lv_goto (tgt := 130) zx zb dX6_takeItem_30 (by decide) ?_
        exact e_void S zr zlk G (b_1a, v_74, v, b, g) [16, 17, 0, 1, 2, 3, 4, 5, 6, 7, 8, 9, 10, 11, 12, 13, 14, 15] rfl rfl (Or.inr rfl) (⟨hI_b_1a, hI_b, ⟨by first | omega | (dsimp only; omega), by first | omega | (dsimp only; omega)⟩⟩) dX6_takeItem_130
