set_option maxRecDepth 20000 in
theorem ggX5_init_X4_init : GoodIn wsX5_init wsX4_init := goodIn_r _ [22, 23, 2, 3, 24, 25, 26, 47, 48] (by decide +kernel) (by decide +kernel)
set_option maxRecDepth 20000 in
theorem gX5_init_X4_init_n29 : GoodIn wsX5_init (wsX4_init) := ggX5_init_X4_init
set_option maxRecDepth 20000 in
theorem ggX5_init_X7_init : GoodIn wsX5_init wsX7_init := goodIn_r _ [29, 30, 2, 3, 31, 32, 33, 34, 24, 35, 49, 50, 51, 52, 53] (by decide +kernel) (by decide +kernel)
set_option maxRecDepth 20000 in
theorem gX5_init_X7_init : GoodIn wsX5_init (wsX7_init) := ggX5_init_X7_init
set_option maxRecDepth 20000 in
theorem ggX5_init_X8_init : GoodIn wsX5_init wsX8_init := goodIn_r _ [37, 38, 2, 3] (by decide +kernel) (by decide +kernel)
set_option maxRecDepth 20000 in
theorem gX5_init_X8_init_n49 : GoodIn wsX5_init (wsX8_init) := ggX5_init_X8_init
set_option maxRecDepth 20000 in
theorem ggX5_welcome_X8_begin : GoodIn wsX5_welcome wsX8_begin := goodIn_r _ [9, 10, 11, 12, 13, 14, 15, 16, 17, 28, 29, 30, 31, 32, 33, 34, 35] (by decide +kernel) (by decide +kernel)
set_option maxRecDepth 20000 in
theorem gX5_welcome_X8_begin : GoodIn wsX5_welcome (wsV RX5 54 RX8 yX8_begin wsX8_begin) := goodIn_app (goodIn_of _ (by decide +kernel)) ggX5_welcome_X8_begin
set_option maxRecDepth 20000 in
theorem ggX5_copyLine_X8_copyFrom : GoodIn wsX5_copyLine wsX8_copyFrom := goodIn_r _ [9, 10, 11, 12, 13, 14, 15, 16, 17, 26, 27, 28, 29, 30, 31, 32, 33] (by decide +kernel) (by decide +kernel)
set_option maxRecDepth 20000 in
theorem gX5_copyLine_X8_copyFrom : GoodIn wsX5_copyLine (wsV RX5 58 RX8 yX8_copyFrom wsX8_copyFrom) := goodIn_app (goodIn_of _ (by decide +kernel)) ggX5_copyLine_X8_copyFrom
set_option maxRecDepth 20000 in
theorem ggX5_copyFrom_X5_copyLine : GoodIn wsX5_copyFrom wsX5_copyLine := goodIn_r _ [9, 10, 11, 12, 13, 14, 15, 16, 17, 18, 19, 20, 21, 22, 23, 24, 25, 26, 50, 51, 52, 53, 54, 55, 56, 57, 58, 59, 60, 61, 62, 63, 64, 65] (by decide +kernel) (by decide +kernel)
set_option maxRecDepth 20000 in
theorem gX5_copyFrom_X5_copyLine : GoodIn wsX5_copyFrom (wsV RX5 62 RX5 yX5_copyLine wsX5_copyLine) := goodIn_app (goodIn_of _ (by decide +kernel)) ggX5_copyFrom_X5_copyLine
set_option maxRecDepth 20000 in
theorem ggX5_copyFrom_X4_copyFrom : GoodIn wsX5_copyFrom wsX4_copyFrom := goodIn_r _ [31, 32, 33, 34, 35, 36, 37, 66, 67] (by decide +kernel) (by decide +kernel)
set_option maxRecDepth 20000 in
theorem gX5_copyFrom_X4_copyFrom : GoodIn wsX5_copyFrom (wsV RX5 66 RX4 yX4_copyFrom wsX4_copyFrom) := goodIn_app (goodIn_of _ (by decide +kernel)) ggX5_copyFrom_X4_copyFrom
set_option maxRecDepth 20000 in
theorem ggX5_copyFrom_X7_copyFrom : GoodIn wsX5_copyFrom wsX7_copyFrom := goodIn_r _ [42, 43, 44, 45, 46, 47, 48, 49, 35, 36, 37, 68, 69, 70, 71, 72] (by decide +kernel) (by decide +kernel)
set_option maxRecDepth 20000 in
theorem gX5_copyFrom_X7_copyFrom : GoodIn wsX5_copyFrom (wsV RX5 69 RX7 yX7_copyFrom wsX7_copyFrom) := goodIn_app (goodIn_of _ (by decide +kernel)) ggX5_copyFrom_X7_copyFrom
set_option maxRecDepth 20000 in
theorem ggX5_keep_X4_push : GoodIn wsX5_keep wsX4_push := goodIn_r _ [8, 9, 10, 11, 12, 13, 14, 15, 16, 17, 18, 19, 28, 29, 30, 31, 32, 33, 34, 35, 36, 37] (by decide +kernel) (by decide +kernel)
set_option maxRecDepth 20000 in
theorem gX5_keep_X4_push : GoodIn wsX5_keep (wsV RX5 76 RX4 yX4_push wsX4_push) := goodIn_app (goodIn_of _ (by decide +kernel)) ggX5_keep_X4_push
set_option maxRecDepth 20000 in
theorem ggX5_takeBack_X4_pop : GoodIn wsX5_takeBack wsX4_pop := goodIn_r _ [8, 9, 10, 11, 12, 13, 14, 15, 24, 25, 26, 27, 28, 29, 30, 31, 32, 33] (by decide +kernel) (by decide +kernel)
set_option maxRecDepth 20000 in
theorem gX5_takeBack_X4_pop : GoodIn wsX5_takeBack (wsV RX5 80 RX4 yX4_pop wsX4_pop) := goodIn_app (goodIn_of _ (by decide +kernel)) ggX5_takeBack_X4_pop
set_option maxRecDepth 20000 in
theorem ggX6_takeRace_X6_takeItem : GoodIn wsX6_takeRace wsX6_takeItem := goodIn_r _ [8, 9, 10, 2, 11, 12, 13, 14, 7, 15, 1, 3, 16, 17, 18, 19, 20, 21, 22, 23, 24, 25, 26, 27, 28, 29, 30, 31, 32, 33, 34, 35, 36, 37, 38, 39, 40, 41, 42, 43, 44, 45, 46, 47, 48, 49, 50, 51, 52, 53, 54, 55, 56, 57, 58, 59, 60, 61, 62, 63, 64, 65, 66, 67, 68, 69, 70, 71, 72, 73, 74, 75, 76, 77, 78, 79, 80, 81, 82, 83, 84, 85, 86, 87, 88, 89, 90, 91, 92, 93, 94, 95, 96, 97, 98, 99, 100, 101, 102, 103, 104, 105, 106, 107, 108, 109, 110, 111, 112, 113, 114, 115, 116, 117, 118, 119, 120, 121, 122, 123, 124, 125, 126, 127, 128, 129, 130, 131, 132, 133, 134, 135, 136, 137, 138, 139, 140, 141, 142, 143, 144, 145, 146, 147, 148, 149, 150, 151, 152, 153, 154, 155, 156, 157, 158, 159, 160, 161, 162, 163, 164, 165, 166, 167, 168, 169, 170, 171, 172, 173, 174, 175, 176, 177, 178, 179, 180, 181, 182, 183, 184, 185, 186, 187, 188, 189, 190, 191, 192, 193, 194, 195, 196, 197, 198, 199, 200, 201, 202, 203, 204, 205, 206, 207] (by decide +kernel) (by decide +kernel)
set_option maxRecDepth 20000 in
theorem gX6_takeRace_X6_takeItem : GoodIn wsX6_takeRace (wsV RX6 34 RX6 yX6_takeItem wsX6_takeItem) := goodIn_app (goodIn_of _ (by decide +kernel)) ggX6_takeRace_X6_takeItem
set_option maxRecDepth 20000 in
theorem ggX6_takeRace_X6_skipBlanks : GoodIn wsX6_takeRace wsX6_skipBlanks := goodIn_r _ [20, 1, 3, 16, 178, 179, 180, 181, 182, 183, 184] (by decide +kernel) (by decide +kernel)
set_option maxRecDepth 20000 in
theorem gX6_takeRace_X6_skipBlanks : GoodIn wsX6_takeRace (wsV RX6 38 RX6 yX6_skipBlanks wsX6_skipBlanks) := goodIn_app (goodIn_of _ (by decide +kernel)) ggX6_takeRace_X6_skipBlanks
set_option maxRecDepth 20000 in
theorem ggX6_takeItem_X6_nextToken : GoodIn wsX6_takeItem wsX6_nextToken := goodIn_r _ [9, 10, 2, 11, 1, 12, 13, 14, 15, 8, 16, 17, 18, 19, 20, 21, 22, 23, 24, 25, 26, 27, 28, 29, 30, 31, 174, 175, 176, 177, 178, 179, 180] (by decide +kernel) (by decide +kernel)
set_option maxRecDepth 20000 in
theorem gX6_takeItem_X6_nextToken : GoodIn wsX6_takeItem (wsV RX6 41 RX6 yX6_nextToken wsX6_nextToken) := goodIn_app (goodIn_of _ (by decide +kernel)) ggX6_takeItem_X6_nextToken
set_option maxRecDepth 20000 in
theorem ggX6_nextToken_X6_skipBlanks : GoodIn wsX6_nextToken wsX6_skipBlanks := goodIn_r _ [10, 1, 3, 5, 26, 27, 28, 29, 30, 31, 32] (by decide +kernel) (by decide +kernel)
set_option maxRecDepth 20000 in
theorem gX6_nextToken_X6_skipBlanks : GoodIn wsX6_nextToken (wsV RX6 38 RX6 yX6_skipBlanks wsX6_skipBlanks) := goodIn_app (goodIn_of _ (by decide +kernel)) ggX6_nextToken_X6_skipBlanks
set_option maxRecDepth 20000 in
theorem ggX10_init_X5_init : GoodIn wsX10_init wsX5_init := goodIn_r _ [40, 41, 2, 3, 42, 43, 44, 45, 46, 47, 48, 49, 50, 51, 52, 53, 54, 55, 56, 21, 22, 57, 58, 59, 16, 60, 61, 62, 63, 64, 65, 66, 67, 68, 69, 70, 71, 72, 73, 100, 101, 102, 103, 104, 105, 106, 107, 152, 153, 154, 155, 156, 157, 158, 129, 130, 131, 132, 133, 134, 135, 136] (by decide +kernel) (by decide +kernel)
set_option maxRecDepth 20000 in
theorem gX10_init_X5_init : GoodIn wsX10_init (wsX5_init) := ggX10_init_X5_init
set_option maxRecDepth 20000 in
theorem ggX10_init_X6_init : GoodIn wsX10_init wsX6_init := goodIn_r _ [75, 76, 2, 3, 16, 77, 78, 79, 80, 81, 82, 83, 122, 123, 124, 125, 126, 127, 128] (by decide +kernel) (by decide +kernel)
set_option maxRecDepth 20000 in
theorem gX10_init_X6_init_n29 : GoodIn wsX10_init (wsX6_init) := ggX10_init_X6_init
set_option maxRecDepth 20000 in
theorem ggX10_init_X8_init : GoodIn wsX10_init wsX8_init := goodIn_r _ [72, 73, 2, 3] (by decide +kernel) (by decide +kernel)
set_option maxRecDepth 20000 in
theorem gX10_init_X8_init_n47 : GoodIn wsX10_init (wsX8_init) := ggX10_init_X8_init
set_option maxRecDepth 20000 in
theorem ggX10_init_X9_init : GoodIn wsX10_init wsX9_init := goodIn_r _ [85, 86, 2, 3, 16, 87, 88, 137, 138] (by decide +kernel) (by decide +kernel)
set_option maxRecDepth 20000 in
theorem gX10_init_X9_init_n57 : GoodIn wsX10_init (wsX9_init) := ggX10_init_X9_init
set_option maxRecDepth 20000 in
theorem ggX10_init_X3_init : GoodIn wsX10_init wsX3_init := goodIn_r _ [90, 91, 2, 3] (by decide +kernel) (by decide +kernel)
set_option maxRecDepth 20000 in
theorem gX10_init_X3_init_n64 : GoodIn wsX10_init (wsX3_init) := ggX10_init_X3_init
set_option maxRecDepth 20000 in
theorem ggX10_init_X0_init : GoodIn wsX10_init wsX0_init := goodIn_r _ [93, 94, 2, 3, 16, 95, 96, 97, 98, 99, 147, 148, 149, 150, 151] (by decide +kernel) (by decide +kernel)
set_option maxRecDepth 20000 in
theorem gX10_init_X0_init_n71 : GoodIn wsX10_init (wsX0_init) := ggX10_init_X0_init
set_option maxRecDepth 20000 in
theorem ggX10_race_X10_within : GoodIn wsX10_race wsX10_within := goodIn_r _ [6] (by decide +kernel) (by decide +kernel)
set_option maxRecDepth 20000 in
theorem gX10_race_X10_within : GoodIn wsX10_race (va_wsS RX10 79 yX10_within wsX10_within) := goodIn_app (goodIn_of _ (by decide +kernel)) ggX10_race_X10_within
set_option maxRecDepth 20000 in
theorem ggX10_race_X10_refuse : GoodIn wsX10_race wsX10_refuse := goodIn_r _ [10, 11, 26, 27, 28, 29, 30, 31, 32, 33, 34, 35, 36, 37, 38, 39] (by decide +kernel) (by decide +kernel)
set_option maxRecDepth 20000 in
theorem gX10_race_X10_refuse : GoodIn wsX10_race (wsV RX10 83 RX10 yX10_refuse wsX10_refuse) := goodIn_app (goodIn_of _ (by decide +kernel)) ggX10_race_X10_refuse
set_option maxRecDepth 20000 in
theorem ggX10_race_X5_restart : GoodIn wsX10_race wsX5_restart := goodIn_r _ [16, 17, 18, 19, 20, 21, 22, 23, 24, 25, 40, 41, 42, 43, 44, 45, 46, 47, 48, 49, 50, 51, 52, 53, 54] (by decide +kernel) (by decide +kernel)
set_option maxRecDepth 20000 in
theorem gX10_race_X5_restart : GoodIn wsX10_race (wsV RX10 91 RX5 yX5_restart wsX5_restart) := goodIn_app (goodIn_of _ (by decide +kernel)) ggX10_race_X5_restart
set_option maxRecDepth 20000 in
theorem ggX10_one_X10_within : GoodIn wsX10_one wsX10_within := goodIn_r _ [6] (by decide +kernel) (by decide +kernel)
set_option maxRecDepth 20000 in
theorem gX10_one_X10_within : GoodIn wsX10_one (va_wsS RX10 79 yX10_within wsX10_within) := goodIn_app (goodIn_of _ (by decide +kernel)) ggX10_one_X10_within
set_option maxRecDepth 20000 in
theorem ggX10_one_X10_refuse : GoodIn wsX10_one wsX10_refuse := goodIn_r _ [10, 11, 34, 35, 36, 37, 38, 39, 40, 41, 42, 43, 44, 45, 46, 47] (by decide +kernel) (by decide +kernel)
set_option maxRecDepth 20000 in
theorem gX10_one_X10_refuse : GoodIn wsX10_one (wsV RX10 83 RX10 yX10_refuse wsX10_refuse) := goodIn_app (goodIn_of _ (by decide +kernel)) ggX10_one_X10_refuse
set_option maxRecDepth 20000 in
theorem ggX10_one_X5_welcome : GoodIn wsX10_one wsX5_welcome := goodIn_r _ [16, 17, 18, 19, 20, 21, 22, 23, 24, 25, 26, 27, 28, 29, 30, 31, 32, 33, 48, 49, 50, 51, 52, 53, 54, 55, 56, 57, 58, 59, 60, 61, 62, 63, 64, 65] (by decide +kernel) (by decide +kernel)
set_option maxRecDepth 20000 in
theorem gX10_one_X5_welcome : GoodIn wsX10_one (wsV RX10 95 RX5 yX5_welcome wsX5_welcome) := goodIn_app (goodIn_of _ (by decide +kernel)) ggX10_one_X5_welcome
set_option maxRecDepth 20000 in
theorem ggX10_type_X10_within : GoodIn wsX10_type wsX10_within := goodIn_r _ [5] (by decide +kernel) (by decide +kernel)
set_option maxRecDepth 20000 in
theorem gX10_type_X10_within : GoodIn wsX10_type (va_wsS RX10 79 yX10_within wsX10_within) := goodIn_app (goodIn_of _ (by decide +kernel)) ggX10_type_X10_within
set_option maxRecDepth 20000 in
theorem ggX10_type_X10_refuse : GoodIn wsX10_type wsX10_refuse := goodIn_r _ [9, 10, 18, 19, 20, 21, 22, 23, 24, 25, 26, 27, 28, 29, 30, 31] (by decide +kernel) (by decide +kernel)
set_option maxRecDepth 20000 in
theorem gX10_type_X10_refuse : GoodIn wsX10_type (wsV RX10 83 RX10 yX10_refuse wsX10_refuse) := goodIn_app (goodIn_of _ (by decide +kernel)) ggX10_type_X10_refuse
set_option maxRecDepth 20000 in
theorem ggX10_type_X6_append : GoodIn wsX10_type wsX6_append := goodIn_r _ [15, 16, 17, 32, 33, 34, 35, 36, 37, 38] (by decide +kernel) (by decide +kernel)
set_option maxRecDepth 20000 in
theorem gX10_type_X6_append : GoodIn wsX10_type (wsV RX10 99 RX6 yX6_append wsX6_append) := goodIn_app (goodIn_of _ (by decide +kernel)) ggX10_type_X6_append
set_option maxRecDepth 20000 in
theorem ggX10_read_X6_takeRace : GoodIn wsX10_read wsX6_takeRace := goodIn_r _ [8, 9, 10, 11, 12, 13, 14, 7, 15, 16, 17, 18, 19, 20, 21, 22, 23, 24, 25, 26, 27, 28, 29, 30, 31, 32, 33, 34, 35, 36, 37, 38, 39, 40, 41, 42, 43, 44, 45, 46, 47, 48, 49, 50, 51, 52, 53, 54, 55, 56, 57, 58, 59, 60, 61, 62, 63, 64, 65, 66, 67, 68, 69, 70, 71, 72, 73, 74, 75, 76, 77, 78, 79, 80, 81, 82, 83, 84, 85, 86, 87, 88, 89, 90, 91, 92, 93, 94, 95, 96, 97, 98, 99, 100, 101, 102, 103, 104, 105, 106, 107, 108, 109, 110, 111, 112, 113, 114, 115, 116, 117, 118, 119, 120, 121, 122, 123, 124, 125, 126, 127, 128, 129, 130, 131, 132, 133, 134, 135, 136, 137, 138, 139, 140, 141, 142, 143, 144, 145, 146, 147, 148, 149, 150, 151, 152, 153, 154, 155, 156, 157, 158, 159, 160, 161, 162, 163, 164, 165, 166, 167, 168, 169, 170, 171, 172, 173, 174, 175, 176, 177, 178, 179, 180, 181, 182, 183, 184, 199, 200, 201, 202, 203, 204, 205, 206, 207, 208, 209, 210, 211, 212, 213, 214, 215, 216, 217, 218, 219, 220, 221, 222, 223, 224, 225, 226, 227, 228] (by decide +kernel) (by decide +kernel)
set_option maxRecDepth 20000 in
theorem gX10_read_X6_takeRace : GoodIn wsX10_read (wsV RX10 106 RX6 yX6_takeRace wsX6_takeRace) := goodIn_app (goodIn_of _ (by decide +kernel)) ggX10_read_X6_takeRace
set_option maxRecDepth 20000 in
theorem ggX10_ticks_X10_within : GoodIn wsX10_ticks wsX10_within := goodIn_r _ [6] (by decide +kernel) (by decide +kernel)
set_option maxRecDepth 20000 in
theorem gX10_ticks_X10_within : GoodIn wsX10_ticks (va_wsS RX10 79 yX10_within wsX10_within) := goodIn_app (goodIn_of _ (by decide +kernel)) ggX10_ticks_X10_within
set_option maxRecDepth 20000 in
theorem ggX10_ticks_X10_refuse : GoodIn wsX10_ticks wsX10_refuse := goodIn_r _ [10, 11, 72, 73, 74, 75, 76, 77, 78, 79, 80, 81, 82, 83, 84, 85] (by decide +kernel) (by decide +kernel)
set_option maxRecDepth 20000 in
theorem gX10_ticks_X10_refuse : GoodIn wsX10_ticks (wsV RX10 83 RX10 yX10_refuse wsX10_refuse) := goodIn_app (goodIn_of _ (by decide +kernel)) ggX10_ticks_X10_refuse
set_option maxRecDepth 20000 in
theorem ggX10_ticks_X5_keep : GoodIn wsX10_ticks wsX5_keep := goodIn_r _ [16, 17, 18, 19, 20, 21, 22, 23, 24, 25, 26, 27, 28, 29, 30, 31, 32, 33, 34, 35, 86, 87, 88, 89, 90, 91, 92, 93, 94, 95, 96, 97, 98, 99, 100, 101, 102, 103] (by decide +kernel) (by decide +kernel)
set_option maxRecDepth 20000 in
theorem gX10_ticks_X5_keep : GoodIn wsX10_ticks (wsV RX10 113 RX5 yX5_keep wsX5_keep) := goodIn_app (goodIn_of _ (by decide +kernel)) ggX10_ticks_X5_keep
set_option maxRecDepth 20000 in
theorem ggX10_ticks_X5_goOn : GoodIn wsX10_ticks wsX5_goOn := goodIn_r _ [39, 18, 40, 19, 41, 42, 43, 44, 45, 46, 47, 48, 49, 50, 51, 52, 53, 54, 55, 56, 57, 58, 59, 60, 61, 62, 63, 64, 65, 66, 86, 87, 88, 89, 90, 91, 92, 93, 96, 97, 98, 99, 100, 101, 102, 103] (by decide +kernel) (by decide +kernel)
set_option maxRecDepth 20000 in
theorem gX10_ticks_X5_goOn : GoodIn wsX10_ticks (wsV RX10 116 RX5 yX5_goOn wsX5_goOn) := goodIn_app (goodIn_of _ (by decide +kernel)) ggX10_ticks_X5_goOn
set_option maxRecDepth 20000 in
theorem ggX10_ticks_X5_homes : GoodIn wsX10_ticks wsX5_homes := goodIn_r _ [70, 40, 19, 71, 56, 57, 45, 58, 54, 86, 87, 88, 89, 90, 91, 92, 93, 96, 97, 98, 99, 100, 101, 102, 103] (by decide +kernel) (by decide +kernel)
set_option maxRecDepth 20000 in
theorem gX10_ticks_X5_homes : GoodIn wsX10_ticks (wsV RX10 119 RX5 yX5_homes wsX5_homes) := goodIn_app (goodIn_of _ (by decide +kernel)) ggX10_ticks_X5_homes
set_option maxRecDepth 20000 in
theorem ggX10_speed_X10_there : GoodIn wsX10_speed wsX10_there := goodIn_r _ [8, 1, 9, 48, 49, 50, 51, 52, 53, 54, 55, 56, 57, 58, 59, 60, 61, 62, 63, 64, 65, 66, 67, 68, 69] (by decide +kernel) (by decide +kernel)
set_option maxRecDepth 20000 in
theorem gX10_speed_X10_there : GoodIn wsX10_speed (wsV RX10 123 RX10 yX10_there wsX10_there) := goodIn_app (goodIn_of _ (by decide +kernel)) ggX10_speed_X10_there
set_option maxRecDepth 20000 in
theorem ggX10_speed_X10_within : GoodIn wsX10_speed wsX10_within := goodIn_r _ [12] (by decide +kernel) (by decide +kernel)
set_option maxRecDepth 20000 in
theorem gX10_speed_X10_within : GoodIn wsX10_speed (va_wsS RX10 79 yX10_within wsX10_within) := goodIn_app (goodIn_of _ (by decide +kernel)) ggX10_speed_X10_within
set_option maxRecDepth 20000 in
theorem ggX10_speed_X10_refuse : GoodIn wsX10_speed wsX10_refuse := goodIn_r _ [16, 17, 48, 49, 50, 51, 52, 53, 54, 55, 56, 57, 58, 59, 60, 61] (by decide +kernel) (by decide +kernel)
set_option maxRecDepth 20000 in
theorem gX10_speed_X10_refuse : GoodIn wsX10_speed (wsV RX10 83 RX10 yX10_refuse wsX10_refuse) := goodIn_app (goodIn_of _ (by decide +kernel)) ggX10_speed_X10_refuse
set_option maxRecDepth 20000 in
theorem ggX10_speed_X5_keep : GoodIn wsX10_speed wsX5_keep := goodIn_r _ [28, 29, 30, 31, 32, 33, 34, 35, 36, 37, 38, 39, 40, 41, 42, 43, 44, 45, 46, 47, 62, 63, 64, 65, 66, 67, 68, 69, 78, 79, 70, 71, 72, 73, 74, 75, 76, 77] (by decide +kernel) (by decide +kernel)
set_option maxRecDepth 20000 in
theorem gX10_speed_X5_keep : GoodIn wsX10_speed (wsV RX10 113 RX5 yX5_keep wsX5_keep) := goodIn_app (goodIn_of _ (by decide +kernel)) ggX10_speed_X5_keep
set_option maxRecDepth 20000 in
theorem ggX10_start_X10_there : GoodIn wsX10_start wsX10_there := goodIn_r _ [9, 1, 10, 49, 50, 51, 52, 53, 54, 55, 56, 57, 58, 59, 60, 61, 62, 63, 64, 65, 66, 67, 68, 69, 70] (by decide +kernel) (by decide +kernel)
set_option maxRecDepth 20000 in
theorem gX10_start_X10_there : GoodIn wsX10_start (wsV RX10 123 RX10 yX10_there wsX10_there) := goodIn_app (goodIn_of _ (by decide +kernel)) ggX10_start_X10_there
set_option maxRecDepth 20000 in
theorem ggX10_start_X10_within : GoodIn wsX10_start wsX10_within := goodIn_r _ [13] (by decide +kernel) (by decide +kernel)
set_option maxRecDepth 20000 in
theorem gX10_start_X10_within : GoodIn wsX10_start (va_wsS RX10 79 yX10_within wsX10_within) := goodIn_app (goodIn_of _ (by decide +kernel)) ggX10_start_X10_within
set_option maxRecDepth 20000 in
theorem ggX10_start_X10_refuse : GoodIn wsX10_start wsX10_refuse := goodIn_r _ [17, 18, 49, 50, 51, 52, 53, 54, 55, 56, 57, 58, 59, 60, 61, 62] (by decide +kernel) (by decide +kernel)
set_option maxRecDepth 20000 in
theorem gX10_start_X10_refuse : GoodIn wsX10_start (wsV RX10 83 RX10 yX10_refuse wsX10_refuse) := goodIn_app (goodIn_of _ (by decide +kernel)) ggX10_start_X10_refuse
set_option maxRecDepth 20000 in
theorem ggX10_start_X5_keep : GoodIn wsX10_start wsX5_keep := goodIn_r _ [29, 30, 31, 32, 33, 34, 35, 36, 37, 38, 39, 40, 41, 42, 43, 44, 45, 46, 47, 48, 63, 64, 65, 66, 67, 68, 69, 70, 79, 80, 71, 72, 73, 74, 75, 76, 77, 78] (by decide +kernel) (by decide +kernel)
set_option maxRecDepth 20000 in
theorem gX10_start_X5_keep : GoodIn wsX10_start (wsV RX10 113 RX5 yX5_keep wsX5_keep) := goodIn_app (goodIn_of _ (by decide +kernel)) ggX10_start_X5_keep
set_option maxRecDepth 20000 in
theorem ggX10_undo_X5_takeBack : GoodIn wsX10_undo wsX5_takeBack := goodIn_r _ [7, 8, 9, 10, 11, 12, 13, 14, 15, 16, 17, 18, 19, 20, 21, 22, 43, 44, 45, 46, 47, 48, 49, 50, 51, 52, 53, 54, 55, 56, 57, 58, 59, 60] (by decide +kernel) (by decide +kernel)
set_option maxRecDepth 20000 in
theorem gX10_undo_X5_takeBack : GoodIn wsX10_undo (wsV RX10 141 RX5 yX5_takeBack wsX5_takeBack) := goodIn_app (goodIn_of _ (by decide +kernel)) ggX10_undo_X5_takeBack
set_option maxRecDepth 20000 in
theorem ggX10_undo_X10_refuse : GoodIn wsX10_undo wsX10_refuse := goodIn_r _ [27, 28, 29, 30, 31, 32, 33, 34, 35, 36, 37, 38, 39, 40, 41, 42] (by decide +kernel) (by decide +kernel)
set_option maxRecDepth 20000 in
theorem gX10_undo_X10_refuse : GoodIn wsX10_undo (wsV RX10 83 RX10 yX10_refuse wsX10_refuse) := goodIn_app (goodIn_of _ (by decide +kernel)) ggX10_undo_X10_refuse
set_option maxRecDepth 20000 in
theorem ggX10_of_X10_there : GoodIn wsX10_of wsX10_there := goodIn_r _ [8, 1, 9, 39, 40, 41, 42, 43, 44, 45, 46, 47, 48, 49, 50, 51, 52, 53, 54, 55, 56, 57, 58, 59, 60] (by decide +kernel) (by decide +kernel)
set_option maxRecDepth 20000 in
theorem gX10_of_X10_there : GoodIn wsX10_of (wsV RX10 123 RX10 yX10_there wsX10_there) := goodIn_app (goodIn_of _ (by decide +kernel)) ggX10_of_X10_there
set_option maxRecDepth 20000 in
theorem ggX10_of_X10_within : GoodIn wsX10_of wsX10_within := goodIn_r _ [12] (by decide +kernel) (by decide +kernel)
set_option maxRecDepth 20000 in
theorem gX10_of_X10_within : GoodIn wsX10_of (va_wsS RX10 79 yX10_within wsX10_within) := goodIn_app (goodIn_of _ (by decide +kernel)) ggX10_of_X10_within
set_option maxRecDepth 20000 in
theorem ggX10_of_X10_refuse : GoodIn wsX10_of wsX10_refuse := goodIn_r _ [16, 17, 39, 40, 41, 42, 43, 44, 45, 46, 47, 48, 49, 50, 51, 52] (by decide +kernel) (by decide +kernel)
set_option maxRecDepth 20000 in
theorem gX10_of_X10_refuse : GoodIn wsX10_of (wsV RX10 83 RX10 yX10_refuse wsX10_refuse) := goodIn_app (goodIn_of _ (by decide +kernel)) ggX10_of_X10_refuse
set_option maxRecDepth 20000 in
theorem ggX10_where_X10_there : GoodIn wsX10_where wsX10_there := goodIn_r _ [10, 2, 11, 53, 54, 55, 56, 57, 58, 59, 60, 61, 62, 63, 64, 65, 66, 67, 68, 69, 70, 71, 72, 73, 74] (by decide +kernel) (by decide +kernel)
set_option maxRecDepth 20000 in
theorem gX10_where_X10_there : GoodIn wsX10_where (wsV RX10 123 RX10 yX10_there wsX10_there) := goodIn_app (goodIn_of _ (by decide +kernel)) ggX10_where_X10_there
set_option maxRecDepth 20000 in
theorem ggX10_where_X10_within : GoodIn wsX10_where wsX10_within := goodIn_r _ [14] (by decide +kernel) (by decide +kernel)
set_option maxRecDepth 20000 in
theorem gX10_where_X10_within : GoodIn wsX10_where (va_wsS RX10 79 yX10_within wsX10_within) := goodIn_app (goodIn_of _ (by decide +kernel)) ggX10_where_X10_within
set_option maxRecDepth 20000 in
theorem ggX10_where_X10_refuse : GoodIn wsX10_where wsX10_refuse := goodIn_r _ [18, 19, 53, 54, 55, 56, 57, 58, 59, 60, 61, 62, 63, 64, 65, 66] (by decide +kernel) (by decide +kernel)
set_option maxRecDepth 20000 in
theorem gX10_where_X10_refuse : GoodIn wsX10_where (wsV RX10 83 RX10 yX10_refuse wsX10_refuse) := goodIn_app (goodIn_of _ (by decide +kernel)) ggX10_where_X10_refuse
set_option maxRecDepth 20000 in
theorem ggX10_where_X8_copyFrom : GoodIn wsX10_where wsX8_copyFrom := goodIn_r _ [24, 25, 26, 27, 28, 29, 30, 31, 32, 75, 76, 77, 78, 79, 80, 81, 82] (by decide +kernel) (by decide +kernel)
set_option maxRecDepth 20000 in
theorem gX10_where_X8_copyFrom : GoodIn wsX10_where (wsV RX10 148 RX8 yX8_copyFrom wsX8_copyFrom) := goodIn_app (goodIn_of _ (by decide +kernel)) ggX10_where_X8_copyFrom
set_option maxRecDepth 20000 in
theorem ggX10_home_X10_there : GoodIn wsX10_home wsX10_there := goodIn_r _ [5, 6, 7, 54, 55, 56, 57, 58, 59, 60, 61, 62, 63, 64, 65, 66, 67, 68, 69, 70, 71, 72, 73, 74, 75] (by decide +kernel) (by decide +kernel)
set_option maxRecDepth 20000 in
theorem gX10_home_X10_there : GoodIn wsX10_home (wsV RX10 123 RX10 yX10_there wsX10_there) := goodIn_app (goodIn_of _ (by decide +kernel)) ggX10_home_X10_there
set_option maxRecDepth 20000 in
theorem ggX10_home_X10_refuse : GoodIn wsX10_home wsX10_refuse := goodIn_r _ [52, 53, 54, 55, 56, 57, 58, 59, 60, 61, 62, 63, 64, 65, 66, 67] (by decide +kernel) (by decide +kernel)
set_option maxRecDepth 20000 in
theorem gX10_home_X10_refuse : GoodIn wsX10_home (wsV RX10 83 RX10 yX10_refuse wsX10_refuse) := goodIn_app (goodIn_of _ (by decide +kernel)) ggX10_home_X10_refuse
set_option maxRecDepth 20000 in
theorem ggX10_order_X10_refuse : GoodIn wsX10_order wsX10_refuse := goodIn_r _ [7, 8, 61, 62, 63, 64, 65, 66, 67, 68, 69, 70, 71, 72, 73, 74] (by decide +kernel) (by decide +kernel)
set_option maxRecDepth 20000 in
theorem gX10_order_X10_refuse : GoodIn wsX10_order (wsV RX10 83 RX10 yX10_refuse wsX10_refuse) := goodIn_app (goodIn_of _ (by decide +kernel)) ggX10_order_X10_refuse
set_option maxRecDepth 20000 in
theorem ggX10_best_X10_there : GoodIn wsX10_best wsX10_there := goodIn_r _ [11, 1, 12, 55, 56, 57, 58, 59, 60, 61, 62, 63, 64, 65, 66, 67, 68, 69, 70, 71, 72, 73, 74, 75, 76] (by decide +kernel) (by decide +kernel)
set_option maxRecDepth 20000 in
theorem gX10_best_X10_there : GoodIn wsX10_best (wsV RX10 123 RX10 yX10_there wsX10_there) := goodIn_app (goodIn_of _ (by decide +kernel)) ggX10_best_X10_there
set_option maxRecDepth 20000 in
theorem ggX10_best_X10_within : GoodIn wsX10_best wsX10_within := goodIn_r _ [15] (by decide +kernel) (by decide +kernel)
set_option maxRecDepth 20000 in
theorem gX10_best_X10_within : GoodIn wsX10_best (va_wsS RX10 79 yX10_within wsX10_within) := goodIn_app (goodIn_of _ (by decide +kernel)) ggX10_best_X10_within
set_option maxRecDepth 20000 in
theorem ggX10_best_X10_refuse : GoodIn wsX10_best wsX10_refuse := goodIn_r _ [19, 20, 55, 56, 57, 58, 59, 60, 61, 62, 63, 64, 65, 66, 67, 68] (by decide +kernel) (by decide +kernel)
set_option maxRecDepth 20000 in
theorem gX10_best_X10_refuse : GoodIn wsX10_best (wsV RX10 83 RX10 yX10_refuse wsX10_refuse) := goodIn_app (goodIn_of _ (by decide +kernel)) ggX10_best_X10_refuse
set_option maxRecDepth 20000 in
theorem ggX10_best_X8_copyFrom : GoodIn wsX10_best wsX8_copyFrom := goodIn_r _ [30, 31, 32, 33, 34, 35, 36, 37, 26, 77, 78, 79, 80, 81, 82, 83, 84] (by decide +kernel) (by decide +kernel)
set_option maxRecDepth 20000 in
theorem gX10_best_X8_copyFrom : GoodIn wsX10_best (wsV RX10 148 RX8 yX8_copyFrom wsX8_copyFrom) := goodIn_app (goodIn_of _ (by decide +kernel)) ggX10_best_X8_copyFrom
set_option maxRecDepth 20000 in
theorem ggX10_turn_X10_there : GoodIn wsX10_turn wsX10_there := goodIn_r _ [7, 1, 8, 67, 68, 69, 70, 71, 72, 73, 74, 75, 76, 77, 78, 79, 80, 81, 82, 83, 84, 85, 86, 87, 88] (by decide +kernel) (by decide +kernel)
set_option maxRecDepth 20000 in
theorem gX10_turn_X10_there : GoodIn wsX10_turn (wsV RX10 123 RX10 yX10_there wsX10_there) := goodIn_app (goodIn_of _ (by decide +kernel)) ggX10_turn_X10_there
set_option maxRecDepth 20000 in
theorem ggX10_turn_X10_within : GoodIn wsX10_turn wsX10_within := goodIn_r _ [11] (by decide +kernel) (by decide +kernel)
set_option maxRecDepth 20000 in
theorem gX10_turn_X10_within : GoodIn wsX10_turn (va_wsS RX10 79 yX10_within wsX10_within) := goodIn_app (goodIn_of _ (by decide +kernel)) ggX10_turn_X10_within
set_option maxRecDepth 20000 in
theorem ggX10_turn_X10_refuse : GoodIn wsX10_turn wsX10_refuse := goodIn_r _ [15, 16, 67, 68, 69, 70, 71, 72, 73, 74, 75, 76, 77, 78, 79, 80] (by decide +kernel) (by decide +kernel)
set_option maxRecDepth 20000 in
theorem gX10_turn_X10_refuse : GoodIn wsX10_turn (wsV RX10 83 RX10 yX10_refuse wsX10_refuse) := goodIn_app (goodIn_of _ (by decide +kernel)) ggX10_turn_X10_refuse
set_option maxRecDepth 20000 in
theorem ggX10_beats_X10_areTwo : GoodIn wsX10_beats wsX10_areTwo := goodIn_r _ [11, 12, 13, 14, 10, 15, 1, 16, 60, 61, 62, 63, 64, 65, 66, 67, 68, 69, 70, 71, 72, 73, 74, 75, 76, 77, 78, 79, 80, 81] (by decide +kernel) (by decide +kernel)
set_option maxRecDepth 20000 in
theorem gX10_beats_X10_areTwo : GoodIn wsX10_beats (wsV RX10 172 RX10 yX10_areTwo wsX10_areTwo) := goodIn_app (goodIn_of _ (by decide +kernel)) ggX10_beats_X10_areTwo
set_option maxRecDepth 20000 in
theorem ggX10_beats_X10_refuse : GoodIn wsX10_beats wsX10_refuse := goodIn_r _ [20, 21, 60, 61, 62, 63, 64, 65, 66, 67, 68, 69, 70, 71, 72, 73] (by decide +kernel) (by decide +kernel)
set_option maxRecDepth 20000 in
theorem gX10_beats_X10_refuse : GoodIn wsX10_beats (wsV RX10 83 RX10 yX10_refuse wsX10_refuse) := goodIn_app (goodIn_of _ (by decide +kernel)) ggX10_beats_X10_refuse
set_option maxRecDepth 20000 in
theorem ggX10_beats_X8_copyFrom : GoodIn wsX10_beats wsX8_copyFrom := goodIn_r _ [35, 36, 37, 38, 39, 40, 41, 42, 27, 82, 83, 84, 85, 86, 87, 88, 89] (by decide +kernel) (by decide +kernel)
set_option maxRecDepth 20000 in
theorem gX10_beats_X8_copyFrom : GoodIn wsX10_beats (wsV RX10 148 RX8 yX8_copyFrom wsX8_copyFrom) := goodIn_app (goodIn_of _ (by decide +kernel)) ggX10_beats_X8_copyFrom
set_option maxRecDepth 20000 in
theorem ggX10_close_X10_areTwo : GoodIn wsX10_close wsX10_areTwo := goodIn_r _ [16, 17, 18, 19, 15, 20, 2, 21, 59, 60, 61, 62, 63, 64, 65, 66, 67, 68, 69, 70, 71, 72, 73, 74, 75, 76, 77, 78, 79, 80] (by decide +kernel) (by decide +kernel)
set_option maxRecDepth 20000 in
theorem gX10_close_X10_areTwo : GoodIn wsX10_close (wsV RX10 172 RX10 yX10_areTwo wsX10_areTwo) := goodIn_app (goodIn_of _ (by decide +kernel)) ggX10_close_X10_areTwo
set_option maxRecDepth 20000 in
theorem ggX10_close_X10_within : GoodIn wsX10_close wsX10_within := goodIn_r _ [24] (by decide +kernel) (by decide +kernel)
set_option maxRecDepth 20000 in
theorem gX10_close_X10_within : GoodIn wsX10_close (va_wsS RX10 79 yX10_within wsX10_within) := goodIn_app (goodIn_of _ (by decide +kernel)) ggX10_close_X10_within
set_option maxRecDepth 20000 in
theorem ggX10_close_X10_refuse : GoodIn wsX10_close wsX10_refuse := goodIn_r _ [28, 29, 59, 60, 61, 62, 63, 64, 65, 66, 67, 68, 69, 70, 71, 72] (by decide +kernel) (by decide +kernel)
set_option maxRecDepth 20000 in
theorem gX10_close_X10_refuse : GoodIn wsX10_close (wsV RX10 83 RX10 yX10_refuse wsX10_refuse) := goodIn_app (goodIn_of _ (by decide +kernel)) ggX10_close_X10_refuse
set_option maxRecDepth 20000 in
theorem ggX10_close_X8_copyFrom : GoodIn wsX10_close wsX8_copyFrom := goodIn_r _ [34, 35, 36, 37, 38, 39, 40, 41, 42, 81, 82, 83, 84, 85, 86, 87, 88] (by decide +kernel) (by decide +kernel)
set_option maxRecDepth 20000 in
theorem gX10_close_X8_copyFrom : GoodIn wsX10_close (wsV RX10 148 RX8 yX8_copyFrom wsX8_copyFrom) := goodIn_app (goodIn_of _ (by decide +kernel)) ggX10_close_X8_copyFrom
set_option maxRecDepth 20000 in
theorem ggX10_seen_X10_there : GoodIn wsX10_seen wsX10_there := goodIn_r _ [8, 1, 9, 26, 27, 28, 29, 30, 31, 32, 33, 34, 35, 36, 37, 38, 39, 40, 41, 42, 43, 44, 45, 46, 47] (by decide +kernel) (by decide +kernel)
set_option maxRecDepth 20000 in
theorem gX10_seen_X10_there : GoodIn wsX10_seen (wsV RX10 123 RX10 yX10_there wsX10_there) := goodIn_app (goodIn_of _ (by decide +kernel)) ggX10_seen_X10_there
set_option maxRecDepth 20000 in
theorem ggX10_seen_X10_within : GoodIn wsX10_seen wsX10_within := goodIn_r _ [12] (by decide +kernel) (by decide +kernel)
set_option maxRecDepth 20000 in
theorem gX10_seen_X10_within : GoodIn wsX10_seen (va_wsS RX10 79 yX10_within wsX10_within) := goodIn_app (goodIn_of _ (by decide +kernel)) ggX10_seen_X10_within
set_option maxRecDepth 20000 in
theorem ggX10_seen_X10_refuse : GoodIn wsX10_seen wsX10_refuse := goodIn_r _ [16, 17, 26, 27, 28, 29, 30, 31, 32, 33, 34, 35, 36, 37, 38, 39] (by decide +kernel) (by decide +kernel)
set_option maxRecDepth 20000 in
theorem gX10_seen_X10_refuse : GoodIn wsX10_seen (wsV RX10 83 RX10 yX10_refuse wsX10_refuse) := goodIn_app (goodIn_of _ (by decide +kernel)) ggX10_seen_X10_refuse
set_option maxRecDepth 20000 in
theorem ggX10_strong_X10_there : GoodIn wsX10_strong wsX10_there := goodIn_r _ [6, 1, 7, 46, 47, 48, 49, 50, 51, 52, 53, 54, 55, 56, 57, 58, 59, 60, 61, 62, 63, 64, 65, 66, 67] (by decide +kernel) (by decide +kernel)
set_option maxRecDepth 20000 in
theorem gX10_strong_X10_there : GoodIn wsX10_strong (wsV RX10 123 RX10 yX10_there wsX10_there) := goodIn_app (goodIn_of _ (by decide +kernel)) ggX10_strong_X10_there
set_option maxRecDepth 20000 in
theorem ggX10_strong_X10_within : GoodIn wsX10_strong wsX10_within := goodIn_r _ [10] (by decide +kernel) (by decide +kernel)
set_option maxRecDepth 20000 in
theorem gX10_strong_X10_within : GoodIn wsX10_strong (va_wsS RX10 79 yX10_within wsX10_within) := goodIn_app (goodIn_of _ (by decide +kernel)) ggX10_strong_X10_within
set_option maxRecDepth 20000 in
theorem ggX10_strong_X10_refuse : GoodIn wsX10_strong wsX10_refuse := goodIn_r _ [14, 15, 46, 47, 48, 49, 50, 51, 52, 53, 54, 55, 56, 57, 58, 59] (by decide +kernel) (by decide +kernel)
set_option maxRecDepth 20000 in
theorem gX10_strong_X10_refuse : GoodIn wsX10_strong (wsV RX10 83 RX10 yX10_refuse wsX10_refuse) := goodIn_app (goodIn_of _ (by decide +kernel)) ggX10_strong_X10_refuse
set_option maxRecDepth 20000 in
theorem ggX10_tell_X10_there : GoodIn wsX10_tell wsX10_there := goodIn_r _ [7, 1, 8, 79, 80, 81, 82, 83, 84, 85, 86, 87, 88, 89, 90, 91, 92, 93, 94, 95, 96, 97, 98, 99, 100] (by decide +kernel) (by decide +kernel)
set_option maxRecDepth 20000 in
theorem gX10_tell_X10_there : GoodIn wsX10_tell (wsV RX10 123 RX10 yX10_there wsX10_there) := goodIn_app (goodIn_of _ (by decide +kernel)) ggX10_tell_X10_there
set_option maxRecDepth 20000 in
theorem ggX10_tell_X10_refuse : GoodIn wsX10_tell wsX10_refuse := goodIn_r _ [12, 13, 79, 80, 81, 82, 83, 84, 85, 86, 87, 88, 89, 90, 91, 92] (by decide +kernel) (by decide +kernel)
set_option maxRecDepth 20000 in
theorem gX10_tell_X10_refuse : GoodIn wsX10_tell (wsV RX10 83 RX10 yX10_refuse wsX10_refuse) := goodIn_app (goodIn_of _ (by decide +kernel)) ggX10_tell_X10_refuse
set_option maxRecDepth 20000 in
theorem ggX10_note_X10_there : GoodIn wsX10_note wsX10_there := goodIn_r _ [8, 1, 9, 26, 27, 28, 29, 30, 31, 32, 33, 34, 35, 36, 37, 38, 39, 40, 41, 42, 43, 44, 45, 46, 47] (by decide +kernel) (by decide +kernel)
set_option maxRecDepth 20000 in
theorem gX10_note_X10_there : GoodIn wsX10_note (wsV RX10 123 RX10 yX10_there wsX10_there) := goodIn_app (goodIn_of _ (by decide +kernel)) ggX10_note_X10_there
set_option maxRecDepth 20000 in
theorem ggX10_note_X10_within : GoodIn wsX10_note wsX10_within := goodIn_r _ [12] (by decide +kernel) (by decide +kernel)
set_option maxRecDepth 20000 in
theorem gX10_note_X10_within : GoodIn wsX10_note (va_wsS RX10 79 yX10_within wsX10_within) := goodIn_app (goodIn_of _ (by decide +kernel)) ggX10_note_X10_within
set_option maxRecDepth 20000 in
theorem ggX10_note_X10_refuse : GoodIn wsX10_note wsX10_refuse := goodIn_r _ [16, 17, 26, 27, 28, 29, 30, 31, 32, 33, 34, 35, 36, 37, 38, 39] (by decide +kernel) (by decide +kernel)
set_option maxRecDepth 20000 in
theorem gX10_note_X10_refuse : GoodIn wsX10_note (wsV RX10 83 RX10 yX10_refuse wsX10_refuse) := goodIn_app (goodIn_of _ (by decide +kernel)) ggX10_note_X10_refuse
set_option maxRecDepth 20000 in
theorem ggX10_mark_X10_there : GoodIn wsX10_mark wsX10_there := goodIn_r _ [8, 1, 9, 26, 27, 28, 29, 30, 31, 32, 33, 34, 35, 36, 37, 38, 39, 40, 41, 42, 43, 44, 45, 46, 47] (by decide +kernel) (by decide +kernel)
set_option maxRecDepth 20000 in
theorem gX10_mark_X10_there : GoodIn wsX10_mark (wsV RX10 123 RX10 yX10_there wsX10_there) := goodIn_app (goodIn_of _ (by decide +kernel)) ggX10_mark_X10_there
set_option maxRecDepth 20000 in
theorem ggX10_mark_X10_within : GoodIn wsX10_mark wsX10_within := goodIn_r _ [12] (by decide +kernel) (by decide +kernel)
set_option maxRecDepth 20000 in
theorem gX10_mark_X10_within : GoodIn wsX10_mark (va_wsS RX10 79 yX10_within wsX10_within) := goodIn_app (goodIn_of _ (by decide +kernel)) ggX10_mark_X10_within
set_option maxRecDepth 20000 in
theorem ggX10_mark_X10_refuse : GoodIn wsX10_mark wsX10_refuse := goodIn_r _ [16, 17, 26, 27, 28, 29, 30, 31, 32, 33, 34, 35, 36, 37, 38, 39] (by decide +kernel) (by decide +kernel)
set_option maxRecDepth 20000 in
theorem gX10_mark_X10_refuse : GoodIn wsX10_mark (wsV RX10 83 RX10 yX10_refuse wsX10_refuse) := goodIn_app (goodIn_of _ (by decide +kernel)) ggX10_mark_X10_refuse
set_option maxRecDepth 20000 in
theorem ggX10_forget_X10_within : GoodIn wsX10_forget wsX10_within := goodIn_r _ [9] (by decide +kernel) (by decide +kernel)
set_option maxRecDepth 20000 in
theorem gX10_forget_X10_within : GoodIn wsX10_forget (va_wsS RX10 79 yX10_within wsX10_within) := goodIn_app (goodIn_of _ (by decide +kernel)) ggX10_forget_X10_within
set_option maxRecDepth 20000 in
theorem ggX10_forget_X10_refuse : GoodIn wsX10_forget wsX10_refuse := goodIn_r _ [13, 14, 15, 16, 17, 18, 19, 20, 21, 22, 23, 24, 25, 26, 27, 28] (by decide +kernel) (by decide +kernel)
set_option maxRecDepth 20000 in
theorem gX10_forget_X10_refuse : GoodIn wsX10_forget (wsV RX10 83 RX10 yX10_refuse wsX10_refuse) := goodIn_app (goodIn_of _ (by decide +kernel)) ggX10_forget_X10_refuse
set_option maxRecDepth 20000 in
theorem ggX10_is_X10_there : GoodIn wsX10_is wsX10_there := goodIn_r _ [6, 1, 7, 31, 32, 33, 34, 35, 36, 37, 38, 39, 40, 41, 42, 43, 44, 45, 46, 47, 48, 49, 50, 51, 52] (by decide +kernel) (by decide +kernel)
set_option maxRecDepth 20000 in
theorem gX10_is_X10_there : GoodIn wsX10_is (wsV RX10 123 RX10 yX10_there wsX10_there) := goodIn_app (goodIn_of _ (by decide +kernel)) ggX10_is_X10_there
set_option maxRecDepth 20000 in
theorem ggX10_is_X10_refuse : GoodIn wsX10_is wsX10_refuse := goodIn_r _ [29, 30, 31, 32, 33, 34, 35, 36, 37, 38, 39, 40, 41, 42, 43, 44] (by decide +kernel) (by decide +kernel)
set_option maxRecDepth 20000 in
theorem gX10_is_X10_refuse : GoodIn wsX10_is (wsV RX10 83 RX10 yX10_refuse wsX10_refuse) := goodIn_app (goodIn_of _ (by decide +kernel)) ggX10_is_X10_refuse
set_option maxRecDepth 20000 in
theorem ggX10_look_X10_there : GoodIn wsX10_look wsX10_there := goodIn_r _ [7, 1, 8, 77, 78, 79, 80, 81, 82, 83, 84, 85, 86, 87, 88, 89, 90, 91, 92, 93, 94, 95, 96, 97, 98] (by decide +kernel) (by decide +kernel)
set_option maxRecDepth 20000 in
theorem gX10_look_X10_there : GoodIn wsX10_look (wsV RX10 123 RX10 yX10_there wsX10_there) := goodIn_app (goodIn_of _ (by decide +kernel)) ggX10_look_X10_there
set_option maxRecDepth 20000 in
theorem ggX10_look_X10_refuse : GoodIn wsX10_look wsX10_refuse := goodIn_r _ [12, 13, 77, 78, 79, 80, 81, 82, 83, 84, 85, 86, 87, 88, 89, 90] (by decide +kernel) (by decide +kernel)
set_option maxRecDepth 20000 in
theorem gX10_look_X10_refuse : GoodIn wsX10_look (wsV RX10 83 RX10 yX10_refuse wsX10_refuse) := goodIn_app (goodIn_of _ (by decide +kernel)) ggX10_look_X10_refuse
set_option maxRecDepth 20000 in
theorem ggX10_kinds_X10_there : GoodIn wsX10_kinds wsX10_there := goodIn_r _ [6, 1, 7, 30, 31, 32, 33, 34, 35, 36, 37, 38, 39, 40, 41, 42, 43, 44, 45, 46, 47, 48, 49, 50, 51] (by decide +kernel) (by decide +kernel)
set_option maxRecDepth 20000 in
theorem gX10_kinds_X10_there : GoodIn wsX10_kinds (wsV RX10 123 RX10 yX10_there wsX10_there) := goodIn_app (goodIn_of _ (by decide +kernel)) ggX10_kinds_X10_there
set_option maxRecDepth 20000 in
theorem ggX10_kinds_X10_refuse : GoodIn wsX10_kinds wsX10_refuse := goodIn_r _ [28, 29, 30, 31, 32, 33, 34, 35, 36, 37, 38, 39, 40, 41, 42, 43] (by decide +kernel) (by decide +kernel)
set_option maxRecDepth 20000 in
theorem gX10_kinds_X10_refuse : GoodIn wsX10_kinds (wsV RX10 83 RX10 yX10_refuse wsX10_refuse) := goodIn_app (goodIn_of _ (by decide +kernel)) ggX10_kinds_X10_refuse
set_option maxRecDepth 20000 in
theorem ggX10_ask_X10_there : GoodIn wsX10_ask wsX10_there := goodIn_r _ [7, 1, 8, 76, 77, 78, 79, 80, 81, 82, 83, 84, 85, 86, 87, 88, 89, 90, 91, 92, 93, 94, 95, 96, 97] (by decide +kernel) (by decide +kernel)
set_option maxRecDepth 20000 in
theorem gX10_ask_X10_there : GoodIn wsX10_ask (wsV RX10 123 RX10 yX10_there wsX10_there) := goodIn_app (goodIn_of _ (by decide +kernel)) ggX10_ask_X10_there
set_option maxRecDepth 20000 in
theorem ggX10_ask_X10_refuse : GoodIn wsX10_ask wsX10_refuse := goodIn_r _ [12, 13, 76, 77, 78, 79, 80, 81, 82, 83, 84, 85, 86, 87, 88, 89] (by decide +kernel) (by decide +kernel)
set_option maxRecDepth 20000 in
theorem gX10_ask_X10_refuse : GoodIn wsX10_ask (wsV RX10 83 RX10 yX10_refuse wsX10_refuse) := goodIn_app (goodIn_of _ (by decide +kernel)) ggX10_ask_X10_refuse
set_option maxRecDepth 20000 in
theorem ggX10_pair_X10_areTwo : GoodIn wsX10_pair wsX10_areTwo := goodIn_r _ [9, 10, 11, 12, 8, 13, 2, 14, 89, 90, 91, 92, 93, 94, 95, 96, 97, 98, 99, 100, 101, 102, 103, 104, 105, 106, 107, 108, 109, 110] (by decide +kernel) (by decide +kernel)
set_option maxRecDepth 20000 in
theorem gX10_pair_X10_areTwo : GoodIn wsX10_pair (wsV RX10 172 RX10 yX10_areTwo wsX10_areTwo) := goodIn_app (goodIn_of _ (by decide +kernel)) ggX10_pair_X10_areTwo
set_option maxRecDepth 20000 in
theorem ggX10_pair_X10_refuse : GoodIn wsX10_pair wsX10_refuse := goodIn_r _ [18, 19, 89, 90, 91, 92, 93, 94, 95, 96, 97, 98, 99, 100, 101, 102] (by decide +kernel) (by decide +kernel)
set_option maxRecDepth 20000 in
theorem gX10_pair_X10_refuse : GoodIn wsX10_pair (wsV RX10 83 RX10 yX10_refuse wsX10_refuse) := goodIn_app (goodIn_of _ (by decide +kernel)) ggX10_pair_X10_refuse
set_option maxRecDepth 20000 in
theorem ggX10_stumble_X10_there : GoodIn wsX10_stumble wsX10_there := goodIn_r _ [14, 1, 15, 60, 61, 62, 63, 64, 65, 66, 67, 68, 69, 70, 71, 72, 73, 74, 75, 76, 77, 78, 79, 80, 81] (by decide +kernel) (by decide +kernel)
set_option maxRecDepth 20000 in
theorem gX10_stumble_X10_there : GoodIn wsX10_stumble (wsV RX10 123 RX10 yX10_there wsX10_there) := goodIn_app (goodIn_of _ (by decide +kernel)) ggX10_stumble_X10_there
set_option maxRecDepth 20000 in
theorem ggX10_stumble_X10_within : GoodIn wsX10_stumble wsX10_within := goodIn_r _ [18] (by decide +kernel) (by decide +kernel)
set_option maxRecDepth 20000 in
theorem gX10_stumble_X10_within : GoodIn wsX10_stumble (va_wsS RX10 79 yX10_within wsX10_within) := goodIn_app (goodIn_of _ (by decide +kernel)) ggX10_stumble_X10_within
set_option maxRecDepth 20000 in
theorem ggX10_stumble_X10_refuse : GoodIn wsX10_stumble wsX10_refuse := goodIn_r _ [22, 23, 60, 61, 62, 63, 64, 65, 66, 67, 68, 69, 70, 71, 72, 73] (by decide +kernel) (by decide +kernel)
set_option maxRecDepth 20000 in
theorem gX10_stumble_X10_refuse : GoodIn wsX10_stumble (wsV RX10 83 RX10 yX10_refuse wsX10_refuse) := goodIn_app (goodIn_of _ (by decide +kernel)) ggX10_stumble_X10_refuse
set_option maxRecDepth 20000 in
theorem ggX10_races_X10_within : GoodIn wsX10_races wsX10_within := goodIn_r _ [17] (by decide +kernel) (by decide +kernel)
set_option maxRecDepth 20000 in
theorem gX10_races_X10_within : GoodIn wsX10_races (va_wsS RX10 79 yX10_within wsX10_within) := goodIn_app (goodIn_of _ (by decide +kernel)) ggX10_races_X10_within
set_option maxRecDepth 20000 in
theorem ggX10_races_X10_refuse : GoodIn wsX10_races wsX10_refuse := goodIn_r _ [21, 22, 70, 71, 72, 73, 74, 75, 76, 77, 78, 79, 80, 81, 82, 83] (by decide +kernel) (by decide +kernel)
set_option maxRecDepth 20000 in
theorem gX10_races_X10_refuse : GoodIn wsX10_races (wsV RX10 83 RX10 yX10_refuse wsX10_refuse) := goodIn_app (goodIn_of _ (by decide +kernel)) ggX10_races_X10_refuse
set_option maxRecDepth 20000 in
theorem ggX10_races_X5_copyLine : GoodIn wsX10_races wsX5_copyLine := goodIn_r _ [27, 28, 29, 30, 31, 32, 33, 34, 35, 36, 37, 38, 39, 40, 41, 42, 43, 44, 84, 85, 86, 87, 88, 89, 90, 91, 92, 93, 94, 95, 96, 97, 98, 99] (by decide +kernel) (by decide +kernel)
set_option maxRecDepth 20000 in
theorem gX10_races_X5_copyLine : GoodIn wsX10_races (wsV RX10 256 RX5 yX5_copyLine wsX5_copyLine) := goodIn_app (goodIn_of _ (by decide +kernel)) ggX10_races_X5_copyLine
set_option maxRecDepth 20000 in
theorem ggX10_races_X5_goOn : GoodIn wsX10_races wsX5_goOn := goodIn_r _ [48, 29, 30, 31, 28, 49, 50, 51, 35, 52, 43, 37, 38, 40, 39, 42, 41, 44, 53, 54, 55, 56, 57, 58, 59, 60, 61, 62, 63, 64, 84, 85, 86, 87, 88, 89, 90, 91, 92, 93, 94, 95, 96, 97, 98, 99] (by decide +kernel) (by decide +kernel)
set_option maxRecDepth 20000 in
theorem gX10_races_X5_goOn : GoodIn wsX10_races (wsV RX10 116 RX5 yX5_goOn wsX5_goOn) := goodIn_app (goodIn_of _ (by decide +kernel)) ggX10_races_X5_goOn
set_option maxRecDepth 20000 in
theorem ggX10_races_X5_homes : GoodIn wsX10_races wsX5_homes := goodIn_r _ [68, 30, 31, 69, 54, 55, 35, 56, 44, 84, 85, 86, 87, 88, 89, 90, 91, 92, 93, 94, 95, 96, 97, 98, 99] (by decide +kernel) (by decide +kernel)
set_option maxRecDepth 20000 in
theorem gX10_races_X5_homes : GoodIn wsX10_races (wsV RX10 119 RX5 yX5_homes wsX5_homes) := goodIn_app (goodIn_of _ (by decide +kernel)) ggX10_races_X5_homes
set_option maxRecDepth 20000 in
theorem ggX10_part_X10_within : GoodIn wsX10_part wsX10_within := goodIn_r _ [6] (by decide +kernel) (by decide +kernel)
set_option maxRecDepth 20000 in
theorem gX10_part_X10_within : GoodIn wsX10_part (va_wsS RX10 79 yX10_within wsX10_within) := goodIn_app (goodIn_of _ (by decide +kernel)) ggX10_part_X10_within
set_option maxRecDepth 20000 in
theorem ggX10_part_X10_refuse : GoodIn wsX10_part wsX10_refuse := goodIn_r _ [10, 11, 12, 13, 14, 15, 16, 17, 18, 19, 20, 21, 22, 23, 24, 25] (by decide +kernel) (by decide +kernel)
set_option maxRecDepth 20000 in
theorem gX10_part_X10_refuse : GoodIn wsX10_part (wsV RX10 83 RX10 yX10_refuse wsX10_refuse) := goodIn_app (goodIn_of _ (by decide +kernel)) ggX10_part_X10_refuse
set_option maxRecDepth 20000 in
theorem ggX10_image_X10_within : GoodIn wsX10_image wsX10_within := goodIn_r _ [7] (by decide +kernel) (by decide +kernel)
set_option maxRecDepth 20000 in
theorem gX10_image_X10_within : GoodIn wsX10_image (va_wsS RX10 79 yX10_within wsX10_within) := goodIn_app (goodIn_of _ (by decide +kernel)) ggX10_image_X10_within
set_option maxRecDepth 20000 in
theorem ggX10_image_X10_refuse : GoodIn wsX10_image wsX10_refuse := goodIn_r _ [11, 12, 66, 67, 68, 69, 70, 71, 72, 73, 74, 75, 76, 77, 78, 79] (by decide +kernel) (by decide +kernel)
set_option maxRecDepth 20000 in
theorem gX10_image_X10_refuse : GoodIn wsX10_image (wsV RX10 83 RX10 yX10_refuse wsX10_refuse) := goodIn_app (goodIn_of _ (by decide +kernel)) ggX10_image_X10_refuse
set_option maxRecDepth 20000 in
theorem ggX10_image_X5_copyFrom : GoodIn wsX10_image wsX5_copyFrom := goodIn_r _ [17, 18, 19, 20, 21, 22, 23, 24, 16, 25, 26, 27, 28, 29, 30, 31, 32, 33, 34, 35, 36, 37, 38, 39, 40, 41, 42, 43, 44, 45, 46, 47, 48, 49, 50, 51, 52, 53, 54, 55, 56, 57, 58, 59, 60, 61, 62, 63, 64, 65, 80, 81, 82, 83, 84, 85, 86, 87, 88, 89, 90, 91, 92, 93, 94, 95, 96, 97, 98, 99, 100, 101, 102] (by decide +kernel) (by decide +kernel)
set_option maxRecDepth 20000 in
theorem gX10_image_X5_copyFrom : GoodIn wsX10_image (wsV RX10 274 RX5 yX5_copyFrom wsX5_copyFrom) := goodIn_app (goodIn_of _ (by decide +kernel)) ggX10_image_X5_copyFrom
set_option maxRecDepth 20000 in
theorem ggX10_from_X10_within : GoodIn wsX10_from wsX10_within := goodIn_r _ [7] (by decide +kernel) (by decide +kernel)
set_option maxRecDepth 20000 in
theorem gX10_from_X10_within : GoodIn wsX10_from (va_wsS RX10 79 yX10_within wsX10_within) := goodIn_app (goodIn_of _ (by decide +kernel)) ggX10_from_X10_within
set_option maxRecDepth 20000 in
theorem ggX10_from_X10_refuse : GoodIn wsX10_from wsX10_refuse := goodIn_r _ [11, 12, 66, 67, 68, 69, 70, 71, 72, 73, 74, 75, 76, 77, 78, 79] (by decide +kernel) (by decide +kernel)
set_option maxRecDepth 20000 in
theorem gX10_from_X10_refuse : GoodIn wsX10_from (wsV RX10 83 RX10 yX10_refuse wsX10_refuse) := goodIn_app (goodIn_of _ (by decide +kernel)) ggX10_from_X10_refuse
set_option maxRecDepth 20000 in
theorem ggX10_from_X5_copyFrom : GoodIn wsX10_from wsX5_copyFrom := goodIn_r _ [17, 18, 19, 20, 21, 22, 23, 24, 16, 25, 26, 27, 28, 29, 30, 31, 32, 33, 34, 35, 36, 37, 38, 39, 40, 41, 42, 43, 44, 45, 46, 47, 48, 49, 50, 51, 52, 53, 54, 55, 56, 57, 58, 59, 60, 61, 62, 63, 64, 65, 80, 81, 82, 83, 84, 85, 86, 87, 88, 89, 90, 91, 92, 93, 94, 95, 96, 97, 98, 99, 100, 101, 102] (by decide +kernel) (by decide +kernel)
set_option maxRecDepth 20000 in
theorem gX10_from_X5_copyFrom : GoodIn wsX10_from (wsV RX10 274 RX5 yX5_copyFrom wsX5_copyFrom) := goodIn_app (goodIn_of _ (by decide +kernel)) ggX10_from_X5_copyFrom
set_option maxRecDepth 20000 in
theorem ggX10_status_X10_within : GoodIn wsX10_status wsX10_within := goodIn_r _ [5] (by decide +kernel) (by decide +kernel)
set_option maxRecDepth 20000 in
theorem gX10_status_X10_within : GoodIn wsX10_status (va_wsS RX10 79 yX10_within wsX10_within) := goodIn_app (goodIn_of _ (by decide +kernel)) ggX10_status_X10_within
set_option maxRecDepth 20000 in
theorem ggX10_status_X10_refuse : GoodIn wsX10_status wsX10_refuse := goodIn_r _ [9, 1, 10, 11, 12, 13, 14, 15, 16, 17, 18, 19, 20, 21, 22, 23] (by decide +kernel) (by decide +kernel)
set_option maxRecDepth 20000 in
theorem gX10_status_X10_refuse : GoodIn wsX10_status (wsV RX10 83 RX10 yX10_refuse wsX10_refuse) := goodIn_app (goodIn_of _ (by decide +kernel)) ggX10_status_X10_refuse
set_option maxRecDepth 20000 in
theorem ggX10_count_X5_homes : GoodIn wsX10_count wsX5_homes := goodIn_r _ [16, 17, 18, 19, 20, 21, 22, 23, 24, 55, 56, 57, 58, 59, 60, 61, 62, 77, 78, 79, 80, 81, 82, 83, 84] (by decide +kernel) (by decide +kernel)
set_option maxRecDepth 20000 in
theorem gX10_count_X5_homes : GoodIn wsX10_count (wsV RX10 119 RX5 yX5_homes wsX5_homes) := goodIn_app (goodIn_of _ (by decide +kernel)) ggX10_count_X5_homes
set_option maxRecDepth 20000 in
theorem ggX10_count_X5_placesTogether : GoodIn wsX10_count wsX5_placesTogether := goodIn_r _ [28, 17, 18, 29, 55, 56, 57, 58, 59, 60, 61, 62, 77, 78, 79, 80, 81, 82, 83, 84] (by decide +kernel) (by decide +kernel)
set_option maxRecDepth 20000 in
theorem gX10_count_X5_placesTogether : GoodIn wsX10_count (wsV RX10 276 RX5 yX5_placesTogether wsX5_placesTogether) := goodIn_app (goodIn_of _ (by decide +kernel)) ggX10_count_X5_placesTogether
set_option maxRecDepth 20000 in
theorem ggX10_count_X5_dropsTogether : GoodIn wsX10_count wsX5_dropsTogether := goodIn_r _ [33, 17, 18, 34, 55, 56, 57, 58, 59, 60, 61, 62, 77, 78, 79, 80, 81, 82, 83, 84] (by decide +kernel) (by decide +kernel)
set_option maxRecDepth 20000 in
theorem gX10_count_X5_dropsTogether : GoodIn wsX10_count (wsV RX10 279 RX5 yX5_dropsTogether wsX5_dropsTogether) := goodIn_app (goodIn_of _ (by decide +kernel)) ggX10_count_X5_dropsTogether
set_option maxRecDepth 20000 in
theorem ggX10_count_X10_refuse : GoodIn wsX10_count wsX10_refuse := goodIn_r _ [39, 40, 41, 42, 43, 44, 45, 46, 47, 48, 49, 50, 51, 52, 53, 54] (by decide +kernel) (by decide +kernel)
set_option maxRecDepth 20000 in
theorem gX10_count_X10_refuse : GoodIn wsX10_count (wsV RX10 83 RX10 yX10_refuse wsX10_refuse) := goodIn_app (goodIn_of _ (by decide +kernel)) ggX10_count_X10_refuse
set_option maxRecDepth 20000 in
theorem ggX10_digest_X10_count : GoodIn wsX10_digest wsX10_count := goodIn_r _ [16, 3, 4, 17, 6, 7, 18, 8, 9, 19, 20, 21, 22, 23, 24, 25, 26, 27, 28, 29, 30, 31, 32, 33, 34, 35, 36, 37, 38, 39, 40, 41, 42, 43, 44, 45, 46, 47, 15, 48, 49, 79, 80, 81, 82, 83, 84, 85, 86, 87, 88, 89, 90, 91, 92, 93, 94, 95, 96, 97, 98, 99, 100, 101, 102, 103, 104, 105, 106, 107, 108, 109, 110, 111, 112, 113, 114, 115, 116, 117, 118, 119, 120, 121, 122] (by decide +kernel) (by decide +kernel)
set_option maxRecDepth 20000 in
theorem gX10_digest_X10_count : GoodIn wsX10_digest (wsV RX10 293 RX10 yX10_count wsX10_count) := goodIn_app (goodIn_of _ (by decide +kernel)) ggX10_digest_X10_count
set_option maxRecDepth 20000 in
theorem ggX10_digest_X7_mixInto : GoodIn wsX10_digest wsX7_mixInto := goodIn_r _ [73, 74, 75, 76, 77, 78, 101, 102, 103, 104, 105] (by decide +kernel) (by decide +kernel)
set_option maxRecDepth 20000 in
theorem gX10_digest_X7_mixInto : GoodIn wsX10_digest (wsV RX10 296 RX7 yX7_mixInto wsX7_mixInto) := goodIn_app (goodIn_of _ (by decide +kernel)) ggX10_digest_X7_mixInto
set_option maxRecDepth 20000 in
theorem ggX10_areTwo_X10_there : GoodIn wsX10_areTwo wsX10_there := goodIn_r _ [5, 6, 7, 8, 9, 10, 11, 12, 13, 14, 15, 16, 17, 18, 19, 20, 21, 22, 23, 24, 25, 26, 27, 28, 29] (by decide +kernel) (by decide +kernel)
set_option maxRecDepth 20000 in
theorem gX10_areTwo_X10_there : GoodIn wsX10_areTwo (wsV RX10 123 RX10 yX10_there wsX10_there) := goodIn_app (goodIn_of _ (by decide +kernel)) ggX10_areTwo_X10_there
set_option maxRecDepth 20000 in
theorem ggX11_init_X11_begin : GoodIn wsX11_init wsX11_begin := goodIn_r _ [21] (by decide +kernel) (by decide +kernel)
set_option maxRecDepth 20000 in
theorem gX11_init_X11_begin : GoodIn wsX11_init (va_wsS RX11 48 yX11_begin wsX11_begin) := goodIn_app (goodIn_of _ (by decide +kernel)) ggX11_init_X11_begin
set_option maxRecDepth 20000 in
theorem ggX11_isOne_X11_many : GoodIn wsX11_isOne wsX11_many := goodIn_r _ [5, 6, 10, 11, 12, 13, 14, 15, 16, 17, 18, 19, 20, 21, 22, 23, 24, 25, 26, 27] (by decide +kernel) (by decide +kernel)
set_option maxRecDepth 20000 in
theorem gX11_isOne_X11_many : GoodIn wsX11_isOne (wsV RX11 52 RX11 yX11_many wsX11_many) := goodIn_app (goodIn_of _ (by decide +kernel)) ggX11_isOne_X11_many
set_option maxRecDepth 20000 in
theorem ggX11_isOne_X11_in : GoodIn wsX11_isOne wsX11_in := goodIn_r _ [9] (by decide +kernel) (by decide +kernel)
set_option maxRecDepth 20000 in
theorem gX11_isOne_X11_in : GoodIn wsX11_isOne (va_wsS RX11 56 yX11_in wsX11_in) := goodIn_app (goodIn_of _ (by decide +kernel)) ggX11_isOne_X11_in
set_option maxRecDepth 20000 in
theorem ggX11_isKind_X11_in : GoodIn wsX11_isKind wsX11_in := goodIn_r _ [5] (by decide +kernel) (by decide +kernel)
set_option maxRecDepth 20000 in
theorem gX11_isKind_X11_in : GoodIn wsX11_isKind (va_wsS RX11 56 yX11_in wsX11_in) := goodIn_app (goodIn_of _ (by decide +kernel)) ggX11_isKind_X11_in
set_option maxRecDepth 20000 in
theorem ggX11_isLegs_X11_in : GoodIn wsX11_isLegs wsX11_in := goodIn_r _ [5] (by decide +kernel) (by decide +kernel)
set_option maxRecDepth 20000 in
theorem gX11_isLegs_X11_in : GoodIn wsX11_isLegs (va_wsS RX11 56 yX11_in wsX11_in) := goodIn_app (goodIn_of _ (by decide +kernel)) ggX11_isLegs_X11_in
set_option maxRecDepth 20000 in
theorem ggX11_isSpeed_X11_in : GoodIn wsX11_isSpeed wsX11_in := goodIn_r _ [5] (by decide +kernel) (by decide +kernel)
set_option maxRecDepth 20000 in
theorem gX11_isSpeed_X11_in : GoodIn wsX11_isSpeed (va_wsS RX11 56 yX11_in wsX11_in) := goodIn_app (goodIn_of _ (by decide +kernel)) ggX11_isSpeed_X11_in
set_option maxRecDepth 20000 in
theorem ggX11_race_X11_in : GoodIn wsX11_race wsX11_in := goodIn_r _ [7] (by decide +kernel) (by decide +kernel)
set_option maxRecDepth 20000 in
theorem gX11_race_X11_in : GoodIn wsX11_race (va_wsS RX11 56 yX11_in wsX11_in) := goodIn_app (goodIn_of _ (by decide +kernel)) ggX11_race_X11_in
set_option maxRecDepth 20000 in
theorem ggX11_race_X11_bad : GoodIn wsX11_race wsX11_bad := goodIn_r _ [11, 12, 20, 21, 22, 23, 24, 25, 26, 27, 28, 29, 30, 31, 32, 33, 34, 35, 36, 37] (by decide +kernel) (by decide +kernel)
set_option maxRecDepth 20000 in
theorem gX11_race_X11_bad : GoodIn wsX11_race (wsV RX11 68 RX11 yX11_bad wsX11_bad) := goodIn_app (goodIn_of _ (by decide +kernel)) ggX11_race_X11_bad
set_option maxRecDepth 20000 in
theorem ggX11_race_X11_many : GoodIn wsX11_race wsX11_many := goodIn_r _ [16, 3, 20, 21, 22, 23, 24, 25, 26, 27, 28, 29, 30, 31, 32, 33, 34, 35, 36, 37] (by decide +kernel) (by decide +kernel)
set_option maxRecDepth 20000 in
theorem gX11_race_X11_many : GoodIn wsX11_race (wsV RX11 52 RX11 yX11_many wsX11_many) := goodIn_app (goodIn_of _ (by decide +kernel)) ggX11_race_X11_many
set_option maxRecDepth 20000 in
theorem ggX11_race_X11_begin : GoodIn wsX11_race wsX11_begin := goodIn_r _ [19] (by decide +kernel) (by decide +kernel)
set_option maxRecDepth 20000 in
theorem gX11_race_X11_begin : GoodIn wsX11_race (va_wsS RX11 48 yX11_begin wsX11_begin) := goodIn_app (goodIn_of _ (by decide +kernel)) ggX11_race_X11_begin
set_option maxRecDepth 20000 in
theorem ggX11_one_X11_isKind : GoodIn wsX11_one wsX11_isKind := goodIn_r _ [5, 6, 7, 8, 4, 9] (by decide +kernel) (by decide +kernel)
set_option maxRecDepth 20000 in
theorem gX11_one_X11_isKind : GoodIn wsX11_one (va_wsS RX11 72 yX11_isKind wsX11_isKind) := goodIn_app (goodIn_of _ (by decide +kernel)) ggX11_one_X11_isKind
set_option maxRecDepth 20000 in
theorem ggX11_one_X11_isLegs : GoodIn wsX11_one wsX11_isLegs := goodIn_r _ [12, 13, 7, 8, 4, 9] (by decide +kernel) (by decide +kernel)
set_option maxRecDepth 20000 in
theorem gX11_one_X11_isLegs : GoodIn wsX11_one (va_wsS RX11 76 yX11_isLegs wsX11_isLegs) := goodIn_app (goodIn_of _ (by decide +kernel)) ggX11_one_X11_isLegs
set_option maxRecDepth 20000 in
theorem ggX11_one_X11_bad : GoodIn wsX11_one wsX11_bad := goodIn_r _ [17, 18, 30, 31, 32, 33, 34, 35, 36, 37, 38, 39, 40, 41, 42, 43, 44, 45, 46, 47] (by decide +kernel) (by decide +kernel)
set_option maxRecDepth 20000 in
theorem gX11_one_X11_bad : GoodIn wsX11_one (wsV RX11 68 RX11 yX11_bad wsX11_bad) := goodIn_app (goodIn_of _ (by decide +kernel)) ggX11_one_X11_bad
set_option maxRecDepth 20000 in
theorem ggX11_one_X11_many : GoodIn wsX11_one wsX11_many := goodIn_r _ [22, 1, 30, 31, 32, 33, 34, 35, 36, 37, 38, 39, 40, 41, 42, 43, 44, 45, 46, 47] (by decide +kernel) (by decide +kernel)
set_option maxRecDepth 20000 in
theorem gX11_one_X11_many : GoodIn wsX11_one (wsV RX11 52 RX11 yX11_many wsX11_many) := goodIn_app (goodIn_of _ (by decide +kernel)) ggX11_one_X11_many
set_option maxRecDepth 20000 in
theorem ggX11_one_X11_layOne : GoodIn wsX11_one wsX11_layOne := goodIn_r _ [29] (by decide +kernel) (by decide +kernel)
set_option maxRecDepth 20000 in
theorem gX11_one_X11_layOne : GoodIn wsX11_one (va_wsS RX11 82 yX11_layOne wsX11_layOne) := goodIn_app (goodIn_of _ (by decide +kernel)) ggX11_one_X11_layOne
set_option maxRecDepth 20000 in
theorem ggX11_goTicks_X11_goTick : GoodIn wsX11_goTicks wsX11_goTick := goodIn_r _ [4, 5, 6, 3, 7, 8, 9, 10, 11, 12, 13, 14, 15, 16, 17, 18, 19, 20, 21, 22] (by decide +kernel) (by decide +kernel)
set_option maxRecDepth 20000 in
theorem gX11_goTicks_X11_goTick : GoodIn wsX11_goTicks (va_wsS RX11 109 yX11_goTick wsX11_goTick) := goodIn_app (goodIn_of _ (by decide +kernel)) ggX11_goTicks_X11_goTick
set_option maxRecDepth 20000 in
theorem ggX11_ticks_X11_in : GoodIn wsX11_ticks wsX11_in := goodIn_r _ [6] (by decide +kernel) (by decide +kernel)
set_option maxRecDepth 20000 in
theorem gX11_ticks_X11_in : GoodIn wsX11_ticks (va_wsS RX11 56 yX11_in wsX11_in) := goodIn_app (goodIn_of _ (by decide +kernel)) ggX11_ticks_X11_in
set_option maxRecDepth 20000 in
theorem ggX11_ticks_X11_bad : GoodIn wsX11_ticks wsX11_bad := goodIn_r _ [10, 11, 43, 44, 45, 46, 47, 48, 49, 50, 51, 52, 53, 54, 55, 56, 57, 58, 59, 60] (by decide +kernel) (by decide +kernel)
set_option maxRecDepth 20000 in
theorem gX11_ticks_X11_bad : GoodIn wsX11_ticks (wsV RX11 68 RX11 yX11_bad wsX11_bad) := goodIn_app (goodIn_of _ (by decide +kernel)) ggX11_ticks_X11_bad
set_option maxRecDepth 20000 in
theorem ggX11_ticks_X11_save : GoodIn wsX11_ticks wsX11_save := goodIn_r _ [15, 2, 43, 44, 45, 46, 47, 48, 49, 50, 51, 52, 53, 54, 55, 56, 57, 58, 59, 60] (by decide +kernel) (by decide +kernel)
set_option maxRecDepth 20000 in
theorem gX11_ticks_X11_save : GoodIn wsX11_ticks (wsV RX11 113 RX11 yX11_save wsX11_save) := goodIn_app (goodIn_of _ (by decide +kernel)) ggX11_ticks_X11_save
set_option maxRecDepth 20000 in
theorem ggX11_ticks_X11_goTicks : GoodIn wsX11_ticks wsX11_goTicks := goodIn_r _ [18, 19, 20, 5, 21, 22, 23, 24, 25, 26, 27, 28, 29, 30, 31, 32, 33, 34, 35, 36, 37, 38, 39] (by decide +kernel) (by decide +kernel)
set_option maxRecDepth 20000 in
theorem gX11_ticks_X11_goTicks : GoodIn wsX11_ticks (va_wsS RX11 116 yX11_goTicks wsX11_goTicks) := goodIn_app (goodIn_of _ (by decide +kernel)) ggX11_ticks_X11_goTicks
set_option maxRecDepth 20000 in
theorem ggX11_ticks_X11_manyHome : GoodIn wsX11_ticks wsX11_manyHome := goodIn_r _ [42, 22, 23, 5, 24] (by decide +kernel) (by decide +kernel)
set_option maxRecDepth 20000 in
theorem gX11_ticks_X11_manyHome : GoodIn wsX11_ticks (va_wsS RX11 119 yX11_manyHome wsX11_manyHome) := goodIn_app (goodIn_of _ (by decide +kernel)) ggX11_ticks_X11_manyHome
set_option maxRecDepth 20000 in
theorem ggX11_speed_X11_isOne : GoodIn wsX11_speed wsX11_isOne := goodIn_r _ [6, 7, 8, 9, 5, 10, 1, 11, 12, 13, 34, 35, 36, 37, 38, 39, 40, 41, 42, 43, 44, 45, 46, 47, 48, 49, 50, 51] (by decide +kernel) (by decide +kernel)
set_option maxRecDepth 20000 in
theorem gX11_speed_X11_isOne : GoodIn wsX11_speed (wsV RX11 123 RX11 yX11_isOne wsX11_isOne) := goodIn_app (goodIn_of _ (by decide +kernel)) ggX11_speed_X11_isOne
set_option maxRecDepth 20000 in
theorem ggX11_speed_X11_isSpeed : GoodIn wsX11_speed wsX11_isSpeed := goodIn_r _ [16, 17, 11, 12, 5, 13] (by decide +kernel) (by decide +kernel)
set_option maxRecDepth 20000 in
theorem gX11_speed_X11_isSpeed : GoodIn wsX11_speed (va_wsS RX11 126 yX11_isSpeed wsX11_isSpeed) := goodIn_app (goodIn_of _ (by decide +kernel)) ggX11_speed_X11_isSpeed
set_option maxRecDepth 20000 in
theorem ggX11_speed_X11_bad : GoodIn wsX11_speed wsX11_bad := goodIn_r _ [21, 22, 34, 35, 36, 37, 38, 39, 40, 41, 42, 43, 44, 45, 46, 47, 48, 49, 50, 51] (by decide +kernel) (by decide +kernel)
set_option maxRecDepth 20000 in
theorem gX11_speed_X11_bad : GoodIn wsX11_speed (wsV RX11 68 RX11 yX11_bad wsX11_bad) := goodIn_app (goodIn_of _ (by decide +kernel)) ggX11_speed_X11_bad
set_option maxRecDepth 20000 in
theorem ggX11_speed_X11_no : GoodIn wsX11_speed wsX11_no := goodIn_r _ [29, 22, 34, 35, 36, 37, 38, 39, 40, 41, 42, 43, 44, 45, 46, 47, 48, 49, 50, 51] (by decide +kernel) (by decide +kernel)
set_option maxRecDepth 20000 in
theorem gX11_speed_X11_no : GoodIn wsX11_speed (wsV RX11 129 RX11 yX11_no wsX11_no) := goodIn_app (goodIn_of _ (by decide +kernel)) ggX11_speed_X11_no
set_option maxRecDepth 20000 in
theorem ggX11_speed_X11_save : GoodIn wsX11_speed wsX11_save := goodIn_r _ [33, 1, 34, 35, 36, 37, 38, 39, 40, 41, 42, 43, 44, 45, 46, 47, 48, 49, 50, 51] (by decide +kernel) (by decide +kernel)
set_option maxRecDepth 20000 in
theorem gX11_speed_X11_save : GoodIn wsX11_speed (wsV RX11 113 RX11 yX11_save wsX11_save) := goodIn_app (goodIn_of _ (by decide +kernel)) ggX11_speed_X11_save
set_option maxRecDepth 20000 in
theorem ggX11_start_X11_isOne : GoodIn wsX11_start wsX11_isOne := goodIn_r _ [7, 8, 9, 10, 6, 11, 2, 12, 13, 14, 31, 32, 33, 34, 35, 36, 37, 38, 39, 40, 41, 42, 43, 44, 45, 46, 47, 48] (by decide +kernel) (by decide +kernel)
set_option maxRecDepth 20000 in
theorem gX11_start_X11_isOne : GoodIn wsX11_start (wsV RX11 123 RX11 yX11_isOne wsX11_isOne) := goodIn_app (goodIn_of _ (by decide +kernel)) ggX11_start_X11_isOne
set_option maxRecDepth 20000 in
theorem ggX11_start_X11_in : GoodIn wsX11_start wsX11_in := goodIn_r _ [14] (by decide +kernel) (by decide +kernel)
set_option maxRecDepth 20000 in
theorem gX11_start_X11_in : GoodIn wsX11_start (va_wsS RX11 56 yX11_in wsX11_in) := goodIn_app (goodIn_of _ (by decide +kernel)) ggX11_start_X11_in
set_option maxRecDepth 20000 in
theorem ggX11_start_X11_bad : GoodIn wsX11_start wsX11_bad := goodIn_r _ [18, 19, 31, 32, 33, 34, 35, 36, 37, 38, 39, 40, 41, 42, 43, 44, 45, 46, 47, 48] (by decide +kernel) (by decide +kernel)
set_option maxRecDepth 20000 in
theorem gX11_start_X11_bad : GoodIn wsX11_start (wsV RX11 68 RX11 yX11_bad wsX11_bad) := goodIn_app (goodIn_of _ (by decide +kernel)) ggX11_start_X11_bad
set_option maxRecDepth 20000 in
theorem ggX11_start_X11_no : GoodIn wsX11_start wsX11_no := goodIn_r _ [26, 19, 31, 32, 33, 34, 35, 36, 37, 38, 39, 40, 41, 42, 43, 44, 45, 46, 47, 48] (by decide +kernel) (by decide +kernel)
set_option maxRecDepth 20000 in
theorem gX11_start_X11_no : GoodIn wsX11_start (wsV RX11 129 RX11 yX11_no wsX11_no) := goodIn_app (goodIn_of _ (by decide +kernel)) ggX11_start_X11_no
set_option maxRecDepth 20000 in
theorem ggX11_start_X11_save : GoodIn wsX11_start wsX11_save := goodIn_r _ [30, 2, 31, 32, 33, 34, 35, 36, 37, 38, 39, 40, 41, 42, 43, 44, 45, 46, 47, 48] (by decide +kernel) (by decide +kernel)
set_option maxRecDepth 20000 in
theorem gX11_start_X11_save : GoodIn wsX11_start (wsV RX11 113 RX11 yX11_save wsX11_save) := goodIn_app (goodIn_of _ (by decide +kernel)) ggX11_start_X11_save
set_option maxRecDepth 20000 in
theorem ggX11_undo_X11_no : GoodIn wsX11_undo wsX11_no := goodIn_r _ [6, 7, 8, 9, 10, 11, 12, 13, 14, 15, 16, 17, 18, 19, 20, 21, 22, 23, 24, 25] (by decide +kernel) (by decide +kernel)
set_option maxRecDepth 20000 in
theorem gX11_undo_X11_no : GoodIn wsX11_undo (wsV RX11 129 RX11 yX11_no wsX11_no) := goodIn_app (goodIn_of _ (by decide +kernel)) ggX11_undo_X11_no
set_option maxRecDepth 20000 in
theorem ggX11_of_X11_isOne : GoodIn wsX11_of wsX11_isOne := goodIn_r _ [6, 7, 8, 9, 5, 10, 11, 12, 13, 14, 36, 37, 38, 39, 40, 41, 42, 43, 44, 45, 46, 47, 48, 49, 50, 51, 52, 53] (by decide +kernel) (by decide +kernel)
set_option maxRecDepth 20000 in
theorem gX11_of_X11_isOne : GoodIn wsX11_of (wsV RX11 123 RX11 yX11_isOne wsX11_isOne) := goodIn_app (goodIn_of _ (by decide +kernel)) ggX11_of_X11_isOne
set_option maxRecDepth 20000 in
theorem ggX11_of_X11_in : GoodIn wsX11_of wsX11_in := goodIn_r _ [14] (by decide +kernel) (by decide +kernel)
set_option maxRecDepth 20000 in
theorem gX11_of_X11_in : GoodIn wsX11_of (va_wsS RX11 56 yX11_in wsX11_in) := goodIn_app (goodIn_of _ (by decide +kernel)) ggX11_of_X11_in
set_option maxRecDepth 20000 in
theorem ggX11_of_X11_bad : GoodIn wsX11_of wsX11_bad := goodIn_r _ [34, 35, 36, 37, 38, 39, 40, 41, 42, 43, 44, 45, 46, 47, 48, 49, 50, 51, 52, 53] (by decide +kernel) (by decide +kernel)
set_option maxRecDepth 20000 in
theorem gX11_of_X11_bad : GoodIn wsX11_of (wsV RX11 68 RX11 yX11_bad wsX11_bad) := goodIn_app (goodIn_of _ (by decide +kernel)) ggX11_of_X11_bad
set_option maxRecDepth 20000 in
theorem ggX11_where_X11_isOne : GoodIn wsX11_where wsX11_isOne := goodIn_r _ [7, 8, 9, 10, 6, 11, 12, 13, 14, 15, 50, 51, 52, 53, 54, 55, 56, 57, 58, 59, 60, 61, 62, 63, 64, 65, 66, 67] (by decide +kernel) (by decide +kernel)
set_option maxRecDepth 20000 in
theorem gX11_where_X11_isOne : GoodIn wsX11_where (wsV RX11 123 RX11 yX11_isOne wsX11_isOne) := goodIn_app (goodIn_of _ (by decide +kernel)) ggX11_where_X11_isOne
set_option maxRecDepth 20000 in
theorem ggX11_where_X11_in : GoodIn wsX11_where wsX11_in := goodIn_r _ [15] (by decide +kernel) (by decide +kernel)
set_option maxRecDepth 20000 in
theorem gX11_where_X11_in : GoodIn wsX11_where (va_wsS RX11 56 yX11_in wsX11_in) := goodIn_app (goodIn_of _ (by decide +kernel)) ggX11_where_X11_in
set_option maxRecDepth 20000 in
theorem ggX11_where_X11_bad : GoodIn wsX11_where wsX11_bad := goodIn_r _ [19, 20, 50, 51, 52, 53, 54, 55, 56, 57, 58, 59, 60, 61, 62, 63, 64, 65, 66, 67] (by decide +kernel) (by decide +kernel)
set_option maxRecDepth 20000 in
theorem gX11_where_X11_bad : GoodIn wsX11_where (wsV RX11 68 RX11 yX11_bad wsX11_bad) := goodIn_app (goodIn_of _ (by decide +kernel)) ggX11_where_X11_bad
set_option maxRecDepth 20000 in
theorem ggX11_where_X11_layHand : GoodIn wsX11_where wsX11_layHand := goodIn_r _ [24, 2, 12, 50, 51, 52, 53, 54, 55, 56, 57, 58, 59, 60, 61, 62, 63, 64, 65, 66, 67] (by decide +kernel) (by decide +kernel)
set_option maxRecDepth 20000 in
theorem gX11_where_X11_layHand : GoodIn wsX11_where (wsV RX11 137 RX11 yX11_layHand wsX11_layHand) := goodIn_app (goodIn_of _ (by decide +kernel)) ggX11_where_X11_layHand
set_option maxRecDepth 20000 in
theorem ggX11_home_X11_isOne : GoodIn wsX11_home wsX11_isOne := goodIn_r _ [5, 6, 7, 8, 4, 9, 10, 11, 12, 13, 53, 54, 55, 56, 57, 58, 59, 60, 61, 62, 63, 64, 65, 66, 67, 68, 69, 70] (by decide +kernel) (by decide +kernel)
set_option maxRecDepth 20000 in
theorem gX11_home_X11_isOne : GoodIn wsX11_home (wsV RX11 123 RX11 yX11_isOne wsX11_isOne) := goodIn_app (goodIn_of _ (by decide +kernel)) ggX11_home_X11_isOne
set_option maxRecDepth 20000 in
theorem ggX11_home_X11_bad : GoodIn wsX11_home wsX11_bad := goodIn_r _ [51, 52, 53, 54, 55, 56, 57, 58, 59, 60, 61, 62, 63, 64, 65, 66, 67, 68, 69, 70] (by decide +kernel) (by decide +kernel)
set_option maxRecDepth 20000 in
theorem gX11_home_X11_bad : GoodIn wsX11_home (wsV RX11 68 RX11 yX11_bad wsX11_bad) := goodIn_app (goodIn_of _ (by decide +kernel)) ggX11_home_X11_bad
set_option maxRecDepth 20000 in
theorem ggX11_first_X11_many : GoodIn wsX11_first wsX11_many := goodIn_r _ [7, 2, 42, 43, 44, 45, 46, 47, 48, 49, 50, 51, 52, 53, 54, 55, 56, 57, 58, 59] (by decide +kernel) (by decide +kernel)
set_option maxRecDepth 20000 in
theorem gX11_first_X11_many : GoodIn wsX11_first (wsV RX11 52 RX11 yX11_many wsX11_many) := goodIn_app (goodIn_of _ (by decide +kernel)) ggX11_first_X11_many
set_option maxRecDepth 20000 in
theorem ggX11_order_X11_bad : GoodIn wsX11_order wsX11_bad := goodIn_r _ [9, 10, 53, 54, 55, 56, 57, 58, 59, 60, 61, 62, 63, 64, 65, 66, 67, 68, 69, 70] (by decide +kernel) (by decide +kernel)
set_option maxRecDepth 20000 in
theorem gX11_order_X11_bad : GoodIn wsX11_order (wsV RX11 68 RX11 yX11_bad wsX11_bad) := goodIn_app (goodIn_of _ (by decide +kernel)) ggX11_order_X11_bad
set_option maxRecDepth 20000 in
theorem ggX11_order_X11_many : GoodIn wsX11_order wsX11_many := goodIn_r _ [14, 2, 53, 54, 55, 56, 57, 58, 59, 60, 61, 62, 63, 64, 65, 66, 67, 68, 69, 70] (by decide +kernel) (by decide +kernel)
set_option maxRecDepth 20000 in
theorem gX11_order_X11_many : GoodIn wsX11_order (wsV RX11 52 RX11 yX11_many wsX11_many) := goodIn_app (goodIn_of _ (by decide +kernel)) ggX11_order_X11_many
set_option maxRecDepth 20000 in
theorem ggX11_order_X11_no : GoodIn wsX11_order wsX11_no := goodIn_r _ [18, 10, 53, 54, 55, 56, 57, 58, 59, 60, 61, 62, 63, 64, 65, 66, 67, 68, 69, 70] (by decide +kernel) (by decide +kernel)
set_option maxRecDepth 20000 in
theorem gX11_order_X11_no : GoodIn wsX11_order (wsV RX11 129 RX11 yX11_no wsX11_no) := goodIn_app (goodIn_of _ (by decide +kernel)) ggX11_order_X11_no
set_option maxRecDepth 20000 in
theorem ggX11_best_X11_isOne : GoodIn wsX11_best wsX11_isOne := goodIn_r _ [8, 9, 10, 11, 7, 12, 2, 13, 14, 15, 50, 51, 52, 53, 54, 55, 56, 57, 58, 59, 60, 61, 62, 63, 64, 65, 66, 67] (by decide +kernel) (by decide +kernel)
set_option maxRecDepth 20000 in
theorem gX11_best_X11_isOne : GoodIn wsX11_best (wsV RX11 123 RX11 yX11_isOne wsX11_isOne) := goodIn_app (goodIn_of _ (by decide +kernel)) ggX11_best_X11_isOne
set_option maxRecDepth 20000 in
theorem ggX11_best_X11_in : GoodIn wsX11_best wsX11_in := goodIn_r _ [15] (by decide +kernel) (by decide +kernel)
set_option maxRecDepth 20000 in
theorem gX11_best_X11_in : GoodIn wsX11_best (va_wsS RX11 56 yX11_in wsX11_in) := goodIn_app (goodIn_of _ (by decide +kernel)) ggX11_best_X11_in
set_option maxRecDepth 20000 in
theorem ggX11_best_X11_bad : GoodIn wsX11_best wsX11_bad := goodIn_r _ [19, 20, 50, 51, 52, 53, 54, 55, 56, 57, 58, 59, 60, 61, 62, 63, 64, 65, 66, 67] (by decide +kernel) (by decide +kernel)
set_option maxRecDepth 20000 in
theorem gX11_best_X11_bad : GoodIn wsX11_best (wsV RX11 68 RX11 yX11_bad wsX11_bad) := goodIn_app (goodIn_of _ (by decide +kernel)) ggX11_best_X11_bad
set_option maxRecDepth 20000 in
theorem ggX11_best_X11_layHand : GoodIn wsX11_best wsX11_layHand := goodIn_r _ [27, 3, 2, 50, 51, 52, 53, 54, 55, 56, 57, 58, 59, 60, 61, 62, 63, 64, 65, 66, 67] (by decide +kernel) (by decide +kernel)
set_option maxRecDepth 20000 in
theorem gX11_best_X11_layHand : GoodIn wsX11_best (wsV RX11 137 RX11 yX11_layHand wsX11_layHand) := goodIn_app (goodIn_of _ (by decide +kernel)) ggX11_best_X11_layHand
set_option maxRecDepth 20000 in
theorem ggX11_turn_X11_isOne : GoodIn wsX11_turn wsX11_isOne := goodIn_r _ [8, 9, 10, 11, 7, 12, 2, 13, 14, 15, 58, 59, 60, 61, 62, 63, 64, 65, 66, 67, 68, 69, 70, 71, 72, 73, 74, 75] (by decide +kernel) (by decide +kernel)
set_option maxRecDepth 20000 in
theorem gX11_turn_X11_isOne : GoodIn wsX11_turn (wsV RX11 123 RX11 yX11_isOne wsX11_isOne) := goodIn_app (goodIn_of _ (by decide +kernel)) ggX11_turn_X11_isOne
set_option maxRecDepth 20000 in
theorem ggX11_turn_X11_isSpeed : GoodIn wsX11_turn wsX11_isSpeed := goodIn_r _ [18, 19, 13, 14, 7, 15] (by decide +kernel) (by decide +kernel)
set_option maxRecDepth 20000 in
theorem gX11_turn_X11_isSpeed : GoodIn wsX11_turn (va_wsS RX11 126 yX11_isSpeed wsX11_isSpeed) := goodIn_app (goodIn_of _ (by decide +kernel)) ggX11_turn_X11_isSpeed
set_option maxRecDepth 20000 in
theorem ggX11_turn_X11_in : GoodIn wsX11_turn wsX11_in := goodIn_r _ [15] (by decide +kernel) (by decide +kernel)
set_option maxRecDepth 20000 in
theorem gX11_turn_X11_in : GoodIn wsX11_turn (va_wsS RX11 56 yX11_in wsX11_in) := goodIn_app (goodIn_of _ (by decide +kernel)) ggX11_turn_X11_in
set_option maxRecDepth 20000 in
theorem ggX11_turn_X11_bad : GoodIn wsX11_turn wsX11_bad := goodIn_r _ [23, 24, 58, 59, 60, 61, 62, 63, 64, 65, 66, 67, 68, 69, 70, 71, 72, 73, 74, 75] (by decide +kernel) (by decide +kernel)
set_option maxRecDepth 20000 in
theorem gX11_turn_X11_bad : GoodIn wsX11_turn (wsV RX11 68 RX11 yX11_bad wsX11_bad) := goodIn_app (goodIn_of _ (by decide +kernel)) ggX11_turn_X11_bad
set_option maxRecDepth 20000 in
theorem ggX11_turn_X11_layHand : GoodIn wsX11_turn wsX11_layHand := goodIn_r _ [31, 3, 2, 58, 59, 60, 61, 62, 63, 64, 65, 66, 67, 68, 69, 70, 71, 72, 73, 74, 75] (by decide +kernel) (by decide +kernel)
set_option maxRecDepth 20000 in
theorem gX11_turn_X11_layHand : GoodIn wsX11_turn (wsV RX11 137 RX11 yX11_layHand wsX11_layHand) := goodIn_app (goodIn_of _ (by decide +kernel)) ggX11_turn_X11_layHand
set_option maxRecDepth 20000 in
theorem ggX11_beats_X11_isOne : GoodIn wsX11_beats wsX11_isOne := goodIn_r _ [7, 8, 9, 10, 6, 11, 1, 12, 13, 14, 53, 54, 55, 56, 57, 58, 59, 60, 61, 62, 63, 64, 65, 66, 67, 68, 69, 70] (by decide +kernel) (by decide +kernel)
set_option maxRecDepth 20000 in
theorem gX11_beats_X11_isOne : GoodIn wsX11_beats (wsV RX11 123 RX11 yX11_isOne wsX11_isOne) := goodIn_app (goodIn_of _ (by decide +kernel)) ggX11_beats_X11_isOne
set_option maxRecDepth 20000 in
theorem ggX11_beats_X11_bad : GoodIn wsX11_beats wsX11_bad := goodIn_r _ [18, 19, 53, 54, 55, 56, 57, 58, 59, 60, 61, 62, 63, 64, 65, 66, 67, 68, 69, 70] (by decide +kernel) (by decide +kernel)
set_option maxRecDepth 20000 in
theorem gX11_beats_X11_bad : GoodIn wsX11_beats (wsV RX11 68 RX11 yX11_bad wsX11_bad) := goodIn_app (goodIn_of _ (by decide +kernel)) ggX11_beats_X11_bad
set_option maxRecDepth 20000 in
theorem ggX11_beats_X11_layHand : GoodIn wsX11_beats wsX11_layHand := goodIn_r _ [27, 2, 1, 53, 54, 55, 56, 57, 58, 59, 60, 61, 62, 63, 64, 65, 66, 67, 68, 69, 70] (by decide +kernel) (by decide +kernel)
set_option maxRecDepth 20000 in
theorem gX11_beats_X11_layHand : GoodIn wsX11_beats (wsV RX11 137 RX11 yX11_layHand wsX11_layHand) := goodIn_app (goodIn_of _ (by decide +kernel)) ggX11_beats_X11_layHand
set_option maxRecDepth 20000 in
theorem ggX11_close_X11_isOne : GoodIn wsX11_close wsX11_isOne := goodIn_r _ [7, 8, 9, 10, 6, 11, 12, 13, 14, 15, 46, 47, 48, 49, 50, 51, 52, 53, 54, 55, 56, 57, 58, 59, 60, 61, 62, 63] (by decide +kernel) (by decide +kernel)
set_option maxRecDepth 20000 in
theorem gX11_close_X11_isOne : GoodIn wsX11_close (wsV RX11 123 RX11 yX11_isOne wsX11_isOne) := goodIn_app (goodIn_of _ (by decide +kernel)) ggX11_close_X11_isOne
set_option maxRecDepth 20000 in
theorem ggX11_close_X11_in : GoodIn wsX11_close wsX11_in := goodIn_r _ [15] (by decide +kernel) (by decide +kernel)
set_option maxRecDepth 20000 in
theorem gX11_close_X11_in : GoodIn wsX11_close (va_wsS RX11 56 yX11_in wsX11_in) := goodIn_app (goodIn_of _ (by decide +kernel)) ggX11_close_X11_in
set_option maxRecDepth 20000 in
theorem ggX11_close_X11_bad : GoodIn wsX11_close wsX11_bad := goodIn_r _ [19, 20, 46, 47, 48, 49, 50, 51, 52, 53, 54, 55, 56, 57, 58, 59, 60, 61, 62, 63] (by decide +kernel) (by decide +kernel)
set_option maxRecDepth 20000 in
theorem gX11_close_X11_bad : GoodIn wsX11_close (wsV RX11 68 RX11 yX11_bad wsX11_bad) := goodIn_app (goodIn_of _ (by decide +kernel)) ggX11_close_X11_bad
set_option maxRecDepth 20000 in
theorem ggX11_close_X11_layHand : GoodIn wsX11_close wsX11_layHand := goodIn_r _ [24, 2, 12, 46, 47, 48, 49, 50, 51, 52, 53, 54, 55, 56, 57, 58, 59, 60, 61, 62, 63] (by decide +kernel) (by decide +kernel)
set_option maxRecDepth 20000 in
theorem gX11_close_X11_layHand : GoodIn wsX11_close (wsV RX11 137 RX11 yX11_layHand wsX11_layHand) := goodIn_app (goodIn_of _ (by decide +kernel)) ggX11_close_X11_layHand
set_option maxRecDepth 20000 in
theorem ggX11_close_X11_goTick : GoodIn wsX11_close wsX11_goTick := goodIn_r _ [27, 28, 29, 6, 30, 31, 32, 33, 34, 35, 36, 37, 38, 39, 40, 41, 42, 43, 44, 45] (by decide +kernel) (by decide +kernel)
set_option maxRecDepth 20000 in
theorem gX11_close_X11_goTick : GoodIn wsX11_close (va_wsS RX11 109 yX11_goTick wsX11_goTick) := goodIn_app (goodIn_of _ (by decide +kernel)) ggX11_close_X11_goTick
set_option maxRecDepth 20000 in
theorem ggX11_seen_X11_isOne : GoodIn wsX11_seen wsX11_isOne := goodIn_r _ [8, 9, 10, 11, 7, 12, 3, 13, 14, 15, 29, 30, 31, 32, 33, 34, 35, 36, 37, 38, 39, 40, 41, 42, 43, 44, 45, 46] (by decide +kernel) (by decide +kernel)
set_option maxRecDepth 20000 in
theorem gX11_seen_X11_isOne : GoodIn wsX11_seen (wsV RX11 123 RX11 yX11_isOne wsX11_isOne) := goodIn_app (goodIn_of _ (by decide +kernel)) ggX11_seen_X11_isOne
set_option maxRecDepth 20000 in
theorem ggX11_seen_X11_in : GoodIn wsX11_seen wsX11_in := goodIn_r _ [15] (by decide +kernel) (by decide +kernel)
set_option maxRecDepth 20000 in
theorem gX11_seen_X11_in : GoodIn wsX11_seen (va_wsS RX11 56 yX11_in wsX11_in) := goodIn_app (goodIn_of _ (by decide +kernel)) ggX11_seen_X11_in
set_option maxRecDepth 20000 in
theorem ggX11_seen_X11_isSpeed : GoodIn wsX11_seen wsX11_isSpeed := goodIn_r _ [18, 19, 13, 14, 7, 15] (by decide +kernel) (by decide +kernel)
set_option maxRecDepth 20000 in
theorem gX11_seen_X11_isSpeed : GoodIn wsX11_seen (va_wsS RX11 126 yX11_isSpeed wsX11_isSpeed) := goodIn_app (goodIn_of _ (by decide +kernel)) ggX11_seen_X11_isSpeed
set_option maxRecDepth 20000 in
theorem ggX11_seen_X11_bad : GoodIn wsX11_seen wsX11_bad := goodIn_r _ [23, 24, 29, 30, 31, 32, 33, 34, 35, 36, 37, 38, 39, 40, 41, 42, 43, 44, 45, 46] (by decide +kernel) (by decide +kernel)
set_option maxRecDepth 20000 in
theorem gX11_seen_X11_bad : GoodIn wsX11_seen (wsV RX11 68 RX11 yX11_bad wsX11_bad) := goodIn_app (goodIn_of _ (by decide +kernel)) ggX11_seen_X11_bad
set_option maxRecDepth 20000 in
theorem ggX11_strong_X11_isOne : GoodIn wsX11_strong wsX11_isOne := goodIn_r _ [6, 7, 8, 9, 5, 10, 11, 12, 13, 14, 30, 31, 32, 33, 34, 35, 36, 37, 38, 39, 40, 41, 42, 43, 44, 45, 46, 47] (by decide +kernel) (by decide +kernel)
set_option maxRecDepth 20000 in
theorem gX11_strong_X11_isOne : GoodIn wsX11_strong (wsV RX11 123 RX11 yX11_isOne wsX11_isOne) := goodIn_app (goodIn_of _ (by decide +kernel)) ggX11_strong_X11_isOne
set_option maxRecDepth 20000 in
theorem ggX11_strong_X11_in : GoodIn wsX11_strong wsX11_in := goodIn_r _ [14] (by decide +kernel) (by decide +kernel)
set_option maxRecDepth 20000 in
theorem gX11_strong_X11_in : GoodIn wsX11_strong (va_wsS RX11 56 yX11_in wsX11_in) := goodIn_app (goodIn_of _ (by decide +kernel)) ggX11_strong_X11_in
set_option maxRecDepth 20000 in
theorem ggX11_strong_X11_bad : GoodIn wsX11_strong wsX11_bad := goodIn_r _ [18, 19, 30, 31, 32, 33, 34, 35, 36, 37, 38, 39, 40, 41, 42, 43, 44, 45, 46, 47] (by decide +kernel) (by decide +kernel)
set_option maxRecDepth 20000 in
theorem gX11_strong_X11_bad : GoodIn wsX11_strong (wsV RX11 68 RX11 yX11_bad wsX11_bad) := goodIn_app (goodIn_of _ (by decide +kernel)) ggX11_strong_X11_bad
set_option maxRecDepth 20000 in
theorem ggX11_tell_X11_isOne : GoodIn wsX11_tell wsX11_isOne := goodIn_r _ [8, 9, 10, 11, 7, 12, 3, 13, 14, 15, 35, 36, 37, 38, 39, 40, 41, 42, 43, 44, 45, 46, 47, 48, 49, 50, 51, 52] (by decide +kernel) (by decide +kernel)
set_option maxRecDepth 20000 in
theorem gX11_tell_X11_isOne : GoodIn wsX11_tell (wsV RX11 123 RX11 yX11_isOne wsX11_isOne) := goodIn_app (goodIn_of _ (by decide +kernel)) ggX11_tell_X11_isOne
set_option maxRecDepth 20000 in
theorem ggX11_tell_X11_bad : GoodIn wsX11_tell wsX11_bad := goodIn_r _ [19, 20, 35, 36, 37, 38, 39, 40, 41, 42, 43, 44, 45, 46, 47, 48, 49, 50, 51, 52] (by decide +kernel) (by decide +kernel)
set_option maxRecDepth 20000 in
theorem gX11_tell_X11_bad : GoodIn wsX11_tell (wsV RX11 68 RX11 yX11_bad wsX11_bad) := goodIn_app (goodIn_of _ (by decide +kernel)) ggX11_tell_X11_bad
set_option maxRecDepth 20000 in
theorem ggX11_note_X11_isOne : GoodIn wsX11_note wsX11_isOne := goodIn_r _ [8, 9, 10, 11, 7, 12, 3, 13, 14, 15, 32, 33, 34, 35, 36, 37, 38, 39, 40, 41, 42, 43, 44, 45, 46, 47, 48, 49] (by decide +kernel) (by decide +kernel)
set_option maxRecDepth 20000 in
theorem gX11_note_X11_isOne : GoodIn wsX11_note (wsV RX11 123 RX11 yX11_isOne wsX11_isOne) := goodIn_app (goodIn_of _ (by decide +kernel)) ggX11_note_X11_isOne
set_option maxRecDepth 20000 in
theorem ggX11_note_X11_isLegs : GoodIn wsX11_note wsX11_isLegs := goodIn_r _ [18, 19, 13, 14, 7, 15] (by decide +kernel) (by decide +kernel)
set_option maxRecDepth 20000 in
theorem gX11_note_X11_isLegs : GoodIn wsX11_note (va_wsS RX11 76 yX11_isLegs wsX11_isLegs) := goodIn_app (goodIn_of _ (by decide +kernel)) ggX11_note_X11_isLegs
set_option maxRecDepth 20000 in
theorem ggX11_note_X11_in : GoodIn wsX11_note wsX11_in := goodIn_r _ [15] (by decide +kernel) (by decide +kernel)
set_option maxRecDepth 20000 in
theorem gX11_note_X11_in : GoodIn wsX11_note (va_wsS RX11 56 yX11_in wsX11_in) := goodIn_app (goodIn_of _ (by decide +kernel)) ggX11_note_X11_in
set_option maxRecDepth 20000 in
theorem ggX11_note_X11_isSpeed : GoodIn wsX11_note wsX11_isSpeed := goodIn_r _ [22, 19, 13, 14, 7, 15] (by decide +kernel) (by decide +kernel)
set_option maxRecDepth 20000 in
theorem gX11_note_X11_isSpeed : GoodIn wsX11_note (va_wsS RX11 126 yX11_isSpeed wsX11_isSpeed) := goodIn_app (goodIn_of _ (by decide +kernel)) ggX11_note_X11_isSpeed
set_option maxRecDepth 20000 in
theorem ggX11_note_X11_bad : GoodIn wsX11_note wsX11_bad := goodIn_r _ [26, 27, 32, 33, 34, 35, 36, 37, 38, 39, 40, 41, 42, 43, 44, 45, 46, 47, 48, 49] (by decide +kernel) (by decide +kernel)
set_option maxRecDepth 20000 in
theorem gX11_note_X11_bad : GoodIn wsX11_note (wsV RX11 68 RX11 yX11_bad wsX11_bad) := goodIn_app (goodIn_of _ (by decide +kernel)) ggX11_note_X11_bad
set_option maxRecDepth 20000 in
theorem ggX11_mark_X11_isOne : GoodIn wsX11_mark wsX11_isOne := goodIn_r _ [8, 9, 10, 11, 7, 12, 3, 13, 14, 15, 25, 26, 27, 28, 29, 30, 31, 32, 33, 34, 35, 36, 37, 38, 39, 40, 41, 42] (by decide +kernel) (by decide +kernel)
set_option maxRecDepth 20000 in
theorem gX11_mark_X11_isOne : GoodIn wsX11_mark (wsV RX11 123 RX11 yX11_isOne wsX11_isOne) := goodIn_app (goodIn_of _ (by decide +kernel)) ggX11_mark_X11_isOne
set_option maxRecDepth 20000 in
theorem ggX11_mark_X11_in : GoodIn wsX11_mark wsX11_in := goodIn_r _ [15] (by decide +kernel) (by decide +kernel)
set_option maxRecDepth 20000 in
theorem gX11_mark_X11_in : GoodIn wsX11_mark (va_wsS RX11 56 yX11_in wsX11_in) := goodIn_app (goodIn_of _ (by decide +kernel)) ggX11_mark_X11_in
set_option maxRecDepth 20000 in
theorem ggX11_mark_X11_bad : GoodIn wsX11_mark wsX11_bad := goodIn_r _ [19, 20, 25, 26, 27, 28, 29, 30, 31, 32, 33, 34, 35, 36, 37, 38, 39, 40, 41, 42] (by decide +kernel) (by decide +kernel)
set_option maxRecDepth 20000 in
theorem gX11_mark_X11_bad : GoodIn wsX11_mark (wsV RX11 68 RX11 yX11_bad wsX11_bad) := goodIn_app (goodIn_of _ (by decide +kernel)) ggX11_mark_X11_bad
set_option maxRecDepth 20000 in
theorem ggX11_forget_X11_in : GoodIn wsX11_forget wsX11_in := goodIn_r _ [6] (by decide +kernel) (by decide +kernel)
set_option maxRecDepth 20000 in
theorem gX11_forget_X11_in : GoodIn wsX11_forget (va_wsS RX11 56 yX11_in wsX11_in) := goodIn_app (goodIn_of _ (by decide +kernel)) ggX11_forget_X11_in
set_option maxRecDepth 20000 in
theorem ggX11_forget_X11_bad : GoodIn wsX11_forget wsX11_bad := goodIn_r _ [10, 11, 12, 13, 14, 15, 16, 17, 18, 19, 20, 21, 22, 23, 24, 25, 26, 27, 28, 29] (by decide +kernel) (by decide +kernel)
set_option maxRecDepth 20000 in
theorem gX11_forget_X11_bad : GoodIn wsX11_forget (wsV RX11 68 RX11 yX11_bad wsX11_bad) := goodIn_app (goodIn_of _ (by decide +kernel)) ggX11_forget_X11_bad
set_option maxRecDepth 20000 in
theorem ggX11_is_X11_isOne : GoodIn wsX11_is wsX11_isOne := goodIn_r _ [5, 6, 7, 8, 4, 9, 10, 11, 12, 13, 26, 27, 28, 29, 30, 31, 32, 33, 34, 35, 36, 37, 38, 39, 40, 41, 42, 43] (by decide +kernel) (by decide +kernel)
set_option maxRecDepth 20000 in
theorem gX11_is_X11_isOne : GoodIn wsX11_is (wsV RX11 123 RX11 yX11_isOne wsX11_isOne) := goodIn_app (goodIn_of _ (by decide +kernel)) ggX11_is_X11_isOne
set_option maxRecDepth 20000 in
theorem ggX11_is_X11_bad : GoodIn wsX11_is wsX11_bad := goodIn_r _ [24, 25, 26, 27, 28, 29, 30, 31, 32, 33, 34, 35, 36, 37, 38, 39, 40, 41, 42, 43] (by decide +kernel) (by decide +kernel)
set_option maxRecDepth 20000 in
theorem gX11_is_X11_bad : GoodIn wsX11_is (wsV RX11 68 RX11 yX11_bad wsX11_bad) := goodIn_app (goodIn_of _ (by decide +kernel)) ggX11_is_X11_bad
set_option maxRecDepth 20000 in
theorem ggX11_look_X11_isOne : GoodIn wsX11_look wsX11_isOne := goodIn_r _ [8, 9, 10, 11, 7, 12, 3, 13, 14, 15, 35, 36, 37, 38, 39, 40, 41, 42, 43, 44, 45, 46, 47, 48, 49, 50, 51, 52] (by decide +kernel) (by decide +kernel)
set_option maxRecDepth 20000 in
theorem gX11_look_X11_isOne : GoodIn wsX11_look (wsV RX11 123 RX11 yX11_isOne wsX11_isOne) := goodIn_app (goodIn_of _ (by decide +kernel)) ggX11_look_X11_isOne
set_option maxRecDepth 20000 in
theorem ggX11_look_X11_bad : GoodIn wsX11_look wsX11_bad := goodIn_r _ [19, 20, 35, 36, 37, 38, 39, 40, 41, 42, 43, 44, 45, 46, 47, 48, 49, 50, 51, 52] (by decide +kernel) (by decide +kernel)
set_option maxRecDepth 20000 in
theorem gX11_look_X11_bad : GoodIn wsX11_look (wsV RX11 68 RX11 yX11_bad wsX11_bad) := goodIn_app (goodIn_of _ (by decide +kernel)) ggX11_look_X11_bad
set_option maxRecDepth 20000 in
theorem ggX11_kinds_X11_isOne : GoodIn wsX11_kinds wsX11_isOne := goodIn_r _ [5, 6, 7, 8, 4, 9, 10, 11, 12, 13, 26, 27, 28, 29, 30, 31, 32, 33, 34, 35, 36, 37, 38, 39, 40, 41, 42, 43] (by decide +kernel) (by decide +kernel)
set_option maxRecDepth 20000 in
theorem gX11_kinds_X11_isOne : GoodIn wsX11_kinds (wsV RX11 123 RX11 yX11_isOne wsX11_isOne) := goodIn_app (goodIn_of _ (by decide +kernel)) ggX11_kinds_X11_isOne
set_option maxRecDepth 20000 in
theorem ggX11_kinds_X11_bad : GoodIn wsX11_kinds wsX11_bad := goodIn_r _ [24, 25, 26, 27, 28, 29, 30, 31, 32, 33, 34, 35, 36, 37, 38, 39, 40, 41, 42, 43] (by decide +kernel) (by decide +kernel)
set_option maxRecDepth 20000 in
theorem gX11_kinds_X11_bad : GoodIn wsX11_kinds (wsV RX11 68 RX11 yX11_bad wsX11_bad) := goodIn_app (goodIn_of _ (by decide +kernel)) ggX11_kinds_X11_bad
set_option maxRecDepth 20000 in
theorem ggX11_ask_X11_isOne : GoodIn wsX11_ask wsX11_isOne := goodIn_r _ [7, 8, 9, 10, 6, 11, 12, 13, 14, 15, 35, 36, 37, 38, 39, 40, 41, 42, 43, 44, 45, 46, 47, 48, 49, 50, 51, 52] (by decide +kernel) (by decide +kernel)
set_option maxRecDepth 20000 in
theorem gX11_ask_X11_isOne : GoodIn wsX11_ask (wsV RX11 123 RX11 yX11_isOne wsX11_isOne) := goodIn_app (goodIn_of _ (by decide +kernel)) ggX11_ask_X11_isOne
set_option maxRecDepth 20000 in
theorem ggX11_ask_X11_bad : GoodIn wsX11_ask wsX11_bad := goodIn_r _ [19, 20, 35, 36, 37, 38, 39, 40, 41, 42, 43, 44, 45, 46, 47, 48, 49, 50, 51, 52] (by decide +kernel) (by decide +kernel)
set_option maxRecDepth 20000 in
theorem gX11_ask_X11_bad : GoodIn wsX11_ask (wsV RX11 68 RX11 yX11_bad wsX11_bad) := goodIn_app (goodIn_of _ (by decide +kernel)) ggX11_ask_X11_bad
set_option maxRecDepth 20000 in
theorem ggX11_pair_X11_isOne : GoodIn wsX11_pair wsX11_isOne := goodIn_r _ [7, 8, 9, 10, 6, 11, 12, 13, 14, 15, 58, 59, 60, 61, 62, 63, 64, 65, 66, 67, 68, 69, 70, 71, 72, 73, 74, 75] (by decide +kernel) (by decide +kernel)
set_option maxRecDepth 20000 in
theorem gX11_pair_X11_isOne : GoodIn wsX11_pair (wsV RX11 123 RX11 yX11_isOne wsX11_isOne) := goodIn_app (goodIn_of _ (by decide +kernel)) ggX11_pair_X11_isOne
set_option maxRecDepth 20000 in
theorem ggX11_pair_X11_bad : GoodIn wsX11_pair wsX11_bad := goodIn_r _ [19, 20, 58, 59, 60, 61, 62, 63, 64, 65, 66, 67, 68, 69, 70, 71, 72, 73, 74, 75] (by decide +kernel) (by decide +kernel)
set_option maxRecDepth 20000 in
theorem gX11_pair_X11_bad : GoodIn wsX11_pair (wsV RX11 68 RX11 yX11_bad wsX11_bad) := goodIn_app (goodIn_of _ (by decide +kernel)) ggX11_pair_X11_bad
set_option maxRecDepth 20000 in
theorem ggX11_pair_X11_layHand : GoodIn wsX11_pair wsX11_layHand := goodIn_r _ [24, 1, 12, 58, 59, 60, 61, 62, 63, 64, 65, 66, 67, 68, 69, 70, 71, 72, 73, 74, 75] (by decide +kernel) (by decide +kernel)
set_option maxRecDepth 20000 in
theorem gX11_pair_X11_layHand : GoodIn wsX11_pair (wsV RX11 137 RX11 yX11_layHand wsX11_layHand) := goodIn_app (goodIn_of _ (by decide +kernel)) ggX11_pair_X11_layHand
set_option maxRecDepth 20000 in
theorem ggX11_stumble_X11_isOne : GoodIn wsX11_stumble wsX11_isOne := goodIn_r _ [9, 10, 11, 12, 8, 13, 14, 15, 16, 17, 54, 55, 56, 57, 58, 59, 60, 61, 62, 63, 64, 65, 66, 67, 68, 69, 70, 71] (by decide +kernel) (by decide +kernel)
set_option maxRecDepth 20000 in
theorem gX11_stumble_X11_isOne : GoodIn wsX11_stumble (wsV RX11 123 RX11 yX11_isOne wsX11_isOne) := goodIn_app (goodIn_of _ (by decide +kernel)) ggX11_stumble_X11_isOne
set_option maxRecDepth 20000 in
theorem ggX11_stumble_X11_in : GoodIn wsX11_stumble wsX11_in := goodIn_r _ [17] (by decide +kernel) (by decide +kernel)
set_option maxRecDepth 20000 in
theorem gX11_stumble_X11_in : GoodIn wsX11_stumble (va_wsS RX11 56 yX11_in wsX11_in) := goodIn_app (goodIn_of _ (by decide +kernel)) ggX11_stumble_X11_in
set_option maxRecDepth 20000 in
theorem ggX11_stumble_X11_bad : GoodIn wsX11_stumble wsX11_bad := goodIn_r _ [21, 22, 54, 55, 56, 57, 58, 59, 60, 61, 62, 63, 64, 65, 66, 67, 68, 69, 70, 71] (by decide +kernel) (by decide +kernel)
set_option maxRecDepth 20000 in
theorem gX11_stumble_X11_bad : GoodIn wsX11_stumble (wsV RX11 68 RX11 yX11_bad wsX11_bad) := goodIn_app (goodIn_of _ (by decide +kernel)) ggX11_stumble_X11_bad
set_option maxRecDepth 20000 in
theorem ggX11_stumble_X11_layHand : GoodIn wsX11_stumble wsX11_layHand := goodIn_r _ [26, 4, 14, 54, 55, 56, 57, 58, 59, 60, 61, 62, 63, 64, 65, 66, 67, 68, 69, 70, 71] (by decide +kernel) (by decide +kernel)
set_option maxRecDepth 20000 in
theorem gX11_stumble_X11_layHand : GoodIn wsX11_stumble (wsV RX11 137 RX11 yX11_layHand wsX11_layHand) := goodIn_app (goodIn_of _ (by decide +kernel)) ggX11_stumble_X11_layHand
set_option maxRecDepth 20000 in
theorem ggX11_races_X11_in : GoodIn wsX11_races wsX11_in := goodIn_r _ [14] (by decide +kernel) (by decide +kernel)
set_option maxRecDepth 20000 in
theorem gX11_races_X11_in : GoodIn wsX11_races (va_wsS RX11 56 yX11_in wsX11_in) := goodIn_app (goodIn_of _ (by decide +kernel)) ggX11_races_X11_in
set_option maxRecDepth 20000 in
theorem ggX11_races_X11_bad : GoodIn wsX11_races wsX11_bad := goodIn_r _ [18, 19, 57, 58, 59, 60, 61, 62, 63, 64, 65, 66, 67, 68, 69, 70, 71, 72, 73, 74] (by decide +kernel) (by decide +kernel)
set_option maxRecDepth 20000 in
theorem gX11_races_X11_bad : GoodIn wsX11_races (wsV RX11 68 RX11 yX11_bad wsX11_bad) := goodIn_app (goodIn_of _ (by decide +kernel)) ggX11_races_X11_bad
set_option maxRecDepth 20000 in
theorem ggX11_races_X11_layHand : GoodIn wsX11_races wsX11_layHand := goodIn_r _ [23, 8, 24, 57, 58, 59, 60, 61, 62, 63, 64, 65, 66, 67, 68, 69, 70, 71, 72, 73, 74] (by decide +kernel) (by decide +kernel)
set_option maxRecDepth 20000 in
theorem gX11_races_X11_layHand : GoodIn wsX11_races (wsV RX11 137 RX11 yX11_layHand wsX11_layHand) := goodIn_app (goodIn_of _ (by decide +kernel)) ggX11_races_X11_layHand
set_option maxRecDepth 20000 in
theorem ggX11_races_X11_isOne : GoodIn wsX11_races wsX11_isOne := goodIn_r _ [28, 29, 30, 31, 13, 32, 24, 11, 12, 14, 57, 58, 59, 60, 61, 62, 63, 64, 65, 66, 67, 68, 69, 70, 71, 72, 73, 74] (by decide +kernel) (by decide +kernel)
set_option maxRecDepth 20000 in
theorem gX11_races_X11_isOne : GoodIn wsX11_races (wsV RX11 123 RX11 yX11_isOne wsX11_isOne) := goodIn_app (goodIn_of _ (by decide +kernel)) ggX11_races_X11_isOne
set_option maxRecDepth 20000 in
theorem ggX11_races_X11_goTick : GoodIn wsX11_races wsX11_goTick := goodIn_r _ [35, 36, 37, 13, 38, 39, 40, 41, 42, 43, 44, 45, 46, 47, 48, 49, 50, 51, 52, 53] (by decide +kernel) (by decide +kernel)
set_option maxRecDepth 20000 in
theorem gX11_races_X11_goTick : GoodIn wsX11_races (va_wsS RX11 109 yX11_goTick wsX11_goTick) := goodIn_app (goodIn_of _ (by decide +kernel)) ggX11_races_X11_goTick
set_option maxRecDepth 20000 in
theorem ggX11_races_X11_manyHome : GoodIn wsX11_races wsX11_manyHome := goodIn_r _ [56, 36, 37, 13, 38] (by decide +kernel) (by decide +kernel)
set_option maxRecDepth 20000 in
theorem gX11_races_X11_manyHome : GoodIn wsX11_races (va_wsS RX11 119 yX11_manyHome wsX11_manyHome) := goodIn_app (goodIn_of _ (by decide +kernel)) ggX11_races_X11_manyHome
set_option maxRecDepth 20000 in
theorem ggX11_type_X11_in : GoodIn wsX11_type wsX11_in := goodIn_r _ [7] (by decide +kernel) (by decide +kernel)
set_option maxRecDepth 20000 in
theorem gX11_type_X11_in : GoodIn wsX11_type (va_wsS RX11 56 yX11_in wsX11_in) := goodIn_app (goodIn_of _ (by decide +kernel)) ggX11_type_X11_in
set_option maxRecDepth 20000 in
theorem ggX11_type_X11_bad : GoodIn wsX11_type wsX11_bad := goodIn_r _ [11, 12, 17, 18, 19, 20, 21, 22, 23, 24, 25, 26, 27, 28, 29, 30, 31, 32, 33, 34] (by decide +kernel) (by decide +kernel)
set_option maxRecDepth 20000 in
theorem gX11_type_X11_bad : GoodIn wsX11_type (wsV RX11 68 RX11 yX11_bad wsX11_bad) := goodIn_app (goodIn_of _ (by decide +kernel)) ggX11_type_X11_bad
set_option maxRecDepth 20000 in
theorem ggX11_read_X11_lookAt : GoodIn wsX11_read wsX11_lookAt := goodIn_r _ [10, 1, 11, 12, 13, 2, 14, 15, 16, 9, 17, 18, 19, 20, 21, 22, 23, 24, 25, 26, 27, 90, 91, 92, 93, 94, 95, 96, 97, 98, 99, 100, 101, 102, 103, 104, 105, 106, 107] (by decide +kernel) (by decide +kernel)
set_option maxRecDepth 20000 in
theorem gX11_read_X11_lookAt : GoodIn wsX11_read (wsV RX11 235 RX11 yX11_lookAt wsX11_lookAt) := goodIn_app (goodIn_of _ (by decide +kernel)) ggX11_read_X11_lookAt
set_option maxRecDepth 20000 in
theorem ggX11_read_X11_spells : GoodIn wsX11_read wsX11_spells := goodIn_r _ [31, 2, 13, 12, 1, 90, 91, 92, 93, 94, 95, 96, 97, 98, 99, 100, 101, 102, 103, 104, 105, 106, 107] (by decide +kernel) (by decide +kernel)
set_option maxRecDepth 20000 in
theorem gX11_read_X11_spells : GoodIn wsX11_read (wsV RX11 245 RX11 yX11_spells wsX11_spells) := goodIn_app (goodIn_of _ (by decide +kernel)) ggX11_read_X11_spells
set_option maxRecDepth 20000 in
theorem ggX11_read_X11_begin : GoodIn wsX11_read wsX11_begin := goodIn_r _ [42] (by decide +kernel) (by decide +kernel)
set_option maxRecDepth 20000 in
theorem gX11_read_X11_begin : GoodIn wsX11_read (va_wsS RX11 48 yX11_begin wsX11_begin) := goodIn_app (goodIn_of _ (by decide +kernel)) ggX11_read_X11_begin
set_option maxRecDepth 20000 in
theorem ggX11_part_X11_bad : GoodIn wsX11_part wsX11_bad := goodIn_r _ [7, 8, 9, 10, 11, 12, 13, 14, 15, 16, 17, 18, 19, 20, 21, 22, 23, 24, 25, 26] (by decide +kernel) (by decide +kernel)
set_option maxRecDepth 20000 in
theorem gX11_part_X11_bad : GoodIn wsX11_part (wsV RX11 68 RX11 yX11_bad wsX11_bad) := goodIn_app (goodIn_of _ (by decide +kernel)) ggX11_part_X11_bad
set_option maxRecDepth 20000 in
theorem ggX11_image_X11_in : GoodIn wsX11_image wsX11_in := goodIn_r _ [7] (by decide +kernel) (by decide +kernel)
set_option maxRecDepth 20000 in
theorem gX11_image_X11_in : GoodIn wsX11_image (va_wsS RX11 56 yX11_in wsX11_in) := goodIn_app (goodIn_of _ (by decide +kernel)) ggX11_image_X11_in
set_option maxRecDepth 20000 in
theorem ggX11_image_X11_bad : GoodIn wsX11_image wsX11_bad := goodIn_r _ [11, 12, 13, 14, 15, 16, 17, 18, 19, 20, 21, 22, 23, 24, 25, 26, 27, 28, 29, 30] (by decide +kernel) (by decide +kernel)
set_option maxRecDepth 20000 in
theorem gX11_image_X11_bad : GoodIn wsX11_image (wsV RX11 68 RX11 yX11_bad wsX11_bad) := goodIn_app (goodIn_of _ (by decide +kernel)) ggX11_image_X11_bad
set_option maxRecDepth 20000 in
theorem ggX11_from_X11_in : GoodIn wsX11_from wsX11_in := goodIn_r _ [7] (by decide +kernel) (by decide +kernel)
set_option maxRecDepth 20000 in
theorem gX11_from_X11_in : GoodIn wsX11_from (va_wsS RX11 56 yX11_in wsX11_in) := goodIn_app (goodIn_of _ (by decide +kernel)) ggX11_from_X11_in
set_option maxRecDepth 20000 in
theorem ggX11_from_X11_bad : GoodIn wsX11_from wsX11_bad := goodIn_r _ [11, 12, 17, 18, 19, 20, 21, 22, 23, 24, 25, 26, 27, 28, 29, 30, 31, 32, 33, 34] (by decide +kernel) (by decide +kernel)
set_option maxRecDepth 20000 in
theorem gX11_from_X11_bad : GoodIn wsX11_from (wsV RX11 68 RX11 yX11_bad wsX11_bad) := goodIn_app (goodIn_of _ (by decide +kernel)) ggX11_from_X11_bad
set_option maxRecDepth 20000 in
theorem ggX11_from_X11_no : GoodIn wsX11_from wsX11_no := goodIn_r _ [16, 12, 17, 18, 19, 20, 21, 22, 23, 24, 25, 26, 27, 28, 29, 30, 31, 32, 33, 34] (by decide +kernel) (by decide +kernel)
set_option maxRecDepth 20000 in
theorem gX11_from_X11_no : GoodIn wsX11_from (wsV RX11 129 RX11 yX11_no wsX11_no) := goodIn_app (goodIn_of _ (by decide +kernel)) ggX11_from_X11_no
set_option maxRecDepth 20000 in
theorem ggX11_status_X11_in : GoodIn wsX11_status wsX11_in := goodIn_r _ [6] (by decide +kernel) (by decide +kernel)
set_option maxRecDepth 20000 in
theorem gX11_status_X11_in : GoodIn wsX11_status (va_wsS RX11 56 yX11_in wsX11_in) := goodIn_app (goodIn_of _ (by decide +kernel)) ggX11_status_X11_in
set_option maxRecDepth 20000 in
theorem ggX11_status_X11_bad : GoodIn wsX11_status wsX11_bad := goodIn_r _ [10, 2, 11, 12, 13, 14, 15, 16, 17, 18, 19, 20, 21, 22, 23, 24, 25, 26, 27, 28] (by decide +kernel) (by decide +kernel)
set_option maxRecDepth 20000 in
theorem gX11_status_X11_bad : GoodIn wsX11_status (wsV RX11 68 RX11 yX11_bad wsX11_bad) := goodIn_app (goodIn_of _ (by decide +kernel)) ggX11_status_X11_bad
set_option maxRecDepth 20000 in
theorem ggX11_sumOf_X11_many : GoodIn wsX11_sumOf wsX11_many := goodIn_r _ [6, 1, 7, 8, 9, 10, 11, 12, 13, 14, 15, 16, 17, 18, 19, 20, 21, 22, 23, 24] (by decide +kernel) (by decide +kernel)
set_option maxRecDepth 20000 in
theorem gX11_sumOf_X11_many : GoodIn wsX11_sumOf (wsV RX11 52 RX11 yX11_many wsX11_many) := goodIn_app (goodIn_of _ (by decide +kernel)) ggX11_sumOf_X11_many
set_option maxRecDepth 20000 in
theorem ggX11_counted_X11_many : GoodIn wsX11_counted wsX11_many := goodIn_r _ [7, 1, 18, 19, 20, 21, 22, 23, 24, 25, 26, 27, 28, 29, 30, 31, 32, 33, 34, 35] (by decide +kernel) (by decide +kernel)
set_option maxRecDepth 20000 in
theorem gX11_counted_X11_many : GoodIn wsX11_counted (wsV RX11 52 RX11 yX11_many wsX11_many) := goodIn_app (goodIn_of _ (by decide +kernel)) ggX11_counted_X11_many
set_option maxRecDepth 20000 in
theorem ggX11_counted_X11_manyHome : GoodIn wsX11_counted wsX11_manyHome := goodIn_r _ [10, 11, 12, 6, 13] (by decide +kernel) (by decide +kernel)
set_option maxRecDepth 20000 in
theorem gX11_counted_X11_manyHome : GoodIn wsX11_counted (va_wsS RX11 119 yX11_manyHome wsX11_manyHome) := goodIn_app (goodIn_of _ (by decide +kernel)) ggX11_counted_X11_manyHome
set_option maxRecDepth 20000 in
theorem ggX11_counted_X11_sumOf : GoodIn wsX11_counted wsX11_sumOf := goodIn_r _ [17, 1, 3, 4, 5, 6, 7, 18, 19, 20, 21, 22, 23, 24, 25, 26, 27, 28, 29, 30, 31, 32, 33, 34, 35] (by decide +kernel) (by decide +kernel)
set_option maxRecDepth 20000 in
theorem gX11_counted_X11_sumOf : GoodIn wsX11_counted (wsV RX11 265 RX11 yX11_sumOf wsX11_sumOf) := goodIn_app (goodIn_of _ (by decide +kernel)) ggX11_counted_X11_sumOf
set_option maxRecDepth 20000 in
theorem ggX11_count_X11_in : GoodIn wsX11_count wsX11_in := goodIn_r _ [5] (by decide +kernel) (by decide +kernel)
set_option maxRecDepth 20000 in
theorem gX11_count_X11_in : GoodIn wsX11_count (va_wsS RX11 56 yX11_in wsX11_in) := goodIn_app (goodIn_of _ (by decide +kernel)) ggX11_count_X11_in
set_option maxRecDepth 20000 in
theorem ggX11_count_X11_counted : GoodIn wsX11_count wsX11_counted := goodIn_r _ [9, 10, 11, 12, 13, 14, 4, 15, 16, 17, 18, 19, 20, 21, 22, 23, 24, 25, 31, 32, 33, 34, 35, 36, 37, 38, 39, 40, 41, 42, 43, 44, 45, 46, 47, 48] (by decide +kernel) (by decide +kernel)
set_option maxRecDepth 20000 in
theorem gX11_count_X11_counted : GoodIn wsX11_count (wsV RX11 268 RX11 yX11_counted wsX11_counted) := goodIn_app (goodIn_of _ (by decide +kernel)) ggX11_count_X11_counted
set_option maxRecDepth 20000 in
theorem ggX11_count_X11_bad : GoodIn wsX11_count wsX11_bad := goodIn_r _ [29, 30, 31, 32, 33, 34, 35, 36, 37, 38, 39, 40, 41, 42, 43, 44, 45, 46, 47, 48] (by decide +kernel) (by decide +kernel)
set_option maxRecDepth 20000 in
theorem gX11_count_X11_bad : GoodIn wsX11_count (wsV RX11 68 RX11 yX11_bad wsX11_bad) := goodIn_app (goodIn_of _ (by decide +kernel)) ggX11_count_X11_bad
set_option maxRecDepth 20000 in
theorem ggX11_digest_X11_counted : GoodIn wsX11_digest wsX11_counted := goodIn_r _ [10, 3, 11, 12, 13, 14, 9, 15, 16, 17, 18, 19, 20, 21, 22, 23, 24, 25, 43, 44, 45, 46, 47, 48, 49, 50, 51, 52, 53, 54, 55, 56, 57, 58, 59, 60] (by decide +kernel) (by decide +kernel)
set_option maxRecDepth 20000 in
theorem gX11_digest_X11_counted : GoodIn wsX11_digest (wsV RX11 268 RX11 yX11_counted wsX11_counted) := goodIn_app (goodIn_of _ (by decide +kernel)) ggX11_digest_X11_counted
set_option maxRecDepth 20000 in
theorem ggX11_digest_X11_many : GoodIn wsX11_digest wsX11_many := goodIn_r _ [15, 3, 43, 44, 45, 46, 47, 48, 49, 50, 51, 52, 53, 54, 55, 56, 57, 58, 59, 60] (by decide +kernel) (by decide +kernel)
set_option maxRecDepth 20000 in
theorem gX11_digest_X11_many : GoodIn wsX11_digest (wsV RX11 52 RX11 yX11_many wsX11_many) := goodIn_app (goodIn_of _ (by decide +kernel)) ggX11_digest_X11_many
set_option maxRecDepth 20000 in
theorem ggX11_digest_X11_sums : GoodIn wsX11_digest wsX11_sums := goodIn_r _ [42, 2, 3, 43, 44, 45, 46, 47, 48, 49, 50, 51, 52, 53, 54, 55, 56, 57, 58, 59, 60] (by decide +kernel) (by decide +kernel)
set_option maxRecDepth 20000 in
theorem gX11_digest_X11_sums : GoodIn wsX11_digest (wsV RX11 275 RX11 yX11_sums wsX11_sums) := goodIn_app (goodIn_of _ (by decide +kernel)) ggX11_digest_X11_sums
set_option maxRecDepth 20000 in
theorem ggL_law_X10_init : GoodIn wsL_law wsX10_init := goodIn_r _ [8, 9, 10, 11, 12, 13, 14, 15, 16, 17, 18, 19, 20, 21, 22, 23, 24, 25, 26, 27, 28, 29, 30, 31, 32, 33, 34, 35, 36, 37, 38, 39, 40, 41, 42, 43, 44, 45, 46, 47, 48, 49, 50, 51, 52, 53, 54, 55, 56, 57, 58, 59, 60, 61, 62, 63, 64, 65, 66, 67, 68, 69, 70, 71, 72, 73, 74, 75, 76, 77, 78, 79, 80, 81, 82, 83, 84, 85, 86, 87, 88, 89, 90, 91, 92, 93, 94, 95, 96, 97, 98, 99, 100, 101, 102, 103, 104, 105, 106, 107, 1086, 1087, 1088, 1089, 1090, 1091, 1092, 1093, 1054, 1055, 1056, 1057, 1058, 1059, 1060, 1061, 1062, 1063, 1064, 1065, 1066, 1067, 1094, 1095, 1096, 1097, 1098, 1099, 1100, 1101, 1102, 1103, 1104, 1105, 1106, 1107, 1108, 1109, 1110, 1111, 1112, 1113, 1114, 1115, 1116, 1117, 1118, 1119, 1120, 1121, 1122, 1123, 1124, 1125, 1126, 1127, 1128, 1129, 1130] (by decide +kernel) (by decide +kernel)
set_option maxRecDepth 20000 in
theorem gL_law_X10_init : GoodIn wsL_law (wsX10_init) := ggL_law_X10_init
set_option maxRecDepth 20000 in
theorem ggL_law_X11_init : GoodIn wsL_law wsX11_init := goodIn_r _ [110, 111, 10, 11, 24, 112, 113, 18, 114, 115, 116, 117, 118, 119, 120, 121, 122, 123, 124, 125, 5, 126, 1068, 1069, 1070, 1071, 1072, 1073, 1074, 1075, 1076, 1077, 1078, 1079, 1080, 1081, 1082, 1083, 1084, 1085] (by decide +kernel) (by decide +kernel)
set_option maxRecDepth 20000 in
theorem gL_law_X11_init : GoodIn wsL_law (wsX11_init) := ggL_law_X11_init
set_option maxRecDepth 20000 in
theorem ggL_law_X10_race : GoodIn wsL_law wsX10_race := goodIn_r _ [130, 15, 131, 132, 133, 2, 134, 135, 136, 137, 138, 25, 139, 140, 141, 14, 142, 50, 51, 52, 58, 143, 62, 144, 63, 64, 1054, 1055, 1056, 1057, 1058, 1059, 1060, 1061, 1062, 1063, 1064, 1065, 1066, 1067, 1086, 1087, 1088, 1089, 1090, 1091, 1092, 1093, 1124, 1125, 1126, 1127, 1128, 1129, 1130] (by decide +kernel) (by decide +kernel)
set_option maxRecDepth 20000 in
theorem gL_law_X10_race : GoodIn wsL_law (wsV RL 13 RX10 yX10_race wsX10_race) := goodIn_app (goodIn_of _ (by decide +kernel)) ggL_law_X10_race
set_option maxRecDepth 20000 in
theorem ggL_law_X11_race : GoodIn wsL_law wsX11_race := goodIn_r _ [148, 149, 150, 112, 151, 152, 5, 153, 154, 155, 156, 157, 115, 158, 159, 160, 161, 124, 125, 126, 1068, 1069, 1070, 1071, 1072, 1073, 1074, 1075, 1076, 1077, 1078, 1079, 1080, 1081, 1082, 1083, 1084, 1085] (by decide +kernel) (by decide +kernel)
set_option maxRecDepth 20000 in
theorem gL_law_X11_race : GoodIn wsL_law (wsV RL 17 RX11 yX11_race wsX11_race) := goodIn_app (goodIn_of _ (by decide +kernel)) ggL_law_X11_race
set_option maxRecDepth 20000 in
theorem ggL_law_X10_one : GoodIn wsL_law wsX10_one := goodIn_r _ [165, 15, 131, 132, 133, 2, 134, 135, 136, 137, 138, 25, 166, 167, 168, 14, 169, 52, 54, 58, 143, 170, 171, 172, 30, 173, 174, 175, 176, 177, 178, 179, 180, 181, 1054, 1055, 1056, 1057, 1058, 1059, 1060, 1061, 1062, 1063, 1064, 1065, 1066, 1067, 1086, 1087, 1088, 1089, 1090, 1091, 1092, 1093, 1124, 1125, 1101, 1102, 1103, 1104, 1105, 1106, 1107, 1108] (by decide +kernel) (by decide +kernel)
set_option maxRecDepth 20000 in
theorem gL_law_X10_one : GoodIn wsL_law (wsV RL 18 RX10 yX10_one wsX10_one) := goodIn_app (goodIn_of _ (by decide +kernel)) ggL_law_X10_one
set_option maxRecDepth 20000 in
theorem ggL_law_X11_one : GoodIn wsL_law wsX11_one := goodIn_r _ [185, 112, 186, 187, 5, 188, 189, 151, 152, 153, 190, 191, 192, 193, 154, 155, 156, 157, 115, 158, 159, 160, 161, 194, 195, 196, 197, 198, 199, 200, 1068, 1069, 1070, 1071, 1072, 1073, 1074, 1075, 1076, 1077, 1078, 1079, 1080, 1081, 1082, 1083, 1084, 1085] (by decide +kernel) (by decide +kernel)
set_option maxRecDepth 20000 in
theorem gL_law_X11_one : GoodIn wsL_law (wsV RL 22 RX11 yX11_one wsX11_one) := goodIn_app (goodIn_of _ (by decide +kernel)) ggL_law_X11_one
set_option maxRecDepth 20000 in
theorem ggL_law_X10_type : GoodIn wsL_law wsX10_type := goodIn_r _ [204, 23, 132, 133, 2, 134, 135, 136, 137, 138, 25, 205, 206, 207, 22, 208, 86, 85, 1054, 1055, 1056, 1057, 1058, 1059, 1060, 1061, 1062, 1063, 1064, 1065, 1066, 1067, 1094, 1095, 1096, 1097, 1098, 1099, 1100] (by decide +kernel) (by decide +kernel)
set_option maxRecDepth 20000 in
theorem gL_law_X10_type : GoodIn wsL_law (wsV RL 23 RX10 yX10_type wsX10_type) := goodIn_app (goodIn_of _ (by decide +kernel)) ggL_law_X10_type
set_option maxRecDepth 20000 in
theorem ggL_law_X11_type : GoodIn wsL_law wsX11_type := goodIn_r _ [212, 213, 214, 121, 151, 152, 5, 153, 154, 155, 156, 157, 115, 194, 195, 196, 197, 1068, 1069, 1070, 1071, 1072, 1073, 1074, 1075, 1076, 1077, 1078, 1079, 1080, 1081, 1082, 1083, 1084, 1085] (by decide +kernel) (by decide +kernel)
set_option maxRecDepth 20000 in
theorem gL_law_X11_type : GoodIn wsL_law (wsV RL 26 RX11 yX11_type wsX11_type) := goodIn_app (goodIn_of _ (by decide +kernel)) ggL_law_X11_type
set_option maxRecDepth 20000 in
theorem ggL_law_X10_clear : GoodIn wsL_law wsX10_clear := goodIn_r _ [218, 23, 1054, 1055, 1056, 1057, 1058, 1059, 1060, 1061, 1062, 1063, 1064, 1065, 1066, 1067, 1094, 1095, 1096, 1097, 1098, 1099, 1100] (by decide +kernel) (by decide +kernel)
set_option maxRecDepth 20000 in
theorem gL_law_X10_clear : GoodIn wsL_law (wsV RL 27 RX10 yX10_clear wsX10_clear) := goodIn_app (goodIn_of _ (by decide +kernel)) ggL_law_X10_clear
set_option maxRecDepth 20000 in
theorem ggL_law_X11_clear : GoodIn wsL_law wsX11_clear := goodIn_r _ [222, 214, 1068, 1069, 1070, 1071, 1072, 1073, 1074, 1075, 1076, 1077, 1078, 1079, 1080, 1081, 1082, 1083, 1084, 1085] (by decide +kernel) (by decide +kernel)
set_option maxRecDepth 20000 in
theorem gL_law_X11_clear : GoodIn wsL_law (wsV RL 31 RX11 yX11_clear wsX11_clear) := goodIn_app (goodIn_of _ (by decide +kernel)) ggL_law_X11_clear
set_option maxRecDepth 20000 in
theorem ggL_law_X10_read : GoodIn wsL_law wsX10_read := goodIn_r _ [226, 23, 16, 15, 227, 228, 229, 22, 230, 87, 91, 86, 231, 232, 233, 234, 89, 88, 235, 236, 237, 238, 239, 85, 240, 241, 242, 243, 244, 245, 246, 247, 248, 249, 250, 251, 252, 253, 254, 255, 256, 257, 90, 258, 259, 260, 261, 262, 263, 264, 265, 266, 267, 268, 269, 270, 271, 272, 273, 274, 275, 276, 277, 278, 279, 280, 281, 282, 283, 284, 285, 286, 287, 288, 289, 290, 291, 292, 293, 294, 295, 296, 297, 298, 299, 300, 301, 302, 303, 304, 305, 306, 307, 308, 309, 310, 311, 312, 313, 314, 315, 316, 317, 318, 319, 320, 321, 322, 323, 140, 141, 14, 142, 50, 51, 52, 58, 143, 62, 144, 63, 64, 324, 325, 326, 327, 328, 167, 168, 169, 54, 170, 171, 172, 30, 173, 174, 175, 176, 177, 178, 179, 180, 181, 329, 330, 331, 332, 333, 334, 335, 336, 337, 338, 339, 340, 341, 342, 343, 344, 345, 346, 347, 348, 349, 350, 351, 352, 353, 354, 355, 356, 357, 358, 359, 360, 361, 362, 363, 364, 365, 366, 367, 368, 369, 1054, 1055, 1056, 1057, 1058, 1059, 1060, 1061, 1062, 1063, 1064, 1065, 1066, 1067, 1094, 1095, 1096, 1097, 1098, 1099, 1100, 1086, 1087, 1088, 1089, 1090, 1091, 1092, 1093, 1124, 1125, 1126, 1127, 1128, 1129, 1130, 1101, 1102, 1103, 1104, 1105, 1106, 1107, 1108] (by decide +kernel) (by decide +kernel)
set_option maxRecDepth 20000 in
theorem gL_law_X10_read : GoodIn wsL_law (wsV RL 32 RX10 yX10_read wsX10_read) := goodIn_app (goodIn_of _ (by decide +kernel)) ggL_law_X10_read
set_option maxRecDepth 20000 in
theorem ggL_law_X11_read : GoodIn wsL_law wsX11_read := goodIn_r _ [373, 374, 375, 122, 123, 112, 376, 377, 378, 5, 379, 214, 121, 380, 381, 382, 383, 384, 385, 386, 151, 152, 153, 387, 388, 389, 390, 391, 392, 393, 394, 395, 396, 397, 398, 399, 400, 401, 402, 403, 124, 125, 126, 404, 405, 406, 407, 408, 409, 410, 411, 198, 199, 200, 412, 413, 414, 415, 416, 417, 418, 419, 420, 421, 422, 423, 424, 425, 426, 427, 428, 429, 430, 431, 432, 433, 434, 435, 436, 437, 438, 439, 440, 441, 442, 443, 444, 445, 446, 447, 1068, 1069, 1070, 1071, 1072, 1073, 1074, 1075, 1076, 1077, 1078, 1079, 1080, 1081, 1082, 1083, 1084, 1085] (by decide +kernel) (by decide +kernel)
set_option maxRecDepth 20000 in
theorem gL_law_X11_read : GoodIn wsL_law (wsV RL 35 RX11 yX11_read wsX11_read) := goodIn_app (goodIn_of _ (by decide +kernel)) ggL_law_X11_read
set_option maxRecDepth 20000 in
theorem ggL_law_X10_ticks : GoodIn wsL_law wsX10_ticks := goodIn_r _ [451, 15, 452, 132, 133, 2, 134, 135, 136, 137, 138, 25, 453, 454, 455, 14, 456, 58, 51, 54, 457, 458, 459, 57, 460, 69, 68, 461, 462, 463, 464, 465, 466, 467, 468, 469, 470, 354, 355, 356, 52, 50, 357, 358, 359, 30, 360, 180, 174, 175, 177, 176, 179, 178, 181, 361, 346, 347, 348, 362, 363, 364, 365, 366, 367, 368, 369, 471, 472, 473, 474, 475, 1054, 1055, 1056, 1057, 1058, 1059, 1060, 1061, 1062, 1063, 1064, 1065, 1066, 1067, 1086, 1087, 1088, 1089, 1090, 1091, 1092, 1093, 1124, 1125, 1101, 1102, 1103, 1104, 1105, 1106, 1107, 1108] (by decide +kernel) (by decide +kernel)
set_option maxRecDepth 20000 in
theorem gL_law_X10_ticks : GoodIn wsL_law (wsV RL 36 RX10 yX10_ticks wsX10_ticks) := goodIn_app (goodIn_of _ (by decide +kernel)) ggL_law_X10_ticks
set_option maxRecDepth 20000 in
theorem ggL_law_X11_ticks : GoodIn wsL_law wsX11_ticks := goodIn_r _ [479, 150, 112, 151, 152, 5, 153, 154, 155, 156, 157, 115, 480, 481, 482, 483, 427, 428, 429, 430, 431, 432, 420, 421, 422, 433, 434, 435, 436, 437, 438, 439, 440, 441, 442, 443, 444, 445, 446, 447, 484, 485, 486, 1068, 1069, 1070, 1071, 1072, 1073, 1074, 1075, 1076, 1077, 1078, 1079, 1080, 1081, 1082, 1083, 1084, 1085] (by decide +kernel) (by decide +kernel)
set_option maxRecDepth 20000 in
theorem gL_law_X11_ticks : GoodIn wsL_law (wsV RL 39 RX11 yX11_ticks wsX11_ticks) := goodIn_app (goodIn_of _ (by decide +kernel)) ggL_law_X11_ticks
set_option maxRecDepth 20000 in
theorem ggL_law_X10_speed : GoodIn wsL_law wsX10_speed := goodIn_r _ [490, 15, 491, 492, 493, 494, 495, 2, 496, 131, 132, 133, 134, 135, 136, 137, 138, 25, 497, 346, 347, 30, 348, 181, 453, 454, 455, 14, 456, 58, 51, 54, 457, 458, 459, 57, 460, 69, 68, 461, 462, 463, 464, 465, 466, 467, 468, 469, 1054, 1055, 1056, 1057, 1058, 1059, 1060, 1061, 1062, 1063, 1064, 1065, 1066, 1067, 1086, 1087, 1088, 1089, 1090, 1091, 1092, 1093, 1101, 1102, 1103, 1104, 1105, 1106, 1107, 1108, 1124, 1125] (by decide +kernel) (by decide +kernel)
set_option maxRecDepth 20000 in
theorem gL_law_X10_speed : GoodIn wsL_law (wsV RL 40 RX10 yX10_speed wsX10_speed) := goodIn_app (goodIn_of _ (by decide +kernel)) ggL_law_X10_speed
set_option maxRecDepth 20000 in
theorem ggL_law_X11_speed : GoodIn wsL_law wsX11_speed := goodIn_r _ [501, 112, 502, 503, 504, 5, 505, 158, 159, 160, 161, 151, 152, 153, 506, 507, 508, 193, 154, 155, 156, 157, 115, 420, 421, 422, 509, 510, 511, 512, 480, 481, 482, 483, 1068, 1069, 1070, 1071, 1072, 1073, 1074, 1075, 1076, 1077, 1078, 1079, 1080, 1081, 1082, 1083, 1084, 1085] (by decide +kernel) (by decide +kernel)
set_option maxRecDepth 20000 in
theorem gL_law_X11_speed : GoodIn wsL_law (wsV RL 44 RX11 yX11_speed wsX11_speed) := goodIn_app (goodIn_of _ (by decide +kernel)) ggL_law_X11_speed
set_option maxRecDepth 20000 in
theorem ggL_law_X10_start : GoodIn wsL_law wsX10_start := goodIn_r _ [516, 15, 491, 517, 518, 493, 494, 495, 2, 496, 131, 132, 133, 134, 135, 136, 137, 138, 25, 497, 346, 347, 30, 348, 181, 453, 454, 455, 14, 456, 58, 51, 54, 457, 458, 459, 57, 460, 69, 68, 461, 462, 463, 464, 465, 466, 467, 468, 469, 1054, 1055, 1056, 1057, 1058, 1059, 1060, 1061, 1062, 1063, 1064, 1065, 1066, 1067, 1086, 1087, 1088, 1089, 1090, 1091, 1092, 1093, 1101, 1102, 1103, 1104, 1105, 1106, 1107, 1108, 1124, 1125] (by decide +kernel) (by decide +kernel)
set_option maxRecDepth 20000 in
theorem gL_law_X10_start : GoodIn wsL_law (wsV RL 45 RX10 yX10_start wsX10_start) := goodIn_app (goodIn_of _ (by decide +kernel)) ggL_law_X10_start
set_option maxRecDepth 20000 in
theorem ggL_law_X11_start : GoodIn wsL_law wsX11_start := goodIn_r _ [522, 523, 112, 502, 503, 504, 5, 505, 158, 159, 160, 161, 151, 152, 153, 154, 155, 156, 157, 115, 420, 421, 422, 509, 510, 511, 512, 480, 481, 482, 483, 1068, 1069, 1070, 1071, 1072, 1073, 1074, 1075, 1076, 1077, 1078, 1079, 1080, 1081, 1082, 1083, 1084, 1085] (by decide +kernel) (by decide +kernel)
set_option maxRecDepth 20000 in
theorem gL_law_X11_start : GoodIn wsL_law (wsV RL 48 RX11 yX11_start wsX11_start) := goodIn_app (goodIn_of _ (by decide +kernel)) ggL_law_X11_start
set_option maxRecDepth 20000 in
theorem ggL_law_X10_undo : GoodIn wsL_law wsX10_undo := goodIn_r _ [527, 15, 452, 528, 529, 530, 14, 531, 58, 54, 51, 532, 533, 534, 57, 535, 69, 68, 465, 466, 467, 468, 469, 135, 136, 137, 2, 138, 25, 1054, 1055, 1056, 1057, 1058, 1059, 1060, 1061, 1062, 1063, 1064, 1065, 1066, 1067, 1086, 1087, 1088, 1089, 1090, 1091, 1092, 1093, 1124, 1125, 1101, 1102, 1103, 1104, 1105, 1106, 1107, 1108] (by decide +kernel) (by decide +kernel)
set_option maxRecDepth 20000 in
theorem gL_law_X10_undo : GoodIn wsL_law (wsV RL 49 RX10 yX10_undo wsX10_undo) := goodIn_app (goodIn_of _ (by decide +kernel)) ggL_law_X10_undo
set_option maxRecDepth 20000 in
theorem ggL_law_X11_undo : GoodIn wsL_law wsX11_undo := goodIn_r _ [539, 112, 509, 510, 511, 5, 512, 115, 1068, 1069, 1070, 1071, 1072, 1073, 1074, 1075, 1076, 1077, 1078, 1079, 1080, 1081, 1082, 1083, 1084, 1085] (by decide +kernel) (by decide +kernel)
set_option maxRecDepth 20000 in
theorem gL_law_X11_undo : GoodIn wsL_law (wsV RL 52 RX11 yX11_undo wsX11_undo) := goodIn_app (goodIn_of _ (by decide +kernel)) ggL_law_X11_undo
set_option maxRecDepth 20000 in
theorem ggL_law_X10_of : GoodIn wsL_law wsX10_of := goodIn_r _ [543, 15, 491, 452, 493, 494, 495, 2, 496, 131, 132, 133, 134, 135, 136, 137, 138, 25, 544, 545, 546, 30, 547, 174, 175, 176, 177, 178, 179, 180, 181, 362, 363, 364, 365, 366, 367, 368, 369, 1054, 1055, 1056, 1057, 1058, 1059, 1060, 1061, 1062, 1063, 1064, 1065, 1066, 1067, 1086, 1087, 1088, 1089, 1090, 1091, 1092, 1093, 1101, 1102, 1103, 1104, 1105, 1106, 1107, 1108] (by decide +kernel) (by decide +kernel)
set_option maxRecDepth 20000 in
theorem gL_law_X10_of : GoodIn wsL_law (wsV RL 53 RX10 yX10_of wsX10_of) := goodIn_app (goodIn_of _ (by decide +kernel)) ggL_law_X10_of
set_option maxRecDepth 20000 in
theorem ggL_law_X11_of : GoodIn wsL_law wsX11_of := goodIn_r _ [551, 193, 502, 503, 504, 5, 505, 158, 159, 160, 161, 112, 151, 152, 153, 552, 553, 554, 555, 420, 421, 422, 436, 437, 438, 439, 440, 441, 442, 443, 444, 154, 155, 156, 157, 115, 1068, 1069, 1070, 1071, 1072, 1073, 1074, 1075, 1076, 1077, 1078, 1079, 1080, 1081, 1082, 1083, 1084, 1085] (by decide +kernel) (by decide +kernel)
set_option maxRecDepth 20000 in
theorem gL_law_X11_of : GoodIn wsL_law (wsV RL 56 RX11 yX11_of wsX11_of) := goodIn_app (goodIn_of _ (by decide +kernel)) ggL_law_X11_of
set_option maxRecDepth 20000 in
theorem ggL_law_X10_where : GoodIn wsL_law wsX10_where := goodIn_r _ [559, 31, 15, 491, 452, 518, 493, 494, 495, 2, 496, 131, 132, 133, 134, 135, 136, 137, 138, 25, 560, 561, 562, 30, 563, 174, 175, 176, 177, 178, 179, 180, 181, 564, 565, 566, 567, 568, 358, 359, 360, 361, 346, 347, 348, 362, 363, 364, 365, 366, 367, 368, 369, 1054, 1055, 1056, 1057, 1058, 1059, 1060, 1061, 1062, 1063, 1064, 1065, 1066, 1067, 1086, 1087, 1088, 1089, 1090, 1091, 1092, 1093, 1101, 1102, 1103, 1104, 1105, 1106, 1107, 1108] (by decide +kernel) (by decide +kernel)
set_option maxRecDepth 20000 in
theorem gL_law_X10_where : GoodIn wsL_law (wsV RL 57 RX10 yX10_where wsX10_where) := goodIn_app (goodIn_of _ (by decide +kernel)) ggL_law_X10_where
set_option maxRecDepth 20000 in
theorem ggL_law_X11_where : GoodIn wsL_law wsX11_where := goodIn_r _ [572, 150, 117, 502, 503, 504, 5, 505, 158, 159, 160, 161, 112, 151, 152, 153, 154, 155, 156, 157, 115, 573, 574, 575, 576, 577, 578, 579, 580, 430, 431, 432, 420, 421, 422, 433, 434, 435, 436, 437, 438, 439, 440, 441, 442, 443, 444, 445, 446, 447, 1068, 1069, 1070, 1071, 1072, 1073, 1074, 1075, 1076, 1077, 1078, 1079, 1080, 1081, 1082, 1083, 1084, 1085] (by decide +kernel) (by decide +kernel)
set_option maxRecDepth 20000 in
theorem gL_law_X11_where : GoodIn wsL_law (wsV RL 60 RX11 yX11_where wsX11_where) := goodIn_app (goodIn_of _ (by decide +kernel)) ggL_law_X11_where
set_option maxRecDepth 20000 in
theorem ggL_law_X10_home : GoodIn wsL_law wsX10_home := goodIn_r _ [584, 493, 494, 495, 2, 496, 15, 131, 585, 586, 587, 588, 31, 491, 452, 518, 560, 561, 562, 30, 563, 174, 175, 176, 177, 178, 179, 180, 181, 589, 590, 591, 592, 361, 346, 347, 348, 568, 358, 359, 360, 362, 363, 364, 365, 366, 367, 368, 369, 135, 136, 137, 138, 25, 1054, 1055, 1056, 1057, 1058, 1059, 1060, 1061, 1062, 1063, 1064, 1065, 1066, 1067, 1086, 1087, 1088, 1089, 1090, 1091, 1092, 1093, 1101, 1102, 1103, 1104, 1105, 1106, 1107, 1108] (by decide +kernel) (by decide +kernel)
set_option maxRecDepth 20000 in
theorem gL_law_X10_home : GoodIn wsL_law (wsV RL 61 RX10 yX10_home wsX10_home) := goodIn_app (goodIn_of _ (by decide +kernel)) ggL_law_X10_home
set_option maxRecDepth 20000 in
theorem ggL_law_X11_home : GoodIn wsL_law wsX11_home := goodIn_r _ [596, 502, 503, 504, 5, 505, 158, 159, 160, 161, 112, 151, 152, 153, 597, 598, 599, 600, 573, 574, 575, 576, 117, 601, 602, 603, 604, 420, 421, 422, 430, 431, 432, 433, 434, 435, 436, 437, 438, 439, 440, 441, 442, 443, 444, 445, 446, 447, 154, 155, 156, 157, 115, 1068, 1069, 1070, 1071, 1072, 1073, 1074, 1075, 1076, 1077, 1078, 1079, 1080, 1081, 1082, 1083, 1084, 1085] (by decide +kernel) (by decide +kernel)
set_option maxRecDepth 20000 in
theorem gL_law_X11_home : GoodIn wsL_law (wsV RL 64 RX11 yX11_home wsX11_home) := goodIn_app (goodIn_of _ (by decide +kernel)) ggL_law_X11_home
set_option maxRecDepth 20000 in
theorem ggL_law_X10_first : GoodIn wsL_law wsX10_first := goodIn_r _ [608, 15, 131, 491, 497, 346, 347, 30, 348, 181, 585, 586, 587, 2, 588, 31, 452, 518, 560, 561, 562, 563, 174, 175, 176, 177, 178, 179, 180, 589, 590, 591, 592, 361, 568, 358, 359, 360, 362, 363, 364, 365, 366, 367, 368, 369, 1054, 1055, 1056, 1057, 1058, 1059, 1060, 1061, 1062, 1063, 1064, 1065, 1066, 1067, 1086, 1087, 1088, 1089, 1090, 1091, 1092, 1093, 1101, 1102, 1103, 1104, 1105, 1106, 1107, 1108] (by decide +kernel) (by decide +kernel)
set_option maxRecDepth 20000 in
theorem gL_law_X10_first : GoodIn wsL_law (wsV RL 65 RX10 yX10_first wsX10_first) := goodIn_app (goodIn_of _ (by decide +kernel)) ggL_law_X10_first
set_option maxRecDepth 20000 in
theorem ggL_law_X11_first : GoodIn wsL_law wsX11_first := goodIn_r _ [612, 613, 112, 158, 159, 160, 5, 161, 420, 421, 422, 597, 598, 599, 600, 573, 574, 575, 576, 117, 601, 602, 603, 604, 430, 431, 432, 433, 434, 435, 436, 437, 438, 439, 440, 441, 442, 443, 444, 445, 446, 447, 1068, 1069, 1070, 1071, 1072, 1073, 1074, 1075, 1076, 1077, 1078, 1079, 1080, 1081, 1082, 1083, 1084, 1085] (by decide +kernel) (by decide +kernel)
set_option maxRecDepth 20000 in
theorem gL_law_X11_first : GoodIn wsL_law (wsV RL 68 RX11 yX11_first wsX11_first) := goodIn_app (goodIn_of _ (by decide +kernel)) ggL_law_X11_first
set_option maxRecDepth 20000 in
theorem ggL_law_X10_order : GoodIn wsL_law wsX10_order := goodIn_r _ [617, 15, 131, 135, 136, 137, 2, 138, 25, 618, 619, 620, 621, 491, 45, 622, 585, 586, 587, 588, 31, 452, 518, 560, 561, 562, 30, 563, 174, 175, 176, 177, 178, 179, 180, 181, 589, 590, 591, 592, 361, 346, 347, 348, 568, 358, 359, 360, 362, 363, 364, 365, 366, 367, 368, 369, 497, 623, 624, 625, 626, 1054, 1055, 1056, 1057, 1058, 1059, 1060, 1061, 1062, 1063, 1064, 1065, 1066, 1067, 1086, 1087, 1088, 1089, 1090, 1091, 1092, 1093, 1101, 1102, 1103, 1104, 1105, 1106, 1107, 1108] (by decide +kernel) (by decide +kernel)
set_option maxRecDepth 20000 in
theorem gL_law_X10_order : GoodIn wsL_law (wsV RL 69 RX10 yX10_order wsX10_order) := goodIn_app (goodIn_of _ (by decide +kernel)) ggL_law_X10_order
set_option maxRecDepth 20000 in
theorem ggL_law_X11_order : GoodIn wsL_law wsX11_order := goodIn_r _ [630, 118, 112, 631, 613, 154, 155, 156, 5, 157, 115, 158, 159, 160, 161, 509, 510, 511, 512, 597, 598, 599, 600, 573, 574, 575, 576, 117, 601, 602, 603, 604, 420, 421, 422, 430, 431, 432, 433, 434, 435, 436, 437, 438, 439, 440, 441, 442, 443, 444, 445, 446, 447, 1068, 1069, 1070, 1071, 1072, 1073, 1074, 1075, 1076, 1077, 1078, 1079, 1080, 1081, 1082, 1083, 1084, 1085] (by decide +kernel) (by decide +kernel)
set_option maxRecDepth 20000 in
theorem gL_law_X11_order : GoodIn wsL_law (wsV RL 72 RX11 yX11_order wsX11_order) := goodIn_app (goodIn_of _ (by decide +kernel)) ggL_law_X11_order
set_option maxRecDepth 20000 in
theorem ggL_law_X10_best : GoodIn wsL_law wsX10_best := goodIn_r _ [635, 15, 491, 31, 492, 452, 518, 493, 494, 495, 2, 496, 131, 132, 133, 134, 135, 136, 137, 138, 25, 497, 346, 347, 30, 348, 181, 560, 561, 562, 563, 174, 175, 176, 177, 178, 179, 180, 589, 590, 591, 592, 361, 568, 358, 359, 360, 362, 363, 364, 365, 366, 367, 368, 369, 1054, 1055, 1056, 1057, 1058, 1059, 1060, 1061, 1062, 1063, 1064, 1065, 1066, 1067, 1086, 1087, 1088, 1089, 1090, 1091, 1092, 1093, 1101, 1102, 1103, 1104, 1105, 1106, 1107, 1108] (by decide +kernel) (by decide +kernel)
set_option maxRecDepth 20000 in
theorem gL_law_X10_best : GoodIn wsL_law (wsV RL 73 RX10 yX10_best wsX10_best) := goodIn_app (goodIn_of _ (by decide +kernel)) ggL_law_X10_best
set_option maxRecDepth 20000 in
theorem ggL_law_X11_best : GoodIn wsL_law wsX11_best := goodIn_r _ [639, 613, 112, 117, 502, 503, 504, 5, 505, 158, 159, 160, 161, 151, 152, 153, 154, 155, 156, 157, 115, 420, 421, 422, 573, 574, 575, 576, 601, 602, 603, 604, 430, 431, 432, 433, 434, 435, 436, 437, 438, 439, 440, 441, 442, 443, 444, 445, 446, 447, 1068, 1069, 1070, 1071, 1072, 1073, 1074, 1075, 1076, 1077, 1078, 1079, 1080, 1081, 1082, 1083, 1084, 1085] (by decide +kernel) (by decide +kernel)
set_option maxRecDepth 20000 in
theorem gL_law_X11_best : GoodIn wsL_law (wsV RL 76 RX11 yX11_best wsX11_best) := goodIn_app (goodIn_of _ (by decide +kernel)) ggL_law_X11_best
set_option maxRecDepth 20000 in
theorem ggL_law_X10_turn : GoodIn wsL_law wsX10_turn := goodIn_r _ [643, 15, 491, 493, 494, 495, 2, 496, 131, 132, 133, 134, 135, 136, 137, 138, 25, 497, 346, 347, 30, 348, 181, 644, 645, 646, 647, 648, 341, 342, 343, 31, 492, 452, 518, 585, 586, 587, 588, 560, 561, 562, 563, 174, 175, 176, 177, 178, 179, 180, 589, 590, 591, 592, 361, 568, 358, 359, 360, 362, 363, 364, 365, 366, 367, 368, 369, 1054, 1055, 1056, 1057, 1058, 1059, 1060, 1061, 1062, 1063, 1064, 1065, 1066, 1067, 1086, 1087, 1088, 1089, 1090, 1091, 1092, 1093, 1101, 1102, 1103, 1104, 1105, 1106, 1107, 1108] (by decide +kernel) (by decide +kernel)
set_option maxRecDepth 20000 in
theorem gL_law_X10_turn : GoodIn wsL_law (wsV RL 77 RX10 yX10_turn wsX10_turn) := goodIn_app (goodIn_of _ (by decide +kernel)) ggL_law_X10_turn
set_option maxRecDepth 20000 in
theorem ggL_law_X11_turn : GoodIn wsL_law wsX11_turn := goodIn_r _ [652, 613, 112, 117, 502, 503, 504, 5, 505, 158, 159, 160, 161, 151, 152, 153, 506, 507, 508, 193, 154, 155, 156, 157, 115, 420, 421, 422, 573, 574, 575, 576, 601, 602, 603, 604, 430, 431, 432, 433, 434, 435, 436, 437, 438, 439, 440, 441, 442, 443, 444, 445, 446, 447, 577, 578, 579, 580, 1068, 1069, 1070, 1071, 1072, 1073, 1074, 1075, 1076, 1077, 1078, 1079, 1080, 1081, 1082, 1083, 1084, 1085] (by decide +kernel) (by decide +kernel)
set_option maxRecDepth 20000 in
theorem gL_law_X11_turn : GoodIn wsL_law (wsV RL 80 RX11 yX11_turn wsX11_turn) := goodIn_app (goodIn_of _ (by decide +kernel)) ggL_law_X11_turn
set_option maxRecDepth 20000 in
theorem ggL_law_X10_beats : GoodIn wsL_law wsX10_beats := goodIn_r _ [656, 15, 491, 517, 518, 31, 452, 657, 658, 659, 2, 660, 493, 494, 495, 496, 131, 135, 136, 137, 138, 25, 497, 346, 347, 30, 348, 181, 585, 586, 587, 588, 560, 561, 562, 563, 174, 175, 176, 177, 178, 179, 180, 589, 590, 591, 592, 361, 568, 358, 359, 360, 362, 363, 364, 365, 366, 367, 368, 369, 1054, 1055, 1056, 1057, 1058, 1059, 1060, 1061, 1062, 1063, 1064, 1065, 1066, 1067, 1086, 1087, 1088, 1089, 1090, 1091, 1092, 1093, 1101, 1102, 1103, 1104, 1105, 1106, 1107, 1108] (by decide +kernel) (by decide +kernel)
set_option maxRecDepth 20000 in
theorem gL_law_X10_beats : GoodIn wsL_law (wsV RL 81 RX10 yX10_beats wsX10_beats) := goodIn_app (goodIn_of _ (by decide +kernel)) ggL_law_X10_beats
set_option maxRecDepth 20000 in
theorem ggL_law_X11_beats : GoodIn wsL_law wsX11_beats := goodIn_r _ [664, 112, 117, 502, 503, 504, 5, 505, 158, 159, 160, 161, 151, 152, 153, 154, 155, 156, 157, 115, 597, 598, 599, 600, 573, 574, 575, 576, 601, 602, 603, 604, 420, 421, 422, 430, 431, 432, 433, 434, 435, 436, 437, 438, 439, 440, 441, 442, 443, 444, 445, 446, 447, 1068, 1069, 1070, 1071, 1072, 1073, 1074, 1075, 1076, 1077, 1078, 1079, 1080, 1081, 1082, 1083, 1084, 1085] (by decide +kernel) (by decide +kernel)
set_option maxRecDepth 20000 in
theorem gL_law_X11_beats : GoodIn wsL_law (wsV RL 84 RX11 yX11_beats wsX11_beats) := goodIn_app (goodIn_of _ (by decide +kernel)) ggL_law_X11_beats
set_option maxRecDepth 20000 in
theorem ggL_law_X10_close : GoodIn wsL_law wsX10_close := goodIn_r _ [668, 31, 15, 491, 32, 517, 669, 670, 342, 671, 452, 518, 657, 658, 659, 2, 660, 493, 494, 495, 496, 131, 132, 133, 134, 135, 136, 137, 138, 25, 560, 561, 562, 30, 563, 174, 175, 176, 177, 178, 179, 180, 181, 672, 358, 359, 360, 361, 346, 347, 348, 362, 363, 364, 365, 366, 367, 368, 369, 1054, 1055, 1056, 1057, 1058, 1059, 1060, 1061, 1062, 1063, 1064, 1065, 1066, 1067, 1086, 1087, 1088, 1089, 1090, 1091, 1092, 1093, 1101, 1102, 1103, 1104, 1105, 1106, 1107, 1108] (by decide +kernel) (by decide +kernel)
set_option maxRecDepth 20000 in
theorem gL_law_X10_close : GoodIn wsL_law (wsV RL 85 RX10 yX10_close wsX10_close) := goodIn_app (goodIn_of _ (by decide +kernel)) ggL_law_X10_close
set_option maxRecDepth 20000 in
theorem ggL_law_X11_close : GoodIn wsL_law wsX11_close := goodIn_r _ [676, 613, 117, 502, 503, 504, 5, 505, 158, 159, 160, 161, 112, 151, 152, 153, 154, 155, 156, 157, 115, 573, 574, 575, 576, 430, 431, 432, 420, 421, 422, 433, 434, 435, 436, 437, 438, 439, 440, 441, 442, 443, 444, 445, 446, 447, 1068, 1069, 1070, 1071, 1072, 1073, 1074, 1075, 1076, 1077, 1078, 1079, 1080, 1081, 1082, 1083, 1084, 1085] (by decide +kernel) (by decide +kernel)
set_option maxRecDepth 20000 in
theorem gL_law_X11_close : GoodIn wsL_law (wsV RL 88 RX11 yX11_close wsX11_close) := goodIn_app (goodIn_of _ (by decide +kernel)) ggL_law_X11_close
set_option maxRecDepth 20000 in
theorem ggL_law_X10_seen : GoodIn wsL_law wsX10_seen := goodIn_r _ [680, 15, 681, 682, 493, 494, 495, 2, 496, 131, 132, 133, 134, 135, 136, 137, 138, 25, 683, 684, 685, 61, 686, 74, 75, 78, 1054, 1055, 1056, 1057, 1058, 1059, 1060, 1061, 1062, 1063, 1064, 1065, 1066, 1067, 1086, 1087, 1088, 1089, 1090, 1091, 1092, 1093, 1126, 1127, 1128, 1129, 1130] (by decide +kernel) (by decide +kernel)
set_option maxRecDepth 20000 in
theorem gL_law_X10_seen : GoodIn wsL_law (wsV RL 89 RX10 yX10_seen wsX10_seen) := goodIn_app (goodIn_of _ (by decide +kernel)) ggL_law_X10_seen
set_option maxRecDepth 20000 in
theorem ggL_law_X11_seen : GoodIn wsL_law wsX11_seen := goodIn_r _ [690, 691, 692, 112, 502, 503, 504, 5, 505, 158, 159, 160, 161, 151, 152, 153, 506, 507, 508, 193, 154, 155, 156, 157, 115, 194, 195, 196, 197, 1068, 1069, 1070, 1071, 1072, 1073, 1074, 1075, 1076, 1077, 1078, 1079, 1080, 1081, 1082, 1083, 1084, 1085] (by decide +kernel) (by decide +kernel)
set_option maxRecDepth 20000 in
theorem gL_law_X11_seen : GoodIn wsL_law (wsV RL 93 RX11 yX11_seen wsX11_seen) := goodIn_app (goodIn_of _ (by decide +kernel)) ggL_law_X11_seen
set_option maxRecDepth 20000 in
theorem ggL_law_X10_strong : GoodIn wsL_law wsX10_strong := goodIn_r _ [696, 15, 493, 494, 495, 2, 496, 131, 132, 133, 134, 135, 136, 137, 138, 25, 697, 698, 699, 14, 700, 62, 54, 701, 702, 703, 704, 61, 705, 74, 76, 78, 706, 363, 364, 365, 707, 708, 709, 710, 711, 712, 713, 714, 715, 716, 1054, 1055, 1056, 1057, 1058, 1059, 1060, 1061, 1062, 1063, 1064, 1065, 1066, 1067, 1086, 1087, 1088, 1089, 1090, 1091, 1092, 1093, 1101, 1102, 1103, 1104, 1105, 1106, 1107, 1108, 1126, 1127, 1128, 1129, 1130] (by decide +kernel) (by decide +kernel)
set_option maxRecDepth 20000 in
theorem gL_law_X10_strong : GoodIn wsL_law (wsV RL 94 RX10 yX10_strong wsX10_strong) := goodIn_app (goodIn_of _ (by decide +kernel)) ggL_law_X10_strong
set_option maxRecDepth 20000 in
theorem ggL_law_X11_strong : GoodIn wsL_law wsX11_strong := goodIn_r _ [720, 721, 502, 503, 504, 5, 505, 158, 159, 160, 161, 112, 151, 152, 153, 154, 155, 156, 157, 115, 722, 723, 724, 725, 439, 440, 441, 726, 727, 728, 1068, 1069, 1070, 1071, 1072, 1073, 1074, 1075, 1076, 1077, 1078, 1079, 1080, 1081, 1082, 1083, 1084, 1085] (by decide +kernel) (by decide +kernel)
set_option maxRecDepth 20000 in
theorem gL_law_X11_strong : GoodIn wsL_law (wsV RL 97 RX11 yX11_strong wsX11_strong) := goodIn_app (goodIn_of _ (by decide +kernel)) ggL_law_X11_strong
set_option maxRecDepth 20000 in
theorem ggL_law_X10_tell : GoodIn wsL_law wsX10_tell := goodIn_r _ [732, 15, 491, 493, 494, 495, 2, 496, 131, 135, 136, 137, 138, 25, 697, 698, 699, 14, 700, 62, 54, 701, 702, 703, 704, 61, 705, 74, 76, 78, 706, 363, 364, 365, 733, 734, 735, 736, 707, 708, 709, 710, 711, 712, 713, 737, 738, 739, 740, 36, 741, 742, 743, 744, 35, 745, 95, 96, 714, 715, 716, 746, 747, 748, 749, 750, 751, 752, 367, 368, 369, 753, 754, 755, 756, 757, 758, 342, 759, 1054, 1055, 1056, 1057, 1058, 1059, 1060, 1061, 1062, 1063, 1064, 1065, 1066, 1067, 1086, 1087, 1088, 1089, 1090, 1091, 1092, 1093, 1101, 1102, 1103, 1104, 1105, 1106, 1107, 1108, 1126, 1127, 1128, 1129, 1130, 1109, 1110] (by decide +kernel) (by decide +kernel)
set_option maxRecDepth 20000 in
theorem gL_law_X10_tell : GoodIn wsL_law (wsV RL 98 RX10 yX10_tell wsX10_tell) := goodIn_app (goodIn_of _ (by decide +kernel)) ggL_law_X10_tell
set_option maxRecDepth 20000 in
theorem ggL_law_X11_tell : GoodIn wsL_law wsX11_tell := goodIn_r _ [763, 613, 119, 112, 502, 503, 504, 5, 505, 158, 159, 160, 161, 151, 152, 153, 154, 155, 156, 157, 115, 722, 723, 724, 725, 439, 440, 441, 764, 765, 766, 767, 726, 727, 728, 1068, 1069, 1070, 1071, 1072, 1073, 1074, 1075, 1076, 1077, 1078, 1079, 1080, 1081, 1082, 1083, 1084, 1085] (by decide +kernel) (by decide +kernel)
set_option maxRecDepth 20000 in
theorem gL_law_X11_tell : GoodIn wsL_law (wsV RL 101 RX11 yX11_tell wsX11_tell) := goodIn_app (goodIn_of _ (by decide +kernel)) ggL_law_X11_tell
set_option maxRecDepth 20000 in
theorem ggL_law_X10_note : GoodIn wsL_law wsX10_note := goodIn_r _ [771, 15, 772, 682, 493, 494, 495, 2, 496, 131, 132, 133, 134, 135, 136, 137, 138, 25, 683, 684, 685, 61, 686, 74, 75, 78, 1054, 1055, 1056, 1057, 1058, 1059, 1060, 1061, 1062, 1063, 1064, 1065, 1066, 1067, 1086, 1087, 1088, 1089, 1090, 1091, 1092, 1093, 1126, 1127, 1128, 1129, 1130] (by decide +kernel) (by decide +kernel)
set_option maxRecDepth 20000 in
theorem gL_law_X10_note : GoodIn wsL_law (wsV RL 102 RX10 yX10_note wsX10_note) := goodIn_app (goodIn_of _ (by decide +kernel)) ggL_law_X10_note
set_option maxRecDepth 20000 in
theorem ggL_law_X11_note : GoodIn wsL_law wsX11_note := goodIn_r _ [776, 691, 692, 112, 502, 503, 504, 5, 505, 158, 159, 160, 161, 151, 152, 153, 190, 191, 192, 193, 506, 507, 508, 154, 155, 156, 157, 115, 194, 195, 196, 197, 1068, 1069, 1070, 1071, 1072, 1073, 1074, 1075, 1076, 1077, 1078, 1079, 1080, 1081, 1082, 1083, 1084, 1085] (by decide +kernel) (by decide +kernel)
set_option maxRecDepth 20000 in
theorem gL_law_X11_note : GoodIn wsL_law (wsV RL 106 RX11 yX11_note wsX11_note) := goodIn_app (goodIn_of _ (by decide +kernel)) ggL_law_X11_note
set_option maxRecDepth 20000 in
theorem ggL_law_X10_mark : GoodIn wsL_law wsX10_mark := goodIn_r _ [780, 15, 781, 682, 493, 494, 495, 2, 496, 131, 132, 133, 134, 135, 136, 137, 138, 25, 683, 684, 685, 61, 686, 74, 75, 78, 1054, 1055, 1056, 1057, 1058, 1059, 1060, 1061, 1062, 1063, 1064, 1065, 1066, 1067, 1086, 1087, 1088, 1089, 1090, 1091, 1092, 1093, 1126, 1127, 1128, 1129, 1130] (by decide +kernel) (by decide +kernel)
set_option maxRecDepth 20000 in
theorem gL_law_X10_mark : GoodIn wsL_law (wsV RL 107 RX10 yX10_mark wsX10_mark) := goodIn_app (goodIn_of _ (by decide +kernel)) ggL_law_X10_mark
set_option maxRecDepth 20000 in
theorem ggL_law_X11_mark : GoodIn wsL_law wsX11_mark := goodIn_r _ [785, 691, 692, 112, 502, 503, 504, 5, 505, 158, 159, 160, 161, 151, 152, 153, 154, 155, 156, 157, 115, 194, 195, 196, 197, 1068, 1069, 1070, 1071, 1072, 1073, 1074, 1075, 1076, 1077, 1078, 1079, 1080, 1081, 1082, 1083, 1084, 1085] (by decide +kernel) (by decide +kernel)
set_option maxRecDepth 20000 in
theorem gL_law_X11_mark : GoodIn wsL_law (wsV RL 110 RX11 yX11_mark wsX11_mark) := goodIn_app (goodIn_of _ (by decide +kernel)) ggL_law_X11_mark
set_option maxRecDepth 20000 in
theorem ggL_law_X10_forget : GoodIn wsL_law wsX10_forget := goodIn_r _ [789, 15, 681, 772, 781, 682, 132, 133, 2, 134, 135, 136, 137, 138, 25, 1054, 1055, 1056, 1057, 1058, 1059, 1060, 1061, 1062, 1063, 1064, 1065, 1066, 1067, 1086, 1087, 1088, 1089, 1090, 1091, 1092, 1093, 1126, 1127, 1128, 1129, 1130] (by decide +kernel) (by decide +kernel)
set_option maxRecDepth 20000 in
theorem gL_law_X10_forget : GoodIn wsL_law (wsV RL 111 RX10 yX10_forget wsX10_forget) := goodIn_app (goodIn_of _ (by decide +kernel)) ggL_law_X10_forget
set_option maxRecDepth 20000 in
theorem ggL_law_X11_forget : GoodIn wsL_law wsX11_forget := goodIn_r _ [793, 721, 112, 151, 152, 5, 153, 154, 155, 156, 157, 115, 1068, 1069, 1070, 1071, 1072, 1073, 1074, 1075, 1076, 1077, 1078, 1079, 1080, 1081, 1082, 1083, 1084, 1085] (by decide +kernel) (by decide +kernel)
set_option maxRecDepth 20000 in
theorem gL_law_X11_forget : GoodIn wsL_law (wsV RL 114 RX11 yX11_forget wsX11_forget) := goodIn_app (goodIn_of _ (by decide +kernel)) ggL_law_X11_forget
set_option maxRecDepth 20000 in
theorem ggL_law_X10_is : GoodIn wsL_law wsX10_is := goodIn_r _ [797, 15, 493, 494, 495, 2, 496, 131, 798, 799, 800, 14, 801, 63, 702, 703, 704, 61, 705, 74, 76, 78, 706, 363, 364, 365, 135, 136, 137, 138, 25, 1054, 1055, 1056, 1057, 1058, 1059, 1060, 1061, 1062, 1063, 1064, 1065, 1066, 1067, 1086, 1087, 1088, 1089, 1090, 1091, 1092, 1093, 1126, 1127, 1128, 1129, 1130] (by decide +kernel) (by decide +kernel)
set_option maxRecDepth 20000 in
theorem gL_law_X10_is : GoodIn wsL_law (wsV RL 115 RX10 yX10_is wsX10_is) := goodIn_app (goodIn_of _ (by decide +kernel)) ggL_law_X10_is
set_option maxRecDepth 20000 in
theorem ggL_law_X11_is : GoodIn wsL_law wsX11_is := goodIn_r _ [805, 502, 503, 504, 5, 505, 158, 159, 160, 161, 112, 151, 152, 153, 806, 807, 808, 809, 439, 440, 441, 154, 155, 156, 157, 115, 1068, 1069, 1070, 1071, 1072, 1073, 1074, 1075, 1076, 1077, 1078, 1079, 1080, 1081, 1082, 1083, 1084, 1085] (by decide +kernel) (by decide +kernel)
set_option maxRecDepth 20000 in
theorem gL_law_X11_is : GoodIn wsL_law (wsV RL 118 RX11 yX11_is wsX11_is) := goodIn_app (goodIn_of _ (by decide +kernel)) ggL_law_X11_is
set_option maxRecDepth 20000 in
theorem ggL_law_X10_look : GoodIn wsL_law wsX10_look := goodIn_r _ [813, 15, 491, 493, 494, 495, 2, 496, 131, 135, 136, 137, 138, 25, 798, 799, 800, 14, 801, 63, 702, 703, 704, 61, 705, 74, 76, 78, 706, 363, 364, 365, 733, 734, 735, 736, 707, 708, 709, 710, 711, 712, 713, 737, 738, 739, 740, 36, 741, 742, 743, 744, 35, 745, 95, 96, 714, 715, 716, 746, 747, 748, 749, 750, 751, 752, 367, 368, 369, 753, 754, 755, 756, 757, 758, 342, 759, 1054, 1055, 1056, 1057, 1058, 1059, 1060, 1061, 1062, 1063, 1064, 1065, 1066, 1067, 1086, 1087, 1088, 1089, 1090, 1091, 1092, 1093, 1126, 1127, 1128, 1129, 1130, 1109, 1110, 1101, 1102, 1103, 1104, 1105, 1106, 1107, 1108] (by decide +kernel) (by decide +kernel)
set_option maxRecDepth 20000 in
theorem gL_law_X10_look : GoodIn wsL_law (wsV RL 119 RX10 yX10_look wsX10_look) := goodIn_app (goodIn_of _ (by decide +kernel)) ggL_law_X10_look
set_option maxRecDepth 20000 in
theorem ggL_law_X11_look : GoodIn wsL_law wsX11_look := goodIn_r _ [817, 613, 119, 112, 502, 503, 504, 5, 505, 158, 159, 160, 161, 151, 152, 153, 154, 155, 156, 157, 115, 806, 807, 808, 809, 439, 440, 441, 764, 765, 766, 767, 726, 727, 728, 1068, 1069, 1070, 1071, 1072, 1073, 1074, 1075, 1076, 1077, 1078, 1079, 1080, 1081, 1082, 1083, 1084, 1085] (by decide +kernel) (by decide +kernel)
set_option maxRecDepth 20000 in
theorem gL_law_X11_look : GoodIn wsL_law (wsV RL 122 RX11 yX11_look wsX11_look) := goodIn_app (goodIn_of _ (by decide +kernel)) ggL_law_X11_look
set_option maxRecDepth 20000 in
theorem ggL_law_X10_kinds : GoodIn wsL_law wsX10_kinds := goodIn_r _ [821, 15, 493, 494, 495, 2, 496, 131, 822, 823, 824, 14, 825, 64, 826, 827, 828, 61, 829, 74, 78, 830, 367, 368, 369, 135, 136, 137, 138, 25, 1054, 1055, 1056, 1057, 1058, 1059, 1060, 1061, 1062, 1063, 1064, 1065, 1066, 1067, 1086, 1087, 1088, 1089, 1090, 1091, 1092, 1093, 1126, 1127, 1128, 1129, 1130] (by decide +kernel) (by decide +kernel)
set_option maxRecDepth 20000 in
theorem gL_law_X10_kinds : GoodIn wsL_law (wsV RL 123 RX10 yX10_kinds wsX10_kinds) := goodIn_app (goodIn_of _ (by decide +kernel)) ggL_law_X10_kinds
set_option maxRecDepth 20000 in
theorem ggL_law_X11_kinds : GoodIn wsL_law wsX11_kinds := goodIn_r _ [834, 502, 503, 504, 5, 505, 158, 159, 160, 161, 112, 151, 152, 153, 835, 836, 837, 838, 442, 443, 444, 154, 155, 156, 157, 115, 1068, 1069, 1070, 1071, 1072, 1073, 1074, 1075, 1076, 1077, 1078, 1079, 1080, 1081, 1082, 1083, 1084, 1085] (by decide +kernel) (by decide +kernel)
set_option maxRecDepth 20000 in
theorem gL_law_X11_kinds : GoodIn wsL_law (wsV RL 126 RX11 yX11_kinds wsX11_kinds) := goodIn_app (goodIn_of _ (by decide +kernel)) ggL_law_X11_kinds
set_option maxRecDepth 20000 in
theorem ggL_law_X10_ask : GoodIn wsL_law wsX10_ask := goodIn_r _ [842, 15, 491, 493, 494, 495, 2, 496, 131, 135, 136, 137, 138, 25, 822, 823, 824, 14, 825, 64, 826, 827, 828, 61, 829, 74, 78, 830, 367, 368, 369, 733, 734, 735, 736, 707, 708, 709, 710, 711, 712, 713, 737, 738, 739, 740, 36, 741, 742, 743, 744, 35, 745, 95, 96, 714, 715, 716, 746, 747, 748, 749, 750, 751, 363, 364, 365, 752, 753, 754, 755, 756, 757, 758, 342, 759, 1054, 1055, 1056, 1057, 1058, 1059, 1060, 1061, 1062, 1063, 1064, 1065, 1066, 1067, 1086, 1087, 1088, 1089, 1090, 1091, 1092, 1093, 1126, 1127, 1128, 1129, 1130, 1109, 1110, 1101, 1102, 1103, 1104, 1105, 1106, 1107, 1108] (by decide +kernel) (by decide +kernel)
set_option maxRecDepth 20000 in
theorem gL_law_X10_ask : GoodIn wsL_law (wsV RL 127 RX10 yX10_ask wsX10_ask) := goodIn_app (goodIn_of _ (by decide +kernel)) ggL_law_X10_ask
set_option maxRecDepth 20000 in
theorem ggL_law_X11_ask : GoodIn wsL_law wsX11_ask := goodIn_r _ [846, 613, 119, 502, 503, 504, 5, 505, 158, 159, 160, 161, 112, 151, 152, 153, 154, 155, 156, 157, 115, 835, 836, 837, 838, 442, 443, 444, 764, 765, 766, 767, 726, 727, 728, 1068, 1069, 1070, 1071, 1072, 1073, 1074, 1075, 1076, 1077, 1078, 1079, 1080, 1081, 1082, 1083, 1084, 1085] (by decide +kernel) (by decide +kernel)
set_option maxRecDepth 20000 in
theorem gL_law_X11_ask : GoodIn wsL_law (wsV RL 130 RX11 yX11_ask wsX11_ask) := goodIn_app (goodIn_of _ (by decide +kernel)) ggL_law_X11_ask
set_option maxRecDepth 20000 in
theorem ggL_law_X10_pair : GoodIn wsL_law wsX10_pair := goodIn_r _ [850, 44, 15, 491, 517, 657, 658, 659, 2, 660, 493, 494, 495, 496, 131, 135, 136, 137, 138, 25, 851, 852, 853, 854, 31, 492, 452, 518, 560, 561, 562, 30, 563, 174, 175, 176, 177, 178, 179, 180, 181, 564, 565, 566, 567, 568, 358, 359, 360, 361, 346, 347, 348, 362, 363, 364, 365, 366, 367, 368, 369, 855, 856, 857, 43, 858, 103, 104, 859, 860, 861, 862, 105, 106, 107, 863, 864, 865, 866, 758, 342, 759, 867, 868, 869, 870, 871, 872, 873, 1054, 1055, 1056, 1057, 1058, 1059, 1060, 1061, 1062, 1063, 1064, 1065, 1066, 1067, 1086, 1087, 1088, 1089, 1090, 1091, 1092, 1093, 1101, 1102, 1103, 1104, 1105, 1106, 1107, 1108, 1119, 1120, 1121, 1122, 1123] (by decide +kernel) (by decide +kernel)
set_option maxRecDepth 20000 in
theorem gL_law_X10_pair : GoodIn wsL_law (wsV RL 131 RX10 yX10_pair wsX10_pair) := goodIn_app (goodIn_of _ (by decide +kernel)) ggL_law_X10_pair
set_option maxRecDepth 20000 in
theorem ggL_law_X11_pair : GoodIn wsL_law wsX11_pair := goodIn_r _ [877, 117, 120, 502, 503, 504, 5, 505, 158, 159, 160, 161, 112, 151, 152, 153, 154, 155, 156, 157, 115, 573, 574, 575, 576, 577, 578, 579, 580, 430, 431, 432, 420, 421, 422, 433, 434, 435, 436, 437, 438, 439, 440, 441, 442, 443, 444, 445, 446, 447, 878, 879, 880, 881, 882, 883, 884, 885, 1068, 1069, 1070, 1071, 1072, 1073, 1074, 1075, 1076, 1077, 1078, 1079, 1080, 1081, 1082, 1083, 1084, 1085] (by decide +kernel) (by decide +kernel)
set_option maxRecDepth 20000 in
theorem gL_law_X11_pair : GoodIn wsL_law (wsV RL 134 RX11 yX11_pair wsX11_pair) := goodIn_app (goodIn_of _ (by decide +kernel)) ggL_law_X11_pair
set_option maxRecDepth 20000 in
theorem ggL_law_X10_stumble : GoodIn wsL_law wsX10_stumble := goodIn_r _ [889, 15, 491, 40, 518, 452, 517, 890, 26, 27, 493, 494, 495, 2, 496, 131, 132, 133, 134, 135, 136, 137, 138, 25, 891, 892, 893, 39, 894, 895, 896, 897, 898, 899, 900, 901, 902, 903, 904, 905, 906, 907, 908, 909, 910, 911, 912, 913, 914, 363, 364, 365, 915, 367, 368, 369, 916, 917, 918, 919, 1054, 1055, 1056, 1057, 1058, 1059, 1060, 1061, 1062, 1063, 1064, 1065, 1066, 1067, 1086, 1087, 1088, 1089, 1090, 1091, 1092, 1093, 1101, 1102, 1103, 1104, 1105, 1106, 1107, 1108, 1111, 1112, 1113, 1114, 1115, 1116, 1117, 1118] (by decide +kernel) (by decide +kernel)
set_option maxRecDepth 20000 in
theorem gL_law_X10_stumble : GoodIn wsL_law (wsV RL 135 RX10 yX10_stumble wsX10_stumble) := goodIn_app (goodIn_of _ (by decide +kernel)) ggL_law_X10_stumble
set_option maxRecDepth 20000 in
theorem ggL_law_X11_stumble : GoodIn wsL_law wsX11_stumble := goodIn_r _ [923, 150, 924, 149, 117, 502, 503, 504, 5, 505, 158, 159, 160, 161, 112, 151, 152, 153, 154, 155, 156, 157, 115, 573, 574, 575, 576, 726, 727, 728, 420, 421, 422, 433, 434, 435, 436, 437, 438, 439, 440, 441, 442, 443, 444, 445, 446, 447, 925, 926, 927, 928, 929, 116, 1068, 1069, 1070, 1071, 1072, 1073, 1074, 1075, 1076, 1077, 1078, 1079, 1080, 1081, 1082, 1083, 1084, 1085] (by decide +kernel) (by decide +kernel)
set_option maxRecDepth 20000 in
theorem gL_law_X11_stumble : GoodIn wsL_law (wsV RL 138 RX11 yX11_stumble wsX11_stumble) := goodIn_app (goodIn_of _ (by decide +kernel)) ggL_law_X11_stumble
set_option maxRecDepth 20000 in
theorem ggL_law_X10_races : GoodIn wsL_law wsX10_races := goodIn_r _ [933, 934, 16, 15, 935, 936, 937, 938, 939, 131, 491, 940, 941, 492, 132, 133, 2, 134, 135, 136, 137, 138, 25, 942, 943, 944, 14, 945, 50, 51, 52, 54, 946, 561, 562, 30, 563, 174, 175, 176, 177, 178, 179, 180, 181, 470, 354, 355, 356, 357, 358, 359, 360, 361, 346, 347, 348, 362, 363, 364, 365, 366, 367, 368, 369, 471, 472, 473, 474, 475, 1054, 1055, 1056, 1057, 1058, 1059, 1060, 1061, 1062, 1063, 1064, 1065, 1066, 1067, 1086, 1087, 1088, 1089, 1090, 1091, 1092, 1093, 1101, 1102, 1103, 1104, 1105, 1106, 1107, 1108] (by decide +kernel) (by decide +kernel)
set_option maxRecDepth 20000 in
theorem gL_law_X10_races : GoodIn wsL_law (wsV RL 139 RX10 yX10_races wsX10_races) := goodIn_app (goodIn_of _ (by decide +kernel)) ggL_law_X10_races
set_option maxRecDepth 20000 in
theorem ggL_law_X11_races : GoodIn wsL_law wsX11_races := goodIn_r _ [950, 951, 150, 952, 953, 954, 955, 924, 117, 956, 149, 151, 152, 5, 153, 154, 155, 156, 157, 115, 573, 574, 575, 576, 112, 502, 503, 504, 505, 158, 159, 160, 161, 430, 431, 432, 420, 421, 422, 433, 434, 435, 436, 437, 438, 439, 440, 441, 442, 443, 444, 445, 446, 447, 484, 485, 486, 1068, 1069, 1070, 1071, 1072, 1073, 1074, 1075, 1076, 1077, 1078, 1079, 1080, 1081, 1082, 1083, 1084, 1085] (by decide +kernel) (by decide +kernel)
set_option maxRecDepth 20000 in
theorem gL_law_X11_races : GoodIn wsL_law (wsV RL 142 RX11 yX11_races wsX11_races) := goodIn_app (goodIn_of _ (by decide +kernel)) ggL_law_X11_races
set_option maxRecDepth 20000 in
theorem ggL_law_X10_part : GoodIn wsL_law wsX10_part := goodIn_r _ [960, 26, 27, 132, 133, 2, 134, 135, 136, 137, 138, 25, 1054, 1055, 1056, 1057, 1058, 1059, 1060, 1061, 1062, 1063, 1064, 1065, 1066, 1067] (by decide +kernel) (by decide +kernel)
set_option maxRecDepth 20000 in
theorem gL_law_X10_part : GoodIn wsL_law (wsV RL 143 RX10 yX10_part wsX10_part) := goodIn_app (goodIn_of _ (by decide +kernel)) ggL_law_X10_part
set_option maxRecDepth 20000 in
theorem ggL_law_X11_part : GoodIn wsL_law wsX11_part := goodIn_r _ [964, 929, 116, 154, 155, 156, 5, 157, 115, 1068, 1069, 1070, 1071, 1072, 1073, 1074, 1075, 1076, 1077, 1078, 1079, 1080, 1081, 1082, 1083, 1084, 1085] (by decide +kernel) (by decide +kernel)
set_option maxRecDepth 20000 in
theorem gL_law_X11_part : GoodIn wsL_law (wsV RL 147 RX11 yX11_part wsX11_part) := goodIn_app (goodIn_of _ (by decide +kernel)) ggL_law_X11_part
set_option maxRecDepth 20000 in
theorem ggL_law_X10_image : GoodIn wsL_law wsX10_image := goodIn_r _ [968, 17, 15, 19, 132, 133, 2, 134, 135, 136, 137, 138, 25, 969, 970, 971, 14, 972, 58, 62, 63, 64, 973, 943, 944, 945, 50, 51, 52, 54, 946, 561, 562, 30, 563, 174, 175, 176, 177, 178, 179, 180, 181, 974, 975, 976, 57, 977, 69, 68, 461, 462, 463, 464, 978, 979, 980, 61, 981, 74, 78, 982, 341, 342, 343, 983, 1054, 1055, 1056, 1057, 1058, 1059, 1060, 1061, 1062, 1063, 1064, 1065, 1066, 1067, 1086, 1087, 1088, 1089, 1090, 1091, 1092, 1093, 1101, 1102, 1103, 1104, 1105, 1106, 1107, 1108, 1124, 1125, 1126, 1127, 1128, 1129, 1130] (by decide +kernel) (by decide +kernel)
set_option maxRecDepth 20000 in
theorem gL_law_X10_image : GoodIn wsL_law (wsV RL 148 RX10 yX10_image wsX10_image) := goodIn_app (goodIn_of _ (by decide +kernel)) ggL_law_X10_image
set_option maxRecDepth 20000 in
theorem ggL_law_X11_image : GoodIn wsL_law wsX11_image := goodIn_r _ [987, 113, 112, 114, 151, 152, 5, 153, 154, 155, 156, 157, 115, 1068, 1069, 1070, 1071, 1072, 1073, 1074, 1075, 1076, 1077, 1078, 1079, 1080, 1081, 1082, 1083, 1084, 1085] (by decide +kernel) (by decide +kernel)
set_option maxRecDepth 20000 in
theorem gL_law_X11_image : GoodIn wsL_law (wsV RL 151 RX11 yX11_image wsX11_image) := goodIn_app (goodIn_of _ (by decide +kernel)) ggL_law_X11_image
set_option maxRecDepth 20000 in
theorem ggL_law_X10_from : GoodIn wsL_law wsX10_from := goodIn_r _ [991, 19, 15, 17, 132, 133, 2, 134, 135, 136, 137, 138, 25, 969, 970, 971, 14, 972, 58, 62, 63, 64, 973, 943, 944, 945, 50, 51, 52, 54, 946, 561, 562, 30, 563, 174, 175, 176, 177, 178, 179, 180, 181, 974, 975, 976, 57, 977, 69, 68, 461, 462, 463, 464, 978, 979, 980, 61, 981, 74, 78, 982, 341, 342, 343, 983, 1054, 1055, 1056, 1057, 1058, 1059, 1060, 1061, 1062, 1063, 1064, 1065, 1066, 1067, 1086, 1087, 1088, 1089, 1090, 1091, 1092, 1093, 1101, 1102, 1103, 1104, 1105, 1106, 1107, 1108, 1124, 1125, 1126, 1127, 1128, 1129, 1130] (by decide +kernel) (by decide +kernel)
set_option maxRecDepth 20000 in
theorem gL_law_X10_from : GoodIn wsL_law (wsV RL 152 RX10 yX10_from wsX10_from) := goodIn_app (goodIn_of _ (by decide +kernel)) ggL_law_X10_from
set_option maxRecDepth 20000 in
theorem ggL_law_X11_from : GoodIn wsL_law wsX11_from := goodIn_r _ [995, 114, 112, 113, 151, 152, 5, 153, 154, 155, 156, 157, 115, 509, 510, 511, 512, 1068, 1069, 1070, 1071, 1072, 1073, 1074, 1075, 1076, 1077, 1078, 1079, 1080, 1081, 1082, 1083, 1084, 1085] (by decide +kernel) (by decide +kernel)
set_option maxRecDepth 20000 in
theorem gL_law_X11_from : GoodIn wsL_law (wsV RL 155 RX11 yX11_from wsX11_from) := goodIn_app (goodIn_of _ (by decide +kernel)) ggL_law_X11_from
set_option maxRecDepth 20000 in
theorem ggL_law_X10_status : GoodIn wsL_law wsX10_status := goodIn_r _ [999, 25, 132, 133, 2, 134, 135, 136, 137, 138, 1054, 1055, 1056, 1057, 1058, 1059, 1060, 1061, 1062, 1063, 1064, 1065, 1066, 1067] (by decide +kernel) (by decide +kernel)
set_option maxRecDepth 20000 in
theorem gL_law_X10_status : GoodIn wsL_law (wsV RL 156 RX10 yX10_status wsX10_status) := goodIn_app (goodIn_of _ (by decide +kernel)) ggL_law_X10_status
set_option maxRecDepth 20000 in
theorem ggL_law_X11_status : GoodIn wsL_law wsX11_status := goodIn_r _ [1003, 721, 115, 151, 152, 5, 153, 154, 155, 156, 157, 1068, 1069, 1070, 1071, 1072, 1073, 1074, 1075, 1076, 1077, 1078, 1079, 1080, 1081, 1082, 1083, 1084, 1085] (by decide +kernel) (by decide +kernel)
set_option maxRecDepth 20000 in
theorem gL_law_X11_status : GoodIn wsL_law (wsV RL 159 RX11 yX11_status wsX11_status) := goodIn_app (goodIn_of _ (by decide +kernel)) ggL_law_X11_status
set_option maxRecDepth 20000 in
theorem ggL_law_X10_count : GoodIn wsL_law wsX10_count := goodIn_r _ [1007, 15, 131, 518, 452, 681, 682, 772, 781, 1008, 1009, 23, 471, 472, 473, 14, 474, 52, 54, 475, 346, 347, 30, 348, 181, 1010, 1011, 1012, 1013, 1014, 1015, 1016, 1017, 1018, 1019, 135, 136, 137, 2, 138, 25, 1054, 1055, 1056, 1057, 1058, 1059, 1060, 1061, 1062, 1063, 1064, 1065, 1066, 1067, 1086, 1087, 1088, 1089, 1090, 1091, 1092, 1093, 1126, 1127, 1128, 1129, 1130, 1124, 1125, 1094, 1095, 1096, 1097, 1098, 1099, 1100, 1101, 1102, 1103, 1104, 1105, 1106, 1107, 1108] (by decide +kernel) (by decide +kernel)
set_option maxRecDepth 20000 in
theorem gL_law_X10_count : GoodIn wsL_law (wsV RL 160 RX10 yX10_count wsX10_count) := goodIn_app (goodIn_of _ (by decide +kernel)) ggL_law_X10_count
set_option maxRecDepth 20000 in
theorem ggL_law_X11_count : GoodIn wsL_law wsX11_count := goodIn_r _ [1023, 149, 151, 152, 5, 153, 1024, 1025, 1026, 1027, 112, 214, 158, 159, 160, 161, 484, 485, 486, 420, 421, 422, 1028, 1029, 1030, 1031, 154, 155, 156, 157, 115, 1068, 1069, 1070, 1071, 1072, 1073, 1074, 1075, 1076, 1077, 1078, 1079, 1080, 1081, 1082, 1083, 1084, 1085] (by decide +kernel) (by decide +kernel)
set_option maxRecDepth 20000 in
theorem gL_law_X11_count : GoodIn wsL_law (wsV RL 163 RX11 yX11_count wsX11_count) := goodIn_app (goodIn_of _ (by decide +kernel)) ggL_law_X11_count
set_option maxRecDepth 20000 in
theorem ggL_law_X10_digest : GoodIn wsL_law wsX10_digest := goodIn_r _ [1035, 1036, 1037, 15, 131, 491, 452, 681, 772, 781, 26, 27, 1038, 1005, 1006, 2, 1007, 518, 682, 1008, 1009, 23, 471, 472, 473, 14, 474, 52, 54, 475, 346, 347, 30, 348, 181, 1010, 1011, 1012, 1013, 1014, 1015, 1016, 1017, 1018, 1019, 135, 136, 137, 138, 25, 544, 545, 546, 547, 174, 175, 176, 177, 178, 179, 180, 362, 363, 364, 365, 366, 367, 368, 369, 1039, 1040, 1041, 61, 1042, 74, 1043, 78, 76, 77, 1054, 1055, 1056, 1057, 1058, 1059, 1060, 1061, 1062, 1063, 1064, 1065, 1066, 1067, 1086, 1087, 1088, 1089, 1090, 1091, 1092, 1093, 1126, 1127, 1128, 1129, 1130, 1124, 1125, 1094, 1095, 1096, 1097, 1098, 1099, 1100, 1101, 1102, 1103, 1104, 1105, 1106, 1107, 1108] (by decide +kernel) (by decide +kernel)
set_option maxRecDepth 20000 in
theorem gL_law_X10_digest : GoodIn wsL_law (wsV RL 164 RX10 yX10_digest wsX10_digest) := goodIn_app (goodIn_of _ (by decide +kernel)) ggL_law_X10_digest
set_option maxRecDepth 20000 in
theorem ggL_law_X11_digest : GoodIn wsL_law wsX11_digest := goodIn_r _ [1047, 1048, 1049, 112, 929, 116, 1024, 1025, 1026, 5, 1027, 214, 158, 159, 160, 161, 484, 485, 486, 420, 421, 422, 1028, 1029, 1030, 1031, 552, 553, 554, 555, 436, 437, 438, 439, 440, 441, 442, 443, 444, 1050, 1051, 1052, 1053, 1068, 1069, 1070, 1071, 1072, 1073, 1074, 1075, 1076, 1077, 1078, 1079, 1080, 1081, 1082, 1083, 1084, 1085] (by decide +kernel) (by decide +kernel)
set_option maxRecDepth 20000 in
theorem gL_law_X11_digest : GoodIn wsL_law (wsV RL 168 RX11 yX11_digest wsX11_digest) := goodIn_app (goodIn_of _ (by decide +kernel)) ggL_law_X11_digest
