set_option maxRecDepth 20000 in
theorem ggX10_areTwo_X10_there : GoodIn wsX10_areTwo wsX10_there := goodIn_r _ [5, 6, 7, 8, 9, 10, 11, 12, 13, 14, 15, 16, 17, 18, 19, 20, 21, 22, 23, 24, 25, 26, 27, 28, 29] (by decide +kernel) (by decide +kernel)
set_option maxRecDepth 20000 in
theorem gX10_areTwo_X10_there : GoodIn wsX10_areTwo (wsV RX10 123 RX10 yX10_there wsX10_there) := goodIn_app (goodIn_of _ (by decide +kernel)) ggX10_areTwo_X10_there
set_option maxRecDepth 20000 in
theorem ggX10_ask_X10_refuse : GoodIn wsX10_ask wsX10_refuse := goodIn_r _ [12, 13, 76, 77, 78, 79, 80, 81, 82, 83, 84, 85, 86, 87, 88, 89] (by decide +kernel) (by decide +kernel)
set_option maxRecDepth 20000 in
theorem gX10_ask_X10_refuse : GoodIn wsX10_ask (wsV RX10 83 RX10 yX10_refuse wsX10_refuse) := goodIn_app (goodIn_of _ (by decide +kernel)) ggX10_ask_X10_refuse
set_option maxRecDepth 20000 in
theorem ggX10_ask_X10_there : GoodIn wsX10_ask wsX10_there := goodIn_r _ [7, 1, 8, 76, 77, 78, 79, 80, 81, 82, 83, 84, 85, 86, 87, 88, 89, 90, 91, 92, 93, 94, 95, 96, 97] (by decide +kernel) (by decide +kernel)
set_option maxRecDepth 20000 in
theorem gX10_ask_X10_there : GoodIn wsX10_ask (wsV RX10 123 RX10 yX10_there wsX10_there) := goodIn_app (goodIn_of _ (by decide +kernel)) ggX10_ask_X10_there
set_option maxRecDepth 20000 in
theorem ggX10_beats_X10_areTwo : GoodIn wsX10_beats wsX10_areTwo := goodIn_r _ [11, 12, 13, 14, 10, 15, 1, 16, 60, 61, 62, 63, 64, 65, 66, 67, 68, 69, 70, 71, 72, 73, 74, 75, 76, 77, 78, 79, 80, 81] (by decide +kernel) (by decide +kernel)
set_option maxRecDepth 20000 in
theorem gX10_beats_X10_areTwo : GoodIn wsX10_beats (wsV RX10 172 RX10 yX10_areTwo wsX10_areTwo) := goodIn_app (goodIn_of _ (by decide +kernel)) ggX10_beats_X10_areTwo
set_option maxRecDepth 20000 in
theorem ggX10_beats_X10_refuse : GoodIn wsX10_beats wsX10_refuse := goodIn_r _ [20, 21, 60, 61, 62, 63, 64, 65, 66, 67, 68, 69, 70, 71, 72, 73] (by decide +kernel) (by decide +kernel)
set_option maxRecDepth 20000 in
theorem gX10_beats_X10_refuse : GoodIn wsX10_beats (wsV RX10 83 RX10 yX10_refuse wsX10_refuse) := goodIn_app (goodIn_of _ (by decide +kernel)) ggX10_beats_X10_refuse
set_option maxRecDepth 20000 in
theorem ggX10_best_X10_refuse : GoodIn wsX10_best wsX10_refuse := goodIn_r _ [19, 20, 55, 56, 57, 58, 59, 60, 61, 62, 63, 64, 65, 66, 67, 68] (by decide +kernel) (by decide +kernel)
set_option maxRecDepth 20000 in
theorem gX10_best_X10_refuse : GoodIn wsX10_best (wsV RX10 83 RX10 yX10_refuse wsX10_refuse) := goodIn_app (goodIn_of _ (by decide +kernel)) ggX10_best_X10_refuse
set_option maxRecDepth 20000 in
theorem ggX10_best_X10_there : GoodIn wsX10_best wsX10_there := goodIn_r _ [11, 1, 12, 55, 56, 57, 58, 59, 60, 61, 62, 63, 64, 65, 66, 67, 68, 69, 70, 71, 72, 73, 74, 75, 76] (by decide +kernel) (by decide +kernel)
set_option maxRecDepth 20000 in
theorem gX10_best_X10_there : GoodIn wsX10_best (wsV RX10 123 RX10 yX10_there wsX10_there) := goodIn_app (goodIn_of _ (by decide +kernel)) ggX10_best_X10_there
set_option maxRecDepth 20000 in
theorem ggX10_close_X10_areTwo : GoodIn wsX10_close wsX10_areTwo := goodIn_r _ [16, 17, 18, 19, 15, 20, 2, 21, 59, 60, 61, 62, 63, 64, 65, 66, 67, 68, 69, 70, 71, 72, 73, 74, 75, 76, 77, 78, 79, 80] (by decide +kernel) (by decide +kernel)
set_option maxRecDepth 20000 in
theorem gX10_close_X10_areTwo : GoodIn wsX10_close (wsV RX10 172 RX10 yX10_areTwo wsX10_areTwo) := goodIn_app (goodIn_of _ (by decide +kernel)) ggX10_close_X10_areTwo
set_option maxRecDepth 20000 in
theorem ggX10_close_X10_refuse : GoodIn wsX10_close wsX10_refuse := goodIn_r _ [28, 29, 59, 60, 61, 62, 63, 64, 65, 66, 67, 68, 69, 70, 71, 72] (by decide +kernel) (by decide +kernel)
set_option maxRecDepth 20000 in
theorem gX10_close_X10_refuse : GoodIn wsX10_close (wsV RX10 83 RX10 yX10_refuse wsX10_refuse) := goodIn_app (goodIn_of _ (by decide +kernel)) ggX10_close_X10_refuse
set_option maxRecDepth 20000 in
theorem ggX10_count_X10_refuse : GoodIn wsX10_count wsX10_refuse := goodIn_r _ [39, 40, 41, 42, 43, 44, 45, 46, 47, 48, 49, 50, 51, 52, 53, 54] (by decide +kernel) (by decide +kernel)
set_option maxRecDepth 20000 in
theorem gX10_count_X10_refuse : GoodIn wsX10_count (wsV RX10 83 RX10 yX10_refuse wsX10_refuse) := goodIn_app (goodIn_of _ (by decide +kernel)) ggX10_count_X10_refuse
set_option maxRecDepth 20000 in
theorem ggX10_count_X5_dropsTogether : GoodIn wsX10_count wsX5_dropsTogether := goodIn_r _ [33, 17, 18, 34, 55, 56, 57, 58, 59, 60, 61, 62, 77, 78, 79, 80, 81, 82, 83, 84] (by decide +kernel) (by decide +kernel)
set_option maxRecDepth 20000 in
theorem gX10_count_X5_dropsTogether : GoodIn wsX10_count (wsV RX10 279 RX5 yX5_dropsTogether wsX5_dropsTogether) := goodIn_app (goodIn_of _ (by decide +kernel)) ggX10_count_X5_dropsTogether
set_option maxRecDepth 20000 in
theorem ggX10_count_X5_homes : GoodIn wsX10_count wsX5_homes := goodIn_r _ [16, 17, 18, 19, 20, 21, 22, 23, 24, 55, 56, 57, 58, 59, 60, 61, 62, 77, 78, 79, 80, 81, 82, 83, 84] (by decide +kernel) (by decide +kernel)
set_option maxRecDepth 20000 in
theorem gX10_count_X5_homes : GoodIn wsX10_count (wsV RX10 119 RX5 yX5_homes wsX5_homes) := goodIn_app (goodIn_of _ (by decide +kernel)) ggX10_count_X5_homes
set_option maxRecDepth 20000 in
theorem ggX10_count_X5_placesTogether : GoodIn wsX10_count wsX5_placesTogether := goodIn_r _ [28, 17, 18, 29, 55, 56, 57, 58, 59, 60, 61, 62, 77, 78, 79, 80, 81, 82, 83, 84] (by decide +kernel) (by decide +kernel)
set_option maxRecDepth 20000 in
theorem gX10_count_X5_placesTogether : GoodIn wsX10_count (wsV RX10 276 RX5 yX5_placesTogether wsX5_placesTogether) := goodIn_app (goodIn_of _ (by decide +kernel)) ggX10_count_X5_placesTogether
set_option maxRecDepth 20000 in
theorem ggX10_digest_X10_count : GoodIn wsX10_digest wsX10_count := goodIn_r _ [16, 3, 4, 17, 6, 7, 18, 8, 9, 19, 20, 21, 22, 23, 24, 25, 26, 27, 28, 29, 30, 31, 32, 33, 34, 35, 36, 37, 38, 39, 40, 41, 42, 43, 44, 45, 46, 47, 15, 48, 49, 79, 80, 81, 82, 83, 84, 85, 86, 87, 88, 89, 90, 91, 92, 93, 94, 95, 96, 97, 98, 99, 100, 101, 102, 103, 104, 105, 106, 107, 108, 109, 110, 111, 112, 113, 114, 115, 116, 117, 118, 119, 120, 121, 122] (by decide +kernel) (by decide +kernel)
set_option maxRecDepth 20000 in
theorem gX10_digest_X10_count : GoodIn wsX10_digest (wsV RX10 293 RX10 yX10_count wsX10_count) := goodIn_app (goodIn_of _ (by decide +kernel)) ggX10_digest_X10_count
set_option maxRecDepth 20000 in
theorem ggX10_digest_X7_mixInto : GoodIn wsX10_digest wsX7_mixInto := goodIn_r _ [73, 74, 75, 76, 77, 78, 101, 102, 103, 104, 105] (by decide +kernel) (by decide +kernel)
set_option maxRecDepth 20000 in
theorem gX10_digest_X7_mixInto : GoodIn wsX10_digest (wsV RX10 296 RX7 yX7_mixInto wsX7_mixInto) := goodIn_app (goodIn_of _ (by decide +kernel)) ggX10_digest_X7_mixInto
set_option maxRecDepth 20000 in
theorem ggX10_forget_X10_refuse : GoodIn wsX10_forget wsX10_refuse := goodIn_r _ [13, 14, 15, 16, 17, 18, 19, 20, 21, 22, 23, 24, 25, 26, 27, 28] (by decide +kernel) (by decide +kernel)
set_option maxRecDepth 20000 in
theorem gX10_forget_X10_refuse : GoodIn wsX10_forget (wsV RX10 83 RX10 yX10_refuse wsX10_refuse) := goodIn_app (goodIn_of _ (by decide +kernel)) ggX10_forget_X10_refuse
set_option maxRecDepth 20000 in
theorem ggX10_forget_X10_within : GoodIn wsX10_forget wsX10_within := goodIn_r _ [9] (by decide +kernel) (by decide +kernel)
set_option maxRecDepth 20000 in
theorem gX10_forget_X10_within : GoodIn wsX10_forget (va_wsS RX10 79 yX10_within wsX10_within) := goodIn_app (goodIn_of _ (by decide +kernel)) ggX10_forget_X10_within
set_option maxRecDepth 20000 in
theorem ggX10_from_X10_refuse : GoodIn wsX10_from wsX10_refuse := goodIn_r _ [11, 12, 66, 67, 68, 69, 70, 71, 72, 73, 74, 75, 76, 77, 78, 79] (by decide +kernel) (by decide +kernel)
set_option maxRecDepth 20000 in
theorem gX10_from_X10_refuse : GoodIn wsX10_from (wsV RX10 83 RX10 yX10_refuse wsX10_refuse) := goodIn_app (goodIn_of _ (by decide +kernel)) ggX10_from_X10_refuse
set_option maxRecDepth 20000 in
theorem ggX10_from_X10_within : GoodIn wsX10_from wsX10_within := goodIn_r _ [7] (by decide +kernel) (by decide +kernel)
set_option maxRecDepth 20000 in
theorem gX10_from_X10_within : GoodIn wsX10_from (va_wsS RX10 79 yX10_within wsX10_within) := goodIn_app (goodIn_of _ (by decide +kernel)) ggX10_from_X10_within
set_option maxRecDepth 20000 in
theorem ggX10_home_X10_refuse : GoodIn wsX10_home wsX10_refuse := goodIn_r _ [52, 53, 54, 55, 56, 57, 58, 59, 60, 61, 62, 63, 64, 65, 66, 67] (by decide +kernel) (by decide +kernel)
set_option maxRecDepth 20000 in
theorem gX10_home_X10_refuse : GoodIn wsX10_home (wsV RX10 83 RX10 yX10_refuse wsX10_refuse) := goodIn_app (goodIn_of _ (by decide +kernel)) ggX10_home_X10_refuse
set_option maxRecDepth 20000 in
theorem ggX10_home_X10_there : GoodIn wsX10_home wsX10_there := goodIn_r _ [5, 6, 7, 54, 55, 56, 57, 58, 59, 60, 61, 62, 63, 64, 65, 66, 67, 68, 69, 70, 71, 72, 73, 74, 75] (by decide +kernel) (by decide +kernel)
set_option maxRecDepth 20000 in
theorem gX10_home_X10_there : GoodIn wsX10_home (wsV RX10 123 RX10 yX10_there wsX10_there) := goodIn_app (goodIn_of _ (by decide +kernel)) ggX10_home_X10_there
set_option maxRecDepth 20000 in
theorem ggX10_image_X10_refuse : GoodIn wsX10_image wsX10_refuse := goodIn_r _ [11, 12, 66, 67, 68, 69, 70, 71, 72, 73, 74, 75, 76, 77, 78, 79] (by decide +kernel) (by decide +kernel)
set_option maxRecDepth 20000 in
theorem gX10_image_X10_refuse : GoodIn wsX10_image (wsV RX10 83 RX10 yX10_refuse wsX10_refuse) := goodIn_app (goodIn_of _ (by decide +kernel)) ggX10_image_X10_refuse
set_option maxRecDepth 20000 in
theorem ggX10_image_X10_within : GoodIn wsX10_image wsX10_within := goodIn_r _ [7] (by decide +kernel) (by decide +kernel)
set_option maxRecDepth 20000 in
theorem gX10_image_X10_within : GoodIn wsX10_image (va_wsS RX10 79 yX10_within wsX10_within) := goodIn_app (goodIn_of _ (by decide +kernel)) ggX10_image_X10_within
set_option maxRecDepth 20000 in
theorem ggX10_image_X5_copyFrom : GoodIn wsX10_image wsX5_copyFrom := goodIn_r _ [17, 18, 19, 20, 21, 22, 23, 24, 16, 25, 26, 27, 28, 29, 30, 31, 32, 33, 34, 35, 36, 37, 38, 39, 40, 41, 42, 43, 44, 45, 46, 47, 48, 49, 50, 51, 52, 53, 54, 55, 56, 57, 58, 59, 60, 61, 62, 63, 64, 65, 80, 81, 82, 83, 84, 85, 86, 87, 88, 89, 90, 91, 92, 93, 94, 95, 96, 97, 98, 99, 100, 101, 102] (by decide +kernel) (by decide +kernel)
set_option maxRecDepth 20000 in
theorem gX10_image_X5_copyFrom : GoodIn wsX10_image (wsV RX10 274 RX5 yX5_copyFrom wsX5_copyFrom) := goodIn_app (goodIn_of _ (by decide +kernel)) ggX10_image_X5_copyFrom
set_option maxRecDepth 20000 in
theorem ggX10_init_X0_init : GoodIn wsX10_init wsX0_init := goodIn_r _ [93, 94, 2, 3, 16, 95, 96, 97, 98, 99, 147, 148, 149, 150, 151] (by decide +kernel) (by decide +kernel)
set_option maxRecDepth 20000 in
theorem gX10_init_X0_init_n71 : GoodIn wsX10_init (wsX0_init) := ggX10_init_X0_init
set_option maxRecDepth 20000 in
theorem ggX10_init_X3_init : GoodIn wsX10_init wsX3_init := goodIn_r _ [90, 91, 2, 3] (by decide +kernel) (by decide +kernel)
set_option maxRecDepth 20000 in
theorem gX10_init_X3_init_n64 : GoodIn wsX10_init (wsX3_init) := ggX10_init_X3_init
set_option maxRecDepth 20000 in
theorem ggX10_init_X5_init : GoodIn wsX10_init wsX5_init := goodIn_r _ [40, 41, 2, 3, 42, 43, 44, 45, 46, 47, 48, 49, 50, 51, 52, 53, 54, 55, 56, 21, 22, 57, 58, 59, 16, 60, 61, 62, 63, 64, 65, 66, 67, 68, 69, 70, 71, 72, 73, 100, 101, 102, 103, 104, 105, 106, 107, 152, 153, 154, 155, 156, 157, 158, 129, 130, 131, 132, 133, 134, 135, 136] (by decide +kernel) (by decide +kernel)
set_option maxRecDepth 20000 in
theorem gX10_init_X5_init : GoodIn wsX10_init (wsX5_init) := ggX10_init_X5_init
set_option maxRecDepth 20000 in
theorem ggX10_init_X6_init : GoodIn wsX10_init wsX6_init := goodIn_r _ [75, 76, 2, 3, 16, 77, 78, 79, 80, 81, 82, 83, 122, 123, 124, 125, 126, 127, 128] (by decide +kernel) (by decide +kernel)
set_option maxRecDepth 20000 in
theorem gX10_init_X6_init_n29 : GoodIn wsX10_init (wsX6_init) := ggX10_init_X6_init
set_option maxRecDepth 20000 in
theorem ggX10_init_X8_init : GoodIn wsX10_init wsX8_init := goodIn_r _ [72, 73, 2, 3] (by decide +kernel) (by decide +kernel)
set_option maxRecDepth 20000 in
theorem gX10_init_X8_init_n47 : GoodIn wsX10_init (wsX8_init) := ggX10_init_X8_init
set_option maxRecDepth 20000 in
theorem ggX10_init_X9_init : GoodIn wsX10_init wsX9_init := goodIn_r _ [85, 86, 2, 3, 16, 87, 88, 137, 138] (by decide +kernel) (by decide +kernel)
set_option maxRecDepth 20000 in
theorem gX10_init_X9_init_n57 : GoodIn wsX10_init (wsX9_init) := ggX10_init_X9_init
set_option maxRecDepth 20000 in
theorem ggX10_is_X10_refuse : GoodIn wsX10_is wsX10_refuse := goodIn_r _ [29, 30, 31, 32, 33, 34, 35, 36, 37, 38, 39, 40, 41, 42, 43, 44] (by decide +kernel) (by decide +kernel)
set_option maxRecDepth 20000 in
theorem gX10_is_X10_refuse : GoodIn wsX10_is (wsV RX10 83 RX10 yX10_refuse wsX10_refuse) := goodIn_app (goodIn_of _ (by decide +kernel)) ggX10_is_X10_refuse
set_option maxRecDepth 20000 in
theorem ggX10_is_X10_there : GoodIn wsX10_is wsX10_there := goodIn_r _ [6, 1, 7, 31, 32, 33, 34, 35, 36, 37, 38, 39, 40, 41, 42, 43, 44, 45, 46, 47, 48, 49, 50, 51, 52] (by decide +kernel) (by decide +kernel)
set_option maxRecDepth 20000 in
theorem gX10_is_X10_there : GoodIn wsX10_is (wsV RX10 123 RX10 yX10_there wsX10_there) := goodIn_app (goodIn_of _ (by decide +kernel)) ggX10_is_X10_there
set_option maxRecDepth 20000 in
theorem ggX10_kinds_X10_refuse : GoodIn wsX10_kinds wsX10_refuse := goodIn_r _ [28, 29, 30, 31, 32, 33, 34, 35, 36, 37, 38, 39, 40, 41, 42, 43] (by decide +kernel) (by decide +kernel)
set_option maxRecDepth 20000 in
theorem gX10_kinds_X10_refuse : GoodIn wsX10_kinds (wsV RX10 83 RX10 yX10_refuse wsX10_refuse) := goodIn_app (goodIn_of _ (by decide +kernel)) ggX10_kinds_X10_refuse
set_option maxRecDepth 20000 in
theorem ggX10_kinds_X10_there : GoodIn wsX10_kinds wsX10_there := goodIn_r _ [6, 1, 7, 30, 31, 32, 33, 34, 35, 36, 37, 38, 39, 40, 41, 42, 43, 44, 45, 46, 47, 48, 49, 50, 51] (by decide +kernel) (by decide +kernel)
set_option maxRecDepth 20000 in
theorem gX10_kinds_X10_there : GoodIn wsX10_kinds (wsV RX10 123 RX10 yX10_there wsX10_there) := goodIn_app (goodIn_of _ (by decide +kernel)) ggX10_kinds_X10_there
set_option maxRecDepth 20000 in
theorem ggX10_look_X10_refuse : GoodIn wsX10_look wsX10_refuse := goodIn_r _ [12, 13, 77, 78, 79, 80, 81, 82, 83, 84, 85, 86, 87, 88, 89, 90] (by decide +kernel) (by decide +kernel)
set_option maxRecDepth 20000 in
theorem gX10_look_X10_refuse : GoodIn wsX10_look (wsV RX10 83 RX10 yX10_refuse wsX10_refuse) := goodIn_app (goodIn_of _ (by decide +kernel)) ggX10_look_X10_refuse
set_option maxRecDepth 20000 in
theorem ggX10_look_X10_there : GoodIn wsX10_look wsX10_there := goodIn_r _ [7, 1, 8, 77, 78, 79, 80, 81, 82, 83, 84, 85, 86, 87, 88, 89, 90, 91, 92, 93, 94, 95, 96, 97, 98] (by decide +kernel) (by decide +kernel)
set_option maxRecDepth 20000 in
theorem gX10_look_X10_there : GoodIn wsX10_look (wsV RX10 123 RX10 yX10_there wsX10_there) := goodIn_app (goodIn_of _ (by decide +kernel)) ggX10_look_X10_there
set_option maxRecDepth 20000 in
theorem ggX10_mark_X10_refuse : GoodIn wsX10_mark wsX10_refuse := goodIn_r _ [16, 17, 26, 27, 28, 29, 30, 31, 32, 33, 34, 35, 36, 37, 38, 39] (by decide +kernel) (by decide +kernel)
set_option maxRecDepth 20000 in
theorem gX10_mark_X10_refuse : GoodIn wsX10_mark (wsV RX10 83 RX10 yX10_refuse wsX10_refuse) := goodIn_app (goodIn_of _ (by decide +kernel)) ggX10_mark_X10_refuse
set_option maxRecDepth 20000 in
theorem ggX10_mark_X10_there : GoodIn wsX10_mark wsX10_there := goodIn_r _ [8, 1, 9, 26, 27, 28, 29, 30, 31, 32, 33, 34, 35, 36, 37, 38, 39, 40, 41, 42, 43, 44, 45, 46, 47] (by decide +kernel) (by decide +kernel)
set_option maxRecDepth 20000 in
theorem gX10_mark_X10_there : GoodIn wsX10_mark (wsV RX10 123 RX10 yX10_there wsX10_there) := goodIn_app (goodIn_of _ (by decide +kernel)) ggX10_mark_X10_there
set_option maxRecDepth 20000 in
theorem ggX10_note_X10_refuse : GoodIn wsX10_note wsX10_refuse := goodIn_r _ [16, 17, 26, 27, 28, 29, 30, 31, 32, 33, 34, 35, 36, 37, 38, 39] (by decide +kernel) (by decide +kernel)
set_option maxRecDepth 20000 in
theorem gX10_note_X10_refuse : GoodIn wsX10_note (wsV RX10 83 RX10 yX10_refuse wsX10_refuse) := goodIn_app (goodIn_of _ (by decide +kernel)) ggX10_note_X10_refuse
set_option maxRecDepth 20000 in
theorem ggX10_note_X10_there : GoodIn wsX10_note wsX10_there := goodIn_r _ [8, 1, 9, 26, 27, 28, 29, 30, 31, 32, 33, 34, 35, 36, 37, 38, 39, 40, 41, 42, 43, 44, 45, 46, 47] (by decide +kernel) (by decide +kernel)
set_option maxRecDepth 20000 in
theorem gX10_note_X10_there : GoodIn wsX10_note (wsV RX10 123 RX10 yX10_there wsX10_there) := goodIn_app (goodIn_of _ (by decide +kernel)) ggX10_note_X10_there
set_option maxRecDepth 20000 in
theorem ggX10_of_X10_refuse : GoodIn wsX10_of wsX10_refuse := goodIn_r _ [16, 17, 39, 40, 41, 42, 43, 44, 45, 46, 47, 48, 49, 50, 51, 52] (by decide +kernel) (by decide +kernel)
set_option maxRecDepth 20000 in
theorem gX10_of_X10_refuse : GoodIn wsX10_of (wsV RX10 83 RX10 yX10_refuse wsX10_refuse) := goodIn_app (goodIn_of _ (by decide +kernel)) ggX10_of_X10_refuse
set_option maxRecDepth 20000 in
theorem ggX10_of_X10_there : GoodIn wsX10_of wsX10_there := goodIn_r _ [8, 1, 9, 39, 40, 41, 42, 43, 44, 45, 46, 47, 48, 49, 50, 51, 52, 53, 54, 55, 56, 57, 58, 59, 60] (by decide +kernel) (by decide +kernel)
set_option maxRecDepth 20000 in
theorem gX10_of_X10_there : GoodIn wsX10_of (wsV RX10 123 RX10 yX10_there wsX10_there) := goodIn_app (goodIn_of _ (by decide +kernel)) ggX10_of_X10_there
set_option maxRecDepth 20000 in
theorem ggX10_one_X10_refuse : GoodIn wsX10_one wsX10_refuse := goodIn_r _ [10, 11, 34, 35, 36, 37, 38, 39, 40, 41, 42, 43, 44, 45, 46, 47] (by decide +kernel) (by decide +kernel)
set_option maxRecDepth 20000 in
theorem gX10_one_X10_refuse : GoodIn wsX10_one (wsV RX10 83 RX10 yX10_refuse wsX10_refuse) := goodIn_app (goodIn_of _ (by decide +kernel)) ggX10_one_X10_refuse
set_option maxRecDepth 20000 in
theorem ggX10_one_X10_within : GoodIn wsX10_one wsX10_within := goodIn_r _ [6] (by decide +kernel) (by decide +kernel)
set_option maxRecDepth 20000 in
theorem gX10_one_X10_within : GoodIn wsX10_one (va_wsS RX10 79 yX10_within wsX10_within) := goodIn_app (goodIn_of _ (by decide +kernel)) ggX10_one_X10_within
set_option maxRecDepth 20000 in
theorem ggX10_one_X5_welcome : GoodIn wsX10_one wsX5_welcome := goodIn_r _ [16, 17, 18, 19, 20, 21, 22, 23, 24, 25, 26, 27, 28, 29, 30, 31, 32, 33, 48, 49, 50, 51, 52, 53, 54, 55, 56, 57, 58, 59, 60, 61, 62, 63, 64, 65] (by decide +kernel) (by decide +kernel)
set_option maxRecDepth 20000 in
theorem gX10_one_X5_welcome : GoodIn wsX10_one (wsV RX10 95 RX5 yX5_welcome wsX5_welcome) := goodIn_app (goodIn_of _ (by decide +kernel)) ggX10_one_X5_welcome
set_option maxRecDepth 20000 in
theorem ggX10_order_X10_refuse : GoodIn wsX10_order wsX10_refuse := goodIn_r _ [7, 8, 61, 62, 63, 64, 65, 66, 67, 68, 69, 70, 71, 72, 73, 74] (by decide +kernel) (by decide +kernel)
set_option maxRecDepth 20000 in
theorem gX10_order_X10_refuse : GoodIn wsX10_order (wsV RX10 83 RX10 yX10_refuse wsX10_refuse) := goodIn_app (goodIn_of _ (by decide +kernel)) ggX10_order_X10_refuse
set_option maxRecDepth 20000 in
theorem ggX10_pair_X10_areTwo : GoodIn wsX10_pair wsX10_areTwo := goodIn_r _ [9, 10, 11, 12, 8, 13, 2, 14, 89, 90, 91, 92, 93, 94, 95, 96, 97, 98, 99, 100, 101, 102, 103, 104, 105, 106, 107, 108, 109, 110] (by decide +kernel) (by decide +kernel)
set_option maxRecDepth 20000 in
theorem gX10_pair_X10_areTwo : GoodIn wsX10_pair (wsV RX10 172 RX10 yX10_areTwo wsX10_areTwo) := goodIn_app (goodIn_of _ (by decide +kernel)) ggX10_pair_X10_areTwo
set_option maxRecDepth 20000 in
theorem ggX10_pair_X10_refuse : GoodIn wsX10_pair wsX10_refuse := goodIn_r _ [18, 19, 89, 90, 91, 92, 93, 94, 95, 96, 97, 98, 99, 100, 101, 102] (by decide +kernel) (by decide +kernel)
set_option maxRecDepth 20000 in
theorem gX10_pair_X10_refuse : GoodIn wsX10_pair (wsV RX10 83 RX10 yX10_refuse wsX10_refuse) := goodIn_app (goodIn_of _ (by decide +kernel)) ggX10_pair_X10_refuse
set_option maxRecDepth 20000 in
theorem ggX10_part_X10_refuse : GoodIn wsX10_part wsX10_refuse := goodIn_r _ [10, 11, 12, 13, 14, 15, 16, 17, 18, 19, 20, 21, 22, 23, 24, 25] (by decide +kernel) (by decide +kernel)
set_option maxRecDepth 20000 in
theorem gX10_part_X10_refuse : GoodIn wsX10_part (wsV RX10 83 RX10 yX10_refuse wsX10_refuse) := goodIn_app (goodIn_of _ (by decide +kernel)) ggX10_part_X10_refuse
set_option maxRecDepth 20000 in
theorem ggX10_part_X10_within : GoodIn wsX10_part wsX10_within := goodIn_r _ [6] (by decide +kernel) (by decide +kernel)
set_option maxRecDepth 20000 in
theorem gX10_part_X10_within : GoodIn wsX10_part (va_wsS RX10 79 yX10_within wsX10_within) := goodIn_app (goodIn_of _ (by decide +kernel)) ggX10_part_X10_within
set_option maxRecDepth 20000 in
theorem ggX10_race_X10_refuse : GoodIn wsX10_race wsX10_refuse := goodIn_r _ [10, 11, 26, 27, 28, 29, 30, 31, 32, 33, 34, 35, 36, 37, 38, 39] (by decide +kernel) (by decide +kernel)
set_option maxRecDepth 20000 in
theorem gX10_race_X10_refuse : GoodIn wsX10_race (wsV RX10 83 RX10 yX10_refuse wsX10_refuse) := goodIn_app (goodIn_of _ (by decide +kernel)) ggX10_race_X10_refuse
set_option maxRecDepth 20000 in
theorem ggX10_race_X10_within : GoodIn wsX10_race wsX10_within := goodIn_r _ [6] (by decide +kernel) (by decide +kernel)
set_option maxRecDepth 20000 in
theorem gX10_race_X10_within : GoodIn wsX10_race (va_wsS RX10 79 yX10_within wsX10_within) := goodIn_app (goodIn_of _ (by decide +kernel)) ggX10_race_X10_within
set_option maxRecDepth 20000 in
theorem ggX10_race_X5_restart : GoodIn wsX10_race wsX5_restart := goodIn_r _ [16, 17, 18, 19, 20, 21, 22, 23, 24, 25, 40, 41, 42, 43, 44, 45, 46, 47, 48, 49, 50, 51, 52, 53, 54] (by decide +kernel) (by decide +kernel)
set_option maxRecDepth 20000 in
theorem gX10_race_X5_restart : GoodIn wsX10_race (wsV RX10 91 RX5 yX5_restart wsX5_restart) := goodIn_app (goodIn_of _ (by decide +kernel)) ggX10_race_X5_restart
set_option maxRecDepth 20000 in
theorem ggX10_races_X10_refuse : GoodIn wsX10_races wsX10_refuse := goodIn_r _ [21, 22, 70, 71, 72, 73, 74, 75, 76, 77, 78, 79, 80, 81, 82, 83] (by decide +kernel) (by decide +kernel)
set_option maxRecDepth 20000 in
theorem gX10_races_X10_refuse : GoodIn wsX10_races (wsV RX10 83 RX10 yX10_refuse wsX10_refuse) := goodIn_app (goodIn_of _ (by decide +kernel)) ggX10_races_X10_refuse
set_option maxRecDepth 20000 in
theorem ggX10_races_X10_within : GoodIn wsX10_races wsX10_within := goodIn_r _ [17] (by decide +kernel) (by decide +kernel)
set_option maxRecDepth 20000 in
theorem gX10_races_X10_within : GoodIn wsX10_races (va_wsS RX10 79 yX10_within wsX10_within) := goodIn_app (goodIn_of _ (by decide +kernel)) ggX10_races_X10_within
set_option maxRecDepth 20000 in
theorem ggX10_races_X5_copyLine : GoodIn wsX10_races wsX5_copyLine := goodIn_r _ [27, 28, 29, 30, 31, 32, 33, 34, 35, 36, 37, 38, 39, 40, 41, 42, 43, 44, 84, 85, 86, 87, 88, 89, 90, 91, 92, 93, 94, 95, 96, 97, 98, 99] (by decide +kernel) (by decide +kernel)
set_option maxRecDepth 20000 in
theorem gX10_races_X5_copyLine : GoodIn wsX10_races (wsV RX10 256 RX5 yX5_copyLine wsX5_copyLine) := goodIn_app (goodIn_of _ (by decide +kernel)) ggX10_races_X5_copyLine
set_option maxRecDepth 20000 in
theorem ggX10_races_X5_goOn : GoodIn wsX10_races wsX5_goOn := goodIn_r _ [48, 29, 30, 31, 28, 49, 50, 51, 35, 52, 43, 37, 38, 40, 39, 42, 41, 44, 53, 54, 55, 56, 57, 58, 59, 60, 61, 62, 63, 64, 84, 85, 86, 87, 88, 89, 90, 91, 92, 93, 94, 95, 96, 97, 98, 99] (by decide +kernel) (by decide +kernel)
set_option maxRecDepth 20000 in
theorem gX10_races_X5_goOn : GoodIn wsX10_races (wsV RX10 116 RX5 yX5_goOn wsX5_goOn) := goodIn_app (goodIn_of _ (by decide +kernel)) ggX10_races_X5_goOn
set_option maxRecDepth 20000 in
theorem ggX10_races_X5_homes : GoodIn wsX10_races wsX5_homes := goodIn_r _ [68, 30, 31, 69, 54, 55, 35, 56, 44, 84, 85, 86, 87, 88, 89, 90, 91, 92, 93, 94, 95, 96, 97, 98, 99] (by decide +kernel) (by decide +kernel)
set_option maxRecDepth 20000 in
theorem gX10_races_X5_homes : GoodIn wsX10_races (wsV RX10 119 RX5 yX5_homes wsX5_homes) := goodIn_app (goodIn_of _ (by decide +kernel)) ggX10_races_X5_homes
set_option maxRecDepth 20000 in
theorem ggX10_read_X6_takeRace : GoodIn wsX10_read wsX6_takeRace := goodIn_r _ [8, 9, 10, 11, 12, 13, 14, 7, 15, 16, 17, 18, 19, 20, 21, 22, 23, 24, 25, 26, 27, 28, 29, 30, 31, 32, 33, 34, 35, 36, 37, 38, 39, 40, 41, 42, 43, 44, 45, 46, 47, 48, 49, 50, 51, 52, 53, 54, 55, 56, 57, 58, 59, 60, 61, 62, 63, 64, 65, 66, 67, 68, 69, 70, 71, 72, 73, 74, 75, 76, 77, 78, 79, 80, 81, 82, 83, 84, 85, 86, 87, 88, 89, 90, 91, 92, 93, 94, 95, 96, 97, 98, 99, 100, 101, 102, 103, 104, 105, 106, 107, 108, 109, 110, 111, 112, 113, 114, 115, 116, 117, 118, 119, 120, 121, 122, 123, 124, 125, 126, 127, 128, 129, 130, 131, 132, 133, 134, 135, 136, 137, 138, 139, 140, 141, 142, 143, 144, 145, 146, 147, 148, 149, 150, 151, 152, 153, 154, 155, 156, 157, 158, 159, 160, 161, 162, 163, 164, 165, 166, 167, 168, 169, 170, 171, 172, 173, 174, 175, 176, 177, 178, 179, 180, 181, 182, 183, 184, 199, 200, 201, 202, 203, 204, 205, 206, 207, 208, 209, 210, 211, 212, 213, 214, 215, 216, 217, 218, 219, 220, 221, 222, 223, 224, 225, 226, 227, 228] (by decide +kernel) (by decide +kernel)
set_option maxRecDepth 20000 in
theorem gX10_read_X6_takeRace : GoodIn wsX10_read (wsV RX10 106 RX6 yX6_takeRace wsX6_takeRace) := goodIn_app (goodIn_of _ (by decide +kernel)) ggX10_read_X6_takeRace
set_option maxRecDepth 20000 in
theorem ggX10_seen_X10_refuse : GoodIn wsX10_seen wsX10_refuse := goodIn_r _ [16, 17, 26, 27, 28, 29, 30, 31, 32, 33, 34, 35, 36, 37, 38, 39] (by decide +kernel) (by decide +kernel)
set_option maxRecDepth 20000 in
theorem gX10_seen_X10_refuse : GoodIn wsX10_seen (wsV RX10 83 RX10 yX10_refuse wsX10_refuse) := goodIn_app (goodIn_of _ (by decide +kernel)) ggX10_seen_X10_refuse
set_option maxRecDepth 20000 in
theorem ggX10_seen_X10_there : GoodIn wsX10_seen wsX10_there := goodIn_r _ [8, 1, 9, 26, 27, 28, 29, 30, 31, 32, 33, 34, 35, 36, 37, 38, 39, 40, 41, 42, 43, 44, 45, 46, 47] (by decide +kernel) (by decide +kernel)
set_option maxRecDepth 20000 in
theorem gX10_seen_X10_there : GoodIn wsX10_seen (wsV RX10 123 RX10 yX10_there wsX10_there) := goodIn_app (goodIn_of _ (by decide +kernel)) ggX10_seen_X10_there
set_option maxRecDepth 20000 in
theorem ggX10_speed_X10_refuse : GoodIn wsX10_speed wsX10_refuse := goodIn_r _ [16, 17, 48, 49, 50, 51, 52, 53, 54, 55, 56, 57, 58, 59, 60, 61] (by decide +kernel) (by decide +kernel)
set_option maxRecDepth 20000 in
theorem gX10_speed_X10_refuse : GoodIn wsX10_speed (wsV RX10 83 RX10 yX10_refuse wsX10_refuse) := goodIn_app (goodIn_of _ (by decide +kernel)) ggX10_speed_X10_refuse
set_option maxRecDepth 20000 in
theorem ggX10_speed_X10_there : GoodIn wsX10_speed wsX10_there := goodIn_r _ [8, 1, 9, 48, 49, 50, 51, 52, 53, 54, 55, 56, 57, 58, 59, 60, 61, 62, 63, 64, 65, 66, 67, 68, 69] (by decide +kernel) (by decide +kernel)
set_option maxRecDepth 20000 in
theorem gX10_speed_X10_there : GoodIn wsX10_speed (wsV RX10 123 RX10 yX10_there wsX10_there) := goodIn_app (goodIn_of _ (by decide +kernel)) ggX10_speed_X10_there
set_option maxRecDepth 20000 in
theorem ggX10_start_X10_refuse : GoodIn wsX10_start wsX10_refuse := goodIn_r _ [17, 18, 49, 50, 51, 52, 53, 54, 55, 56, 57, 58, 59, 60, 61, 62] (by decide +kernel) (by decide +kernel)
set_option maxRecDepth 20000 in
theorem gX10_start_X10_refuse : GoodIn wsX10_start (wsV RX10 83 RX10 yX10_refuse wsX10_refuse) := goodIn_app (goodIn_of _ (by decide +kernel)) ggX10_start_X10_refuse
set_option maxRecDepth 20000 in
theorem ggX10_start_X10_there : GoodIn wsX10_start wsX10_there := goodIn_r _ [9, 1, 10, 49, 50, 51, 52, 53, 54, 55, 56, 57, 58, 59, 60, 61, 62, 63, 64, 65, 66, 67, 68, 69, 70] (by decide +kernel) (by decide +kernel)
set_option maxRecDepth 20000 in
theorem gX10_start_X10_there : GoodIn wsX10_start (wsV RX10 123 RX10 yX10_there wsX10_there) := goodIn_app (goodIn_of _ (by decide +kernel)) ggX10_start_X10_there
set_option maxRecDepth 20000 in
theorem ggX10_status_X10_refuse : GoodIn wsX10_status wsX10_refuse := goodIn_r _ [9, 1, 10, 11, 12, 13, 14, 15, 16, 17, 18, 19, 20, 21, 22, 23] (by decide +kernel) (by decide +kernel)
set_option maxRecDepth 20000 in
theorem gX10_status_X10_refuse : GoodIn wsX10_status (wsV RX10 83 RX10 yX10_refuse wsX10_refuse) := goodIn_app (goodIn_of _ (by decide +kernel)) ggX10_status_X10_refuse
set_option maxRecDepth 20000 in
theorem ggX10_status_X10_within : GoodIn wsX10_status wsX10_within := goodIn_r _ [5] (by decide +kernel) (by decide +kernel)
set_option maxRecDepth 20000 in
theorem gX10_status_X10_within : GoodIn wsX10_status (va_wsS RX10 79 yX10_within wsX10_within) := goodIn_app (goodIn_of _ (by decide +kernel)) ggX10_status_X10_within
set_option maxRecDepth 20000 in
theorem ggX10_strong_X10_refuse : GoodIn wsX10_strong wsX10_refuse := goodIn_r _ [14, 15, 46, 47, 48, 49, 50, 51, 52, 53, 54, 55, 56, 57, 58, 59] (by decide +kernel) (by decide +kernel)
set_option maxRecDepth 20000 in
theorem gX10_strong_X10_refuse : GoodIn wsX10_strong (wsV RX10 83 RX10 yX10_refuse wsX10_refuse) := goodIn_app (goodIn_of _ (by decide +kernel)) ggX10_strong_X10_refuse
set_option maxRecDepth 20000 in
theorem ggX10_strong_X10_there : GoodIn wsX10_strong wsX10_there := goodIn_r _ [6, 1, 7, 46, 47, 48, 49, 50, 51, 52, 53, 54, 55, 56, 57, 58, 59, 60, 61, 62, 63, 64, 65, 66, 67] (by decide +kernel) (by decide +kernel)
set_option maxRecDepth 20000 in
theorem gX10_strong_X10_there : GoodIn wsX10_strong (wsV RX10 123 RX10 yX10_there wsX10_there) := goodIn_app (goodIn_of _ (by decide +kernel)) ggX10_strong_X10_there
set_option maxRecDepth 20000 in
theorem ggX10_stumble_X10_refuse : GoodIn wsX10_stumble wsX10_refuse := goodIn_r _ [22, 23, 60, 61, 62, 63, 64, 65, 66, 67, 68, 69, 70, 71, 72, 73] (by decide +kernel) (by decide +kernel)
set_option maxRecDepth 20000 in
theorem gX10_stumble_X10_refuse : GoodIn wsX10_stumble (wsV RX10 83 RX10 yX10_refuse wsX10_refuse) := goodIn_app (goodIn_of _ (by decide +kernel)) ggX10_stumble_X10_refuse
set_option maxRecDepth 20000 in
theorem ggX10_stumble_X10_there : GoodIn wsX10_stumble wsX10_there := goodIn_r _ [14, 1, 15, 60, 61, 62, 63, 64, 65, 66, 67, 68, 69, 70, 71, 72, 73, 74, 75, 76, 77, 78, 79, 80, 81] (by decide +kernel) (by decide +kernel)
set_option maxRecDepth 20000 in
theorem gX10_stumble_X10_there : GoodIn wsX10_stumble (wsV RX10 123 RX10 yX10_there wsX10_there) := goodIn_app (goodIn_of _ (by decide +kernel)) ggX10_stumble_X10_there
set_option maxRecDepth 20000 in
theorem ggX10_tell_X10_refuse : GoodIn wsX10_tell wsX10_refuse := goodIn_r _ [12, 13, 79, 80, 81, 82, 83, 84, 85, 86, 87, 88, 89, 90, 91, 92] (by decide +kernel) (by decide +kernel)
set_option maxRecDepth 20000 in
theorem gX10_tell_X10_refuse : GoodIn wsX10_tell (wsV RX10 83 RX10 yX10_refuse wsX10_refuse) := goodIn_app (goodIn_of _ (by decide +kernel)) ggX10_tell_X10_refuse
set_option maxRecDepth 20000 in
theorem ggX10_tell_X10_there : GoodIn wsX10_tell wsX10_there := goodIn_r _ [7, 1, 8, 79, 80, 81, 82, 83, 84, 85, 86, 87, 88, 89, 90, 91, 92, 93, 94, 95, 96, 97, 98, 99, 100] (by decide +kernel) (by decide +kernel)
set_option maxRecDepth 20000 in
theorem gX10_tell_X10_there : GoodIn wsX10_tell (wsV RX10 123 RX10 yX10_there wsX10_there) := goodIn_app (goodIn_of _ (by decide +kernel)) ggX10_tell_X10_there
set_option maxRecDepth 20000 in
theorem ggX10_ticks_X10_refuse : GoodIn wsX10_ticks wsX10_refuse := goodIn_r _ [10, 11, 72, 73, 74, 75, 76, 77, 78, 79, 80, 81, 82, 83, 84, 85] (by decide +kernel) (by decide +kernel)
set_option maxRecDepth 20000 in
theorem gX10_ticks_X10_refuse : GoodIn wsX10_ticks (wsV RX10 83 RX10 yX10_refuse wsX10_refuse) := goodIn_app (goodIn_of _ (by decide +kernel)) ggX10_ticks_X10_refuse
set_option maxRecDepth 20000 in
theorem ggX10_ticks_X10_within : GoodIn wsX10_ticks wsX10_within := goodIn_r _ [6] (by decide +kernel) (by decide +kernel)
set_option maxRecDepth 20000 in
theorem gX10_ticks_X10_within : GoodIn wsX10_ticks (va_wsS RX10 79 yX10_within wsX10_within) := goodIn_app (goodIn_of _ (by decide +kernel)) ggX10_ticks_X10_within
set_option maxRecDepth 20000 in
theorem ggX10_ticks_X5_goOn : GoodIn wsX10_ticks wsX5_goOn := goodIn_r _ [39, 18, 40, 19, 41, 42, 43, 44, 45, 46, 47, 48, 49, 50, 51, 52, 53, 54, 55, 56, 57, 58, 59, 60, 61, 62, 63, 64, 65, 66, 86, 87, 88, 89, 90, 91, 92, 93, 96, 97, 98, 99, 100, 101, 102, 103] (by decide +kernel) (by decide +kernel)
set_option maxRecDepth 20000 in
theorem gX10_ticks_X5_goOn : GoodIn wsX10_ticks (wsV RX10 116 RX5 yX5_goOn wsX5_goOn) := goodIn_app (goodIn_of _ (by decide +kernel)) ggX10_ticks_X5_goOn
set_option maxRecDepth 20000 in
theorem ggX10_ticks_X5_homes : GoodIn wsX10_ticks wsX5_homes := goodIn_r _ [70, 40, 19, 71, 56, 57, 45, 58, 54, 86, 87, 88, 89, 90, 91, 92, 93, 96, 97, 98, 99, 100, 101, 102, 103] (by decide +kernel) (by decide +kernel)
set_option maxRecDepth 20000 in
theorem gX10_ticks_X5_homes : GoodIn wsX10_ticks (wsV RX10 119 RX5 yX5_homes wsX5_homes) := goodIn_app (goodIn_of _ (by decide +kernel)) ggX10_ticks_X5_homes
set_option maxRecDepth 20000 in
theorem ggX10_ticks_X5_keep : GoodIn wsX10_ticks wsX5_keep := goodIn_r _ [16, 17, 18, 19, 20, 21, 22, 23, 24, 25, 26, 27, 28, 29, 30, 31, 32, 33, 34, 35, 86, 87, 88, 89, 90, 91, 92, 93, 94, 95, 96, 97, 98, 99, 100, 101, 102, 103] (by decide +kernel) (by decide +kernel)
set_option maxRecDepth 20000 in
theorem gX10_ticks_X5_keep : GoodIn wsX10_ticks (wsV RX10 113 RX5 yX5_keep wsX5_keep) := goodIn_app (goodIn_of _ (by decide +kernel)) ggX10_ticks_X5_keep
set_option maxRecDepth 20000 in
theorem ggX10_turn_X10_refuse : GoodIn wsX10_turn wsX10_refuse := goodIn_r _ [15, 16, 67, 68, 69, 70, 71, 72, 73, 74, 75, 76, 77, 78, 79, 80] (by decide +kernel) (by decide +kernel)
set_option maxRecDepth 20000 in
theorem gX10_turn_X10_refuse : GoodIn wsX10_turn (wsV RX10 83 RX10 yX10_refuse wsX10_refuse) := goodIn_app (goodIn_of _ (by decide +kernel)) ggX10_turn_X10_refuse
set_option maxRecDepth 20000 in
theorem ggX10_turn_X10_there : GoodIn wsX10_turn wsX10_there := goodIn_r _ [7, 1, 8, 67, 68, 69, 70, 71, 72, 73, 74, 75, 76, 77, 78, 79, 80, 81, 82, 83, 84, 85, 86, 87, 88] (by decide +kernel) (by decide +kernel)
set_option maxRecDepth 20000 in
theorem gX10_turn_X10_there : GoodIn wsX10_turn (wsV RX10 123 RX10 yX10_there wsX10_there) := goodIn_app (goodIn_of _ (by decide +kernel)) ggX10_turn_X10_there
set_option maxRecDepth 20000 in
theorem ggX10_type_X10_refuse : GoodIn wsX10_type wsX10_refuse := goodIn_r _ [9, 10, 18, 19, 20, 21, 22, 23, 24, 25, 26, 27, 28, 29, 30, 31] (by decide +kernel) (by decide +kernel)
set_option maxRecDepth 20000 in
theorem gX10_type_X10_refuse : GoodIn wsX10_type (wsV RX10 83 RX10 yX10_refuse wsX10_refuse) := goodIn_app (goodIn_of _ (by decide +kernel)) ggX10_type_X10_refuse
set_option maxRecDepth 20000 in
theorem ggX10_type_X10_within : GoodIn wsX10_type wsX10_within := goodIn_r _ [5] (by decide +kernel) (by decide +kernel)
set_option maxRecDepth 20000 in
theorem gX10_type_X10_within : GoodIn wsX10_type (va_wsS RX10 79 yX10_within wsX10_within) := goodIn_app (goodIn_of _ (by decide +kernel)) ggX10_type_X10_within
set_option maxRecDepth 20000 in
theorem ggX10_type_X6_append : GoodIn wsX10_type wsX6_append := goodIn_r _ [15, 16, 17, 32, 33, 34, 35, 36, 37, 38] (by decide +kernel) (by decide +kernel)
set_option maxRecDepth 20000 in
theorem gX10_type_X6_append : GoodIn wsX10_type (wsV RX10 99 RX6 yX6_append wsX6_append) := goodIn_app (goodIn_of _ (by decide +kernel)) ggX10_type_X6_append
set_option maxRecDepth 20000 in
theorem ggX10_undo_X10_refuse : GoodIn wsX10_undo wsX10_refuse := goodIn_r _ [27, 28, 29, 30, 31, 32, 33, 34, 35, 36, 37, 38, 39, 40, 41, 42] (by decide +kernel) (by decide +kernel)
set_option maxRecDepth 20000 in
theorem gX10_undo_X10_refuse : GoodIn wsX10_undo (wsV RX10 83 RX10 yX10_refuse wsX10_refuse) := goodIn_app (goodIn_of _ (by decide +kernel)) ggX10_undo_X10_refuse
set_option maxRecDepth 20000 in
theorem ggX10_undo_X5_takeBack : GoodIn wsX10_undo wsX5_takeBack := goodIn_r _ [7, 8, 9, 10, 11, 12, 13, 14, 15, 16, 17, 18, 19, 20, 21, 22, 43, 44, 45, 46, 47, 48, 49, 50, 51, 52, 53, 54, 55, 56, 57, 58, 59, 60] (by decide +kernel) (by decide +kernel)
set_option maxRecDepth 20000 in
theorem gX10_undo_X5_takeBack : GoodIn wsX10_undo (wsV RX10 141 RX5 yX5_takeBack wsX5_takeBack) := goodIn_app (goodIn_of _ (by decide +kernel)) ggX10_undo_X5_takeBack
set_option maxRecDepth 20000 in
theorem ggX10_where_X10_refuse : GoodIn wsX10_where wsX10_refuse := goodIn_r _ [18, 19, 53, 54, 55, 56, 57, 58, 59, 60, 61, 62, 63, 64, 65, 66] (by decide +kernel) (by decide +kernel)
set_option maxRecDepth 20000 in
theorem gX10_where_X10_refuse : GoodIn wsX10_where (wsV RX10 83 RX10 yX10_refuse wsX10_refuse) := goodIn_app (goodIn_of _ (by decide +kernel)) ggX10_where_X10_refuse
set_option maxRecDepth 20000 in
theorem ggX10_where_X10_there : GoodIn wsX10_where wsX10_there := goodIn_r _ [10, 2, 11, 53, 54, 55, 56, 57, 58, 59, 60, 61, 62, 63, 64, 65, 66, 67, 68, 69, 70, 71, 72, 73, 74] (by decide +kernel) (by decide +kernel)
set_option maxRecDepth 20000 in
theorem gX10_where_X10_there : GoodIn wsX10_where (wsV RX10 123 RX10 yX10_there wsX10_there) := goodIn_app (goodIn_of _ (by decide +kernel)) ggX10_where_X10_there
set_option maxRecDepth 20000 in
theorem ggX11_ask_X11_bad : GoodIn wsX11_ask wsX11_bad := goodIn_r _ [19, 20, 35, 36, 37, 38, 39, 40, 41, 42, 43, 44, 45, 46, 47, 48, 49, 50, 51, 52] (by decide +kernel) (by decide +kernel)
set_option maxRecDepth 20000 in
theorem gX11_ask_X11_bad : GoodIn wsX11_ask (wsV RX11 68 RX11 yX11_bad wsX11_bad) := goodIn_app (goodIn_of _ (by decide +kernel)) ggX11_ask_X11_bad
set_option maxRecDepth 20000 in
theorem ggX11_ask_X11_isOne : GoodIn wsX11_ask wsX11_isOne := goodIn_r _ [7, 8, 9, 10, 6, 11, 12, 13, 14, 15, 35, 36, 37, 38, 39, 40, 41, 42, 43, 44, 45, 46, 47, 48, 49, 50, 51, 52] (by decide +kernel) (by decide +kernel)
set_option maxRecDepth 20000 in
theorem gX11_ask_X11_isOne : GoodIn wsX11_ask (wsV RX11 123 RX11 yX11_isOne wsX11_isOne) := goodIn_app (goodIn_of _ (by decide +kernel)) ggX11_ask_X11_isOne
set_option maxRecDepth 20000 in
theorem ggX11_beats_X11_bad : GoodIn wsX11_beats wsX11_bad := goodIn_r _ [18, 19, 53, 54, 55, 56, 57, 58, 59, 60, 61, 62, 63, 64, 65, 66, 67, 68, 69, 70] (by decide +kernel) (by decide +kernel)
set_option maxRecDepth 20000 in
theorem gX11_beats_X11_bad : GoodIn wsX11_beats (wsV RX11 68 RX11 yX11_bad wsX11_bad) := goodIn_app (goodIn_of _ (by decide +kernel)) ggX11_beats_X11_bad
set_option maxRecDepth 20000 in
theorem ggX11_beats_X11_isOne : GoodIn wsX11_beats wsX11_isOne := goodIn_r _ [7, 8, 9, 10, 6, 11, 1, 12, 13, 14, 53, 54, 55, 56, 57, 58, 59, 60, 61, 62, 63, 64, 65, 66, 67, 68, 69, 70] (by decide +kernel) (by decide +kernel)
set_option maxRecDepth 20000 in
theorem gX11_beats_X11_isOne : GoodIn wsX11_beats (wsV RX11 123 RX11 yX11_isOne wsX11_isOne) := goodIn_app (goodIn_of _ (by decide +kernel)) ggX11_beats_X11_isOne
set_option maxRecDepth 20000 in
theorem ggX11_best_X11_bad : GoodIn wsX11_best wsX11_bad := goodIn_r _ [19, 20, 50, 51, 52, 53, 54, 55, 56, 57, 58, 59, 60, 61, 62, 63, 64, 65, 66, 67] (by decide +kernel) (by decide +kernel)
set_option maxRecDepth 20000 in
theorem gX11_best_X11_bad : GoodIn wsX11_best (wsV RX11 68 RX11 yX11_bad wsX11_bad) := goodIn_app (goodIn_of _ (by decide +kernel)) ggX11_best_X11_bad
set_option maxRecDepth 20000 in
theorem ggX11_best_X11_isOne : GoodIn wsX11_best wsX11_isOne := goodIn_r _ [8, 9, 10, 11, 7, 12, 2, 13, 14, 15, 50, 51, 52, 53, 54, 55, 56, 57, 58, 59, 60, 61, 62, 63, 64, 65, 66, 67] (by decide +kernel) (by decide +kernel)
set_option maxRecDepth 20000 in
theorem gX11_best_X11_isOne : GoodIn wsX11_best (wsV RX11 123 RX11 yX11_isOne wsX11_isOne) := goodIn_app (goodIn_of _ (by decide +kernel)) ggX11_best_X11_isOne
set_option maxRecDepth 20000 in
theorem ggX11_close_X11_bad : GoodIn wsX11_close wsX11_bad := goodIn_r _ [19, 20, 46, 47, 48, 49, 50, 51, 52, 53, 54, 55, 56, 57, 58, 59, 60, 61, 62, 63] (by decide +kernel) (by decide +kernel)
set_option maxRecDepth 20000 in
theorem gX11_close_X11_bad : GoodIn wsX11_close (wsV RX11 68 RX11 yX11_bad wsX11_bad) := goodIn_app (goodIn_of _ (by decide +kernel)) ggX11_close_X11_bad
set_option maxRecDepth 20000 in
theorem ggX11_close_X11_isOne : GoodIn wsX11_close wsX11_isOne := goodIn_r _ [7, 8, 9, 10, 6, 11, 12, 13, 14, 15, 46, 47, 48, 49, 50, 51, 52, 53, 54, 55, 56, 57, 58, 59, 60, 61, 62, 63] (by decide +kernel) (by decide +kernel)
set_option maxRecDepth 20000 in
theorem gX11_close_X11_isOne : GoodIn wsX11_close (wsV RX11 123 RX11 yX11_isOne wsX11_isOne) := goodIn_app (goodIn_of _ (by decide +kernel)) ggX11_close_X11_isOne
set_option maxRecDepth 20000 in
theorem ggX11_count_X11_bad : GoodIn wsX11_count wsX11_bad := goodIn_r _ [29, 30, 31, 32, 33, 34, 35, 36, 37, 38, 39, 40, 41, 42, 43, 44, 45, 46, 47, 48] (by decide +kernel) (by decide +kernel)
set_option maxRecDepth 20000 in
theorem gX11_count_X11_bad : GoodIn wsX11_count (wsV RX11 68 RX11 yX11_bad wsX11_bad) := goodIn_app (goodIn_of _ (by decide +kernel)) ggX11_count_X11_bad
set_option maxRecDepth 20000 in
theorem ggX11_count_X11_counted : GoodIn wsX11_count wsX11_counted := goodIn_r _ [9, 10, 11, 12, 13, 14, 4, 15, 16, 17, 18, 19, 20, 21, 22, 23, 24, 25, 31, 32, 33, 34, 35, 36, 37, 38, 39, 40, 41, 42, 43, 44, 45, 46, 47, 48] (by decide +kernel) (by decide +kernel)
set_option maxRecDepth 20000 in
theorem gX11_count_X11_counted : GoodIn wsX11_count (wsV RX11 268 RX11 yX11_counted wsX11_counted) := goodIn_app (goodIn_of _ (by decide +kernel)) ggX11_count_X11_counted
set_option maxRecDepth 20000 in
theorem ggX11_count_X11_in : GoodIn wsX11_count wsX11_in := goodIn_r _ [5] (by decide +kernel) (by decide +kernel)
set_option maxRecDepth 20000 in
theorem gX11_count_X11_in : GoodIn wsX11_count (va_wsS RX11 56 yX11_in wsX11_in) := goodIn_app (goodIn_of _ (by decide +kernel)) ggX11_count_X11_in
set_option maxRecDepth 20000 in
theorem ggX11_counted_X11_many : GoodIn wsX11_counted wsX11_many := goodIn_r _ [7, 1, 18, 19, 20, 21, 22, 23, 24, 25, 26, 27, 28, 29, 30, 31, 32, 33, 34, 35] (by decide +kernel) (by decide +kernel)
set_option maxRecDepth 20000 in
theorem gX11_counted_X11_many : GoodIn wsX11_counted (wsV RX11 52 RX11 yX11_many wsX11_many) := goodIn_app (goodIn_of _ (by decide +kernel)) ggX11_counted_X11_many
set_option maxRecDepth 20000 in
theorem ggX11_counted_X11_manyHome : GoodIn wsX11_counted wsX11_manyHome := goodIn_r _ [10, 11, 12, 6, 13] (by decide +kernel) (by decide +kernel)
set_option maxRecDepth 20000 in
theorem gX11_counted_X11_manyHome : GoodIn wsX11_counted (va_wsS RX11 119 yX11_manyHome wsX11_manyHome) := goodIn_app (goodIn_of _ (by decide +kernel)) ggX11_counted_X11_manyHome
set_option maxRecDepth 20000 in
theorem ggX11_counted_X11_sumOf : GoodIn wsX11_counted wsX11_sumOf := goodIn_r _ [17, 1, 3, 4, 5, 6, 7, 18, 19, 20, 21, 22, 23, 24, 25, 26, 27, 28, 29, 30, 31, 32, 33, 34, 35] (by decide +kernel) (by decide +kernel)
set_option maxRecDepth 20000 in
theorem gX11_counted_X11_sumOf : GoodIn wsX11_counted (wsV RX11 265 RX11 yX11_sumOf wsX11_sumOf) := goodIn_app (goodIn_of _ (by decide +kernel)) ggX11_counted_X11_sumOf
set_option maxRecDepth 20000 in
theorem ggX11_digest_X11_counted : GoodIn wsX11_digest wsX11_counted := goodIn_r _ [10, 3, 11, 12, 13, 14, 9, 15, 16, 17, 18, 19, 20, 21, 22, 23, 24, 25, 43, 44, 45, 46, 47, 48, 49, 50, 51, 52, 53, 54, 55, 56, 57, 58, 59, 60] (by decide +kernel) (by decide +kernel)
set_option maxRecDepth 20000 in
theorem gX11_digest_X11_counted : GoodIn wsX11_digest (wsV RX11 268 RX11 yX11_counted wsX11_counted) := goodIn_app (goodIn_of _ (by decide +kernel)) ggX11_digest_X11_counted
set_option maxRecDepth 20000 in
theorem ggX11_digest_X11_many : GoodIn wsX11_digest wsX11_many := goodIn_r _ [15, 3, 43, 44, 45, 46, 47, 48, 49, 50, 51, 52, 53, 54, 55, 56, 57, 58, 59, 60] (by decide +kernel) (by decide +kernel)
set_option maxRecDepth 20000 in
theorem gX11_digest_X11_many : GoodIn wsX11_digest (wsV RX11 52 RX11 yX11_many wsX11_many) := goodIn_app (goodIn_of _ (by decide +kernel)) ggX11_digest_X11_many
set_option maxRecDepth 20000 in
theorem ggX11_digest_X11_sums : GoodIn wsX11_digest wsX11_sums := goodIn_r _ [42, 2, 3, 43, 44, 45, 46, 47, 48, 49, 50, 51, 52, 53, 54, 55, 56, 57, 58, 59, 60] (by decide +kernel) (by decide +kernel)
set_option maxRecDepth 20000 in
theorem gX11_digest_X11_sums : GoodIn wsX11_digest (wsV RX11 275 RX11 yX11_sums wsX11_sums) := goodIn_app (goodIn_of _ (by decide +kernel)) ggX11_digest_X11_sums
set_option maxRecDepth 20000 in
theorem ggX11_first_X11_many : GoodIn wsX11_first wsX11_many := goodIn_r _ [7, 2, 42, 43, 44, 45, 46, 47, 48, 49, 50, 51, 52, 53, 54, 55, 56, 57, 58, 59] (by decide +kernel) (by decide +kernel)
set_option maxRecDepth 20000 in
theorem gX11_first_X11_many : GoodIn wsX11_first (wsV RX11 52 RX11 yX11_many wsX11_many) := goodIn_app (goodIn_of _ (by decide +kernel)) ggX11_first_X11_many
set_option maxRecDepth 20000 in
theorem ggX11_forget_X11_bad : GoodIn wsX11_forget wsX11_bad := goodIn_r _ [10, 11, 12, 13, 14, 15, 16, 17, 18, 19, 20, 21, 22, 23, 24, 25, 26, 27, 28, 29] (by decide +kernel) (by decide +kernel)
set_option maxRecDepth 20000 in
theorem gX11_forget_X11_bad : GoodIn wsX11_forget (wsV RX11 68 RX11 yX11_bad wsX11_bad) := goodIn_app (goodIn_of _ (by decide +kernel)) ggX11_forget_X11_bad
set_option maxRecDepth 20000 in
theorem ggX11_forget_X11_in : GoodIn wsX11_forget wsX11_in := goodIn_r _ [6] (by decide +kernel) (by decide +kernel)
set_option maxRecDepth 20000 in
theorem gX11_forget_X11_in : GoodIn wsX11_forget (va_wsS RX11 56 yX11_in wsX11_in) := goodIn_app (goodIn_of _ (by decide +kernel)) ggX11_forget_X11_in
set_option maxRecDepth 20000 in
theorem ggX11_from_X11_bad : GoodIn wsX11_from wsX11_bad := goodIn_r _ [11, 12, 17, 18, 19, 20, 21, 22, 23, 24, 25, 26, 27, 28, 29, 30, 31, 32, 33, 34] (by decide +kernel) (by decide +kernel)
set_option maxRecDepth 20000 in
theorem gX11_from_X11_bad : GoodIn wsX11_from (wsV RX11 68 RX11 yX11_bad wsX11_bad) := goodIn_app (goodIn_of _ (by decide +kernel)) ggX11_from_X11_bad
set_option maxRecDepth 20000 in
theorem ggX11_from_X11_in : GoodIn wsX11_from wsX11_in := goodIn_r _ [7] (by decide +kernel) (by decide +kernel)
set_option maxRecDepth 20000 in
theorem gX11_from_X11_in : GoodIn wsX11_from (va_wsS RX11 56 yX11_in wsX11_in) := goodIn_app (goodIn_of _ (by decide +kernel)) ggX11_from_X11_in
set_option maxRecDepth 20000 in
theorem ggX11_from_X11_no : GoodIn wsX11_from wsX11_no := goodIn_r _ [16, 12, 17, 18, 19, 20, 21, 22, 23, 24, 25, 26, 27, 28, 29, 30, 31, 32, 33, 34] (by decide +kernel) (by decide +kernel)
set_option maxRecDepth 20000 in
theorem gX11_from_X11_no : GoodIn wsX11_from (wsV RX11 129 RX11 yX11_no wsX11_no) := goodIn_app (goodIn_of _ (by decide +kernel)) ggX11_from_X11_no
set_option maxRecDepth 20000 in
theorem ggX11_goTicks_X11_goTick : GoodIn wsX11_goTicks wsX11_goTick := goodIn_r _ [4, 5, 6, 3, 7, 8, 9, 10, 11, 12, 13, 14, 15, 16, 17, 18, 19, 20, 21, 22] (by decide +kernel) (by decide +kernel)
set_option maxRecDepth 20000 in
theorem gX11_goTicks_X11_goTick : GoodIn wsX11_goTicks (va_wsS RX11 109 yX11_goTick wsX11_goTick) := goodIn_app (goodIn_of _ (by decide +kernel)) ggX11_goTicks_X11_goTick
set_option maxRecDepth 20000 in
theorem ggX11_home_X11_bad : GoodIn wsX11_home wsX11_bad := goodIn_r _ [51, 52, 53, 54, 55, 56, 57, 58, 59, 60, 61, 62, 63, 64, 65, 66, 67, 68, 69, 70] (by decide +kernel) (by decide +kernel)
set_option maxRecDepth 20000 in
theorem gX11_home_X11_bad : GoodIn wsX11_home (wsV RX11 68 RX11 yX11_bad wsX11_bad) := goodIn_app (goodIn_of _ (by decide +kernel)) ggX11_home_X11_bad
set_option maxRecDepth 20000 in
theorem ggX11_home_X11_isOne : GoodIn wsX11_home wsX11_isOne := goodIn_r _ [5, 6, 7, 8, 4, 9, 10, 11, 12, 13, 53, 54, 55, 56, 57, 58, 59, 60, 61, 62, 63, 64, 65, 66, 67, 68, 69, 70] (by decide +kernel) (by decide +kernel)
set_option maxRecDepth 20000 in
theorem gX11_home_X11_isOne : GoodIn wsX11_home (wsV RX11 123 RX11 yX11_isOne wsX11_isOne) := goodIn_app (goodIn_of _ (by decide +kernel)) ggX11_home_X11_isOne
set_option maxRecDepth 20000 in
theorem ggX11_image_X11_bad : GoodIn wsX11_image wsX11_bad := goodIn_r _ [11, 12, 13, 14, 15, 16, 17, 18, 19, 20, 21, 22, 23, 24, 25, 26, 27, 28, 29, 30] (by decide +kernel) (by decide +kernel)
set_option maxRecDepth 20000 in
theorem gX11_image_X11_bad : GoodIn wsX11_image (wsV RX11 68 RX11 yX11_bad wsX11_bad) := goodIn_app (goodIn_of _ (by decide +kernel)) ggX11_image_X11_bad
set_option maxRecDepth 20000 in
theorem ggX11_image_X11_in : GoodIn wsX11_image wsX11_in := goodIn_r _ [7] (by decide +kernel) (by decide +kernel)
set_option maxRecDepth 20000 in
theorem gX11_image_X11_in : GoodIn wsX11_image (va_wsS RX11 56 yX11_in wsX11_in) := goodIn_app (goodIn_of _ (by decide +kernel)) ggX11_image_X11_in
set_option maxRecDepth 20000 in
theorem ggX11_init_X11_begin : GoodIn wsX11_init wsX11_begin := goodIn_r _ [21] (by decide +kernel) (by decide +kernel)
set_option maxRecDepth 20000 in
theorem gX11_init_X11_begin : GoodIn wsX11_init (va_wsS RX11 48 yX11_begin wsX11_begin) := goodIn_app (goodIn_of _ (by decide +kernel)) ggX11_init_X11_begin
set_option maxRecDepth 20000 in
theorem ggX11_isKind_X11_in : GoodIn wsX11_isKind wsX11_in := goodIn_r _ [5] (by decide +kernel) (by decide +kernel)
set_option maxRecDepth 20000 in
theorem gX11_isKind_X11_in : GoodIn wsX11_isKind (va_wsS RX11 56 yX11_in wsX11_in) := goodIn_app (goodIn_of _ (by decide +kernel)) ggX11_isKind_X11_in
set_option maxRecDepth 20000 in
theorem ggX11_isLegs_X11_in : GoodIn wsX11_isLegs wsX11_in := goodIn_r _ [5] (by decide +kernel) (by decide +kernel)
set_option maxRecDepth 20000 in
theorem gX11_isLegs_X11_in : GoodIn wsX11_isLegs (va_wsS RX11 56 yX11_in wsX11_in) := goodIn_app (goodIn_of _ (by decide +kernel)) ggX11_isLegs_X11_in
set_option maxRecDepth 20000 in
theorem ggX11_isOne_X11_in : GoodIn wsX11_isOne wsX11_in := goodIn_r _ [9] (by decide +kernel) (by decide +kernel)
set_option maxRecDepth 20000 in
theorem gX11_isOne_X11_in : GoodIn wsX11_isOne (va_wsS RX11 56 yX11_in wsX11_in) := goodIn_app (goodIn_of _ (by decide +kernel)) ggX11_isOne_X11_in
set_option maxRecDepth 20000 in
theorem ggX11_isOne_X11_many : GoodIn wsX11_isOne wsX11_many := goodIn_r _ [5, 6, 10, 11, 12, 13, 14, 15, 16, 17, 18, 19, 20, 21, 22, 23, 24, 25, 26, 27] (by decide +kernel) (by decide +kernel)
set_option maxRecDepth 20000 in
theorem gX11_isOne_X11_many : GoodIn wsX11_isOne (wsV RX11 52 RX11 yX11_many wsX11_many) := goodIn_app (goodIn_of _ (by decide +kernel)) ggX11_isOne_X11_many
set_option maxRecDepth 20000 in
theorem ggX11_is_X11_bad : GoodIn wsX11_is wsX11_bad := goodIn_r _ [24, 25, 26, 27, 28, 29, 30, 31, 32, 33, 34, 35, 36, 37, 38, 39, 40, 41, 42, 43] (by decide +kernel) (by decide +kernel)
set_option maxRecDepth 20000 in
theorem gX11_is_X11_bad : GoodIn wsX11_is (wsV RX11 68 RX11 yX11_bad wsX11_bad) := goodIn_app (goodIn_of _ (by decide +kernel)) ggX11_is_X11_bad
set_option maxRecDepth 20000 in
theorem ggX11_is_X11_isOne : GoodIn wsX11_is wsX11_isOne := goodIn_r _ [5, 6, 7, 8, 4, 9, 10, 11, 12, 13, 26, 27, 28, 29, 30, 31, 32, 33, 34, 35, 36, 37, 38, 39, 40, 41, 42, 43] (by decide +kernel) (by decide +kernel)
set_option maxRecDepth 20000 in
theorem gX11_is_X11_isOne : GoodIn wsX11_is (wsV RX11 123 RX11 yX11_isOne wsX11_isOne) := goodIn_app (goodIn_of _ (by decide +kernel)) ggX11_is_X11_isOne
set_option maxRecDepth 20000 in
theorem ggX11_kinds_X11_bad : GoodIn wsX11_kinds wsX11_bad := goodIn_r _ [24, 25, 26, 27, 28, 29, 30, 31, 32, 33, 34, 35, 36, 37, 38, 39, 40, 41, 42, 43] (by decide +kernel) (by decide +kernel)
set_option maxRecDepth 20000 in
theorem gX11_kinds_X11_bad : GoodIn wsX11_kinds (wsV RX11 68 RX11 yX11_bad wsX11_bad) := goodIn_app (goodIn_of _ (by decide +kernel)) ggX11_kinds_X11_bad
set_option maxRecDepth 20000 in
theorem ggX11_kinds_X11_isOne : GoodIn wsX11_kinds wsX11_isOne := goodIn_r _ [5, 6, 7, 8, 4, 9, 10, 11, 12, 13, 26, 27, 28, 29, 30, 31, 32, 33, 34, 35, 36, 37, 38, 39, 40, 41, 42, 43] (by decide +kernel) (by decide +kernel)
set_option maxRecDepth 20000 in
theorem gX11_kinds_X11_isOne : GoodIn wsX11_kinds (wsV RX11 123 RX11 yX11_isOne wsX11_isOne) := goodIn_app (goodIn_of _ (by decide +kernel)) ggX11_kinds_X11_isOne
set_option maxRecDepth 20000 in
theorem ggX11_look_X11_bad : GoodIn wsX11_look wsX11_bad := goodIn_r _ [19, 20, 35, 36, 37, 38, 39, 40, 41, 42, 43, 44, 45, 46, 47, 48, 49, 50, 51, 52] (by decide +kernel) (by decide +kernel)
set_option maxRecDepth 20000 in
theorem gX11_look_X11_bad : GoodIn wsX11_look (wsV RX11 68 RX11 yX11_bad wsX11_bad) := goodIn_app (goodIn_of _ (by decide +kernel)) ggX11_look_X11_bad
set_option maxRecDepth 20000 in
theorem ggX11_look_X11_isOne : GoodIn wsX11_look wsX11_isOne := goodIn_r _ [8, 9, 10, 11, 7, 12, 3, 13, 14, 15, 35, 36, 37, 38, 39, 40, 41, 42, 43, 44, 45, 46, 47, 48, 49, 50, 51, 52] (by decide +kernel) (by decide +kernel)
set_option maxRecDepth 20000 in
theorem gX11_look_X11_isOne : GoodIn wsX11_look (wsV RX11 123 RX11 yX11_isOne wsX11_isOne) := goodIn_app (goodIn_of _ (by decide +kernel)) ggX11_look_X11_isOne
set_option maxRecDepth 20000 in
theorem ggX11_mark_X11_bad : GoodIn wsX11_mark wsX11_bad := goodIn_r _ [19, 20, 25, 26, 27, 28, 29, 30, 31, 32, 33, 34, 35, 36, 37, 38, 39, 40, 41, 42] (by decide +kernel) (by decide +kernel)
set_option maxRecDepth 20000 in
theorem gX11_mark_X11_bad : GoodIn wsX11_mark (wsV RX11 68 RX11 yX11_bad wsX11_bad) := goodIn_app (goodIn_of _ (by decide +kernel)) ggX11_mark_X11_bad
set_option maxRecDepth 20000 in
theorem ggX11_mark_X11_isOne : GoodIn wsX11_mark wsX11_isOne := goodIn_r _ [8, 9, 10, 11, 7, 12, 3, 13, 14, 15, 25, 26, 27, 28, 29, 30, 31, 32, 33, 34, 35, 36, 37, 38, 39, 40, 41, 42] (by decide +kernel) (by decide +kernel)
set_option maxRecDepth 20000 in
theorem gX11_mark_X11_isOne : GoodIn wsX11_mark (wsV RX11 123 RX11 yX11_isOne wsX11_isOne) := goodIn_app (goodIn_of _ (by decide +kernel)) ggX11_mark_X11_isOne
set_option maxRecDepth 20000 in
theorem ggX11_note_X11_bad : GoodIn wsX11_note wsX11_bad := goodIn_r _ [26, 27, 32, 33, 34, 35, 36, 37, 38, 39, 40, 41, 42, 43, 44, 45, 46, 47, 48, 49] (by decide +kernel) (by decide +kernel)
set_option maxRecDepth 20000 in
theorem gX11_note_X11_bad : GoodIn wsX11_note (wsV RX11 68 RX11 yX11_bad wsX11_bad) := goodIn_app (goodIn_of _ (by decide +kernel)) ggX11_note_X11_bad
set_option maxRecDepth 20000 in
theorem ggX11_note_X11_isOne : GoodIn wsX11_note wsX11_isOne := goodIn_r _ [8, 9, 10, 11, 7, 12, 3, 13, 14, 15, 32, 33, 34, 35, 36, 37, 38, 39, 40, 41, 42, 43, 44, 45, 46, 47, 48, 49] (by decide +kernel) (by decide +kernel)
set_option maxRecDepth 20000 in
theorem gX11_note_X11_isOne : GoodIn wsX11_note (wsV RX11 123 RX11 yX11_isOne wsX11_isOne) := goodIn_app (goodIn_of _ (by decide +kernel)) ggX11_note_X11_isOne
set_option maxRecDepth 20000 in
theorem ggX11_of_X11_bad : GoodIn wsX11_of wsX11_bad := goodIn_r _ [34, 35, 36, 37, 38, 39, 40, 41, 42, 43, 44, 45, 46, 47, 48, 49, 50, 51, 52, 53] (by decide +kernel) (by decide +kernel)
set_option maxRecDepth 20000 in
theorem gX11_of_X11_bad : GoodIn wsX11_of (wsV RX11 68 RX11 yX11_bad wsX11_bad) := goodIn_app (goodIn_of _ (by decide +kernel)) ggX11_of_X11_bad
set_option maxRecDepth 20000 in
theorem ggX11_of_X11_isOne : GoodIn wsX11_of wsX11_isOne := goodIn_r _ [6, 7, 8, 9, 5, 10, 11, 12, 13, 14, 36, 37, 38, 39, 40, 41, 42, 43, 44, 45, 46, 47, 48, 49, 50, 51, 52, 53] (by decide +kernel) (by decide +kernel)
set_option maxRecDepth 20000 in
theorem gX11_of_X11_isOne : GoodIn wsX11_of (wsV RX11 123 RX11 yX11_isOne wsX11_isOne) := goodIn_app (goodIn_of _ (by decide +kernel)) ggX11_of_X11_isOne
set_option maxRecDepth 20000 in
theorem ggX11_one_X11_bad : GoodIn wsX11_one wsX11_bad := goodIn_r _ [17, 18, 30, 31, 32, 33, 34, 35, 36, 37, 38, 39, 40, 41, 42, 43, 44, 45, 46, 47] (by decide +kernel) (by decide +kernel)
set_option maxRecDepth 20000 in
theorem gX11_one_X11_bad : GoodIn wsX11_one (wsV RX11 68 RX11 yX11_bad wsX11_bad) := goodIn_app (goodIn_of _ (by decide +kernel)) ggX11_one_X11_bad
set_option maxRecDepth 20000 in
theorem ggX11_one_X11_isKind : GoodIn wsX11_one wsX11_isKind := goodIn_r _ [5, 6, 7, 8, 4, 9] (by decide +kernel) (by decide +kernel)
set_option maxRecDepth 20000 in
theorem gX11_one_X11_isKind : GoodIn wsX11_one (va_wsS RX11 72 yX11_isKind wsX11_isKind) := goodIn_app (goodIn_of _ (by decide +kernel)) ggX11_one_X11_isKind
set_option maxRecDepth 20000 in
theorem ggX11_one_X11_isLegs : GoodIn wsX11_one wsX11_isLegs := goodIn_r _ [12, 13, 7, 8, 4, 9] (by decide +kernel) (by decide +kernel)
set_option maxRecDepth 20000 in
theorem gX11_one_X11_isLegs : GoodIn wsX11_one (va_wsS RX11 76 yX11_isLegs wsX11_isLegs) := goodIn_app (goodIn_of _ (by decide +kernel)) ggX11_one_X11_isLegs
set_option maxRecDepth 20000 in
theorem ggX11_one_X11_layOne : GoodIn wsX11_one wsX11_layOne := goodIn_r _ [29] (by decide +kernel) (by decide +kernel)
set_option maxRecDepth 20000 in
theorem gX11_one_X11_layOne : GoodIn wsX11_one (va_wsS RX11 82 yX11_layOne wsX11_layOne) := goodIn_app (goodIn_of _ (by decide +kernel)) ggX11_one_X11_layOne
set_option maxRecDepth 20000 in
theorem ggX11_one_X11_many : GoodIn wsX11_one wsX11_many := goodIn_r _ [22, 1, 30, 31, 32, 33, 34, 35, 36, 37, 38, 39, 40, 41, 42, 43, 44, 45, 46, 47] (by decide +kernel) (by decide +kernel)
set_option maxRecDepth 20000 in
theorem gX11_one_X11_many : GoodIn wsX11_one (wsV RX11 52 RX11 yX11_many wsX11_many) := goodIn_app (goodIn_of _ (by decide +kernel)) ggX11_one_X11_many
set_option maxRecDepth 20000 in
theorem ggX11_order_X11_bad : GoodIn wsX11_order wsX11_bad := goodIn_r _ [9, 10, 53, 54, 55, 56, 57, 58, 59, 60, 61, 62, 63, 64, 65, 66, 67, 68, 69, 70] (by decide +kernel) (by decide +kernel)
set_option maxRecDepth 20000 in
theorem gX11_order_X11_bad : GoodIn wsX11_order (wsV RX11 68 RX11 yX11_bad wsX11_bad) := goodIn_app (goodIn_of _ (by decide +kernel)) ggX11_order_X11_bad
set_option maxRecDepth 20000 in
theorem ggX11_order_X11_many : GoodIn wsX11_order wsX11_many := goodIn_r _ [14, 2, 53, 54, 55, 56, 57, 58, 59, 60, 61, 62, 63, 64, 65, 66, 67, 68, 69, 70] (by decide +kernel) (by decide +kernel)
set_option maxRecDepth 20000 in
theorem gX11_order_X11_many : GoodIn wsX11_order (wsV RX11 52 RX11 yX11_many wsX11_many) := goodIn_app (goodIn_of _ (by decide +kernel)) ggX11_order_X11_many
set_option maxRecDepth 20000 in
theorem ggX11_order_X11_no : GoodIn wsX11_order wsX11_no := goodIn_r _ [18, 10, 53, 54, 55, 56, 57, 58, 59, 60, 61, 62, 63, 64, 65, 66, 67, 68, 69, 70] (by decide +kernel) (by decide +kernel)
set_option maxRecDepth 20000 in
theorem gX11_order_X11_no : GoodIn wsX11_order (wsV RX11 129 RX11 yX11_no wsX11_no) := goodIn_app (goodIn_of _ (by decide +kernel)) ggX11_order_X11_no
set_option maxRecDepth 20000 in
theorem ggX11_pair_X11_bad : GoodIn wsX11_pair wsX11_bad := goodIn_r _ [19, 20, 58, 59, 60, 61, 62, 63, 64, 65, 66, 67, 68, 69, 70, 71, 72, 73, 74, 75] (by decide +kernel) (by decide +kernel)
set_option maxRecDepth 20000 in
theorem gX11_pair_X11_bad : GoodIn wsX11_pair (wsV RX11 68 RX11 yX11_bad wsX11_bad) := goodIn_app (goodIn_of _ (by decide +kernel)) ggX11_pair_X11_bad
set_option maxRecDepth 20000 in
theorem ggX11_pair_X11_isOne : GoodIn wsX11_pair wsX11_isOne := goodIn_r _ [7, 8, 9, 10, 6, 11, 12, 13, 14, 15, 58, 59, 60, 61, 62, 63, 64, 65, 66, 67, 68, 69, 70, 71, 72, 73, 74, 75] (by decide +kernel) (by decide +kernel)
set_option maxRecDepth 20000 in
theorem gX11_pair_X11_isOne : GoodIn wsX11_pair (wsV RX11 123 RX11 yX11_isOne wsX11_isOne) := goodIn_app (goodIn_of _ (by decide +kernel)) ggX11_pair_X11_isOne
set_option maxRecDepth 20000 in
theorem ggX11_part_X11_bad : GoodIn wsX11_part wsX11_bad := goodIn_r _ [7, 8, 9, 10, 11, 12, 13, 14, 15, 16, 17, 18, 19, 20, 21, 22, 23, 24, 25, 26] (by decide +kernel) (by decide +kernel)
set_option maxRecDepth 20000 in
theorem gX11_part_X11_bad : GoodIn wsX11_part (wsV RX11 68 RX11 yX11_bad wsX11_bad) := goodIn_app (goodIn_of _ (by decide +kernel)) ggX11_part_X11_bad
set_option maxRecDepth 20000 in
theorem ggX11_race_X11_bad : GoodIn wsX11_race wsX11_bad := goodIn_r _ [11, 12, 20, 21, 22, 23, 24, 25, 26, 27, 28, 29, 30, 31, 32, 33, 34, 35, 36, 37] (by decide +kernel) (by decide +kernel)
set_option maxRecDepth 20000 in
theorem gX11_race_X11_bad : GoodIn wsX11_race (wsV RX11 68 RX11 yX11_bad wsX11_bad) := goodIn_app (goodIn_of _ (by decide +kernel)) ggX11_race_X11_bad
set_option maxRecDepth 20000 in
theorem ggX11_race_X11_begin : GoodIn wsX11_race wsX11_begin := goodIn_r _ [19] (by decide +kernel) (by decide +kernel)
set_option maxRecDepth 20000 in
theorem gX11_race_X11_begin : GoodIn wsX11_race (va_wsS RX11 48 yX11_begin wsX11_begin) := goodIn_app (goodIn_of _ (by decide +kernel)) ggX11_race_X11_begin
set_option maxRecDepth 20000 in
theorem ggX11_race_X11_in : GoodIn wsX11_race wsX11_in := goodIn_r _ [7] (by decide +kernel) (by decide +kernel)
set_option maxRecDepth 20000 in
theorem gX11_race_X11_in : GoodIn wsX11_race (va_wsS RX11 56 yX11_in wsX11_in) := goodIn_app (goodIn_of _ (by decide +kernel)) ggX11_race_X11_in
set_option maxRecDepth 20000 in
theorem ggX11_race_X11_many : GoodIn wsX11_race wsX11_many := goodIn_r _ [16, 3, 20, 21, 22, 23, 24, 25, 26, 27, 28, 29, 30, 31, 32, 33, 34, 35, 36, 37] (by decide +kernel) (by decide +kernel)
set_option maxRecDepth 20000 in
theorem gX11_race_X11_many : GoodIn wsX11_race (wsV RX11 52 RX11 yX11_many wsX11_many) := goodIn_app (goodIn_of _ (by decide +kernel)) ggX11_race_X11_many
set_option maxRecDepth 20000 in
theorem ggX11_races_X11_bad : GoodIn wsX11_races wsX11_bad := goodIn_r _ [18, 19, 57, 58, 59, 60, 61, 62, 63, 64, 65, 66, 67, 68, 69, 70, 71, 72, 73, 74] (by decide +kernel) (by decide +kernel)
set_option maxRecDepth 20000 in
theorem gX11_races_X11_bad : GoodIn wsX11_races (wsV RX11 68 RX11 yX11_bad wsX11_bad) := goodIn_app (goodIn_of _ (by decide +kernel)) ggX11_races_X11_bad
set_option maxRecDepth 20000 in
theorem ggX11_races_X11_goTick : GoodIn wsX11_races wsX11_goTick := goodIn_r _ [35, 36, 37, 13, 38, 39, 40, 41, 42, 43, 44, 45, 46, 47, 48, 49, 50, 51, 52, 53] (by decide +kernel) (by decide +kernel)
set_option maxRecDepth 20000 in
theorem gX11_races_X11_goTick : GoodIn wsX11_races (va_wsS RX11 109 yX11_goTick wsX11_goTick) := goodIn_app (goodIn_of _ (by decide +kernel)) ggX11_races_X11_goTick
set_option maxRecDepth 20000 in
theorem ggX11_races_X11_in : GoodIn wsX11_races wsX11_in := goodIn_r _ [14] (by decide +kernel) (by decide +kernel)
set_option maxRecDepth 20000 in
theorem gX11_races_X11_in : GoodIn wsX11_races (va_wsS RX11 56 yX11_in wsX11_in) := goodIn_app (goodIn_of _ (by decide +kernel)) ggX11_races_X11_in
set_option maxRecDepth 20000 in
theorem ggX11_races_X11_isOne : GoodIn wsX11_races wsX11_isOne := goodIn_r _ [28, 29, 30, 31, 13, 32, 24, 11, 12, 14, 57, 58, 59, 60, 61, 62, 63, 64, 65, 66, 67, 68, 69, 70, 71, 72, 73, 74] (by decide +kernel) (by decide +kernel)
set_option maxRecDepth 20000 in
theorem gX11_races_X11_isOne : GoodIn wsX11_races (wsV RX11 123 RX11 yX11_isOne wsX11_isOne) := goodIn_app (goodIn_of _ (by decide +kernel)) ggX11_races_X11_isOne
set_option maxRecDepth 20000 in
theorem ggX11_races_X11_layHand : GoodIn wsX11_races wsX11_layHand := goodIn_r _ [23, 8, 24, 57, 58, 59, 60, 61, 62, 63, 64, 65, 66, 67, 68, 69, 70, 71, 72, 73, 74] (by decide +kernel) (by decide +kernel)
set_option maxRecDepth 20000 in
theorem gX11_races_X11_layHand : GoodIn wsX11_races (wsV RX11 137 RX11 yX11_layHand wsX11_layHand) := goodIn_app (goodIn_of _ (by decide +kernel)) ggX11_races_X11_layHand
set_option maxRecDepth 20000 in
theorem ggX11_races_X11_manyHome : GoodIn wsX11_races wsX11_manyHome := goodIn_r _ [56, 36, 37, 13, 38] (by decide +kernel) (by decide +kernel)
set_option maxRecDepth 20000 in
theorem gX11_races_X11_manyHome : GoodIn wsX11_races (va_wsS RX11 119 yX11_manyHome wsX11_manyHome) := goodIn_app (goodIn_of _ (by decide +kernel)) ggX11_races_X11_manyHome
set_option maxRecDepth 20000 in
theorem ggX11_read_X11_lookAt : GoodIn wsX11_read wsX11_lookAt := goodIn_r _ [10, 1, 11, 12, 13, 2, 14, 15, 16, 9, 17, 18, 19, 20, 21, 22, 23, 24, 25, 26, 27, 90, 91, 92, 93, 94, 95, 96, 97, 98, 99, 100, 101, 102, 103, 104, 105, 106, 107] (by decide +kernel) (by decide +kernel)
set_option maxRecDepth 20000 in
theorem gX11_read_X11_lookAt : GoodIn wsX11_read (wsV RX11 235 RX11 yX11_lookAt wsX11_lookAt) := goodIn_app (goodIn_of _ (by decide +kernel)) ggX11_read_X11_lookAt
set_option maxRecDepth 20000 in
theorem ggX11_read_X11_spells : GoodIn wsX11_read wsX11_spells := goodIn_r _ [31, 2, 13, 12, 1, 90, 91, 92, 93, 94, 95, 96, 97, 98, 99, 100, 101, 102, 103, 104, 105, 106, 107] (by decide +kernel) (by decide +kernel)
set_option maxRecDepth 20000 in
theorem gX11_read_X11_spells : GoodIn wsX11_read (wsV RX11 245 RX11 yX11_spells wsX11_spells) := goodIn_app (goodIn_of _ (by decide +kernel)) ggX11_read_X11_spells
set_option maxRecDepth 20000 in
theorem ggX11_seen_X11_bad : GoodIn wsX11_seen wsX11_bad := goodIn_r _ [23, 24, 29, 30, 31, 32, 33, 34, 35, 36, 37, 38, 39, 40, 41, 42, 43, 44, 45, 46] (by decide +kernel) (by decide +kernel)
set_option maxRecDepth 20000 in
theorem gX11_seen_X11_bad : GoodIn wsX11_seen (wsV RX11 68 RX11 yX11_bad wsX11_bad) := goodIn_app (goodIn_of _ (by decide +kernel)) ggX11_seen_X11_bad
set_option maxRecDepth 20000 in
theorem ggX11_seen_X11_isOne : GoodIn wsX11_seen wsX11_isOne := goodIn_r _ [8, 9, 10, 11, 7, 12, 3, 13, 14, 15, 29, 30, 31, 32, 33, 34, 35, 36, 37, 38, 39, 40, 41, 42, 43, 44, 45, 46] (by decide +kernel) (by decide +kernel)
set_option maxRecDepth 20000 in
theorem gX11_seen_X11_isOne : GoodIn wsX11_seen (wsV RX11 123 RX11 yX11_isOne wsX11_isOne) := goodIn_app (goodIn_of _ (by decide +kernel)) ggX11_seen_X11_isOne
set_option maxRecDepth 20000 in
theorem ggX11_speed_X11_bad : GoodIn wsX11_speed wsX11_bad := goodIn_r _ [21, 22, 34, 35, 36, 37, 38, 39, 40, 41, 42, 43, 44, 45, 46, 47, 48, 49, 50, 51] (by decide +kernel) (by decide +kernel)
set_option maxRecDepth 20000 in
theorem gX11_speed_X11_bad : GoodIn wsX11_speed (wsV RX11 68 RX11 yX11_bad wsX11_bad) := goodIn_app (goodIn_of _ (by decide +kernel)) ggX11_speed_X11_bad
set_option maxRecDepth 20000 in
theorem ggX11_speed_X11_isOne : GoodIn wsX11_speed wsX11_isOne := goodIn_r _ [6, 7, 8, 9, 5, 10, 1, 11, 12, 13, 34, 35, 36, 37, 38, 39, 40, 41, 42, 43, 44, 45, 46, 47, 48, 49, 50, 51] (by decide +kernel) (by decide +kernel)
set_option maxRecDepth 20000 in
theorem gX11_speed_X11_isOne : GoodIn wsX11_speed (wsV RX11 123 RX11 yX11_isOne wsX11_isOne) := goodIn_app (goodIn_of _ (by decide +kernel)) ggX11_speed_X11_isOne
set_option maxRecDepth 20000 in
theorem ggX11_start_X11_bad : GoodIn wsX11_start wsX11_bad := goodIn_r _ [18, 19, 31, 32, 33, 34, 35, 36, 37, 38, 39, 40, 41, 42, 43, 44, 45, 46, 47, 48] (by decide +kernel) (by decide +kernel)
set_option maxRecDepth 20000 in
theorem gX11_start_X11_bad : GoodIn wsX11_start (wsV RX11 68 RX11 yX11_bad wsX11_bad) := goodIn_app (goodIn_of _ (by decide +kernel)) ggX11_start_X11_bad
set_option maxRecDepth 20000 in
theorem ggX11_start_X11_isOne : GoodIn wsX11_start wsX11_isOne := goodIn_r _ [7, 8, 9, 10, 6, 11, 2, 12, 13, 14, 31, 32, 33, 34, 35, 36, 37, 38, 39, 40, 41, 42, 43, 44, 45, 46, 47, 48] (by decide +kernel) (by decide +kernel)
set_option maxRecDepth 20000 in
theorem gX11_start_X11_isOne : GoodIn wsX11_start (wsV RX11 123 RX11 yX11_isOne wsX11_isOne) := goodIn_app (goodIn_of _ (by decide +kernel)) ggX11_start_X11_isOne
set_option maxRecDepth 20000 in
theorem ggX11_status_X11_bad : GoodIn wsX11_status wsX11_bad := goodIn_r _ [10, 2, 11, 12, 13, 14, 15, 16, 17, 18, 19, 20, 21, 22, 23, 24, 25, 26, 27, 28] (by decide +kernel) (by decide +kernel)
set_option maxRecDepth 20000 in
theorem gX11_status_X11_bad : GoodIn wsX11_status (wsV RX11 68 RX11 yX11_bad wsX11_bad) := goodIn_app (goodIn_of _ (by decide +kernel)) ggX11_status_X11_bad
set_option maxRecDepth 20000 in
theorem ggX11_status_X11_in : GoodIn wsX11_status wsX11_in := goodIn_r _ [6] (by decide +kernel) (by decide +kernel)
set_option maxRecDepth 20000 in
theorem gX11_status_X11_in : GoodIn wsX11_status (va_wsS RX11 56 yX11_in wsX11_in) := goodIn_app (goodIn_of _ (by decide +kernel)) ggX11_status_X11_in
set_option maxRecDepth 20000 in
theorem ggX11_strong_X11_bad : GoodIn wsX11_strong wsX11_bad := goodIn_r _ [18, 19, 30, 31, 32, 33, 34, 35, 36, 37, 38, 39, 40, 41, 42, 43, 44, 45, 46, 47] (by decide +kernel) (by decide +kernel)
set_option maxRecDepth 20000 in
theorem gX11_strong_X11_bad : GoodIn wsX11_strong (wsV RX11 68 RX11 yX11_bad wsX11_bad) := goodIn_app (goodIn_of _ (by decide +kernel)) ggX11_strong_X11_bad
set_option maxRecDepth 20000 in
theorem ggX11_strong_X11_isOne : GoodIn wsX11_strong wsX11_isOne := goodIn_r _ [6, 7, 8, 9, 5, 10, 11, 12, 13, 14, 30, 31, 32, 33, 34, 35, 36, 37, 38, 39, 40, 41, 42, 43, 44, 45, 46, 47] (by decide +kernel) (by decide +kernel)
set_option maxRecDepth 20000 in
theorem gX11_strong_X11_isOne : GoodIn wsX11_strong (wsV RX11 123 RX11 yX11_isOne wsX11_isOne) := goodIn_app (goodIn_of _ (by decide +kernel)) ggX11_strong_X11_isOne
set_option maxRecDepth 20000 in
theorem ggX11_stumble_X11_bad : GoodIn wsX11_stumble wsX11_bad := goodIn_r _ [21, 22, 54, 55, 56, 57, 58, 59, 60, 61, 62, 63, 64, 65, 66, 67, 68, 69, 70, 71] (by decide +kernel) (by decide +kernel)
set_option maxRecDepth 20000 in
theorem gX11_stumble_X11_bad : GoodIn wsX11_stumble (wsV RX11 68 RX11 yX11_bad wsX11_bad) := goodIn_app (goodIn_of _ (by decide +kernel)) ggX11_stumble_X11_bad
set_option maxRecDepth 20000 in
theorem ggX11_stumble_X11_isOne : GoodIn wsX11_stumble wsX11_isOne := goodIn_r _ [9, 10, 11, 12, 8, 13, 14, 15, 16, 17, 54, 55, 56, 57, 58, 59, 60, 61, 62, 63, 64, 65, 66, 67, 68, 69, 70, 71] (by decide +kernel) (by decide +kernel)
set_option maxRecDepth 20000 in
theorem gX11_stumble_X11_isOne : GoodIn wsX11_stumble (wsV RX11 123 RX11 yX11_isOne wsX11_isOne) := goodIn_app (goodIn_of _ (by decide +kernel)) ggX11_stumble_X11_isOne
set_option maxRecDepth 20000 in
theorem ggX11_sumOf_X11_many : GoodIn wsX11_sumOf wsX11_many := goodIn_r _ [6, 1, 7, 8, 9, 10, 11, 12, 13, 14, 15, 16, 17, 18, 19, 20, 21, 22, 23, 24] (by decide +kernel) (by decide +kernel)
set_option maxRecDepth 20000 in
theorem gX11_sumOf_X11_many : GoodIn wsX11_sumOf (wsV RX11 52 RX11 yX11_many wsX11_many) := goodIn_app (goodIn_of _ (by decide +kernel)) ggX11_sumOf_X11_many
set_option maxRecDepth 20000 in
theorem ggX11_tell_X11_bad : GoodIn wsX11_tell wsX11_bad := goodIn_r _ [19, 20, 35, 36, 37, 38, 39, 40, 41, 42, 43, 44, 45, 46, 47, 48, 49, 50, 51, 52] (by decide +kernel) (by decide +kernel)
set_option maxRecDepth 20000 in
theorem gX11_tell_X11_bad : GoodIn wsX11_tell (wsV RX11 68 RX11 yX11_bad wsX11_bad) := goodIn_app (goodIn_of _ (by decide +kernel)) ggX11_tell_X11_bad
set_option maxRecDepth 20000 in
theorem ggX11_tell_X11_isOne : GoodIn wsX11_tell wsX11_isOne := goodIn_r _ [8, 9, 10, 11, 7, 12, 3, 13, 14, 15, 35, 36, 37, 38, 39, 40, 41, 42, 43, 44, 45, 46, 47, 48, 49, 50, 51, 52] (by decide +kernel) (by decide +kernel)
set_option maxRecDepth 20000 in
theorem gX11_tell_X11_isOne : GoodIn wsX11_tell (wsV RX11 123 RX11 yX11_isOne wsX11_isOne) := goodIn_app (goodIn_of _ (by decide +kernel)) ggX11_tell_X11_isOne
set_option maxRecDepth 20000 in
theorem ggX11_ticks_X11_bad : GoodIn wsX11_ticks wsX11_bad := goodIn_r _ [10, 11, 43, 44, 45, 46, 47, 48, 49, 50, 51, 52, 53, 54, 55, 56, 57, 58, 59, 60] (by decide +kernel) (by decide +kernel)
set_option maxRecDepth 20000 in
theorem gX11_ticks_X11_bad : GoodIn wsX11_ticks (wsV RX11 68 RX11 yX11_bad wsX11_bad) := goodIn_app (goodIn_of _ (by decide +kernel)) ggX11_ticks_X11_bad
set_option maxRecDepth 20000 in
theorem ggX11_ticks_X11_goTicks : GoodIn wsX11_ticks wsX11_goTicks := goodIn_r _ [18, 19, 20, 5, 21, 22, 23, 24, 25, 26, 27, 28, 29, 30, 31, 32, 33, 34, 35, 36, 37, 38, 39] (by decide +kernel) (by decide +kernel)
set_option maxRecDepth 20000 in
theorem gX11_ticks_X11_goTicks : GoodIn wsX11_ticks (va_wsS RX11 116 yX11_goTicks wsX11_goTicks) := goodIn_app (goodIn_of _ (by decide +kernel)) ggX11_ticks_X11_goTicks
set_option maxRecDepth 20000 in
theorem ggX11_ticks_X11_in : GoodIn wsX11_ticks wsX11_in := goodIn_r _ [6] (by decide +kernel) (by decide +kernel)
set_option maxRecDepth 20000 in
theorem gX11_ticks_X11_in : GoodIn wsX11_ticks (va_wsS RX11 56 yX11_in wsX11_in) := goodIn_app (goodIn_of _ (by decide +kernel)) ggX11_ticks_X11_in
set_option maxRecDepth 20000 in
theorem ggX11_ticks_X11_manyHome : GoodIn wsX11_ticks wsX11_manyHome := goodIn_r _ [42, 22, 23, 5, 24] (by decide +kernel) (by decide +kernel)
set_option maxRecDepth 20000 in
theorem gX11_ticks_X11_manyHome : GoodIn wsX11_ticks (va_wsS RX11 119 yX11_manyHome wsX11_manyHome) := goodIn_app (goodIn_of _ (by decide +kernel)) ggX11_ticks_X11_manyHome
set_option maxRecDepth 20000 in
theorem ggX11_ticks_X11_save : GoodIn wsX11_ticks wsX11_save := goodIn_r _ [15, 2, 43, 44, 45, 46, 47, 48, 49, 50, 51, 52, 53, 54, 55, 56, 57, 58, 59, 60] (by decide +kernel) (by decide +kernel)
set_option maxRecDepth 20000 in
theorem gX11_ticks_X11_save : GoodIn wsX11_ticks (wsV RX11 113 RX11 yX11_save wsX11_save) := goodIn_app (goodIn_of _ (by decide +kernel)) ggX11_ticks_X11_save
set_option maxRecDepth 20000 in
theorem ggX11_turn_X11_bad : GoodIn wsX11_turn wsX11_bad := goodIn_r _ [23, 24, 58, 59, 60, 61, 62, 63, 64, 65, 66, 67, 68, 69, 70, 71, 72, 73, 74, 75] (by decide +kernel) (by decide +kernel)
set_option maxRecDepth 20000 in
theorem gX11_turn_X11_bad : GoodIn wsX11_turn (wsV RX11 68 RX11 yX11_bad wsX11_bad) := goodIn_app (goodIn_of _ (by decide +kernel)) ggX11_turn_X11_bad
set_option maxRecDepth 20000 in
theorem ggX11_turn_X11_isOne : GoodIn wsX11_turn wsX11_isOne := goodIn_r _ [8, 9, 10, 11, 7, 12, 2, 13, 14, 15, 58, 59, 60, 61, 62, 63, 64, 65, 66, 67, 68, 69, 70, 71, 72, 73, 74, 75] (by decide +kernel) (by decide +kernel)
set_option maxRecDepth 20000 in
theorem gX11_turn_X11_isOne : GoodIn wsX11_turn (wsV RX11 123 RX11 yX11_isOne wsX11_isOne) := goodIn_app (goodIn_of _ (by decide +kernel)) ggX11_turn_X11_isOne
set_option maxRecDepth 20000 in
theorem ggX11_type_X11_bad : GoodIn wsX11_type wsX11_bad := goodIn_r _ [11, 12, 17, 18, 19, 20, 21, 22, 23, 24, 25, 26, 27, 28, 29, 30, 31, 32, 33, 34] (by decide +kernel) (by decide +kernel)
set_option maxRecDepth 20000 in
theorem gX11_type_X11_bad : GoodIn wsX11_type (wsV RX11 68 RX11 yX11_bad wsX11_bad) := goodIn_app (goodIn_of _ (by decide +kernel)) ggX11_type_X11_bad
set_option maxRecDepth 20000 in
theorem ggX11_type_X11_in : GoodIn wsX11_type wsX11_in := goodIn_r _ [7] (by decide +kernel) (by decide +kernel)
set_option maxRecDepth 20000 in
theorem gX11_type_X11_in : GoodIn wsX11_type (va_wsS RX11 56 yX11_in wsX11_in) := goodIn_app (goodIn_of _ (by decide +kernel)) ggX11_type_X11_in
set_option maxRecDepth 20000 in
theorem ggX11_undo_X11_no : GoodIn wsX11_undo wsX11_no := goodIn_r _ [6, 7, 8, 9, 10, 11, 12, 13, 14, 15, 16, 17, 18, 19, 20, 21, 22, 23, 24, 25] (by decide +kernel) (by decide +kernel)
set_option maxRecDepth 20000 in
theorem gX11_undo_X11_no : GoodIn wsX11_undo (wsV RX11 129 RX11 yX11_no wsX11_no) := goodIn_app (goodIn_of _ (by decide +kernel)) ggX11_undo_X11_no
set_option maxRecDepth 20000 in
theorem ggX11_where_X11_bad : GoodIn wsX11_where wsX11_bad := goodIn_r _ [19, 20, 50, 51, 52, 53, 54, 55, 56, 57, 58, 59, 60, 61, 62, 63, 64, 65, 66, 67] (by decide +kernel) (by decide +kernel)
set_option maxRecDepth 20000 in
theorem gX11_where_X11_bad : GoodIn wsX11_where (wsV RX11 68 RX11 yX11_bad wsX11_bad) := goodIn_app (goodIn_of _ (by decide +kernel)) ggX11_where_X11_bad
set_option maxRecDepth 20000 in
theorem ggX11_where_X11_isOne : GoodIn wsX11_where wsX11_isOne := goodIn_r _ [7, 8, 9, 10, 6, 11, 12, 13, 14, 15, 50, 51, 52, 53, 54, 55, 56, 57, 58, 59, 60, 61, 62, 63, 64, 65, 66, 67] (by decide +kernel) (by decide +kernel)
set_option maxRecDepth 20000 in
theorem gX11_where_X11_isOne : GoodIn wsX11_where (wsV RX11 123 RX11 yX11_isOne wsX11_isOne) := goodIn_app (goodIn_of _ (by decide +kernel)) ggX11_where_X11_isOne
set_option maxRecDepth 20000 in
theorem ggX5_copyFrom_X4_copyFrom : GoodIn wsX5_copyFrom wsX4_copyFrom := goodIn_r _ [31, 32, 33, 34, 35, 36, 37, 66, 67] (by decide +kernel) (by decide +kernel)
set_option maxRecDepth 20000 in
theorem gX5_copyFrom_X4_copyFrom : GoodIn wsX5_copyFrom (wsV RX5 66 RX4 yX4_copyFrom wsX4_copyFrom) := goodIn_app (goodIn_of _ (by decide +kernel)) ggX5_copyFrom_X4_copyFrom
set_option maxRecDepth 20000 in
theorem ggX5_copyFrom_X5_copyLine : GoodIn wsX5_copyFrom wsX5_copyLine := goodIn_r _ [9, 10, 11, 12, 13, 14, 15, 16, 17, 18, 19, 20, 21, 22, 23, 24, 25, 26, 50, 51, 52, 53, 54, 55, 56, 57, 58, 59, 60, 61, 62, 63, 64, 65] (by decide +kernel) (by decide +kernel)
set_option maxRecDepth 20000 in
theorem gX5_copyFrom_X5_copyLine : GoodIn wsX5_copyFrom (wsV RX5 62 RX5 yX5_copyLine wsX5_copyLine) := goodIn_app (goodIn_of _ (by decide +kernel)) ggX5_copyFrom_X5_copyLine
set_option maxRecDepth 20000 in
theorem ggX5_copyFrom_X7_copyFrom : GoodIn wsX5_copyFrom wsX7_copyFrom := goodIn_r _ [42, 43, 44, 45, 46, 47, 48, 49, 35, 36, 37, 68, 69, 70, 71, 72] (by decide +kernel) (by decide +kernel)
set_option maxRecDepth 20000 in
theorem gX5_copyFrom_X7_copyFrom : GoodIn wsX5_copyFrom (wsV RX5 69 RX7 yX7_copyFrom wsX7_copyFrom) := goodIn_app (goodIn_of _ (by decide +kernel)) ggX5_copyFrom_X7_copyFrom
set_option maxRecDepth 20000 in
theorem ggX5_copyLine_X8_copyFrom : GoodIn wsX5_copyLine wsX8_copyFrom := goodIn_r _ [9, 10, 11, 12, 13, 14, 15, 16, 17, 26, 27, 28, 29, 30, 31, 32, 33] (by decide +kernel) (by decide +kernel)
set_option maxRecDepth 20000 in
theorem gX5_copyLine_X8_copyFrom : GoodIn wsX5_copyLine (wsV RX5 58 RX8 yX8_copyFrom wsX8_copyFrom) := goodIn_app (goodIn_of _ (by decide +kernel)) ggX5_copyLine_X8_copyFrom
set_option maxRecDepth 20000 in
theorem ggX5_init_X4_init : GoodIn wsX5_init wsX4_init := goodIn_r _ [22, 23, 2, 3, 24, 25, 26, 47, 48] (by decide +kernel) (by decide +kernel)
set_option maxRecDepth 20000 in
theorem gX5_init_X4_init_n29 : GoodIn wsX5_init (wsX4_init) := ggX5_init_X4_init
set_option maxRecDepth 20000 in
theorem ggX5_init_X7_init : GoodIn wsX5_init wsX7_init := goodIn_r _ [29, 30, 2, 3, 31, 32, 33, 34, 24, 35, 49, 50, 51, 52, 53] (by decide +kernel) (by decide +kernel)
set_option maxRecDepth 20000 in
theorem gX5_init_X7_init : GoodIn wsX5_init (wsX7_init) := ggX5_init_X7_init
set_option maxRecDepth 20000 in
theorem ggX5_init_X8_init : GoodIn wsX5_init wsX8_init := goodIn_r _ [37, 38, 2, 3] (by decide +kernel) (by decide +kernel)
set_option maxRecDepth 20000 in
theorem gX5_init_X8_init_n49 : GoodIn wsX5_init (wsX8_init) := ggX5_init_X8_init
set_option maxRecDepth 20000 in
theorem ggX5_keep_X4_push : GoodIn wsX5_keep wsX4_push := goodIn_r _ [8, 9, 10, 11, 12, 13, 14, 15, 16, 17, 18, 19, 28, 29, 30, 31, 32, 33, 34, 35, 36, 37] (by decide +kernel) (by decide +kernel)
set_option maxRecDepth 20000 in
theorem gX5_keep_X4_push : GoodIn wsX5_keep (wsV RX5 76 RX4 yX4_push wsX4_push) := goodIn_app (goodIn_of _ (by decide +kernel)) ggX5_keep_X4_push
set_option maxRecDepth 20000 in
theorem ggX5_takeBack_X4_pop : GoodIn wsX5_takeBack wsX4_pop := goodIn_r _ [8, 9, 10, 11, 12, 13, 14, 15, 24, 25, 26, 27, 28, 29, 30, 31, 32, 33] (by decide +kernel) (by decide +kernel)
set_option maxRecDepth 20000 in
theorem gX5_takeBack_X4_pop : GoodIn wsX5_takeBack (wsV RX5 80 RX4 yX4_pop wsX4_pop) := goodIn_app (goodIn_of _ (by decide +kernel)) ggX5_takeBack_X4_pop
set_option maxRecDepth 20000 in
theorem ggX5_welcome_X8_begin : GoodIn wsX5_welcome wsX8_begin := goodIn_r _ [9, 10, 11, 12, 13, 14, 15, 16, 17, 28, 29, 30, 31, 32, 33, 34, 35] (by decide +kernel) (by decide +kernel)
set_option maxRecDepth 20000 in
theorem gX5_welcome_X8_begin : GoodIn wsX5_welcome (wsV RX5 54 RX8 yX8_begin wsX8_begin) := goodIn_app (goodIn_of _ (by decide +kernel)) ggX5_welcome_X8_begin
set_option maxRecDepth 20000 in
theorem ggX6_nextToken_X6_skipBlanks : GoodIn wsX6_nextToken wsX6_skipBlanks := goodIn_r _ [10, 1, 3, 5, 26, 27, 28, 29, 30, 31, 32] (by decide +kernel) (by decide +kernel)
set_option maxRecDepth 20000 in
theorem gX6_nextToken_X6_skipBlanks : GoodIn wsX6_nextToken (wsV RX6 38 RX6 yX6_skipBlanks wsX6_skipBlanks) := goodIn_app (goodIn_of _ (by decide +kernel)) ggX6_nextToken_X6_skipBlanks
set_option maxRecDepth 20000 in
theorem ggX6_takeItem_X6_nextToken : GoodIn wsX6_takeItem wsX6_nextToken := goodIn_r _ [9, 10, 2, 11, 1, 12, 13, 14, 15, 8, 16, 17, 18, 19, 20, 21, 22, 23, 24, 25, 26, 27, 28, 29, 30, 31, 174, 175, 176, 177, 178, 179, 180] (by decide +kernel) (by decide +kernel)
set_option maxRecDepth 20000 in
theorem gX6_takeItem_X6_nextToken : GoodIn wsX6_takeItem (wsV RX6 41 RX6 yX6_nextToken wsX6_nextToken) := goodIn_app (goodIn_of _ (by decide +kernel)) ggX6_takeItem_X6_nextToken
set_option maxRecDepth 20000 in
theorem ggX6_takeRace_X6_skipBlanks : GoodIn wsX6_takeRace wsX6_skipBlanks := goodIn_r _ [20, 1, 3, 16, 178, 179, 180, 181, 182, 183, 184] (by decide +kernel) (by decide +kernel)
set_option maxRecDepth 20000 in
theorem gX6_takeRace_X6_skipBlanks : GoodIn wsX6_takeRace (wsV RX6 38 RX6 yX6_skipBlanks wsX6_skipBlanks) := goodIn_app (goodIn_of _ (by decide +kernel)) ggX6_takeRace_X6_skipBlanks
set_option maxRecDepth 20000 in
theorem ggX6_takeRace_X6_takeItem : GoodIn wsX6_takeRace wsX6_takeItem := goodIn_r _ [8, 9, 10, 2, 11, 12, 13, 14, 7, 15, 1, 3, 16, 17, 18, 19, 20, 21, 22, 23, 24, 25, 26, 27, 28, 29, 30, 31, 32, 33, 34, 35, 36, 37, 38, 39, 40, 41, 42, 43, 44, 45, 46, 47, 48, 49, 50, 51, 52, 53, 54, 55, 56, 57, 58, 59, 60, 61, 62, 63, 64, 65, 66, 67, 68, 69, 70, 71, 72, 73, 74, 75, 76, 77, 78, 79, 80, 81, 82, 83, 84, 85, 86, 87, 88, 89, 90, 91, 92, 93, 94, 95, 96, 97, 98, 99, 100, 101, 102, 103, 104, 105, 106, 107, 108, 109, 110, 111, 112, 113, 114, 115, 116, 117, 118, 119, 120, 121, 122, 123, 124, 125, 126, 127, 128, 129, 130, 131, 132, 133, 134, 135, 136, 137, 138, 139, 140, 141, 142, 143, 144, 145, 146, 147, 148, 149, 150, 151, 152, 153, 154, 155, 156, 157, 158, 159, 160, 161, 162, 163, 164, 165, 166, 167, 168, 169, 170, 171, 172, 173, 174, 175, 176, 177, 178, 179, 180, 181, 182, 183, 184, 185, 186, 187, 188, 189, 190, 191, 192, 193, 194, 195, 196, 197, 198, 199, 200, 201, 202, 203, 204, 205, 206, 207] (by decide +kernel) (by decide +kernel)
set_option maxRecDepth 20000 in
theorem gX6_takeRace_X6_takeItem : GoodIn wsX6_takeRace (wsV RX6 34 RX6 yX6_takeItem wsX6_takeItem) := goodIn_app (goodIn_of _ (by decide +kernel)) ggX6_takeRace_X6_takeItem
