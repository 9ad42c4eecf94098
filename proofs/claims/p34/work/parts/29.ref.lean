set_option maxRecDepth 20000 in
theorem ggX11_races_X11_bad : GoodIn wsX11_races wsX11_bad := goodIn_r _ [18, 19, 57, 58, 59, 60, 61, 62, 63, 64, 65, 66, 67, 68, 69, 70, 71, 72, 73, 74] (by decide +kernel) (by decide +kernel)
set_option maxRecDepth 20000 in
theorem gX11_races_X11_bad : GoodIn wsX11_races (wsV RX11 68 RX11 yX11_bad wsX11_bad) := goodIn_app (goodIn_of _ (by decide +kernel)) ggX11_races_X11_bad
set_option maxRecDepth 20000 in
theorem ggX11_races_X11_goTick : GoodIn wsX11_races wsX11_goTick := goodIn_r _ [35, 36, 37, 13, 38, 39, 40, 41, 42, 43, 44, 45, 46, 47, 48, 49, 50, 51, 52, 53] (by decide +kernel) (by decide +kernel)
set_option maxRecDepth 20000 in
theorem gX11_races_X11_goTick : GoodIn wsX11_races (va_wsS RX11 109 yX11_goTick wsX11_goTick) := goodIn_app (goodIn_of _ (by decide +kernel)) ggX11_races_X11_goTick
set_option maxRecDepth 20000 in
theorem ggX11_races_X11_in : GoodIn wsX11_races wsX11_in := goodIn_r _ [14] (by decide +kernel) (by decide +kernel)
set_option maxRecDepth 20000 in
theorem gX11_races_X11_in : GoodIn wsX11_races (va_wsS RX11 56 yX11_in wsX11_in) := goodIn_app (goodIn_of _ (by decide +kernel)) ggX11_races_X11_in
set_option maxRecDepth 20000 in
theorem ggX11_races_X11_isOne : GoodIn wsX11_races wsX11_isOne := goodIn_r _ [28, 29, 30, 31, 13, 32, 24, 11, 12, 14, 57, 58, 59, 60, 61, 62, 63, 64, 65, 66, 67, 68, 69, 70, 71, 72, 73, 74] (by decide +kernel) (by decide +kernel)
set_option maxRecDepth 20000 in
theorem gX11_races_X11_isOne : GoodIn wsX11_races (wsV RX11 123 RX11 yX11_isOne wsX11_isOne) := goodIn_app (goodIn_of _ (by decide +kernel)) ggX11_races_X11_isOne
set_option maxRecDepth 20000 in
theorem ggX11_races_X11_layHand : GoodIn wsX11_races wsX11_layHand := goodIn_r _ [23, 8, 24, 57, 58, 59, 60, 61, 62, 63, 64, 65, 66, 67, 68, 69, 70, 71, 72, 73, 74] (by decide +kernel) (by decide +kernel)
set_option maxRecDepth 20000 in
theorem gX11_races_X11_layHand : GoodIn wsX11_races (wsV RX11 137 RX11 yX11_layHand wsX11_layHand) := goodIn_app (goodIn_of _ (by decide +kernel)) ggX11_races_X11_layHand
set_option maxRecDepth 20000 in
theorem ggX11_races_X11_manyHome : GoodIn wsX11_races wsX11_manyHome := goodIn_r _ [56, 36, 37, 13, 38] (by decide +kernel) (by decide +kernel)
set_option maxRecDepth 20000 in
theorem gX11_races_X11_manyHome : GoodIn wsX11_races (va_wsS RX11 119 yX11_manyHome wsX11_manyHome) := goodIn_app (goodIn_of _ (by decide +kernel)) ggX11_races_X11_manyHome
set_option maxRecDepth 20000 in
theorem ggX11_read_X11_begin : GoodIn wsX11_read wsX11_begin := goodIn_r _ [42] (by decide +kernel) (by decide +kernel)
set_option maxRecDepth 20000 in
theorem gX11_read_X11_begin : GoodIn wsX11_read (va_wsS RX11 48 yX11_begin wsX11_begin) := goodIn_app (goodIn_of _ (by decide +kernel)) ggX11_read_X11_begin
set_option maxRecDepth 20000 in
theorem ggX11_read_X11_goBehind : GoodIn wsX11_read wsX11_goBehind := goodIn_r _ [35, 1, 13, 6, 7, 8, 9, 10, 11, 12, 2, 14, 15, 16, 17, 18, 19, 20, 21, 22, 23, 24, 25, 26, 27, 90, 91, 92, 93, 94, 95, 96, 97, 98, 99, 100, 101, 102, 103, 104, 105, 106, 107] (by decide +kernel) (by decide +kernel)
set_option maxRecDepth 20000 in
theorem gX11_read_X11_goBehind : GoodIn wsX11_read (wsV RX11 238 RX11 yX11_goBehind wsX11_goBehind) := goodIn_app (goodIn_of _ (by decide +kernel)) ggX11_read_X11_goBehind
set_option maxRecDepth 20000 in
theorem ggX11_read_X11_lookAt : GoodIn wsX11_read wsX11_lookAt := goodIn_r _ [10, 1, 11, 12, 13, 2, 14, 15, 16, 9, 17, 18, 19, 20, 21, 22, 23, 24, 25, 26, 27, 90, 91, 92, 93, 94, 95, 96, 97, 98, 99, 100, 101, 102, 103, 104, 105, 106, 107] (by decide +kernel) (by decide +kernel)
set_option maxRecDepth 20000 in
theorem gX11_read_X11_lookAt : GoodIn wsX11_read (wsV RX11 235 RX11 yX11_lookAt wsX11_lookAt) := goodIn_app (goodIn_of _ (by decide +kernel)) ggX11_read_X11_lookAt
set_option maxRecDepth 20000 in
theorem ggX11_read_X11_spells : GoodIn wsX11_read wsX11_spells := goodIn_r _ [31, 2, 13, 12, 1, 90, 91, 92, 93, 94, 95, 96, 97, 98, 99, 100, 101, 102, 103, 104, 105, 106, 107] (by decide +kernel) (by decide +kernel)
set_option maxRecDepth 20000 in
theorem gX11_read_X11_spells : GoodIn wsX11_read (wsV RX11 245 RX11 yX11_spells wsX11_spells) := goodIn_app (goodIn_of _ (by decide +kernel)) ggX11_read_X11_spells
set_option maxRecDepth 20000 in
theorem ggX11_read_X11_takes : GoodIn wsX11_read wsX11_takes := goodIn_r _ [39, 2, 14, 4, 20, 21, 9, 22, 32, 33, 34, 35, 1, 13, 6, 7, 8, 10, 11, 12, 15, 16, 17, 18, 19, 23, 24, 25, 26, 27, 90, 91, 92, 93, 94, 95, 96, 97, 98, 99, 100, 101, 102, 103, 104, 105, 106, 107] (by decide +kernel) (by decide +kernel)
set_option maxRecDepth 20000 in
theorem gX11_read_X11_takes : GoodIn wsX11_read (wsV RX11 241 RX11 yX11_takes wsX11_takes) := goodIn_app (goodIn_of _ (by decide +kernel)) ggX11_read_X11_takes
set_option maxRecDepth 20000 in
theorem ggX11_read_X11_takesItem : GoodIn wsX11_read wsX11_takesItem := goodIn_r _ [46, 28, 29, 30, 9, 31, 2, 13, 12, 1, 47, 48, 49, 50, 3, 4, 32, 33, 34, 35, 6, 7, 8, 10, 11, 14, 15, 16, 17, 18, 19, 20, 21, 22, 23, 24, 25, 26, 27, 36, 37, 38, 39, 51, 52, 53, 54, 55, 56, 57, 58, 59, 60, 61, 62, 63, 64, 65, 66, 67, 68, 69, 70, 71, 72, 73, 74, 75, 76, 77, 78, 79, 80, 81, 82, 83, 84, 85, 86, 87, 88, 89, 90, 91, 92, 93, 94, 95, 96, 97, 98, 99, 100, 101, 102, 103, 104, 105, 106, 107] (by decide +kernel) (by decide +kernel)
set_option maxRecDepth 20000 in
theorem gX11_read_X11_takesItem : GoodIn wsX11_read (wsV RX11 262 RX11 yX11_takesItem wsX11_takesItem) := goodIn_app (goodIn_of _ (by decide +kernel)) ggX11_read_X11_takesItem
set_option maxRecDepth 20000 in
theorem ggX11_stumble_X11_bad : GoodIn wsX11_stumble wsX11_bad := goodIn_r _ [21, 22, 54, 55, 56, 57, 58, 59, 60, 61, 62, 63, 64, 65, 66, 67, 68, 69, 70, 71] (by decide +kernel) (by decide +kernel)
set_option maxRecDepth 20000 in
theorem gX11_stumble_X11_bad : GoodIn wsX11_stumble (wsV RX11 68 RX11 yX11_bad wsX11_bad) := goodIn_app (goodIn_of _ (by decide +kernel)) ggX11_stumble_X11_bad
set_option maxRecDepth 20000 in
theorem ggX11_stumble_X11_fraction : GoodIn wsX11_stumble wsX11_fraction := goodIn_r _ [51, 52, 53, 54, 55, 56, 57, 58, 59, 60, 61, 62, 63, 64, 65, 66, 67, 68, 69, 70, 71] (by decide +kernel) (by decide +kernel)
set_option maxRecDepth 20000 in
theorem gX11_stumble_X11_fraction : GoodIn wsX11_stumble (wsV RX11 187 RX11 yX11_fraction wsX11_fraction) := goodIn_app (goodIn_of _ (by decide +kernel)) ggX11_stumble_X11_fraction
set_option maxRecDepth 20000 in
theorem ggX11_stumble_X11_goOne : GoodIn wsX11_stumble wsX11_goOne := goodIn_r _ [35, 36, 37, 8, 38, 39, 40, 41, 42, 43, 44, 45, 46, 47] (by decide +kernel) (by decide +kernel)
set_option maxRecDepth 20000 in
theorem gX11_stumble_X11_goOne : GoodIn wsX11_stumble (va_wsS RX11 105 yX11_goOne wsX11_goOne) := goodIn_app (goodIn_of _ (by decide +kernel)) ggX11_stumble_X11_goOne
set_option maxRecDepth 20000 in
theorem ggX11_stumble_X11_has : GoodIn wsX11_stumble wsX11_has := goodIn_r _ [29] (by decide +kernel) (by decide +kernel)
set_option maxRecDepth 20000 in
theorem gX11_stumble_X11_has : GoodIn wsX11_stumble (va_wsS RX11 161 yX11_has wsX11_has) := goodIn_app (goodIn_of _ (by decide +kernel)) ggX11_stumble_X11_has
set_option maxRecDepth 20000 in
theorem ggX11_stumble_X11_in : GoodIn wsX11_stumble wsX11_in := goodIn_r _ [17] (by decide +kernel) (by decide +kernel)
set_option maxRecDepth 20000 in
theorem gX11_stumble_X11_in : GoodIn wsX11_stumble (va_wsS RX11 56 yX11_in wsX11_in) := goodIn_app (goodIn_of _ (by decide +kernel)) ggX11_stumble_X11_in
set_option maxRecDepth 20000 in
theorem ggX11_stumble_X11_isHome : GoodIn wsX11_stumble wsX11_isHome := goodIn_r _ [32] (by decide +kernel) (by decide +kernel)
set_option maxRecDepth 20000 in
theorem gX11_stumble_X11_isHome : GoodIn wsX11_stumble (va_wsS RX11 101 yX11_isHome wsX11_isHome) := goodIn_app (goodIn_of _ (by decide +kernel)) ggX11_stumble_X11_isHome
set_option maxRecDepth 20000 in
theorem ggX11_stumble_X11_isOne : GoodIn wsX11_stumble wsX11_isOne := goodIn_r _ [9, 10, 11, 12, 8, 13, 14, 15, 16, 17, 54, 55, 56, 57, 58, 59, 60, 61, 62, 63, 64, 65, 66, 67, 68, 69, 70, 71] (by decide +kernel) (by decide +kernel)
set_option maxRecDepth 20000 in
theorem gX11_stumble_X11_isOne : GoodIn wsX11_stumble (wsV RX11 123 RX11 yX11_isOne wsX11_isOne) := goodIn_app (goodIn_of _ (by decide +kernel)) ggX11_stumble_X11_isOne
set_option maxRecDepth 20000 in
theorem ggX11_stumble_X11_layHand : GoodIn wsX11_stumble wsX11_layHand := goodIn_r _ [26, 4, 14, 54, 55, 56, 57, 58, 59, 60, 61, 62, 63, 64, 65, 66, 67, 68, 69, 70, 71] (by decide +kernel) (by decide +kernel)
set_option maxRecDepth 20000 in
theorem gX11_stumble_X11_layHand : GoodIn wsX11_stumble (wsV RX11 137 RX11 yX11_layHand wsX11_layHand) := goodIn_app (goodIn_of _ (by decide +kernel)) ggX11_stumble_X11_layHand
set_option maxRecDepth 20000 in
theorem ggX11_takesGo_X11_goBehind : GoodIn wsX11_takesGo wsX11_goBehind := goodIn_r _ [7, 8, 9, 10, 11, 12, 6, 13, 14, 15, 16, 17, 18, 19, 20, 21, 22, 23, 24, 25, 26, 27, 28, 29, 30, 59, 60, 61, 62, 63, 64, 65, 66, 67, 68, 69, 70, 71, 72, 73, 74, 75, 76] (by decide +kernel) (by decide +kernel)
set_option maxRecDepth 20000 in
theorem gX11_takesGo_X11_goBehind : GoodIn wsX11_takesGo (wsV RX11 238 RX11 yX11_goBehind wsX11_goBehind) := goodIn_app (goodIn_of _ (by decide +kernel)) ggX11_takesGo_X11_goBehind
set_option maxRecDepth 20000 in
theorem ggX11_takesGo_X11_goTicks : GoodIn wsX11_takesGo wsX11_goTicks := goodIn_r _ [37, 38, 39, 6, 40, 41, 42, 43, 44, 45, 46, 47, 48, 49, 50, 51, 52, 53, 54, 55, 56, 57, 58] (by decide +kernel) (by decide +kernel)
set_option maxRecDepth 20000 in
theorem gX11_takesGo_X11_goTicks : GoodIn wsX11_takesGo (va_wsS RX11 116 yX11_goTicks wsX11_goTicks) := goodIn_app (goodIn_of _ (by decide +kernel)) ggX11_takesGo_X11_goTicks
set_option maxRecDepth 20000 in
theorem ggX11_takesGo_X11_takes : GoodIn wsX11_takesGo wsX11_takes := goodIn_r _ [34, 16, 17, 2, 23, 24, 6, 25, 3, 4, 5, 7, 8, 9, 10, 11, 12, 13, 14, 15, 18, 19, 20, 21, 22, 26, 27, 28, 29, 30, 59, 60, 61, 62, 63, 64, 65, 66, 67, 68, 69, 70, 71, 72, 73, 74, 75, 76] (by decide +kernel) (by decide +kernel)
set_option maxRecDepth 20000 in
theorem gX11_takesGo_X11_takes : GoodIn wsX11_takesGo (wsV RX11 241 RX11 yX11_takes wsX11_takes) := goodIn_app (goodIn_of _ (by decide +kernel)) ggX11_takesGo_X11_takes
set_option maxRecDepth 20000 in
theorem ggX11_takesItem_X11_spells : GoodIn wsX11_takesItem wsX11_spells := goodIn_r _ [5, 6, 7, 8, 9, 82, 83, 84, 85, 86, 87, 88, 89, 90, 91, 92, 93, 94, 95, 96, 97, 98, 99] (by decide +kernel) (by decide +kernel)
set_option maxRecDepth 20000 in
theorem gX11_takesItem_X11_spells : GoodIn wsX11_takesItem (wsV RX11 245 RX11 yX11_spells wsX11_spells) := goodIn_app (goodIn_of _ (by decide +kernel)) ggX11_takesItem_X11_spells
set_option maxRecDepth 20000 in
theorem ggX11_takesItem_X11_takesGo : GoodIn wsX11_takesItem wsX11_takesGo := goodIn_r _ [60, 14, 15, 16, 17, 18, 4, 19, 9, 7, 20, 21, 22, 23, 24, 8, 6, 25, 26, 27, 28, 29, 30, 31, 32, 33, 34, 35, 36, 37, 38, 39, 40, 41, 42, 61, 62, 63, 64, 65, 66, 54, 55, 56, 67, 68, 69, 70, 71, 72, 73, 74, 75, 76, 77, 78, 79, 80, 81, 82, 83, 84, 85, 86, 87, 88, 89, 90, 91, 92, 93, 94, 95, 96, 97, 98, 99] (by decide +kernel) (by decide +kernel)
set_option maxRecDepth 20000 in
theorem gX11_takesItem_X11_takesGo : GoodIn wsX11_takesItem (wsV RX11 259 RX11 yX11_takesGo wsX11_takesGo) := goodIn_app (goodIn_of _ (by decide +kernel)) ggX11_takesItem_X11_takesGo
set_option maxRecDepth 20000 in
theorem ggX11_takesItem_X11_takesOne : GoodIn wsX11_takesItem wsX11_takesOne := goodIn_r _ [13, 14, 15, 16, 17, 18, 4, 19, 9, 7, 20, 21, 22, 23, 24, 8, 6, 25, 26, 27, 28, 29, 30, 31, 32, 33, 34, 35, 36, 37, 38, 39, 40, 41, 42, 43, 44, 45, 82, 83, 84, 85, 86, 87, 88, 89, 90, 91, 92, 93, 94, 95, 96, 97, 98, 99] (by decide +kernel) (by decide +kernel)
set_option maxRecDepth 20000 in
theorem gX11_takesItem_X11_takesOne : GoodIn wsX11_takesItem (wsV RX11 249 RX11 yX11_takesOne wsX11_takesOne) := goodIn_app (goodIn_of _ (by decide +kernel)) ggX11_takesItem_X11_takesOne
set_option maxRecDepth 20000 in
theorem ggX11_takesItem_X11_takesSpeed : GoodIn wsX11_takesItem wsX11_takesSpeed := goodIn_r _ [49, 14, 15, 16, 17, 18, 4, 19, 9, 7, 20, 21, 22, 23, 24, 8, 6, 25, 26, 27, 28, 29, 30, 31, 32, 33, 34, 35, 36, 37, 38, 39, 40, 41, 42, 82, 83, 84, 85, 86, 87, 88, 89, 90, 91, 92, 93, 94, 95, 96, 97, 98, 99] (by decide +kernel) (by decide +kernel)
set_option maxRecDepth 20000 in
theorem gX11_takesItem_X11_takesSpeed : GoodIn wsX11_takesItem (wsV RX11 253 RX11 yX11_takesSpeed wsX11_takesSpeed) := goodIn_app (goodIn_of _ (by decide +kernel)) ggX11_takesItem_X11_takesSpeed
set_option maxRecDepth 20000 in
theorem ggX11_takesItem_X11_takesStart : GoodIn wsX11_takesItem wsX11_takesStart := goodIn_r _ [53, 6, 25, 14, 15, 16, 17, 18, 4, 19, 9, 7, 20, 21, 22, 23, 24, 8, 26, 27, 28, 29, 30, 31, 32, 33, 34, 35, 36, 37, 38, 54, 55, 56, 39, 40, 41, 42, 82, 83, 84, 85, 86, 87, 88, 89, 90, 91, 92, 93, 94, 95, 96, 97, 98, 99] (by decide +kernel) (by decide +kernel)
set_option maxRecDepth 20000 in
theorem gX11_takesItem_X11_takesStart : GoodIn wsX11_takesItem (wsV RX11 256 RX11 yX11_takesStart wsX11_takesStart) := goodIn_app (goodIn_of _ (by decide +kernel)) ggX11_takesItem_X11_takesStart
set_option maxRecDepth 20000 in
theorem ggX11_takesOne_X11_goBehind : GoodIn wsX11_takesOne wsX11_goBehind := goodIn_r _ [7, 8, 9, 10, 11, 12, 6, 13, 14, 15, 16, 17, 18, 19, 20, 21, 22, 23, 24, 25, 26, 27, 28, 29, 30, 38, 39, 40, 41, 42, 43, 44, 45, 46, 47, 48, 49, 50, 51, 52, 53, 54, 55] (by decide +kernel) (by decide +kernel)
set_option maxRecDepth 20000 in
theorem gX11_takesOne_X11_goBehind : GoodIn wsX11_takesOne (wsV RX11 238 RX11 yX11_goBehind wsX11_goBehind) := goodIn_app (goodIn_of _ (by decide +kernel)) ggX11_takesOne_X11_goBehind
set_option maxRecDepth 20000 in
theorem ggX11_takesOne_X11_layOne : GoodIn wsX11_takesOne wsX11_layOne := goodIn_r _ [37] (by decide +kernel) (by decide +kernel)
set_option maxRecDepth 20000 in
theorem gX11_takesOne_X11_layOne : GoodIn wsX11_takesOne (va_wsS RX11 82 yX11_layOne wsX11_layOne) := goodIn_app (goodIn_of _ (by decide +kernel)) ggX11_takesOne_X11_layOne
set_option maxRecDepth 20000 in
theorem ggX11_takesOne_X11_takes : GoodIn wsX11_takesOne wsX11_takes := goodIn_r _ [34, 16, 17, 2, 23, 24, 6, 25, 3, 4, 5, 7, 8, 9, 10, 11, 12, 13, 14, 15, 18, 19, 20, 21, 22, 26, 27, 28, 29, 30, 38, 39, 40, 41, 42, 43, 44, 45, 46, 47, 48, 49, 50, 51, 52, 53, 54, 55] (by decide +kernel) (by decide +kernel)
set_option maxRecDepth 20000 in
theorem gX11_takesOne_X11_takes : GoodIn wsX11_takesOne (wsV RX11 241 RX11 yX11_takes wsX11_takes) := goodIn_app (goodIn_of _ (by decide +kernel)) ggX11_takesOne_X11_takes
set_option maxRecDepth 20000 in
theorem ggX11_takesSpeed_X11_goBehind : GoodIn wsX11_takesSpeed wsX11_goBehind := goodIn_r _ [7, 8, 9, 10, 11, 12, 6, 13, 14, 15, 16, 17, 18, 19, 20, 21, 22, 23, 24, 25, 26, 27, 28, 29, 30, 35, 36, 37, 38, 39, 40, 41, 42, 43, 44, 45, 46, 47, 48, 49, 50, 51, 52] (by decide +kernel) (by decide +kernel)
set_option maxRecDepth 20000 in
theorem gX11_takesSpeed_X11_goBehind : GoodIn wsX11_takesSpeed (wsV RX11 238 RX11 yX11_goBehind wsX11_goBehind) := goodIn_app (goodIn_of _ (by decide +kernel)) ggX11_takesSpeed_X11_goBehind
set_option maxRecDepth 20000 in
theorem ggX11_takesSpeed_X11_takes : GoodIn wsX11_takesSpeed wsX11_takes := goodIn_r _ [34, 16, 17, 2, 23, 24, 6, 25, 3, 4, 5, 7, 8, 9, 10, 11, 12, 13, 14, 15, 18, 19, 20, 21, 22, 26, 27, 28, 29, 30, 35, 36, 37, 38, 39, 40, 41, 42, 43, 44, 45, 46, 47, 48, 49, 50, 51, 52] (by decide +kernel) (by decide +kernel)
set_option maxRecDepth 20000 in
theorem gX11_takesSpeed_X11_takes : GoodIn wsX11_takesSpeed (wsV RX11 241 RX11 yX11_takes wsX11_takes) := goodIn_app (goodIn_of _ (by decide +kernel)) ggX11_takesSpeed_X11_takes
set_option maxRecDepth 20000 in
theorem ggX11_takesStart_X11_goBehind : GoodIn wsX11_takesStart wsX11_goBehind := goodIn_r _ [9, 10, 11, 12, 13, 14, 8, 15, 16, 17, 1, 2, 18, 19, 20, 21, 22, 23, 24, 25, 26, 27, 28, 29, 30, 38, 39, 40, 41, 42, 43, 44, 45, 46, 47, 48, 49, 50, 51, 52, 53, 54, 55] (by decide +kernel) (by decide +kernel)
set_option maxRecDepth 20000 in
theorem gX11_takesStart_X11_goBehind : GoodIn wsX11_takesStart (wsV RX11 238 RX11 yX11_goBehind wsX11_goBehind) := goodIn_app (goodIn_of _ (by decide +kernel)) ggX11_takesStart_X11_goBehind
set_option maxRecDepth 20000 in
theorem ggX11_takesStart_X11_in : GoodIn wsX11_takesStart wsX11_in := goodIn_r _ [25] (by decide +kernel) (by decide +kernel)
set_option maxRecDepth 20000 in
theorem gX11_takesStart_X11_in : GoodIn wsX11_takesStart (va_wsS RX11 56 yX11_in wsX11_in) := goodIn_app (goodIn_of _ (by decide +kernel)) ggX11_takesStart_X11_in
set_option maxRecDepth 20000 in
theorem ggX11_takesStart_X11_isHome : GoodIn wsX11_takesStart wsX11_isHome := goodIn_r _ [33] (by decide +kernel) (by decide +kernel)
set_option maxRecDepth 20000 in
theorem gX11_takesStart_X11_isHome : GoodIn wsX11_takesStart (va_wsS RX11 101 yX11_isHome wsX11_isHome) := goodIn_app (goodIn_of _ (by decide +kernel)) ggX11_takesStart_X11_isHome
set_option maxRecDepth 20000 in
theorem ggX11_takesStart_X11_takes : GoodIn wsX11_takesStart wsX11_takes := goodIn_r _ [37, 1, 2, 4, 23, 24, 8, 25, 5, 6, 7, 9, 10, 11, 12, 13, 14, 15, 16, 17, 18, 19, 20, 21, 22, 26, 27, 28, 29, 30, 38, 39, 40, 41, 42, 43, 44, 45, 46, 47, 48, 49, 50, 51, 52, 53, 54, 55] (by decide +kernel) (by decide +kernel)
set_option maxRecDepth 20000 in
theorem gX11_takesStart_X11_takes : GoodIn wsX11_takesStart (wsV RX11 241 RX11 yX11_takes wsX11_takes) := goodIn_app (goodIn_of _ (by decide +kernel)) ggX11_takesStart_X11_takes
set_option maxRecDepth 20000 in
theorem ggX11_takes_X11_goBehind : GoodIn wsX11_takes wsX11_goBehind := goodIn_r _ [11, 12, 13, 14, 15, 16, 6, 17, 18, 19, 1, 2, 20, 21, 22, 23, 24, 4, 5, 7, 25, 26, 27, 28, 29, 30, 31, 32, 33, 34, 35, 36, 37, 38, 39, 40, 41, 42, 43, 44, 45, 46, 47] (by decide +kernel) (by decide +kernel)
set_option maxRecDepth 20000 in
theorem gX11_takes_X11_goBehind : GoodIn wsX11_takes (wsV RX11 238 RX11 yX11_goBehind wsX11_goBehind) := goodIn_app (goodIn_of _ (by decide +kernel)) ggX11_takes_X11_goBehind
set_option maxRecDepth 20000 in
theorem ggX11_takes_X11_in : GoodIn wsX11_takes wsX11_in := goodIn_r _ [7] (by decide +kernel) (by decide +kernel)
set_option maxRecDepth 20000 in
theorem gX11_takes_X11_in : GoodIn wsX11_takes (va_wsS RX11 56 yX11_in wsX11_in) := goodIn_app (goodIn_of _ (by decide +kernel)) ggX11_takes_X11_in
theorem dX11_fraction_0 : decode cX11_fraction 0 = .ok (.lload_n 1, 1) := by decide +kernel
theorem dX11_fraction_1 : decode cX11_fraction 1 = .ok (.lstore 5, 2) := by decide +kernel
theorem dX11_fraction_10 : decode cX11_fraction 10 = .ok (.ifCond .eq 21, 3) := by decide +kernel
theorem dX11_fraction_13 : decode cX11_fraction 13 = .ok (.lload 5, 2) := by decide +kernel
theorem dX11_fraction_15 : decode cX11_fraction 15 = .ok (.lload 7, 2) := by decide +kernel
theorem dX11_fraction_17 : decode cX11_fraction 17 = .ok (.lrem, 1) := by decide +kernel
theorem dX11_fraction_18 : decode cX11_fraction 18 = .ok (.lstore 9, 2) := by decide +kernel
theorem dX11_fraction_20 : decode cX11_fraction 20 = .ok (.lload 7, 2) := by decide +kernel
theorem dX11_fraction_22 : decode cX11_fraction 22 = .ok (.lstore 5, 2) := by decide +kernel
theorem dX11_fraction_24 : decode cX11_fraction 24 = .ok (.lload 9, 2) := by decide +kernel
theorem dX11_fraction_26 : decode cX11_fraction 26 = .ok (.lstore 7, 2) := by decide +kernel
theorem dX11_fraction_28 : decode cX11_fraction 28 = .ok (.goto (-22), 3) := by decide +kernel
theorem dX11_fraction_3 : decode cX11_fraction 3 = .ok (.lload_n 3, 1) := by decide +kernel
theorem dX11_fraction_31 : decode cX11_fraction 31 = .ok (.aload_n 0, 1) := by decide +kernel
theorem dX11_fraction_32 : decode cX11_fraction 32 = .ok (.lload_n 1, 1) := by decide +kernel
theorem dX11_fraction_33 : decode cX11_fraction 33 = .ok (.lload 5, 2) := by decide +kernel
theorem dX11_fraction_35 : decode cX11_fraction 35 = .ok (.ldiv, 1) := by decide +kernel
theorem dX11_fraction_36 : decode cX11_fraction 36 = .ok (.putfield 182, 3) := by decide +kernel
theorem dX11_fraction_39 : decode cX11_fraction 39 = .ok (.aload_n 0, 1) := by decide +kernel
theorem dX11_fraction_4 : decode cX11_fraction 4 = .ok (.lstore 7, 2) := by decide +kernel
theorem dX11_fraction_40 : decode cX11_fraction 40 = .ok (.lload_n 3, 1) := by decide +kernel
theorem dX11_fraction_41 : decode cX11_fraction 41 = .ok (.lload 5, 2) := by decide +kernel
theorem dX11_fraction_43 : decode cX11_fraction 43 = .ok (.ldiv, 1) := by decide +kernel
theorem dX11_fraction_44 : decode cX11_fraction 44 = .ok (.putfield 23, 3) := by decide +kernel
theorem dX11_fraction_47 : decode cX11_fraction 47 = .ok (.return_, 1) := by decide +kernel
theorem dX11_fraction_6 : decode cX11_fraction 6 = .ok (.lload 7, 2) := by decide +kernel
theorem dX11_fraction_8 : decode cX11_fraction 8 = .ok (.lconst 0, 1) := by decide +kernel
theorem dX11_fraction_9 : decode cX11_fraction 9 = .ok (.lcmp, 1) := by decide +kernel
theorem dX11_races_0 : decode cX11_races 0 = .ok (.iload_n 1, 1) := by decide +kernel
theorem dX11_races_1 : decode cX11_races 1 = .ok (.i2l, 1) := by decide +kernel
theorem dX11_races_100 : decode cX11_races 100 = .ok (.l2i, 1) := by decide +kernel
theorem dX11_races_101 : decode cX11_races 101 = .ok (.iastore, 1) := by decide +kernel
theorem dX11_races_102 : decode cX11_races 102 = .ok (.aload_n 0, 1) := by decide +kernel
theorem dX11_races_103 : decode cX11_races 103 = .ok (.getfield 27, 3) := by decide +kernel
theorem dX11_races_106 : decode cX11_races 106 = .ok (.invokestatic 109, 3) := by decide +kernel
theorem dX11_races_109 : decode cX11_races 109 = .ok (.iinc 5 1, 3) := by decide +kernel
theorem dX11_races_112 : decode cX11_races 112 = .ok (.goto (-71), 3) := by decide +kernel
theorem dX11_races_115 : decode cX11_races 115 = .ok (.aload_n 0, 1) := by decide +kernel
theorem dX11_races_116 : decode cX11_races 116 = .ok (.getfield 27, 3) := by decide +kernel
theorem dX11_races_119 : decode cX11_races 119 = .ok (.invokestatic 119, 3) := by decide +kernel
theorem dX11_races_12 : decode cX11_races 12 = .ok (.iload_n 2, 1) := by decide +kernel
theorem dX11_races_122 : decode cX11_races 122 = .ok (.ireturn, 1) := by decide +kernel
theorem dX11_races_13 : decode cX11_races 13 = .ok (.i2l, 1) := by decide +kernel
theorem dX11_races_14 : decode cX11_races 14 = .ok (.lconst 0, 1) := by decide +kernel
theorem dX11_races_15 : decode cX11_races 15 = .ok (.ldc2_w 66, 3) := by decide +kernel
theorem dX11_races_18 : decode cX11_races 18 = .ok (.invokestatic 56, 3) := by decide +kernel
theorem dX11_races_2 : decode cX11_races 2 = .ok (.lconst 0, 1) := by decide +kernel
theorem dX11_races_21 : decode cX11_races 21 = .ok (.ifCond .ne 10, 3) := by decide +kernel
theorem dX11_races_24 : decode cX11_races 24 = .ok (.aload_n 0, 1) := by decide +kernel
theorem dX11_races_25 : decode cX11_races 25 = .ok (.bipush (-2), 2) := by decide +kernel
theorem dX11_races_27 : decode cX11_races 27 = .ok (.invokevirtual 68, 3) := by decide +kernel
theorem dX11_races_3 : decode cX11_races 3 = .ok (.ldc2_w 191, 3) := by decide +kernel
theorem dX11_races_30 : decode cX11_races 30 = .ok (.ireturn, 1) := by decide +kernel
theorem dX11_races_31 : decode cX11_races 31 = .ok (.iload_n 1, 1) := by decide +kernel
theorem dX11_races_32 : decode cX11_races 32 = .ok (.i2l, 1) := by decide +kernel
theorem dX11_races_33 : decode cX11_races 33 = .ok (.lstore_n 3, 1) := by decide +kernel
theorem dX11_races_34 : decode cX11_races 34 = .ok (.aload_n 0, 1) := by decide +kernel
theorem dX11_races_35 : decode cX11_races 35 = .ok (.invokevirtual 137, 3) := by decide +kernel
theorem dX11_races_38 : decode cX11_races 38 = .ok (.iconst 0, 1) := by decide +kernel
theorem dX11_races_39 : decode cX11_races 39 = .ok (.istore 5, 2) := by decide +kernel
theorem dX11_races_41 : decode cX11_races 41 = .ok (.iload 5, 2) := by decide +kernel
theorem dX11_races_43 : decode cX11_races 43 = .ok (.iload_n 2, 1) := by decide +kernel
theorem dX11_races_44 : decode cX11_races 44 = .ok (.if_icmp .ge 71, 3) := by decide +kernel
theorem dX11_races_47 : decode cX11_races 47 = .ok (.lload_n 3, 1) := by decide +kernel
theorem dX11_races_48 : decode cX11_races 48 = .ok (.ldc2_w 193, 3) := by decide +kernel
theorem dX11_races_51 : decode cX11_races 51 = .ok (.lmul, 1) := by decide +kernel
theorem dX11_races_52 : decode cX11_races 52 = .ok (.ldc2_w 195, 3) := by decide +kernel
theorem dX11_races_55 : decode cX11_races 55 = .ok (.ladd, 1) := by decide +kernel
theorem dX11_races_56 : decode cX11_races 56 = .ok (.ldc2_w 197, 3) := by decide +kernel
theorem dX11_races_59 : decode cX11_races 59 = .ok (.lrem, 1) := by decide +kernel
theorem dX11_races_6 : decode cX11_races 6 = .ok (.invokestatic 56, 3) := by decide +kernel
theorem dX11_races_60 : decode cX11_races 60 = .ok (.lstore_n 3, 1) := by decide +kernel
theorem dX11_races_61 : decode cX11_races 61 = .ok (.lload_n 3, 1) := by decide +kernel
theorem dX11_races_62 : decode cX11_races 62 = .ok (.ldc2_w 199, 3) := by decide +kernel
theorem dX11_races_65 : decode cX11_races 65 = .ok (.ldiv, 1) := by decide +kernel
theorem dX11_races_66 : decode cX11_races 66 = .ok (.ldc2_w 185, 3) := by decide +kernel
theorem dX11_races_69 : decode cX11_races 69 = .ok (.lrem, 1) := by decide +kernel
theorem dX11_races_70 : decode cX11_races 70 = .ok (.l2i, 1) := by decide +kernel
theorem dX11_races_71 : decode cX11_races 71 = .ok (.istore 6, 2) := by decide +kernel
theorem dX11_races_73 : decode cX11_races 73 = .ok (.aload_n 0, 1) := by decide +kernel
theorem dX11_races_74 : decode cX11_races 74 = .ok (.iload 6, 2) := by decide +kernel
theorem dX11_races_76 : decode cX11_races 76 = .ok (.invokevirtual 123, 3) := by decide +kernel
theorem dX11_races_79 : decode cX11_races 79 = .ok (.ifCond .eq 23, 3) := by decide +kernel
theorem dX11_races_82 : decode cX11_races 82 = .ok (.aload_n 0, 1) := by decide +kernel
theorem dX11_races_83 : decode cX11_races 83 = .ok (.getfield 27, 3) := by decide +kernel
theorem dX11_races_86 : decode cX11_races 86 = .ok (.bipush 11, 2) := by decide +kernel
theorem dX11_races_88 : decode cX11_races 88 = .ok (.iload 6, 2) := by decide +kernel
theorem dX11_races_9 : decode cX11_races 9 = .ok (.ifCond .eq 15, 3) := by decide +kernel
theorem dX11_races_90 : decode cX11_races 90 = .ok (.iadd, 1) := by decide +kernel
theorem dX11_races_91 : decode cX11_races 91 = .ok (.lload_n 3, 1) := by decide +kernel
theorem dX11_races_92 : decode cX11_races 92 = .ok (.ldc2_w 201, 3) := by decide +kernel
theorem dX11_races_95 : decode cX11_races 95 = .ok (.ldiv, 1) := by decide +kernel
theorem dX11_races_96 : decode cX11_races 96 = .ok (.ldc2_w 64, 3) := by decide +kernel
theorem dX11_races_99 : decode cX11_races 99 = .ok (.lrem, 1) := by decide +kernel
theorem dX11_read_0 : decode cX11_read 0 = .ok (.aload_n 0, 1) := by decide +kernel
theorem dX11_read_1 : decode cX11_read 1 = .ok (.iconst 0, 1) := by decide +kernel
theorem dX11_read_100 : decode cX11_read 100 = .ok (.iconst 3, 1) := by decide +kernel
theorem dX11_read_101 : decode cX11_read 101 = .ok (.if_icmp .eq 11, 3) := by decide +kernel
theorem dX11_read_104 : decode cX11_read 104 = .ok (.bipush (-10), 2) := by decide +kernel
theorem dX11_read_106 : decode cX11_read 106 = .ok (.aload_n 0, 1) := by decide +kernel
theorem dX11_read_107 : decode cX11_read 107 = .ok (.getfield 217, 3) := by decide +kernel
theorem dX11_read_11 : decode cX11_read 11 = .ok (.bipush 99, 2) := by decide +kernel
theorem dX11_read_110 : decode cX11_read 110 = .ok (.isub, 1) := by decide +kernel
theorem dX11_read_111 : decode cX11_read 111 = .ok (.ireturn, 1) := by decide +kernel
theorem dX11_read_112 : decode cX11_read 112 = .ok (.aload_n 0, 1) := by decide +kernel
theorem dX11_read_113 : decode cX11_read 113 = .ok (.invokevirtual 238, 3) := by decide +kernel
theorem dX11_read_116 : decode cX11_read 116 = .ok (.iinc 1 1, 3) := by decide +kernel
theorem dX11_read_119 : decode cX11_read 119 = .ok (.goto (-37), 3) := by decide +kernel
theorem dX11_read_122 : decode cX11_read 122 = .ok (.iconst 0, 1) := by decide +kernel
theorem dX11_read_123 : decode cX11_read 123 = .ok (.istore_n 2, 1) := by decide +kernel
theorem dX11_read_124 : decode cX11_read 124 = .ok (.iload_n 2, 1) := by decide +kernel
theorem dX11_read_125 : decode cX11_read 125 = .ok (.bipush 123, 2) := by decide +kernel
theorem dX11_read_127 : decode cX11_read 127 = .ok (.if_icmp .ge 21, 3) := by decide +kernel
theorem dX11_read_13 : decode cX11_read 13 = .ok (.bipush 101, 2) := by decide +kernel
theorem dX11_read_130 : decode cX11_read 130 = .ok (.aload_n 0, 1) := by decide +kernel
theorem dX11_read_131 : decode cX11_read 131 = .ok (.getfield 7, 3) := by decide +kernel
theorem dX11_read_134 : decode cX11_read 134 = .ok (.iload_n 2, 1) := by decide +kernel
theorem dX11_read_135 : decode cX11_read 135 = .ok (.aload_n 0, 1) := by decide +kernel
theorem dX11_read_136 : decode cX11_read 136 = .ok (.getfield 42, 3) := by decide +kernel
theorem dX11_read_139 : decode cX11_read 139 = .ok (.iload_n 2, 1) := by decide +kernel
theorem dX11_read_140 : decode cX11_read 140 = .ok (.iaload, 1) := by decide +kernel
theorem dX11_read_141 : decode cX11_read 141 = .ok (.iastore, 1) := by decide +kernel
theorem dX11_read_142 : decode cX11_read 142 = .ok (.iinc 2 1, 3) := by decide +kernel
theorem dX11_read_145 : decode cX11_read 145 = .ok (.goto (-21), 3) := by decide +kernel
theorem dX11_read_148 : decode cX11_read 148 = .ok (.iload_n 1, 1) := by decide +kernel
theorem dX11_read_149 : decode cX11_read 149 = .ok (.ireturn, 1) := by decide +kernel
theorem dX11_read_15 : decode cX11_read 15 = .ok (.iconst 0, 1) := by decide +kernel
theorem dX11_read_16 : decode cX11_read 16 = .ok (.iconst 0, 1) := by decide +kernel
theorem dX11_read_17 : decode cX11_read 17 = .ok (.invokevirtual 245, 3) := by decide +kernel
theorem dX11_read_2 : decode cX11_read 2 = .ok (.invokevirtual 235, 3) := by decide +kernel
theorem dX11_read_20 : decode cX11_read 20 = .ok (.ifCond .ne 11, 3) := by decide +kernel
theorem dX11_read_23 : decode cX11_read 23 = .ok (.bipush (-10), 2) := by decide +kernel
theorem dX11_read_25 : decode cX11_read 25 = .ok (.aload_n 0, 1) := by decide +kernel
theorem dX11_read_26 : decode cX11_read 26 = .ok (.getfield 217, 3) := by decide +kernel
theorem dX11_read_29 : decode cX11_read 29 = .ok (.isub, 1) := by decide +kernel
theorem dX11_read_30 : decode cX11_read 30 = .ok (.ireturn, 1) := by decide +kernel
theorem dX11_read_31 : decode cX11_read 31 = .ok (.aload_n 0, 1) := by decide +kernel
theorem dX11_read_32 : decode cX11_read 32 = .ok (.invokevirtual 238, 3) := by decide +kernel
theorem dX11_read_35 : decode cX11_read 35 = .ok (.aload_n 0, 1) := by decide +kernel
theorem dX11_read_36 : decode cX11_read 36 = .ok (.iconst 0, 1) := by decide +kernel
theorem dX11_read_37 : decode cX11_read 37 = .ok (.bipush 10, 2) := by decide +kernel
theorem dX11_read_39 : decode cX11_read 39 = .ok (.bipush 60, 2) := by decide +kernel
theorem dX11_read_41 : decode cX11_read 41 = .ok (.invokevirtual 241, 3) := by decide +kernel
theorem dX11_read_44 : decode cX11_read 44 = .ok (.ifCond .eq 11, 3) := by decide +kernel
theorem dX11_read_47 : decode cX11_read 47 = .ok (.aload_n 0, 1) := by decide +kernel
theorem dX11_read_48 : decode cX11_read 48 = .ok (.getfield 223, 3) := by decide +kernel
theorem dX11_read_5 : decode cX11_read 5 = .ok (.aload_n 0, 1) := by decide +kernel
theorem dX11_read_51 : decode cX11_read 51 = .ok (.iconst 3, 1) := by decide +kernel
theorem dX11_read_52 : decode cX11_read 52 = .ok (.if_icmp .eq 11, 3) := by decide +kernel
theorem dX11_read_55 : decode cX11_read 55 = .ok (.bipush (-10), 2) := by decide +kernel
theorem dX11_read_57 : decode cX11_read 57 = .ok (.aload_n 0, 1) := by decide +kernel
theorem dX11_read_58 : decode cX11_read 58 = .ok (.getfield 217, 3) := by decide +kernel
theorem dX11_read_6 : decode cX11_read 6 = .ok (.iconst 4, 1) := by decide +kernel
theorem dX11_read_61 : decode cX11_read 61 = .ok (.isub, 1) := by decide +kernel
theorem dX11_read_62 : decode cX11_read 62 = .ok (.ireturn, 1) := by decide +kernel
theorem dX11_read_63 : decode cX11_read 63 = .ok (.aload_n 0, 1) := by decide +kernel
theorem dX11_read_64 : decode cX11_read 64 = .ok (.invokevirtual 238, 3) := by decide +kernel
theorem dX11_read_67 : decode cX11_read 67 = .ok (.aload_n 0, 1) := by decide +kernel
theorem dX11_read_68 : decode cX11_read 68 = .ok (.getfield 42, 3) := by decide +kernel
theorem dX11_read_7 : decode cX11_read 7 = .ok (.bipush 114, 2) := by decide +kernel
theorem dX11_read_71 : decode cX11_read 71 = .ok (.aload_n 0, 1) := by decide +kernel
theorem dX11_read_72 : decode cX11_read 72 = .ok (.getfield 45, 3) := by decide +kernel
theorem dX11_read_75 : decode cX11_read 75 = .ok (.iconst 0, 1) := by decide +kernel
theorem dX11_read_76 : decode cX11_read 76 = .ok (.iaload, 1) := by decide +kernel
theorem dX11_read_77 : decode cX11_read 77 = .ok (.invokestatic 48, 3) := by decide +kernel
theorem dX11_read_80 : decode cX11_read 80 = .ok (.iconst 1, 1) := by decide +kernel
theorem dX11_read_81 : decode cX11_read 81 = .ok (.istore_n 1, 1) := by decide +kernel
theorem dX11_read_82 : decode cX11_read 82 = .ok (.aload_n 0, 1) := by decide +kernel
theorem dX11_read_83 : decode cX11_read 83 = .ok (.getfield 223, 3) := by decide +kernel
theorem dX11_read_86 : decode cX11_read 86 = .ok (.ifCond .eq 36, 3) := by decide +kernel
theorem dX11_read_89 : decode cX11_read 89 = .ok (.aload_n 0, 1) := by decide +kernel
theorem dX11_read_9 : decode cX11_read 9 = .ok (.bipush 97, 2) := by decide +kernel
theorem dX11_read_90 : decode cX11_read 90 = .ok (.invokevirtual 262, 3) := by decide +kernel
theorem dX11_read_93 : decode cX11_read 93 = .ok (.ifCond .eq 11, 3) := by decide +kernel
theorem dX11_read_96 : decode cX11_read 96 = .ok (.aload_n 0, 1) := by decide +kernel
theorem dX11_read_97 : decode cX11_read 97 = .ok (.getfield 223, 3) := by decide +kernel
theorem dX11_spells_0 : decode cX11_spells 0 = .ok (.aload_n 0, 1) := by decide +kernel
theorem dX11_spells_1 : decode cX11_spells 1 = .ok (.getfield 223, 3) := by decide +kernel
theorem dX11_spells_101 : decode cX11_spells 101 = .ok (.iload 7, 2) := by decide +kernel
theorem dX11_spells_103 : decode cX11_spells 103 = .ok (.if_icmp .ne 7, 3) := by decide +kernel
theorem dX11_spells_106 : decode cX11_spells 106 = .ok (.iconst 1, 1) := by decide +kernel
theorem dX11_spells_107 : decode cX11_spells 107 = .ok (.goto 4, 3) := by decide +kernel
theorem dX11_spells_110 : decode cX11_spells 110 = .ok (.iconst 0, 1) := by decide +kernel
theorem dX11_spells_111 : decode cX11_spells 111 = .ok (.istore 8, 2) := by decide +kernel
theorem dX11_spells_113 : decode cX11_spells 113 = .ok (.iinc 9 1, 3) := by decide +kernel
theorem dX11_spells_116 : decode cX11_spells 116 = .ok (.goto (-90), 3) := by decide +kernel
theorem dX11_spells_119 : decode cX11_spells 119 = .ok (.iload 8, 2) := by decide +kernel
theorem dX11_spells_12 : decode cX11_spells 12 = .ok (.iload_n 1, 1) := by decide +kernel
theorem dX11_spells_121 : decode cX11_spells 121 = .ok (.ireturn, 1) := by decide +kernel
theorem dX11_spells_13 : decode cX11_spells 13 = .ok (.if_icmp .ne 7, 3) := by decide +kernel
theorem dX11_spells_16 : decode cX11_spells 16 = .ok (.iconst 1, 1) := by decide +kernel
theorem dX11_spells_17 : decode cX11_spells 17 = .ok (.goto 4, 3) := by decide +kernel
theorem dX11_spells_20 : decode cX11_spells 20 = .ok (.iconst 0, 1) := by decide +kernel
theorem dX11_spells_21 : decode cX11_spells 21 = .ok (.istore 8, 2) := by decide +kernel
theorem dX11_spells_23 : decode cX11_spells 23 = .ok (.iconst 0, 1) := by decide +kernel
theorem dX11_spells_24 : decode cX11_spells 24 = .ok (.istore 9, 2) := by decide +kernel
theorem dX11_spells_26 : decode cX11_spells 26 = .ok (.iload 9, 2) := by decide +kernel
theorem dX11_spells_28 : decode cX11_spells 28 = .ok (.iload_n 1, 1) := by decide +kernel
theorem dX11_spells_29 : decode cX11_spells 29 = .ok (.if_icmp .ge 90, 3) := by decide +kernel
theorem dX11_spells_32 : decode cX11_spells 32 = .ok (.iload 8, 2) := by decide +kernel
theorem dX11_spells_34 : decode cX11_spells 34 = .ok (.ifCond .eq 85, 3) := by decide +kernel
theorem dX11_spells_37 : decode cX11_spells 37 = .ok (.aload_n 0, 1) := by decide +kernel
theorem dX11_spells_38 : decode cX11_spells 38 = .ok (.getfield 39, 3) := by decide +kernel
theorem dX11_spells_4 : decode cX11_spells 4 = .ok (.iconst 1, 1) := by decide +kernel
theorem dX11_spells_41 : decode cX11_spells 41 = .ok (.aload_n 0, 1) := by decide +kernel
theorem dX11_spells_42 : decode cX11_spells 42 = .ok (.getfield 217, 3) := by decide +kernel
theorem dX11_spells_45 : decode cX11_spells 45 = .ok (.iload 9, 2) := by decide +kernel
theorem dX11_spells_47 : decode cX11_spells 47 = .ok (.iadd, 1) := by decide +kernel
theorem dX11_spells_48 : decode cX11_spells 48 = .ok (.iaload, 1) := by decide +kernel
theorem dX11_spells_49 : decode cX11_spells 49 = .ok (.iload 9, 2) := by decide +kernel
theorem dX11_spells_5 : decode cX11_spells 5 = .ok (.if_icmp .ne 15, 3) := by decide +kernel
theorem dX11_spells_51 : decode cX11_spells 51 = .ok (.ifCond .ne 7, 3) := by decide +kernel
theorem dX11_spells_54 : decode cX11_spells 54 = .ok (.iload_n 2, 1) := by decide +kernel
theorem dX11_spells_55 : decode cX11_spells 55 = .ok (.goto 48, 3) := by decide +kernel
theorem dX11_spells_58 : decode cX11_spells 58 = .ok (.iload 9, 2) := by decide +kernel
theorem dX11_spells_60 : decode cX11_spells 60 = .ok (.iconst 1, 1) := by decide +kernel
theorem dX11_spells_61 : decode cX11_spells 61 = .ok (.if_icmp .ne 7, 3) := by decide +kernel
theorem dX11_spells_64 : decode cX11_spells 64 = .ok (.iload_n 3, 1) := by decide +kernel
theorem dX11_spells_65 : decode cX11_spells 65 = .ok (.goto 38, 3) := by decide +kernel
theorem dX11_spells_68 : decode cX11_spells 68 = .ok (.iload 9, 2) := by decide +kernel
theorem dX11_spells_70 : decode cX11_spells 70 = .ok (.iconst 2, 1) := by decide +kernel
theorem dX11_spells_71 : decode cX11_spells 71 = .ok (.if_icmp .ne 8, 3) := by decide +kernel
theorem dX11_spells_74 : decode cX11_spells 74 = .ok (.iload 4, 2) := by decide +kernel
theorem dX11_spells_76 : decode cX11_spells 76 = .ok (.goto 27, 3) := by decide +kernel
theorem dX11_spells_79 : decode cX11_spells 79 = .ok (.iload 9, 2) := by decide +kernel
theorem dX11_spells_8 : decode cX11_spells 8 = .ok (.aload_n 0, 1) := by decide +kernel
theorem dX11_spells_81 : decode cX11_spells 81 = .ok (.iconst 3, 1) := by decide +kernel
theorem dX11_spells_82 : decode cX11_spells 82 = .ok (.if_icmp .ne 8, 3) := by decide +kernel
theorem dX11_spells_85 : decode cX11_spells 85 = .ok (.iload 5, 2) := by decide +kernel
theorem dX11_spells_87 : decode cX11_spells 87 = .ok (.goto 16, 3) := by decide +kernel
theorem dX11_spells_9 : decode cX11_spells 9 = .ok (.getfield 220, 3) := by decide +kernel
theorem dX11_spells_90 : decode cX11_spells 90 = .ok (.iload 9, 2) := by decide +kernel
theorem dX11_spells_92 : decode cX11_spells 92 = .ok (.iconst 4, 1) := by decide +kernel
theorem dX11_spells_93 : decode cX11_spells 93 = .ok (.if_icmp .ne 8, 3) := by decide +kernel
theorem dX11_spells_96 : decode cX11_spells 96 = .ok (.iload 6, 2) := by decide +kernel
theorem dX11_spells_98 : decode cX11_spells 98 = .ok (.goto 5, 3) := by decide +kernel
theorem dX11_stumble_0 : decode cX11_stumble 0 = .ok (.aload_n 0, 1) := by decide +kernel
theorem dX11_stumble_1 : decode cX11_stumble 1 = .ok (.iload_n 1, 1) := by decide +kernel
theorem dX11_stumble_10 : decode cX11_stumble 10 = .ok (.lconst 0, 1) := by decide +kernel
theorem dX11_stumble_100 : decode cX11_stumble 100 = .ok (.istore 12, 2) := by decide +kernel
theorem dX11_stumble_102 : decode cX11_stumble 102 = .ok (.iload 12, 2) := by decide +kernel
theorem dX11_stumble_104 : decode cX11_stumble 104 = .ok (.iload_n 3, 1) := by decide +kernel
theorem dX11_stumble_105 : decode cX11_stumble 105 = .ok (.if_icmp .ge 73, 3) := by decide +kernel
theorem dX11_stumble_108 : decode cX11_stumble 108 = .ok (.lload 10, 2) := by decide +kernel
theorem dX11_stumble_11 : decode cX11_stumble 11 = .ok (.ldc2_w 66, 3) := by decide +kernel
theorem dX11_stumble_110 : decode cX11_stumble 110 = .ok (.iload 9, 2) := by decide +kernel
theorem dX11_stumble_112 : decode cX11_stumble 112 = .ok (.iload 12, 2) := by decide +kernel
theorem dX11_stumble_114 : decode cX11_stumble 114 = .ok (.invokestatic 161, 3) := by decide +kernel
theorem dX11_stumble_117 : decode cX11_stumble 117 = .ok (.ifCond .eq 9, 3) := by decide +kernel
theorem dX11_stumble_120 : decode cX11_stumble 120 = .ok (.iload 4, 2) := by decide +kernel
theorem dX11_stumble_122 : decode cX11_stumble 122 = .ok (.i2l, 1) := by decide +kernel
theorem dX11_stumble_123 : decode cX11_stumble 123 = .ok (.goto 9, 3) := by decide +kernel
theorem dX11_stumble_126 : decode cX11_stumble 126 = .ok (.bipush 10, 2) := by decide +kernel
theorem dX11_stumble_128 : decode cX11_stumble 128 = .ok (.iload 4, 2) := by decide +kernel
theorem dX11_stumble_130 : decode cX11_stumble 130 = .ok (.isub, 1) := by decide +kernel
theorem dX11_stumble_131 : decode cX11_stumble 131 = .ok (.i2l, 1) := by decide +kernel
theorem dX11_stumble_132 : decode cX11_stumble 132 = .ok (.lmul, 1) := by decide +kernel
theorem dX11_stumble_133 : decode cX11_stumble 133 = .ok (.lstore 10, 2) := by decide +kernel
theorem dX11_stumble_135 : decode cX11_stumble 135 = .ok (.aload_n 0, 1) := by decide +kernel
theorem dX11_stumble_136 : decode cX11_stumble 136 = .ok (.getfield 27, 3) := by decide +kernel
theorem dX11_stumble_139 : decode cX11_stumble 139 = .ok (.bipush 35, 2) := by decide +kernel
theorem dX11_stumble_14 : decode cX11_stumble 14 = .ok (.invokestatic 56, 3) := by decide +kernel
theorem dX11_stumble_141 : decode cX11_stumble 141 = .ok (.dup2, 1) := by decide +kernel
theorem dX11_stumble_142 : decode cX11_stumble 142 = .ok (.iaload, 1) := by decide +kernel
theorem dX11_stumble_143 : decode cX11_stumble 143 = .ok (.iconst 1, 1) := by decide +kernel
theorem dX11_stumble_144 : decode cX11_stumble 144 = .ok (.iadd, 1) := by decide +kernel
theorem dX11_stumble_145 : decode cX11_stumble 145 = .ok (.iastore, 1) := by decide +kernel
theorem dX11_stumble_146 : decode cX11_stumble 146 = .ok (.aload_n 0, 1) := by decide +kernel
theorem dX11_stumble_147 : decode cX11_stumble 147 = .ok (.getfield 27, 3) := by decide +kernel
theorem dX11_stumble_150 : decode cX11_stumble 150 = .ok (.iload_n 1, 1) := by decide +kernel
theorem dX11_stumble_151 : decode cX11_stumble 151 = .ok (.invokestatic 101, 3) := by decide +kernel
theorem dX11_stumble_154 : decode cX11_stumble 154 = .ok (.ifCond .ne 18, 3) := by decide +kernel
theorem dX11_stumble_157 : decode cX11_stumble 157 = .ok (.aload_n 0, 1) := by decide +kernel
theorem dX11_stumble_158 : decode cX11_stumble 158 = .ok (.getfield 27, 3) := by decide +kernel
theorem dX11_stumble_161 : decode cX11_stumble 161 = .ok (.iload_n 1, 1) := by decide +kernel
theorem dX11_stumble_162 : decode cX11_stumble 162 = .ok (.iload 9, 2) := by decide +kernel
theorem dX11_stumble_164 : decode cX11_stumble 164 = .ok (.iload 12, 2) := by decide +kernel
theorem dX11_stumble_166 : decode cX11_stumble 166 = .ok (.invokestatic 161, 3) := by decide +kernel
theorem dX11_stumble_169 : decode cX11_stumble 169 = .ok (.invokestatic 105, 3) := by decide +kernel
theorem dX11_stumble_17 : decode cX11_stumble 17 = .ok (.ifCond .eq 28, 3) := by decide +kernel
theorem dX11_stumble_172 : decode cX11_stumble 172 = .ok (.iinc 12 1, 3) := by decide +kernel
theorem dX11_stumble_175 : decode cX11_stumble 175 = .ok (.goto (-73), 3) := by decide +kernel
theorem dX11_stumble_178 : decode cX11_stumble 178 = .ok (.lload 5, 2) := by decide +kernel
theorem dX11_stumble_180 : decode cX11_stumble 180 = .ok (.aload_n 0, 1) := by decide +kernel
theorem dX11_stumble_181 : decode cX11_stumble 181 = .ok (.getfield 27, 3) := by decide +kernel
theorem dX11_stumble_184 : decode cX11_stumble 184 = .ok (.iconst 5, 1) := by decide +kernel
theorem dX11_stumble_185 : decode cX11_stumble 185 = .ok (.iload_n 1, 1) := by decide +kernel
theorem dX11_stumble_186 : decode cX11_stumble 186 = .ok (.iadd, 1) := by decide +kernel
theorem dX11_stumble_187 : decode cX11_stumble 187 = .ok (.iaload, 1) := by decide +kernel
theorem dX11_stumble_188 : decode cX11_stumble 188 = .ok (.iload_n 2, 1) := by decide +kernel
theorem dX11_stumble_189 : decode cX11_stumble 189 = .ok (.if_icmp .lt 8, 3) := by decide +kernel
theorem dX11_stumble_192 : decode cX11_stumble 192 = .ok (.lload 10, 2) := by decide +kernel
theorem dX11_stumble_194 : decode cX11_stumble 194 = .ok (.goto 4, 3) := by decide +kernel
theorem dX11_stumble_197 : decode cX11_stumble 197 = .ok (.lconst 0, 1) := by decide +kernel
theorem dX11_stumble_198 : decode cX11_stumble 198 = .ok (.ladd, 1) := by decide +kernel
theorem dX11_stumble_199 : decode cX11_stumble 199 = .ok (.lstore 5, 2) := by decide +kernel
theorem dX11_stumble_2 : decode cX11_stumble 2 = .ok (.invokevirtual 123, 3) := by decide +kernel
theorem dX11_stumble_20 : decode cX11_stumble 20 = .ok (.iload_n 3, 1) := by decide +kernel
theorem dX11_stumble_201 : decode cX11_stumble 201 = .ok (.iinc 9 1, 3) := by decide +kernel
theorem dX11_stumble_204 : decode cX11_stumble 204 = .ok (.goto (-120), 3) := by decide +kernel
theorem dX11_stumble_207 : decode cX11_stumble 207 = .ok (.aload_n 0, 1) := by decide +kernel
theorem dX11_stumble_208 : decode cX11_stumble 208 = .ok (.lload 5, 2) := by decide +kernel
theorem dX11_stumble_21 : decode cX11_stumble 21 = .ok (.i2l, 1) := by decide +kernel
theorem dX11_stumble_210 : decode cX11_stumble 210 = .ok (.lload 7, 2) := by decide +kernel
theorem dX11_stumble_212 : decode cX11_stumble 212 = .ok (.invokevirtual 187, 3) := by decide +kernel
theorem dX11_stumble_215 : decode cX11_stumble 215 = .ok (.iconst 1, 1) := by decide +kernel
theorem dX11_stumble_216 : decode cX11_stumble 216 = .ok (.ireturn, 1) := by decide +kernel
theorem dX11_stumble_22 : decode cX11_stumble 22 = .ok (.lconst 0, 1) := by decide +kernel
theorem dX11_stumble_23 : decode cX11_stumble 23 = .ok (.ldc2_w 185, 3) := by decide +kernel
theorem dX11_stumble_26 : decode cX11_stumble 26 = .ok (.invokestatic 56, 3) := by decide +kernel
theorem dX11_stumble_29 : decode cX11_stumble 29 = .ok (.ifCond .eq 16, 3) := by decide +kernel
theorem dX11_stumble_32 : decode cX11_stumble 32 = .ok (.iload 4, 2) := by decide +kernel
theorem dX11_stumble_34 : decode cX11_stumble 34 = .ok (.i2l, 1) := by decide +kernel
theorem dX11_stumble_35 : decode cX11_stumble 35 = .ok (.lconst 0, 1) := by decide +kernel
theorem dX11_stumble_36 : decode cX11_stumble 36 = .ok (.ldc2_w 64, 3) := by decide +kernel
theorem dX11_stumble_39 : decode cX11_stumble 39 = .ok (.invokestatic 56, 3) := by decide +kernel
theorem dX11_stumble_42 : decode cX11_stumble 42 = .ok (.ifCond .ne 10, 3) := by decide +kernel
theorem dX11_stumble_45 : decode cX11_stumble 45 = .ok (.aload_n 0, 1) := by decide +kernel
theorem dX11_stumble_46 : decode cX11_stumble 46 = .ok (.bipush (-2), 2) := by decide +kernel
theorem dX11_stumble_48 : decode cX11_stumble 48 = .ok (.invokevirtual 68, 3) := by decide +kernel
theorem dX11_stumble_5 : decode cX11_stumble 5 = .ok (.ifCond .eq 40, 3) := by decide +kernel
theorem dX11_stumble_51 : decode cX11_stumble 51 = .ok (.ireturn, 1) := by decide +kernel
theorem dX11_stumble_52 : decode cX11_stumble 52 = .ok (.lconst 0, 1) := by decide +kernel
theorem dX11_stumble_53 : decode cX11_stumble 53 = .ok (.lstore 5, 2) := by decide +kernel
theorem dX11_stumble_55 : decode cX11_stumble 55 = .ok (.lconst 1, 1) := by decide +kernel
theorem dX11_stumble_56 : decode cX11_stumble 56 = .ok (.lstore 7, 2) := by decide +kernel
theorem dX11_stumble_58 : decode cX11_stumble 58 = .ok (.iconst 0, 1) := by decide +kernel
theorem dX11_stumble_59 : decode cX11_stumble 59 = .ok (.istore 9, 2) := by decide +kernel
theorem dX11_stumble_61 : decode cX11_stumble 61 = .ok (.iload 9, 2) := by decide +kernel
theorem dX11_stumble_63 : decode cX11_stumble 63 = .ok (.iload_n 3, 1) := by decide +kernel
theorem dX11_stumble_64 : decode cX11_stumble 64 = .ok (.if_icmp .ge 17, 3) := by decide +kernel
theorem dX11_stumble_67 : decode cX11_stumble 67 = .ok (.lload 7, 2) := by decide +kernel
theorem dX11_stumble_69 : decode cX11_stumble 69 = .ok (.ldc2_w 64, 3) := by decide +kernel
theorem dX11_stumble_72 : decode cX11_stumble 72 = .ok (.lmul, 1) := by decide +kernel
theorem dX11_stumble_73 : decode cX11_stumble 73 = .ok (.lstore 7, 2) := by decide +kernel
theorem dX11_stumble_75 : decode cX11_stumble 75 = .ok (.iinc 9 1, 3) := by decide +kernel
theorem dX11_stumble_78 : decode cX11_stumble 78 = .ok (.goto (-17), 3) := by decide +kernel
theorem dX11_stumble_8 : decode cX11_stumble 8 = .ok (.iload_n 2, 1) := by decide +kernel
theorem dX11_stumble_81 : decode cX11_stumble 81 = .ok (.iconst 0, 1) := by decide +kernel
theorem dX11_stumble_82 : decode cX11_stumble 82 = .ok (.istore 9, 2) := by decide +kernel
theorem dX11_stumble_84 : decode cX11_stumble 84 = .ok (.iload 9, 2) := by decide +kernel
theorem dX11_stumble_86 : decode cX11_stumble 86 = .ok (.iconst 1, 1) := by decide +kernel
theorem dX11_stumble_87 : decode cX11_stumble 87 = .ok (.iload_n 3, 1) := by decide +kernel
theorem dX11_stumble_88 : decode cX11_stumble 88 = .ok (.ishl, 1) := by decide +kernel
theorem dX11_stumble_89 : decode cX11_stumble 89 = .ok (.if_icmp .ge 118, 3) := by decide +kernel
theorem dX11_stumble_9 : decode cX11_stumble 9 = .ok (.i2l, 1) := by decide +kernel
theorem dX11_stumble_92 : decode cX11_stumble 92 = .ok (.lconst 1, 1) := by decide +kernel
theorem dX11_stumble_93 : decode cX11_stumble 93 = .ok (.lstore 10, 2) := by decide +kernel
theorem dX11_stumble_95 : decode cX11_stumble 95 = .ok (.aload_n 0, 1) := by decide +kernel
theorem dX11_stumble_96 : decode cX11_stumble 96 = .ok (.invokevirtual 137, 3) := by decide +kernel
theorem dX11_stumble_99 : decode cX11_stumble 99 = .ok (.iconst 0, 1) := by decide +kernel
theorem dX11_takesGo_0 : decode cX11_takesGo 0 = .ok (.aload_n 0, 1) := by decide +kernel
theorem dX11_takesGo_1 : decode cX11_takesGo 1 = .ok (.invokevirtual 238, 3) := by decide +kernel
theorem dX11_takesGo_12 : decode cX11_takesGo 12 = .ok (.ifCond .ne 5, 3) := by decide +kernel
theorem dX11_takesGo_15 : decode cX11_takesGo 15 = .ok (.iconst 0, 1) := by decide +kernel
theorem dX11_takesGo_16 : decode cX11_takesGo 16 = .ok (.ireturn, 1) := by decide +kernel
theorem dX11_takesGo_17 : decode cX11_takesGo 17 = .ok (.aload_n 0, 1) := by decide +kernel
theorem dX11_takesGo_18 : decode cX11_takesGo 18 = .ok (.getfield 42, 3) := by decide +kernel
theorem dX11_takesGo_21 : decode cX11_takesGo 21 = .ok (.aload_n 0, 1) := by decide +kernel
theorem dX11_takesGo_22 : decode cX11_takesGo 22 = .ok (.getfield 45, 3) := by decide +kernel
theorem dX11_takesGo_25 : decode cX11_takesGo 25 = .ok (.iconst 0, 1) := by decide +kernel
theorem dX11_takesGo_26 : decode cX11_takesGo 26 = .ok (.iaload, 1) := by decide +kernel
theorem dX11_takesGo_27 : decode cX11_takesGo 27 = .ok (.invokestatic 116, 3) := by decide +kernel
theorem dX11_takesGo_30 : decode cX11_takesGo 30 = .ok (.iconst 1, 1) := by decide +kernel
theorem dX11_takesGo_31 : decode cX11_takesGo 31 = .ok (.ireturn, 1) := by decide +kernel
theorem dX11_takesGo_4 : decode cX11_takesGo 4 = .ok (.aload_n 0, 1) := by decide +kernel
theorem dX11_takesGo_5 : decode cX11_takesGo 5 = .ok (.iconst 0, 1) := by decide +kernel
theorem dX11_takesGo_6 : decode cX11_takesGo 6 = .ok (.iconst 1, 1) := by decide +kernel
theorem dX11_takesGo_7 : decode cX11_takesGo 7 = .ok (.bipush 99, 2) := by decide +kernel
theorem dX11_takesGo_9 : decode cX11_takesGo 9 = .ok (.invokevirtual 241, 3) := by decide +kernel
theorem dX11_takesItem_0 : decode cX11_takesItem 0 = .ok (.aload_n 0, 1) := by decide +kernel
theorem dX11_takesItem_1 : decode cX11_takesItem 1 = .ok (.iconst 3, 1) := by decide +kernel
theorem dX11_takesItem_10 : decode cX11_takesItem 10 = .ok (.iconst 0, 1) := by decide +kernel
theorem dX11_takesItem_11 : decode cX11_takesItem 11 = .ok (.invokevirtual 245, 3) := by decide +kernel
theorem dX11_takesItem_14 : decode cX11_takesItem 14 = .ok (.ifCond .eq 8, 3) := by decide +kernel
theorem dX11_takesItem_17 : decode cX11_takesItem 17 = .ok (.aload_n 0, 1) := by decide +kernel
theorem dX11_takesItem_18 : decode cX11_takesItem 18 = .ok (.invokevirtual 249, 3) := by decide +kernel
theorem dX11_takesItem_2 : decode cX11_takesItem 2 = .ok (.bipush 111, 2) := by decide +kernel
theorem dX11_takesItem_21 : decode cX11_takesItem 21 = .ok (.ireturn, 1) := by decide +kernel
theorem dX11_takesItem_22 : decode cX11_takesItem 22 = .ok (.aload_n 0, 1) := by decide +kernel
theorem dX11_takesItem_23 : decode cX11_takesItem 23 = .ok (.iconst 5, 1) := by decide +kernel
theorem dX11_takesItem_24 : decode cX11_takesItem 24 = .ok (.bipush 115, 2) := by decide +kernel
theorem dX11_takesItem_26 : decode cX11_takesItem 26 = .ok (.bipush 112, 2) := by decide +kernel
theorem dX11_takesItem_28 : decode cX11_takesItem 28 = .ok (.bipush 101, 2) := by decide +kernel
theorem dX11_takesItem_30 : decode cX11_takesItem 30 = .ok (.bipush 101, 2) := by decide +kernel
theorem dX11_takesItem_32 : decode cX11_takesItem 32 = .ok (.bipush 100, 2) := by decide +kernel
theorem dX11_takesItem_34 : decode cX11_takesItem 34 = .ok (.iconst 0, 1) := by decide +kernel
theorem dX11_takesItem_35 : decode cX11_takesItem 35 = .ok (.invokevirtual 245, 3) := by decide +kernel
theorem dX11_takesItem_38 : decode cX11_takesItem 38 = .ok (.ifCond .eq 8, 3) := by decide +kernel
theorem dX11_takesItem_4 : decode cX11_takesItem 4 = .ok (.bipush 110, 2) := by decide +kernel
theorem dX11_takesItem_41 : decode cX11_takesItem 41 = .ok (.aload_n 0, 1) := by decide +kernel
theorem dX11_takesItem_42 : decode cX11_takesItem 42 = .ok (.invokevirtual 253, 3) := by decide +kernel
theorem dX11_takesItem_45 : decode cX11_takesItem 45 = .ok (.ireturn, 1) := by decide +kernel
theorem dX11_takesItem_46 : decode cX11_takesItem 46 = .ok (.aload_n 0, 1) := by decide +kernel
theorem dX11_takesItem_47 : decode cX11_takesItem 47 = .ok (.iconst 5, 1) := by decide +kernel
theorem dX11_takesItem_48 : decode cX11_takesItem 48 = .ok (.bipush 115, 2) := by decide +kernel
theorem dX11_takesItem_50 : decode cX11_takesItem 50 = .ok (.bipush 116, 2) := by decide +kernel
theorem dX11_takesItem_52 : decode cX11_takesItem 52 = .ok (.bipush 97, 2) := by decide +kernel
theorem dX11_takesItem_54 : decode cX11_takesItem 54 = .ok (.bipush 114, 2) := by decide +kernel
theorem dX11_takesItem_56 : decode cX11_takesItem 56 = .ok (.bipush 116, 2) := by decide +kernel
theorem dX11_takesItem_58 : decode cX11_takesItem 58 = .ok (.iconst 0, 1) := by decide +kernel
theorem dX11_takesItem_59 : decode cX11_takesItem 59 = .ok (.invokevirtual 245, 3) := by decide +kernel
theorem dX11_takesItem_6 : decode cX11_takesItem 6 = .ok (.bipush 101, 2) := by decide +kernel
theorem dX11_takesItem_62 : decode cX11_takesItem 62 = .ok (.ifCond .eq 8, 3) := by decide +kernel
theorem dX11_takesItem_65 : decode cX11_takesItem 65 = .ok (.aload_n 0, 1) := by decide +kernel
theorem dX11_takesItem_66 : decode cX11_takesItem 66 = .ok (.invokevirtual 256, 3) := by decide +kernel
theorem dX11_takesItem_69 : decode cX11_takesItem 69 = .ok (.ireturn, 1) := by decide +kernel
theorem dX11_takesItem_70 : decode cX11_takesItem 70 = .ok (.aload_n 0, 1) := by decide +kernel
theorem dX11_takesItem_71 : decode cX11_takesItem 71 = .ok (.iconst 2, 1) := by decide +kernel
theorem dX11_takesItem_72 : decode cX11_takesItem 72 = .ok (.bipush 103, 2) := by decide +kernel
theorem dX11_takesItem_74 : decode cX11_takesItem 74 = .ok (.bipush 111, 2) := by decide +kernel
theorem dX11_takesItem_76 : decode cX11_takesItem 76 = .ok (.iconst 0, 1) := by decide +kernel
theorem dX11_takesItem_77 : decode cX11_takesItem 77 = .ok (.iconst 0, 1) := by decide +kernel
theorem dX11_takesItem_78 : decode cX11_takesItem 78 = .ok (.iconst 0, 1) := by decide +kernel
theorem dX11_takesItem_79 : decode cX11_takesItem 79 = .ok (.iconst 0, 1) := by decide +kernel
theorem dX11_takesItem_8 : decode cX11_takesItem 8 = .ok (.iconst 0, 1) := by decide +kernel
theorem dX11_takesItem_80 : decode cX11_takesItem 80 = .ok (.invokevirtual 245, 3) := by decide +kernel
theorem dX11_takesItem_83 : decode cX11_takesItem 83 = .ok (.ifCond .eq 14, 3) := by decide +kernel
theorem dX11_takesItem_86 : decode cX11_takesItem 86 = .ok (.aload_n 0, 1) := by decide +kernel
theorem dX11_takesItem_87 : decode cX11_takesItem 87 = .ok (.invokevirtual 259, 3) := by decide +kernel
theorem dX11_takesItem_9 : decode cX11_takesItem 9 = .ok (.iconst 0, 1) := by decide +kernel
theorem dX11_takesItem_90 : decode cX11_takesItem 90 = .ok (.ifCond .eq 7, 3) := by decide +kernel
theorem dX11_takesItem_93 : decode cX11_takesItem 93 = .ok (.iconst 1, 1) := by decide +kernel
theorem dX11_takesItem_94 : decode cX11_takesItem 94 = .ok (.goto 4, 3) := by decide +kernel
theorem dX11_takesItem_97 : decode cX11_takesItem 97 = .ok (.iconst 0, 1) := by decide +kernel
theorem dX11_takesItem_98 : decode cX11_takesItem 98 = .ok (.ireturn, 1) := by decide +kernel
theorem dX11_takesOne_0 : decode cX11_takesOne 0 = .ok (.aload_n 0, 1) := by decide +kernel
theorem dX11_takesOne_1 : decode cX11_takesOne 1 = .ok (.getfield 42, 3) := by decide +kernel
theorem dX11_takesOne_11 : decode cX11_takesOne 11 = .ok (.iconst 0, 1) := by decide +kernel
theorem dX11_takesOne_12 : decode cX11_takesOne 12 = .ok (.ireturn, 1) := by decide +kernel
theorem dX11_takesOne_13 : decode cX11_takesOne 13 = .ok (.aload_n 0, 1) := by decide +kernel
theorem dX11_takesOne_14 : decode cX11_takesOne 14 = .ok (.invokevirtual 238, 3) := by decide +kernel
theorem dX11_takesOne_17 : decode cX11_takesOne 17 = .ok (.aload_n 0, 1) := by decide +kernel
theorem dX11_takesOne_18 : decode cX11_takesOne 18 = .ok (.iconst 0, 1) := by decide +kernel
theorem dX11_takesOne_19 : decode cX11_takesOne 19 = .ok (.iconst 0, 1) := by decide +kernel
theorem dX11_takesOne_20 : decode cX11_takesOne 20 = .ok (.iconst 5, 1) := by decide +kernel
theorem dX11_takesOne_21 : decode cX11_takesOne 21 = .ok (.invokevirtual 241, 3) := by decide +kernel
theorem dX11_takesOne_24 : decode cX11_takesOne 24 = .ok (.ifCond .eq 24, 3) := by decide +kernel
theorem dX11_takesOne_27 : decode cX11_takesOne 27 = .ok (.aload_n 0, 1) := by decide +kernel
theorem dX11_takesOne_28 : decode cX11_takesOne 28 = .ok (.iconst 1, 1) := by decide +kernel
theorem dX11_takesOne_29 : decode cX11_takesOne 29 = .ok (.iconst 1, 1) := by decide +kernel
theorem dX11_takesOne_30 : decode cX11_takesOne 30 = .ok (.bipush 9, 2) := by decide +kernel
theorem dX11_takesOne_32 : decode cX11_takesOne 32 = .ok (.invokevirtual 241, 3) := by decide +kernel
theorem dX11_takesOne_35 : decode cX11_takesOne 35 = .ok (.ifCond .eq 13, 3) := by decide +kernel
theorem dX11_takesOne_38 : decode cX11_takesOne 38 = .ok (.aload_n 0, 1) := by decide +kernel
theorem dX11_takesOne_39 : decode cX11_takesOne 39 = .ok (.iconst 2, 1) := by decide +kernel
theorem dX11_takesOne_4 : decode cX11_takesOne 4 = .ok (.iconst 0, 1) := by decide +kernel
theorem dX11_takesOne_40 : decode cX11_takesOne 40 = .ok (.iconst 0, 1) := by decide +kernel
theorem dX11_takesOne_41 : decode cX11_takesOne 41 = .ok (.iconst 5, 1) := by decide +kernel
theorem dX11_takesOne_42 : decode cX11_takesOne 42 = .ok (.invokevirtual 241, 3) := by decide +kernel
theorem dX11_takesOne_45 : decode cX11_takesOne 45 = .ok (.ifCond .ne 5, 3) := by decide +kernel
theorem dX11_takesOne_48 : decode cX11_takesOne 48 = .ok (.iconst 0, 1) := by decide +kernel
theorem dX11_takesOne_49 : decode cX11_takesOne 49 = .ok (.ireturn, 1) := by decide +kernel
theorem dX11_takesOne_5 : decode cX11_takesOne 5 = .ok (.iaload, 1) := by decide +kernel
theorem dX11_takesOne_50 : decode cX11_takesOne 50 = .ok (.aload_n 0, 1) := by decide +kernel
theorem dX11_takesOne_51 : decode cX11_takesOne 51 = .ok (.getfield 42, 3) := by decide +kernel
theorem dX11_takesOne_54 : decode cX11_takesOne 54 = .ok (.aload_n 0, 1) := by decide +kernel
theorem dX11_takesOne_55 : decode cX11_takesOne 55 = .ok (.getfield 45, 3) := by decide +kernel
theorem dX11_takesOne_58 : decode cX11_takesOne 58 = .ok (.iconst 0, 1) := by decide +kernel
theorem dX11_takesOne_59 : decode cX11_takesOne 59 = .ok (.iaload, 1) := by decide +kernel
theorem dX11_takesOne_6 : decode cX11_takesOne 6 = .ok (.bipush 6, 2) := by decide +kernel
theorem dX11_takesOne_60 : decode cX11_takesOne 60 = .ok (.aload_n 0, 1) := by decide +kernel
theorem dX11_takesOne_61 : decode cX11_takesOne 61 = .ok (.getfield 45, 3) := by decide +kernel
theorem dX11_takesOne_64 : decode cX11_takesOne 64 = .ok (.iconst 1, 1) := by decide +kernel
theorem dX11_takesOne_65 : decode cX11_takesOne 65 = .ok (.iaload, 1) := by decide +kernel
theorem dX11_takesOne_66 : decode cX11_takesOne 66 = .ok (.aload_n 0, 1) := by decide +kernel
theorem dX11_takesOne_67 : decode cX11_takesOne 67 = .ok (.getfield 45, 3) := by decide +kernel
theorem dX11_takesOne_70 : decode cX11_takesOne 70 = .ok (.iconst 2, 1) := by decide +kernel
theorem dX11_takesOne_71 : decode cX11_takesOne 71 = .ok (.iaload, 1) := by decide +kernel
theorem dX11_takesOne_72 : decode cX11_takesOne 72 = .ok (.invokestatic 82, 3) := by decide +kernel
theorem dX11_takesOne_75 : decode cX11_takesOne 75 = .ok (.iconst 1, 1) := by decide +kernel
theorem dX11_takesOne_76 : decode cX11_takesOne 76 = .ok (.ireturn, 1) := by decide +kernel
theorem dX11_takesOne_8 : decode cX11_takesOne 8 = .ok (.if_icmp .ne 5, 3) := by decide +kernel
theorem dX11_takesSpeed_0 : decode cX11_takesSpeed 0 = .ok (.aload_n 0, 1) := by decide +kernel
theorem dX11_takesSpeed_1 : decode cX11_takesSpeed 1 = .ok (.invokevirtual 238, 3) := by decide +kernel
theorem dX11_takesSpeed_11 : decode cX11_takesSpeed 11 = .ok (.iconst 0, 1) := by decide +kernel
theorem dX11_takesSpeed_12 : decode cX11_takesSpeed 12 = .ok (.iaload, 1) := by decide +kernel
theorem dX11_takesSpeed_13 : decode cX11_takesSpeed 13 = .ok (.iconst 1, 1) := by decide +kernel
theorem dX11_takesSpeed_14 : decode cX11_takesSpeed 14 = .ok (.isub, 1) := by decide +kernel
theorem dX11_takesSpeed_15 : decode cX11_takesSpeed 15 = .ok (.invokevirtual 241, 3) := by decide +kernel
theorem dX11_takesSpeed_18 : decode cX11_takesSpeed 18 = .ok (.ifCond .eq 14, 3) := by decide +kernel
theorem dX11_takesSpeed_21 : decode cX11_takesSpeed 21 = .ok (.aload_n 0, 1) := by decide +kernel
theorem dX11_takesSpeed_22 : decode cX11_takesSpeed 22 = .ok (.iconst 1, 1) := by decide +kernel
theorem dX11_takesSpeed_23 : decode cX11_takesSpeed 23 = .ok (.iconst 0, 1) := by decide +kernel
theorem dX11_takesSpeed_24 : decode cX11_takesSpeed 24 = .ok (.bipush 9, 2) := by decide +kernel
theorem dX11_takesSpeed_26 : decode cX11_takesSpeed 26 = .ok (.invokevirtual 241, 3) := by decide +kernel
theorem dX11_takesSpeed_29 : decode cX11_takesSpeed 29 = .ok (.ifCond .ne 5, 3) := by decide +kernel
theorem dX11_takesSpeed_32 : decode cX11_takesSpeed 32 = .ok (.iconst 0, 1) := by decide +kernel
theorem dX11_takesSpeed_33 : decode cX11_takesSpeed 33 = .ok (.ireturn, 1) := by decide +kernel
theorem dX11_takesSpeed_34 : decode cX11_takesSpeed 34 = .ok (.aload_n 0, 1) := by decide +kernel
theorem dX11_takesSpeed_35 : decode cX11_takesSpeed 35 = .ok (.getfield 42, 3) := by decide +kernel
theorem dX11_takesSpeed_38 : decode cX11_takesSpeed 38 = .ok (.bipush 11, 2) := by decide +kernel
theorem dX11_takesSpeed_4 : decode cX11_takesSpeed 4 = .ok (.aload_n 0, 1) := by decide +kernel
theorem dX11_takesSpeed_40 : decode cX11_takesSpeed 40 = .ok (.aload_n 0, 1) := by decide +kernel
theorem dX11_takesSpeed_41 : decode cX11_takesSpeed 41 = .ok (.getfield 45, 3) := by decide +kernel
theorem dX11_takesSpeed_44 : decode cX11_takesSpeed 44 = .ok (.iconst 0, 1) := by decide +kernel
theorem dX11_takesSpeed_45 : decode cX11_takesSpeed 45 = .ok (.iaload, 1) := by decide +kernel
theorem dX11_takesSpeed_46 : decode cX11_takesSpeed 46 = .ok (.iadd, 1) := by decide +kernel
theorem dX11_takesSpeed_47 : decode cX11_takesSpeed 47 = .ok (.aload_n 0, 1) := by decide +kernel
theorem dX11_takesSpeed_48 : decode cX11_takesSpeed 48 = .ok (.getfield 45, 3) := by decide +kernel
theorem dX11_takesSpeed_5 : decode cX11_takesSpeed 5 = .ok (.iconst 0, 1) := by decide +kernel
theorem dX11_takesSpeed_51 : decode cX11_takesSpeed 51 = .ok (.iconst 1, 1) := by decide +kernel
theorem dX11_takesSpeed_52 : decode cX11_takesSpeed 52 = .ok (.iaload, 1) := by decide +kernel
theorem dX11_takesSpeed_53 : decode cX11_takesSpeed 53 = .ok (.iastore, 1) := by decide +kernel
theorem dX11_takesSpeed_54 : decode cX11_takesSpeed 54 = .ok (.iconst 1, 1) := by decide +kernel
theorem dX11_takesSpeed_55 : decode cX11_takesSpeed 55 = .ok (.ireturn, 1) := by decide +kernel
theorem dX11_takesSpeed_6 : decode cX11_takesSpeed 6 = .ok (.iconst 0, 1) := by decide +kernel
theorem dX11_takesSpeed_7 : decode cX11_takesSpeed 7 = .ok (.aload_n 0, 1) := by decide +kernel
theorem dX11_takesSpeed_8 : decode cX11_takesSpeed 8 = .ok (.getfield 42, 3) := by decide +kernel
theorem dX11_takesStart_0 : decode cX11_takesStart 0 = .ok (.aload_n 0, 1) := by decide +kernel
theorem dX11_takesStart_1 : decode cX11_takesStart 1 = .ok (.invokevirtual 238, 3) := by decide +kernel
theorem dX11_takesStart_102 : decode cX11_takesStart 102 = .ok (.iconst 5, 1) := by decide +kernel
theorem dX11_takesStart_103 : decode cX11_takesStart 103 = .ok (.aload_n 0, 1) := by decide +kernel
theorem dX11_takesStart_104 : decode cX11_takesStart 104 = .ok (.getfield 45, 3) := by decide +kernel
theorem dX11_takesStart_107 : decode cX11_takesStart 107 = .ok (.iconst 0, 1) := by decide +kernel
theorem dX11_takesStart_108 : decode cX11_takesStart 108 = .ok (.iaload, 1) := by decide +kernel
theorem dX11_takesStart_109 : decode cX11_takesStart 109 = .ok (.iadd, 1) := by decide +kernel
theorem dX11_takesStart_110 : decode cX11_takesStart 110 = .ok (.aload_n 0, 1) := by decide +kernel
theorem dX11_takesStart_111 : decode cX11_takesStart 111 = .ok (.getfield 45, 3) := by decide +kernel
theorem dX11_takesStart_114 : decode cX11_takesStart 114 = .ok (.iconst 1, 1) := by decide +kernel
theorem dX11_takesStart_115 : decode cX11_takesStart 115 = .ok (.iaload, 1) := by decide +kernel
theorem dX11_takesStart_116 : decode cX11_takesStart 116 = .ok (.iastore, 1) := by decide +kernel
theorem dX11_takesStart_117 : decode cX11_takesStart 117 = .ok (.iconst 1, 1) := by decide +kernel
theorem dX11_takesStart_118 : decode cX11_takesStart 118 = .ok (.ireturn, 1) := by decide +kernel
theorem dX11_takesStart_12 : decode cX11_takesStart 12 = .ok (.aload_n 0, 1) := by decide +kernel
theorem dX11_takesStart_13 : decode cX11_takesStart 13 = .ok (.getfield 226, 3) := by decide +kernel
theorem dX11_takesStart_16 : decode cX11_takesStart 16 = .ok (.i2l, 1) := by decide +kernel
theorem dX11_takesStart_17 : decode cX11_takesStart 17 = .ok (.lconst 0, 1) := by decide +kernel
theorem dX11_takesStart_18 : decode cX11_takesStart 18 = .ok (.aload_n 0, 1) := by decide +kernel
theorem dX11_takesStart_19 : decode cX11_takesStart 19 = .ok (.getfield 42, 3) := by decide +kernel
theorem dX11_takesStart_22 : decode cX11_takesStart 22 = .ok (.iconst 0, 1) := by decide +kernel
theorem dX11_takesStart_23 : decode cX11_takesStart 23 = .ok (.iaload, 1) := by decide +kernel
theorem dX11_takesStart_24 : decode cX11_takesStart 24 = .ok (.iconst 1, 1) := by decide +kernel
theorem dX11_takesStart_25 : decode cX11_takesStart 25 = .ok (.isub, 1) := by decide +kernel
theorem dX11_takesStart_26 : decode cX11_takesStart 26 = .ok (.i2l, 1) := by decide +kernel
theorem dX11_takesStart_27 : decode cX11_takesStart 27 = .ok (.invokestatic 56, 3) := by decide +kernel
theorem dX11_takesStart_30 : decode cX11_takesStart 30 = .ok (.ifCond .eq 27, 3) := by decide +kernel
theorem dX11_takesStart_33 : decode cX11_takesStart 33 = .ok (.aload_n 0, 1) := by decide +kernel
theorem dX11_takesStart_34 : decode cX11_takesStart 34 = .ok (.getfield 42, 3) := by decide +kernel
theorem dX11_takesStart_37 : decode cX11_takesStart 37 = .ok (.aload_n 0, 1) := by decide +kernel
theorem dX11_takesStart_38 : decode cX11_takesStart 38 = .ok (.getfield 226, 3) := by decide +kernel
theorem dX11_takesStart_4 : decode cX11_takesStart 4 = .ok (.aload_n 0, 1) := by decide +kernel
theorem dX11_takesStart_41 : decode cX11_takesStart 41 = .ok (.invokestatic 101, 3) := by decide +kernel
theorem dX11_takesStart_44 : decode cX11_takesStart 44 = .ok (.ifCond .ne 13, 3) := by decide +kernel
theorem dX11_takesStart_47 : decode cX11_takesStart 47 = .ok (.aload_n 0, 1) := by decide +kernel
theorem dX11_takesStart_48 : decode cX11_takesStart 48 = .ok (.iconst 0, 1) := by decide +kernel
theorem dX11_takesStart_49 : decode cX11_takesStart 49 = .ok (.iconst 0, 1) := by decide +kernel
theorem dX11_takesStart_5 : decode cX11_takesStart 5 = .ok (.getfield 223, 3) := by decide +kernel
theorem dX11_takesStart_50 : decode cX11_takesStart 50 = .ok (.iconst 5, 1) := by decide +kernel
theorem dX11_takesStart_51 : decode cX11_takesStart 51 = .ok (.invokevirtual 241, 3) := by decide +kernel
theorem dX11_takesStart_54 : decode cX11_takesStart 54 = .ok (.ifCond .ne 5, 3) := by decide +kernel
theorem dX11_takesStart_57 : decode cX11_takesStart 57 = .ok (.iconst 0, 1) := by decide +kernel
theorem dX11_takesStart_58 : decode cX11_takesStart 58 = .ok (.ireturn, 1) := by decide +kernel
theorem dX11_takesStart_59 : decode cX11_takesStart 59 = .ok (.aload_n 0, 1) := by decide +kernel
theorem dX11_takesStart_60 : decode cX11_takesStart 60 = .ok (.getfield 42, 3) := by decide +kernel
theorem dX11_takesStart_63 : decode cX11_takesStart 63 = .ok (.bipush 36, 2) := by decide +kernel
theorem dX11_takesStart_65 : decode cX11_takesStart 65 = .ok (.iaload, 1) := by decide +kernel
theorem dX11_takesStart_66 : decode cX11_takesStart 66 = .ok (.bipush 30, 2) := by decide +kernel
theorem dX11_takesStart_68 : decode cX11_takesStart 68 = .ok (.if_icmp .le 8, 3) := by decide +kernel
theorem dX11_takesStart_71 : decode cX11_takesStart 71 = .ok (.bipush 30, 2) := by decide +kernel
theorem dX11_takesStart_73 : decode cX11_takesStart 73 = .ok (.goto 12, 3) := by decide +kernel
theorem dX11_takesStart_76 : decode cX11_takesStart 76 = .ok (.aload_n 0, 1) := by decide +kernel
theorem dX11_takesStart_77 : decode cX11_takesStart 77 = .ok (.getfield 42, 3) := by decide +kernel
theorem dX11_takesStart_8 : decode cX11_takesStart 8 = .ok (.iconst 2, 1) := by decide +kernel
theorem dX11_takesStart_80 : decode cX11_takesStart 80 = .ok (.bipush 36, 2) := by decide +kernel
theorem dX11_takesStart_82 : decode cX11_takesStart 82 = .ok (.iaload, 1) := by decide +kernel
theorem dX11_takesStart_83 : decode cX11_takesStart 83 = .ok (.iconst 1, 1) := by decide +kernel
theorem dX11_takesStart_84 : decode cX11_takesStart 84 = .ok (.isub, 1) := by decide +kernel
theorem dX11_takesStart_85 : decode cX11_takesStart 85 = .ok (.istore_n 1, 1) := by decide +kernel
theorem dX11_takesStart_86 : decode cX11_takesStart 86 = .ok (.aload_n 0, 1) := by decide +kernel
theorem dX11_takesStart_87 : decode cX11_takesStart 87 = .ok (.iconst 1, 1) := by decide +kernel
theorem dX11_takesStart_88 : decode cX11_takesStart 88 = .ok (.iconst 0, 1) := by decide +kernel
theorem dX11_takesStart_89 : decode cX11_takesStart 89 = .ok (.iload_n 1, 1) := by decide +kernel
theorem dX11_takesStart_9 : decode cX11_takesStart 9 = .ok (.if_icmp .ne 48, 3) := by decide +kernel
theorem dX11_takesStart_90 : decode cX11_takesStart 90 = .ok (.invokevirtual 241, 3) := by decide +kernel
theorem dX11_takesStart_93 : decode cX11_takesStart 93 = .ok (.ifCond .ne 5, 3) := by decide +kernel
theorem dX11_takesStart_96 : decode cX11_takesStart 96 = .ok (.iconst 0, 1) := by decide +kernel
theorem dX11_takesStart_97 : decode cX11_takesStart 97 = .ok (.ireturn, 1) := by decide +kernel
theorem dX11_takesStart_98 : decode cX11_takesStart 98 = .ok (.aload_n 0, 1) := by decide +kernel
theorem dX11_takesStart_99 : decode cX11_takesStart 99 = .ok (.getfield 42, 3) := by decide +kernel
theorem dX11_takes_0 : decode cX11_takes 0 = .ok (.aload_n 0, 1) := by decide +kernel
theorem dX11_takes_1 : decode cX11_takes 1 = .ok (.getfield 223, 3) := by decide +kernel
theorem dX11_takes_12 : decode cX11_takes 12 = .ok (.i2l, 1) := by decide +kernel
theorem dX11_takes_13 : decode cX11_takes 13 = .ok (.iload_n 2, 1) := by decide +kernel
theorem dX11_takes_14 : decode cX11_takes 14 = .ok (.i2l, 1) := by decide +kernel
theorem dX11_takes_15 : decode cX11_takes 15 = .ok (.iload_n 3, 1) := by decide +kernel
theorem dX11_takes_16 : decode cX11_takes 16 = .ok (.i2l, 1) := by decide +kernel
theorem dX11_takes_17 : decode cX11_takes 17 = .ok (.invokestatic 56, 3) := by decide +kernel
theorem dX11_takes_20 : decode cX11_takes 20 = .ok (.ifCond .ne 5, 3) := by decide +kernel
theorem dX11_takes_23 : decode cX11_takes 23 = .ok (.iconst 0, 1) := by decide +kernel
theorem dX11_takes_24 : decode cX11_takes 24 = .ok (.ireturn, 1) := by decide +kernel
theorem dX11_takes_25 : decode cX11_takes 25 = .ok (.aload_n 0, 1) := by decide +kernel
theorem dX11_takes_26 : decode cX11_takes 26 = .ok (.getfield 45, 3) := by decide +kernel
theorem dX11_takes_29 : decode cX11_takes 29 = .ok (.iload_n 1, 1) := by decide +kernel
theorem dX11_takes_30 : decode cX11_takes 30 = .ok (.aload_n 0, 1) := by decide +kernel
theorem dX11_takes_31 : decode cX11_takes 31 = .ok (.getfield 226, 3) := by decide +kernel
theorem dX11_takes_34 : decode cX11_takes 34 = .ok (.iastore, 1) := by decide +kernel
theorem dX11_takes_35 : decode cX11_takes 35 = .ok (.aload_n 0, 1) := by decide +kernel
theorem dX11_takes_36 : decode cX11_takes 36 = .ok (.invokevirtual 238, 3) := by decide +kernel
theorem dX11_takes_39 : decode cX11_takes 39 = .ok (.iconst 1, 1) := by decide +kernel
theorem dX11_takes_4 : decode cX11_takes 4 = .ok (.iconst 2, 1) := by decide +kernel
theorem dX11_takes_40 : decode cX11_takes 40 = .ok (.ireturn, 1) := by decide +kernel
theorem dX11_takes_5 : decode cX11_takes 5 = .ok (.if_icmp .ne 18, 3) := by decide +kernel
theorem dX11_takes_8 : decode cX11_takes 8 = .ok (.aload_n 0, 1) := by decide +kernel
theorem dX11_takes_9 : decode cX11_takes 9 = .ok (.getfield 226, 3) := by decide +kernel
theorem in_X11_spells_X11 : ∀ w ∈ wsX110, w ∈ wsX11_spells := by decide +kernel
theorem lk_X11_spells_223 : Cond.fieldLink RX11 223 "EggSpoonsModel" "token" "I" ∈ wsX11_spells := by decide +kernel
theorem lk_X11_spells_39 : Cond.fieldLink RX11 39 "EggSpoonsModel" "bytes" "[I" ∈ wsX11_spells := by decide +kernel
theorem lk_X11_spells_217 : Cond.fieldLink RX11 217 "EggSpoonsModel" "tokenAt" "I" ∈ wsX11_spells := by decide +kernel
theorem lk_X11_spells_220 : Cond.fieldLink RX11 220 "EggSpoonsModel" "tokenLong" "I" ∈ wsX11_spells := by decide +kernel
set_option maxHeartbeats 4000000 in
set_option maxRecDepth 100000 in
/-- spells -/
theorem m_spells (l : Launch) (X : EX) (m0 : Nat) (ma : Nat → Nat) (la : Int64) (lb : Int64) (n : Nat) (t : Nat → Nat) (v : Nat → Int32) (fd : Nat → Int32) (z : Nat) (x2 : Int32) (x3 : Int32) (x4 : Int32) (x5 : Int32) (x6 : Int32) (x7 : Int32) (hI_n : n ≤ 150) (hI_t : InT t) (hT : t 0 + t 1 ≤ n ∧ (v 0 = 0 ∨ 1 ≤ t 1)) (hz : z ≤ 6) (sz : Nat) : Met l yX11_spells wsX11_spells ({ frames := 0, cells := 0, slots := 0, locals := 0 } : Room) (pE X [.ref m0, .int (nI z), .int x2, .int x3, .int x4, .int x5, .int x6, .int x7] (mW m0 ma la lb n t v ++ [((ma 10), .inl (X.2.1, 150, .inl fd))]) sz) (qI (fun (r : Int32) (u : Unit) => r = 0 ∨ r = 1) X (fun (u : Unit) => []) [] sz) 0 0 (va_A [] sz) := by
  refine mk_met (B := (fun _ => True)) (A := (va_A [] sz)) (cc := cX11_spells) (maxL := 10) (ret := (some .boolean)) (by decide) rfl (Nat.le_of_ble_eq_true rfl) k_ro k_a (fun p e s m below meth c S zr zlk znm zsz G ls hl => ?_)
  have S : CallFix p m c cX11_spells 10 s _ wsX11_spells RX11 := S
  have zx := S.1
  have zb := S.2.1
  have hl : lv_has ls 10 [(0, .ref m0), (1, .int (nI z)), (2, .int x2), (3, .int x3), (4, .int x4), (5, .int x5), (6, .int x6), (7, .int x7)] := hl
  have hO_t := hI_t
  obtain ⟨ht0_t, ht1_t⟩ := hO_t
  obtain ⟨hT1, hT2⟩ := hT
  refine lv_aload_n zx zb dX11_spells_0 rfl (lv_at hl 0 rfl) ?_
  refine r_get (C := RX11) (T := TX11) (N := 18) (ci := 9) (v := .int (v 0)) S in_X11_spells_X11 G 0 rfl rfl 14 (by decide) lk_X11_spells_223 rfl dX11_spells_1 ?_
  refine lv_iconst (v := 1) zx zb dX11_spells_4 (by decide) ?_
  refine lv_icmp_ne (tgt := 20) zx zb dX11_spells_5 (by decide) (fun c_1 => ?_) (fun c_1 => ?_)
  · refine lv_iconst (v := 0) zx zb dX11_spells_20 (by decide) ?_
    refine lv_istore (lv' := [(8, .int 0), (0, .ref m0), (1, .int (nI z)), (2, .int x2), (3, .int x3), (4, .int x4), (5, .int x5), (6, .int x6), (7, .int x7)]) zx zb dX11_spells_21 hl (by decide) rfl (fun ls hl => ?_)
    refine lv_iconst (v := 0) zx zb dX11_spells_23 (by decide) ?_
    refine lv_istore (lv' := [(9, .int 0), (8, .int 0), (0, .ref m0), (1, .int (nI z)), (2, .int x2), (3, .int x3), (4, .int x4), (5, .int x5), (6, .int x6), (7, .int x7)]) zx zb dX11_spells_24 hl (by decide) rfl (fun ls hl => ?_)
    refine k_loop (P := ∀ (zm : Nat) (k26 : Nat) (x26_8 : Int32) (H : Heap) (locs : List Loc) (ls : Array Slot), z + 1 ≤ k26 + zm → (k26 ≤ z) → (x26_8 = 0 ∨ x26_8 = 1) → wd X (fun _ => True) (va_A [] sz) s (mW m0 ma la lb n t v ++ [((ma 10), .inl (X.2.1, 150, .inl fd))]) H locs → lv_has ls 10 [(9, .int (nI k26)), (8, .int x26_8), (0, .ref m0), (1, .int (nI z)), (2, .int x2), (3, .int x3), (4, .int x4), (5, .int x5), (6, .int x6), (7, .int x7)] → W p l e _ s m _ below meth c H locs _ _ _ (F0 m 26 ls [])) (fun loop => loop (z + 1) 0 0 _ _ _ (by omega) (by omega) (by first | assumption | exact Or.inl rfl | exact Or.inr rfl) G hl) ?_
    intro zm
    induction zm with
    | zero => intro k26 x26_8 H locs ls zz q_hk_k26 q_hk_x26_8 _ _; exact absurd zz (by omega)
    | succ zm ih26 =>
      intro k26 x26_8 H locs ls zm_26 hk_k26 hk_x26_8 G hl
      refine lv_iload zx zb dX11_spells_26 (lv_at hl 0 rfl) ?_
      refine lv_iload_n zx zb dX11_spells_28 rfl (lv_at hl 3 rfl) ?_
      refine k_cutW (PP := fun Wx => ∀ (H : Heap) (locs : List Loc) (ls : Array Slot), wd X (fun _ => True) (va_A [] sz) s (mW m0 ma la lb n t v ++ [((ma 10), .inl (X.2.1, 150, .inl fd))]) H locs → lv_has ls 10 [(9, .int (nI k26)), (8, .int x26_8), (0, .ref m0), (1, .int (nI z)), (2, .int x2), (3, .int x3), (4, .int x4), (5, .int x5), (6, .int x6), (7, .int x7)] → Wx (F0 m 119 ls []) H locs) ?_ ?_
      · intro join_29
        refine lv_icmp_ge (tgt := 119) zx zb dX11_spells_29 (by decide) (fun c_2 => ?_) (fun c_2 => ?_)
        · have fc_2 := j_le (a := z) (b := k26) (by omega) (by omega) c_2
          exact join_29  _ _ _  G hl
        · have fc_2 := j_nle (a := z) (b := k26) (by omega) (by omega) c_2
          refine lv_iload zx zb dX11_spells_32 (lv_at hl 1 rfl) ?_
          refine lv_if_eq (tgt := 119) zx zb dX11_spells_34 (by decide) (fun c_3 => ?_) (fun c_3 => ?_)
          · exact join_29  _ _ _  G hl
          · refine lv_aload_n zx zb dX11_spells_37 rfl (lv_at hl 2 rfl) ?_
            refine r_get (C := RX11) (T := TX11) (N := 18) (ci := 9) (v := .ref (ma 10)) S in_X11_spells_X11 G 0 rfl rfl 10 (by decide) lk_X11_spells_39 rfl dX11_spells_38 ?_
            refine lv_aload_n zx zb dX11_spells_41 rfl (lv_at hl 2 rfl) ?_
            refine r_get (C := RX11) (T := TX11) (N := 18) (ci := 9) (v := .int (nI (t 0))) S in_X11_spells_X11 G 0 rfl rfl 12 (by decide) lk_X11_spells_217 rfl dX11_spells_42 ?_
            refine lv_iload zx zb dX11_spells_45 (lv_at hl 0 rfl) ?_
            refine r_iadd (v := (nI ((t 0) + k26))) S (nI_add (t 0) k26) dX11_spells_47 ?_
            refine r_iald S G 1 rfl (vp_in_nI (by omega) (by decide)) rfl dX11_spells_48 ?_
            refine k_itE (fun y_4 => ?_)
            refine lv_iload zx zb dX11_spells_49 (lv_at hl 0 rfl) ?_
            refine k_cutW (PP := fun Wx => ∀ (x_6 : Int32) (H : Heap) (locs : List Loc) (ls : Array Slot), wd X (fun _ => True) (va_A [] sz) s (mW m0 ma la lb n t v ++ [((ma 10), .inl (X.2.1, 150, .inl fd))]) H locs → lv_has ls 10 [(9, .int (nI k26)), (8, .int x26_8), (0, .ref m0), (1, .int (nI z)), (2, .int x2), (3, .int x3), (4, .int x4), (5, .int x5), (6, .int x6), (7, .int x7)] → Wx (F0 m 103 ls [.int x_6, .int y_4]) H locs) ?_ ?_
            · intro join_51
              refine lv_if_ne (tgt := 58) zx zb dX11_spells_51 (by decide) (fun c_5 => ?_) (fun c_5 => ?_)
              · have fc_5 := j_ne (a := k26) (b := 0) c_5
                refine lv_iload zx zb dX11_spells_58 (lv_at hl 0 rfl) ?_
                refine lv_iconst (v := 1) zx zb dX11_spells_60 (by decide) ?_
                refine lv_icmp_ne (tgt := 68) zx zb dX11_spells_61 (by decide) (fun c_7 => ?_) (fun c_7 => ?_)
                · have fc_7 := j_ne (a := k26) (b := 1) c_7
                  refine lv_iload zx zb dX11_spells_68 (lv_at hl 0 rfl) ?_
                  refine lv_iconst (v := 2) zx zb dX11_spells_70 (by decide) ?_
                  refine lv_icmp_ne (tgt := 79) zx zb dX11_spells_71 (by decide) (fun c_8 => ?_) (fun c_8 => ?_)
                  · have fc_8 := j_ne (a := k26) (b := 2) c_8
                    refine lv_iload zx zb dX11_spells_79 (lv_at hl 0 rfl) ?_
                    refine lv_iconst (v := 3) zx zb dX11_spells_81 (by decide) ?_
                    refine lv_icmp_ne (tgt := 90) zx zb dX11_spells_82 (by decide) (fun c_9 => ?_) (fun c_9 => ?_)
                    · have fc_9 := j_ne (a := k26) (b := 3) c_9
                      refine lv_iload zx zb dX11_spells_90 (lv_at hl 0 rfl) ?_
                      refine lv_iconst (v := 4) zx zb dX11_spells_92 (by decide) ?_
                      refine lv_icmp_ne (tgt := 101) zx zb dX11_spells_93 (by decide) (fun c_10 => ?_) (fun c_10 => ?_)
                      · have fc_10 := j_ne (a := k26) (b := 4) c_10
                        refine lv_iload zx zb dX11_spells_101 (lv_at hl 9 rfl) ?_
                        exact join_51 x7 _ _ _  G hl
                      · have fc_10 := j_eq (a := k26) (b := 4) (by omega) (by omega) c_10
                        refine lv_iload zx zb dX11_spells_96 (lv_at hl 8 rfl) ?_
                        refine lv_goto (tgt := 103) zx zb dX11_spells_98 (by decide) ?_
                        exact join_51 x6 _ _ _  G hl
                    · have fc_9 := j_eq (a := k26) (b := 3) (by omega) (by omega) c_9
                      refine lv_iload zx zb dX11_spells_85 (lv_at hl 7 rfl) ?_
                      refine lv_goto (tgt := 103) zx zb dX11_spells_87 (by decide) ?_
                      exact join_51 x5 _ _ _  G hl
                  · have fc_8 := j_eq (a := k26) (b := 2) (by omega) (by omega) c_8
                    refine lv_iload zx zb dX11_spells_74 (lv_at hl 6 rfl) ?_
                    refine lv_goto (tgt := 103) zx zb dX11_spells_76 (by decide) ?_
                    exact join_51 x4 _ _ _  G hl
                · have fc_7 := j_eq (a := k26) (b := 1) (by omega) (by omega) c_7
                  refine lv_iload_n zx zb dX11_spells_64 rfl (lv_at hl 5 rfl) ?_
                  refine lv_goto (tgt := 103) zx zb dX11_spells_65 (by decide) ?_
                  exact join_51 x3 _ _ _  G hl
              · have fc_5 := j_eq (a := k26) (b := 0) (by omega) (by omega) c_5
                refine lv_iload_n zx zb dX11_spells_54 rfl (lv_at hl 4 rfl) ?_
                refine lv_goto (tgt := 103) zx zb dX11_spells_55 (by decide) ?_
                exact join_51 x2 _ _ _  G hl
            · intro x_6 H locs ls  G hl
              refine k_cutW (PP := fun Wx => ∀ (x_12 : Int32) (H : Heap) (locs : List Loc) (ls : Array Slot), (x_12 = 0 ∨ x_12 = 1) → wd X (fun _ => True) (va_A [] sz) s (mW m0 ma la lb n t v ++ [((ma 10), .inl (X.2.1, 150, .inl fd))]) H locs → lv_has ls 10 [(9, .int (nI k26)), (8, .int x26_8), (0, .ref m0), (1, .int (nI z)), (2, .int x2), (3, .int x3), (4, .int x4), (5, .int x5), (6, .int x6), (7, .int x7)] → Wx (F0 m 111 ls [.int x_12]) H locs) ?_ ?_
              · intro join_103
                refine lv_icmp_ne (tgt := 110) zx zb dX11_spells_103 (by decide) (fun c_11 => ?_) (fun c_11 => ?_)
                · refine lv_iconst (v := 0) zx zb dX11_spells_110 (by decide) ?_
                  exact join_103 0 _ _ _ (by first | assumption | exact Or.inl rfl | exact Or.inr rfl) G hl
                · refine lv_iconst (v := 1) zx zb dX11_spells_106 (by decide) ?_
                  refine lv_goto (tgt := 111) zx zb dX11_spells_107 (by decide) ?_
                  exact join_103 1 _ _ _ (by first | assumption | exact Or.inl rfl | exact Or.inr rfl) G hl
              · intro x_12 H locs ls hk_x_12 G hl
                refine lv_istore (lv' := [(8, .int x_12), (9, .int (nI k26)), (0, .ref m0), (1, .int (nI z)), (2, .int x2), (3, .int x3), (4, .int x4), (5, .int x5), (6, .int x6), (7, .int x7)]) zx zb dX11_spells_111 hl (by decide) rfl (fun ls hl => ?_)
                refine lv_iinc (v := (nI (k26 + 1))) (lv' := [(9, .int (nI (k26 + 1))), (8, .int x_12), (0, .ref m0), (1, .int (nI z)), (2, .int x2), (3, .int x3), (4, .int x4), (5, .int x5), (6, .int x6), (7, .int x7)]) zx zb dX11_spells_113 hl (k := 1) rfl (nI_add k26 1) (by decide) rfl (fun ls hl => ?_)
                refine lv_goto (tgt := 26) zx zb dX11_spells_116 (by decide) ?_
                exact ih26 (k26 + 1) x_12 _ _ _ (by omega) (by omega) (by first | assumption | exact Or.inl rfl | exact Or.inr rfl) G hl
      · intro  H locs ls  G hl
        refine lv_iload zx zb dX11_spells_119 (lv_at hl 1 rfl) ?_
        exact e_int S zr zlk (k_nb (by assumption)) G () [] rfl rfl (Or.inl rfl) (by assumption) dX11_spells_121
  · refine lv_aload_n zx zb dX11_spells_8 rfl (lv_at hl 0 rfl) ?_
    refine r_get (C := RX11) (T := TX11) (N := 18) (ci := 9) (v := .int (nI (t 1))) S in_X11_spells_X11 G 0 rfl rfl 13 (by decide) lk_X11_spells_220 rfl dX11_spells_9 ?_
    refine lv_iload_n zx zb dX11_spells_12 rfl (lv_at hl 1 rfl) ?_
    refine lv_icmp_ne (tgt := 20) zx zb dX11_spells_13 (by decide) (fun c_13 => ?_) (fun c_13 => ?_)
    · have fc_13 := j_ne (a := (t 1)) (b := z) c_13
      refine lv_iconst (v := 0) zx zb dX11_spells_20 (by decide) ?_
      refine lv_istore (lv' := [(8, .int 0), (0, .ref m0), (1, .int (nI z)), (2, .int x2), (3, .int x3), (4, .int x4), (5, .int x5), (6, .int x6), (7, .int x7)]) zx zb dX11_spells_21 hl (by decide) rfl (fun ls hl => ?_)
      refine lv_iconst (v := 0) zx zb dX11_spells_23 (by decide) ?_
      refine lv_istore (lv' := [(9, .int 0), (8, .int 0), (0, .ref m0), (1, .int (nI z)), (2, .int x2), (3, .int x3), (4, .int x4), (5, .int x5), (6, .int x6), (7, .int x7)]) zx zb dX11_spells_24 hl (by decide) rfl (fun ls hl => ?_)
      refine k_loop (P := ∀ (zm : Nat) (k26 : Nat) (x26_8 : Int32) (H : Heap) (locs : List Loc) (ls : Array Slot), z + 1 ≤ k26 + zm → (k26 ≤ z) → (x26_8 = 0 ∨ x26_8 = 1) → wd X (fun _ => True) (va_A [] sz) s (mW m0 ma la lb n t v ++ [((ma 10), .inl (X.2.1, 150, .inl fd))]) H locs → lv_has ls 10 [(9, .int (nI k26)), (8, .int x26_8), (0, .ref m0), (1, .int (nI z)), (2, .int x2), (3, .int x3), (4, .int x4), (5, .int x5), (6, .int x6), (7, .int x7)] → W p l e _ s m _ below meth c H locs _ _ _ (F0 m 26 ls [])) (fun loop => loop (z + 1) 0 0 _ _ _ (by omega) (by omega) (by first | assumption | exact Or.inl rfl | exact Or.inr rfl) G hl) ?_
      intro zm
      induction zm with
      | zero => intro k26 x26_8 H locs ls zz q_hk_k26 q_hk_x26_8 _ _; exact absurd zz (by omega)
      | succ zm ih26 =>
        intro k26 x26_8 H locs ls zm_26 hk_k26 hk_x26_8 G hl
        refine lv_iload zx zb dX11_spells_26 (lv_at hl 0 rfl) ?_
        refine lv_iload_n zx zb dX11_spells_28 rfl (lv_at hl 3 rfl) ?_
        refine k_cutW (PP := fun Wx => ∀ (H : Heap) (locs : List Loc) (ls : Array Slot), wd X (fun _ => True) (va_A [] sz) s (mW m0 ma la lb n t v ++ [((ma 10), .inl (X.2.1, 150, .inl fd))]) H locs → lv_has ls 10 [(9, .int (nI k26)), (8, .int x26_8), (0, .ref m0), (1, .int (nI z)), (2, .int x2), (3, .int x3), (4, .int x4), (5, .int x5), (6, .int x6), (7, .int x7)] → Wx (F0 m 119 ls []) H locs) ?_ ?_
        · intro join_29
          refine lv_icmp_ge (tgt := 119) zx zb dX11_spells_29 (by decide) (fun c_14 => ?_) (fun c_14 => ?_)
          · have fc_14 := j_le (a := z) (b := k26) (by omega) (by omega) c_14
            exact join_29  _ _ _  G hl
          · have fc_14 := j_nle (a := z) (b := k26) (by omega) (by omega) c_14
            refine lv_iload zx zb dX11_spells_32 (lv_at hl 1 rfl) ?_
            refine lv_if_eq (tgt := 119) zx zb dX11_spells_34 (by decide) (fun c_15 => ?_) (fun c_15 => ?_)
            · exact join_29  _ _ _  G hl
            · refine lv_aload_n zx zb dX11_spells_37 rfl (lv_at hl 2 rfl) ?_
              refine r_get (C := RX11) (T := TX11) (N := 18) (ci := 9) (v := .ref (ma 10)) S in_X11_spells_X11 G 0 rfl rfl 10 (by decide) lk_X11_spells_39 rfl dX11_spells_38 ?_
              refine lv_aload_n zx zb dX11_spells_41 rfl (lv_at hl 2 rfl) ?_
              refine r_get (C := RX11) (T := TX11) (N := 18) (ci := 9) (v := .int (nI (t 0))) S in_X11_spells_X11 G 0 rfl rfl 12 (by decide) lk_X11_spells_217 rfl dX11_spells_42 ?_
              refine lv_iload zx zb dX11_spells_45 (lv_at hl 0 rfl) ?_
              refine r_iadd (v := (nI ((t 0) + k26))) S (nI_add (t 0) k26) dX11_spells_47 ?_
              refine r_iald S G 1 rfl (vp_in_nI (by omega) (by decide)) rfl dX11_spells_48 ?_
              refine k_itE (fun y_16 => ?_)
              refine lv_iload zx zb dX11_spells_49 (lv_at hl 0 rfl) ?_
              refine k_cutW (PP := fun Wx => ∀ (x_18 : Int32) (H : Heap) (locs : List Loc) (ls : Array Slot), wd X (fun _ => True) (va_A [] sz) s (mW m0 ma la lb n t v ++ [((ma 10), .inl (X.2.1, 150, .inl fd))]) H locs → lv_has ls 10 [(9, .int (nI k26)), (8, .int x26_8), (0, .ref m0), (1, .int (nI z)), (2, .int x2), (3, .int x3), (4, .int x4), (5, .int x5), (6, .int x6), (7, .int x7)] → Wx (F0 m 103 ls [.int x_18, .int y_16]) H locs) ?_ ?_
              · intro join_51
                refine lv_if_ne (tgt := 58) zx zb dX11_spells_51 (by decide) (fun c_17 => ?_) (fun c_17 => ?_)
                · have fc_17 := j_ne (a := k26) (b := 0) c_17
                  refine lv_iload zx zb dX11_spells_58 (lv_at hl 0 rfl) ?_
                  refine lv_iconst (v := 1) zx zb dX11_spells_60 (by decide) ?_
                  refine lv_icmp_ne (tgt := 68) zx zb dX11_spells_61 (by decide) (fun c_19 => ?_) (fun c_19 => ?_)
                  · have fc_19 := j_ne (a := k26) (b := 1) c_19
                    refine lv_iload zx zb dX11_spells_68 (lv_at hl 0 rfl) ?_
                    refine lv_iconst (v := 2) zx zb dX11_spells_70 (by decide) ?_
                    refine lv_icmp_ne (tgt := 79) zx zb dX11_spells_71 (by decide) (fun c_20 => ?_) (fun c_20 => ?_)
                    · have fc_20 := j_ne (a := k26) (b := 2) c_20
                      refine lv_iload zx zb dX11_spells_79 (lv_at hl 0 rfl) ?_
                      refine lv_iconst (v := 3) zx zb dX11_spells_81 (by decide) ?_
                      refine lv_icmp_ne (tgt := 90) zx zb dX11_spells_82 (by decide) (fun c_21 => ?_) (fun c_21 => ?_)
                      · have fc_21 := j_ne (a := k26) (b := 3) c_21
                        refine lv_iload zx zb dX11_spells_90 (lv_at hl 0 rfl) ?_
                        refine lv_iconst (v := 4) zx zb dX11_spells_92 (by decide) ?_
                        refine lv_icmp_ne (tgt := 101) zx zb dX11_spells_93 (by decide) (fun c_22 => ?_) (fun c_22 => ?_)
                        · have fc_22 := j_ne (a := k26) (b := 4) c_22
                          refine lv_iload zx zb dX11_spells_101 (lv_at hl 9 rfl) ?_
                          exact join_51 x7 _ _ _  G hl
                        · have fc_22 := j_eq (a := k26) (b := 4) (by omega) (by omega) c_22
                          refine lv_iload zx zb dX11_spells_96 (lv_at hl 8 rfl) ?_
                          refine lv_goto (tgt := 103) zx zb dX11_spells_98 (by decide) ?_
                          exact join_51 x6 _ _ _  G hl
                      · have fc_21 := j_eq (a := k26) (b := 3) (by omega) (by omega) c_21
                        refine lv_iload zx zb dX11_spells_85 (lv_at hl 7 rfl) ?_
                        refine lv_goto (tgt := 103) zx zb dX11_spells_87 (by decide) ?_
                        exact join_51 x5 _ _ _  G hl
                    · have fc_20 := j_eq (a := k26) (b := 2) (by omega) (by omega) c_20
                      refine lv_iload zx zb dX11_spells_74 (lv_at hl 6 rfl) ?_
                      refine lv_goto (tgt := 103) zx zb dX11_spells_76 (by decide) ?_
                      exact join_51 x4 _ _ _  G hl
                  · have fc_19 := j_eq (a := k26) (b := 1) (by omega) (by omega) c_19
                    refine lv_iload_n zx zb dX11_spells_64 rfl (lv_at hl 5 rfl) ?_
                    refine lv_goto (tgt := 103) zx zb dX11_spells_65 (by decide) ?_
                    exact join_51 x3 _ _ _  G hl
                · have fc_17 := j_eq (a := k26) (b := 0) (by omega) (by omega) c_17
                  refine lv_iload_n zx zb dX11_spells_54 rfl (lv_at hl 4 rfl) ?_
                  refine lv_goto (tgt := 103) zx zb dX11_spells_55 (by decide) ?_
                  exact join_51 x2 _ _ _  G hl
              · intro x_18 H locs ls  G hl
                refine k_cutW (PP := fun Wx => ∀ (x_24 : Int32) (H : Heap) (locs : List Loc) (ls : Array Slot), (x_24 = 0 ∨ x_24 = 1) → wd X (fun _ => True) (va_A [] sz) s (mW m0 ma la lb n t v ++ [((ma 10), .inl (X.2.1, 150, .inl fd))]) H locs → lv_has ls 10 [(9, .int (nI k26)), (8, .int x26_8), (0, .ref m0), (1, .int (nI z)), (2, .int x2), (3, .int x3), (4, .int x4), (5, .int x5), (6, .int x6), (7, .int x7)] → Wx (F0 m 111 ls [.int x_24]) H locs) ?_ ?_
                · intro join_103
                  refine lv_icmp_ne (tgt := 110) zx zb dX11_spells_103 (by decide) (fun c_23 => ?_) (fun c_23 => ?_)
                  · refine lv_iconst (v := 0) zx zb dX11_spells_110 (by decide) ?_
                    exact join_103 0 _ _ _ (by first | assumption | exact Or.inl rfl | exact Or.inr rfl) G hl
                  · refine lv_iconst (v := 1) zx zb dX11_spells_106 (by decide) ?_
                    refine lv_goto (tgt := 111) zx zb dX11_spells_107 (by decide) ?_
                    exact join_103 1 _ _ _ (by first | assumption | exact Or.inl rfl | exact Or.inr rfl) G hl
                · intro x_24 H locs ls hk_x_24 G hl
                  refine lv_istore (lv' := [(8, .int x_24), (9, .int (nI k26)), (0, .ref m0), (1, .int (nI z)), (2, .int x2), (3, .int x3), (4, .int x4), (5, .int x5), (6, .int x6), (7, .int x7)]) zx zb dX11_spells_111 hl (by decide) rfl (fun ls hl => ?_)
                  refine lv_iinc (v := (nI (k26 + 1))) (lv' := [(9, .int (nI (k26 + 1))), (8, .int x_24), (0, .ref m0), (1, .int (nI z)), (2, .int x2), (3, .int x3), (4, .int x4), (5, .int x5), (6, .int x6), (7, .int x7)]) zx zb dX11_spells_113 hl (k := 1) rfl (nI_add k26 1) (by decide) rfl (fun ls hl => ?_)
                  refine lv_goto (tgt := 26) zx zb dX11_spells_116 (by decide) ?_
                  exact ih26 (k26 + 1) x_24 _ _ _ (by omega) (by omega) (by first | assumption | exact Or.inl rfl | exact Or.inr rfl) G hl
        · intro  H locs ls  G hl
          refine lv_iload zx zb dX11_spells_119 (lv_at hl 1 rfl) ?_
          exact e_int S zr zlk (k_nb (by assumption)) G () [] rfl rfl (Or.inl rfl) (by assumption) dX11_spells_121
    · have fc_13 := j_eq (a := (t 1)) (b := z) (by omega) (by omega) c_13
      refine lv_iconst (v := 1) zx zb dX11_spells_16 (by decide) ?_
      refine lv_goto (tgt := 21) zx zb dX11_spells_17 (by decide) ?_
      refine lv_istore (lv' := [(8, .int 1), (0, .ref m0), (1, .int (nI z)), (2, .int x2), (3, .int x3), (4, .int x4), (5, .int x5), (6, .int x6), (7, .int x7)]) zx zb dX11_spells_21 hl (by decide) rfl (fun ls hl => ?_)
      refine lv_iconst (v := 0) zx zb dX11_spells_23 (by decide) ?_
      refine lv_istore (lv' := [(9, .int 0), (8, .int 1), (0, .ref m0), (1, .int (nI z)), (2, .int x2), (3, .int x3), (4, .int x4), (5, .int x5), (6, .int x6), (7, .int x7)]) zx zb dX11_spells_24 hl (by decide) rfl (fun ls hl => ?_)
      refine k_loop (P := ∀ (zm : Nat) (k26 : Nat) (x26_8 : Int32) (H : Heap) (locs : List Loc) (ls : Array Slot), z + 1 ≤ k26 + zm → (k26 ≤ z) → (x26_8 = 0 ∨ x26_8 = 1) → wd X (fun _ => True) (va_A [] sz) s (mW m0 ma la lb n t v ++ [((ma 10), .inl (X.2.1, 150, .inl fd))]) H locs → lv_has ls 10 [(9, .int (nI k26)), (8, .int x26_8), (0, .ref m0), (1, .int (nI z)), (2, .int x2), (3, .int x3), (4, .int x4), (5, .int x5), (6, .int x6), (7, .int x7)] → W p l e _ s m _ below meth c H locs _ _ _ (F0 m 26 ls [])) (fun loop => loop (z + 1) 0 1 _ _ _ (by omega) (by omega) (by first | assumption | exact Or.inl rfl | exact Or.inr rfl) G hl) ?_
      intro zm
      induction zm with
      | zero => intro k26 x26_8 H locs ls zz q_hk_k26 q_hk_x26_8 _ _; exact absurd zz (by omega)
      | succ zm ih26 =>
        intro k26 x26_8 H locs ls zm_26 hk_k26 hk_x26_8 G hl
        refine lv_iload zx zb dX11_spells_26 (lv_at hl 0 rfl) ?_
        refine lv_iload_n zx zb dX11_spells_28 rfl (lv_at hl 3 rfl) ?_
        refine k_cutW (PP := fun Wx => ∀ (H : Heap) (locs : List Loc) (ls : Array Slot), wd X (fun _ => True) (va_A [] sz) s (mW m0 ma la lb n t v ++ [((ma 10), .inl (X.2.1, 150, .inl fd))]) H locs → lv_has ls 10 [(9, .int (nI k26)), (8, .int x26_8), (0, .ref m0), (1, .int (nI z)), (2, .int x2), (3, .int x3), (4, .int x4), (5, .int x5), (6, .int x6), (7, .int x7)] → Wx (F0 m 119 ls []) H locs) ?_ ?_
        · intro join_29
          refine lv_icmp_ge (tgt := 119) zx zb dX11_spells_29 (by decide) (fun c_25 => ?_) (fun c_25 => ?_)
          · have fc_25 := j_le (a := z) (b := k26) (by omega) (by omega) c_25
            exact join_29  _ _ _  G hl
          · have fc_25 := j_nle (a := z) (b := k26) (by omega) (by omega) c_25
            refine lv_iload zx zb dX11_spells_32 (lv_at hl 1 rfl) ?_
            refine lv_if_eq (tgt := 119) zx zb dX11_spells_34 (by decide) (fun c_26 => ?_) (fun c_26 => ?_)
            · exact join_29  _ _ _  G hl
            · refine lv_aload_n zx zb dX11_spells_37 rfl (lv_at hl 2 rfl) ?_
              refine r_get (C := RX11) (T := TX11) (N := 18) (ci := 9) (v := .ref (ma 10)) S in_X11_spells_X11 G 0 rfl rfl 10 (by decide) lk_X11_spells_39 rfl dX11_spells_38 ?_
              refine lv_aload_n zx zb dX11_spells_41 rfl (lv_at hl 2 rfl) ?_
              refine r_get (C := RX11) (T := TX11) (N := 18) (ci := 9) (v := .int (nI (t 0))) S in_X11_spells_X11 G 0 rfl rfl 12 (by decide) lk_X11_spells_217 rfl dX11_spells_42 ?_
              refine lv_iload zx zb dX11_spells_45 (lv_at hl 0 rfl) ?_
              refine r_iadd (v := (nI ((t 0) + k26))) S (nI_add (t 0) k26) dX11_spells_47 ?_
              refine r_iald S G 1 rfl (vp_in_nI (by omega) (by decide)) rfl dX11_spells_48 ?_
              refine k_itE (fun y_27 => ?_)
              refine lv_iload zx zb dX11_spells_49 (lv_at hl 0 rfl) ?_
              refine k_cutW (PP := fun Wx => ∀ (x_29 : Int32) (H : Heap) (locs : List Loc) (ls : Array Slot), wd X (fun _ => True) (va_A [] sz) s (mW m0 ma la lb n t v ++ [((ma 10), .inl (X.2.1, 150, .inl fd))]) H locs → lv_has ls 10 [(9, .int (nI k26)), (8, .int x26_8), (0, .ref m0), (1, .int (nI z)), (2, .int x2), (3, .int x3), (4, .int x4), (5, .int x5), (6, .int x6), (7, .int x7)] → Wx (F0 m 103 ls [.int x_29, .int y_27]) H locs) ?_ ?_
              · intro join_51
                refine lv_if_ne (tgt := 58) zx zb dX11_spells_51 (by decide) (fun c_28 => ?_) (fun c_28 => ?_)
                · have fc_28 := j_ne (a := k26) (b := 0) c_28
                  refine lv_iload zx zb dX11_spells_58 (lv_at hl 0 rfl) ?_
                  refine lv_iconst (v := 1) zx zb dX11_spells_60 (by decide) ?_
                  refine lv_icmp_ne (tgt := 68) zx zb dX11_spells_61 (by decide) (fun c_30 => ?_) (fun c_30 => ?_)
                  · have fc_30 := j_ne (a := k26) (b := 1) c_30
                    refine lv_iload zx zb dX11_spells_68 (lv_at hl 0 rfl) ?_
                    refine lv_iconst (v := 2) zx zb dX11_spells_70 (by decide) ?_
                    refine lv_icmp_ne (tgt := 79) zx zb dX11_spells_71 (by decide) (fun c_31 => ?_) (fun c_31 => ?_)
                    · have fc_31 := j_ne (a := k26) (b := 2) c_31
                      refine lv_iload zx zb dX11_spells_79 (lv_at hl 0 rfl) ?_
                      refine lv_iconst (v := 3) zx zb dX11_spells_81 (by decide) ?_
                      refine lv_icmp_ne (tgt := 90) zx zb dX11_spells_82 (by decide) (fun c_32 => ?_) (fun c_32 => ?_)
                      · have fc_32 := j_ne (a := k26) (b := 3) c_32
                        refine lv_iload zx zb dX11_spells_90 (lv_at hl 0 rfl) ?_
                        refine lv_iconst (v := 4) zx zb dX11_spells_92 (by decide) ?_
                        refine lv_icmp_ne (tgt := 101) zx zb dX11_spells_93 (by decide) (fun c_33 => ?_) (fun c_33 => ?_)
                        · have fc_33 := j_ne (a := k26) (b := 4) c_33
                          refine lv_iload zx zb dX11_spells_101 (lv_at hl 9 rfl) ?_
                          exact join_51 x7 _ _ _  G hl
                        · have fc_33 := j_eq (a := k26) (b := 4) (by omega) (by omega) c_33
                          refine lv_iload zx zb dX11_spells_96 (lv_at hl 8 rfl) ?_
                          refine lv_goto (tgt := 103) zx zb dX11_spells_98 (by decide) ?_
                          exact join_51 x6 _ _ _  G hl
                      · have fc_32 := j_eq (a := k26) (b := 3) (by omega) (by omega) c_32
                        refine lv_iload zx zb dX11_spells_85 (lv_at hl 7 rfl) ?_
                        refine lv_goto (tgt := 103) zx zb dX11_spells_87 (by decide) ?_
                        exact join_51 x5 _ _ _  G hl
                    · have fc_31 := j_eq (a := k26) (b := 2) (by omega) (by omega) c_31
                      refine lv_iload zx zb dX11_spells_74 (lv_at hl 6 rfl) ?_
                      refine lv_goto (tgt := 103) zx zb dX11_spells_76 (by decide) ?_
                      exact join_51 x4 _ _ _  G hl
                  · have fc_30 := j_eq (a := k26) (b := 1) (by omega) (by omega) c_30
                    refine lv_iload_n zx zb dX11_spells_64 rfl (lv_at hl 5 rfl) ?_
                    refine lv_goto (tgt := 103) zx zb dX11_spells_65 (by decide) ?_
                    exact join_51 x3 _ _ _  G hl
                · have fc_28 := j_eq (a := k26) (b := 0) (by omega) (by omega) c_28
                  refine lv_iload_n zx zb dX11_spells_54 rfl (lv_at hl 4 rfl) ?_
                  refine lv_goto (tgt := 103) zx zb dX11_spells_55 (by decide) ?_
                  exact join_51 x2 _ _ _  G hl
              · intro x_29 H locs ls  G hl
                refine k_cutW (PP := fun Wx => ∀ (x_35 : Int32) (H : Heap) (locs : List Loc) (ls : Array Slot), (x_35 = 0 ∨ x_35 = 1) → wd X (fun _ => True) (va_A [] sz) s (mW m0 ma la lb n t v ++ [((ma 10), .inl (X.2.1, 150, .inl fd))]) H locs → lv_has ls 10 [(9, .int (nI k26)), (8, .int x26_8), (0, .ref m0), (1, .int (nI z)), (2, .int x2), (3, .int x3), (4, .int x4), (5, .int x5), (6, .int x6), (7, .int x7)] → Wx (F0 m 111 ls [.int x_35]) H locs) ?_ ?_
                · intro join_103
                  refine lv_icmp_ne (tgt := 110) zx zb dX11_spells_103 (by decide) (fun c_34 => ?_) (fun c_34 => ?_)
                  · refine lv_iconst (v := 0) zx zb dX11_spells_110 (by decide) ?_
                    exact join_103 0 _ _ _ (by first | assumption | exact Or.inl rfl | exact Or.inr rfl) G hl
                  · refine lv_iconst (v := 1) zx zb dX11_spells_106 (by decide) ?_
                    refine lv_goto (tgt := 111) zx zb dX11_spells_107 (by decide) ?_
                    exact join_103 1 _ _ _ (by first | assumption | exact Or.inl rfl | exact Or.inr rfl) G hl
                · intro x_35 H locs ls hk_x_35 G hl
                  refine lv_istore (lv' := [(8, .int x_35), (9, .int (nI k26)), (0, .ref m0), (1, .int (nI z)), (2, .int x2), (3, .int x3), (4, .int x4), (5, .int x5), (6, .int x6), (7, .int x7)]) zx zb dX11_spells_111 hl (by decide) rfl (fun ls hl => ?_)
                  refine lv_iinc (v := (nI (k26 + 1))) (lv' := [(9, .int (nI (k26 + 1))), (8, .int x_35), (0, .ref m0), (1, .int (nI z)), (2, .int x2), (3, .int x3), (4, .int x4), (5, .int x5), (6, .int x6), (7, .int x7)]) zx zb dX11_spells_113 hl (k := 1) rfl (nI_add k26 1) (by decide) rfl (fun ls hl => ?_)
                  refine lv_goto (tgt := 26) zx zb dX11_spells_116 (by decide) ?_
                  exact ih26 (k26 + 1) x_35 _ _ _ (by omega) (by omega) (by first | assumption | exact Or.inl rfl | exact Or.inr rfl) G hl
        · intro  H locs ls  G hl
          refine lv_iload zx zb dX11_spells_119 (lv_at hl 1 rfl) ?_
          exact e_int S zr zlk (k_nb (by assumption)) G () [] rfl rfl (Or.inl rfl) (by assumption) dX11_spells_121
theorem in_X11_takes_X11 : ∀ w ∈ wsX110, w ∈ wsX11_takes := by decide +kernel
theorem lk_X11_takes_223 : Cond.fieldLink RX11 223 "EggSpoonsModel" "token" "I" ∈ wsX11_takes := by decide +kernel
theorem lk_X11_takes_226 : Cond.fieldLink RX11 226 "EggSpoonsModel" "value" "I" ∈ wsX11_takes := by decide +kernel
theorem lk_X11_takes_45 : Cond.fieldLink RX11 45 "EggSpoonsModel" "values" "[I" ∈ wsX11_takes := by decide +kernel
theorem hdV_X11_goBehind : yX11_goBehind.cls = RX11 ∧ yX11_goBehind.cls ≠ "java/lang/invoke/MethodHandle" ∧ yX11_goBehind.cls ≠ "java/lang/invoke/VarHandle" ∧ (parseMethodDescriptor yX11_goBehind.desc).map (fun d => d.parameters.length) = some 0 := by decide +kernel
set_option maxHeartbeats 4000000 in
set_option maxRecDepth 100000 in
/-- takes -/
theorem m_takes0 (l : Launch) (X : EX) (m0 : Nat) (ma : Nat → Nat) (la : Int64) (lb : Int64) (n : Nat) (t : Nat → Nat) (v : Nat → Int32) (fd : Nat → Int32) (fv : Nat → Int32) (lo : Int32) (hi : Int32) (hI_n : n ≤ 150) (hI_t : InT t) (hT : t 0 + t 1 ≤ n ∧ (v 0 = 0 ∨ 1 ≤ t 1)) (sz : Nat) : Met l yX11_takes wsX11_takes ({ frames := 4, cells := 0, slots := 0, locals := 89 } : Room) (pE X [.ref m0, .int 0, .int lo, .int hi] (mW m0 ma la lb n t v ++ [((ma 10), .inl (X.2.1, 150, .inl fd))] ++ [((ma 17), .inl (X.2.1, 3, .inl fv))]) sz) (qI (fun (r : Int32) (u : (Nat → Nat) × (Nat → Int32) × (Nat → Int32)) => InT u.1 ∧ ((t 0 ≤ u.1 0 ∧ u.1 0 + u.1 1 ≤ n ∧ (u.2.1 0 = 0 ∨ 1 ≤ u.1 1)) ∧ (r = 0 ∨ (r = 1 ∧ (lo ≤ u.2.2 0 ∧ u.2.2 0 ≤ hi) ∧ u.2.2 1 = fv 1 ∧ u.2.2 2 = fv 2)))) X (fun (u : (Nat → Nat) × (Nat → Int32) × (Nat → Int32)) => mW m0 ma la lb n u.1 u.2.1 ++ [((ma 10), .inl (X.2.1, 150, .inl fd))] ++ [((ma 17), .inl (X.2.1, 3, .inl u.2.2))]) (mW m0 ma la lb n t v ++ [((ma 10), .inl (X.2.1, 150, .inl fd))] ++ [((ma 17), .inl (X.2.1, 3, .inl fv))]) sz) 0 0 (va_A (mW m0 ma la lb n t v ++ [((ma 10), .inl (X.2.1, 150, .inl fd))] ++ [((ma 17), .inl (X.2.1, 3, .inl fv))]) sz) := by
  refine mk_met (B := (va_A (mW m0 ma la lb n t v ++ [((ma 10), .inl (X.2.1, 150, .inl fd))] ++ [((ma 17), .inl (X.2.1, 3, .inl fv))]) sz)) (A := (va_A (mW m0 ma la lb n t v ++ [((ma 10), .inl (X.2.1, 150, .inl fd))] ++ [((ma 17), .inl (X.2.1, 3, .inl fv))]) sz)) (cc := cX11_takes) (maxL := 4) (ret := (some .boolean)) (by decide) rfl (Nat.le_of_ble_eq_true rfl) k_w k_a (fun p e s m below meth c S zr zlk znm zsz G ls hl => ?_)
  have S : CallFix p m c cX11_takes 4 s _ wsX11_takes RX11 := S
  have zx := S.1
  have zb := S.2.1
  have hl : lv_has ls 4 [(0, .ref m0), (1, .int 0), (2, .int lo), (3, .int hi)] := hl
  have hO_t := hI_t
  obtain ⟨ht0_t, ht1_t⟩ := hO_t
  obtain ⟨hT1, hT2⟩ := hT
  refine lv_aload_n zx zb dX11_takes_0 rfl (lv_at hl 0 rfl) ?_
  refine r_get (C := RX11) (T := TX11) (N := 18) (ci := 9) (v := .int (v 0)) S in_X11_takes_X11 G 0 rfl rfl 14 (by decide) lk_X11_takes_223 rfl dX11_takes_1 ?_
  refine lv_iconst (v := 2) zx zb dX11_takes_4 (by decide) ?_
  refine lv_icmp_ne (tgt := 23) zx zb dX11_takes_5 (by decide) (fun c_1 => ?_) (fun c_1 => ?_)
  · refine lv_iconst (v := 0) zx zb dX11_takes_23 (by decide) ?_
    exact e_int S zr zlk (by decide) G (t, v, fv) [0, 1, 2] rfl rfl (Or.inr rfl) (⟨hI_t, ⟨⟨Nat.le_refl _, hT1, hT2⟩, Or.inl rfl⟩⟩) dX11_takes_24
  · refine lv_aload_n zx zb dX11_takes_8 rfl (lv_at hl 0 rfl) ?_
    refine r_get (C := RX11) (T := TX11) (N := 18) (ci := 9) (v := .int (v 1)) S in_X11_takes_X11 G 0 rfl rfl 15 (by decide) lk_X11_takes_226 rfl dX11_takes_9 ?_
    refine lv_i2l (v := (Int32.toInt64 (v 1))) zx zb dX11_takes_12 rfl ?_
    refine lv_iload_n zx zb dX11_takes_13 rfl (lv_at hl 2 rfl) ?_
    refine lv_i2l (v := (Int32.toInt64 lo)) zx zb dX11_takes_14 rfl ?_
    refine lv_iload_n zx zb dX11_takes_15 rfl (lv_at hl 3 rfl) ?_
    refine lv_i2l (v := (Int32.toInt64 hi)) zx zb dX11_takes_16 rfl ?_
    refine o_ri (cells' := 0) (slots' := 0) G rfl rfl (n_S (As := [.long (Int32.toInt64 (v 1)), .long (Int32.toInt64 lo), .long (Int32.toInt64 hi)]) (rest := []) S G (m_in l X (v 1) lo hi s.heap.size) gX11_takes_X11_in rfl rfl rfl hdS_X11_in ⟨Nat.le_of_ble_eq_true rfl, Nat.le_of_ble_eq_true rfl⟩ [] rfl rfl rfl hl.1 (Nat.le_of_ble_eq_true rfl) dX11_takes_17 ⟨Nat.le_of_ble_eq_true rfl, Nat.le_of_ble_eq_true rfl⟩) (fun r_2 u_2 H locs hp_2 G => ?_)
    have G : wd X (va_A (mW m0 ma la lb n t v ++ [((ma 10), .inl (X.2.1, 150, .inl fd))] ++ [((ma 17), .inl (X.2.1, 3, .inl fv))]) sz) (va_A (mW m0 ma la lb n t v ++ [((ma 10), .inl (X.2.1, 150, .inl fd))] ++ [((ma 17), .inl (X.2.1, 3, .inl fv))]) sz) s (mW m0 ma la lb n t v ++ [((ma 10), .inl (X.2.1, 150, .inl fd))] ++ [((ma 17), .inl (X.2.1, 3, .inl fv))]) H locs := G
    rcases hp_2 with ⟨rfl, hw_2⟩ | ⟨rfl, hw_2⟩
    · refine lv_if_ne (tgt := 25) zx zb dX11_takes_20 (by decide) (fun c_3 => ?_) (fun c_3 => absurd c_3 (by decide))
      refine lv_aload_n zx zb dX11_takes_25 rfl (lv_at hl 0 rfl) ?_
      refine r_get (C := RX11) (T := TX11) (N := 18) (ci := 9) (v := .ref (ma 17)) S in_X11_takes_X11 G 0 rfl rfl 17 (by decide) lk_X11_takes_45 rfl dX11_takes_26 ?_
      refine lv_iload_n zx zb dX11_takes_29 rfl (lv_at hl 1 rfl) ?_
      refine lv_aload_n zx zb dX11_takes_30 rfl (lv_at hl 0 rfl) ?_
      refine r_get (C := RX11) (T := TX11) (N := 18) (ci := 9) (v := .int (v 1)) S in_X11_takes_X11 G 0 rfl rfl 15 (by decide) lk_X11_takes_226 rfl dX11_takes_31 ?_
      refine r_iast S G 2 rfl (k_vp (by decide)) dX11_takes_34 (fun H locs G => ?_)
      obtain ⟨f_4, hE_f_4, G⟩ : ∃ f_4 : Nat → Int32, f_4 = upd fv 0 (v 1) ∧ wd X (va_A (mW m0 ma la lb n t v ++ [((ma 10), .inl (X.2.1, 150, .inl fd))] ++ [((ma 17), .inl (X.2.1, 3, .inl fv))]) sz) (va_A (mW m0 ma la lb n t v ++ [((ma 10), .inl (X.2.1, 150, .inl fd))] ++ [((ma 17), .inl (X.2.1, 3, .inl fv))]) sz) s (mW m0 ma la lb n t v ++ [((ma 10), .inl (X.2.1, 150, .inl fd))] ++ [((ma 17), .inl (X.2.1, 3, .inl f_4))]) H locs := ⟨_, rfl, G⟩
      refine lv_aload_n zx zb dX11_takes_35 rfl (lv_at hl 0 rfl) ?_
      refine b_wv (cells' := 0) (slots' := 0) (wr := [((ma 17), .inl (X.2.1, 3, .inl f_4))]) G rfl rfl [0, 1] [2] rfl rfl rfl rfl (n_V (As := []) (rest := []) (C := RX11) (T := TX11) (N := 18) (ci := 9) S G (m_goBehind l X m0 ma la lb n t v fd hI_n hI_t ⟨by omega, by first | assumption | omega⟩ H.size) gX11_takes_X11_goBehind rfl rfl rfl hdV_X11_goBehind ⟨Nat.le_of_ble_eq_true rfl, Nat.le_of_ble_eq_true rfl⟩ [0, 1] rfl rfl 0 rfl rfl rfl hl.1 (Nat.le_of_ble_eq_true rfl) dX11_takes_36 ⟨Nat.le_of_ble_eq_true rfl, Nat.le_of_ble_eq_true rfl⟩) (fun u_5 H locs hp_5 G => ?_)
      obtain ⟨t_5a, v_5b⟩ := u_5
      obtain ⟨hI_t_5a, hq_5⟩ := hp_5
      have hO_t_5a := hI_t_5a
      obtain ⟨ht0_t_5a, ht1_t_5a⟩ := hO_t_5a
      have G : wd X (va_A (mW m0 ma la lb n t v ++ [((ma 10), .inl (X.2.1, 150, .inl fd))] ++ [((ma 17), .inl (X.2.1, 3, .inl fv))]) sz) (va_A (mW m0 ma la lb n t v ++ [((ma 10), .inl (X.2.1, 150, .inl fd))] ++ [((ma 17), .inl (X.2.1, 3, .inl fv))]) sz) s ([((ma 17), .inl (X.2.1, 3, .inl f_4))] ++ mW m0 ma la lb n t_5a v_5b ++ [((ma 10), .inl (X.2.1, 150, .inl fd))]) H locs := G
      obtain ⟨hz0_5, hz1_5, hz2_5⟩ := hq_5
      refine lv_iconst (v := 1) zx zb dX11_takes_39 (by decide) ?_
      exact e_int S zr zlk (by decide) G (t_5a, v_5b, f_4) [1, 2, 0] rfl rfl (Or.inr rfl) (⟨hI_t_5a, ⟨⟨by first | omega | (dsimp only; omega), by first | omega | (dsimp only; omega), by assumption⟩, Or.inr ⟨rfl, (by rw [hE_f_4]; exact hw_2), (by rw [hE_f_4]; rfl), (by rw [hE_f_4]; rfl)⟩⟩⟩) dX11_takes_40
    · refine lv_if_ne (tgt := 25) zx zb dX11_takes_20 (by decide) (fun c_6 => absurd (by decide) c_6) (fun c_6 => ?_)
      refine lv_iconst (v := 0) zx zb dX11_takes_23 (by decide) ?_
      exact e_int S zr zlk (by decide) G (t, v, fv) [0, 1, 2] rfl rfl (Or.inr rfl) (⟨hI_t, ⟨⟨Nat.le_refl _, hT1, hT2⟩, Or.inl rfl⟩⟩) dX11_takes_24
set_option maxHeartbeats 4000000 in
set_option maxRecDepth 100000 in
/-- takes -/
theorem m_takes1 (l : Launch) (X : EX) (m0 : Nat) (ma : Nat → Nat) (la : Int64) (lb : Int64) (n : Nat) (t : Nat → Nat) (v : Nat → Int32) (fd : Nat → Int32) (fv : Nat → Int32) (lo : Int32) (hi : Int32) (hI_n : n ≤ 150) (hI_t : InT t) (hT : t 0 + t 1 ≤ n ∧ (v 0 = 0 ∨ 1 ≤ t 1)) (sz : Nat) : Met l yX11_takes wsX11_takes ({ frames := 4, cells := 0, slots := 0, locals := 89 } : Room) (pE X [.ref m0, .int 1, .int lo, .int hi] (mW m0 ma la lb n t v ++ [((ma 10), .inl (X.2.1, 150, .inl fd))] ++ [((ma 17), .inl (X.2.1, 3, .inl fv))]) sz) (qI (fun (r : Int32) (u : (Nat → Nat) × (Nat → Int32) × (Nat → Int32)) => InT u.1 ∧ ((t 0 ≤ u.1 0 ∧ u.1 0 + u.1 1 ≤ n ∧ (u.2.1 0 = 0 ∨ 1 ≤ u.1 1)) ∧ (r = 0 ∨ (r = 1 ∧ (lo ≤ u.2.2 1 ∧ u.2.2 1 ≤ hi) ∧ u.2.2 0 = fv 0 ∧ u.2.2 2 = fv 2)))) X (fun (u : (Nat → Nat) × (Nat → Int32) × (Nat → Int32)) => mW m0 ma la lb n u.1 u.2.1 ++ [((ma 10), .inl (X.2.1, 150, .inl fd))] ++ [((ma 17), .inl (X.2.1, 3, .inl u.2.2))]) (mW m0 ma la lb n t v ++ [((ma 10), .inl (X.2.1, 150, .inl fd))] ++ [((ma 17), .inl (X.2.1, 3, .inl fv))]) sz) 0 0 (va_A (mW m0 ma la lb n t v ++ [((ma 10), .inl (X.2.1, 150, .inl fd))] ++ [((ma 17), .inl (X.2.1, 3, .inl fv))]) sz) := by
  refine mk_met (B := (va_A (mW m0 ma la lb n t v ++ [((ma 10), .inl (X.2.1, 150, .inl fd))] ++ [((ma 17), .inl (X.2.1, 3, .inl fv))]) sz)) (A := (va_A (mW m0 ma la lb n t v ++ [((ma 10), .inl (X.2.1, 150, .inl fd))] ++ [((ma 17), .inl (X.2.1, 3, .inl fv))]) sz)) (cc := cX11_takes) (maxL := 4) (ret := (some .boolean)) (by decide) rfl (Nat.le_of_ble_eq_true rfl) k_w k_a (fun p e s m below meth c S zr zlk znm zsz G ls hl => ?_)
  have S : CallFix p m c cX11_takes 4 s _ wsX11_takes RX11 := S
  have zx := S.1
  have zb := S.2.1
  have hl : lv_has ls 4 [(0, .ref m0), (1, .int 1), (2, .int lo), (3, .int hi)] := hl
  have hO_t := hI_t
  obtain ⟨ht0_t, ht1_t⟩ := hO_t
  obtain ⟨hT1, hT2⟩ := hT
  refine lv_aload_n zx zb dX11_takes_0 rfl (lv_at hl 0 rfl) ?_
  refine r_get (C := RX11) (T := TX11) (N := 18) (ci := 9) (v := .int (v 0)) S in_X11_takes_X11 G 0 rfl rfl 14 (by decide) lk_X11_takes_223 rfl dX11_takes_1 ?_
  refine lv_iconst (v := 2) zx zb dX11_takes_4 (by decide) ?_
  refine lv_icmp_ne (tgt := 23) zx zb dX11_takes_5 (by decide) (fun c_1 => ?_) (fun c_1 => ?_)
  · refine lv_iconst (v := 0) zx zb dX11_takes_23 (by decide) ?_
    exact e_int S zr zlk (by decide) G (t, v, fv) [0, 1, 2] rfl rfl (Or.inr rfl) (⟨hI_t, ⟨⟨Nat.le_refl _, hT1, hT2⟩, Or.inl rfl⟩⟩) dX11_takes_24
  · refine lv_aload_n zx zb dX11_takes_8 rfl (lv_at hl 0 rfl) ?_
    refine r_get (C := RX11) (T := TX11) (N := 18) (ci := 9) (v := .int (v 1)) S in_X11_takes_X11 G 0 rfl rfl 15 (by decide) lk_X11_takes_226 rfl dX11_takes_9 ?_
    refine lv_i2l (v := (Int32.toInt64 (v 1))) zx zb dX11_takes_12 rfl ?_
    refine lv_iload_n zx zb dX11_takes_13 rfl (lv_at hl 2 rfl) ?_
    refine lv_i2l (v := (Int32.toInt64 lo)) zx zb dX11_takes_14 rfl ?_
    refine lv_iload_n zx zb dX11_takes_15 rfl (lv_at hl 3 rfl) ?_
    refine lv_i2l (v := (Int32.toInt64 hi)) zx zb dX11_takes_16 rfl ?_
    refine o_ri (cells' := 0) (slots' := 0) G rfl rfl (n_S (As := [.long (Int32.toInt64 (v 1)), .long (Int32.toInt64 lo), .long (Int32.toInt64 hi)]) (rest := []) S G (m_in l X (v 1) lo hi s.heap.size) gX11_takes_X11_in rfl rfl rfl hdS_X11_in ⟨Nat.le_of_ble_eq_true rfl, Nat.le_of_ble_eq_true rfl⟩ [] rfl rfl rfl hl.1 (Nat.le_of_ble_eq_true rfl) dX11_takes_17 ⟨Nat.le_of_ble_eq_true rfl, Nat.le_of_ble_eq_true rfl⟩) (fun r_2 u_2 H locs hp_2 G => ?_)
    have G : wd X (va_A (mW m0 ma la lb n t v ++ [((ma 10), .inl (X.2.1, 150, .inl fd))] ++ [((ma 17), .inl (X.2.1, 3, .inl fv))]) sz) (va_A (mW m0 ma la lb n t v ++ [((ma 10), .inl (X.2.1, 150, .inl fd))] ++ [((ma 17), .inl (X.2.1, 3, .inl fv))]) sz) s (mW m0 ma la lb n t v ++ [((ma 10), .inl (X.2.1, 150, .inl fd))] ++ [((ma 17), .inl (X.2.1, 3, .inl fv))]) H locs := G
    rcases hp_2 with ⟨rfl, hw_2⟩ | ⟨rfl, hw_2⟩
    · refine lv_if_ne (tgt := 25) zx zb dX11_takes_20 (by decide) (fun c_3 => ?_) (fun c_3 => absurd c_3 (by decide))
      refine lv_aload_n zx zb dX11_takes_25 rfl (lv_at hl 0 rfl) ?_
      refine r_get (C := RX11) (T := TX11) (N := 18) (ci := 9) (v := .ref (ma 17)) S in_X11_takes_X11 G 0 rfl rfl 17 (by decide) lk_X11_takes_45 rfl dX11_takes_26 ?_
      refine lv_iload_n zx zb dX11_takes_29 rfl (lv_at hl 1 rfl) ?_
      refine lv_aload_n zx zb dX11_takes_30 rfl (lv_at hl 0 rfl) ?_
      refine r_get (C := RX11) (T := TX11) (N := 18) (ci := 9) (v := .int (v 1)) S in_X11_takes_X11 G 0 rfl rfl 15 (by decide) lk_X11_takes_226 rfl dX11_takes_31 ?_
      refine r_iast S G 2 rfl (k_vp (by decide)) dX11_takes_34 (fun H locs G => ?_)
      obtain ⟨f_4, hE_f_4, G⟩ : ∃ f_4 : Nat → Int32, f_4 = upd fv 1 (v 1) ∧ wd X (va_A (mW m0 ma la lb n t v ++ [((ma 10), .inl (X.2.1, 150, .inl fd))] ++ [((ma 17), .inl (X.2.1, 3, .inl fv))]) sz) (va_A (mW m0 ma la lb n t v ++ [((ma 10), .inl (X.2.1, 150, .inl fd))] ++ [((ma 17), .inl (X.2.1, 3, .inl fv))]) sz) s (mW m0 ma la lb n t v ++ [((ma 10), .inl (X.2.1, 150, .inl fd))] ++ [((ma 17), .inl (X.2.1, 3, .inl f_4))]) H locs := ⟨_, rfl, G⟩
      refine lv_aload_n zx zb dX11_takes_35 rfl (lv_at hl 0 rfl) ?_
      refine b_wv (cells' := 0) (slots' := 0) (wr := [((ma 17), .inl (X.2.1, 3, .inl f_4))]) G rfl rfl [0, 1] [2] rfl rfl rfl rfl (n_V (As := []) (rest := []) (C := RX11) (T := TX11) (N := 18) (ci := 9) S G (m_goBehind l X m0 ma la lb n t v fd hI_n hI_t ⟨by omega, by first | assumption | omega⟩ H.size) gX11_takes_X11_goBehind rfl rfl rfl hdV_X11_goBehind ⟨Nat.le_of_ble_eq_true rfl, Nat.le_of_ble_eq_true rfl⟩ [0, 1] rfl rfl 0 rfl rfl rfl hl.1 (Nat.le_of_ble_eq_true rfl) dX11_takes_36 ⟨Nat.le_of_ble_eq_true rfl, Nat.le_of_ble_eq_true rfl⟩) (fun u_5 H locs hp_5 G => ?_)
      obtain ⟨t_5a, v_5b⟩ := u_5
      obtain ⟨hI_t_5a, hq_5⟩ := hp_5
      have hO_t_5a := hI_t_5a
      obtain ⟨ht0_t_5a, ht1_t_5a⟩ := hO_t_5a
      have G : wd X (va_A (mW m0 ma la lb n t v ++ [((ma 10), .inl (X.2.1, 150, .inl fd))] ++ [((ma 17), .inl (X.2.1, 3, .inl fv))]) sz) (va_A (mW m0 ma la lb n t v ++ [((ma 10), .inl (X.2.1, 150, .inl fd))] ++ [((ma 17), .inl (X.2.1, 3, .inl fv))]) sz) s ([((ma 17), .inl (X.2.1, 3, .inl f_4))] ++ mW m0 ma la lb n t_5a v_5b ++ [((ma 10), .inl (X.2.1, 150, .inl fd))]) H locs := G
      obtain ⟨hz0_5, hz1_5, hz2_5⟩ := hq_5
      refine lv_iconst (v := 1) zx zb dX11_takes_39 (by decide) ?_
      exact e_int S zr zlk (by decide) G (t_5a, v_5b, f_4) [1, 2, 0] rfl rfl (Or.inr rfl) (⟨hI_t_5a, ⟨⟨by first | omega | (dsimp only; omega), by first | omega | (dsimp only; omega), by assumption⟩, Or.inr ⟨rfl, (by rw [hE_f_4]; exact hw_2), (by rw [hE_f_4]; rfl), (by rw [hE_f_4]; rfl)⟩⟩⟩) dX11_takes_40
    · refine lv_if_ne (tgt := 25) zx zb dX11_takes_20 (by decide) (fun c_6 => absurd (by decide) c_6) (fun c_6 => ?_)
      refine lv_iconst (v := 0) zx zb dX11_takes_23 (by decide) ?_
      exact e_int S zr zlk (by decide) G (t, v, fv) [0, 1, 2] rfl rfl (Or.inr rfl) (⟨hI_t, ⟨⟨Nat.le_refl _, hT1, hT2⟩, Or.inl rfl⟩⟩) dX11_takes_24
set_option maxHeartbeats 4000000 in
set_option maxRecDepth 100000 in
/-- takes -/
theorem m_takes2 (l : Launch) (X : EX) (m0 : Nat) (ma : Nat → Nat) (la : Int64) (lb : Int64) (n : Nat) (t : Nat → Nat) (v : Nat → Int32) (fd : Nat → Int32) (fv : Nat → Int32) (lo : Int32) (hi : Int32) (hI_n : n ≤ 150) (hI_t : InT t) (hT : t 0 + t 1 ≤ n ∧ (v 0 = 0 ∨ 1 ≤ t 1)) (sz : Nat) : Met l yX11_takes wsX11_takes ({ frames := 4, cells := 0, slots := 0, locals := 89 } : Room) (pE X [.ref m0, .int 2, .int lo, .int hi] (mW m0 ma la lb n t v ++ [((ma 10), .inl (X.2.1, 150, .inl fd))] ++ [((ma 17), .inl (X.2.1, 3, .inl fv))]) sz) (qI (fun (r : Int32) (u : (Nat → Nat) × (Nat → Int32) × (Nat → Int32)) => InT u.1 ∧ ((t 0 ≤ u.1 0 ∧ u.1 0 + u.1 1 ≤ n ∧ (u.2.1 0 = 0 ∨ 1 ≤ u.1 1)) ∧ (r = 0 ∨ (r = 1 ∧ (lo ≤ u.2.2 2 ∧ u.2.2 2 ≤ hi) ∧ u.2.2 0 = fv 0 ∧ u.2.2 1 = fv 1)))) X (fun (u : (Nat → Nat) × (Nat → Int32) × (Nat → Int32)) => mW m0 ma la lb n u.1 u.2.1 ++ [((ma 10), .inl (X.2.1, 150, .inl fd))] ++ [((ma 17), .inl (X.2.1, 3, .inl u.2.2))]) (mW m0 ma la lb n t v ++ [((ma 10), .inl (X.2.1, 150, .inl fd))] ++ [((ma 17), .inl (X.2.1, 3, .inl fv))]) sz) 0 0 (va_A (mW m0 ma la lb n t v ++ [((ma 10), .inl (X.2.1, 150, .inl fd))] ++ [((ma 17), .inl (X.2.1, 3, .inl fv))]) sz) := by
  refine mk_met (B := (va_A (mW m0 ma la lb n t v ++ [((ma 10), .inl (X.2.1, 150, .inl fd))] ++ [((ma 17), .inl (X.2.1, 3, .inl fv))]) sz)) (A := (va_A (mW m0 ma la lb n t v ++ [((ma 10), .inl (X.2.1, 150, .inl fd))] ++ [((ma 17), .inl (X.2.1, 3, .inl fv))]) sz)) (cc := cX11_takes) (maxL := 4) (ret := (some .boolean)) (by decide) rfl (Nat.le_of_ble_eq_true rfl) k_w k_a (fun p e s m below meth c S zr zlk znm zsz G ls hl => ?_)
  have S : CallFix p m c cX11_takes 4 s _ wsX11_takes RX11 := S
  have zx := S.1
  have zb := S.2.1
  have hl : lv_has ls 4 [(0, .ref m0), (1, .int 2), (2, .int lo), (3, .int hi)] := hl
  have hO_t := hI_t
  obtain ⟨ht0_t, ht1_t⟩ := hO_t
  obtain ⟨hT1, hT2⟩ := hT
  refine lv_aload_n zx zb dX11_takes_0 rfl (lv_at hl 0 rfl) ?_
  refine r_get (C := RX11) (T := TX11) (N := 18) (ci := 9) (v := .int (v 0)) S in_X11_takes_X11 G 0 rfl rfl 14 (by decide) lk_X11_takes_223 rfl dX11_takes_1 ?_
  refine lv_iconst (v := 2) zx zb dX11_takes_4 (by decide) ?_
  refine lv_icmp_ne (tgt := 23) zx zb dX11_takes_5 (by decide) (fun c_1 => ?_) (fun c_1 => ?_)
  · refine lv_iconst (v := 0) zx zb dX11_takes_23 (by decide) ?_
    exact e_int S zr zlk (by decide) G (t, v, fv) [0, 1, 2] rfl rfl (Or.inr rfl) (⟨hI_t, ⟨⟨Nat.le_refl _, hT1, hT2⟩, Or.inl rfl⟩⟩) dX11_takes_24
  · refine lv_aload_n zx zb dX11_takes_8 rfl (lv_at hl 0 rfl) ?_
    refine r_get (C := RX11) (T := TX11) (N := 18) (ci := 9) (v := .int (v 1)) S in_X11_takes_X11 G 0 rfl rfl 15 (by decide) lk_X11_takes_226 rfl dX11_takes_9 ?_
    refine lv_i2l (v := (Int32.toInt64 (v 1))) zx zb dX11_takes_12 rfl ?_
    refine lv_iload_n zx zb dX11_takes_13 rfl (lv_at hl 2 rfl) ?_
    refine lv_i2l (v := (Int32.toInt64 lo)) zx zb dX11_takes_14 rfl ?_
    refine lv_iload_n zx zb dX11_takes_15 rfl (lv_at hl 3 rfl) ?_
    refine lv_i2l (v := (Int32.toInt64 hi)) zx zb dX11_takes_16 rfl ?_
    refine o_ri (cells' := 0) (slots' := 0) G rfl rfl (n_S (As := [.long (Int32.toInt64 (v 1)), .long (Int32.toInt64 lo), .long (Int32.toInt64 hi)]) (rest := []) S G (m_in l X (v 1) lo hi s.heap.size) gX11_takes_X11_in rfl rfl rfl hdS_X11_in ⟨Nat.le_of_ble_eq_true rfl, Nat.le_of_ble_eq_true rfl⟩ [] rfl rfl rfl hl.1 (Nat.le_of_ble_eq_true rfl) dX11_takes_17 ⟨Nat.le_of_ble_eq_true rfl, Nat.le_of_ble_eq_true rfl⟩) (fun r_2 u_2 H locs hp_2 G => ?_)
    have G : wd X (va_A (mW m0 ma la lb n t v ++ [((ma 10), .inl (X.2.1, 150, .inl fd))] ++ [((ma 17), .inl (X.2.1, 3, .inl fv))]) sz) (va_A (mW m0 ma la lb n t v ++ [((ma 10), .inl (X.2.1, 150, .inl fd))] ++ [((ma 17), .inl (X.2.1, 3, .inl fv))]) sz) s (mW m0 ma la lb n t v ++ [((ma 10), .inl (X.2.1, 150, .inl fd))] ++ [((ma 17), .inl (X.2.1, 3, .inl fv))]) H locs := G
    rcases hp_2 with ⟨rfl, hw_2⟩ | ⟨rfl, hw_2⟩
    · refine lv_if_ne (tgt := 25) zx zb dX11_takes_20 (by decide) (fun c_3 => ?_) (fun c_3 => absurd c_3 (by decide))
      refine lv_aload_n zx zb dX11_takes_25 rfl (lv_at hl 0 rfl) ?_
      refine r_get (C := RX11) (T := TX11) (N := 18) (ci := 9) (v := .ref (ma 17)) S in_X11_takes_X11 G 0 rfl rfl 17 (by decide) lk_X11_takes_45 rfl dX11_takes_26 ?_
      refine lv_iload_n zx zb dX11_takes_29 rfl (lv_at hl 1 rfl) ?_
      refine lv_aload_n zx zb dX11_takes_30 rfl (lv_at hl 0 rfl) ?_
      refine r_get (C := RX11) (T := TX11) (N := 18) (ci := 9) (v := .int (v 1)) S in_X11_takes_X11 G 0 rfl rfl 15 (by decide) lk_X11_takes_226 rfl dX11_takes_31 ?_
      refine r_iast S G 2 rfl (k_vp (by decide)) dX11_takes_34 (fun H locs G => ?_)
      obtain ⟨f_4, hE_f_4, G⟩ : ∃ f_4 : Nat → Int32, f_4 = upd fv 2 (v 1) ∧ wd X (va_A (mW m0 ma la lb n t v ++ [((ma 10), .inl (X.2.1, 150, .inl fd))] ++ [((ma 17), .inl (X.2.1, 3, .inl fv))]) sz) (va_A (mW m0 ma la lb n t v ++ [((ma 10), .inl (X.2.1, 150, .inl fd))] ++ [((ma 17), .inl (X.2.1, 3, .inl fv))]) sz) s (mW m0 ma la lb n t v ++ [((ma 10), .inl (X.2.1, 150, .inl fd))] ++ [((ma 17), .inl (X.2.1, 3, .inl f_4))]) H locs := ⟨_, rfl, G⟩
      refine lv_aload_n zx zb dX11_takes_35 rfl (lv_at hl 0 rfl) ?_
      refine b_wv (cells' := 0) (slots' := 0) (wr := [((ma 17), .inl (X.2.1, 3, .inl f_4))]) G rfl rfl [0, 1] [2] rfl rfl rfl rfl (n_V (As := []) (rest := []) (C := RX11) (T := TX11) (N := 18) (ci := 9) S G (m_goBehind l X m0 ma la lb n t v fd hI_n hI_t ⟨by omega, by first | assumption | omega⟩ H.size) gX11_takes_X11_goBehind rfl rfl rfl hdV_X11_goBehind ⟨Nat.le_of_ble_eq_true rfl, Nat.le_of_ble_eq_true rfl⟩ [0, 1] rfl rfl 0 rfl rfl rfl hl.1 (Nat.le_of_ble_eq_true rfl) dX11_takes_36 ⟨Nat.le_of_ble_eq_true rfl, Nat.le_of_ble_eq_true rfl⟩) (fun u_5 H locs hp_5 G => ?_)
      obtain ⟨t_5a, v_5b⟩ := u_5
      obtain ⟨hI_t_5a, hq_5⟩ := hp_5
      have hO_t_5a := hI_t_5a
      obtain ⟨ht0_t_5a, ht1_t_5a⟩ := hO_t_5a
      have G : wd X (va_A (mW m0 ma la lb n t v ++ [((ma 10), .inl (X.2.1, 150, .inl fd))] ++ [((ma 17), .inl (X.2.1, 3, .inl fv))]) sz) (va_A (mW m0 ma la lb n t v ++ [((ma 10), .inl (X.2.1, 150, .inl fd))] ++ [((ma 17), .inl (X.2.1, 3, .inl fv))]) sz) s ([((ma 17), .inl (X.2.1, 3, .inl f_4))] ++ mW m0 ma la lb n t_5a v_5b ++ [((ma 10), .inl (X.2.1, 150, .inl fd))]) H locs := G
      obtain ⟨hz0_5, hz1_5, hz2_5⟩ := hq_5
      refine lv_iconst (v := 1) zx zb dX11_takes_39 (by decide) ?_
      exact e_int S zr zlk (by decide) G (t_5a, v_5b, f_4) [1, 2, 0] rfl rfl (Or.inr rfl) (⟨hI_t_5a, ⟨⟨by first | omega | (dsimp only; omega), by first | omega | (dsimp only; omega), by assumption⟩, Or.inr ⟨rfl, (by rw [hE_f_4]; exact hw_2), (by rw [hE_f_4]; rfl), (by rw [hE_f_4]; rfl)⟩⟩⟩) dX11_takes_40
    · refine lv_if_ne (tgt := 25) zx zb dX11_takes_20 (by decide) (fun c_6 => absurd (by decide) c_6) (fun c_6 => ?_)
      refine lv_iconst (v := 0) zx zb dX11_takes_23 (by decide) ?_
      exact e_int S zr zlk (by decide) G (t, v, fv) [0, 1, 2] rfl rfl (Or.inr rfl) (⟨hI_t, ⟨⟨Nat.le_refl _, hT1, hT2⟩, Or.inl rfl⟩⟩) dX11_takes_24
theorem in_X11_takesOne_X11 : ∀ w ∈ wsX110, w ∈ wsX11_takesOne := by decide +kernel
theorem lk_X11_takesOne_42 : Cond.fieldLink RX11 42 "EggSpoonsModel" "anew" "[I" ∈ wsX11_takesOne := by decide +kernel
theorem hdV_X11_takes : yX11_takes.cls = RX11 ∧ yX11_takes.cls ≠ "java/lang/invoke/MethodHandle" ∧ yX11_takes.cls ≠ "java/lang/invoke/VarHandle" ∧ (parseMethodDescriptor yX11_takes.desc).map (fun d => d.parameters.length) = some 3 := by decide +kernel
theorem lk_X11_takesOne_45 : Cond.fieldLink RX11 45 "EggSpoonsModel" "values" "[I" ∈ wsX11_takesOne := by decide +kernel
set_option maxHeartbeats 4000000 in
set_option maxRecDepth 100000 in
/-- takesOne -/
theorem m_takesOne (l : Launch) (X : EX) (m0 : Nat) (ma : Nat → Nat) (la : Int64) (lb : Int64) (n : Nat) (t : Nat → Nat) (v : Nat → Int32) (fd : Nat → Int32) (fv : Nat → Int32) (fw : Nat → Int32) (bw : Nat → Nat) (hI_n : n ≤ 150) (hI_t : InT t) (hI_fw : InM fw bw) (hT : t 0 + t 1 ≤ n ∧ (v 0 = 0 ∨ 1 ≤ t 1)) (sz : Nat) : Met l yX11_takesOne wsX11_takesOne ({ frames := 5, cells := 0, slots := 0, locals := 112 } : Room) (pE X [.ref m0] (mW m0 ma la lb n t v ++ [((ma 10), .inl (X.2.1, 150, .inl fd))] ++ [((ma 17), .inl (X.2.1, 3, .inl fv))] ++ [((ma 16), .inl (X.2.1, 123, .inl fw))]) sz) (qI (fun (r : Int32) (u : (Nat → Nat) × (Nat → Int32) × (Nat → Int32) × (Nat → Int32) × (Nat → Nat)) => InT u.1 ∧ InM u.2.2.2.1 u.2.2.2.2 ∧ ((t 0 ≤ u.1 0 ∧ u.1 0 + u.1 1 ≤ n ∧ (u.2.1 0 = 0 ∨ 1 ≤ u.1 1)) ∧ (r = 0 ∨ r = 1))) X (fun (u : (Nat → Nat) × (Nat → Int32) × (Nat → Int32) × (Nat → Int32) × (Nat → Nat)) => mW m0 ma la lb n u.1 u.2.1 ++ [((ma 10), .inl (X.2.1, 150, .inl fd))] ++ [((ma 17), .inl (X.2.1, 3, .inl u.2.2.1))] ++ [((ma 16), .inl (X.2.1, 123, .inl u.2.2.2.1))]) (mW m0 ma la lb n t v ++ [((ma 10), .inl (X.2.1, 150, .inl fd))] ++ [((ma 17), .inl (X.2.1, 3, .inl fv))] ++ [((ma 16), .inl (X.2.1, 123, .inl fw))]) sz) 0 0 (va_A (mW m0 ma la lb n t v ++ [((ma 10), .inl (X.2.1, 150, .inl fd))] ++ [((ma 17), .inl (X.2.1, 3, .inl fv))] ++ [((ma 16), .inl (X.2.1, 123, .inl fw))]) sz) := by
  refine mk_met (B := (va_A (mW m0 ma la lb n t v ++ [((ma 10), .inl (X.2.1, 150, .inl fd))] ++ [((ma 17), .inl (X.2.1, 3, .inl fv))] ++ [((ma 16), .inl (X.2.1, 123, .inl fw))]) sz)) (A := (va_A (mW m0 ma la lb n t v ++ [((ma 10), .inl (X.2.1, 150, .inl fd))] ++ [((ma 17), .inl (X.2.1, 3, .inl fv))] ++ [((ma 16), .inl (X.2.1, 123, .inl fw))]) sz)) (cc := cX11_takesOne) (maxL := 1) (ret := (some .boolean)) (by decide) rfl (Nat.le_of_ble_eq_true rfl) k_w k_a (fun p e s m below meth c S zr zlk znm zsz G ls hl => ?_)
  have S : CallFix p m c cX11_takesOne 1 s _ wsX11_takesOne RX11 := S
  have zx := S.1
  have zb := S.2.1
  have hl : lv_has ls 1 [(0, .ref m0)] := hl
  have hO_t := hI_t
  obtain ⟨ht0_t, ht1_t⟩ := hO_t
  have hO_fw := hI_fw.2
  obtain ⟨hm0_fw, hm1_fw, hm2_fw, hm3_fw, hm4_fw⟩ := hO_fw
  obtain ⟨hT1, hT2⟩ := hT
  refine lv_aload_n zx zb dX11_takesOne_0 rfl (lv_at hl 0 rfl) ?_
  refine r_get (C := RX11) (T := TX11) (N := 18) (ci := 9) (v := .ref (ma 16)) S in_X11_takesOne_X11 G 0 rfl rfl 16 (by decide) lk_X11_takesOne_42 rfl dX11_takesOne_1 ?_
  refine lv_iconst (v := 0) zx zb dX11_takesOne_4 (by decide) ?_
  refine r_iald (v := (nI (bw 0))) S G 3 rfl (k_vp (by decide)) hI_fw.1.1 dX11_takesOne_5 ?_
  refine lv_bipush (v := 6) zx zb dX11_takesOne_6 (by decide) ?_
  refine lv_icmp_ne (tgt := 13) zx zb dX11_takesOne_8 (by decide) (fun c_2 => ?_) (fun c_2 => ?_)
  · have fc_2 := j_ne (a := (bw 0)) (b := 6) c_2
    refine lv_aload_n zx zb dX11_takesOne_13 rfl (lv_at hl 0 rfl) ?_
    refine b_wv (cells' := 0) (slots' := 0) (wr := [((ma 17), .inl (X.2.1, 3, .inl fv))] ++ [((ma 16), .inl (X.2.1, 123, .inl fw))]) G rfl rfl [0, 1] [2, 3] rfl rfl rfl rfl (n_V (As := []) (rest := []) (C := RX11) (T := TX11) (N := 18) (ci := 9) S G (m_goBehind l X m0 ma la lb n t v fd hI_n hI_t ⟨by omega, by first | assumption | omega⟩ s.heap.size) gX11_takesOne_X11_goBehind rfl rfl rfl hdV_X11_goBehind ⟨Nat.le_of_ble_eq_true rfl, Nat.le_of_ble_eq_true rfl⟩ [0, 1] rfl rfl 0 rfl rfl rfl hl.1 (Nat.le_of_ble_eq_true rfl) dX11_takesOne_14 ⟨Nat.le_of_ble_eq_true rfl, Nat.le_of_ble_eq_true rfl⟩) (fun u_3 H locs hp_3 G => ?_)
    obtain ⟨t_3a, v_3b⟩ := u_3
    obtain ⟨hI_t_3a, hq_3⟩ := hp_3
    have hO_t_3a := hI_t_3a
    obtain ⟨ht0_t_3a, ht1_t_3a⟩ := hO_t_3a
    have G : wd X (va_A (mW m0 ma la lb n t v ++ [((ma 10), .inl (X.2.1, 150, .inl fd))] ++ [((ma 17), .inl (X.2.1, 3, .inl fv))] ++ [((ma 16), .inl (X.2.1, 123, .inl fw))]) sz) (va_A (mW m0 ma la lb n t v ++ [((ma 10), .inl (X.2.1, 150, .inl fd))] ++ [((ma 17), .inl (X.2.1, 3, .inl fv))] ++ [((ma 16), .inl (X.2.1, 123, .inl fw))]) sz) s ([((ma 17), .inl (X.2.1, 3, .inl fv))] ++ [((ma 16), .inl (X.2.1, 123, .inl fw))] ++ mW m0 ma la lb n t_3a v_3b ++ [((ma 10), .inl (X.2.1, 150, .inl fd))]) H locs := G
    obtain ⟨hz0_3, hz1_3, hz2_3⟩ := hq_3
    refine lv_aload_n zx zb dX11_takesOne_17 rfl (lv_at hl 0 rfl) ?_
    refine lv_iconst (v := 0) zx zb dX11_takesOne_18 (by decide) ?_
    refine lv_iconst (v := 0) zx zb dX11_takesOne_19 (by decide) ?_
    refine lv_iconst (v := 5) zx zb dX11_takesOne_20 (by decide) ?_
    refine b_wi (cells' := 0) (slots' := 0) (wr := [((ma 16), .inl (X.2.1, 123, .inl fw))]) G rfl rfl [2, 3, 0] [1] rfl rfl rfl rfl (n_V (As := [.int 0, .int 0, .int 5]) (rest := []) (C := RX11) (T := TX11) (N := 18) (ci := 9) S G (m_takes0 l X m0 ma la lb n t_3a v_3b fd fv 0 5 hI_n hI_t_3a ⟨by omega, by first | assumption | omega⟩ H.size) gX11_takesOne_X11_takes rfl rfl rfl hdV_X11_takes ⟨Nat.le_of_ble_eq_true rfl, Nat.le_of_ble_eq_true rfl⟩ [2, 3, 0] rfl rfl 2 rfl rfl rfl hl.1 (Nat.le_of_ble_eq_true rfl) dX11_takesOne_21 ⟨Nat.le_of_ble_eq_true rfl, Nat.le_of_ble_eq_true rfl⟩) (fun r_4 u_4 H locs hp_4 G => ?_)
    obtain ⟨t_4a, v_4b, f_4c⟩ := u_4
    obtain ⟨hI_t_4a, hq_4⟩ := hp_4
    have hO_t_4a := hI_t_4a
    obtain ⟨ht0_t_4a, ht1_t_4a⟩ := hO_t_4a
    have G : wd X (va_A (mW m0 ma la lb n t v ++ [((ma 10), .inl (X.2.1, 150, .inl fd))] ++ [((ma 17), .inl (X.2.1, 3, .inl fv))] ++ [((ma 16), .inl (X.2.1, 123, .inl fw))]) sz) (va_A (mW m0 ma la lb n t v ++ [((ma 10), .inl (X.2.1, 150, .inl fd))] ++ [((ma 17), .inl (X.2.1, 3, .inl fv))] ++ [((ma 16), .inl (X.2.1, 123, .inl fw))]) sz) s ([((ma 16), .inl (X.2.1, 123, .inl fw))] ++ mW m0 ma la lb n t_4a v_4b ++ [((ma 10), .inl (X.2.1, 150, .inl fd))] ++ [((ma 17), .inl (X.2.1, 3, .inl f_4c))]) H locs := G
    obtain ⟨⟨hz0_4, hz1_4, hz2_4⟩, hr_4⟩ := hq_4
    rcases hr_4 with rfl | ⟨rfl, hv_4, ha_4, hb_4⟩
    · refine lv_if_eq (tgt := 48) zx zb dX11_takesOne_24 (by decide) (fun c_5 => ?_) (fun c_5 => absurd (by decide) c_5)
      refine lv_iconst (v := 0) zx zb dX11_takesOne_48 (by decide) ?_
      exact e_int S zr zlk (by decide) G (t_4a, v_4b, f_4c, fw, bw) [1, 2, 3, 0] rfl rfl (Or.inr rfl) (⟨hI_t_4a, hI_fw, ⟨⟨by first | omega | (dsimp only; omega), by first | omega | (dsimp only; omega), by assumption⟩, Or.inl rfl⟩⟩) dX11_takesOne_49
    · refine lv_if_eq (tgt := 48) zx zb dX11_takesOne_24 (by decide) (fun c_6 => absurd c_6 (by decide)) (fun c_6 => ?_)
      refine lv_aload_n zx zb dX11_takesOne_27 rfl (lv_at hl 0 rfl) ?_
      refine lv_iconst (v := 1) zx zb dX11_takesOne_28 (by decide) ?_
      refine lv_iconst (v := 1) zx zb dX11_takesOne_29 (by decide) ?_
      refine lv_bipush (v := 9) zx zb dX11_takesOne_30 (by decide) ?_
      refine b_wi (cells' := 0) (slots' := 0) (wr := [((ma 16), .inl (X.2.1, 123, .inl fw))]) G rfl rfl [1, 2, 3] [0] rfl rfl rfl rfl (n_V (As := [.int 1, .int 1, .int 9]) (rest := []) (C := RX11) (T := TX11) (N := 18) (ci := 9) S G (m_takes1 l X m0 ma la lb n t_4a v_4b fd f_4c 1 9 hI_n hI_t_4a ⟨by omega, by first | assumption | omega⟩ H.size) gX11_takesOne_X11_takes rfl rfl rfl hdV_X11_takes ⟨Nat.le_of_ble_eq_true rfl, Nat.le_of_ble_eq_true rfl⟩ [1, 2, 3] rfl rfl 1 rfl rfl rfl hl.1 (Nat.le_of_ble_eq_true rfl) dX11_takesOne_32 ⟨Nat.le_of_ble_eq_true rfl, Nat.le_of_ble_eq_true rfl⟩) (fun r_7 u_7 H locs hp_7 G => ?_)
      obtain ⟨t_7a, v_7b, f_7c⟩ := u_7
      obtain ⟨hI_t_7a, hq_7⟩ := hp_7
      have hO_t_7a := hI_t_7a
      obtain ⟨ht0_t_7a, ht1_t_7a⟩ := hO_t_7a
      have G : wd X (va_A (mW m0 ma la lb n t v ++ [((ma 10), .inl (X.2.1, 150, .inl fd))] ++ [((ma 17), .inl (X.2.1, 3, .inl fv))] ++ [((ma 16), .inl (X.2.1, 123, .inl fw))]) sz) (va_A (mW m0 ma la lb n t v ++ [((ma 10), .inl (X.2.1, 150, .inl fd))] ++ [((ma 17), .inl (X.2.1, 3, .inl fv))] ++ [((ma 16), .inl (X.2.1, 123, .inl fw))]) sz) s ([((ma 16), .inl (X.2.1, 123, .inl fw))] ++ mW m0 ma la lb n t_7a v_7b ++ [((ma 10), .inl (X.2.1, 150, .inl fd))] ++ [((ma 17), .inl (X.2.1, 3, .inl f_7c))]) H locs := G
      obtain ⟨⟨hz0_7, hz1_7, hz2_7⟩, hr_7⟩ := hq_7
      rcases hr_7 with rfl | ⟨rfl, hv_7, ha_7, hb_7⟩
      · refine lv_if_eq (tgt := 48) zx zb dX11_takesOne_35 (by decide) (fun c_8 => ?_) (fun c_8 => absurd (by decide) c_8)
        refine lv_iconst (v := 0) zx zb dX11_takesOne_48 (by decide) ?_
        exact e_int S zr zlk (by decide) G (t_7a, v_7b, f_7c, fw, bw) [1, 2, 3, 0] rfl rfl (Or.inr rfl) (⟨hI_t_7a, hI_fw, ⟨⟨by first | omega | (dsimp only; omega), by first | omega | (dsimp only; omega), by assumption⟩, Or.inl rfl⟩⟩) dX11_takesOne_49
      · refine lv_if_eq (tgt := 48) zx zb dX11_takesOne_35 (by decide) (fun c_9 => absurd c_9 (by decide)) (fun c_9 => ?_)
        refine lv_aload_n zx zb dX11_takesOne_38 rfl (lv_at hl 0 rfl) ?_
        refine lv_iconst (v := 2) zx zb dX11_takesOne_39 (by decide) ?_
        refine lv_iconst (v := 0) zx zb dX11_takesOne_40 (by decide) ?_
        refine lv_iconst (v := 5) zx zb dX11_takesOne_41 (by decide) ?_
        refine b_wi (cells' := 0) (slots' := 0) (wr := [((ma 16), .inl (X.2.1, 123, .inl fw))]) G rfl rfl [1, 2, 3] [0] rfl rfl rfl rfl (n_V (As := [.int 2, .int 0, .int 5]) (rest := []) (C := RX11) (T := TX11) (N := 18) (ci := 9) S G (m_takes2 l X m0 ma la lb n t_7a v_7b fd f_7c 0 5 hI_n hI_t_7a ⟨by omega, by first | assumption | omega⟩ H.size) gX11_takesOne_X11_takes rfl rfl rfl hdV_X11_takes ⟨Nat.le_of_ble_eq_true rfl, Nat.le_of_ble_eq_true rfl⟩ [1, 2, 3] rfl rfl 1 rfl rfl rfl hl.1 (Nat.le_of_ble_eq_true rfl) dX11_takesOne_42 ⟨Nat.le_of_ble_eq_true rfl, Nat.le_of_ble_eq_true rfl⟩) (fun r_10 u_10 H locs hp_10 G => ?_)
        obtain ⟨t_10a, v_10b, f_10c⟩ := u_10
        obtain ⟨hI_t_10a, hq_10⟩ := hp_10
        have hO_t_10a := hI_t_10a
        obtain ⟨ht0_t_10a, ht1_t_10a⟩ := hO_t_10a
        have G : wd X (va_A (mW m0 ma la lb n t v ++ [((ma 10), .inl (X.2.1, 150, .inl fd))] ++ [((ma 17), .inl (X.2.1, 3, .inl fv))] ++ [((ma 16), .inl (X.2.1, 123, .inl fw))]) sz) (va_A (mW m0 ma la lb n t v ++ [((ma 10), .inl (X.2.1, 150, .inl fd))] ++ [((ma 17), .inl (X.2.1, 3, .inl fv))] ++ [((ma 16), .inl (X.2.1, 123, .inl fw))]) sz) s ([((ma 16), .inl (X.2.1, 123, .inl fw))] ++ mW m0 ma la lb n t_10a v_10b ++ [((ma 10), .inl (X.2.1, 150, .inl fd))] ++ [((ma 17), .inl (X.2.1, 3, .inl f_10c))]) H locs := G
        obtain ⟨⟨hz0_10, hz1_10, hz2_10⟩, hr_10⟩ := hq_10
        rcases hr_10 with rfl | ⟨rfl, hv_10, ha_10, hb_10⟩
        · refine lv_if_ne (tgt := 50) zx zb dX11_takesOne_45 (by decide) (fun c_11 => absurd (by decide) c_11) (fun c_11 => ?_)
          refine lv_iconst (v := 0) zx zb dX11_takesOne_48 (by decide) ?_
          exact e_int S zr zlk (by decide) G (t_10a, v_10b, f_10c, fw, bw) [1, 2, 3, 0] rfl rfl (Or.inr rfl) (⟨hI_t_10a, hI_fw, ⟨⟨by first | omega | (dsimp only; omega), by first | omega | (dsimp only; omega), by assumption⟩, Or.inl rfl⟩⟩) dX11_takesOne_49
        · refine lv_if_ne (tgt := 50) zx zb dX11_takesOne_45 (by decide) (fun c_12 => ?_) (fun c_12 => absurd c_12 (by decide))
          refine lv_aload_n zx zb dX11_takesOne_50 rfl (lv_at hl 0 rfl) ?_
          refine r_get (C := RX11) (T := TX11) (N := 18) (ci := 9) (v := .ref (ma 16)) S in_X11_takesOne_X11 G 1 rfl rfl 16 (by decide) lk_X11_takesOne_42 rfl dX11_takesOne_51 ?_
          refine lv_aload_n zx zb dX11_takesOne_54 rfl (lv_at hl 0 rfl) ?_
          refine r_get (C := RX11) (T := TX11) (N := 18) (ci := 9) (v := .ref (ma 17)) S in_X11_takesOne_X11 G 1 rfl rfl 17 (by decide) lk_X11_takesOne_45 rfl dX11_takesOne_55 ?_
          refine lv_iconst (v := 0) zx zb dX11_takesOne_58 (by decide) ?_
          refine r_iald (v := (f_10c 0)) S G 3 rfl (k_vp (by decide)) rfl dX11_takesOne_59 ?_
          refine lv_aload_n zx zb dX11_takesOne_60 rfl (lv_at hl 0 rfl) ?_
          refine r_get (C := RX11) (T := TX11) (N := 18) (ci := 9) (v := .ref (ma 17)) S in_X11_takesOne_X11 G 1 rfl rfl 17 (by decide) lk_X11_takesOne_45 rfl dX11_takesOne_61 ?_
          refine lv_iconst (v := 1) zx zb dX11_takesOne_64 (by decide) ?_
          refine r_iald (v := (f_10c 1)) S G 3 rfl (k_vp (by decide)) rfl dX11_takesOne_65 ?_
          refine lv_aload_n zx zb dX11_takesOne_66 rfl (lv_at hl 0 rfl) ?_
          refine r_get (C := RX11) (T := TX11) (N := 18) (ci := 9) (v := .ref (ma 17)) S in_X11_takesOne_X11 G 1 rfl rfl 17 (by decide) lk_X11_takesOne_45 rfl dX11_takesOne_67 ?_
          refine lv_iconst (v := 2) zx zb dX11_takesOne_70 (by decide) ?_
          refine r_iald (v := (f_10c 2)) S G 3 rfl (k_vp (by decide)) rfl dX11_takesOne_71 ?_
          refine b_wv (cells' := 0) (slots' := 0) (wr := mW m0 ma la lb n t_10a v_10b ++ [((ma 10), .inl (X.2.1, 150, .inl fd))] ++ [((ma 17), .inl (X.2.1, 3, .inl f_10c))]) G rfl rfl [0] [1, 2, 3] rfl rfl rfl rfl (n_S (As := [.ref (ma 16), .int (f_10c 0), .int (f_10c 1), .int (f_10c 2)]) (rest := []) S G (m_layOne l X (ma 16) 123 fw bw (f_10c 0) (f_10c 1) (f_10c 2) hI_fw (by omega) (by omega) (by omega) H.size) gX11_takesOne_X11_layOne rfl rfl rfl hdS_X11_layOne ⟨Nat.le_of_ble_eq_true rfl, Nat.le_of_ble_eq_true rfl⟩ [0] rfl rfl rfl hl.1 (Nat.le_of_ble_eq_true rfl) dX11_takesOne_72 ⟨Nat.le_of_ble_eq_true rfl, Nat.le_of_ble_eq_true rfl⟩) (fun u_16 H locs hp_16 G => ?_)
          obtain ⟨f_16a, b_16b⟩ := u_16
          obtain ⟨hI_f_16a, hq_16⟩ := hp_16
          have hO_f_16a := hI_f_16a.2
          obtain ⟨hm0_f_16a, hm1_f_16a, hm2_f_16a, hm3_f_16a, hm4_f_16a⟩ := hO_f_16a
          have G : wd X (va_A (mW m0 ma la lb n t v ++ [((ma 10), .inl (X.2.1, 150, .inl fd))] ++ [((ma 17), .inl (X.2.1, 3, .inl fv))] ++ [((ma 16), .inl (X.2.1, 123, .inl fw))]) sz) (va_A (mW m0 ma la lb n t v ++ [((ma 10), .inl (X.2.1, 150, .inl fd))] ++ [((ma 17), .inl (X.2.1, 3, .inl fv))] ++ [((ma 16), .inl (X.2.1, 123, .inl fw))]) sz) s (mW m0 ma la lb n t_10a v_10b ++ [((ma 10), .inl (X.2.1, 150, .inl fd))] ++ [((ma 17), .inl (X.2.1, 3, .inl f_10c))] ++ [((ma 16), .inl (X.2.1, 123, .inl f_16a))]) H locs := G
          refine lv_iconst (v := 1) zx zb dX11_takesOne_75 (by decide) ?_
          exact e_int S zr zlk (by decide) G (t_10a, v_10b, f_10c, f_16a, b_16b) [0, 1, 2, 3] rfl rfl (Or.inr rfl) (⟨hI_t_10a, hI_f_16a, ⟨⟨by first | omega | (dsimp only; omega), by first | omega | (dsimp only; omega), by assumption⟩, Or.inr rfl⟩⟩) dX11_takesOne_76
  · have fc_2 := j_eq (a := (bw 0)) (b := 6) (by omega) (by omega) c_2
    refine lv_iconst (v := 0) zx zb dX11_takesOne_11 (by decide) ?_
    exact e_int S zr zlk (by decide) G (t, v, fv, fw, bw) [0, 1, 2, 3] rfl rfl (Or.inr rfl) (⟨hI_t, hI_fw, ⟨⟨Nat.le_refl _, hT1, hT2⟩, Or.inl rfl⟩⟩) dX11_takesOne_12
theorem in_X11_takesSpeed_X11 : ∀ w ∈ wsX110, w ∈ wsX11_takesSpeed := by decide +kernel
theorem lk_X11_takesSpeed_42 : Cond.fieldLink RX11 42 "EggSpoonsModel" "anew" "[I" ∈ wsX11_takesSpeed := by decide +kernel
theorem lk_X11_takesSpeed_45 : Cond.fieldLink RX11 45 "EggSpoonsModel" "values" "[I" ∈ wsX11_takesSpeed := by decide +kernel
set_option maxHeartbeats 4000000 in
set_option maxRecDepth 100000 in
/-- takesSpeed -/
theorem m_takesSpeed (l : Launch) (X : EX) (m0 : Nat) (ma : Nat → Nat) (la : Int64) (lb : Int64) (n : Nat) (t : Nat → Nat) (v : Nat → Int32) (fd : Nat → Int32) (fv : Nat → Int32) (fw : Nat → Int32) (bw : Nat → Nat) (hI_n : n ≤ 150) (hI_t : InT t) (hI_fw : InM fw bw) (hT : t 0 + t 1 ≤ n ∧ (v 0 = 0 ∨ 1 ≤ t 1)) (sz : Nat) : Met l yX11_takesSpeed wsX11_takesSpeed ({ frames := 5, cells := 0, slots := 0, locals := 112 } : Room) (pE X [.ref m0] (mW m0 ma la lb n t v ++ [((ma 10), .inl (X.2.1, 150, .inl fd))] ++ [((ma 17), .inl (X.2.1, 3, .inl fv))] ++ [((ma 16), .inl (X.2.1, 123, .inl fw))]) sz) (qI (fun (r : Int32) (u : (Nat → Nat) × (Nat → Int32) × (Nat → Int32) × (Nat → Int32)) => InT u.1 ∧ InM u.2.2.2 bw ∧ ((t 0 ≤ u.1 0 ∧ u.1 0 + u.1 1 ≤ n ∧ (u.2.1 0 = 0 ∨ 1 ≤ u.1 1)) ∧ (r = 0 ∨ r = 1))) X (fun (u : (Nat → Nat) × (Nat → Int32) × (Nat → Int32) × (Nat → Int32)) => mW m0 ma la lb n u.1 u.2.1 ++ [((ma 10), .inl (X.2.1, 150, .inl fd))] ++ [((ma 17), .inl (X.2.1, 3, .inl u.2.2.1))] ++ [((ma 16), .inl (X.2.1, 123, .inl u.2.2.2))]) (mW m0 ma la lb n t v ++ [((ma 10), .inl (X.2.1, 150, .inl fd))] ++ [((ma 17), .inl (X.2.1, 3, .inl fv))] ++ [((ma 16), .inl (X.2.1, 123, .inl fw))]) sz) 0 0 (va_A (mW m0 ma la lb n t v ++ [((ma 10), .inl (X.2.1, 150, .inl fd))] ++ [((ma 17), .inl (X.2.1, 3, .inl fv))] ++ [((ma 16), .inl (X.2.1, 123, .inl fw))]) sz) := by
  refine mk_met (B := (va_A (mW m0 ma la lb n t v ++ [((ma 10), .inl (X.2.1, 150, .inl fd))] ++ [((ma 17), .inl (X.2.1, 3, .inl fv))] ++ [((ma 16), .inl (X.2.1, 123, .inl fw))]) sz)) (A := (va_A (mW m0 ma la lb n t v ++ [((ma 10), .inl (X.2.1, 150, .inl fd))] ++ [((ma 17), .inl (X.2.1, 3, .inl fv))] ++ [((ma 16), .inl (X.2.1, 123, .inl fw))]) sz)) (cc := cX11_takesSpeed) (maxL := 1) (ret := (some .boolean)) (by decide) rfl (Nat.le_of_ble_eq_true rfl) k_w k_a (fun p e s m below meth c S zr zlk znm zsz G ls hl => ?_)
  have S : CallFix p m c cX11_takesSpeed 1 s _ wsX11_takesSpeed RX11 := S
  have zx := S.1
  have zb := S.2.1
  have hl : lv_has ls 1 [(0, .ref m0)] := hl
  have hO_t := hI_t
  obtain ⟨ht0_t, ht1_t⟩ := hO_t
  have hO_fw := hI_fw.2
  obtain ⟨hm0_fw, hm1_fw, hm2_fw, hm3_fw, hm4_fw⟩ := hO_fw
  obtain ⟨hT1, hT2⟩ := hT
  refine lv_aload_n zx zb dX11_takesSpeed_0 rfl (lv_at hl 0 rfl) ?_
  refine b_wv (cells' := 0) (slots' := 0) (wr := [((ma 17), .inl (X.2.1, 3, .inl fv))] ++ [((ma 16), .inl (X.2.1, 123, .inl fw))]) G rfl rfl [0, 1] [2, 3] rfl rfl rfl rfl (n_V (As := []) (rest := []) (C := RX11) (T := TX11) (N := 18) (ci := 9) S G (m_goBehind l X m0 ma la lb n t v fd hI_n hI_t ⟨by omega, by first | assumption | omega⟩ s.heap.size) gX11_takesSpeed_X11_goBehind rfl rfl rfl hdV_X11_goBehind ⟨Nat.le_of_ble_eq_true rfl, Nat.le_of_ble_eq_true rfl⟩ [0, 1] rfl rfl 0 rfl rfl rfl hl.1 (Nat.le_of_ble_eq_true rfl) dX11_takesSpeed_1 ⟨Nat.le_of_ble_eq_true rfl, Nat.le_of_ble_eq_true rfl⟩) (fun u_1 H locs hp_1 G => ?_)
  obtain ⟨t_1a, v_1b⟩ := u_1
  obtain ⟨hI_t_1a, hq_1⟩ := hp_1
  have hO_t_1a := hI_t_1a
  obtain ⟨ht0_t_1a, ht1_t_1a⟩ := hO_t_1a
  have G : wd X (va_A (mW m0 ma la lb n t v ++ [((ma 10), .inl (X.2.1, 150, .inl fd))] ++ [((ma 17), .inl (X.2.1, 3, .inl fv))] ++ [((ma 16), .inl (X.2.1, 123, .inl fw))]) sz) (va_A (mW m0 ma la lb n t v ++ [((ma 10), .inl (X.2.1, 150, .inl fd))] ++ [((ma 17), .inl (X.2.1, 3, .inl fv))] ++ [((ma 16), .inl (X.2.1, 123, .inl fw))]) sz) s ([((ma 17), .inl (X.2.1, 3, .inl fv))] ++ [((ma 16), .inl (X.2.1, 123, .inl fw))] ++ mW m0 ma la lb n t_1a v_1b ++ [((ma 10), .inl (X.2.1, 150, .inl fd))]) H locs := G
  obtain ⟨hz0_1, hz1_1, hz2_1⟩ := hq_1
  refine lv_aload_n zx zb dX11_takesSpeed_4 rfl (lv_at hl 0 rfl) ?_
  refine lv_iconst (v := 0) zx zb dX11_takesSpeed_5 (by decide) ?_
  refine lv_iconst (v := 0) zx zb dX11_takesSpeed_6 (by decide) ?_
  refine lv_aload_n zx zb dX11_takesSpeed_7 rfl (lv_at hl 0 rfl) ?_
  refine r_get (C := RX11) (T := TX11) (N := 18) (ci := 9) (v := .ref (ma 16)) S in_X11_takesSpeed_X11 G 2 rfl rfl 16 (by decide) lk_X11_takesSpeed_42 rfl dX11_takesSpeed_8 ?_
  refine lv_iconst (v := 0) zx zb dX11_takesSpeed_11 (by decide) ?_
  refine r_iald (v := (nI (bw 0))) S G 1 rfl (k_vp (by decide)) hI_fw.1.1 dX11_takesSpeed_12 ?_
  refine lv_iconst (v := 1) zx zb dX11_takesSpeed_13 (by decide) ?_
  refine r_isub (v := ((nI (bw 0)) - 1)) S rfl dX11_takesSpeed_14 ?_
  refine b_wi (cells' := 0) (slots' := 0) (wr := [((ma 16), .inl (X.2.1, 123, .inl fw))]) G rfl rfl [2, 3, 0] [1] rfl rfl rfl rfl (n_V (As := [.int 0, .int 0, .int ((nI (bw 0)) - 1)]) (rest := []) (C := RX11) (T := TX11) (N := 18) (ci := 9) S G (m_takes0 l X m0 ma la lb n t_1a v_1b fd fv 0 ((nI (bw 0)) - 1) hI_n hI_t_1a ⟨by omega, by first | assumption | omega⟩ H.size) gX11_takesSpeed_X11_takes rfl rfl rfl hdV_X11_takes ⟨Nat.le_of_ble_eq_true rfl, Nat.le_of_ble_eq_true rfl⟩ [2, 3, 0] rfl rfl 2 rfl rfl rfl hl.1 (Nat.le_of_ble_eq_true rfl) dX11_takesSpeed_15 ⟨Nat.le_of_ble_eq_true rfl, Nat.le_of_ble_eq_true rfl⟩) (fun r_3 u_3 H locs hp_3 G => ?_)
  obtain ⟨t_3a, v_3b, f_3c⟩ := u_3
  obtain ⟨hI_t_3a, hq_3⟩ := hp_3
  have hO_t_3a := hI_t_3a
  obtain ⟨ht0_t_3a, ht1_t_3a⟩ := hO_t_3a
  have G : wd X (va_A (mW m0 ma la lb n t v ++ [((ma 10), .inl (X.2.1, 150, .inl fd))] ++ [((ma 17), .inl (X.2.1, 3, .inl fv))] ++ [((ma 16), .inl (X.2.1, 123, .inl fw))]) sz) (va_A (mW m0 ma la lb n t v ++ [((ma 10), .inl (X.2.1, 150, .inl fd))] ++ [((ma 17), .inl (X.2.1, 3, .inl fv))] ++ [((ma 16), .inl (X.2.1, 123, .inl fw))]) sz) s ([((ma 16), .inl (X.2.1, 123, .inl fw))] ++ mW m0 ma la lb n t_3a v_3b ++ [((ma 10), .inl (X.2.1, 150, .inl fd))] ++ [((ma 17), .inl (X.2.1, 3, .inl f_3c))]) H locs := G
  obtain ⟨⟨hz0_3, hz1_3, hz2_3⟩, hr_3⟩ := hq_3
  rcases hr_3 with rfl | ⟨rfl, hv_3, ha_3, hb_3⟩
  · refine lv_if_eq (tgt := 32) zx zb dX11_takesSpeed_18 (by decide) (fun c_4 => ?_) (fun c_4 => absurd (by decide) c_4)
    refine lv_iconst (v := 0) zx zb dX11_takesSpeed_32 (by decide) ?_
    exact e_int S zr zlk (by decide) G (t_3a, v_3b, f_3c, fw) [1, 2, 3, 0] rfl rfl (Or.inr rfl) (⟨hI_t_3a, hI_fw, ⟨⟨by first | omega | (dsimp only; omega), by first | omega | (dsimp only; omega), by assumption⟩, Or.inl rfl⟩⟩) dX11_takesSpeed_33
  · refine lv_if_eq (tgt := 32) zx zb dX11_takesSpeed_18 (by decide) (fun c_5 => absurd c_5 (by decide)) (fun c_5 => ?_)
    refine lv_aload_n zx zb dX11_takesSpeed_21 rfl (lv_at hl 0 rfl) ?_
    refine lv_iconst (v := 1) zx zb dX11_takesSpeed_22 (by decide) ?_
    refine lv_iconst (v := 0) zx zb dX11_takesSpeed_23 (by decide) ?_
    refine lv_bipush (v := 9) zx zb dX11_takesSpeed_24 (by decide) ?_
    refine b_wi (cells' := 0) (slots' := 0) (wr := [((ma 16), .inl (X.2.1, 123, .inl fw))]) G rfl rfl [1, 2, 3] [0] rfl rfl rfl rfl (n_V (As := [.int 1, .int 0, .int 9]) (rest := []) (C := RX11) (T := TX11) (N := 18) (ci := 9) S G (m_takes1 l X m0 ma la lb n t_3a v_3b fd f_3c 0 9 hI_n hI_t_3a ⟨by omega, by first | assumption | omega⟩ H.size) gX11_takesSpeed_X11_takes rfl rfl rfl hdV_X11_takes ⟨Nat.le_of_ble_eq_true rfl, Nat.le_of_ble_eq_true rfl⟩ [1, 2, 3] rfl rfl 1 rfl rfl rfl hl.1 (Nat.le_of_ble_eq_true rfl) dX11_takesSpeed_26 ⟨Nat.le_of_ble_eq_true rfl, Nat.le_of_ble_eq_true rfl⟩) (fun r_6 u_6 H locs hp_6 G => ?_)
    obtain ⟨t_6a, v_6b, f_6c⟩ := u_6
    obtain ⟨hI_t_6a, hq_6⟩ := hp_6
    have hO_t_6a := hI_t_6a
    obtain ⟨ht0_t_6a, ht1_t_6a⟩ := hO_t_6a
    have G : wd X (va_A (mW m0 ma la lb n t v ++ [((ma 10), .inl (X.2.1, 150, .inl fd))] ++ [((ma 17), .inl (X.2.1, 3, .inl fv))] ++ [((ma 16), .inl (X.2.1, 123, .inl fw))]) sz) (va_A (mW m0 ma la lb n t v ++ [((ma 10), .inl (X.2.1, 150, .inl fd))] ++ [((ma 17), .inl (X.2.1, 3, .inl fv))] ++ [((ma 16), .inl (X.2.1, 123, .inl fw))]) sz) s ([((ma 16), .inl (X.2.1, 123, .inl fw))] ++ mW m0 ma la lb n t_6a v_6b ++ [((ma 10), .inl (X.2.1, 150, .inl fd))] ++ [((ma 17), .inl (X.2.1, 3, .inl f_6c))]) H locs := G
    obtain ⟨⟨hz0_6, hz1_6, hz2_6⟩, hr_6⟩ := hq_6
    rcases hr_6 with rfl | ⟨rfl, hv_6, ha_6, hb_6⟩
    · refine lv_if_ne (tgt := 34) zx zb dX11_takesSpeed_29 (by decide) (fun c_7 => absurd (by decide) c_7) (fun c_7 => ?_)
      refine lv_iconst (v := 0) zx zb dX11_takesSpeed_32 (by decide) ?_
      exact e_int S zr zlk (by decide) G (t_6a, v_6b, f_6c, fw) [1, 2, 3, 0] rfl rfl (Or.inr rfl) (⟨hI_t_6a, hI_fw, ⟨⟨by first | omega | (dsimp only; omega), by first | omega | (dsimp only; omega), by assumption⟩, Or.inl rfl⟩⟩) dX11_takesSpeed_33
    · refine lv_if_ne (tgt := 34) zx zb dX11_takesSpeed_29 (by decide) (fun c_8 => ?_) (fun c_8 => absurd c_8 (by decide))
      refine lv_aload_n zx zb dX11_takesSpeed_34 rfl (lv_at hl 0 rfl) ?_
      refine r_get (C := RX11) (T := TX11) (N := 18) (ci := 9) (v := .ref (ma 16)) S in_X11_takesSpeed_X11 G 1 rfl rfl 16 (by decide) lk_X11_takesSpeed_42 rfl dX11_takesSpeed_35 ?_
      refine lv_bipush (v := 11) zx zb dX11_takesSpeed_38 (by decide) ?_
      refine lv_aload_n zx zb dX11_takesSpeed_40 rfl (lv_at hl 0 rfl) ?_
      refine r_get (C := RX11) (T := TX11) (N := 18) (ci := 9) (v := .ref (ma 17)) S in_X11_takesSpeed_X11 G 1 rfl rfl 17 (by decide) lk_X11_takesSpeed_45 rfl dX11_takesSpeed_41 ?_
      refine lv_iconst (v := 0) zx zb dX11_takesSpeed_44 (by decide) ?_
      obtain ⟨iv, hiv, eiv⟩ := k_one (by omega) hv_3
      replace eiv := ha_6.trans eiv
      refine r_iald (v := nI iv) S G 3 rfl (k_vp (by decide)) eiv dX11_takesSpeed_45 ?_
      refine r_iadd (v := (nI (11 + iv))) S (nI_add 11 iv) dX11_takesSpeed_46 ?_
      refine lv_aload_n zx zb dX11_takesSpeed_47 rfl (lv_at hl 0 rfl) ?_
      refine r_get (C := RX11) (T := TX11) (N := 18) (ci := 9) (v := .ref (ma 17)) S in_X11_takesSpeed_X11 G 1 rfl rfl 17 (by decide) lk_X11_takesSpeed_45 rfl dX11_takesSpeed_48 ?_
      refine lv_iconst (v := 1) zx zb dX11_takesSpeed_51 (by decide) ?_
      refine r_iald (v := (f_6c 1)) S G 3 rfl (k_vp (by decide)) rfl dX11_takesSpeed_52 ?_
      refine r_iast S G 0 rfl (vp_in_nI (by omega) (by decide)) dX11_takesSpeed_53 (fun H locs G => ?_)
      obtain ⟨f_10, hI_f_10, G⟩ : ∃ f_10 : Nat → Int32, InM f_10 bw ∧ wd X (va_A (mW m0 ma la lb n t v ++ [((ma 10), .inl (X.2.1, 150, .inl fd))] ++ [((ma 17), .inl (X.2.1, 3, .inl fv))] ++ [((ma 16), .inl (X.2.1, 123, .inl fw))]) sz) (va_A (mW m0 ma la lb n t v ++ [((ma 10), .inl (X.2.1, 150, .inl fd))] ++ [((ma 17), .inl (X.2.1, 3, .inl fv))] ++ [((ma 16), .inl (X.2.1, 123, .inl fw))]) sz) s ([((ma 16), .inl (X.2.1, 123, .inl f_10))] ++ mW m0 ma la lb n t_6a v_6b ++ [((ma 10), .inl (X.2.1, 150, .inl fd))] ++ [((ma 17), .inl (X.2.1, 3, .inl f_6c))]) H locs := ⟨_, InM_o hI_fw (by rw [nI_clamp (by omega)]; omega), G⟩
      have hO_f_10 := hI_f_10.2
      obtain ⟨hm0_f_10, hm1_f_10, hm2_f_10, hm3_f_10, hm4_f_10⟩ := hO_f_10
      refine lv_iconst (v := 1) zx zb dX11_takesSpeed_54 (by decide) ?_
      exact e_int S zr zlk (by decide) G (t_6a, v_6b, f_6c, f_10) [1, 2, 3, 0] rfl rfl (Or.inr rfl) (⟨hI_t_6a, hI_f_10, ⟨⟨by first | omega | (dsimp only; omega), by first | omega | (dsimp only; omega), by assumption⟩, Or.inr rfl⟩⟩) dX11_takesSpeed_55
theorem in_X11_takesStart_X11 : ∀ w ∈ wsX110, w ∈ wsX11_takesStart := by decide +kernel
theorem lk_X11_takesStart_223 : Cond.fieldLink RX11 223 "EggSpoonsModel" "token" "I" ∈ wsX11_takesStart := by decide +kernel
theorem lk_X11_takesStart_226 : Cond.fieldLink RX11 226 "EggSpoonsModel" "value" "I" ∈ wsX11_takesStart := by decide +kernel
theorem lk_X11_takesStart_42 : Cond.fieldLink RX11 42 "EggSpoonsModel" "anew" "[I" ∈ wsX11_takesStart := by decide +kernel
theorem lk_X11_takesStart_45 : Cond.fieldLink RX11 45 "EggSpoonsModel" "values" "[I" ∈ wsX11_takesStart := by decide +kernel
set_option maxHeartbeats 4000000 in
set_option maxRecDepth 100000 in
/-- takesStart -/
theorem m_takesStart (l : Launch) (X : EX) (m0 : Nat) (ma : Nat → Nat) (la : Int64) (lb : Int64) (n : Nat) (t : Nat → Nat) (v : Nat → Int32) (fd : Nat → Int32) (fv : Nat → Int32) (fw : Nat → Int32) (bw : Nat → Nat) (hI_n : n ≤ 150) (hI_t : InT t) (hI_fw : InM fw bw) (hT : t 0 + t 1 ≤ n ∧ (v 0 = 0 ∨ 1 ≤ t 1)) (sz : Nat) : Met l yX11_takesStart wsX11_takesStart ({ frames := 5, cells := 0, slots := 0, locals := 112 } : Room) (pE X [.ref m0] (mW m0 ma la lb n t v ++ [((ma 10), .inl (X.2.1, 150, .inl fd))] ++ [((ma 17), .inl (X.2.1, 3, .inl fv))] ++ [((ma 16), .inl (X.2.1, 123, .inl fw))]) sz) (qI (fun (r : Int32) (u : (Nat → Nat) × (Nat → Int32) × (Nat → Int32) × (Nat → Int32)) => InT u.1 ∧ InM u.2.2.2 bw ∧ ((t 0 ≤ u.1 0 ∧ u.1 0 + u.1 1 ≤ n ∧ (u.2.1 0 = 0 ∨ 1 ≤ u.1 1)) ∧ (r = 0 ∨ r = 1))) X (fun (u : (Nat → Nat) × (Nat → Int32) × (Nat → Int32) × (Nat → Int32)) => mW m0 ma la lb n u.1 u.2.1 ++ [((ma 10), .inl (X.2.1, 150, .inl fd))] ++ [((ma 17), .inl (X.2.1, 3, .inl u.2.2.1))] ++ [((ma 16), .inl (X.2.1, 123, .inl u.2.2.2))]) (mW m0 ma la lb n t v ++ [((ma 10), .inl (X.2.1, 150, .inl fd))] ++ [((ma 17), .inl (X.2.1, 3, .inl fv))] ++ [((ma 16), .inl (X.2.1, 123, .inl fw))]) sz) 0 0 (va_A (mW m0 ma la lb n t v ++ [((ma 10), .inl (X.2.1, 150, .inl fd))] ++ [((ma 17), .inl (X.2.1, 3, .inl fv))] ++ [((ma 16), .inl (X.2.1, 123, .inl fw))]) sz) := by
  refine mk_met (B := (va_A (mW m0 ma la lb n t v ++ [((ma 10), .inl (X.2.1, 150, .inl fd))] ++ [((ma 17), .inl (X.2.1, 3, .inl fv))] ++ [((ma 16), .inl (X.2.1, 123, .inl fw))]) sz)) (A := (va_A (mW m0 ma la lb n t v ++ [((ma 10), .inl (X.2.1, 150, .inl fd))] ++ [((ma 17), .inl (X.2.1, 3, .inl fv))] ++ [((ma 16), .inl (X.2.1, 123, .inl fw))]) sz)) (cc := cX11_takesStart) (maxL := 2) (ret := (some .boolean)) (by decide) rfl (Nat.le_of_ble_eq_true rfl) k_w k_a (fun p e s m below meth c S zr zlk znm zsz G ls hl => ?_)
  have S : CallFix p m c cX11_takesStart 2 s _ wsX11_takesStart RX11 := S
  have zx := S.1
  have zb := S.2.1
  have hl : lv_has ls 2 [(0, .ref m0)] := hl
  have hO_t := hI_t
  obtain ⟨ht0_t, ht1_t⟩ := hO_t
  have hO_fw := hI_fw.2
  obtain ⟨hm0_fw, hm1_fw, hm2_fw, hm3_fw, hm4_fw⟩ := hO_fw
  obtain ⟨hT1, hT2⟩ := hT
  refine lv_aload_n zx zb dX11_takesStart_0 rfl (lv_at hl 0 rfl) ?_
  refine b_wv (cells' := 0) (slots' := 0) (wr := [((ma 17), .inl (X.2.1, 3, .inl fv))] ++ [((ma 16), .inl (X.2.1, 123, .inl fw))]) G rfl rfl [0, 1] [2, 3] rfl rfl rfl rfl (n_V (As := []) (rest := []) (C := RX11) (T := TX11) (N := 18) (ci := 9) S G (m_goBehind l X m0 ma la lb n t v fd hI_n hI_t ⟨by omega, by first | assumption | omega⟩ s.heap.size) gX11_takesStart_X11_goBehind rfl rfl rfl hdV_X11_goBehind ⟨Nat.le_of_ble_eq_true rfl, Nat.le_of_ble_eq_true rfl⟩ [0, 1] rfl rfl 0 rfl rfl rfl hl.1 (Nat.le_of_ble_eq_true rfl) dX11_takesStart_1 ⟨Nat.le_of_ble_eq_true rfl, Nat.le_of_ble_eq_true rfl⟩) (fun u_1 H locs hp_1 G => ?_)
  obtain ⟨t_1a, v_1b⟩ := u_1
  obtain ⟨hI_t_1a, hq_1⟩ := hp_1
  have hO_t_1a := hI_t_1a
  obtain ⟨ht0_t_1a, ht1_t_1a⟩ := hO_t_1a
  have G : wd X (va_A (mW m0 ma la lb n t v ++ [((ma 10), .inl (X.2.1, 150, .inl fd))] ++ [((ma 17), .inl (X.2.1, 3, .inl fv))] ++ [((ma 16), .inl (X.2.1, 123, .inl fw))]) sz) (va_A (mW m0 ma la lb n t v ++ [((ma 10), .inl (X.2.1, 150, .inl fd))] ++ [((ma 17), .inl (X.2.1, 3, .inl fv))] ++ [((ma 16), .inl (X.2.1, 123, .inl fw))]) sz) s ([((ma 17), .inl (X.2.1, 3, .inl fv))] ++ [((ma 16), .inl (X.2.1, 123, .inl fw))] ++ mW m0 ma la lb n t_1a v_1b ++ [((ma 10), .inl (X.2.1, 150, .inl fd))]) H locs := G
  obtain ⟨hz0_1, hz1_1, hz2_1⟩ := hq_1
  refine lv_aload_n zx zb dX11_takesStart_4 rfl (lv_at hl 0 rfl) ?_
  refine r_get (C := RX11) (T := TX11) (N := 18) (ci := 9) (v := .int (v_1b 0)) S in_X11_takesStart_X11 G 2 rfl rfl 14 (by decide) lk_X11_takesStart_223 rfl dX11_takesStart_5 ?_
  refine lv_iconst (v := 2) zx zb dX11_takesStart_8 (by decide) ?_
  refine lv_icmp_ne (tgt := 57) zx zb dX11_takesStart_9 (by decide) (fun c_2 => ?_) (fun c_2 => ?_)
  · refine lv_iconst (v := 0) zx zb dX11_takesStart_57 (by decide) ?_
    exact e_int S zr zlk (by decide) G (t_1a, v_1b, fv, fw) [2, 3, 0, 1] rfl rfl (Or.inr rfl) (⟨hI_t_1a, hI_fw, ⟨⟨by first | omega | (dsimp only; omega), by first | omega | (dsimp only; omega), by assumption⟩, Or.inl rfl⟩⟩) dX11_takesStart_58
  · refine lv_aload_n zx zb dX11_takesStart_12 rfl (lv_at hl 0 rfl) ?_
    refine r_get (C := RX11) (T := TX11) (N := 18) (ci := 9) (v := .int (v_1b 1)) S in_X11_takesStart_X11 G 2 rfl rfl 15 (by decide) lk_X11_takesStart_226 rfl dX11_takesStart_13 ?_
    refine lv_i2l (v := (Int32.toInt64 (v_1b 1))) zx zb dX11_takesStart_16 rfl ?_
    refine lv_lconst (v := (Int32.toInt64 0)) zx zb dX11_takesStart_17 (by decide) ?_
    refine lv_aload_n zx zb dX11_takesStart_18 rfl (lv_at hl 0 rfl) ?_
    refine r_get (C := RX11) (T := TX11) (N := 18) (ci := 9) (v := .ref (ma 16)) S in_X11_takesStart_X11 G 2 rfl rfl 16 (by decide) lk_X11_takesStart_42 rfl dX11_takesStart_19 ?_
    refine lv_iconst (v := 0) zx zb dX11_takesStart_22 (by decide) ?_
    refine r_iald (v := (nI (bw 0))) S G 1 rfl (k_vp (by decide)) hI_fw.1.1 dX11_takesStart_23 ?_
    refine lv_iconst (v := 1) zx zb dX11_takesStart_24 (by decide) ?_
    refine r_isub (v := ((nI (bw 0)) - 1)) S rfl dX11_takesStart_25 ?_
    refine lv_i2l (v := (Int32.toInt64 ((nI (bw 0)) - 1))) zx zb dX11_takesStart_26 rfl ?_
    refine o_ri (cells' := 0) (slots' := 0) G rfl rfl (n_S (As := [.long (Int32.toInt64 (v_1b 1)), .long (Int32.toInt64 0), .long (Int32.toInt64 ((nI (bw 0)) - 1))]) (rest := []) S G (m_in l X (v_1b 1) 0 ((nI (bw 0)) - 1) H.size) gX11_takesStart_X11_in rfl rfl rfl hdS_X11_in ⟨Nat.le_of_ble_eq_true rfl, Nat.le_of_ble_eq_true rfl⟩ [] rfl rfl rfl hl.1 (Nat.le_of_ble_eq_true rfl) dX11_takesStart_27 ⟨Nat.le_of_ble_eq_true rfl, Nat.le_of_ble_eq_true rfl⟩) (fun r_4 u_4 H locs hp_4 G => ?_)
    have G : wd X (va_A (mW m0 ma la lb n t v ++ [((ma 10), .inl (X.2.1, 150, .inl fd))] ++ [((ma 17), .inl (X.2.1, 3, .inl fv))] ++ [((ma 16), .inl (X.2.1, 123, .inl fw))]) sz) (va_A (mW m0 ma la lb n t v ++ [((ma 10), .inl (X.2.1, 150, .inl fd))] ++ [((ma 17), .inl (X.2.1, 3, .inl fv))] ++ [((ma 16), .inl (X.2.1, 123, .inl fw))]) sz) s ([((ma 17), .inl (X.2.1, 3, .inl fv))] ++ [((ma 16), .inl (X.2.1, 123, .inl fw))] ++ mW m0 ma la lb n t_1a v_1b ++ [((ma 10), .inl (X.2.1, 150, .inl fd))]) H locs := G
    rcases hp_4 with ⟨rfl, hw_4⟩ | ⟨rfl, hw_4⟩
    · refine lv_if_eq (tgt := 57) zx zb dX11_takesStart_30 (by decide) (fun c_5 => absurd c_5 (by decide)) (fun c_5 => ?_)
      refine lv_aload_n zx zb dX11_takesStart_33 rfl (lv_at hl 0 rfl) ?_
      refine r_get (C := RX11) (T := TX11) (N := 18) (ci := 9) (v := .ref (ma 16)) S in_X11_takesStart_X11 G 2 rfl rfl 16 (by decide) lk_X11_takesStart_42 rfl dX11_takesStart_34 ?_
      refine lv_aload_n zx zb dX11_takesStart_37 rfl (lv_at hl 0 rfl) ?_
      refine r_get (C := RX11) (T := TX11) (N := 18) (ci := 9) (v := .int (v_1b 1)) S in_X11_takesStart_X11 G 2 rfl rfl 15 (by decide) lk_X11_takesStart_226 rfl dX11_takesStart_38 ?_
      obtain ⟨jv, hjv, ejv⟩ := k_one (by omega) hw_4
      refine k_it ejv ?_
      refine o_ri (cells' := 0) (slots' := 0) G rfl rfl (n_S (As := [.ref (ma 16), .int (nI jv)]) (rest := []) S G (m_isHome l X (ma 16) 123 fw bw jv hI_fw (by omega) (by omega) (by omega) H.size) gX11_takesStart_X11_isHome rfl rfl rfl hdS_X11_isHome ⟨Nat.le_of_ble_eq_true rfl, Nat.le_of_ble_eq_true rfl⟩ [1] rfl rfl rfl hl.1 (Nat.le_of_ble_eq_true rfl) dX11_takesStart_41 ⟨Nat.le_of_ble_eq_true rfl, Nat.le_of_ble_eq_true rfl⟩) (fun r_6 u_6 H locs hp_6 G => ?_)
      have G : wd X (va_A (mW m0 ma la lb n t v ++ [((ma 10), .inl (X.2.1, 150, .inl fd))] ++ [((ma 17), .inl (X.2.1, 3, .inl fv))] ++ [((ma 16), .inl (X.2.1, 123, .inl fw))]) sz) (va_A (mW m0 ma la lb n t v ++ [((ma 10), .inl (X.2.1, 150, .inl fd))] ++ [((ma 17), .inl (X.2.1, 3, .inl fv))] ++ [((ma 16), .inl (X.2.1, 123, .inl fw))]) sz) s ([((ma 17), .inl (X.2.1, 3, .inl fv))] ++ [((ma 16), .inl (X.2.1, 123, .inl fw))] ++ mW m0 ma la lb n t_1a v_1b ++ [((ma 10), .inl (X.2.1, 150, .inl fd))]) H locs := G
      refine lv_if_ne (tgt := 57) zx zb dX11_takesStart_44 (by decide) (fun c_7 => ?_) (fun c_7 => ?_)
      · refine lv_iconst (v := 0) zx zb dX11_takesStart_57 (by decide) ?_
        exact e_int S zr zlk (by decide) G (t_1a, v_1b, fv, fw) [2, 3, 0, 1] rfl rfl (Or.inr rfl) (⟨hI_t_1a, hI_fw, ⟨⟨by first | omega | (dsimp only; omega), by first | omega | (dsimp only; omega), by assumption⟩, Or.inl rfl⟩⟩) dX11_takesStart_58
      · refine lv_aload_n zx zb dX11_takesStart_47 rfl (lv_at hl 0 rfl) ?_
        refine lv_iconst (v := 0) zx zb dX11_takesStart_48 (by decide) ?_
        refine lv_iconst (v := 0) zx zb dX11_takesStart_49 (by decide) ?_
        refine lv_iconst (v := 5) zx zb dX11_takesStart_50 (by decide) ?_
        refine b_wi (cells' := 0) (slots' := 0) (wr := [((ma 16), .inl (X.2.1, 123, .inl fw))]) G rfl rfl [2, 3, 0] [1] rfl rfl rfl rfl (n_V (As := [.int 0, .int 0, .int 5]) (rest := []) (C := RX11) (T := TX11) (N := 18) (ci := 9) S G (m_takes0 l X m0 ma la lb n t_1a v_1b fd fv 0 5 hI_n hI_t_1a ⟨by omega, by first | assumption | omega⟩ H.size) gX11_takesStart_X11_takes rfl rfl rfl hdV_X11_takes ⟨Nat.le_of_ble_eq_true rfl, Nat.le_of_ble_eq_true rfl⟩ [2, 3, 0] rfl rfl 2 rfl rfl rfl hl.1 (Nat.le_of_ble_eq_true rfl) dX11_takesStart_51 ⟨Nat.le_of_ble_eq_true rfl, Nat.le_of_ble_eq_true rfl⟩) (fun r_8 u_8 H locs hp_8 G => ?_)
        obtain ⟨t_8a, v_8b, f_8c⟩ := u_8
        obtain ⟨hI_t_8a, hq_8⟩ := hp_8
        have hO_t_8a := hI_t_8a
        obtain ⟨ht0_t_8a, ht1_t_8a⟩ := hO_t_8a
        have G : wd X (va_A (mW m0 ma la lb n t v ++ [((ma 10), .inl (X.2.1, 150, .inl fd))] ++ [((ma 17), .inl (X.2.1, 3, .inl fv))] ++ [((ma 16), .inl (X.2.1, 123, .inl fw))]) sz) (va_A (mW m0 ma la lb n t v ++ [((ma 10), .inl (X.2.1, 150, .inl fd))] ++ [((ma 17), .inl (X.2.1, 3, .inl fv))] ++ [((ma 16), .inl (X.2.1, 123, .inl fw))]) sz) s ([((ma 16), .inl (X.2.1, 123, .inl fw))] ++ mW m0 ma la lb n t_8a v_8b ++ [((ma 10), .inl (X.2.1, 150, .inl fd))] ++ [((ma 17), .inl (X.2.1, 3, .inl f_8c))]) H locs := G
        obtain ⟨⟨hz0_8, hz1_8, hz2_8⟩, hr_8⟩ := hq_8
        rcases hr_8 with rfl | ⟨rfl, hv_8, ha_8, hb_8⟩
        · refine lv_if_ne (tgt := 59) zx zb dX11_takesStart_54 (by decide) (fun c_9 => absurd (by decide) c_9) (fun c_9 => ?_)
          refine lv_iconst (v := 0) zx zb dX11_takesStart_57 (by decide) ?_
          exact e_int S zr zlk (by decide) G (t_8a, v_8b, f_8c, fw) [1, 2, 3, 0] rfl rfl (Or.inr rfl) (⟨hI_t_8a, hI_fw, ⟨⟨by first | omega | (dsimp only; omega), by first | omega | (dsimp only; omega), by assumption⟩, Or.inl rfl⟩⟩) dX11_takesStart_58
        · refine lv_if_ne (tgt := 59) zx zb dX11_takesStart_54 (by decide) (fun c_10 => ?_) (fun c_10 => absurd c_10 (by decide))
          refine lv_aload_n zx zb dX11_takesStart_59 rfl (lv_at hl 0 rfl) ?_
          refine r_get (C := RX11) (T := TX11) (N := 18) (ci := 9) (v := .ref (ma 16)) S in_X11_takesStart_X11 G 1 rfl rfl 16 (by decide) lk_X11_takesStart_42 rfl dX11_takesStart_60 ?_
          refine lv_bipush (v := 36) zx zb dX11_takesStart_63 (by decide) ?_
          refine r_iald S G 0 rfl (k_vp (by decide)) rfl dX11_takesStart_65 ?_
          refine k_itE (fun y_11 => ?_)
          refine lv_bipush (v := 30) zx zb dX11_takesStart_66 (by decide) ?_
          refine k_cutW (PP := fun Wx => ∀ (x_13 : Int32) (H : Heap) (locs : List Loc) (ls : Array Slot), wd X (va_A (mW m0 ma la lb n t v ++ [((ma 10), .inl (X.2.1, 150, .inl fd))] ++ [((ma 17), .inl (X.2.1, 3, .inl fv))] ++ [((ma 16), .inl (X.2.1, 123, .inl fw))]) sz) (va_A (mW m0 ma la lb n t v ++ [((ma 10), .inl (X.2.1, 150, .inl fd))] ++ [((ma 17), .inl (X.2.1, 3, .inl fv))] ++ [((ma 16), .inl (X.2.1, 123, .inl fw))]) sz) s ([((ma 16), .inl (X.2.1, 123, .inl fw))] ++ mW m0 ma la lb n t_8a v_8b ++ [((ma 10), .inl (X.2.1, 150, .inl fd))] ++ [((ma 17), .inl (X.2.1, 3, .inl f_8c))]) H locs → lv_has ls 2 [(0, .ref m0)] → Wx (F0 m 85 ls [.int x_13]) H locs) ?_ ?_
          · intro join_68
            refine lv_icmp_le (tgt := 76) zx zb dX11_takesStart_68 (by decide) (fun c_12 => ?_) (fun c_12 => ?_)
            · refine lv_aload_n zx zb dX11_takesStart_76 rfl (lv_at hl 0 rfl) ?_
              refine r_get (C := RX11) (T := TX11) (N := 18) (ci := 9) (v := .ref (ma 16)) S in_X11_takesStart_X11 G 1 rfl rfl 16 (by decide) lk_X11_takesStart_42 rfl dX11_takesStart_77 ?_
              refine lv_bipush (v := 36) zx zb dX11_takesStart_80 (by decide) ?_
              refine r_iald S G 0 rfl (k_vp (by decide)) rfl dX11_takesStart_82 ?_
              refine k_itE (fun y_14 => ?_)
              refine lv_iconst (v := 1) zx zb dX11_takesStart_83 (by decide) ?_
              refine r_isub (v := (y_14 - 1)) S rfl dX11_takesStart_84 ?_
              exact join_68 (y_14 - 1) _ _ _  G hl
            · refine lv_bipush (v := 30) zx zb dX11_takesStart_71 (by decide) ?_
              refine lv_goto (tgt := 85) zx zb dX11_takesStart_73 (by decide) ?_
              exact join_68 30 _ _ _  G hl
          · intro x_13 H locs ls  G hl
            refine lv_istore_n (lv' := [(1, .int x_13), (0, .ref m0)]) zx zb dX11_takesStart_85 rfl hl (by decide) rfl (fun ls hl => ?_)
            refine lv_aload_n zx zb dX11_takesStart_86 rfl (lv_at hl 1 rfl) ?_
            refine lv_iconst (v := 1) zx zb dX11_takesStart_87 (by decide) ?_
            refine lv_iconst (v := 0) zx zb dX11_takesStart_88 (by decide) ?_
            refine lv_iload_n zx zb dX11_takesStart_89 rfl (lv_at hl 0 rfl) ?_
            refine b_wi (cells' := 0) (slots' := 0) (wr := [((ma 16), .inl (X.2.1, 123, .inl fw))]) G rfl rfl [1, 2, 3] [0] rfl rfl rfl rfl (n_V (As := [.int 1, .int 0, .int x_13]) (rest := []) (C := RX11) (T := TX11) (N := 18) (ci := 9) S G (m_takes1 l X m0 ma la lb n t_8a v_8b fd f_8c 0 x_13 hI_n hI_t_8a ⟨by omega, by first | assumption | omega⟩ H.size) gX11_takesStart_X11_takes rfl rfl rfl hdV_X11_takes ⟨Nat.le_of_ble_eq_true rfl, Nat.le_of_ble_eq_true rfl⟩ [1, 2, 3] rfl rfl 1 rfl rfl rfl hl.1 (Nat.le_of_ble_eq_true rfl) dX11_takesStart_90 ⟨Nat.le_of_ble_eq_true rfl, Nat.le_of_ble_eq_true rfl⟩) (fun r_15 u_15 H locs hp_15 G => ?_)
            obtain ⟨t_15a, v_15b, f_15c⟩ := u_15
            obtain ⟨hI_t_15a, hq_15⟩ := hp_15
            have hO_t_15a := hI_t_15a
            obtain ⟨ht0_t_15a, ht1_t_15a⟩ := hO_t_15a
            have G : wd X (va_A (mW m0 ma la lb n t v ++ [((ma 10), .inl (X.2.1, 150, .inl fd))] ++ [((ma 17), .inl (X.2.1, 3, .inl fv))] ++ [((ma 16), .inl (X.2.1, 123, .inl fw))]) sz) (va_A (mW m0 ma la lb n t v ++ [((ma 10), .inl (X.2.1, 150, .inl fd))] ++ [((ma 17), .inl (X.2.1, 3, .inl fv))] ++ [((ma 16), .inl (X.2.1, 123, .inl fw))]) sz) s ([((ma 16), .inl (X.2.1, 123, .inl fw))] ++ mW m0 ma la lb n t_15a v_15b ++ [((ma 10), .inl (X.2.1, 150, .inl fd))] ++ [((ma 17), .inl (X.2.1, 3, .inl f_15c))]) H locs := G
            obtain ⟨⟨hz0_15, hz1_15, hz2_15⟩, hr_15⟩ := hq_15
            rcases hr_15 with rfl | ⟨rfl, hv_15, ha_15, hb_15⟩
            · refine lv_if_ne (tgt := 98) zx zb dX11_takesStart_93 (by decide) (fun c_16 => absurd (by decide) c_16) (fun c_16 => ?_)
              refine lv_iconst (v := 0) zx zb dX11_takesStart_96 (by decide) ?_
              exact e_int S zr zlk (by decide) G (t_15a, v_15b, f_15c, fw) [1, 2, 3, 0] rfl rfl (Or.inr rfl) (⟨hI_t_15a, hI_fw, ⟨⟨by first | omega | (dsimp only; omega), by first | omega | (dsimp only; omega), by assumption⟩, Or.inl rfl⟩⟩) dX11_takesStart_97
            · refine lv_if_ne (tgt := 98) zx zb dX11_takesStart_93 (by decide) (fun c_17 => ?_) (fun c_17 => absurd c_17 (by decide))
              refine lv_aload_n zx zb dX11_takesStart_98 rfl (lv_at hl 1 rfl) ?_
              refine r_get (C := RX11) (T := TX11) (N := 18) (ci := 9) (v := .ref (ma 16)) S in_X11_takesStart_X11 G 1 rfl rfl 16 (by decide) lk_X11_takesStart_42 rfl dX11_takesStart_99 ?_
              refine lv_iconst (v := 5) zx zb dX11_takesStart_102 (by decide) ?_
              refine lv_aload_n zx zb dX11_takesStart_103 rfl (lv_at hl 1 rfl) ?_
              refine r_get (C := RX11) (T := TX11) (N := 18) (ci := 9) (v := .ref (ma 17)) S in_X11_takesStart_X11 G 1 rfl rfl 17 (by decide) lk_X11_takesStart_45 rfl dX11_takesStart_104 ?_
              refine lv_iconst (v := 0) zx zb dX11_takesStart_107 (by decide) ?_
              obtain ⟨iv, ⟨hia, hib⟩, eiv⟩ := k_natR (a := 0) (b := 5) hv_8 rfl rfl (by decide) (by decide)
              replace eiv := ha_15.trans eiv
              refine r_iald (v := nI iv) S G 3 rfl (k_vp (by decide)) eiv dX11_takesStart_108 ?_
              refine r_iadd (v := (nI (5 + iv))) S (nI_add 5 iv) dX11_takesStart_109 ?_
              refine lv_aload_n zx zb dX11_takesStart_110 rfl (lv_at hl 1 rfl) ?_
              refine r_get (C := RX11) (T := TX11) (N := 18) (ci := 9) (v := .ref (ma 17)) S in_X11_takesStart_X11 G 1 rfl rfl 17 (by decide) lk_X11_takesStart_45 rfl dX11_takesStart_111 ?_
              refine lv_iconst (v := 1) zx zb dX11_takesStart_114 (by decide) ?_
              refine r_iald (v := (f_15c 1)) S G 3 rfl (k_vp (by decide)) rfl dX11_takesStart_115 ?_
              refine r_iast S G 0 rfl (vp_in_nI (by omega) (by decide)) dX11_takesStart_116 (fun H locs G => ?_)
              obtain ⟨f_19, hI_f_19, G⟩ : ∃ f_19 : Nat → Int32, InM f_19 bw ∧ wd X (va_A (mW m0 ma la lb n t v ++ [((ma 10), .inl (X.2.1, 150, .inl fd))] ++ [((ma 17), .inl (X.2.1, 3, .inl fv))] ++ [((ma 16), .inl (X.2.1, 123, .inl fw))]) sz) (va_A (mW m0 ma la lb n t v ++ [((ma 10), .inl (X.2.1, 150, .inl fd))] ++ [((ma 17), .inl (X.2.1, 3, .inl fv))] ++ [((ma 16), .inl (X.2.1, 123, .inl fw))]) sz) s ([((ma 16), .inl (X.2.1, 123, .inl f_19))] ++ mW m0 ma la lb n t_15a v_15b ++ [((ma 10), .inl (X.2.1, 150, .inl fd))] ++ [((ma 17), .inl (X.2.1, 3, .inl f_15c))]) H locs := ⟨_, InM_o hI_fw (by rw [nI_clamp (by omega)]; omega), G⟩
              have hO_f_19 := hI_f_19.2
              obtain ⟨hm0_f_19, hm1_f_19, hm2_f_19, hm3_f_19, hm4_f_19⟩ := hO_f_19
              refine lv_iconst (v := 1) zx zb dX11_takesStart_117 (by decide) ?_
              exact e_int S zr zlk (by decide) G (t_15a, v_15b, f_15c, f_19) [1, 2, 3, 0] rfl rfl (Or.inr rfl) (⟨hI_t_15a, hI_f_19, ⟨⟨by first | omega | (dsimp only; omega), by first | omega | (dsimp only; omega), by assumption⟩, Or.inr rfl⟩⟩) dX11_takesStart_118
    · refine lv_if_eq (tgt := 57) zx zb dX11_takesStart_30 (by decide) (fun c_20 => ?_) (fun c_20 => absurd (by decide) c_20)
      refine lv_iconst (v := 0) zx zb dX11_takesStart_57 (by decide) ?_
      exact e_int S zr zlk (by decide) G (t_1a, v_1b, fv, fw) [2, 3, 0, 1] rfl rfl (Or.inr rfl) (⟨hI_t_1a, hI_fw, ⟨⟨by first | omega | (dsimp only; omega), by first | omega | (dsimp only; omega), by assumption⟩, Or.inl rfl⟩⟩) dX11_takesStart_58
theorem in_X11_takesGo_X11 : ∀ w ∈ wsX110, w ∈ wsX11_takesGo := by decide +kernel
theorem lk_X11_takesGo_42 : Cond.fieldLink RX11 42 "EggSpoonsModel" "anew" "[I" ∈ wsX11_takesGo := by decide +kernel
theorem lk_X11_takesGo_45 : Cond.fieldLink RX11 45 "EggSpoonsModel" "values" "[I" ∈ wsX11_takesGo := by decide +kernel
set_option maxHeartbeats 4000000 in
set_option maxRecDepth 100000 in
/-- takesGo -/
theorem m_takesGo (l : Launch) (X : EX) (m0 : Nat) (ma : Nat → Nat) (la : Int64) (lb : Int64) (n : Nat) (t : Nat → Nat) (v : Nat → Int32) (fd : Nat → Int32) (fv : Nat → Int32) (fw : Nat → Int32) (bw : Nat → Nat) (hI_n : n ≤ 150) (hI_t : InT t) (hI_fw : InM fw bw) (hT : t 0 + t 1 ≤ n ∧ (v 0 = 0 ∨ 1 ≤ t 1)) (sz : Nat) : Met l yX11_takesGo wsX11_takesGo ({ frames := 5, cells := 0, slots := 0, locals := 115 } : Room) (pE X [.ref m0] (mW m0 ma la lb n t v ++ [((ma 10), .inl (X.2.1, 150, .inl fd))] ++ [((ma 17), .inl (X.2.1, 3, .inl fv))] ++ [((ma 16), .inl (X.2.1, 123, .inl fw))]) sz) (qI (fun (r : Int32) (u : (Nat → Nat) × (Nat → Int32) × (Nat → Int32) × (Nat → Int32)) => InT u.1 ∧ InM u.2.2.2 bw ∧ ((t 0 ≤ u.1 0 ∧ u.1 0 + u.1 1 ≤ n ∧ (u.2.1 0 = 0 ∨ 1 ≤ u.1 1)) ∧ (r = 0 ∨ r = 1))) X (fun (u : (Nat → Nat) × (Nat → Int32) × (Nat → Int32) × (Nat → Int32)) => mW m0 ma la lb n u.1 u.2.1 ++ [((ma 10), .inl (X.2.1, 150, .inl fd))] ++ [((ma 17), .inl (X.2.1, 3, .inl u.2.2.1))] ++ [((ma 16), .inl (X.2.1, 123, .inl u.2.2.2))]) (mW m0 ma la lb n t v ++ [((ma 10), .inl (X.2.1, 150, .inl fd))] ++ [((ma 17), .inl (X.2.1, 3, .inl fv))] ++ [((ma 16), .inl (X.2.1, 123, .inl fw))]) sz) 0 0 (va_A (mW m0 ma la lb n t v ++ [((ma 10), .inl (X.2.1, 150, .inl fd))] ++ [((ma 17), .inl (X.2.1, 3, .inl fv))] ++ [((ma 16), .inl (X.2.1, 123, .inl fw))]) sz) := by
  refine mk_met (B := (va_A (mW m0 ma la lb n t v ++ [((ma 10), .inl (X.2.1, 150, .inl fd))] ++ [((ma 17), .inl (X.2.1, 3, .inl fv))] ++ [((ma 16), .inl (X.2.1, 123, .inl fw))]) sz)) (A := (va_A (mW m0 ma la lb n t v ++ [((ma 10), .inl (X.2.1, 150, .inl fd))] ++ [((ma 17), .inl (X.2.1, 3, .inl fv))] ++ [((ma 16), .inl (X.2.1, 123, .inl fw))]) sz)) (cc := cX11_takesGo) (maxL := 1) (ret := (some .boolean)) (by decide) rfl (Nat.le_of_ble_eq_true rfl) k_w k_a (fun p e s m below meth c S zr zlk znm zsz G ls hl => ?_)
  have S : CallFix p m c cX11_takesGo 1 s _ wsX11_takesGo RX11 := S
  have zx := S.1
  have zb := S.2.1
  have hl : lv_has ls 1 [(0, .ref m0)] := hl
  have hO_t := hI_t
  obtain ⟨ht0_t, ht1_t⟩ := hO_t
  have hO_fw := hI_fw.2
  obtain ⟨hm0_fw, hm1_fw, hm2_fw, hm3_fw, hm4_fw⟩ := hO_fw
  obtain ⟨hT1, hT2⟩ := hT
  refine lv_aload_n zx zb dX11_takesGo_0 rfl (lv_at hl 0 rfl) ?_
  refine b_wv (cells' := 0) (slots' := 0) (wr := [((ma 17), .inl (X.2.1, 3, .inl fv))] ++ [((ma 16), .inl (X.2.1, 123, .inl fw))]) G rfl rfl [0, 1] [2, 3] rfl rfl rfl rfl (n_V (As := []) (rest := []) (C := RX11) (T := TX11) (N := 18) (ci := 9) S G (m_goBehind l X m0 ma la lb n t v fd hI_n hI_t ⟨by omega, by first | assumption | omega⟩ s.heap.size) gX11_takesGo_X11_goBehind rfl rfl rfl hdV_X11_goBehind ⟨Nat.le_of_ble_eq_true rfl, Nat.le_of_ble_eq_true rfl⟩ [0, 1] rfl rfl 0 rfl rfl rfl hl.1 (Nat.le_of_ble_eq_true rfl) dX11_takesGo_1 ⟨Nat.le_of_ble_eq_true rfl, Nat.le_of_ble_eq_true rfl⟩) (fun u_1 H locs hp_1 G => ?_)
  obtain ⟨t_1a, v_1b⟩ := u_1
  obtain ⟨hI_t_1a, hq_1⟩ := hp_1
  have hO_t_1a := hI_t_1a
  obtain ⟨ht0_t_1a, ht1_t_1a⟩ := hO_t_1a
  have G : wd X (va_A (mW m0 ma la lb n t v ++ [((ma 10), .inl (X.2.1, 150, .inl fd))] ++ [((ma 17), .inl (X.2.1, 3, .inl fv))] ++ [((ma 16), .inl (X.2.1, 123, .inl fw))]) sz) (va_A (mW m0 ma la lb n t v ++ [((ma 10), .inl (X.2.1, 150, .inl fd))] ++ [((ma 17), .inl (X.2.1, 3, .inl fv))] ++ [((ma 16), .inl (X.2.1, 123, .inl fw))]) sz) s ([((ma 17), .inl (X.2.1, 3, .inl fv))] ++ [((ma 16), .inl (X.2.1, 123, .inl fw))] ++ mW m0 ma la lb n t_1a v_1b ++ [((ma 10), .inl (X.2.1, 150, .inl fd))]) H locs := G
  obtain ⟨hz0_1, hz1_1, hz2_1⟩ := hq_1
  refine lv_aload_n zx zb dX11_takesGo_4 rfl (lv_at hl 0 rfl) ?_
  refine lv_iconst (v := 0) zx zb dX11_takesGo_5 (by decide) ?_
  refine lv_iconst (v := 1) zx zb dX11_takesGo_6 (by decide) ?_
  refine lv_bipush (v := 99) zx zb dX11_takesGo_7 (by decide) ?_
  refine b_wi (cells' := 0) (slots' := 0) (wr := [((ma 16), .inl (X.2.1, 123, .inl fw))]) G rfl rfl [2, 3, 0] [1] rfl rfl rfl rfl (n_V (As := [.int 0, .int 1, .int 99]) (rest := []) (C := RX11) (T := TX11) (N := 18) (ci := 9) S G (m_takes0 l X m0 ma la lb n t_1a v_1b fd fv 1 99 hI_n hI_t_1a ⟨by omega, by first | assumption | omega⟩ H.size) gX11_takesGo_X11_takes rfl rfl rfl hdV_X11_takes ⟨Nat.le_of_ble_eq_true rfl, Nat.le_of_ble_eq_true rfl⟩ [2, 3, 0] rfl rfl 2 rfl rfl rfl hl.1 (Nat.le_of_ble_eq_true rfl) dX11_takesGo_9 ⟨Nat.le_of_ble_eq_true rfl, Nat.le_of_ble_eq_true rfl⟩) (fun r_2 u_2 H locs hp_2 G => ?_)
  obtain ⟨t_2a, v_2b, f_2c⟩ := u_2
  obtain ⟨hI_t_2a, hq_2⟩ := hp_2
  have hO_t_2a := hI_t_2a
  obtain ⟨ht0_t_2a, ht1_t_2a⟩ := hO_t_2a
  have G : wd X (va_A (mW m0 ma la lb n t v ++ [((ma 10), .inl (X.2.1, 150, .inl fd))] ++ [((ma 17), .inl (X.2.1, 3, .inl fv))] ++ [((ma 16), .inl (X.2.1, 123, .inl fw))]) sz) (va_A (mW m0 ma la lb n t v ++ [((ma 10), .inl (X.2.1, 150, .inl fd))] ++ [((ma 17), .inl (X.2.1, 3, .inl fv))] ++ [((ma 16), .inl (X.2.1, 123, .inl fw))]) sz) s ([((ma 16), .inl (X.2.1, 123, .inl fw))] ++ mW m0 ma la lb n t_2a v_2b ++ [((ma 10), .inl (X.2.1, 150, .inl fd))] ++ [((ma 17), .inl (X.2.1, 3, .inl f_2c))]) H locs := G
  obtain ⟨⟨hz0_2, hz1_2, hz2_2⟩, hr_2⟩ := hq_2
  rcases hr_2 with rfl | ⟨rfl, hv_2, ha_2, hb_2⟩
  · refine lv_if_ne (tgt := 17) zx zb dX11_takesGo_12 (by decide) (fun c_3 => absurd (by decide) c_3) (fun c_3 => ?_)
    refine lv_iconst (v := 0) zx zb dX11_takesGo_15 (by decide) ?_
    exact e_int S zr zlk (by decide) G (t_2a, v_2b, f_2c, fw) [1, 2, 3, 0] rfl rfl (Or.inr rfl) (⟨hI_t_2a, hI_fw, ⟨⟨by first | omega | (dsimp only; omega), by first | omega | (dsimp only; omega), by assumption⟩, Or.inl rfl⟩⟩) dX11_takesGo_16
  · refine lv_if_ne (tgt := 17) zx zb dX11_takesGo_12 (by decide) (fun c_4 => ?_) (fun c_4 => absurd c_4 (by decide))
    refine lv_aload_n zx zb dX11_takesGo_17 rfl (lv_at hl 0 rfl) ?_
    refine r_get (C := RX11) (T := TX11) (N := 18) (ci := 9) (v := .ref (ma 16)) S in_X11_takesGo_X11 G 1 rfl rfl 16 (by decide) lk_X11_takesGo_42 rfl dX11_takesGo_18 ?_
    refine lv_aload_n zx zb dX11_takesGo_21 rfl (lv_at hl 0 rfl) ?_
    refine r_get (C := RX11) (T := TX11) (N := 18) (ci := 9) (v := .ref (ma 17)) S in_X11_takesGo_X11 G 1 rfl rfl 17 (by decide) lk_X11_takesGo_45 rfl dX11_takesGo_22 ?_
    refine lv_iconst (v := 0) zx zb dX11_takesGo_25 (by decide) ?_
    obtain ⟨iv, ⟨hia, hib⟩, eiv⟩ := k_natR (a := 1) (b := 99) hv_2 rfl rfl (by decide) (by decide)
    refine r_iald (v := nI iv) S G 3 rfl (k_vp (by decide)) eiv dX11_takesGo_26 ?_
    refine b_wv (cells' := 0) (slots' := 0) (wr := mW m0 ma la lb n t_2a v_2b ++ [((ma 10), .inl (X.2.1, 150, .inl fd))] ++ [((ma 17), .inl (X.2.1, 3, .inl f_2c))]) G rfl rfl [0] [1, 2, 3] rfl rfl rfl rfl (n_S (As := [.ref (ma 16), .int (nI iv)]) (rest := []) S G (m_goTicks l X (ma 16) 123 fw bw iv hI_fw (by omega) (by omega) (by omega) H.size) gX11_takesGo_X11_goTicks rfl rfl rfl hdS_X11_goTicks ⟨Nat.le_of_ble_eq_true rfl, Nat.le_of_ble_eq_true rfl⟩ [0] rfl rfl rfl hl.1 (Nat.le_of_ble_eq_true rfl) dX11_takesGo_27 ⟨Nat.le_of_ble_eq_true rfl, Nat.le_of_ble_eq_true rfl⟩) (fun u_5 H locs hp_5 G => ?_)
    obtain ⟨f_5, rfl⟩ : ∃ z, z = u_5 := ⟨_, rfl⟩
    obtain ⟨hI_f_5, hq_5⟩ := hp_5
    have hO_f_5 := hI_f_5.2
    obtain ⟨hm0_f_5, hm1_f_5, hm2_f_5, hm3_f_5, hm4_f_5⟩ := hO_f_5
    have G : wd X (va_A (mW m0 ma la lb n t v ++ [((ma 10), .inl (X.2.1, 150, .inl fd))] ++ [((ma 17), .inl (X.2.1, 3, .inl fv))] ++ [((ma 16), .inl (X.2.1, 123, .inl fw))]) sz) (va_A (mW m0 ma la lb n t v ++ [((ma 10), .inl (X.2.1, 150, .inl fd))] ++ [((ma 17), .inl (X.2.1, 3, .inl fv))] ++ [((ma 16), .inl (X.2.1, 123, .inl fw))]) sz) s (mW m0 ma la lb n t_2a v_2b ++ [((ma 10), .inl (X.2.1, 150, .inl fd))] ++ [((ma 17), .inl (X.2.1, 3, .inl f_2c))] ++ [((ma 16), .inl (X.2.1, 123, .inl f_5))]) H locs := G
    refine lv_iconst (v := 1) zx zb dX11_takesGo_30 (by decide) ?_
    exact e_int S zr zlk (by decide) G (t_2a, v_2b, f_2c, f_5) [0, 1, 2, 3] rfl rfl (Or.inr rfl) (⟨hI_t_2a, hI_f_5, ⟨⟨by first | omega | (dsimp only; omega), by first | omega | (dsimp only; omega), by assumption⟩, Or.inr rfl⟩⟩) dX11_takesGo_31
theorem hdV_X11_spells : yX11_spells.cls = RX11 ∧ yX11_spells.cls ≠ "java/lang/invoke/MethodHandle" ∧ yX11_spells.cls ≠ "java/lang/invoke/VarHandle" ∧ (parseMethodDescriptor yX11_spells.desc).map (fun d => d.parameters.length) = some 7 := by decide +kernel
theorem hdV_X11_takesGo : yX11_takesGo.cls = RX11 ∧ yX11_takesGo.cls ≠ "java/lang/invoke/MethodHandle" ∧ yX11_takesGo.cls ≠ "java/lang/invoke/VarHandle" ∧ (parseMethodDescriptor yX11_takesGo.desc).map (fun d => d.parameters.length) = some 0 := by decide +kernel
theorem hdV_X11_takesStart : yX11_takesStart.cls = RX11 ∧ yX11_takesStart.cls ≠ "java/lang/invoke/MethodHandle" ∧ yX11_takesStart.cls ≠ "java/lang/invoke/VarHandle" ∧ (parseMethodDescriptor yX11_takesStart.desc).map (fun d => d.parameters.length) = some 0 := by decide +kernel
theorem hdV_X11_takesSpeed : yX11_takesSpeed.cls = RX11 ∧ yX11_takesSpeed.cls ≠ "java/lang/invoke/MethodHandle" ∧ yX11_takesSpeed.cls ≠ "java/lang/invoke/VarHandle" ∧ (parseMethodDescriptor yX11_takesSpeed.desc).map (fun d => d.parameters.length) = some 0 := by decide +kernel
theorem hdV_X11_takesOne : yX11_takesOne.cls = RX11 ∧ yX11_takesOne.cls ≠ "java/lang/invoke/MethodHandle" ∧ yX11_takesOne.cls ≠ "java/lang/invoke/VarHandle" ∧ (parseMethodDescriptor yX11_takesOne.desc).map (fun d => d.parameters.length) = some 0 := by decide +kernel
set_option maxHeartbeats 4000000 in
set_option maxRecDepth 100000 in
/-- takesItem -/
theorem m_takesItem (l : Launch) (X : EX) (m0 : Nat) (ma : Nat → Nat) (la : Int64) (lb : Int64) (n : Nat) (t : Nat → Nat) (v : Nat → Int32) (fd : Nat → Int32) (fv : Nat → Int32) (fw : Nat → Int32) (bw : Nat → Nat) (hI_n : n ≤ 150) (hI_t : InT t) (hI_fw : InM fw bw) (hT : t 0 + t 1 ≤ n ∧ (v 0 = 0 ∨ 1 ≤ t 1)) (sz : Nat) : Met l yX11_takesItem wsX11_takesItem ({ frames := 6, cells := 0, slots := 0, locals := 135 } : Room) (pE X [.ref m0] (mW m0 ma la lb n t v ++ [((ma 10), .inl (X.2.1, 150, .inl fd))] ++ [((ma 17), .inl (X.2.1, 3, .inl fv))] ++ [((ma 16), .inl (X.2.1, 123, .inl fw))]) sz) (qI (fun (r : Int32) (u : (Nat → Nat) × (Nat → Int32) × (Nat → Int32) × (Nat → Int32) × (Nat → Nat)) => InT u.1 ∧ InM u.2.2.2.1 u.2.2.2.2 ∧ ((t 0 ≤ u.1 0 ∧ u.1 0 + u.1 1 ≤ n ∧ (u.2.1 0 = 0 ∨ 1 ≤ u.1 1)) ∧ (r = 0 ∨ r = 1))) X (fun (u : (Nat → Nat) × (Nat → Int32) × (Nat → Int32) × (Nat → Int32) × (Nat → Nat)) => mW m0 ma la lb n u.1 u.2.1 ++ [((ma 10), .inl (X.2.1, 150, .inl fd))] ++ [((ma 17), .inl (X.2.1, 3, .inl u.2.2.1))] ++ [((ma 16), .inl (X.2.1, 123, .inl u.2.2.2.1))]) (mW m0 ma la lb n t v ++ [((ma 10), .inl (X.2.1, 150, .inl fd))] ++ [((ma 17), .inl (X.2.1, 3, .inl fv))] ++ [((ma 16), .inl (X.2.1, 123, .inl fw))]) sz) 0 0 (va_A (mW m0 ma la lb n t v ++ [((ma 10), .inl (X.2.1, 150, .inl fd))] ++ [((ma 17), .inl (X.2.1, 3, .inl fv))] ++ [((ma 16), .inl (X.2.1, 123, .inl fw))]) sz) := by
  refine mk_met (B := (va_A (mW m0 ma la lb n t v ++ [((ma 10), .inl (X.2.1, 150, .inl fd))] ++ [((ma 17), .inl (X.2.1, 3, .inl fv))] ++ [((ma 16), .inl (X.2.1, 123, .inl fw))]) sz)) (A := (va_A (mW m0 ma la lb n t v ++ [((ma 10), .inl (X.2.1, 150, .inl fd))] ++ [((ma 17), .inl (X.2.1, 3, .inl fv))] ++ [((ma 16), .inl (X.2.1, 123, .inl fw))]) sz)) (cc := cX11_takesItem) (maxL := 1) (ret := (some .boolean)) (by decide) rfl (Nat.le_of_ble_eq_true rfl) k_w k_a (fun p e s m below meth c S zr zlk znm zsz G ls hl => ?_)
  have S : CallFix p m c cX11_takesItem 1 s _ wsX11_takesItem RX11 := S
  have zx := S.1
  have zb := S.2.1
  have hl : lv_has ls 1 [(0, .ref m0)] := hl
  have hO_t := hI_t
  obtain ⟨ht0_t, ht1_t⟩ := hO_t
  have hO_fw := hI_fw.2
  obtain ⟨hm0_fw, hm1_fw, hm2_fw, hm3_fw, hm4_fw⟩ := hO_fw
  obtain ⟨hT1, hT2⟩ := hT
  refine lv_aload_n zx zb dX11_takesItem_0 rfl (lv_at hl 0 rfl) ?_
  refine lv_iconst (v := 3) zx zb dX11_takesItem_1 (by decide) ?_
  refine lv_bipush (v := 111) zx zb dX11_takesItem_2 (by decide) ?_
  refine lv_bipush (v := 110) zx zb dX11_takesItem_4 (by decide) ?_
  refine lv_bipush (v := 101) zx zb dX11_takesItem_6 (by decide) ?_
  refine lv_iconst (v := 0) zx zb dX11_takesItem_8 (by decide) ?_
  refine lv_iconst (v := 0) zx zb dX11_takesItem_9 (by decide) ?_
  refine lv_iconst (v := 0) zx zb dX11_takesItem_10 (by decide) ?_
  refine o_ri (cells' := 0) (slots' := 0) G rfl rfl (n_V (As := [.int 3, .int 111, .int 110, .int 101, .int 0, .int 0, .int 0]) (rest := []) (C := RX11) (T := TX11) (N := 18) (ci := 9) S G (m_spells l X m0 ma la lb n t v fd 3 111 110 101 0 0 0 hI_n hI_t ⟨by omega, by first | assumption | omega⟩ (by omega) s.heap.size) gX11_takesItem_X11_spells rfl rfl rfl hdV_X11_spells ⟨Nat.le_of_ble_eq_true rfl, Nat.le_of_ble_eq_true rfl⟩ [0, 1] rfl rfl 0 rfl rfl rfl hl.1 (Nat.le_of_ble_eq_true rfl) dX11_takesItem_11 ⟨Nat.le_of_ble_eq_true rfl, Nat.le_of_ble_eq_true rfl⟩) (fun r_1 u_1 H locs hp_1 G => ?_)
  have G : wd X (va_A (mW m0 ma la lb n t v ++ [((ma 10), .inl (X.2.1, 150, .inl fd))] ++ [((ma 17), .inl (X.2.1, 3, .inl fv))] ++ [((ma 16), .inl (X.2.1, 123, .inl fw))]) sz) (va_A (mW m0 ma la lb n t v ++ [((ma 10), .inl (X.2.1, 150, .inl fd))] ++ [((ma 17), .inl (X.2.1, 3, .inl fv))] ++ [((ma 16), .inl (X.2.1, 123, .inl fw))]) sz) s (mW m0 ma la lb n t v ++ [((ma 10), .inl (X.2.1, 150, .inl fd))] ++ [((ma 17), .inl (X.2.1, 3, .inl fv))] ++ [((ma 16), .inl (X.2.1, 123, .inl fw))]) H locs := G
  rcases hp_1 with rfl | rfl
  · refine lv_if_eq (tgt := 22) zx zb dX11_takesItem_14 (by decide) (fun c_2 => ?_) (fun c_2 => absurd (by decide) c_2)
    refine lv_aload_n zx zb dX11_takesItem_22 rfl (lv_at hl 0 rfl) ?_
    refine lv_iconst (v := 5) zx zb dX11_takesItem_23 (by decide) ?_
    refine lv_bipush (v := 115) zx zb dX11_takesItem_24 (by decide) ?_
    refine lv_bipush (v := 112) zx zb dX11_takesItem_26 (by decide) ?_
    refine lv_bipush (v := 101) zx zb dX11_takesItem_28 (by decide) ?_
    refine lv_bipush (v := 101) zx zb dX11_takesItem_30 (by decide) ?_
    refine lv_bipush (v := 100) zx zb dX11_takesItem_32 (by decide) ?_
    refine lv_iconst (v := 0) zx zb dX11_takesItem_34 (by decide) ?_
    refine o_ri (cells' := 0) (slots' := 0) G rfl rfl (n_V (As := [.int 5, .int 115, .int 112, .int 101, .int 101, .int 100, .int 0]) (rest := []) (C := RX11) (T := TX11) (N := 18) (ci := 9) S G (m_spells l X m0 ma la lb n t v fd 5 115 112 101 101 100 0 hI_n hI_t ⟨by omega, by first | assumption | omega⟩ (by omega) H.size) gX11_takesItem_X11_spells rfl rfl rfl hdV_X11_spells ⟨Nat.le_of_ble_eq_true rfl, Nat.le_of_ble_eq_true rfl⟩ [0, 1] rfl rfl 0 rfl rfl rfl hl.1 (Nat.le_of_ble_eq_true rfl) dX11_takesItem_35 ⟨Nat.le_of_ble_eq_true rfl, Nat.le_of_ble_eq_true rfl⟩) (fun r_3 u_3 H locs hp_3 G => ?_)
    have G : wd X (va_A (mW m0 ma la lb n t v ++ [((ma 10), .inl (X.2.1, 150, .inl fd))] ++ [((ma 17), .inl (X.2.1, 3, .inl fv))] ++ [((ma 16), .inl (X.2.1, 123, .inl fw))]) sz) (va_A (mW m0 ma la lb n t v ++ [((ma 10), .inl (X.2.1, 150, .inl fd))] ++ [((ma 17), .inl (X.2.1, 3, .inl fv))] ++ [((ma 16), .inl (X.2.1, 123, .inl fw))]) sz) s (mW m0 ma la lb n t v ++ [((ma 10), .inl (X.2.1, 150, .inl fd))] ++ [((ma 17), .inl (X.2.1, 3, .inl fv))] ++ [((ma 16), .inl (X.2.1, 123, .inl fw))]) H locs := G
    rcases hp_3 with rfl | rfl
    · refine lv_if_eq (tgt := 46) zx zb dX11_takesItem_38 (by decide) (fun c_4 => ?_) (fun c_4 => absurd (by decide) c_4)
      refine lv_aload_n zx zb dX11_takesItem_46 rfl (lv_at hl 0 rfl) ?_
      refine lv_iconst (v := 5) zx zb dX11_takesItem_47 (by decide) ?_
      refine lv_bipush (v := 115) zx zb dX11_takesItem_48 (by decide) ?_
      refine lv_bipush (v := 116) zx zb dX11_takesItem_50 (by decide) ?_
      refine lv_bipush (v := 97) zx zb dX11_takesItem_52 (by decide) ?_
      refine lv_bipush (v := 114) zx zb dX11_takesItem_54 (by decide) ?_
      refine lv_bipush (v := 116) zx zb dX11_takesItem_56 (by decide) ?_
      refine lv_iconst (v := 0) zx zb dX11_takesItem_58 (by decide) ?_
      refine o_ri (cells' := 0) (slots' := 0) G rfl rfl (n_V (As := [.int 5, .int 115, .int 116, .int 97, .int 114, .int 116, .int 0]) (rest := []) (C := RX11) (T := TX11) (N := 18) (ci := 9) S G (m_spells l X m0 ma la lb n t v fd 5 115 116 97 114 116 0 hI_n hI_t ⟨by omega, by first | assumption | omega⟩ (by omega) H.size) gX11_takesItem_X11_spells rfl rfl rfl hdV_X11_spells ⟨Nat.le_of_ble_eq_true rfl, Nat.le_of_ble_eq_true rfl⟩ [0, 1] rfl rfl 0 rfl rfl rfl hl.1 (Nat.le_of_ble_eq_true rfl) dX11_takesItem_59 ⟨Nat.le_of_ble_eq_true rfl, Nat.le_of_ble_eq_true rfl⟩) (fun r_5 u_5 H locs hp_5 G => ?_)
      have G : wd X (va_A (mW m0 ma la lb n t v ++ [((ma 10), .inl (X.2.1, 150, .inl fd))] ++ [((ma 17), .inl (X.2.1, 3, .inl fv))] ++ [((ma 16), .inl (X.2.1, 123, .inl fw))]) sz) (va_A (mW m0 ma la lb n t v ++ [((ma 10), .inl (X.2.1, 150, .inl fd))] ++ [((ma 17), .inl (X.2.1, 3, .inl fv))] ++ [((ma 16), .inl (X.2.1, 123, .inl fw))]) sz) s (mW m0 ma la lb n t v ++ [((ma 10), .inl (X.2.1, 150, .inl fd))] ++ [((ma 17), .inl (X.2.1, 3, .inl fv))] ++ [((ma 16), .inl (X.2.1, 123, .inl fw))]) H locs := G
      rcases hp_5 with rfl | rfl
      · refine lv_if_eq (tgt := 70) zx zb dX11_takesItem_62 (by decide) (fun c_6 => ?_) (fun c_6 => absurd (by decide) c_6)
        refine lv_aload_n zx zb dX11_takesItem_70 rfl (lv_at hl 0 rfl) ?_
        refine lv_iconst (v := 2) zx zb dX11_takesItem_71 (by decide) ?_
        refine lv_bipush (v := 103) zx zb dX11_takesItem_72 (by decide) ?_
        refine lv_bipush (v := 111) zx zb dX11_takesItem_74 (by decide) ?_
        refine lv_iconst (v := 0) zx zb dX11_takesItem_76 (by decide) ?_
        refine lv_iconst (v := 0) zx zb dX11_takesItem_77 (by decide) ?_
        refine lv_iconst (v := 0) zx zb dX11_takesItem_78 (by decide) ?_
        refine lv_iconst (v := 0) zx zb dX11_takesItem_79 (by decide) ?_
        refine o_ri (cells' := 0) (slots' := 0) G rfl rfl (n_V (As := [.int 2, .int 103, .int 111, .int 0, .int 0, .int 0, .int 0]) (rest := []) (C := RX11) (T := TX11) (N := 18) (ci := 9) S G (m_spells l X m0 ma la lb n t v fd 2 103 111 0 0 0 0 hI_n hI_t ⟨by omega, by first | assumption | omega⟩ (by omega) H.size) gX11_takesItem_X11_spells rfl rfl rfl hdV_X11_spells ⟨Nat.le_of_ble_eq_true rfl, Nat.le_of_ble_eq_true rfl⟩ [0, 1] rfl rfl 0 rfl rfl rfl hl.1 (Nat.le_of_ble_eq_true rfl) dX11_takesItem_80 ⟨Nat.le_of_ble_eq_true rfl, Nat.le_of_ble_eq_true rfl⟩) (fun r_7 u_7 H locs hp_7 G => ?_)
        have G : wd X (va_A (mW m0 ma la lb n t v ++ [((ma 10), .inl (X.2.1, 150, .inl fd))] ++ [((ma 17), .inl (X.2.1, 3, .inl fv))] ++ [((ma 16), .inl (X.2.1, 123, .inl fw))]) sz) (va_A (mW m0 ma la lb n t v ++ [((ma 10), .inl (X.2.1, 150, .inl fd))] ++ [((ma 17), .inl (X.2.1, 3, .inl fv))] ++ [((ma 16), .inl (X.2.1, 123, .inl fw))]) sz) s (mW m0 ma la lb n t v ++ [((ma 10), .inl (X.2.1, 150, .inl fd))] ++ [((ma 17), .inl (X.2.1, 3, .inl fv))] ++ [((ma 16), .inl (X.2.1, 123, .inl fw))]) H locs := G
        rcases hp_7 with rfl | rfl
        · refine lv_if_eq (tgt := 97) zx zb dX11_takesItem_83 (by decide) (fun c_8 => ?_) (fun c_8 => absurd (by decide) c_8)
          refine lv_iconst (v := 0) zx zb dX11_takesItem_97 (by decide) ?_
          exact e_int S zr zlk (by decide) G (t, v, fv, fw, bw) [0, 1, 2, 3] rfl rfl (Or.inr rfl) (⟨hI_t, hI_fw, ⟨⟨Nat.le_refl _, hT1, hT2⟩, Or.inl rfl⟩⟩) dX11_takesItem_98
        · refine lv_if_eq (tgt := 97) zx zb dX11_takesItem_83 (by decide) (fun c_9 => absurd c_9 (by decide)) (fun c_9 => ?_)
          refine lv_aload_n zx zb dX11_takesItem_86 rfl (lv_at hl 0 rfl) ?_
          refine b_wi (cells' := 0) (slots' := 0) (wr := []) G rfl rfl [0, 1, 2, 3] [] rfl rfl rfl rfl (n_V (As := []) (rest := []) (C := RX11) (T := TX11) (N := 18) (ci := 9) S G (m_takesGo l X m0 ma la lb n t v fd fv fw bw hI_n hI_t hI_fw ⟨by omega, by first | assumption | omega⟩ H.size) gX11_takesItem_X11_takesGo rfl rfl rfl hdV_X11_takesGo ⟨Nat.le_of_ble_eq_true rfl, Nat.le_of_ble_eq_true rfl⟩ [0, 1, 2, 3] rfl rfl 0 rfl rfl rfl hl.1 (Nat.le_of_ble_eq_true rfl) dX11_takesItem_87 ⟨Nat.le_of_ble_eq_true rfl, Nat.le_of_ble_eq_true rfl⟩) (fun r_10 u_10 H locs hp_10 G => ?_)
          obtain ⟨t_10a, v_10b, f_10c, f_10d⟩ := u_10
          obtain ⟨hI_t_10a, hI_f_10d, hq_10⟩ := hp_10
          have hO_t_10a := hI_t_10a
          obtain ⟨ht0_t_10a, ht1_t_10a⟩ := hO_t_10a
          have hO_f_10d := hI_f_10d.2
          obtain ⟨hm0_f_10d, hm1_f_10d, hm2_f_10d, hm3_f_10d, hm4_f_10d⟩ := hO_f_10d
          have G : wd X (va_A (mW m0 ma la lb n t v ++ [((ma 10), .inl (X.2.1, 150, .inl fd))] ++ [((ma 17), .inl (X.2.1, 3, .inl fv))] ++ [((ma 16), .inl (X.2.1, 123, .inl fw))]) sz) (va_A (mW m0 ma la lb n t v ++ [((ma 10), .inl (X.2.1, 150, .inl fd))] ++ [((ma 17), .inl (X.2.1, 3, .inl fv))] ++ [((ma 16), .inl (X.2.1, 123, .inl fw))]) sz) s (mW m0 ma la lb n t_10a v_10b ++ [((ma 10), .inl (X.2.1, 150, .inl fd))] ++ [((ma 17), .inl (X.2.1, 3, .inl f_10c))] ++ [((ma 16), .inl (X.2.1, 123, .inl f_10d))]) H locs := G
          obtain ⟨⟨hz0_10, hz1_10, hz2_10⟩, hr_10⟩ := hq_10
          rcases hr_10 with rfl | rfl
          · refine lv_if_eq (tgt := 97) zx zb dX11_takesItem_90 (by decide) (fun c_11 => ?_) (fun c_11 => absurd (by decide) c_11)
            refine lv_iconst (v := 0) zx zb dX11_takesItem_97 (by decide) ?_
            exact e_int S zr zlk (by decide) G (t_10a, v_10b, f_10c, f_10d, bw) [0, 1, 2, 3] rfl rfl (Or.inr rfl) (⟨hI_t_10a, hI_f_10d, ⟨⟨by first | omega | (dsimp only; omega), by first | omega | (dsimp only; omega), by assumption⟩, Or.inl rfl⟩⟩) dX11_takesItem_98
          · refine lv_if_eq (tgt := 97) zx zb dX11_takesItem_90 (by decide) (fun c_12 => absurd c_12 (by decide)) (fun c_12 => ?_)
            refine lv_iconst (v := 1) zx zb dX11_takesItem_93 (by decide) ?_
            refine lv_goto (tgt := 98) zx zb dX11_takesItem_94 (by decide) ?_
            exact e_int S zr zlk (by decide) G (t_10a, v_10b, f_10c, f_10d, bw) [0, 1, 2, 3] rfl rfl (Or.inr rfl) (⟨hI_t_10a, hI_f_10d, ⟨⟨by first | omega | (dsimp only; omega), by first | omega | (dsimp only; omega), by assumption⟩, Or.inr rfl⟩⟩) dX11_takesItem_98
      · refine lv_if_eq (tgt := 70) zx zb dX11_takesItem_62 (by decide) (fun c_13 => absurd c_13 (by decide)) (fun c_13 => ?_)
        refine lv_aload_n zx zb dX11_takesItem_65 rfl (lv_at hl 0 rfl) ?_
        refine b_wi (cells' := 0) (slots' := 0) (wr := []) G rfl rfl [0, 1, 2, 3] [] rfl rfl rfl rfl (n_V (As := []) (rest := []) (C := RX11) (T := TX11) (N := 18) (ci := 9) S G (m_takesStart l X m0 ma la lb n t v fd fv fw bw hI_n hI_t hI_fw ⟨by omega, by first | assumption | omega⟩ H.size) gX11_takesItem_X11_takesStart rfl rfl rfl hdV_X11_takesStart ⟨Nat.le_of_ble_eq_true rfl, Nat.le_of_ble_eq_true rfl⟩ [0, 1, 2, 3] rfl rfl 0 rfl rfl rfl hl.1 (Nat.le_of_ble_eq_true rfl) dX11_takesItem_66 ⟨Nat.le_of_ble_eq_true rfl, Nat.le_of_ble_eq_true rfl⟩) (fun r_14 u_14 H locs hp_14 G => ?_)
        obtain ⟨t_14a, v_14b, f_14c, f_14d⟩ := u_14
        obtain ⟨hI_t_14a, hI_f_14d, hq_14⟩ := hp_14
        have hO_t_14a := hI_t_14a
        obtain ⟨ht0_t_14a, ht1_t_14a⟩ := hO_t_14a
        have hO_f_14d := hI_f_14d.2
        obtain ⟨hm0_f_14d, hm1_f_14d, hm2_f_14d, hm3_f_14d, hm4_f_14d⟩ := hO_f_14d
        have G : wd X (va_A (mW m0 ma la lb n t v ++ [((ma 10), .inl (X.2.1, 150, .inl fd))] ++ [((ma 17), .inl (X.2.1, 3, .inl fv))] ++ [((ma 16), .inl (X.2.1, 123, .inl fw))]) sz) (va_A (mW m0 ma la lb n t v ++ [((ma 10), .inl (X.2.1, 150, .inl fd))] ++ [((ma 17), .inl (X.2.1, 3, .inl fv))] ++ [((ma 16), .inl (X.2.1, 123, .inl fw))]) sz) s (mW m0 ma la lb n t_14a v_14b ++ [((ma 10), .inl (X.2.1, 150, .inl fd))] ++ [((ma 17), .inl (X.2.1, 3, .inl f_14c))] ++ [((ma 16), .inl (X.2.1, 123, .inl f_14d))]) H locs := G
        obtain ⟨⟨hz0_14, hz1_14, hz2_14⟩, hr_14⟩ := hq_14
        rcases hr_14 with rfl | rfl
        · exact e_int S zr zlk (by decide) G (t_14a, v_14b, f_14c, f_14d, bw) [0, 1, 2, 3] rfl rfl (Or.inr rfl) (⟨hI_t_14a, hI_f_14d, ⟨⟨by first | omega | (dsimp only; omega), by first | omega | (dsimp only; omega), by assumption⟩, Or.inl rfl⟩⟩) dX11_takesItem_69
        · exact e_int S zr zlk (by decide) G (t_14a, v_14b, f_14c, f_14d, bw) [0, 1, 2, 3] rfl rfl (Or.inr rfl) (⟨hI_t_14a, hI_f_14d, ⟨⟨by first | omega | (dsimp only; omega), by first | omega | (dsimp only; omega), by assumption⟩, Or.inr rfl⟩⟩) dX11_takesItem_69
    · refine lv_if_eq (tgt := 46) zx zb dX11_takesItem_38 (by decide) (fun c_15 => absurd c_15 (by decide)) (fun c_15 => ?_)
      refine lv_aload_n zx zb dX11_takesItem_41 rfl (lv_at hl 0 rfl) ?_
      refine b_wi (cells' := 0) (slots' := 0) (wr := []) G rfl rfl [0, 1, 2, 3] [] rfl rfl rfl rfl (n_V (As := []) (rest := []) (C := RX11) (T := TX11) (N := 18) (ci := 9) S G (m_takesSpeed l X m0 ma la lb n t v fd fv fw bw hI_n hI_t hI_fw ⟨by omega, by first | assumption | omega⟩ H.size) gX11_takesItem_X11_takesSpeed rfl rfl rfl hdV_X11_takesSpeed ⟨Nat.le_of_ble_eq_true rfl, Nat.le_of_ble_eq_true rfl⟩ [0, 1, 2, 3] rfl rfl 0 rfl rfl rfl hl.1 (Nat.le_of_ble_eq_true rfl) dX11_takesItem_42 ⟨Nat.le_of_ble_eq_true rfl, Nat.le_of_ble_eq_true rfl⟩) (fun r_16 u_16 H locs hp_16 G => ?_)
      obtain ⟨t_16a, v_16b, f_16c, f_16d⟩ := u_16
      obtain ⟨hI_t_16a, hI_f_16d, hq_16⟩ := hp_16
      have hO_t_16a := hI_t_16a
      obtain ⟨ht0_t_16a, ht1_t_16a⟩ := hO_t_16a
      have hO_f_16d := hI_f_16d.2
      obtain ⟨hm0_f_16d, hm1_f_16d, hm2_f_16d, hm3_f_16d, hm4_f_16d⟩ := hO_f_16d
      have G : wd X (va_A (mW m0 ma la lb n t v ++ [((ma 10), .inl (X.2.1, 150, .inl fd))] ++ [((ma 17), .inl (X.2.1, 3, .inl fv))] ++ [((ma 16), .inl (X.2.1, 123, .inl fw))]) sz) (va_A (mW m0 ma la lb n t v ++ [((ma 10), .inl (X.2.1, 150, .inl fd))] ++ [((ma 17), .inl (X.2.1, 3, .inl fv))] ++ [((ma 16), .inl (X.2.1, 123, .inl fw))]) sz) s (mW m0 ma la lb n t_16a v_16b ++ [((ma 10), .inl (X.2.1, 150, .inl fd))] ++ [((ma 17), .inl (X.2.1, 3, .inl f_16c))] ++ [((ma 16), .inl (X.2.1, 123, .inl f_16d))]) H locs := G
      obtain ⟨⟨hz0_16, hz1_16, hz2_16⟩, hr_16⟩ := hq_16
      rcases hr_16 with rfl | rfl
      · exact e_int S zr zlk (by decide) G (t_16a, v_16b, f_16c, f_16d, bw) [0, 1, 2, 3] rfl rfl (Or.inr rfl) (⟨hI_t_16a, hI_f_16d, ⟨⟨by first | omega | (dsimp only; omega), by first | omega | (dsimp only; omega), by assumption⟩, Or.inl rfl⟩⟩) dX11_takesItem_45
      · exact e_int S zr zlk (by decide) G (t_16a, v_16b, f_16c, f_16d, bw) [0, 1, 2, 3] rfl rfl (Or.inr rfl) (⟨hI_t_16a, hI_f_16d, ⟨⟨by first | omega | (dsimp only; omega), by first | omega | (dsimp only; omega), by assumption⟩, Or.inr rfl⟩⟩) dX11_takesItem_45
  · refine lv_if_eq (tgt := 22) zx zb dX11_takesItem_14 (by decide) (fun c_17 => absurd c_17 (by decide)) (fun c_17 => ?_)
    refine lv_aload_n zx zb dX11_takesItem_17 rfl (lv_at hl 0 rfl) ?_
    refine b_wi (cells' := 0) (slots' := 0) (wr := []) G rfl rfl [0, 1, 2, 3] [] rfl rfl rfl rfl (n_V (As := []) (rest := []) (C := RX11) (T := TX11) (N := 18) (ci := 9) S G (m_takesOne l X m0 ma la lb n t v fd fv fw bw hI_n hI_t hI_fw ⟨by omega, by first | assumption | omega⟩ H.size) gX11_takesItem_X11_takesOne rfl rfl rfl hdV_X11_takesOne ⟨Nat.le_of_ble_eq_true rfl, Nat.le_of_ble_eq_true rfl⟩ [0, 1, 2, 3] rfl rfl 0 rfl rfl rfl hl.1 (Nat.le_of_ble_eq_true rfl) dX11_takesItem_18 ⟨Nat.le_of_ble_eq_true rfl, Nat.le_of_ble_eq_true rfl⟩) (fun r_18 u_18 H locs hp_18 G => ?_)
    obtain ⟨t_18a, v_18b, f_18c, f_18d, b_18e⟩ := u_18
    obtain ⟨hI_t_18a, hI_f_18d, hq_18⟩ := hp_18
    have hO_t_18a := hI_t_18a
    obtain ⟨ht0_t_18a, ht1_t_18a⟩ := hO_t_18a
    have hO_f_18d := hI_f_18d.2
    obtain ⟨hm0_f_18d, hm1_f_18d, hm2_f_18d, hm3_f_18d, hm4_f_18d⟩ := hO_f_18d
    have G : wd X (va_A (mW m0 ma la lb n t v ++ [((ma 10), .inl (X.2.1, 150, .inl fd))] ++ [((ma 17), .inl (X.2.1, 3, .inl fv))] ++ [((ma 16), .inl (X.2.1, 123, .inl fw))]) sz) (va_A (mW m0 ma la lb n t v ++ [((ma 10), .inl (X.2.1, 150, .inl fd))] ++ [((ma 17), .inl (X.2.1, 3, .inl fv))] ++ [((ma 16), .inl (X.2.1, 123, .inl fw))]) sz) s (mW m0 ma la lb n t_18a v_18b ++ [((ma 10), .inl (X.2.1, 150, .inl fd))] ++ [((ma 17), .inl (X.2.1, 3, .inl f_18c))] ++ [((ma 16), .inl (X.2.1, 123, .inl f_18d))]) H locs := G
    obtain ⟨⟨hz0_18, hz1_18, hz2_18⟩, hr_18⟩ := hq_18
    rcases hr_18 with rfl | rfl
    · exact e_int S zr zlk (by decide) G (t_18a, v_18b, f_18c, f_18d, b_18e) [0, 1, 2, 3] rfl rfl (Or.inr rfl) (⟨hI_t_18a, hI_f_18d, ⟨⟨by first | omega | (dsimp only; omega), by first | omega | (dsimp only; omega), by assumption⟩, Or.inl rfl⟩⟩) dX11_takesItem_21
    · exact e_int S zr zlk (by decide) G (t_18a, v_18b, f_18c, f_18d, b_18e) [0, 1, 2, 3] rfl rfl (Or.inr rfl) (⟨hI_t_18a, hI_f_18d, ⟨⟨by first | omega | (dsimp only; omega), by first | omega | (dsimp only; omega), by assumption⟩, Or.inr rfl⟩⟩) dX11_takesItem_21
theorem in_X11_read_X11 : ∀ w ∈ wsX110, w ∈ wsX11_read := by decide +kernel
theorem lk_X11_read_217 : Cond.fieldLink RX11 217 "EggSpoonsModel" "tokenAt" "I" ∈ wsX11_read := by decide +kernel
theorem lk_X11_read_223 : Cond.fieldLink RX11 223 "EggSpoonsModel" "token" "I" ∈ wsX11_read := by decide +kernel
theorem lk_X11_read_42 : Cond.fieldLink RX11 42 "EggSpoonsModel" "anew" "[I" ∈ wsX11_read := by decide +kernel
theorem lk_X11_read_45 : Cond.fieldLink RX11 45 "EggSpoonsModel" "values" "[I" ∈ wsX11_read := by decide +kernel
theorem lk_X11_read_7 : Cond.fieldLink RX11 7 "EggSpoonsModel" "all" "[I" ∈ wsX11_read := by decide +kernel
theorem hdV_X11_takesItem : yX11_takesItem.cls = RX11 ∧ yX11_takesItem.cls ≠ "java/lang/invoke/MethodHandle" ∧ yX11_takesItem.cls ≠ "java/lang/invoke/VarHandle" ∧ (parseMethodDescriptor yX11_takesItem.desc).map (fun d => d.parameters.length) = some 0 := by decide +kernel
set_option maxHeartbeats 4000000 in
set_option maxRecDepth 100000 in
/-- read -/
theorem m_read (l : Launch) (X : EX) (m0 : Nat) (ma : Nat → Nat) (la : Int64) (lb : Int64) (n : Nat) (t : Nat → Nat) (v : Nat → Int32) (fa : Nat → Int32) (ba : Nat → Nat) (fd : Nat → Int32) (fv : Nat → Int32) (fw : Nat → Int32) (bw : Nat → Nat) (hI_n : n ≤ 150) (hI_t : InT t) (hI_fa : InM fa ba) (hI_fw : InM fw bw) (sz : Nat) : Met l yX11_read wsX11_read ({ frames := 7, cells := 0, slots := 0, locals := 155 } : Room) (pE X [.ref m0] (mW m0 ma la lb n t v ++ [((ma 0), .inl (X.2.1, 371, .inl fa))] ++ [((ma 10), .inl (X.2.1, 150, .inl fd))] ++ [((ma 17), .inl (X.2.1, 3, .inl fv))] ++ [((ma 16), .inl (X.2.1, 123, .inl fw))]) sz) (qI (fun (r : Int32) (u : (Nat → Nat) × (Nat → Int32) × (Nat → Int32) × (Nat → Nat) × (Nat → Int32) × (Nat → Int32) × (Nat → Nat)) => InT u.1 ∧ InM u.2.2.1 u.2.2.2.1 ∧ InM u.2.2.2.2.2.1 u.2.2.2.2.2.2 ∧ (True)) X (fun (u : (Nat → Nat) × (Nat → Int32) × (Nat → Int32) × (Nat → Nat) × (Nat → Int32) × (Nat → Int32) × (Nat → Nat)) => mW m0 ma la lb n u.1 u.2.1 ++ [((ma 0), .inl (X.2.1, 371, .inl u.2.2.1))] ++ [((ma 10), .inl (X.2.1, 150, .inl fd))] ++ [((ma 17), .inl (X.2.1, 3, .inl u.2.2.2.2.1))] ++ [((ma 16), .inl (X.2.1, 123, .inl u.2.2.2.2.2.1))]) (mW m0 ma la lb n t v ++ [((ma 0), .inl (X.2.1, 371, .inl fa))] ++ [((ma 10), .inl (X.2.1, 150, .inl fd))] ++ [((ma 17), .inl (X.2.1, 3, .inl fv))] ++ [((ma 16), .inl (X.2.1, 123, .inl fw))]) sz) 0 0 (va_A (mW m0 ma la lb n t v ++ [((ma 0), .inl (X.2.1, 371, .inl fa))] ++ [((ma 10), .inl (X.2.1, 150, .inl fd))] ++ [((ma 17), .inl (X.2.1, 3, .inl fv))] ++ [((ma 16), .inl (X.2.1, 123, .inl fw))]) sz) := by
  refine mk_met (B := (va_A (mW m0 ma la lb n t v ++ [((ma 0), .inl (X.2.1, 371, .inl fa))] ++ [((ma 10), .inl (X.2.1, 150, .inl fd))] ++ [((ma 17), .inl (X.2.1, 3, .inl fv))] ++ [((ma 16), .inl (X.2.1, 123, .inl fw))]) sz)) (A := (va_A (mW m0 ma la lb n t v ++ [((ma 0), .inl (X.2.1, 371, .inl fa))] ++ [((ma 10), .inl (X.2.1, 150, .inl fd))] ++ [((ma 17), .inl (X.2.1, 3, .inl fv))] ++ [((ma 16), .inl (X.2.1, 123, .inl fw))]) sz)) (cc := cX11_read) (maxL := 3) (ret := (some .int)) (by decide) rfl (Nat.le_of_ble_eq_true rfl) k_w k_a (fun p e s m below meth c S zr zlk znm zsz G ls hl => ?_)
  have S : CallFix p m c cX11_read 3 s _ wsX11_read RX11 := S
  have zx := S.1
  have zb := S.2.1
  have hl : lv_has ls 3 [(0, .ref m0)] := hl
  have hO_t := hI_t
  obtain ⟨ht0_t, ht1_t⟩ := hO_t
  have hO_fa := hI_fa.2
  obtain ⟨hm0_fa, hm1_fa, hm2_fa, hm3_fa, hm4_fa⟩ := hO_fa
  have hO_fw := hI_fw.2
  obtain ⟨hm0_fw, hm1_fw, hm2_fw, hm3_fw, hm4_fw⟩ := hO_fw
  refine lv_aload_n zx zb dX11_read_0 rfl (lv_at hl 0 rfl) ?_
  refine lv_iconst (v := 0) zx zb dX11_read_1 (by decide) ?_
  refine b_wv (cells' := 0) (slots' := 0) (wr := [((ma 0), .inl (X.2.1, 371, .inl fa))] ++ [((ma 17), .inl (X.2.1, 3, .inl fv))] ++ [((ma 16), .inl (X.2.1, 123, .inl fw))]) G rfl rfl [0, 2] [1, 3, 4] rfl rfl rfl rfl (n_V (As := [.int 0]) (rest := []) (C := RX11) (T := TX11) (N := 18) (ci := 9) S G (m_lookAt l X m0 ma la lb n t v fd 0 hI_n hI_t (by omega) s.heap.size) gX11_read_X11_lookAt rfl rfl rfl hdV_X11_lookAt ⟨Nat.le_of_ble_eq_true rfl, Nat.le_of_ble_eq_true rfl⟩ [0, 2] rfl rfl 0 rfl rfl rfl hl.1 (Nat.le_of_ble_eq_true rfl) dX11_read_2 ⟨Nat.le_of_ble_eq_true rfl, Nat.le_of_ble_eq_true rfl⟩) (fun u_1 H locs hp_1 G => ?_)
  obtain ⟨t_1a, v_1b⟩ := u_1
  obtain ⟨hI_t_1a, hq_1⟩ := hp_1
  have hO_t_1a := hI_t_1a
  obtain ⟨ht0_t_1a, ht1_t_1a⟩ := hO_t_1a
  have G : wd X (va_A (mW m0 ma la lb n t v ++ [((ma 0), .inl (X.2.1, 371, .inl fa))] ++ [((ma 10), .inl (X.2.1, 150, .inl fd))] ++ [((ma 17), .inl (X.2.1, 3, .inl fv))] ++ [((ma 16), .inl (X.2.1, 123, .inl fw))]) sz) (va_A (mW m0 ma la lb n t v ++ [((ma 0), .inl (X.2.1, 371, .inl fa))] ++ [((ma 10), .inl (X.2.1, 150, .inl fd))] ++ [((ma 17), .inl (X.2.1, 3, .inl fv))] ++ [((ma 16), .inl (X.2.1, 123, .inl fw))]) sz) s ([((ma 0), .inl (X.2.1, 371, .inl fa))] ++ [((ma 17), .inl (X.2.1, 3, .inl fv))] ++ [((ma 16), .inl (X.2.1, 123, .inl fw))] ++ mW m0 ma la lb n t_1a v_1b ++ [((ma 10), .inl (X.2.1, 150, .inl fd))]) H locs := G
  obtain ⟨hz0_1, hz1_1, hz2_1⟩ := hq_1
  refine lv_aload_n zx zb dX11_read_5 rfl (lv_at hl 0 rfl) ?_
  refine lv_iconst (v := 4) zx zb dX11_read_6 (by decide) ?_
  refine lv_bipush (v := 114) zx zb dX11_read_7 (by decide) ?_
  refine lv_bipush (v := 97) zx zb dX11_read_9 (by decide) ?_
  refine lv_bipush (v := 99) zx zb dX11_read_11 (by decide) ?_
  refine lv_bipush (v := 101) zx zb dX11_read_13 (by decide) ?_
  refine lv_iconst (v := 0) zx zb dX11_read_15 (by decide) ?_
  refine lv_iconst (v := 0) zx zb dX11_read_16 (by decide) ?_
  refine o_ri (cells' := 0) (slots' := 0) G rfl rfl (n_V (As := [.int 4, .int 114, .int 97, .int 99, .int 101, .int 0, .int 0]) (rest := []) (C := RX11) (T := TX11) (N := 18) (ci := 9) S G (m_spells l X m0 ma la lb n t_1a v_1b fd 4 114 97 99 101 0 0 hI_n hI_t_1a ⟨by omega, by first | assumption | omega⟩ (by omega) H.size) gX11_read_X11_spells rfl rfl rfl hdV_X11_spells ⟨Nat.le_of_ble_eq_true rfl, Nat.le_of_ble_eq_true rfl⟩ [3, 4] rfl rfl 3 rfl rfl rfl hl.1 (Nat.le_of_ble_eq_true rfl) dX11_read_17 ⟨Nat.le_of_ble_eq_true rfl, Nat.le_of_ble_eq_true rfl⟩) (fun r_2 u_2 H locs hp_2 G => ?_)
  have G : wd X (va_A (mW m0 ma la lb n t v ++ [((ma 0), .inl (X.2.1, 371, .inl fa))] ++ [((ma 10), .inl (X.2.1, 150, .inl fd))] ++ [((ma 17), .inl (X.2.1, 3, .inl fv))] ++ [((ma 16), .inl (X.2.1, 123, .inl fw))]) sz) (va_A (mW m0 ma la lb n t v ++ [((ma 0), .inl (X.2.1, 371, .inl fa))] ++ [((ma 10), .inl (X.2.1, 150, .inl fd))] ++ [((ma 17), .inl (X.2.1, 3, .inl fv))] ++ [((ma 16), .inl (X.2.1, 123, .inl fw))]) sz) s ([((ma 0), .inl (X.2.1, 371, .inl fa))] ++ [((ma 17), .inl (X.2.1, 3, .inl fv))] ++ [((ma 16), .inl (X.2.1, 123, .inl fw))] ++ mW m0 ma la lb n t_1a v_1b ++ [((ma 10), .inl (X.2.1, 150, .inl fd))]) H locs := G
  rcases hp_2 with rfl | rfl
  · refine lv_if_ne (tgt := 31) zx zb dX11_read_20 (by decide) (fun c_3 => absurd (by decide) c_3) (fun c_3 => ?_)
    refine lv_bipush (v := (-10)) zx zb dX11_read_23 (by decide) ?_
    refine lv_aload_n zx zb dX11_read_25 rfl (lv_at hl 0 rfl) ?_
    refine r_get (C := RX11) (T := TX11) (N := 18) (ci := 9) (v := .int (nI (t_1a 0))) S in_X11_read_X11 G 3 rfl rfl 12 (by decide) lk_X11_read_217 rfl dX11_read_26 ?_
    refine r_isub (v := ((-10) - (nI (t_1a 0)))) S rfl dX11_read_29 ?_
    exact e_int S zr zlk (vp_nar_int _) G (t_1a, v_1b, fa, ba, fv, fw, bw) [3, 0, 4, 1, 2] rfl rfl (Or.inr rfl) (⟨hI_t_1a, hI_fa, hI_fw, trivial⟩) dX11_read_30
  · refine lv_if_ne (tgt := 31) zx zb dX11_read_20 (by decide) (fun c_4 => ?_) (fun c_4 => absurd c_4 (by decide))
    refine lv_aload_n zx zb dX11_read_31 rfl (lv_at hl 0 rfl) ?_
    refine b_wv (cells' := 0) (slots' := 0) (wr := [((ma 0), .inl (X.2.1, 371, .inl fa))] ++ [((ma 17), .inl (X.2.1, 3, .inl fv))] ++ [((ma 16), .inl (X.2.1, 123, .inl fw))]) G rfl rfl [3, 4] [0, 1, 2] rfl rfl rfl rfl (n_V (As := []) (rest := []) (C := RX11) (T := TX11) (N := 18) (ci := 9) S G (m_goBehind l X m0 ma la lb n t_1a v_1b fd hI_n hI_t_1a ⟨by omega, by first | assumption | omega⟩ H.size) gX11_read_X11_goBehind rfl rfl rfl hdV_X11_goBehind ⟨Nat.le_of_ble_eq_true rfl, Nat.le_of_ble_eq_true rfl⟩ [3, 4] rfl rfl 3 rfl rfl rfl hl.1 (Nat.le_of_ble_eq_true rfl) dX11_read_32 ⟨Nat.le_of_ble_eq_true rfl, Nat.le_of_ble_eq_true rfl⟩) (fun u_5 H locs hp_5 G => ?_)
    obtain ⟨t_5a, v_5b⟩ := u_5
    obtain ⟨hI_t_5a, hq_5⟩ := hp_5
    have hO_t_5a := hI_t_5a
    obtain ⟨ht0_t_5a, ht1_t_5a⟩ := hO_t_5a
    have G : wd X (va_A (mW m0 ma la lb n t v ++ [((ma 0), .inl (X.2.1, 371, .inl fa))] ++ [((ma 10), .inl (X.2.1, 150, .inl fd))] ++ [((ma 17), .inl (X.2.1, 3, .inl fv))] ++ [((ma 16), .inl (X.2.1, 123, .inl fw))]) sz) (va_A (mW m0 ma la lb n t v ++ [((ma 0), .inl (X.2.1, 371, .inl fa))] ++ [((ma 10), .inl (X.2.1, 150, .inl fd))] ++ [((ma 17), .inl (X.2.1, 3, .inl fv))] ++ [((ma 16), .inl (X.2.1, 123, .inl fw))]) sz) s ([((ma 0), .inl (X.2.1, 371, .inl fa))] ++ [((ma 17), .inl (X.2.1, 3, .inl fv))] ++ [((ma 16), .inl (X.2.1, 123, .inl fw))] ++ mW m0 ma la lb n t_5a v_5b ++ [((ma 10), .inl (X.2.1, 150, .inl fd))]) H locs := G
    obtain ⟨hz0_5, hz1_5, hz2_5⟩ := hq_5
    refine lv_aload_n zx zb dX11_read_35 rfl (lv_at hl 0 rfl) ?_
    refine lv_iconst (v := 0) zx zb dX11_read_36 (by decide) ?_
    refine lv_bipush (v := 10) zx zb dX11_read_37 (by decide) ?_
    refine lv_bipush (v := 60) zx zb dX11_read_39 (by decide) ?_
    refine b_wi (cells' := 0) (slots' := 0) (wr := [((ma 0), .inl (X.2.1, 371, .inl fa))] ++ [((ma 16), .inl (X.2.1, 123, .inl fw))]) G rfl rfl [3, 4, 1] [0, 2] rfl rfl rfl rfl (n_V (As := [.int 0, .int 10, .int 60]) (rest := []) (C := RX11) (T := TX11) (N := 18) (ci := 9) S G (m_takes0 l X m0 ma la lb n t_5a v_5b fd fv 10 60 hI_n hI_t_5a ⟨by omega, by first | assumption | omega⟩ H.size) gX11_read_X11_takes rfl rfl rfl hdV_X11_takes ⟨Nat.le_of_ble_eq_true rfl, Nat.le_of_ble_eq_true rfl⟩ [3, 4, 1] rfl rfl 3 rfl rfl rfl hl.1 (Nat.le_of_ble_eq_true rfl) dX11_read_41 ⟨Nat.le_of_ble_eq_true rfl, Nat.le_of_ble_eq_true rfl⟩) (fun r_6 u_6 H locs hp_6 G => ?_)
    obtain ⟨t_6a, v_6b, f_6c⟩ := u_6
    obtain ⟨hI_t_6a, hq_6⟩ := hp_6
    have hO_t_6a := hI_t_6a
    obtain ⟨ht0_t_6a, ht1_t_6a⟩ := hO_t_6a
    have G : wd X (va_A (mW m0 ma la lb n t v ++ [((ma 0), .inl (X.2.1, 371, .inl fa))] ++ [((ma 10), .inl (X.2.1, 150, .inl fd))] ++ [((ma 17), .inl (X.2.1, 3, .inl fv))] ++ [((ma 16), .inl (X.2.1, 123, .inl fw))]) sz) (va_A (mW m0 ma la lb n t v ++ [((ma 0), .inl (X.2.1, 371, .inl fa))] ++ [((ma 10), .inl (X.2.1, 150, .inl fd))] ++ [((ma 17), .inl (X.2.1, 3, .inl fv))] ++ [((ma 16), .inl (X.2.1, 123, .inl fw))]) sz) s ([((ma 0), .inl (X.2.1, 371, .inl fa))] ++ [((ma 16), .inl (X.2.1, 123, .inl fw))] ++ mW m0 ma la lb n t_6a v_6b ++ [((ma 10), .inl (X.2.1, 150, .inl fd))] ++ [((ma 17), .inl (X.2.1, 3, .inl f_6c))]) H locs := G
    obtain ⟨⟨hz0_6, hz1_6, hz2_6⟩, hr_6⟩ := hq_6
    rcases hr_6 with rfl | ⟨rfl, hv_6, ha_6, hb_6⟩
    · refine lv_if_eq (tgt := 55) zx zb dX11_read_44 (by decide) (fun c_7 => ?_) (fun c_7 => absurd (by decide) c_7)
      refine lv_bipush (v := (-10)) zx zb dX11_read_55 (by decide) ?_
      refine lv_aload_n zx zb dX11_read_57 rfl (lv_at hl 0 rfl) ?_
      refine r_get (C := RX11) (T := TX11) (N := 18) (ci := 9) (v := .int (nI (t_6a 0))) S in_X11_read_X11 G 2 rfl rfl 12 (by decide) lk_X11_read_217 rfl dX11_read_58 ?_
      refine r_isub (v := ((-10) - (nI (t_6a 0)))) S rfl dX11_read_61 ?_
      exact e_int S zr zlk (vp_nar_int _) G (t_6a, v_6b, fa, ba, f_6c, fw, bw) [2, 0, 3, 4, 1] rfl rfl (Or.inr rfl) (⟨hI_t_6a, hI_fa, hI_fw, trivial⟩) dX11_read_62
    · refine lv_if_eq (tgt := 55) zx zb dX11_read_44 (by decide) (fun c_8 => absurd c_8 (by decide)) (fun c_8 => ?_)
      refine lv_aload_n zx zb dX11_read_47 rfl (lv_at hl 0 rfl) ?_
      refine r_get (C := RX11) (T := TX11) (N := 18) (ci := 9) (v := .int (v_6b 0)) S in_X11_read_X11 G 2 rfl rfl 14 (by decide) lk_X11_read_223 rfl dX11_read_48 ?_
      refine lv_iconst (v := 3) zx zb dX11_read_51 (by decide) ?_
      refine lv_icmp_eq (tgt := 63) zx zb dX11_read_52 (by decide) (fun c_9 => ?_) (fun c_9 => ?_)
      · refine lv_aload_n zx zb dX11_read_63 rfl (lv_at hl 0 rfl) ?_
        refine b_wv (cells' := 0) (slots' := 0) (wr := [((ma 0), .inl (X.2.1, 371, .inl fa))] ++ [((ma 16), .inl (X.2.1, 123, .inl fw))] ++ [((ma 17), .inl (X.2.1, 3, .inl f_6c))]) G rfl rfl [2, 3] [0, 1, 4] rfl rfl rfl rfl (n_V (As := []) (rest := []) (C := RX11) (T := TX11) (N := 18) (ci := 9) S G (m_goBehind l X m0 ma la lb n t_6a v_6b fd hI_n hI_t_6a ⟨by omega, by first | assumption | omega⟩ H.size) gX11_read_X11_goBehind rfl rfl rfl hdV_X11_goBehind ⟨Nat.le_of_ble_eq_true rfl, Nat.le_of_ble_eq_true rfl⟩ [2, 3] rfl rfl 2 rfl rfl rfl hl.1 (Nat.le_of_ble_eq_true rfl) dX11_read_64 ⟨Nat.le_of_ble_eq_true rfl, Nat.le_of_ble_eq_true rfl⟩) (fun u_10 H locs hp_10 G => ?_)
        obtain ⟨t_10a, v_10b⟩ := u_10
        obtain ⟨hI_t_10a, hq_10⟩ := hp_10
        have hO_t_10a := hI_t_10a
        obtain ⟨ht0_t_10a, ht1_t_10a⟩ := hO_t_10a
        have G : wd X (va_A (mW m0 ma la lb n t v ++ [((ma 0), .inl (X.2.1, 371, .inl fa))] ++ [((ma 10), .inl (X.2.1, 150, .inl fd))] ++ [((ma 17), .inl (X.2.1, 3, .inl fv))] ++ [((ma 16), .inl (X.2.1, 123, .inl fw))]) sz) (va_A (mW m0 ma la lb n t v ++ [((ma 0), .inl (X.2.1, 371, .inl fa))] ++ [((ma 10), .inl (X.2.1, 150, .inl fd))] ++ [((ma 17), .inl (X.2.1, 3, .inl fv))] ++ [((ma 16), .inl (X.2.1, 123, .inl fw))]) sz) s ([((ma 0), .inl (X.2.1, 371, .inl fa))] ++ [((ma 16), .inl (X.2.1, 123, .inl fw))] ++ [((ma 17), .inl (X.2.1, 3, .inl f_6c))] ++ mW m0 ma la lb n t_10a v_10b ++ [((ma 10), .inl (X.2.1, 150, .inl fd))]) H locs := G
        obtain ⟨hz0_10, hz1_10, hz2_10⟩ := hq_10
        refine lv_aload_n zx zb dX11_read_67 rfl (lv_at hl 0 rfl) ?_
        refine r_get (C := RX11) (T := TX11) (N := 18) (ci := 9) (v := .ref (ma 16)) S in_X11_read_X11 G 3 rfl rfl 16 (by decide) lk_X11_read_42 rfl dX11_read_68 ?_
        refine lv_aload_n zx zb dX11_read_71 rfl (lv_at hl 0 rfl) ?_
        refine r_get (C := RX11) (T := TX11) (N := 18) (ci := 9) (v := .ref (ma 17)) S in_X11_read_X11 G 3 rfl rfl 17 (by decide) lk_X11_read_45 rfl dX11_read_72 ?_
        refine lv_iconst (v := 0) zx zb dX11_read_75 (by decide) ?_
        refine r_iald (v := (f_6c 0)) S G 2 rfl (k_vp (by decide)) rfl dX11_read_76 ?_
        refine b_wv (cells' := 0) (slots' := 0) (wr := [((ma 0), .inl (X.2.1, 371, .inl fa))] ++ [((ma 17), .inl (X.2.1, 3, .inl f_6c))] ++ mW m0 ma la lb n t_10a v_10b ++ [((ma 10), .inl (X.2.1, 150, .inl fd))]) G rfl rfl [1] [0, 2, 3, 4] rfl rfl rfl rfl (n_S (As := [.ref (ma 16), .int (f_6c 0)]) (rest := []) S G (m_begin l X (ma 16) 123 fw bw (f_6c 0) hI_fw (by omega) (by omega) H.size) gX11_read_X11_begin rfl rfl rfl hdS_X11_begin ⟨Nat.le_of_ble_eq_true rfl, Nat.le_of_ble_eq_true rfl⟩ [1] rfl rfl rfl hl.1 (Nat.le_of_ble_eq_true rfl) dX11_read_77 ⟨Nat.le_of_ble_eq_true rfl, Nat.le_of_ble_eq_true rfl⟩) (fun u_12 H locs hp_12 G => ?_)
        obtain ⟨f_12a, b_12b⟩ := u_12
        obtain ⟨hI_f_12a, hq_12⟩ := hp_12
        have hO_f_12a := hI_f_12a.2
        obtain ⟨hm0_f_12a, hm1_f_12a, hm2_f_12a, hm3_f_12a, hm4_f_12a⟩ := hO_f_12a
        have G : wd X (va_A (mW m0 ma la lb n t v ++ [((ma 0), .inl (X.2.1, 371, .inl fa))] ++ [((ma 10), .inl (X.2.1, 150, .inl fd))] ++ [((ma 17), .inl (X.2.1, 3, .inl fv))] ++ [((ma 16), .inl (X.2.1, 123, .inl fw))]) sz) (va_A (mW m0 ma la lb n t v ++ [((ma 0), .inl (X.2.1, 371, .inl fa))] ++ [((ma 10), .inl (X.2.1, 150, .inl fd))] ++ [((ma 17), .inl (X.2.1, 3, .inl fv))] ++ [((ma 16), .inl (X.2.1, 123, .inl fw))]) sz) s ([((ma 0), .inl (X.2.1, 371, .inl fa))] ++ [((ma 17), .inl (X.2.1, 3, .inl f_6c))] ++ mW m0 ma la lb n t_10a v_10b ++ [((ma 10), .inl (X.2.1, 150, .inl fd))] ++ [((ma 16), .inl (X.2.1, 123, .inl f_12a))]) H locs := G
        refine lv_iconst (v := 1) zx zb dX11_read_80 (by decide) ?_
        refine lv_istore_n (lv' := [(1, .int 1), (0, .ref m0)]) zx zb dX11_read_81 rfl hl (by decide) rfl (fun ls hl => ?_)
        refine k_loop (P := ∀ (zm : Nat) (x82_1 : Int32) (f82_1 : Nat → Int32) (t82_2 : Nat → Nat) (v82_2 : Nat → Int32) (f82_4 : Nat → Int32) (b82_4 : Nat → Nat) (H : Heap) (locs : List Loc) (ls : Array Slot), ((150 - t82_2 0) < zm) → ((t82_2 0 + t82_2 1 ≤ n ∧ (v82_2 0 = 0 ∨ 1 ≤ t82_2 1))) → InT t82_2 → InM f82_4 b82_4 → wd X (va_A (mW m0 ma la lb n t v ++ [((ma 0), .inl (X.2.1, 371, .inl fa))] ++ [((ma 10), .inl (X.2.1, 150, .inl fd))] ++ [((ma 17), .inl (X.2.1, 3, .inl fv))] ++ [((ma 16), .inl (X.2.1, 123, .inl fw))]) sz) (va_A (mW m0 ma la lb n t v ++ [((ma 0), .inl (X.2.1, 371, .inl fa))] ++ [((ma 10), .inl (X.2.1, 150, .inl fd))] ++ [((ma 17), .inl (X.2.1, 3, .inl fv))] ++ [((ma 16), .inl (X.2.1, 123, .inl fw))]) sz) s ([((ma 0), .inl (X.2.1, 371, .inl fa))] ++ [((ma 17), .inl (X.2.1, 3, .inl f82_1))] ++ mW m0 ma la lb n t82_2 v82_2 ++ [((ma 10), .inl (X.2.1, 150, .inl fd))] ++ [((ma 16), .inl (X.2.1, 123, .inl f82_4))]) H locs → lv_has ls 3 [(1, .int x82_1), (0, .ref m0)] → W p l e _ s m _ below meth c H locs _ _ _ (F0 m 82 ls [])) (fun loop => loop ((150 - t_10a 0) + 1) 1 f_6c t_10a v_10b f_12a b_12b _ _ _ (by omega) ⟨by omega, by assumption⟩ hI_t_10a hI_f_12a G hl) ?_
        intro zm
        induction zm with
        | zero => intro x82_1 f82_1 t82_2 v82_2 f82_4 b82_4 H locs ls zz q_x0 q_hI_t82_2 q_hI_f82_4 _ _; exact absurd zz (by omega)
        | succ zm ih82 =>
          intro x82_1 f82_1 t82_2 v82_2 f82_4 b82_4 H locs ls zm_82 hx82_0 hI_t82_2 hI_f82_4 G hl
          have hO_t82_2 := hI_t82_2
          obtain ⟨ht0_t82_2, ht1_t82_2⟩ := hO_t82_2
          have hO_f82_4 := hI_f82_4.2
          obtain ⟨hm0_f82_4, hm1_f82_4, hm2_f82_4, hm3_f82_4, hm4_f82_4⟩ := hO_f82_4
          have hxx := hx82_0
          obtain ⟨hx1, hx2⟩ := hxx
          refine lv_aload_n zx zb dX11_read_82 rfl (lv_at hl 1 rfl) ?_
          refine r_get (C := RX11) (T := TX11) (N := 18) (ci := 9) (v := .int (v82_2 0)) S in_X11_read_X11 G 2 rfl rfl 14 (by decide) lk_X11_read_223 rfl dX11_read_83 ?_
          refine lv_if_eq (tgt := 122) zx zb dX11_read_86 (by decide) (fun c_13 => ?_) (fun c_13 => ?_)
          · refine lv_iconst (v := 0) zx zb dX11_read_122 (by decide) ?_
            refine lv_istore_n (lv' := [(2, .int 0), (1, .int x82_1), (0, .ref m0)]) zx zb dX11_read_123 rfl hl (by decide) rfl (fun ls hl => ?_)
            refine k_loop (P := ∀ (zm : Nat) (k124 : Nat) (f124_0 : Nat → Int32) (b124_0 : Nat → Nat) (H : Heap) (locs : List Loc) (ls : Array Slot), 123 + 1 ≤ k124 + zm → InM f124_0 b124_0 → (k124 ≤ 123) → wd X (va_A (mW m0 ma la lb n t v ++ [((ma 0), .inl (X.2.1, 371, .inl fa))] ++ [((ma 10), .inl (X.2.1, 150, .inl fd))] ++ [((ma 17), .inl (X.2.1, 3, .inl fv))] ++ [((ma 16), .inl (X.2.1, 123, .inl fw))]) sz) (va_A (mW m0 ma la lb n t v ++ [((ma 0), .inl (X.2.1, 371, .inl fa))] ++ [((ma 10), .inl (X.2.1, 150, .inl fd))] ++ [((ma 17), .inl (X.2.1, 3, .inl fv))] ++ [((ma 16), .inl (X.2.1, 123, .inl fw))]) sz) s ([((ma 0), .inl (X.2.1, 371, .inl f124_0))] ++ [((ma 17), .inl (X.2.1, 3, .inl f82_1))] ++ mW m0 ma la lb n t82_2 v82_2 ++ [((ma 10), .inl (X.2.1, 150, .inl fd))] ++ [((ma 16), .inl (X.2.1, 123, .inl f82_4))]) H locs → lv_has ls 3 [(2, .int (nI k124)), (1, .int x82_1), (0, .ref m0)] → W p l e _ s m _ below meth c H locs _ _ _ (F0 m 124 ls [])) (fun loop => loop (123 + 1) 0 fa ba _ _ _ (by omega) hI_fa (by omega) G hl) ?_
            intro zm
            induction zm with
            | zero => intro k124 f124_0 b124_0 H locs ls zz q_hI_f124_0 q_hk_k124 _ _; exact absurd zz (by omega)
            | succ zm ih124 =>
              intro k124 f124_0 b124_0 H locs ls zm_124 hI_f124_0 hk_k124 G hl
              have hO_f124_0 := hI_f124_0.2
              obtain ⟨hm0_f124_0, hm1_f124_0, hm2_f124_0, hm3_f124_0, hm4_f124_0⟩ := hO_f124_0
              refine lv_iload_n zx zb dX11_read_124 rfl (lv_at hl 0 rfl) ?_
              refine lv_bipush (v := 123) zx zb dX11_read_125 (by decide) ?_
              refine lv_icmp_ge (tgt := 148) zx zb dX11_read_127 (by decide) (fun c_14 => ?_) (fun c_14 => ?_)
              · have fc_14 := j_le (a := 123) (b := k124) (by omega) (by omega) c_14
                refine lv_iload_n zx zb dX11_read_148 rfl (lv_at hl 1 rfl) ?_
                exact e_int S zr zlk (vp_nar_int _) G (t82_2, v82_2, f124_0, b124_0, f82_1, f82_4, b82_4) [2, 0, 3, 1, 4] rfl rfl (Or.inr rfl) (⟨hI_t82_2, hI_f124_0, hI_f82_4, trivial⟩) dX11_read_149
              · have fc_14 := j_nle (a := 123) (b := k124) (by omega) (by omega) c_14
                refine lv_aload_n zx zb dX11_read_130 rfl (lv_at hl 2 rfl) ?_
                refine r_get (C := RX11) (T := TX11) (N := 18) (ci := 9) (v := .ref (ma 0)) S in_X11_read_X11 G 2 rfl rfl 0 (by decide) lk_X11_read_7 rfl dX11_read_131 ?_
                refine lv_iload_n zx zb dX11_read_134 rfl (lv_at hl 0 rfl) ?_
                refine lv_aload_n zx zb dX11_read_135 rfl (lv_at hl 2 rfl) ?_
                refine r_get (C := RX11) (T := TX11) (N := 18) (ci := 9) (v := .ref (ma 16)) S in_X11_read_X11 G 2 rfl rfl 16 (by decide) lk_X11_read_42 rfl dX11_read_136 ?_
                refine lv_iload_n zx zb dX11_read_139 rfl (lv_at hl 0 rfl) ?_
                refine r_iald (v := (f82_4 k124)) S G 4 rfl (vp_in_nI (by omega) (by decide)) (congrArg f82_4 (nI_clamp (by omega))) dX11_read_140 ?_
                refine r_iast S G 0 rfl (vp_in_nI (by omega) (by decide)) dX11_read_141 (fun H locs G => ?_)
                obtain ⟨b_17, hI_f_16⟩ := InM_c (j := (nI k124).toNatClampNeg) (k := k124) hI_f124_0 hI_f82_4 (nI_clamp (by omega))
                obtain ⟨f_16, hI_f_16, G⟩ : ∃ f_16 : Nat → Int32, InM f_16 b_17 ∧ wd X (va_A (mW m0 ma la lb n t v ++ [((ma 0), .inl (X.2.1, 371, .inl fa))] ++ [((ma 10), .inl (X.2.1, 150, .inl fd))] ++ [((ma 17), .inl (X.2.1, 3, .inl fv))] ++ [((ma 16), .inl (X.2.1, 123, .inl fw))]) sz) (va_A (mW m0 ma la lb n t v ++ [((ma 0), .inl (X.2.1, 371, .inl fa))] ++ [((ma 10), .inl (X.2.1, 150, .inl fd))] ++ [((ma 17), .inl (X.2.1, 3, .inl fv))] ++ [((ma 16), .inl (X.2.1, 123, .inl fw))]) sz) s ([((ma 0), .inl (X.2.1, 371, .inl f_16))] ++ [((ma 17), .inl (X.2.1, 3, .inl f82_1))] ++ mW m0 ma la lb n t82_2 v82_2 ++ [((ma 10), .inl (X.2.1, 150, .inl fd))] ++ [((ma 16), .inl (X.2.1, 123, .inl f82_4))]) H locs := ⟨_, hI_f_16, G⟩
                have hO_f_16 := hI_f_16.2
                obtain ⟨hm0_f_16, hm1_f_16, hm2_f_16, hm3_f_16, hm4_f_16⟩ := hO_f_16
                refine lv_iinc (v := (nI (k124 + 1))) (lv' := [(2, .int (nI (k124 + 1))), (1, .int x82_1), (0, .ref m0)]) zx zb dX11_read_142 hl (k := 0) rfl (nI_add k124 1) (by decide) rfl (fun ls hl => ?_)
                refine lv_goto (tgt := 124) zx zb dX11_read_145 (by decide) ?_
                exact ih124 (k124 + 1) f_16 b_17 _ _ _ (by omega) hI_f_16 (by omega) G hl
          · refine lv_aload_n zx zb dX11_read_89 rfl (lv_at hl 1 rfl) ?_
            refine b_wi (cells' := 0) (slots' := 0) (wr := [((ma 0), .inl (X.2.1, 371, .inl fa))]) G rfl rfl [2, 3, 1, 4] [0] rfl rfl rfl rfl (n_V (As := []) (rest := []) (C := RX11) (T := TX11) (N := 18) (ci := 9) S G (m_takesItem l X m0 ma la lb n t82_2 v82_2 fd f82_1 f82_4 b82_4 hI_n hI_t82_2 hI_f82_4 ⟨by omega, by first | assumption | omega⟩ H.size) gX11_read_X11_takesItem rfl rfl rfl hdV_X11_takesItem ⟨Nat.le_of_ble_eq_true rfl, Nat.le_of_ble_eq_true rfl⟩ [2, 3, 1, 4] rfl rfl 2 rfl rfl rfl hl.1 (Nat.le_of_ble_eq_true rfl) dX11_read_90 ⟨Nat.le_of_ble_eq_true rfl, Nat.le_of_ble_eq_true rfl⟩) (fun r_18 u_18 H locs hp_18 G => ?_)
            obtain ⟨t_18a, v_18b, f_18c, f_18d, b_18e⟩ := u_18
            obtain ⟨hI_t_18a, hI_f_18d, hq_18⟩ := hp_18
            have hO_t_18a := hI_t_18a
            obtain ⟨ht0_t_18a, ht1_t_18a⟩ := hO_t_18a
            have hO_f_18d := hI_f_18d.2
            obtain ⟨hm0_f_18d, hm1_f_18d, hm2_f_18d, hm3_f_18d, hm4_f_18d⟩ := hO_f_18d
            have G : wd X (va_A (mW m0 ma la lb n t v ++ [((ma 0), .inl (X.2.1, 371, .inl fa))] ++ [((ma 10), .inl (X.2.1, 150, .inl fd))] ++ [((ma 17), .inl (X.2.1, 3, .inl fv))] ++ [((ma 16), .inl (X.2.1, 123, .inl fw))]) sz) (va_A (mW m0 ma la lb n t v ++ [((ma 0), .inl (X.2.1, 371, .inl fa))] ++ [((ma 10), .inl (X.2.1, 150, .inl fd))] ++ [((ma 17), .inl (X.2.1, 3, .inl fv))] ++ [((ma 16), .inl (X.2.1, 123, .inl fw))]) sz) s ([((ma 0), .inl (X.2.1, 371, .inl fa))] ++ mW m0 ma la lb n t_18a v_18b ++ [((ma 10), .inl (X.2.1, 150, .inl fd))] ++ [((ma 17), .inl (X.2.1, 3, .inl f_18c))] ++ [((ma 16), .inl (X.2.1, 123, .inl f_18d))]) H locs := G
            obtain ⟨⟨hz0_18, hz1_18, hz2_18⟩, hr_18⟩ := hq_18
            rcases hr_18 with rfl | rfl
            · refine lv_if_eq (tgt := 104) zx zb dX11_read_93 (by decide) (fun c_19 => ?_) (fun c_19 => absurd (by decide) c_19)
              refine lv_bipush (v := (-10)) zx zb dX11_read_104 (by decide) ?_
              refine lv_aload_n zx zb dX11_read_106 rfl (lv_at hl 1 rfl) ?_
              refine r_get (C := RX11) (T := TX11) (N := 18) (ci := 9) (v := .int (nI (t_18a 0))) S in_X11_read_X11 G 1 rfl rfl 12 (by decide) lk_X11_read_217 rfl dX11_read_107 ?_
              refine r_isub (v := ((-10) - (nI (t_18a 0)))) S rfl dX11_read_110 ?_
              exact e_int S zr zlk (vp_nar_int _) G (t_18a, v_18b, fa, ba, f_18c, f_18d, b_18e) [1, 0, 2, 3, 4] rfl rfl (Or.inr rfl) (⟨hI_t_18a, hI_fa, hI_f_18d, trivial⟩) dX11_read_111
            · refine lv_if_eq (tgt := 104) zx zb dX11_read_93 (by decide) (fun c_20 => absurd c_20 (by decide)) (fun c_20 => ?_)
              refine lv_aload_n zx zb dX11_read_96 rfl (lv_at hl 1 rfl) ?_
              refine r_get (C := RX11) (T := TX11) (N := 18) (ci := 9) (v := .int (v_18b 0)) S in_X11_read_X11 G 1 rfl rfl 14 (by decide) lk_X11_read_223 rfl dX11_read_97 ?_
              refine lv_iconst (v := 3) zx zb dX11_read_100 (by decide) ?_
              refine lv_icmp_eq (tgt := 112) zx zb dX11_read_101 (by decide) (fun c_21 => ?_) (fun c_21 => ?_)
              · have h3_c_21 := k_tok3 hz2_18 c_21
                refine lv_aload_n zx zb dX11_read_112 rfl (lv_at hl 1 rfl) ?_
                refine b_wv (cells' := 0) (slots' := 0) (wr := [((ma 0), .inl (X.2.1, 371, .inl fa))] ++ [((ma 17), .inl (X.2.1, 3, .inl f_18c))] ++ [((ma 16), .inl (X.2.1, 123, .inl f_18d))]) G rfl rfl [1, 2] [0, 3, 4] rfl rfl rfl rfl (n_V (As := []) (rest := []) (C := RX11) (T := TX11) (N := 18) (ci := 9) S G (m_goBehind l X m0 ma la lb n t_18a v_18b fd hI_n hI_t_18a ⟨by omega, by first | assumption | omega⟩ H.size) gX11_read_X11_goBehind rfl rfl rfl hdV_X11_goBehind ⟨Nat.le_of_ble_eq_true rfl, Nat.le_of_ble_eq_true rfl⟩ [1, 2] rfl rfl 1 rfl rfl rfl hl.1 (Nat.le_of_ble_eq_true rfl) dX11_read_113 ⟨Nat.le_of_ble_eq_true rfl, Nat.le_of_ble_eq_true rfl⟩) (fun u_22 H locs hp_22 G => ?_)
                obtain ⟨t_22a, v_22b⟩ := u_22
                obtain ⟨hI_t_22a, hq_22⟩ := hp_22
                have hO_t_22a := hI_t_22a
                obtain ⟨ht0_t_22a, ht1_t_22a⟩ := hO_t_22a
                have G : wd X (va_A (mW m0 ma la lb n t v ++ [((ma 0), .inl (X.2.1, 371, .inl fa))] ++ [((ma 10), .inl (X.2.1, 150, .inl fd))] ++ [((ma 17), .inl (X.2.1, 3, .inl fv))] ++ [((ma 16), .inl (X.2.1, 123, .inl fw))]) sz) (va_A (mW m0 ma la lb n t v ++ [((ma 0), .inl (X.2.1, 371, .inl fa))] ++ [((ma 10), .inl (X.2.1, 150, .inl fd))] ++ [((ma 17), .inl (X.2.1, 3, .inl fv))] ++ [((ma 16), .inl (X.2.1, 123, .inl fw))]) sz) s ([((ma 0), .inl (X.2.1, 371, .inl fa))] ++ [((ma 17), .inl (X.2.1, 3, .inl f_18c))] ++ [((ma 16), .inl (X.2.1, 123, .inl f_18d))] ++ mW m0 ma la lb n t_22a v_22b ++ [((ma 10), .inl (X.2.1, 150, .inl fd))]) H locs := G
                obtain ⟨hz0_22, hz1_22, hz2_22⟩ := hq_22
                refine lv_iinc (v := (x82_1 + 1)) (lv' := [(1, .int (x82_1 + 1)), (0, .ref m0)]) zx zb dX11_read_116 hl (k := 0) rfl rfl (by decide) rfl (fun ls hl => ?_)
                refine lv_goto (tgt := 82) zx zb dX11_read_119 (by decide) ?_
                have G : wd X (va_A (mW m0 ma la lb n t v ++ [((ma 0), .inl (X.2.1, 371, .inl fa))] ++ [((ma 10), .inl (X.2.1, 150, .inl fd))] ++ [((ma 17), .inl (X.2.1, 3, .inl fv))] ++ [((ma 16), .inl (X.2.1, 123, .inl fw))]) sz) (va_A (mW m0 ma la lb n t v ++ [((ma 0), .inl (X.2.1, 371, .inl fa))] ++ [((ma 10), .inl (X.2.1, 150, .inl fd))] ++ [((ma 17), .inl (X.2.1, 3, .inl fv))] ++ [((ma 16), .inl (X.2.1, 123, .inl fw))]) sz) s ([((ma 0), .inl (X.2.1, 371, .inl fa))] ++ [((ma 17), .inl (X.2.1, 3, .inl f_18c))] ++ mW m0 ma la lb n t_22a v_22b ++ [((ma 10), .inl (X.2.1, 150, .inl fd))] ++ [((ma 16), .inl (X.2.1, 123, .inl f_18d))]) H locs := wd_sub G [0, 1, 3, 4, 2] rfl rfl
                exact ih82 (x82_1 + 1) f_18c t_22a v_22b f_18d b_18e _ _ _ (by omega) ⟨by omega, by assumption⟩ hI_t_22a hI_f_18d G hl
              · refine lv_bipush (v := (-10)) zx zb dX11_read_104 (by decide) ?_
                refine lv_aload_n zx zb dX11_read_106 rfl (lv_at hl 1 rfl) ?_
                refine r_get (C := RX11) (T := TX11) (N := 18) (ci := 9) (v := .int (nI (t_18a 0))) S in_X11_read_X11 G 1 rfl rfl 12 (by decide) lk_X11_read_217 rfl dX11_read_107 ?_
                refine r_isub (v := ((-10) - (nI (t_18a 0)))) S rfl dX11_read_110 ?_
                exact e_int S zr zlk (vp_nar_int _) G (t_18a, v_18b, fa, ba, f_18c, f_18d, b_18e) [1, 0, 2, 3, 4] rfl rfl (Or.inr rfl) (⟨hI_t_18a, hI_fa, hI_f_18d, trivial⟩) dX11_read_111
      · refine lv_bipush (v := (-10)) zx zb dX11_read_55 (by decide) ?_
        refine lv_aload_n zx zb dX11_read_57 rfl (lv_at hl 0 rfl) ?_
        refine r_get (C := RX11) (T := TX11) (N := 18) (ci := 9) (v := .int (nI (t_6a 0))) S in_X11_read_X11 G 2 rfl rfl 12 (by decide) lk_X11_read_217 rfl dX11_read_58 ?_
        refine r_isub (v := ((-10) - (nI (t_6a 0)))) S rfl dX11_read_61 ?_
        exact e_int S zr zlk (vp_nar_int _) G (t_6a, v_6b, fa, ba, f_6c, fw, bw) [2, 0, 3, 4, 1] rfl rfl (Or.inr rfl) (⟨hI_t_6a, hI_fa, hI_fw, trivial⟩) dX11_read_62
theorem in_X11_fraction_X11 : ∀ w ∈ wsX110, w ∈ wsX11_fraction := by decide +kernel
theorem lk_X11_fraction_182 : Cond.fieldLink RX11 182 "EggSpoonsModel" "above" "J" ∈ wsX11_fraction := by decide +kernel
theorem lk_X11_fraction_23 : Cond.fieldLink RX11 23 "EggSpoonsModel" "below" "J" ∈ wsX11_fraction := by decide +kernel
set_option maxHeartbeats 4000000 in
set_option maxRecDepth 100000 in
/-- fraction -/
theorem m_fraction (l : Launch) (X : EX) (m0 : Nat) (ma : Nat → Nat) (la : Int64) (lb : Int64) (n : Nat) (t : Nat → Nat) (v : Nat → Int32) (x1 : Int64) (x2 : Int64) (hI_n : n ≤ 150) (hI_t : InT t) (h2 : ¬ x2 = 0) (sz : Nat) : Met l yX11_fraction wsX11_fraction ({ frames := 0, cells := 0, slots := 0, locals := 0 } : Room) (pE X [.ref m0, .long x1, .long x2] (mW m0 ma la lb n t v) sz) (qV (fun (u : (Int64) × (Int64)) => (True)) X (fun (u : (Int64) × (Int64)) => mW m0 ma u.1 u.2 n t v) (mW m0 ma la lb n t v) sz) 0 0 (va_A (mW m0 ma la lb n t v) sz) := by
  refine mk_met (B := (va_A (mW m0 ma la lb n t v) sz)) (A := (va_A (mW m0 ma la lb n t v) sz)) (cc := cX11_fraction) (maxL := 11) (ret := none) (by decide) rfl (Nat.le_of_ble_eq_true rfl) k_w k_a (fun p e s m below meth c S zr zlk znm zsz G ls hl => ?_)
  have S : CallFix p m c cX11_fraction 11 s _ wsX11_fraction RX11 := S
  have zx := S.1
  have zb := S.2.1
  have hl : lv_has ls 11 [(0, .ref m0), (1, .long x1), (3, .long x2)] := hl
  have hO_t := hI_t
  obtain ⟨ht0_t, ht1_t⟩ := hO_t
  refine lv_lload_n zx zb dX11_fraction_0 rfl (lv_at hl 1 rfl) ?_
  refine lv_lstore (lv' := [(5, .long x1), (0, .ref m0), (1, .long x1), (3, .long x2)]) zx zb dX11_fraction_1 hl (by decide) rfl (fun ls hl => ?_)
  refine lv_lload_n zx zb dX11_fraction_3 rfl (lv_at hl 3 rfl) ?_
  refine lv_lstore (lv' := [(7, .long x2), (5, .long x1), (0, .ref m0), (1, .long x1), (3, .long x2)]) zx zb dX11_fraction_4 hl (by decide) rfl (fun ls hl => ?_)
  refine k_loop (P := ∀ (zm : Nat) (x6_7 : Int64) (x6_5 : Int64) (H : Heap) (locs : List Loc) (ls : Array Slot), ((x6_7).toInt.natAbs < zm) → (¬ (x6_5 = 0 ∧ x6_7 = 0)) → wd X (va_A (mW m0 ma la lb n t v) sz) (va_A (mW m0 ma la lb n t v) sz) s (mW m0 ma la lb n t v) H locs → lv_has ls 11 [(7, .long x6_7), (5, .long x6_5), (0, .ref m0), (1, .long x1), (3, .long x2)] → W p l e _ s m _ below meth c H locs _ _ _ (F0 m 6 ls [])) (fun loop => loop ((x2).toInt.natAbs + 1) x2 x1 _ _ _ (by omega) (by first | exact fun q => h2 q.2 | exact fun q => hb q.1)  G hl) ?_
  intro zm
  induction zm with
  | zero => intro x6_7 x6_5 H locs ls zz q_x0 _ _; exact absurd zz (by omega)
  | succ zm ih6 =>
    intro x6_7 x6_5 H locs ls zm_6 hx6_0 G hl
    refine lv_lload zx zb dX11_fraction_6 (lv_at hl 0 rfl) ?_
    refine lv_lconst (v := (Int32.toInt64 0)) zx zb dX11_fraction_8 (by decide) ?_
    refine W.lcmp zx zb dX11_fraction_9 ?_
    refine lv_if_eq (tgt := 31) zx zb dX11_fraction_10 (by decide) (fun c_1 => ?_) (fun c_1 => ?_)
    · refine lv_aload_n zx zb dX11_fraction_31 rfl (lv_at hl 2 rfl) ?_
      refine lv_lload_n zx zb dX11_fraction_32 rfl (lv_at hl 3 rfl) ?_
      refine lv_lload zx zb dX11_fraction_33 (lv_at hl 1 rfl) ?_
      refine lv_ldiv zx zb dX11_fraction_35 (k_a0 hx6_0 c_1) ?_
      refine k_ldE (fun y_2 => ?_)
      refine r_put (C := RX11) (T := TX11) (N := 18) (ci := 9) (v := .long y_2) S in_X11_fraction_X11 tyX11_ok nmX11 G 0 rfl rfl 4 (by decide) lk_X11_fraction_182 rfl rfl rfl (Nat.le_of_ble_eq_true rfl) dX11_fraction_36 (fun H locs G => ?_)
      obtain ⟨l_3, G⟩ : ∃ l_3 : Int64, wd X (va_A (mW m0 ma la lb n t v) sz) (va_A (mW m0 ma la lb n t v) sz) s (mW m0 ma l_3 lb n t v) H locs := ⟨_, G⟩
      refine lv_aload_n zx zb dX11_fraction_39 rfl (lv_at hl 2 rfl) ?_
      refine lv_lload_n zx zb dX11_fraction_40 rfl (lv_at hl 4 rfl) ?_
      refine lv_lload zx zb dX11_fraction_41 (lv_at hl 1 rfl) ?_
      refine lv_ldiv zx zb dX11_fraction_43 (k_a0 hx6_0 c_1) ?_
      refine k_ldE (fun y_4 => ?_)
      refine r_put (C := RX11) (T := TX11) (N := 18) (ci := 9) (v := .long y_4) S in_X11_fraction_X11 tyX11_ok nmX11 G 0 rfl rfl 5 (by decide) lk_X11_fraction_23 rfl rfl rfl (Nat.le_of_ble_eq_true rfl) dX11_fraction_44 (fun H locs G => ?_)
      obtain ⟨l_5, G⟩ : ∃ l_5 : Int64, wd X (va_A (mW m0 ma la lb n t v) sz) (va_A (mW m0 ma la lb n t v) sz) s (mW m0 ma l_3 l_5 n t v) H locs := ⟨_, G⟩
      exact e_void S zr zlk G (l_3, l_5) [0] rfl rfl (Or.inr rfl) (trivial) dX11_fraction_47
    · refine lv_lload zx zb dX11_fraction_13 (lv_at hl 1 rfl) ?_
      refine lv_lload zx zb dX11_fraction_15 (lv_at hl 0 rfl) ?_
      have hb := k_lnz c_1
      refine lv_lrem zx zb dX11_fraction_17 hb ?_
      obtain ⟨zr0, hzr0, ezr0⟩ : ∃ z : Int64, z.toInt.natAbs < (x6_7).toInt.natAbs ∧ x6_5 - x6_5 / x6_7 * x6_7 = z := ⟨_, k_rem hb, rfl⟩
      refine k_ld ezr0 ?_
      refine lv_lstore (lv' := [(9, .long zr0), (7, .long x6_7), (5, .long x6_5), (0, .ref m0), (1, .long x1), (3, .long x2)]) zx zb dX11_fraction_18 hl (by decide) rfl (fun ls hl => ?_)
      refine lv_lload zx zb dX11_fraction_20 (lv_at hl 1 rfl) ?_
      refine lv_lstore (lv' := [(5, .long x6_7), (9, .long zr0), (7, .long x6_7), (0, .ref m0), (1, .long x1), (3, .long x2)]) zx zb dX11_fraction_22 hl (by decide) rfl (fun ls hl => ?_)
      refine lv_lload zx zb dX11_fraction_24 (lv_at hl 1 rfl) ?_
      refine lv_lstore (lv' := [(7, .long zr0), (5, .long x6_7), (9, .long zr0), (0, .ref m0), (1, .long x1), (3, .long x2)]) zx zb dX11_fraction_26 hl (by decide) rfl (fun ls hl => ?_)
      refine lv_goto (tgt := 6) zx zb dX11_fraction_28 (by decide) ?_
      have hl := lv_sub hl (l' := [(7, .long zr0), (5, .long x6_7), (0, .ref m0), (1, .long x1), (3, .long x2)]) [0, 1, 3, 4, 5] rfl
      exact ih6 zr0 x6_7 _ _ _ (by omega) (by first | exact fun q => h2 q.2 | exact fun q => hb q.1)  G hl
theorem mm_X11_stumble_c66 : Cond.constantLong RX11 66 (60) ∈ wsX11_stumble := by decide +kernel
theorem mm_X11_stumble_c185 : Cond.constantLong RX11 185 (6) ∈ wsX11_stumble := by decide +kernel
theorem mm_X11_stumble_c64 : Cond.constantLong RX11 64 (10) ∈ wsX11_stumble := by decide +kernel
theorem in_X11_stumble_X11 : ∀ w ∈ wsX110, w ∈ wsX11_stumble := by decide +kernel
theorem lk_X11_stumble_27 : Cond.fieldLink RX11 27 "EggSpoonsModel" "hand" "[I" ∈ wsX11_stumble := by decide +kernel
theorem hdV_X11_fraction : yX11_fraction.cls = RX11 ∧ yX11_fraction.cls ≠ "java/lang/invoke/MethodHandle" ∧ yX11_fraction.cls ≠ "java/lang/invoke/VarHandle" ∧ (parseMethodDescriptor yX11_fraction.desc).map (fun d => d.parameters.length) = some 2 := by decide +kernel
set_option maxHeartbeats 4000000 in
set_option maxRecDepth 100000 in
/-- stumble -/
theorem m_stumble (l : Launch) (X : EX) (m0 : Nat) (ma : Nat → Nat) (la : Int64) (lb : Int64) (n : Nat) (t : Nat → Nat) (v : Nat → Int32) (fa : Nat → Int32) (ba : Nat → Nat) (fh : Nat → Int32) (bh : Nat → Nat) (fr : Nat → Int32) (x1 : Int32) (x2 : Int32) (x3 : Int32) (x4 : Int32) (hI_n : n ≤ 150) (hI_t : InT t) (hI_fa : InM fa ba) (hI_fh : InM fh bh) (sz : Nat) : Met l yX11_stumble wsX11_stumble ({ frames := 3, cells := 0, slots := 0, locals := 72 } : Room) (pE X [.ref m0, .int x1, .int x2, .int x3, .int x4] (mW m0 ma la lb n t v ++ [((ma 0), .inl (X.2.1, 371, .inl fa))] ++ [((ma 6), .inl (X.2.1, 55, .inl fh))] ++ [((ma 3), .inl (X.2.1, 3, .inl fr))]) sz) (qI (fun (r : Int32) (u : (Int64) × (Int64) × (Nat → Int32) × (Nat → Nat) × (Nat → Int32)) => InM u.2.2.1 u.2.2.2.1 ∧ (True)) X (fun (u : (Int64) × (Int64) × (Nat → Int32) × (Nat → Nat) × (Nat → Int32)) => mW m0 ma u.1 u.2.1 n t v ++ [((ma 0), .inl (X.2.1, 371, .inl fa))] ++ [((ma 6), .inl (X.2.1, 55, .inl u.2.2.1))] ++ [((ma 3), .inl (X.2.1, 3, .inl u.2.2.2.2))]) (mW m0 ma la lb n t v ++ [((ma 0), .inl (X.2.1, 371, .inl fa))] ++ [((ma 6), .inl (X.2.1, 55, .inl fh))] ++ [((ma 3), .inl (X.2.1, 3, .inl fr))]) sz) 0 0 (va_A (mW m0 ma la lb n t v ++ [((ma 0), .inl (X.2.1, 371, .inl fa))] ++ [((ma 6), .inl (X.2.1, 55, .inl fh))] ++ [((ma 3), .inl (X.2.1, 3, .inl fr))]) sz) := by
  refine mk_met (B := (va_A (mW m0 ma la lb n t v ++ [((ma 0), .inl (X.2.1, 371, .inl fa))] ++ [((ma 6), .inl (X.2.1, 55, .inl fh))] ++ [((ma 3), .inl (X.2.1, 3, .inl fr))]) sz)) (A := (va_A (mW m0 ma la lb n t v ++ [((ma 0), .inl (X.2.1, 371, .inl fa))] ++ [((ma 6), .inl (X.2.1, 55, .inl fh))] ++ [((ma 3), .inl (X.2.1, 3, .inl fr))]) sz)) (cc := cX11_stumble) (maxL := 13) (ret := (some .int)) (by decide) rfl (Nat.le_of_ble_eq_true rfl) k_w k_a (fun p e s m below meth c S zr zlk znm zsz G ls hl => ?_)
  have S : CallFix p m c cX11_stumble 13 s _ wsX11_stumble RX11 := S
  have zx := S.1
  have zb := S.2.1
  have hl : lv_has ls 13 [(0, .ref m0), (1, .int x1), (2, .int x2), (3, .int x3), (4, .int x4)] := hl
  have hO_t := hI_t
  obtain ⟨ht0_t, ht1_t⟩ := hO_t
  have hO_fa := hI_fa.2
  obtain ⟨hm0_fa, hm1_fa, hm2_fa, hm3_fa, hm4_fa⟩ := hO_fa
  have hO_fh := hI_fh.2
  obtain ⟨hm0_fh, hm1_fh, hm2_fh, hm3_fh, hm4_fh⟩ := hO_fh
  refine lv_aload_n zx zb dX11_stumble_0 rfl (lv_at hl 0 rfl) ?_
  refine lv_iload_n zx zb dX11_stumble_1 rfl (lv_at hl 1 rfl) ?_
  refine o_ri (cells' := 0) (slots' := 0) G rfl rfl (n_V (As := [.int x1]) (rest := []) (C := RX11) (T := TX11) (N := 18) (ci := 9) S G (m_isOne l X m0 ma la lb n t v fa ba x1 hI_n hI_t hI_fa s.heap.size) gX11_stumble_X11_isOne rfl rfl rfl hdV_X11_isOne ⟨Nat.le_of_ble_eq_true rfl, Nat.le_of_ble_eq_true rfl⟩ [0, 1] rfl rfl 0 rfl rfl rfl hl.1 (Nat.le_of_ble_eq_true rfl) dX11_stumble_2 ⟨Nat.le_of_ble_eq_true rfl, Nat.le_of_ble_eq_true rfl⟩) (fun r_1 u_1 H locs hp_1 G => ?_)
  have G : wd X (va_A (mW m0 ma la lb n t v ++ [((ma 0), .inl (X.2.1, 371, .inl fa))] ++ [((ma 6), .inl (X.2.1, 55, .inl fh))] ++ [((ma 3), .inl (X.2.1, 3, .inl fr))]) sz) (va_A (mW m0 ma la lb n t v ++ [((ma 0), .inl (X.2.1, 371, .inl fa))] ++ [((ma 6), .inl (X.2.1, 55, .inl fh))] ++ [((ma 3), .inl (X.2.1, 3, .inl fr))]) sz) s (mW m0 ma la lb n t v ++ [((ma 0), .inl (X.2.1, 371, .inl fa))] ++ [((ma 6), .inl (X.2.1, 55, .inl fh))] ++ [((ma 3), .inl (X.2.1, 3, .inl fr))]) H locs := G
  rcases hp_1 with ⟨rfl, hj_1⟩ | rfl
  · obtain ⟨j_1, hj_1, rfl⟩ := hj_1
    refine lv_if_eq (tgt := 45) zx zb dX11_stumble_5 (by decide) (fun c_2 => absurd c_2 (by decide)) (fun c_2 => ?_)
    refine lv_iload_n zx zb dX11_stumble_8 rfl (lv_at hl 2 rfl) ?_
    refine lv_i2l (v := (Int32.toInt64 x2)) zx zb dX11_stumble_9 rfl ?_
    refine lv_lconst (v := (Int32.toInt64 0)) zx zb dX11_stumble_10 (by decide) ?_
    refine lv_ldc2 zx zb S.2.2.2.1 (S.2.2.2.2 _ mm_X11_stumble_c66) dX11_stumble_11 ?_
    refine k_ld (v := (Int32.toInt64 60)) (by decide) ?_
    refine o_ri (cells' := 0) (slots' := 0) G rfl rfl (n_S (As := [.long (Int32.toInt64 x2), .long (Int32.toInt64 0), .long (Int32.toInt64 60)]) (rest := []) S G (m_in l X x2 0 60 H.size) gX11_stumble_X11_in rfl rfl rfl hdS_X11_in ⟨Nat.le_of_ble_eq_true rfl, Nat.le_of_ble_eq_true rfl⟩ [] rfl rfl rfl hl.1 (Nat.le_of_ble_eq_true rfl) dX11_stumble_14 ⟨Nat.le_of_ble_eq_true rfl, Nat.le_of_ble_eq_true rfl⟩) (fun r_3 u_3 H locs hp_3 G => ?_)
    have G : wd X (va_A (mW m0 ma la lb n t v ++ [((ma 0), .inl (X.2.1, 371, .inl fa))] ++ [((ma 6), .inl (X.2.1, 55, .inl fh))] ++ [((ma 3), .inl (X.2.1, 3, .inl fr))]) sz) (va_A (mW m0 ma la lb n t v ++ [((ma 0), .inl (X.2.1, 371, .inl fa))] ++ [((ma 6), .inl (X.2.1, 55, .inl fh))] ++ [((ma 3), .inl (X.2.1, 3, .inl fr))]) sz) s (mW m0 ma la lb n t v ++ [((ma 0), .inl (X.2.1, 371, .inl fa))] ++ [((ma 6), .inl (X.2.1, 55, .inl fh))] ++ [((ma 3), .inl (X.2.1, 3, .inl fr))]) H locs := G
    rcases hp_3 with ⟨rfl, hw_3⟩ | ⟨rfl, hw_3⟩
    · obtain ⟨j_3, ⟨ja_3, jb_3⟩, rfl⟩ := k_natR (a := 0) (b := 60) hw_3 rfl rfl (by decide) (by decide)
      refine lv_if_eq (tgt := 45) zx zb dX11_stumble_17 (by decide) (fun c_4 => absurd c_4 (by decide)) (fun c_4 => ?_)
      refine lv_iload_n zx zb dX11_stumble_20 rfl (lv_at hl 3 rfl) ?_
      refine lv_i2l (v := (Int32.toInt64 x3)) zx zb dX11_stumble_21 rfl ?_
      refine lv_lconst (v := (Int32.toInt64 0)) zx zb dX11_stumble_22 (by decide) ?_
      refine lv_ldc2 zx zb S.2.2.2.1 (S.2.2.2.2 _ mm_X11_stumble_c185) dX11_stumble_23 ?_
      refine k_ld (v := (Int32.toInt64 6)) (by decide) ?_
      refine o_ri (cells' := 0) (slots' := 0) G rfl rfl (n_S (As := [.long (Int32.toInt64 x3), .long (Int32.toInt64 0), .long (Int32.toInt64 6)]) (rest := []) S G (m_in l X x3 0 6 H.size) gX11_stumble_X11_in rfl rfl rfl hdS_X11_in ⟨Nat.le_of_ble_eq_true rfl, Nat.le_of_ble_eq_true rfl⟩ [] rfl rfl rfl hl.1 (Nat.le_of_ble_eq_true rfl) dX11_stumble_26 ⟨Nat.le_of_ble_eq_true rfl, Nat.le_of_ble_eq_true rfl⟩) (fun r_5 u_5 H locs hp_5 G => ?_)
      have G : wd X (va_A (mW m0 ma la lb n t v ++ [((ma 0), .inl (X.2.1, 371, .inl fa))] ++ [((ma 6), .inl (X.2.1, 55, .inl fh))] ++ [((ma 3), .inl (X.2.1, 3, .inl fr))]) sz) (va_A (mW m0 ma la lb n t v ++ [((ma 0), .inl (X.2.1, 371, .inl fa))] ++ [((ma 6), .inl (X.2.1, 55, .inl fh))] ++ [((ma 3), .inl (X.2.1, 3, .inl fr))]) sz) s (mW m0 ma la lb n t v ++ [((ma 0), .inl (X.2.1, 371, .inl fa))] ++ [((ma 6), .inl (X.2.1, 55, .inl fh))] ++ [((ma 3), .inl (X.2.1, 3, .inl fr))]) H locs := G
      rcases hp_5 with ⟨rfl, hw_5⟩ | ⟨rfl, hw_5⟩
      · obtain ⟨j_5, ⟨ja_5, jb_5⟩, rfl⟩ := k_natR (a := 0) (b := 6) hw_5 rfl rfl (by decide) (by decide)
        refine lv_if_eq (tgt := 45) zx zb dX11_stumble_29 (by decide) (fun c_6 => absurd c_6 (by decide)) (fun c_6 => ?_)
        refine lv_iload zx zb dX11_stumble_32 (lv_at hl 4 rfl) ?_
        refine lv_i2l (v := (Int32.toInt64 x4)) zx zb dX11_stumble_34 rfl ?_
        refine lv_lconst (v := (Int32.toInt64 0)) zx zb dX11_stumble_35 (by decide) ?_
        refine lv_ldc2 zx zb S.2.2.2.1 (S.2.2.2.2 _ mm_X11_stumble_c64) dX11_stumble_36 ?_
        refine k_ld (v := (Int32.toInt64 10)) (by decide) ?_
        refine o_ri (cells' := 0) (slots' := 0) G rfl rfl (n_S (As := [.long (Int32.toInt64 x4), .long (Int32.toInt64 0), .long (Int32.toInt64 10)]) (rest := []) S G (m_in l X x4 0 10 H.size) gX11_stumble_X11_in rfl rfl rfl hdS_X11_in ⟨Nat.le_of_ble_eq_true rfl, Nat.le_of_ble_eq_true rfl⟩ [] rfl rfl rfl hl.1 (Nat.le_of_ble_eq_true rfl) dX11_stumble_39 ⟨Nat.le_of_ble_eq_true rfl, Nat.le_of_ble_eq_true rfl⟩) (fun r_7 u_7 H locs hp_7 G => ?_)
        have G : wd X (va_A (mW m0 ma la lb n t v ++ [((ma 0), .inl (X.2.1, 371, .inl fa))] ++ [((ma 6), .inl (X.2.1, 55, .inl fh))] ++ [((ma 3), .inl (X.2.1, 3, .inl fr))]) sz) (va_A (mW m0 ma la lb n t v ++ [((ma 0), .inl (X.2.1, 371, .inl fa))] ++ [((ma 6), .inl (X.2.1, 55, .inl fh))] ++ [((ma 3), .inl (X.2.1, 3, .inl fr))]) sz) s (mW m0 ma la lb n t v ++ [((ma 0), .inl (X.2.1, 371, .inl fa))] ++ [((ma 6), .inl (X.2.1, 55, .inl fh))] ++ [((ma 3), .inl (X.2.1, 3, .inl fr))]) H locs := G
        rcases hp_7 with ⟨rfl, hw_7⟩ | ⟨rfl, hw_7⟩
        · obtain ⟨j_7, ⟨ja_7, jb_7⟩, rfl⟩ := k_natR (a := 0) (b := 10) hw_7 rfl rfl (by decide) (by decide)
          refine lv_if_ne (tgt := 52) zx zb dX11_stumble_42 (by decide) (fun c_8 => ?_) (fun c_8 => absurd c_8 (by decide))
          refine lv_lconst (v := (Int32.toInt64 0)) zx zb dX11_stumble_52 (by decide) ?_
          refine lv_lstore (lv' := [(5, .long (Int32.toInt64 0)), (0, .ref m0), (1, .int (nI j_1)), (2, .int (nI j_3)), (3, .int (nI j_5)), (4, .int (nI j_7))]) zx zb dX11_stumble_53 hl (by decide) rfl (fun ls hl => ?_)
          refine lv_lconst (v := (Int32.toInt64 1)) zx zb dX11_stumble_55 (by decide) ?_
          refine lv_lstore (lv' := [(7, .long (Int32.toInt64 1)), (5, .long (Int32.toInt64 0)), (0, .ref m0), (1, .int (nI j_1)), (2, .int (nI j_3)), (3, .int (nI j_5)), (4, .int (nI j_7))]) zx zb dX11_stumble_56 hl (by decide) rfl (fun ls hl => ?_)
          refine lv_iconst (v := 0) zx zb dX11_stumble_58 (by decide) ?_
          refine lv_istore (lv' := [(9, .int 0), (7, .long (Int32.toInt64 1)), (5, .long (Int32.toInt64 0)), (0, .ref m0), (1, .int (nI j_1)), (2, .int (nI j_3)), (3, .int (nI j_5)), (4, .int (nI j_7))]) zx zb dX11_stumble_59 hl (by decide) rfl (fun ls hl => ?_)
          refine k_loop (P := ∀ (zm : Nat) (k61 : Nat) (x61_7 : Int64) (H : Heap) (locs : List Loc) (ls : Array Slot), 6 + 1 ≤ k61 + zm → (k61 ≤ 6) → (x61_7 = lN (10 ^ k61)) → wd X (va_A (mW m0 ma la lb n t v ++ [((ma 0), .inl (X.2.1, 371, .inl fa))] ++ [((ma 6), .inl (X.2.1, 55, .inl fh))] ++ [((ma 3), .inl (X.2.1, 3, .inl fr))]) sz) (va_A (mW m0 ma la lb n t v ++ [((ma 0), .inl (X.2.1, 371, .inl fa))] ++ [((ma 6), .inl (X.2.1, 55, .inl fh))] ++ [((ma 3), .inl (X.2.1, 3, .inl fr))]) sz) s (mW m0 ma la lb n t v ++ [((ma 0), .inl (X.2.1, 371, .inl fa))] ++ [((ma 6), .inl (X.2.1, 55, .inl fh))] ++ [((ma 3), .inl (X.2.1, 3, .inl fr))]) H locs → lv_has ls 13 [(9, .int (nI k61)), (7, .long x61_7), (5, .long (Int32.toInt64 0)), (0, .ref m0), (1, .int (nI j_1)), (2, .int (nI j_3)), (3, .int (nI j_5)), (4, .int (nI j_7))] → W p l e _ s m _ below meth c H locs _ _ _ (F0 m 61 ls [])) (fun loop => loop (6 + 1) 0 (Int32.toInt64 1) _ _ _ (by omega) (by omega) (by first | assumption | exact k_p10a | exact k_p10s (by omega) (by assumption)) G hl) ?_
          intro zm
          induction zm with
          | zero => intro k61 x61_7 H locs ls zz q_hk_k61 q_hk_x61_7 _ _; exact absurd zz (by omega)
          | succ zm ih61 =>
            intro k61 x61_7 H locs ls zm_61 hk_k61 hk_x61_7 G hl
            refine lv_iload zx zb dX11_stumble_61 (lv_at hl 0 rfl) ?_
            refine lv_iload_n zx zb dX11_stumble_63 rfl (lv_at hl 6 rfl) ?_
            refine lv_icmp_ge (tgt := 81) zx zb dX11_stumble_64 (by decide) (fun c_9 => ?_) (fun c_9 => ?_)
            · have fc_9 := j_le (a := j_5) (b := k61) (by omega) (by omega) c_9
              refine lv_iconst (v := 0) zx zb dX11_stumble_81 (by decide) ?_
              refine lv_istore (lv' := [(9, .int 0), (7, .long x61_7), (5, .long (Int32.toInt64 0)), (0, .ref m0), (1, .int (nI j_1)), (2, .int (nI j_3)), (3, .int (nI j_5)), (4, .int (nI j_7))]) zx zb dX11_stumble_82 hl (by decide) rfl (fun ls hl => ?_)
              refine k_loop (P := ∀ (zm : Nat) (k84 : Nat) (x84_5 : Int64) (f84_2 : Nat → Int32) (b84_2 : Nat → Nat) (H : Heap) (locs : List Loc) (ls : Array Slot), 64 + 1 ≤ k84 + zm → InM f84_2 b84_2 → (k84 ≤ 64) → wd X (va_A (mW m0 ma la lb n t v ++ [((ma 0), .inl (X.2.1, 371, .inl fa))] ++ [((ma 6), .inl (X.2.1, 55, .inl fh))] ++ [((ma 3), .inl (X.2.1, 3, .inl fr))]) sz) (va_A (mW m0 ma la lb n t v ++ [((ma 0), .inl (X.2.1, 371, .inl fa))] ++ [((ma 6), .inl (X.2.1, 55, .inl fh))] ++ [((ma 3), .inl (X.2.1, 3, .inl fr))]) sz) s (mW m0 ma la lb n t v ++ [((ma 0), .inl (X.2.1, 371, .inl fa))] ++ [((ma 6), .inl (X.2.1, 55, .inl f84_2))] ++ [((ma 3), .inl (X.2.1, 3, .inl fr))]) H locs → lv_has ls 13 [(9, .int (nI k84)), (7, .long x61_7), (5, .long x84_5), (0, .ref m0), (1, .int (nI j_1)), (2, .int (nI j_3)), (3, .int (nI j_5)), (4, .int (nI j_7))] → W p l e _ s m _ below meth c H locs _ _ _ (F0 m 84 ls [])) (fun loop => loop (64 + 1) 0 (Int32.toInt64 0) fh bh _ _ _ (by omega) hI_fh (by omega) G hl) ?_
              intro zm
              induction zm with
              | zero => intro k84 x84_5 f84_2 b84_2 H locs ls zz q_hI_f84_2 q_hk_k84 _ _; exact absurd zz (by omega)
              | succ zm ih84 =>
                intro k84 x84_5 f84_2 b84_2 H locs ls zm_84 hI_f84_2 hk_k84 G hl
                have hO_f84_2 := hI_f84_2.2
                obtain ⟨hm0_f84_2, hm1_f84_2, hm2_f84_2, hm3_f84_2, hm4_f84_2⟩ := hO_f84_2
                refine lv_iload zx zb dX11_stumble_84 (lv_at hl 0 rfl) ?_
                refine lv_iconst (v := 1) zx zb dX11_stumble_86 (by decide) ?_
                refine lv_iload_n zx zb dX11_stumble_87 rfl (lv_at hl 6 rfl) ?_
                refine lv_ishl zx zb dX11_stumble_88 ?_
                obtain ⟨z8, hz8, ez8⟩ := k_shl6 (n := j_5) (by omega)
                refine k_it ez8 ?_
                refine lv_icmp_ge (tgt := 207) zx zb dX11_stumble_89 (by decide) (fun c_10 => ?_) (fun c_10 => ?_)
                · have fc_10 := j_le (a := z8) (b := k84) (by omega) (by omega) c_10
                  refine lv_aload_n zx zb dX11_stumble_207 rfl (lv_at hl 3 rfl) ?_
                  refine lv_lload zx zb dX11_stumble_208 (lv_at hl 2 rfl) ?_
                  refine lv_lload zx zb dX11_stumble_210 (lv_at hl 1 rfl) ?_
                  refine b_wv (cells' := 0) (slots' := 0) (wr := [((ma 0), .inl (X.2.1, 371, .inl fa))] ++ [((ma 6), .inl (X.2.1, 55, .inl f84_2))] ++ [((ma 3), .inl (X.2.1, 3, .inl fr))]) G rfl rfl [0] [1, 2, 3] rfl rfl rfl rfl (n_V (As := [.long x84_5, .long x61_7]) (rest := []) (C := RX11) (T := TX11) (N := 18) (ci := 9) S G (m_fraction l X m0 ma la lb n t v x84_5 x61_7 hI_n hI_t (k_p10n (by omega) hk_x61_7) H.size) gX11_stumble_X11_fraction rfl rfl rfl hdV_X11_fraction ⟨Nat.le_of_ble_eq_true rfl, Nat.le_of_ble_eq_true rfl⟩ [0] rfl rfl 0 rfl rfl rfl hl.1 (Nat.le_of_ble_eq_true rfl) dX11_stumble_212 ⟨Nat.le_of_ble_eq_true rfl, Nat.le_of_ble_eq_true rfl⟩) (fun u_11 H locs hp_11 G => ?_)
                  obtain ⟨la_11a, lb_11b⟩ := u_11
                  have hq_11 := hp_11
                  have hO_t := hI_t
                  obtain ⟨ht0_t, ht1_t⟩ := hO_t
                  have G : wd X (va_A (mW m0 ma la lb n t v ++ [((ma 0), .inl (X.2.1, 371, .inl fa))] ++ [((ma 6), .inl (X.2.1, 55, .inl fh))] ++ [((ma 3), .inl (X.2.1, 3, .inl fr))]) sz) (va_A (mW m0 ma la lb n t v ++ [((ma 0), .inl (X.2.1, 371, .inl fa))] ++ [((ma 6), .inl (X.2.1, 55, .inl fh))] ++ [((ma 3), .inl (X.2.1, 3, .inl fr))]) sz) s ([((ma 0), .inl (X.2.1, 371, .inl fa))] ++ [((ma 6), .inl (X.2.1, 55, .inl f84_2))] ++ [((ma 3), .inl (X.2.1, 3, .inl fr))] ++ mW m0 ma la_11a lb_11b n t v) H locs := G
                  refine lv_iconst (v := 1) zx zb dX11_stumble_215 (by decide) ?_
                  exact e_int S zr zlk (vp_nar_int _) G (la_11a, lb_11b, f84_2, b84_2, fr) [3, 0, 1, 2] rfl rfl (Or.inr rfl) (⟨hI_f84_2, trivial⟩) dX11_stumble_216
                · have fc_10 := j_nle (a := z8) (b := k84) (by omega) (by omega) c_10
                  refine lv_lconst (v := (Int32.toInt64 1)) zx zb dX11_stumble_92 (by decide) ?_
                  refine lv_lstore (lv' := [(10, .long (Int32.toInt64 1)), (9, .int (nI k84)), (7, .long x61_7), (5, .long x84_5), (0, .ref m0), (1, .int (nI j_1)), (2, .int (nI j_3)), (3, .int (nI j_5)), (4, .int (nI j_7))]) zx zb dX11_stumble_93 hl (by decide) rfl (fun ls hl => ?_)
                  refine lv_aload_n zx zb dX11_stumble_95 rfl (lv_at hl 4 rfl) ?_
                  refine b_wv (cells' := 0) (slots' := 0) (wr := [((ma 3), .inl (X.2.1, 3, .inl fr))]) G rfl rfl [0, 1, 2] [3] rfl rfl rfl rfl (n_V (As := []) (rest := []) (C := RX11) (T := TX11) (N := 18) (ci := 9) S G (m_layHand l X m0 ma la lb n t v fa ba f84_2 b84_2 hI_n hI_t hI_fa hI_f84_2 H.size) gX11_stumble_X11_layHand rfl rfl rfl hdV_X11_layHand ⟨Nat.le_of_ble_eq_true rfl, Nat.le_of_ble_eq_true rfl⟩ [0, 1, 2] rfl rfl 0 rfl rfl rfl hl.1 (Nat.le_of_ble_eq_true rfl) dX11_stumble_96 ⟨Nat.le_of_ble_eq_true rfl, Nat.le_of_ble_eq_true rfl⟩) (fun u_12 H locs hp_12 G => ?_)
                  obtain ⟨f_12a, b_12b⟩ := u_12
                  obtain ⟨hI_f_12a, hq_12⟩ := hp_12
                  have hO_f_12a := hI_f_12a.2
                  obtain ⟨hm0_f_12a, hm1_f_12a, hm2_f_12a, hm3_f_12a, hm4_f_12a⟩ := hO_f_12a
                  have G : wd X (va_A (mW m0 ma la lb n t v ++ [((ma 0), .inl (X.2.1, 371, .inl fa))] ++ [((ma 6), .inl (X.2.1, 55, .inl fh))] ++ [((ma 3), .inl (X.2.1, 3, .inl fr))]) sz) (va_A (mW m0 ma la lb n t v ++ [((ma 0), .inl (X.2.1, 371, .inl fa))] ++ [((ma 6), .inl (X.2.1, 55, .inl fh))] ++ [((ma 3), .inl (X.2.1, 3, .inl fr))]) sz) s ([((ma 3), .inl (X.2.1, 3, .inl fr))] ++ mW m0 ma la lb n t v ++ [((ma 0), .inl (X.2.1, 371, .inl fa))] ++ [((ma 6), .inl (X.2.1, 55, .inl f_12a))]) H locs := G
                  refine lv_iconst (v := 0) zx zb dX11_stumble_99 (by decide) ?_
                  refine lv_istore (lv' := [(12, .int 0), (10, .long (Int32.toInt64 1)), (9, .int (nI k84)), (7, .long x61_7), (5, .long x84_5), (0, .ref m0), (1, .int (nI j_1)), (2, .int (nI j_3)), (3, .int (nI j_5)), (4, .int (nI j_7))]) zx zb dX11_stumble_100 hl (by decide) rfl (fun ls hl => ?_)
                  refine k_loop (P := ∀ (zm : Nat) (k102 : Nat) (x102_10 : Int64) (f102_3 : Nat → Int32) (H : Heap) (locs : List Loc) (ls : Array Slot), 6 + 1 ≤ k102 + zm → InM f102_3 b_12b → (k102 ≤ 6) → wd X (va_A (mW m0 ma la lb n t v ++ [((ma 0), .inl (X.2.1, 371, .inl fa))] ++ [((ma 6), .inl (X.2.1, 55, .inl fh))] ++ [((ma 3), .inl (X.2.1, 3, .inl fr))]) sz) (va_A (mW m0 ma la lb n t v ++ [((ma 0), .inl (X.2.1, 371, .inl fa))] ++ [((ma 6), .inl (X.2.1, 55, .inl fh))] ++ [((ma 3), .inl (X.2.1, 3, .inl fr))]) sz) s ([((ma 3), .inl (X.2.1, 3, .inl fr))] ++ mW m0 ma la lb n t v ++ [((ma 0), .inl (X.2.1, 371, .inl fa))] ++ [((ma 6), .inl (X.2.1, 55, .inl f102_3))]) H locs → lv_has ls 13 [(12, .int (nI k102)), (10, .long x102_10), (9, .int (nI k84)), (7, .long x61_7), (5, .long x84_5), (0, .ref m0), (1, .int (nI j_1)), (2, .int (nI j_3)), (3, .int (nI j_5)), (4, .int (nI j_7))] → W p l e _ s m _ below meth c H locs _ _ _ (F0 m 102 ls [])) (fun loop => loop (6 + 1) 0 (Int32.toInt64 1) f_12a _ _ _ (by omega) hI_f_12a (by omega) G hl) ?_
                  intro zm
                  induction zm with
                  | zero => intro k102 x102_10 f102_3 H locs ls zz q_hI_f102_3 q_hk_k102 _ _; exact absurd zz (by omega)
                  | succ zm ih102 =>
                    intro k102 x102_10 f102_3 H locs ls zm_102 hI_f102_3 hk_k102 G hl
                    have hO_f102_3 := hI_f102_3.2
                    obtain ⟨hm0_f102_3, hm1_f102_3, hm2_f102_3, hm3_f102_3, hm4_f102_3⟩ := hO_f102_3
                    refine lv_iload zx zb dX11_stumble_102 (lv_at hl 0 rfl) ?_
                    refine lv_iload_n zx zb dX11_stumble_104 rfl (lv_at hl 8 rfl) ?_
                    refine lv_icmp_ge (tgt := 178) zx zb dX11_stumble_105 (by decide) (fun c_13 => ?_) (fun c_13 => ?_)
                    · have fc_13 := j_le (a := j_5) (b := k102) (by omega) (by omega) c_13
                      refine lv_lload zx zb dX11_stumble_178 (lv_at hl 4 rfl) ?_
                      refine lv_aload_n zx zb dX11_stumble_180 rfl (lv_at hl 5 rfl) ?_
                      refine r_get (C := RX11) (T := TX11) (N := 18) (ci := 9) (v := .ref (ma 6)) S in_X11_stumble_X11 G 1 rfl rfl 6 (by decide) lk_X11_stumble_27 rfl dX11_stumble_181 ?_
                      refine lv_iconst (v := 5) zx zb dX11_stumble_184 (by decide) ?_
                      refine lv_iload_n zx zb dX11_stumble_185 rfl (lv_at hl 6 rfl) ?_
                      refine r_iadd (v := (nI (5 + j_1))) S (nI_add 5 j_1) dX11_stumble_186 ?_
                      refine r_iald S G 3 rfl (vp_in_nI (by omega) (by decide)) rfl dX11_stumble_187 ?_
                      refine k_itE (fun y_14 => ?_)
                      refine lv_iload_n zx zb dX11_stumble_188 rfl (lv_at hl 7 rfl) ?_
                      refine k_cutW (PP := fun Wx => ∀ (x_16 : Int64) (H : Heap) (locs : List Loc) (ls : Array Slot), wd X (va_A (mW m0 ma la lb n t v ++ [((ma 0), .inl (X.2.1, 371, .inl fa))] ++ [((ma 6), .inl (X.2.1, 55, .inl fh))] ++ [((ma 3), .inl (X.2.1, 3, .inl fr))]) sz) (va_A (mW m0 ma la lb n t v ++ [((ma 0), .inl (X.2.1, 371, .inl fa))] ++ [((ma 6), .inl (X.2.1, 55, .inl fh))] ++ [((ma 3), .inl (X.2.1, 3, .inl fr))]) sz) s ([((ma 3), .inl (X.2.1, 3, .inl fr))] ++ mW m0 ma la lb n t v ++ [((ma 0), .inl (X.2.1, 371, .inl fa))] ++ [((ma 6), .inl (X.2.1, 55, .inl f102_3))]) H locs → lv_has ls 13 [(12, .int (nI k102)), (10, .long x102_10), (9, .int (nI k84)), (7, .long x61_7), (5, .long x84_5), (0, .ref m0), (1, .int (nI j_1)), (2, .int (nI j_3)), (3, .int (nI j_5)), (4, .int (nI j_7))] → Wx (F0 m 198 ls [.long x_16, .long x84_5]) H locs) ?_ ?_
                      · intro join_189
                        refine lv_icmp_lt (tgt := 197) zx zb dX11_stumble_189 (by decide) (fun c_15 => ?_) (fun c_15 => ?_)
                        · refine lv_lconst (v := (Int32.toInt64 0)) zx zb dX11_stumble_197 (by decide) ?_
                          exact join_189 (Int32.toInt64 0) _ _ _  G hl
                        · refine lv_lload zx zb dX11_stumble_192 (lv_at hl 1 rfl) ?_
                          refine lv_goto (tgt := 198) zx zb dX11_stumble_194 (by decide) ?_
                          exact join_189 x102_10 _ _ _  G hl
                      · intro x_16 H locs ls  G hl
                        refine r_ladd (v := (x84_5 + x_16)) S rfl dX11_stumble_198 ?_
                        refine lv_lstore (lv' := [(5, .long (x84_5 + x_16)), (12, .int (nI k102)), (10, .long x102_10), (9, .int (nI k84)), (7, .long x61_7), (0, .ref m0), (1, .int (nI j_1)), (2, .int (nI j_3)), (3, .int (nI j_5)), (4, .int (nI j_7))]) zx zb dX11_stumble_199 hl (by decide) rfl (fun ls hl => ?_)
                        refine lv_iinc (v := (nI (k84 + 1))) (lv' := [(9, .int (nI (k84 + 1))), (5, .long (x84_5 + x_16)), (12, .int (nI k102)), (10, .long x102_10), (7, .long x61_7), (0, .ref m0), (1, .int (nI j_1)), (2, .int (nI j_3)), (3, .int (nI j_5)), (4, .int (nI j_7))]) zx zb dX11_stumble_201 hl (k := 3) rfl (nI_add k84 1) (by decide) rfl (fun ls hl => ?_)
                        refine lv_goto (tgt := 84) zx zb dX11_stumble_204 (by decide) ?_
                        have G : wd X (va_A (mW m0 ma la lb n t v ++ [((ma 0), .inl (X.2.1, 371, .inl fa))] ++ [((ma 6), .inl (X.2.1, 55, .inl fh))] ++ [((ma 3), .inl (X.2.1, 3, .inl fr))]) sz) (va_A (mW m0 ma la lb n t v ++ [((ma 0), .inl (X.2.1, 371, .inl fa))] ++ [((ma 6), .inl (X.2.1, 55, .inl fh))] ++ [((ma 3), .inl (X.2.1, 3, .inl fr))]) sz) s (mW m0 ma la lb n t v ++ [((ma 0), .inl (X.2.1, 371, .inl fa))] ++ [((ma 6), .inl (X.2.1, 55, .inl f102_3))] ++ [((ma 3), .inl (X.2.1, 3, .inl fr))]) H locs := wd_sub G [1, 2, 3, 0] rfl rfl
                        have hl := lv_sub hl (l' := [(9, .int (nI (k84 + 1))), (7, .long x61_7), (5, .long (x84_5 + x_16)), (0, .ref m0), (1, .int (nI j_1)), (2, .int (nI j_3)), (3, .int (nI j_5)), (4, .int (nI j_7))]) [0, 4, 1, 5, 6, 7, 8, 9] rfl
                        exact ih84 (k84 + 1) (x84_5 + x_16) f102_3 b_12b _ _ _ (by omega) hI_f102_3 (by omega) G hl
                    · have fc_13 := j_nle (a := j_5) (b := k102) (by omega) (by omega) c_13
                      refine lv_lload zx zb dX11_stumble_108 (lv_at hl 1 rfl) ?_
                      refine lv_iload zx zb dX11_stumble_110 (lv_at hl 2 rfl) ?_
                      refine lv_iload zx zb dX11_stumble_112 (lv_at hl 0 rfl) ?_
                      refine o_ri (cells' := 0) (slots' := 0) G rfl rfl (n_S (As := [.int (nI k84), .int (nI k102)]) (rest := [.long x102_10]) S G (m_has l X (nI k84) (nI k102) H.size) gX11_stumble_X11_has rfl rfl rfl hdS_X11_has ⟨Nat.le_of_ble_eq_true rfl, Nat.le_of_ble_eq_true rfl⟩ [] rfl rfl rfl hl.1 (Nat.le_of_ble_eq_true rfl) dX11_stumble_114 ⟨Nat.le_of_ble_eq_true rfl, Nat.le_of_ble_eq_true rfl⟩) (fun r_17 u_17 H locs hp_17 G => ?_)
                      have G : wd X (va_A (mW m0 ma la lb n t v ++ [((ma 0), .inl (X.2.1, 371, .inl fa))] ++ [((ma 6), .inl (X.2.1, 55, .inl fh))] ++ [((ma 3), .inl (X.2.1, 3, .inl fr))]) sz) (va_A (mW m0 ma la lb n t v ++ [((ma 0), .inl (X.2.1, 371, .inl fa))] ++ [((ma 6), .inl (X.2.1, 55, .inl fh))] ++ [((ma 3), .inl (X.2.1, 3, .inl fr))]) sz) s ([((ma 3), .inl (X.2.1, 3, .inl fr))] ++ mW m0 ma la lb n t v ++ [((ma 0), .inl (X.2.1, 371, .inl fa))] ++ [((ma 6), .inl (X.2.1, 55, .inl f102_3))]) H locs := G
                      refine k_cutW (PP := fun Wx => ∀ (x_19 : Int64) (H : Heap) (locs : List Loc) (ls : Array Slot), wd X (va_A (mW m0 ma la lb n t v ++ [((ma 0), .inl (X.2.1, 371, .inl fa))] ++ [((ma 6), .inl (X.2.1, 55, .inl fh))] ++ [((ma 3), .inl (X.2.1, 3, .inl fr))]) sz) (va_A (mW m0 ma la lb n t v ++ [((ma 0), .inl (X.2.1, 371, .inl fa))] ++ [((ma 6), .inl (X.2.1, 55, .inl fh))] ++ [((ma 3), .inl (X.2.1, 3, .inl fr))]) sz) s ([((ma 3), .inl (X.2.1, 3, .inl fr))] ++ mW m0 ma la lb n t v ++ [((ma 0), .inl (X.2.1, 371, .inl fa))] ++ [((ma 6), .inl (X.2.1, 55, .inl f102_3))]) H locs → lv_has ls 13 [(12, .int (nI k102)), (10, .long x102_10), (9, .int (nI k84)), (7, .long x61_7), (5, .long x84_5), (0, .ref m0), (1, .int (nI j_1)), (2, .int (nI j_3)), (3, .int (nI j_5)), (4, .int (nI j_7))] → Wx (F0 m 132 ls [.long x_19, .long x102_10]) H locs) ?_ ?_
                      · intro join_117
                        refine lv_if_eq (tgt := 126) zx zb dX11_stumble_117 (by decide) (fun c_18 => ?_) (fun c_18 => ?_)
                        · refine lv_bipush (v := 10) zx zb dX11_stumble_126 (by decide) ?_
                          refine lv_iload zx zb dX11_stumble_128 (lv_at hl 9 rfl) ?_
                          refine r_isub (v := (10 - (nI j_7))) S rfl dX11_stumble_130 ?_
                          refine lv_i2l (v := (Int32.toInt64 (10 - (nI j_7)))) zx zb dX11_stumble_131 rfl ?_
                          exact join_117 (Int32.toInt64 (10 - (nI j_7))) _ _ _  G hl
                        · refine lv_iload zx zb dX11_stumble_120 (lv_at hl 9 rfl) ?_
                          refine lv_i2l (v := (Int32.toInt64 (nI j_7))) zx zb dX11_stumble_122 rfl ?_
                          refine lv_goto (tgt := 132) zx zb dX11_stumble_123 (by decide) ?_
                          exact join_117 (Int32.toInt64 (nI j_7)) _ _ _  G hl
                      · intro x_19 H locs ls  G hl
                        refine r_lmul (v := (x102_10 * x_19)) S rfl dX11_stumble_132 ?_
                        refine lv_lstore (lv' := [(10, .long (x102_10 * x_19)), (12, .int (nI k102)), (9, .int (nI k84)), (7, .long x61_7), (5, .long x84_5), (0, .ref m0), (1, .int (nI j_1)), (2, .int (nI j_3)), (3, .int (nI j_5)), (4, .int (nI j_7))]) zx zb dX11_stumble_133 hl (by decide) rfl (fun ls hl => ?_)
                        refine lv_aload_n zx zb dX11_stumble_135 rfl (lv_at hl 5 rfl) ?_
                        refine r_get (C := RX11) (T := TX11) (N := 18) (ci := 9) (v := .ref (ma 6)) S in_X11_stumble_X11 G 1 rfl rfl 6 (by decide) lk_X11_stumble_27 rfl dX11_stumble_136 ?_
                        refine lv_bipush (v := 35) zx zb dX11_stumble_139 (by decide) ?_
                        refine lv_dup2_11 zx zb dX11_stumble_141 rfl rfl ?_
                        refine r_iald S G 3 rfl (k_vp (by decide)) rfl dX11_stumble_142 ?_
                        refine k_itE (fun y_20 => ?_)
                        refine lv_iconst (v := 1) zx zb dX11_stumble_143 (by decide) ?_
                        refine r_iadd (v := (y_20 + 1)) S rfl dX11_stumble_144 ?_
                        refine r_iast S G 3 rfl (k_vp (by decide)) dX11_stumble_145 (fun H locs G => ?_)
                        obtain ⟨f_21, hI_f_21, G⟩ : ∃ f_21 : Nat → Int32, InM f_21 b_12b ∧ wd X (va_A (mW m0 ma la lb n t v ++ [((ma 0), .inl (X.2.1, 371, .inl fa))] ++ [((ma 6), .inl (X.2.1, 55, .inl fh))] ++ [((ma 3), .inl (X.2.1, 3, .inl fr))]) sz) (va_A (mW m0 ma la lb n t v ++ [((ma 0), .inl (X.2.1, 371, .inl fa))] ++ [((ma 6), .inl (X.2.1, 55, .inl fh))] ++ [((ma 3), .inl (X.2.1, 3, .inl fr))]) sz) s ([((ma 3), .inl (X.2.1, 3, .inl fr))] ++ mW m0 ma la lb n t v ++ [((ma 0), .inl (X.2.1, 371, .inl fa))] ++ [((ma 6), .inl (X.2.1, 55, .inl f_21))]) H locs := ⟨_, InM_o hI_f102_3 (by decide), G⟩
                        have hO_f_21 := hI_f_21.2
                        obtain ⟨hm0_f_21, hm1_f_21, hm2_f_21, hm3_f_21, hm4_f_21⟩ := hO_f_21
                        refine lv_aload_n zx zb dX11_stumble_146 rfl (lv_at hl 5 rfl) ?_
                        refine r_get (C := RX11) (T := TX11) (N := 18) (ci := 9) (v := .ref (ma 6)) S in_X11_stumble_X11 G 1 rfl rfl 6 (by decide) lk_X11_stumble_27 rfl dX11_stumble_147 ?_
                        refine lv_iload_n zx zb dX11_stumble_150 rfl (lv_at hl 6 rfl) ?_
                        refine o_ri (cells' := 0) (slots' := 0) G rfl rfl (n_S (As := [.ref (ma 6), .int (nI j_1)]) (rest := []) S G (m_isHome l X (ma 6) 55 f_21 b_12b j_1 hI_f_21 (by omega) (by omega) (by omega) H.size) gX11_stumble_X11_isHome rfl rfl rfl hdS_X11_isHome ⟨Nat.le_of_ble_eq_true rfl, Nat.le_of_ble_eq_true rfl⟩ [3] rfl rfl rfl hl.1 (Nat.le_of_ble_eq_true rfl) dX11_stumble_151 ⟨Nat.le_of_ble_eq_true rfl, Nat.le_of_ble_eq_true rfl⟩) (fun r_22 u_22 H locs hp_22 G => ?_)
                        have G : wd X (va_A (mW m0 ma la lb n t v ++ [((ma 0), .inl (X.2.1, 371, .inl fa))] ++ [((ma 6), .inl (X.2.1, 55, .inl fh))] ++ [((ma 3), .inl (X.2.1, 3, .inl fr))]) sz) (va_A (mW m0 ma la lb n t v ++ [((ma 0), .inl (X.2.1, 371, .inl fa))] ++ [((ma 6), .inl (X.2.1, 55, .inl fh))] ++ [((ma 3), .inl (X.2.1, 3, .inl fr))]) sz) s ([((ma 3), .inl (X.2.1, 3, .inl fr))] ++ mW m0 ma la lb n t v ++ [((ma 0), .inl (X.2.1, 371, .inl fa))] ++ [((ma 6), .inl (X.2.1, 55, .inl f_21))]) H locs := G
                        refine k_cutW (PP := fun Wx => ∀ (f_24 : Nat → Int32) (H : Heap) (locs : List Loc) (ls : Array Slot), InM f_24 b_12b → wd X (va_A (mW m0 ma la lb n t v ++ [((ma 0), .inl (X.2.1, 371, .inl fa))] ++ [((ma 6), .inl (X.2.1, 55, .inl fh))] ++ [((ma 3), .inl (X.2.1, 3, .inl fr))]) sz) (va_A (mW m0 ma la lb n t v ++ [((ma 0), .inl (X.2.1, 371, .inl fa))] ++ [((ma 6), .inl (X.2.1, 55, .inl fh))] ++ [((ma 3), .inl (X.2.1, 3, .inl fr))]) sz) s ([((ma 3), .inl (X.2.1, 3, .inl fr))] ++ mW m0 ma la lb n t v ++ [((ma 0), .inl (X.2.1, 371, .inl fa))] ++ [((ma 6), .inl (X.2.1, 55, .inl f_24))]) H locs → lv_has ls 13 [(10, .long (x102_10 * x_19)), (12, .int (nI k102)), (9, .int (nI k84)), (7, .long x61_7), (5, .long x84_5), (0, .ref m0), (1, .int (nI j_1)), (2, .int (nI j_3)), (3, .int (nI j_5)), (4, .int (nI j_7))] → Wx (F0 m 172 ls []) H locs) ?_ ?_
                        · intro join_154
                          refine lv_if_ne (tgt := 172) zx zb dX11_stumble_154 (by decide) (fun c_23 => ?_) (fun c_23 => ?_)
                          · exact join_154 f_21 _ _ _ hI_f_21 G hl
                          · refine lv_aload_n zx zb dX11_stumble_157 rfl (lv_at hl 5 rfl) ?_
                            refine r_get (C := RX11) (T := TX11) (N := 18) (ci := 9) (v := .ref (ma 6)) S in_X11_stumble_X11 G 1 rfl rfl 6 (by decide) lk_X11_stumble_27 rfl dX11_stumble_158 ?_
                            refine lv_iload_n zx zb dX11_stumble_161 rfl (lv_at hl 6 rfl) ?_
                            refine lv_iload zx zb dX11_stumble_162 (lv_at hl 2 rfl) ?_
                            refine lv_iload zx zb dX11_stumble_164 (lv_at hl 1 rfl) ?_
                            refine o_ri (cells' := 0) (slots' := 0) G rfl rfl (n_S (As := [.int (nI k84), .int (nI k102)]) (rest := [.int (nI j_1), .ref (ma 6)]) S G (m_has l X (nI k84) (nI k102) H.size) gX11_stumble_X11_has rfl rfl rfl hdS_X11_has ⟨Nat.le_of_ble_eq_true rfl, Nat.le_of_ble_eq_true rfl⟩ [] rfl rfl rfl hl.1 (Nat.le_of_ble_eq_true rfl) dX11_stumble_166 ⟨Nat.le_of_ble_eq_true rfl, Nat.le_of_ble_eq_true rfl⟩) (fun r_25 u_25 H locs hp_25 G => ?_)
                            have G : wd X (va_A (mW m0 ma la lb n t v ++ [((ma 0), .inl (X.2.1, 371, .inl fa))] ++ [((ma 6), .inl (X.2.1, 55, .inl fh))] ++ [((ma 3), .inl (X.2.1, 3, .inl fr))]) sz) (va_A (mW m0 ma la lb n t v ++ [((ma 0), .inl (X.2.1, 371, .inl fa))] ++ [((ma 6), .inl (X.2.1, 55, .inl fh))] ++ [((ma 3), .inl (X.2.1, 3, .inl fr))]) sz) s ([((ma 3), .inl (X.2.1, 3, .inl fr))] ++ mW m0 ma la lb n t v ++ [((ma 0), .inl (X.2.1, 371, .inl fa))] ++ [((ma 6), .inl (X.2.1, 55, .inl f_21))]) H locs := G
                            refine b_wv (cells' := 0) (slots' := 0) (wr := [((ma 3), .inl (X.2.1, 3, .inl fr))] ++ mW m0 ma la lb n t v ++ [((ma 0), .inl (X.2.1, 371, .inl fa))]) G rfl rfl [3] [0, 1, 2] rfl rfl rfl rfl (n_S (As := [.ref (ma 6), .int (nI j_1), .int r_25]) (rest := []) S G (m_goOne l X (ma 6) 55 f_21 b_12b j_1 r_25 hI_f_21 (by omega) (by omega) (by omega) H.size) gX11_stumble_X11_goOne rfl rfl rfl hdS_X11_goOne ⟨Nat.le_of_ble_eq_true rfl, Nat.le_of_ble_eq_true rfl⟩ [3] rfl rfl rfl hl.1 (Nat.le_of_ble_eq_true rfl) dX11_stumble_169 ⟨Nat.le_of_ble_eq_true rfl, Nat.le_of_ble_eq_true rfl⟩) (fun u_26 H locs hp_26 G => ?_)
                            obtain ⟨f_26, rfl⟩ : ∃ z, z = u_26 := ⟨_, rfl⟩
                            obtain ⟨hI_f_26, hq_26⟩ := hp_26
                            have hO_f_26 := hI_f_26.2
                            obtain ⟨hm0_f_26, hm1_f_26, hm2_f_26, hm3_f_26, hm4_f_26⟩ := hO_f_26
                            have G : wd X (va_A (mW m0 ma la lb n t v ++ [((ma 0), .inl (X.2.1, 371, .inl fa))] ++ [((ma 6), .inl (X.2.1, 55, .inl fh))] ++ [((ma 3), .inl (X.2.1, 3, .inl fr))]) sz) (va_A (mW m0 ma la lb n t v ++ [((ma 0), .inl (X.2.1, 371, .inl fa))] ++ [((ma 6), .inl (X.2.1, 55, .inl fh))] ++ [((ma 3), .inl (X.2.1, 3, .inl fr))]) sz) s ([((ma 3), .inl (X.2.1, 3, .inl fr))] ++ mW m0 ma la lb n t v ++ [((ma 0), .inl (X.2.1, 371, .inl fa))] ++ [((ma 6), .inl (X.2.1, 55, .inl f_26))]) H locs := G
                            exact join_154 f_26 _ _ _ hI_f_26 G hl
                        · intro f_24 H locs ls hI_f_24 G hl
                          have hO_f_24 := hI_f_24.2
                          obtain ⟨hm0_f_24, hm1_f_24, hm2_f_24, hm3_f_24, hm4_f_24⟩ := hO_f_24
                          refine lv_iinc (v := (nI (k102 + 1))) (lv' := [(12, .int (nI (k102 + 1))), (10, .long (x102_10 * x_19)), (9, .int (nI k84)), (7, .long x61_7), (5, .long x84_5), (0, .ref m0), (1, .int (nI j_1)), (2, .int (nI j_3)), (3, .int (nI j_5)), (4, .int (nI j_7))]) zx zb dX11_stumble_172 hl (k := 1) rfl (nI_add k102 1) (by decide) rfl (fun ls hl => ?_)
                          refine lv_goto (tgt := 102) zx zb dX11_stumble_175 (by decide) ?_
                          exact ih102 (k102 + 1) (x102_10 * x_19) f_24 _ _ _ (by omega) hI_f_24 (by omega) G hl
            · have fc_9 := j_nle (a := j_5) (b := k61) (by omega) (by omega) c_9
              refine lv_lload zx zb dX11_stumble_67 (lv_at hl 1 rfl) ?_
              refine lv_ldc2 zx zb S.2.2.2.1 (S.2.2.2.2 _ mm_X11_stumble_c64) dX11_stumble_69 ?_
              refine k_ld (v := (Int32.toInt64 10)) (by decide) ?_
              refine r_lmul (v := (x61_7 * (Int32.toInt64 10))) S rfl dX11_stumble_72 ?_
              refine lv_lstore (lv' := [(7, .long (x61_7 * (Int32.toInt64 10))), (9, .int (nI k61)), (5, .long (Int32.toInt64 0)), (0, .ref m0), (1, .int (nI j_1)), (2, .int (nI j_3)), (3, .int (nI j_5)), (4, .int (nI j_7))]) zx zb dX11_stumble_73 hl (by decide) rfl (fun ls hl => ?_)
              refine lv_iinc (v := (nI (k61 + 1))) (lv' := [(9, .int (nI (k61 + 1))), (7, .long (x61_7 * (Int32.toInt64 10))), (5, .long (Int32.toInt64 0)), (0, .ref m0), (1, .int (nI j_1)), (2, .int (nI j_3)), (3, .int (nI j_5)), (4, .int (nI j_7))]) zx zb dX11_stumble_75 hl (k := 1) rfl (nI_add k61 1) (by decide) rfl (fun ls hl => ?_)
              refine lv_goto (tgt := 61) zx zb dX11_stumble_78 (by decide) ?_
              exact ih61 (k61 + 1) (x61_7 * (Int32.toInt64 10)) _ _ _ (by omega) (by omega) (by first | assumption | exact k_p10a | exact k_p10s (by omega) (by assumption)) G hl
        · refine lv_if_ne (tgt := 52) zx zb dX11_stumble_42 (by decide) (fun c_27 => absurd (by decide) c_27) (fun c_27 => ?_)
          refine lv_aload_n zx zb dX11_stumble_45 rfl (lv_at hl 0 rfl) ?_
          refine lv_bipush (v := (-2)) zx zb dX11_stumble_46 (by decide) ?_
          refine b_wi (cells' := 0) (slots' := 0) (wr := [((ma 0), .inl (X.2.1, 371, .inl fa))] ++ [((ma 6), .inl (X.2.1, 55, .inl fh))]) G rfl rfl [0, 3] [1, 2] rfl rfl rfl rfl (n_V (As := [.int (-2)]) (rest := []) (C := RX11) (T := TX11) (N := 18) (ci := 9) S G (m_bad l X m0 ma la lb n t v fr (-2) hI_n hI_t H.size) gX11_stumble_X11_bad rfl rfl rfl hdV_X11_bad ⟨Nat.le_of_ble_eq_true rfl, Nat.le_of_ble_eq_true rfl⟩ [0, 3] rfl rfl 0 rfl rfl rfl hl.1 (Nat.le_of_ble_eq_true rfl) dX11_stumble_48 ⟨Nat.le_of_ble_eq_true rfl, Nat.le_of_ble_eq_true rfl⟩) (fun r_28 u_28 H locs hp_28 G => ?_)
          obtain ⟨f_28, rfl⟩ : ∃ z, z = u_28 := ⟨_, rfl⟩
          have hq_28 := hp_28
          have G : wd X (va_A (mW m0 ma la lb n t v ++ [((ma 0), .inl (X.2.1, 371, .inl fa))] ++ [((ma 6), .inl (X.2.1, 55, .inl fh))] ++ [((ma 3), .inl (X.2.1, 3, .inl fr))]) sz) (va_A (mW m0 ma la lb n t v ++ [((ma 0), .inl (X.2.1, 371, .inl fa))] ++ [((ma 6), .inl (X.2.1, 55, .inl fh))] ++ [((ma 3), .inl (X.2.1, 3, .inl fr))]) sz) s ([((ma 0), .inl (X.2.1, 371, .inl fa))] ++ [((ma 6), .inl (X.2.1, 55, .inl fh))] ++ mW m0 ma la lb n t v ++ [((ma 3), .inl (X.2.1, 3, .inl f_28))]) H locs := G
          obtain rfl := hq_28
          exact e_int S zr zlk (vp_nar_int _) G (la, lb, fh, bh, f_28) [2, 0, 1, 3] rfl rfl (Or.inr rfl) (⟨hI_fh, trivial⟩) dX11_stumble_51
      · refine lv_if_eq (tgt := 45) zx zb dX11_stumble_29 (by decide) (fun c_29 => ?_) (fun c_29 => absurd (by decide) c_29)
        refine lv_aload_n zx zb dX11_stumble_45 rfl (lv_at hl 0 rfl) ?_
        refine lv_bipush (v := (-2)) zx zb dX11_stumble_46 (by decide) ?_
        refine b_wi (cells' := 0) (slots' := 0) (wr := [((ma 0), .inl (X.2.1, 371, .inl fa))] ++ [((ma 6), .inl (X.2.1, 55, .inl fh))]) G rfl rfl [0, 3] [1, 2] rfl rfl rfl rfl (n_V (As := [.int (-2)]) (rest := []) (C := RX11) (T := TX11) (N := 18) (ci := 9) S G (m_bad l X m0 ma la lb n t v fr (-2) hI_n hI_t H.size) gX11_stumble_X11_bad rfl rfl rfl hdV_X11_bad ⟨Nat.le_of_ble_eq_true rfl, Nat.le_of_ble_eq_true rfl⟩ [0, 3] rfl rfl 0 rfl rfl rfl hl.1 (Nat.le_of_ble_eq_true rfl) dX11_stumble_48 ⟨Nat.le_of_ble_eq_true rfl, Nat.le_of_ble_eq_true rfl⟩) (fun r_30 u_30 H locs hp_30 G => ?_)
        obtain ⟨f_30, rfl⟩ : ∃ z, z = u_30 := ⟨_, rfl⟩
        have hq_30 := hp_30
        have G : wd X (va_A (mW m0 ma la lb n t v ++ [((ma 0), .inl (X.2.1, 371, .inl fa))] ++ [((ma 6), .inl (X.2.1, 55, .inl fh))] ++ [((ma 3), .inl (X.2.1, 3, .inl fr))]) sz) (va_A (mW m0 ma la lb n t v ++ [((ma 0), .inl (X.2.1, 371, .inl fa))] ++ [((ma 6), .inl (X.2.1, 55, .inl fh))] ++ [((ma 3), .inl (X.2.1, 3, .inl fr))]) sz) s ([((ma 0), .inl (X.2.1, 371, .inl fa))] ++ [((ma 6), .inl (X.2.1, 55, .inl fh))] ++ mW m0 ma la lb n t v ++ [((ma 3), .inl (X.2.1, 3, .inl f_30))]) H locs := G
        obtain rfl := hq_30
        exact e_int S zr zlk (vp_nar_int _) G (la, lb, fh, bh, f_30) [2, 0, 1, 3] rfl rfl (Or.inr rfl) (⟨hI_fh, trivial⟩) dX11_stumble_51
    · refine lv_if_eq (tgt := 45) zx zb dX11_stumble_17 (by decide) (fun c_31 => ?_) (fun c_31 => absurd (by decide) c_31)
      refine lv_aload_n zx zb dX11_stumble_45 rfl (lv_at hl 0 rfl) ?_
      refine lv_bipush (v := (-2)) zx zb dX11_stumble_46 (by decide) ?_
      refine b_wi (cells' := 0) (slots' := 0) (wr := [((ma 0), .inl (X.2.1, 371, .inl fa))] ++ [((ma 6), .inl (X.2.1, 55, .inl fh))]) G rfl rfl [0, 3] [1, 2] rfl rfl rfl rfl (n_V (As := [.int (-2)]) (rest := []) (C := RX11) (T := TX11) (N := 18) (ci := 9) S G (m_bad l X m0 ma la lb n t v fr (-2) hI_n hI_t H.size) gX11_stumble_X11_bad rfl rfl rfl hdV_X11_bad ⟨Nat.le_of_ble_eq_true rfl, Nat.le_of_ble_eq_true rfl⟩ [0, 3] rfl rfl 0 rfl rfl rfl hl.1 (Nat.le_of_ble_eq_true rfl) dX11_stumble_48 ⟨Nat.le_of_ble_eq_true rfl, Nat.le_of_ble_eq_true rfl⟩) (fun r_32 u_32 H locs hp_32 G => ?_)
      obtain ⟨f_32, rfl⟩ : ∃ z, z = u_32 := ⟨_, rfl⟩
      have hq_32 := hp_32
      have G : wd X (va_A (mW m0 ma la lb n t v ++ [((ma 0), .inl (X.2.1, 371, .inl fa))] ++ [((ma 6), .inl (X.2.1, 55, .inl fh))] ++ [((ma 3), .inl (X.2.1, 3, .inl fr))]) sz) (va_A (mW m0 ma la lb n t v ++ [((ma 0), .inl (X.2.1, 371, .inl fa))] ++ [((ma 6), .inl (X.2.1, 55, .inl fh))] ++ [((ma 3), .inl (X.2.1, 3, .inl fr))]) sz) s ([((ma 0), .inl (X.2.1, 371, .inl fa))] ++ [((ma 6), .inl (X.2.1, 55, .inl fh))] ++ mW m0 ma la lb n t v ++ [((ma 3), .inl (X.2.1, 3, .inl f_32))]) H locs := G
      obtain rfl := hq_32
      exact e_int S zr zlk (vp_nar_int _) G (la, lb, fh, bh, f_32) [2, 0, 1, 3] rfl rfl (Or.inr rfl) (⟨hI_fh, trivial⟩) dX11_stumble_51
  · refine lv_if_eq (tgt := 45) zx zb dX11_stumble_5 (by decide) (fun c_33 => ?_) (fun c_33 => absurd (by decide) c_33)
    refine lv_aload_n zx zb dX11_stumble_45 rfl (lv_at hl 0 rfl) ?_
    refine lv_bipush (v := (-2)) zx zb dX11_stumble_46 (by decide) ?_
    refine b_wi (cells' := 0) (slots' := 0) (wr := [((ma 0), .inl (X.2.1, 371, .inl fa))] ++ [((ma 6), .inl (X.2.1, 55, .inl fh))]) G rfl rfl [0, 3] [1, 2] rfl rfl rfl rfl (n_V (As := [.int (-2)]) (rest := []) (C := RX11) (T := TX11) (N := 18) (ci := 9) S G (m_bad l X m0 ma la lb n t v fr (-2) hI_n hI_t H.size) gX11_stumble_X11_bad rfl rfl rfl hdV_X11_bad ⟨Nat.le_of_ble_eq_true rfl, Nat.le_of_ble_eq_true rfl⟩ [0, 3] rfl rfl 0 rfl rfl rfl hl.1 (Nat.le_of_ble_eq_true rfl) dX11_stumble_48 ⟨Nat.le_of_ble_eq_true rfl, Nat.le_of_ble_eq_true rfl⟩) (fun r_34 u_34 H locs hp_34 G => ?_)
    obtain ⟨f_34, rfl⟩ : ∃ z, z = u_34 := ⟨_, rfl⟩
    have hq_34 := hp_34
    have G : wd X (va_A (mW m0 ma la lb n t v ++ [((ma 0), .inl (X.2.1, 371, .inl fa))] ++ [((ma 6), .inl (X.2.1, 55, .inl fh))] ++ [((ma 3), .inl (X.2.1, 3, .inl fr))]) sz) (va_A (mW m0 ma la lb n t v ++ [((ma 0), .inl (X.2.1, 371, .inl fa))] ++ [((ma 6), .inl (X.2.1, 55, .inl fh))] ++ [((ma 3), .inl (X.2.1, 3, .inl fr))]) sz) s ([((ma 0), .inl (X.2.1, 371, .inl fa))] ++ [((ma 6), .inl (X.2.1, 55, .inl fh))] ++ mW m0 ma la lb n t v ++ [((ma 3), .inl (X.2.1, 3, .inl f_34))]) H locs := G
    obtain rfl := hq_34
    exact e_int S zr zlk (vp_nar_int _) G (la, lb, fh, bh, f_34) [2, 0, 1, 3] rfl rfl (Or.inr rfl) (⟨hI_fh, trivial⟩) dX11_stumble_51
theorem mm_X11_races_c191 : Cond.constantLong RX11 191 (999999) ∈ wsX11_races := by decide +kernel
theorem mm_X11_races_c66 : Cond.constantLong RX11 66 (60) ∈ wsX11_races := by decide +kernel
theorem mm_X11_races_c193 : Cond.constantLong RX11 193 (1103515245) ∈ wsX11_races := by decide +kernel
theorem mm_X11_races_c195 : Cond.constantLong RX11 195 (12345) ∈ wsX11_races := by decide +kernel
theorem mm_X11_races_c197 : Cond.constantLong RX11 197 (2147483648) ∈ wsX11_races := by decide +kernel
theorem mm_X11_races_c199 : Cond.constantLong RX11 199 (65536) ∈ wsX11_races := by decide +kernel
theorem mm_X11_races_c185 : Cond.constantLong RX11 185 (6) ∈ wsX11_races := by decide +kernel
theorem in_X11_races_X11 : ∀ w ∈ wsX110, w ∈ wsX11_races := by decide +kernel
theorem lk_X11_races_27 : Cond.fieldLink RX11 27 "EggSpoonsModel" "hand" "[I" ∈ wsX11_races := by decide +kernel
theorem mm_X11_races_c201 : Cond.constantLong RX11 201 (1048576) ∈ wsX11_races := by decide +kernel
theorem mm_X11_races_c64 : Cond.constantLong RX11 64 (10) ∈ wsX11_races := by decide +kernel
set_option maxHeartbeats 4000000 in
set_option maxRecDepth 100000 in
/-- races -/
theorem m_races (l : Launch) (X : EX) (m0 : Nat) (ma : Nat → Nat) (la : Int64) (lb : Int64) (n : Nat) (t : Nat → Nat) (v : Nat → Int32) (fa : Nat → Int32) (ba : Nat → Nat) (fh : Nat → Int32) (bh : Nat → Nat) (fr : Nat → Int32) (x1 : Int32) (x2 : Int32) (hI_n : n ≤ 150) (hI_t : InT t) (hI_fa : InM fa ba) (hI_fh : InM fh bh) (sz : Nat) : Met l yX11_races wsX11_races ({ frames := 4, cells := 0, slots := 0, locals := 93 } : Room) (pE X [.ref m0, .int x1, .int x2] (mW m0 ma la lb n t v ++ [((ma 0), .inl (X.2.1, 371, .inl fa))] ++ [((ma 6), .inl (X.2.1, 55, .inl fh))] ++ [((ma 3), .inl (X.2.1, 3, .inl fr))]) sz) (qI (fun (r : Int32) (u : (Nat → Int32) × (Nat → Nat) × (Nat → Int32)) => InM u.1 u.2.1 ∧ (True)) X (fun (u : (Nat → Int32) × (Nat → Nat) × (Nat → Int32)) => mW m0 ma la lb n t v ++ [((ma 0), .inl (X.2.1, 371, .inl fa))] ++ [((ma 6), .inl (X.2.1, 55, .inl u.1))] ++ [((ma 3), .inl (X.2.1, 3, .inl u.2.2))]) (mW m0 ma la lb n t v ++ [((ma 0), .inl (X.2.1, 371, .inl fa))] ++ [((ma 6), .inl (X.2.1, 55, .inl fh))] ++ [((ma 3), .inl (X.2.1, 3, .inl fr))]) sz) 0 0 (va_A (mW m0 ma la lb n t v ++ [((ma 0), .inl (X.2.1, 371, .inl fa))] ++ [((ma 6), .inl (X.2.1, 55, .inl fh))] ++ [((ma 3), .inl (X.2.1, 3, .inl fr))]) sz) := by
  refine mk_met (B := (va_A (mW m0 ma la lb n t v ++ [((ma 0), .inl (X.2.1, 371, .inl fa))] ++ [((ma 6), .inl (X.2.1, 55, .inl fh))] ++ [((ma 3), .inl (X.2.1, 3, .inl fr))]) sz)) (A := (va_A (mW m0 ma la lb n t v ++ [((ma 0), .inl (X.2.1, 371, .inl fa))] ++ [((ma 6), .inl (X.2.1, 55, .inl fh))] ++ [((ma 3), .inl (X.2.1, 3, .inl fr))]) sz)) (cc := cX11_races) (maxL := 7) (ret := (some .int)) (by decide) rfl (Nat.le_of_ble_eq_true rfl) k_w k_a (fun p e s m below meth c S zr zlk znm zsz G ls hl => ?_)
  have S : CallFix p m c cX11_races 7 s _ wsX11_races RX11 := S
  have zx := S.1
  have zb := S.2.1
  have hl : lv_has ls 7 [(0, .ref m0), (1, .int x1), (2, .int x2)] := hl
  have hO_t := hI_t
  obtain ⟨ht0_t, ht1_t⟩ := hO_t
  have hO_fa := hI_fa.2
  obtain ⟨hm0_fa, hm1_fa, hm2_fa, hm3_fa, hm4_fa⟩ := hO_fa
  have hO_fh := hI_fh.2
  obtain ⟨hm0_fh, hm1_fh, hm2_fh, hm3_fh, hm4_fh⟩ := hO_fh
  refine lv_iload_n zx zb dX11_races_0 rfl (lv_at hl 1 rfl) ?_
  refine lv_i2l (v := (Int32.toInt64 x1)) zx zb dX11_races_1 rfl ?_
  refine lv_lconst (v := (Int32.toInt64 0)) zx zb dX11_races_2 (by decide) ?_
  refine lv_ldc2 zx zb S.2.2.2.1 (S.2.2.2.2 _ mm_X11_races_c191) dX11_races_3 ?_
  refine k_ld (v := (Int32.toInt64 999999)) (by decide) ?_
  refine o_ri (cells' := 0) (slots' := 0) G rfl rfl (n_S (As := [.long (Int32.toInt64 x1), .long (Int32.toInt64 0), .long (Int32.toInt64 999999)]) (rest := []) S G (m_in l X x1 0 999999 s.heap.size) gX11_races_X11_in rfl rfl rfl hdS_X11_in ⟨Nat.le_of_ble_eq_true rfl, Nat.le_of_ble_eq_true rfl⟩ [] rfl rfl rfl hl.1 (Nat.le_of_ble_eq_true rfl) dX11_races_6 ⟨Nat.le_of_ble_eq_true rfl, Nat.le_of_ble_eq_true rfl⟩) (fun r_1 u_1 H locs hp_1 G => ?_)
  have G : wd X (va_A (mW m0 ma la lb n t v ++ [((ma 0), .inl (X.2.1, 371, .inl fa))] ++ [((ma 6), .inl (X.2.1, 55, .inl fh))] ++ [((ma 3), .inl (X.2.1, 3, .inl fr))]) sz) (va_A (mW m0 ma la lb n t v ++ [((ma 0), .inl (X.2.1, 371, .inl fa))] ++ [((ma 6), .inl (X.2.1, 55, .inl fh))] ++ [((ma 3), .inl (X.2.1, 3, .inl fr))]) sz) s (mW m0 ma la lb n t v ++ [((ma 0), .inl (X.2.1, 371, .inl fa))] ++ [((ma 6), .inl (X.2.1, 55, .inl fh))] ++ [((ma 3), .inl (X.2.1, 3, .inl fr))]) H locs := G
  rcases hp_1 with ⟨rfl, hw_1⟩ | ⟨rfl, hw_1⟩
  · obtain ⟨j_1, ⟨ja_1, jb_1⟩, rfl⟩ := k_natR (a := 0) (b := 999999) hw_1 rfl rfl (by decide) (by decide)
    refine lv_if_eq (tgt := 24) zx zb dX11_races_9 (by decide) (fun c_2 => absurd c_2 (by decide)) (fun c_2 => ?_)
    refine lv_iload_n zx zb dX11_races_12 rfl (lv_at hl 2 rfl) ?_
    refine lv_i2l (v := (Int32.toInt64 x2)) zx zb dX11_races_13 rfl ?_
    refine lv_lconst (v := (Int32.toInt64 0)) zx zb dX11_races_14 (by decide) ?_
    refine lv_ldc2 zx zb S.2.2.2.1 (S.2.2.2.2 _ mm_X11_races_c66) dX11_races_15 ?_
    refine k_ld (v := (Int32.toInt64 60)) (by decide) ?_
    refine o_ri (cells' := 0) (slots' := 0) G rfl rfl (n_S (As := [.long (Int32.toInt64 x2), .long (Int32.toInt64 0), .long (Int32.toInt64 60)]) (rest := []) S G (m_in l X x2 0 60 H.size) gX11_races_X11_in rfl rfl rfl hdS_X11_in ⟨Nat.le_of_ble_eq_true rfl, Nat.le_of_ble_eq_true rfl⟩ [] rfl rfl rfl hl.1 (Nat.le_of_ble_eq_true rfl) dX11_races_18 ⟨Nat.le_of_ble_eq_true rfl, Nat.le_of_ble_eq_true rfl⟩) (fun r_3 u_3 H locs hp_3 G => ?_)
    have G : wd X (va_A (mW m0 ma la lb n t v ++ [((ma 0), .inl (X.2.1, 371, .inl fa))] ++ [((ma 6), .inl (X.2.1, 55, .inl fh))] ++ [((ma 3), .inl (X.2.1, 3, .inl fr))]) sz) (va_A (mW m0 ma la lb n t v ++ [((ma 0), .inl (X.2.1, 371, .inl fa))] ++ [((ma 6), .inl (X.2.1, 55, .inl fh))] ++ [((ma 3), .inl (X.2.1, 3, .inl fr))]) sz) s (mW m0 ma la lb n t v ++ [((ma 0), .inl (X.2.1, 371, .inl fa))] ++ [((ma 6), .inl (X.2.1, 55, .inl fh))] ++ [((ma 3), .inl (X.2.1, 3, .inl fr))]) H locs := G
    rcases hp_3 with ⟨rfl, hw_3⟩ | ⟨rfl, hw_3⟩
    · obtain ⟨j_3, ⟨ja_3, jb_3⟩, rfl⟩ := k_natR (a := 0) (b := 60) hw_3 rfl rfl (by decide) (by decide)
      refine lv_if_ne (tgt := 31) zx zb dX11_races_21 (by decide) (fun c_4 => ?_) (fun c_4 => absurd c_4 (by decide))
      refine lv_iload_n zx zb dX11_races_31 rfl (lv_at hl 1 rfl) ?_
      refine lv_i2l (v := (Int32.toInt64 (nI j_1))) zx zb dX11_races_32 rfl ?_
      refine k_ld (nI_l (by omega)) ?_
      refine lv_lstore_n (lv' := [(3, .long (lN j_1)), (0, .ref m0), (1, .int (nI j_1)), (2, .int (nI j_3))]) zx zb dX11_races_33 rfl hl (by decide) rfl (fun ls hl => ?_)
      refine lv_aload_n zx zb dX11_races_34 rfl (lv_at hl 1 rfl) ?_
      refine b_wv (cells' := 0) (slots' := 0) (wr := [((ma 3), .inl (X.2.1, 3, .inl fr))]) G rfl rfl [0, 1, 2] [3] rfl rfl rfl rfl (n_V (As := []) (rest := []) (C := RX11) (T := TX11) (N := 18) (ci := 9) S G (m_layHand l X m0 ma la lb n t v fa ba fh bh hI_n hI_t hI_fa hI_fh H.size) gX11_races_X11_layHand rfl rfl rfl hdV_X11_layHand ⟨Nat.le_of_ble_eq_true rfl, Nat.le_of_ble_eq_true rfl⟩ [0, 1, 2] rfl rfl 0 rfl rfl rfl hl.1 (Nat.le_of_ble_eq_true rfl) dX11_races_35 ⟨Nat.le_of_ble_eq_true rfl, Nat.le_of_ble_eq_true rfl⟩) (fun u_5 H locs hp_5 G => ?_)
      obtain ⟨f_5a, b_5b⟩ := u_5
      obtain ⟨hI_f_5a, hq_5⟩ := hp_5
      have hO_f_5a := hI_f_5a.2
      obtain ⟨hm0_f_5a, hm1_f_5a, hm2_f_5a, hm3_f_5a, hm4_f_5a⟩ := hO_f_5a
      have G : wd X (va_A (mW m0 ma la lb n t v ++ [((ma 0), .inl (X.2.1, 371, .inl fa))] ++ [((ma 6), .inl (X.2.1, 55, .inl fh))] ++ [((ma 3), .inl (X.2.1, 3, .inl fr))]) sz) (va_A (mW m0 ma la lb n t v ++ [((ma 0), .inl (X.2.1, 371, .inl fa))] ++ [((ma 6), .inl (X.2.1, 55, .inl fh))] ++ [((ma 3), .inl (X.2.1, 3, .inl fr))]) sz) s ([((ma 3), .inl (X.2.1, 3, .inl fr))] ++ mW m0 ma la lb n t v ++ [((ma 0), .inl (X.2.1, 371, .inl fa))] ++ [((ma 6), .inl (X.2.1, 55, .inl f_5a))]) H locs := G
      refine lv_iconst (v := 0) zx zb dX11_races_38 (by decide) ?_
      refine lv_istore (lv' := [(5, .int 0), (3, .long (lN j_1)), (0, .ref m0), (1, .int (nI j_1)), (2, .int (nI j_3))]) zx zb dX11_races_39 hl (by decide) rfl (fun ls hl => ?_)
      refine k_loop (P := ∀ (zm : Nat) (k41 : Nat) (x41_3 : Int64) (f41_3 : Nat → Int32) (H : Heap) (locs : List Loc) (ls : Array Slot), 60 + 1 ≤ k41 + zm → InM f41_3 b_5b → (k41 ≤ 60) → (∃ q : Nat, q < 2147483648 ∧ x41_3 = lN q) → wd X (va_A (mW m0 ma la lb n t v ++ [((ma 0), .inl (X.2.1, 371, .inl fa))] ++ [((ma 6), .inl (X.2.1, 55, .inl fh))] ++ [((ma 3), .inl (X.2.1, 3, .inl fr))]) sz) (va_A (mW m0 ma la lb n t v ++ [((ma 0), .inl (X.2.1, 371, .inl fa))] ++ [((ma 6), .inl (X.2.1, 55, .inl fh))] ++ [((ma 3), .inl (X.2.1, 3, .inl fr))]) sz) s ([((ma 3), .inl (X.2.1, 3, .inl fr))] ++ mW m0 ma la lb n t v ++ [((ma 0), .inl (X.2.1, 371, .inl fa))] ++ [((ma 6), .inl (X.2.1, 55, .inl f41_3))]) H locs → lv_has ls 7 [(5, .int (nI k41)), (3, .long x41_3), (0, .ref m0), (1, .int (nI j_1)), (2, .int (nI j_3))] → W p l e _ s m _ below meth c H locs _ _ _ (F0 m 41 ls [])) (fun loop => loop (60 + 1) 0 (lN j_1) f_5a _ _ _ (by omega) hI_f_5a (by omega) (by first | assumption | exact ⟨_, by omega, rfl⟩ | exact ⟨_, hz1, rfl⟩) G hl) ?_
      intro zm
      induction zm with
      | zero => intro k41 x41_3 f41_3 H locs ls zz q_hI_f41_3 q_hk_k41 q_hk_x41_3 _ _; exact absurd zz (by omega)
      | succ zm ih41 =>
        intro k41 x41_3 f41_3 H locs ls zm_41 hI_f41_3 hk_k41 hk_x41_3 G hl
        have hO_f41_3 := hI_f41_3.2
        obtain ⟨hm0_f41_3, hm1_f41_3, hm2_f41_3, hm3_f41_3, hm4_f41_3⟩ := hO_f41_3
        refine lv_iload zx zb dX11_races_41 (lv_at hl 0 rfl) ?_
        refine lv_iload_n zx zb dX11_races_43 rfl (lv_at hl 4 rfl) ?_
        refine lv_icmp_ge (tgt := 115) zx zb dX11_races_44 (by decide) (fun c_6 => ?_) (fun c_6 => ?_)
        · have fc_6 := j_le (a := j_3) (b := k41) (by omega) (by omega) c_6
          refine lv_aload_n zx zb dX11_races_115 rfl (lv_at hl 2 rfl) ?_
          refine r_get (C := RX11) (T := TX11) (N := 18) (ci := 9) (v := .ref (ma 6)) S in_X11_races_X11 G 1 rfl rfl 6 (by decide) lk_X11_races_27 rfl dX11_races_116 ?_
          refine o_ri (cells' := 0) (slots' := 0) G rfl rfl (n_S (As := [.ref (ma 6)]) (rest := []) S G (m_manyHome l X (ma 6) 55 f41_3 b_5b hI_f41_3 (by omega) (by omega) H.size) gX11_races_X11_manyHome rfl rfl rfl hdS_X11_manyHome ⟨Nat.le_of_ble_eq_true rfl, Nat.le_of_ble_eq_true rfl⟩ [3] rfl rfl rfl hl.1 (Nat.le_of_ble_eq_true rfl) dX11_races_119 ⟨Nat.le_of_ble_eq_true rfl, Nat.le_of_ble_eq_true rfl⟩) (fun r_7 u_7 H locs hp_7 G => ?_)
          have G : wd X (va_A (mW m0 ma la lb n t v ++ [((ma 0), .inl (X.2.1, 371, .inl fa))] ++ [((ma 6), .inl (X.2.1, 55, .inl fh))] ++ [((ma 3), .inl (X.2.1, 3, .inl fr))]) sz) (va_A (mW m0 ma la lb n t v ++ [((ma 0), .inl (X.2.1, 371, .inl fa))] ++ [((ma 6), .inl (X.2.1, 55, .inl fh))] ++ [((ma 3), .inl (X.2.1, 3, .inl fr))]) sz) s ([((ma 3), .inl (X.2.1, 3, .inl fr))] ++ mW m0 ma la lb n t v ++ [((ma 0), .inl (X.2.1, 371, .inl fa))] ++ [((ma 6), .inl (X.2.1, 55, .inl f41_3))]) H locs := G
          exact e_int S zr zlk (vp_nar_int _) G (f41_3, b_5b, fr) [1, 2, 3, 0] rfl rfl (Or.inr rfl) (⟨hI_f41_3, trivial⟩) dX11_races_122
        · have fc_6 := j_nle (a := j_3) (b := k41) (by omega) (by omega) c_6
          obtain ⟨z, zz, rfl⟩ := hk_x41_3
          refine lv_lload_n zx zb dX11_races_47 rfl (lv_at hl 1 rfl) ?_
          refine lv_ldc2 zx zb S.2.2.2.1 (S.2.2.2.2 _ mm_X11_races_c193) dX11_races_48 ?_
          refine k_ld (v := (Int32.toInt64 1103515245)) (by decide) ?_
          refine r_lmul (v := ((lN z) * (Int32.toInt64 1103515245))) S rfl dX11_races_51 ?_
          refine lv_ldc2 zx zb S.2.2.2.1 (S.2.2.2.2 _ mm_X11_races_c195) dX11_races_52 ?_
          refine k_ld (v := (Int32.toInt64 12345)) (by decide) ?_
          refine r_ladd (v := (((lN z) * (Int32.toInt64 1103515245)) + (Int32.toInt64 12345))) S rfl dX11_races_55 ?_
          refine lv_ldc2 zx zb S.2.2.2.1 (S.2.2.2.2 _ mm_X11_races_c197) dX11_races_56 ?_
          refine lv_lrem zx zb dX11_races_59 (by decide) ?_
          obtain ⟨z1, hz1, ez1⟩ := k_rx zz
          refine k_ld ez1 ?_
          refine lv_lstore_n (lv' := [(3, .long (lN z1)), (5, .int (nI k41)), (0, .ref m0), (1, .int (nI j_1)), (2, .int (nI j_3))]) zx zb dX11_races_60 rfl hl (by decide) rfl (fun ls hl => ?_)
          refine lv_lload_n zx zb dX11_races_61 rfl (lv_at hl 0 rfl) ?_
          refine lv_ldc2 zx zb S.2.2.2.1 (S.2.2.2.2 _ mm_X11_races_c199) dX11_races_62 ?_
          refine k_ld (v := (Int32.toInt64 65536)) (by decide) ?_
          refine lv_ldiv zx zb dX11_races_65 (by decide) ?_
          refine lv_ldc2 zx zb S.2.2.2.1 (S.2.2.2.2 _ mm_X11_races_c185) dX11_races_66 ?_
          refine k_ld (v := (Int32.toInt64 6)) (by decide) ?_
          refine lv_lrem zx zb dX11_races_69 (by decide) ?_
          refine lv_l2i (v := (Int64.toInt32 (((lN z1) / (Int32.toInt64 65536)) - ((lN z1) / (Int32.toInt64 65536)) / (Int32.toInt64 6) * (Int32.toInt64 6)))) zx zb dX11_races_70 rfl ?_
          obtain ⟨j, hj, ej⟩ := k_ri hz1
          refine k_it ej ?_
          refine lv_istore (lv' := [(6, .int (nI j)), (3, .long (lN z1)), (5, .int (nI k41)), (0, .ref m0), (1, .int (nI j_1)), (2, .int (nI j_3))]) zx zb dX11_races_71 hl (by decide) rfl (fun ls hl => ?_)
          refine lv_aload_n zx zb dX11_races_73 rfl (lv_at hl 3 rfl) ?_
          refine lv_iload zx zb dX11_races_74 (lv_at hl 0 rfl) ?_
          refine o_ri (cells' := 0) (slots' := 0) G rfl rfl (n_V (As := [.int (nI j)]) (rest := []) (C := RX11) (T := TX11) (N := 18) (ci := 9) S G (m_isOne l X m0 ma la lb n t v fa ba (nI j) hI_n hI_t hI_fa H.size) gX11_races_X11_isOne rfl rfl rfl hdV_X11_isOne ⟨Nat.le_of_ble_eq_true rfl, Nat.le_of_ble_eq_true rfl⟩ [1, 2] rfl rfl 1 rfl rfl rfl hl.1 (Nat.le_of_ble_eq_true rfl) dX11_races_76 ⟨Nat.le_of_ble_eq_true rfl, Nat.le_of_ble_eq_true rfl⟩) (fun r_8 u_8 H locs hp_8 G => ?_)
          have G : wd X (va_A (mW m0 ma la lb n t v ++ [((ma 0), .inl (X.2.1, 371, .inl fa))] ++ [((ma 6), .inl (X.2.1, 55, .inl fh))] ++ [((ma 3), .inl (X.2.1, 3, .inl fr))]) sz) (va_A (mW m0 ma la lb n t v ++ [((ma 0), .inl (X.2.1, 371, .inl fa))] ++ [((ma 6), .inl (X.2.1, 55, .inl fh))] ++ [((ma 3), .inl (X.2.1, 3, .inl fr))]) sz) s ([((ma 3), .inl (X.2.1, 3, .inl fr))] ++ mW m0 ma la lb n t v ++ [((ma 0), .inl (X.2.1, 371, .inl fa))] ++ [((ma 6), .inl (X.2.1, 55, .inl f41_3))]) H locs := G
          rcases hp_8 with ⟨rfl, hj_8⟩ | rfl
          · obtain ⟨j_8, hj_8, ej_8⟩ := hj_8
            have ek_8 := j_eq (by omega) (by omega) ej_8
            refine lv_if_eq (tgt := 102) zx zb dX11_races_79 (by decide) (fun c_9 => absurd c_9 (by decide)) (fun c_9 => ?_)
            refine lv_aload_n zx zb dX11_races_82 rfl (lv_at hl 3 rfl) ?_
            refine r_get (C := RX11) (T := TX11) (N := 18) (ci := 9) (v := .ref (ma 6)) S in_X11_races_X11 G 1 rfl rfl 6 (by decide) lk_X11_races_27 rfl dX11_races_83 ?_
            refine lv_bipush (v := 11) zx zb dX11_races_86 (by decide) ?_
            refine lv_iload zx zb dX11_races_88 (lv_at hl 0 rfl) ?_
            refine r_iadd (v := (nI (11 + j))) S (nI_add 11 j) dX11_races_90 ?_
            refine lv_lload_n zx zb dX11_races_91 rfl (lv_at hl 1 rfl) ?_
            refine lv_ldc2 zx zb S.2.2.2.1 (S.2.2.2.2 _ mm_X11_races_c201) dX11_races_92 ?_
            refine k_ld (v := (Int32.toInt64 1048576)) (by decide) ?_
            refine lv_ldiv zx zb dX11_races_95 (by decide) ?_
            refine k_ldE (fun y_10 => ?_)
            refine lv_ldc2 zx zb S.2.2.2.1 (S.2.2.2.2 _ mm_X11_races_c64) dX11_races_96 ?_
            refine k_ld (v := (Int32.toInt64 10)) (by decide) ?_
            refine lv_lrem zx zb dX11_races_99 (by decide) ?_
            refine k_ldE (fun y_11 => ?_)
            refine lv_l2i (v := (Int64.toInt32 y_11)) zx zb dX11_races_100 rfl ?_
            refine r_iast S G 3 rfl (vp_in_nI (by omega) (by decide)) dX11_races_101 (fun H locs G => ?_)
            obtain ⟨f_12, hI_f_12, G⟩ : ∃ f_12 : Nat → Int32, InM f_12 b_5b ∧ wd X (va_A (mW m0 ma la lb n t v ++ [((ma 0), .inl (X.2.1, 371, .inl fa))] ++ [((ma 6), .inl (X.2.1, 55, .inl fh))] ++ [((ma 3), .inl (X.2.1, 3, .inl fr))]) sz) (va_A (mW m0 ma la lb n t v ++ [((ma 0), .inl (X.2.1, 371, .inl fa))] ++ [((ma 6), .inl (X.2.1, 55, .inl fh))] ++ [((ma 3), .inl (X.2.1, 3, .inl fr))]) sz) s ([((ma 3), .inl (X.2.1, 3, .inl fr))] ++ mW m0 ma la lb n t v ++ [((ma 0), .inl (X.2.1, 371, .inl fa))] ++ [((ma 6), .inl (X.2.1, 55, .inl f_12))]) H locs := ⟨_, InM_o hI_f41_3 (by rw [nI_clamp (by omega)]; omega), G⟩
            have hO_f_12 := hI_f_12.2
            obtain ⟨hm0_f_12, hm1_f_12, hm2_f_12, hm3_f_12, hm4_f_12⟩ := hO_f_12
            refine lv_aload_n zx zb dX11_races_102 rfl (lv_at hl 3 rfl) ?_
            refine r_get (C := RX11) (T := TX11) (N := 18) (ci := 9) (v := .ref (ma 6)) S in_X11_races_X11 G 1 rfl rfl 6 (by decide) lk_X11_races_27 rfl dX11_races_103 ?_
            refine b_wv (cells' := 0) (slots' := 0) (wr := [((ma 3), .inl (X.2.1, 3, .inl fr))] ++ mW m0 ma la lb n t v ++ [((ma 0), .inl (X.2.1, 371, .inl fa))]) G rfl rfl [3] [0, 1, 2] rfl rfl rfl rfl (n_S (As := [.ref (ma 6)]) (rest := []) S G (m_goTick l X (ma 6) 55 f_12 b_5b hI_f_12 (by omega) (by omega) H.size) gX11_races_X11_goTick rfl rfl rfl hdS_X11_goTick ⟨Nat.le_of_ble_eq_true rfl, Nat.le_of_ble_eq_true rfl⟩ [3] rfl rfl rfl hl.1 (Nat.le_of_ble_eq_true rfl) dX11_races_106 ⟨Nat.le_of_ble_eq_true rfl, Nat.le_of_ble_eq_true rfl⟩) (fun u_13 H locs hp_13 G => ?_)
            obtain ⟨f_13, rfl⟩ : ∃ z, z = u_13 := ⟨_, rfl⟩
            obtain ⟨hI_f_13, hq_13⟩ := hp_13
            have hO_f_13 := hI_f_13.2
            obtain ⟨hm0_f_13, hm1_f_13, hm2_f_13, hm3_f_13, hm4_f_13⟩ := hO_f_13
            have G : wd X (va_A (mW m0 ma la lb n t v ++ [((ma 0), .inl (X.2.1, 371, .inl fa))] ++ [((ma 6), .inl (X.2.1, 55, .inl fh))] ++ [((ma 3), .inl (X.2.1, 3, .inl fr))]) sz) (va_A (mW m0 ma la lb n t v ++ [((ma 0), .inl (X.2.1, 371, .inl fa))] ++ [((ma 6), .inl (X.2.1, 55, .inl fh))] ++ [((ma 3), .inl (X.2.1, 3, .inl fr))]) sz) s ([((ma 3), .inl (X.2.1, 3, .inl fr))] ++ mW m0 ma la lb n t v ++ [((ma 0), .inl (X.2.1, 371, .inl fa))] ++ [((ma 6), .inl (X.2.1, 55, .inl f_13))]) H locs := G
            refine lv_iinc (v := (nI (k41 + 1))) (lv' := [(5, .int (nI (k41 + 1))), (6, .int (nI j)), (3, .long (lN z1)), (0, .ref m0), (1, .int (nI j_1)), (2, .int (nI j_3))]) zx zb dX11_races_109 hl (k := 2) rfl (nI_add k41 1) (by decide) rfl (fun ls hl => ?_)
            refine lv_goto (tgt := 41) zx zb dX11_races_112 (by decide) ?_
            have hl := lv_sub hl (l' := [(5, .int (nI (k41 + 1))), (3, .long (lN z1)), (0, .ref m0), (1, .int (nI j_1)), (2, .int (nI j_3))]) [0, 2, 3, 4, 5] rfl
            exact ih41 (k41 + 1) (lN z1) f_13 _ _ _ (by omega) hI_f_13 (by omega) (by first | assumption | exact ⟨_, by omega, rfl⟩ | exact ⟨_, hz1, rfl⟩) G hl
          · refine lv_if_eq (tgt := 102) zx zb dX11_races_79 (by decide) (fun c_14 => ?_) (fun c_14 => absurd (by decide) c_14)
            refine lv_aload_n zx zb dX11_races_102 rfl (lv_at hl 3 rfl) ?_
            refine r_get (C := RX11) (T := TX11) (N := 18) (ci := 9) (v := .ref (ma 6)) S in_X11_races_X11 G 1 rfl rfl 6 (by decide) lk_X11_races_27 rfl dX11_races_103 ?_
            refine b_wv (cells' := 0) (slots' := 0) (wr := [((ma 3), .inl (X.2.1, 3, .inl fr))] ++ mW m0 ma la lb n t v ++ [((ma 0), .inl (X.2.1, 371, .inl fa))]) G rfl rfl [3] [0, 1, 2] rfl rfl rfl rfl (n_S (As := [.ref (ma 6)]) (rest := []) S G (m_goTick l X (ma 6) 55 f41_3 b_5b hI_f41_3 (by omega) (by omega) H.size) gX11_races_X11_goTick rfl rfl rfl hdS_X11_goTick ⟨Nat.le_of_ble_eq_true rfl, Nat.le_of_ble_eq_true rfl⟩ [3] rfl rfl rfl hl.1 (Nat.le_of_ble_eq_true rfl) dX11_races_106 ⟨Nat.le_of_ble_eq_true rfl, Nat.le_of_ble_eq_true rfl⟩) (fun u_15 H locs hp_15 G => ?_)
            obtain ⟨f_15, rfl⟩ : ∃ z, z = u_15 := ⟨_, rfl⟩
            obtain ⟨hI_f_15, hq_15⟩ := hp_15
            have hO_f_15 := hI_f_15.2
            obtain ⟨hm0_f_15, hm1_f_15, hm2_f_15, hm3_f_15, hm4_f_15⟩ := hO_f_15
            have G : wd X (va_A (mW m0 ma la lb n t v ++ [((ma 0), .inl (X.2.1, 371, .inl fa))] ++ [((ma 6), .inl (X.2.1, 55, .inl fh))] ++ [((ma 3), .inl (X.2.1, 3, .inl fr))]) sz) (va_A (mW m0 ma la lb n t v ++ [((ma 0), .inl (X.2.1, 371, .inl fa))] ++ [((ma 6), .inl (X.2.1, 55, .inl fh))] ++ [((ma 3), .inl (X.2.1, 3, .inl fr))]) sz) s ([((ma 3), .inl (X.2.1, 3, .inl fr))] ++ mW m0 ma la lb n t v ++ [((ma 0), .inl (X.2.1, 371, .inl fa))] ++ [((ma 6), .inl (X.2.1, 55, .inl f_15))]) H locs := G
            refine lv_iinc (v := (nI (k41 + 1))) (lv' := [(5, .int (nI (k41 + 1))), (6, .int (nI j)), (3, .long (lN z1)), (0, .ref m0), (1, .int (nI j_1)), (2, .int (nI j_3))]) zx zb dX11_races_109 hl (k := 2) rfl (nI_add k41 1) (by decide) rfl (fun ls hl => ?_)
            refine lv_goto (tgt := 41) zx zb dX11_races_112 (by decide) ?_
            have hl := lv_sub hl (l' := [(5, .int (nI (k41 + 1))), (3, .long (lN z1)), (0, .ref m0), (1, .int (nI j_1)), (2, .int (nI j_3))]) [0, 2, 3, 4, 5] rfl
            exact ih41 (k41 + 1) (lN z1) f_15 _ _ _ (by omega) hI_f_15 (by omega) (by first | assumption | exact ⟨_, by omega, rfl⟩ | exact ⟨_, hz1, rfl⟩) G hl
    · refine lv_if_ne (tgt := 31) zx zb dX11_races_21 (by decide) (fun c_16 => absurd (by decide) c_16) (fun c_16 => ?_)
      refine lv_aload_n zx zb dX11_races_24 rfl (lv_at hl 0 rfl) ?_
      refine lv_bipush (v := (-2)) zx zb dX11_races_25 (by decide) ?_
      refine b_wi (cells' := 0) (slots' := 0) (wr := [((ma 0), .inl (X.2.1, 371, .inl fa))] ++ [((ma 6), .inl (X.2.1, 55, .inl fh))]) G rfl rfl [0, 3] [1, 2] rfl rfl rfl rfl (n_V (As := [.int (-2)]) (rest := []) (C := RX11) (T := TX11) (N := 18) (ci := 9) S G (m_bad l X m0 ma la lb n t v fr (-2) hI_n hI_t H.size) gX11_races_X11_bad rfl rfl rfl hdV_X11_bad ⟨Nat.le_of_ble_eq_true rfl, Nat.le_of_ble_eq_true rfl⟩ [0, 3] rfl rfl 0 rfl rfl rfl hl.1 (Nat.le_of_ble_eq_true rfl) dX11_races_27 ⟨Nat.le_of_ble_eq_true rfl, Nat.le_of_ble_eq_true rfl⟩) (fun r_17 u_17 H locs hp_17 G => ?_)
      obtain ⟨f_17, rfl⟩ : ∃ z, z = u_17 := ⟨_, rfl⟩
      have hq_17 := hp_17
      have G : wd X (va_A (mW m0 ma la lb n t v ++ [((ma 0), .inl (X.2.1, 371, .inl fa))] ++ [((ma 6), .inl (X.2.1, 55, .inl fh))] ++ [((ma 3), .inl (X.2.1, 3, .inl fr))]) sz) (va_A (mW m0 ma la lb n t v ++ [((ma 0), .inl (X.2.1, 371, .inl fa))] ++ [((ma 6), .inl (X.2.1, 55, .inl fh))] ++ [((ma 3), .inl (X.2.1, 3, .inl fr))]) sz) s ([((ma 0), .inl (X.2.1, 371, .inl fa))] ++ [((ma 6), .inl (X.2.1, 55, .inl fh))] ++ mW m0 ma la lb n t v ++ [((ma 3), .inl (X.2.1, 3, .inl f_17))]) H locs := G
      obtain rfl := hq_17
      exact e_int S zr zlk (vp_nar_int _) G (fh, bh, f_17) [2, 0, 1, 3] rfl rfl (Or.inr rfl) (⟨hI_fh, trivial⟩) dX11_races_30
  · refine lv_if_eq (tgt := 24) zx zb dX11_races_9 (by decide) (fun c_18 => ?_) (fun c_18 => absurd (by decide) c_18)
    refine lv_aload_n zx zb dX11_races_24 rfl (lv_at hl 0 rfl) ?_
    refine lv_bipush (v := (-2)) zx zb dX11_races_25 (by decide) ?_
    refine b_wi (cells' := 0) (slots' := 0) (wr := [((ma 0), .inl (X.2.1, 371, .inl fa))] ++ [((ma 6), .inl (X.2.1, 55, .inl fh))]) G rfl rfl [0, 3] [1, 2] rfl rfl rfl rfl (n_V (As := [.int (-2)]) (rest := []) (C := RX11) (T := TX11) (N := 18) (ci := 9) S G (m_bad l X m0 ma la lb n t v fr (-2) hI_n hI_t H.size) gX11_races_X11_bad rfl rfl rfl hdV_X11_bad ⟨Nat.le_of_ble_eq_true rfl, Nat.le_of_ble_eq_true rfl⟩ [0, 3] rfl rfl 0 rfl rfl rfl hl.1 (Nat.le_of_ble_eq_true rfl) dX11_races_27 ⟨Nat.le_of_ble_eq_true rfl, Nat.le_of_ble_eq_true rfl⟩) (fun r_19 u_19 H locs hp_19 G => ?_)
    obtain ⟨f_19, rfl⟩ : ∃ z, z = u_19 := ⟨_, rfl⟩
    have hq_19 := hp_19
    have G : wd X (va_A (mW m0 ma la lb n t v ++ [((ma 0), .inl (X.2.1, 371, .inl fa))] ++ [((ma 6), .inl (X.2.1, 55, .inl fh))] ++ [((ma 3), .inl (X.2.1, 3, .inl fr))]) sz) (va_A (mW m0 ma la lb n t v ++ [((ma 0), .inl (X.2.1, 371, .inl fa))] ++ [((ma 6), .inl (X.2.1, 55, .inl fh))] ++ [((ma 3), .inl (X.2.1, 3, .inl fr))]) sz) s ([((ma 0), .inl (X.2.1, 371, .inl fa))] ++ [((ma 6), .inl (X.2.1, 55, .inl fh))] ++ mW m0 ma la lb n t v ++ [((ma 3), .inl (X.2.1, 3, .inl f_19))]) H locs := G
    obtain rfl := hq_19
    exact e_int S zr zlk (vp_nar_int _) G (fh, bh, f_19) [2, 0, 1, 3] rfl rfl (Or.inr rfl) (⟨hI_fh, trivial⟩) dX11_races_30
