set_option maxRecDepth 20000 in
theorem ggL_law_X11_undo : GoodIn wsL_law wsX11_undo := goodIn_t lw_good _ [539, 112, 509, 510, 511, 5, 512, 115, 1068, 1069, 1070, 1071, 1072, 1073, 1074, 1075, 1076, 1077, 1078, 1079, 1080, 1081, 1082, 1083, 1084, 1085] rfl
set_option maxRecDepth 20000 in
theorem gL_law_X11_undo : GoodIn wsL_law (wsV RL 52 RX11 yX11_undo wsX11_undo) := goodIn_app (goodIn_of _ (by decide +kernel)) ggL_law_X11_undo
set_option maxRecDepth 20000 in
theorem ggL_law_X10_of : GoodIn wsL_law wsX10_of := goodIn_t lw_good _ [543, 15, 491, 452, 493, 494, 495, 2, 496, 131, 132, 133, 134, 135, 136, 137, 138, 25, 544, 545, 546, 30, 547, 174, 175, 176, 177, 178, 179, 180, 181, 362, 363, 364, 365, 366, 367, 368, 369, 1054, 1055, 1056, 1057, 1058, 1059, 1060, 1061, 1062, 1063, 1064, 1065, 1066, 1067, 1086, 1087, 1088, 1089, 1090, 1091, 1092, 1093, 1101, 1102, 1103, 1104, 1105, 1106, 1107, 1108] rfl
set_option maxRecDepth 20000 in
theorem gL_law_X10_of : GoodIn wsL_law (wsV RL 53 RX10 yX10_of wsX10_of) := goodIn_app (goodIn_of _ (by decide +kernel)) ggL_law_X10_of
set_option maxRecDepth 20000 in
theorem ggL_law_X11_of : GoodIn wsL_law wsX11_of := goodIn_t lw_good _ [551, 193, 502, 503, 504, 5, 505, 158, 159, 160, 161, 112, 151, 152, 153, 552, 553, 554, 555, 420, 421, 422, 436, 437, 438, 439, 440, 441, 442, 443, 444, 154, 155, 156, 157, 115, 1068, 1069, 1070, 1071, 1072, 1073, 1074, 1075, 1076, 1077, 1078, 1079, 1080, 1081, 1082, 1083, 1084, 1085] rfl
set_option maxRecDepth 20000 in
theorem gL_law_X11_of : GoodIn wsL_law (wsV RL 56 RX11 yX11_of wsX11_of) := goodIn_app (goodIn_of _ (by decide +kernel)) ggL_law_X11_of
set_option maxRecDepth 20000 in
theorem ggL_law_X10_where : GoodIn wsL_law wsX10_where := goodIn_t lw_good _ [559, 31, 15, 491, 452, 518, 493, 494, 495, 2, 496, 131, 132, 133, 134, 135, 136, 137, 138, 25, 560, 561, 562, 30, 563, 174, 175, 176, 177, 178, 179, 180, 181, 564, 565, 566, 567, 568, 358, 359, 360, 361, 346, 347, 348, 362, 363, 364, 365, 366, 367, 368, 369, 1054, 1055, 1056, 1057, 1058, 1059, 1060, 1061, 1062, 1063, 1064, 1065, 1066, 1067, 1086, 1087, 1088, 1089, 1090, 1091, 1092, 1093, 1101, 1102, 1103, 1104, 1105, 1106, 1107, 1108] rfl
set_option maxRecDepth 20000 in
theorem gL_law_X10_where : GoodIn wsL_law (wsV RL 57 RX10 yX10_where wsX10_where) := goodIn_app (goodIn_of _ (by decide +kernel)) ggL_law_X10_where
set_option maxRecDepth 20000 in
theorem ggL_law_X11_where : GoodIn wsL_law wsX11_where := goodIn_t lw_good _ [572, 150, 117, 502, 503, 504, 5, 505, 158, 159, 160, 161, 112, 151, 152, 153, 154, 155, 156, 157, 115, 573, 574, 575, 576, 577, 578, 579, 580, 430, 431, 432, 420, 421, 422, 433, 434, 435, 436, 437, 438, 439, 440, 441, 442, 443, 444, 445, 446, 447, 1068, 1069, 1070, 1071, 1072, 1073, 1074, 1075, 1076, 1077, 1078, 1079, 1080, 1081, 1082, 1083, 1084, 1085] rfl
set_option maxRecDepth 20000 in
theorem gL_law_X11_where : GoodIn wsL_law (wsV RL 60 RX11 yX11_where wsX11_where) := goodIn_app (goodIn_of _ (by decide +kernel)) ggL_law_X11_where
set_option maxRecDepth 20000 in
theorem ggL_law_X10_home : GoodIn wsL_law wsX10_home := goodIn_t lw_good _ [584, 493, 494, 495, 2, 496, 15, 131, 585, 586, 587, 588, 31, 491, 452, 518, 560, 561, 562, 30, 563, 174, 175, 176, 177, 178, 179, 180, 181, 589, 590, 591, 592, 361, 346, 347, 348, 568, 358, 359, 360, 362, 363, 364, 365, 366, 367, 368, 369, 135, 136, 137, 138, 25, 1054, 1055, 1056, 1057, 1058, 1059, 1060, 1061, 1062, 1063, 1064, 1065, 1066, 1067, 1086, 1087, 1088, 1089, 1090, 1091, 1092, 1093, 1101, 1102, 1103, 1104, 1105, 1106, 1107, 1108] rfl
set_option maxRecDepth 20000 in
theorem gL_law_X10_home : GoodIn wsL_law (wsV RL 61 RX10 yX10_home wsX10_home) := goodIn_app (goodIn_of _ (by decide +kernel)) ggL_law_X10_home
set_option maxRecDepth 20000 in
theorem ggL_law_X11_home : GoodIn wsL_law wsX11_home := goodIn_t lw_good _ [596, 502, 503, 504, 5, 505, 158, 159, 160, 161, 112, 151, 152, 153, 597, 598, 599, 600, 573, 574, 575, 576, 117, 601, 602, 603, 604, 420, 421, 422, 430, 431, 432, 433, 434, 435, 436, 437, 438, 439, 440, 441, 442, 443, 444, 445, 446, 447, 154, 155, 156, 157, 115, 1068, 1069, 1070, 1071, 1072, 1073, 1074, 1075, 1076, 1077, 1078, 1079, 1080, 1081, 1082, 1083, 1084, 1085] rfl
set_option maxRecDepth 20000 in
theorem gL_law_X11_home : GoodIn wsL_law (wsV RL 64 RX11 yX11_home wsX11_home) := goodIn_app (goodIn_of _ (by decide +kernel)) ggL_law_X11_home
set_option maxRecDepth 20000 in
theorem ggL_law_X10_first : GoodIn wsL_law wsX10_first := goodIn_t lw_good _ [608, 15, 131, 491, 497, 346, 347, 30, 348, 181, 585, 586, 587, 2, 588, 31, 452, 518, 560, 561, 562, 563, 174, 175, 176, 177, 178, 179, 180, 589, 590, 591, 592, 361, 568, 358, 359, 360, 362, 363, 364, 365, 366, 367, 368, 369, 1054, 1055, 1056, 1057, 1058, 1059, 1060, 1061, 1062, 1063, 1064, 1065, 1066, 1067, 1086, 1087, 1088, 1089, 1090, 1091, 1092, 1093, 1101, 1102, 1103, 1104, 1105, 1106, 1107, 1108] rfl
set_option maxRecDepth 20000 in
theorem gL_law_X10_first : GoodIn wsL_law (wsV RL 65 RX10 yX10_first wsX10_first) := goodIn_app (goodIn_of _ (by decide +kernel)) ggL_law_X10_first
set_option maxRecDepth 20000 in
theorem ggL_law_X11_first : GoodIn wsL_law wsX11_first := goodIn_t lw_good _ [612, 613, 112, 158, 159, 160, 5, 161, 420, 421, 422, 597, 598, 599, 600, 573, 574, 575, 576, 117, 601, 602, 603, 604, 430, 431, 432, 433, 434, 435, 436, 437, 438, 439, 440, 441, 442, 443, 444, 445, 446, 447, 1068, 1069, 1070, 1071, 1072, 1073, 1074, 1075, 1076, 1077, 1078, 1079, 1080, 1081, 1082, 1083, 1084, 1085] rfl
set_option maxRecDepth 20000 in
theorem gL_law_X11_first : GoodIn wsL_law (wsV RL 68 RX11 yX11_first wsX11_first) := goodIn_app (goodIn_of _ (by decide +kernel)) ggL_law_X11_first
set_option maxRecDepth 20000 in
theorem ggL_law_X10_order : GoodIn wsL_law wsX10_order := goodIn_t lw_good _ [617, 15, 131, 135, 136, 137, 2, 138, 25, 618, 619, 620, 621, 491, 45, 622, 585, 586, 587, 588, 31, 452, 518, 560, 561, 562, 30, 563, 174, 175, 176, 177, 178, 179, 180, 181, 589, 590, 591, 592, 361, 346, 347, 348, 568, 358, 359, 360, 362, 363, 364, 365, 366, 367, 368, 369, 497, 623, 624, 625, 626, 1054, 1055, 1056, 1057, 1058, 1059, 1060, 1061, 1062, 1063, 1064, 1065, 1066, 1067, 1086, 1087, 1088, 1089, 1090, 1091, 1092, 1093, 1101, 1102, 1103, 1104, 1105, 1106, 1107, 1108] rfl
set_option maxRecDepth 20000 in
theorem gL_law_X10_order : GoodIn wsL_law (wsV RL 69 RX10 yX10_order wsX10_order) := goodIn_app (goodIn_of _ (by decide +kernel)) ggL_law_X10_order
set_option maxRecDepth 20000 in
theorem ggL_law_X11_order : GoodIn wsL_law wsX11_order := goodIn_t lw_good _ [630, 118, 112, 631, 613, 154, 155, 156, 5, 157, 115, 158, 159, 160, 161, 509, 510, 511, 512, 597, 598, 599, 600, 573, 574, 575, 576, 117, 601, 602, 603, 604, 420, 421, 422, 430, 431, 432, 433, 434, 435, 436, 437, 438, 439, 440, 441, 442, 443, 444, 445, 446, 447, 1068, 1069, 1070, 1071, 1072, 1073, 1074, 1075, 1076, 1077, 1078, 1079, 1080, 1081, 1082, 1083, 1084, 1085] rfl
set_option maxRecDepth 20000 in
theorem gL_law_X11_order : GoodIn wsL_law (wsV RL 72 RX11 yX11_order wsX11_order) := goodIn_app (goodIn_of _ (by decide +kernel)) ggL_law_X11_order
set_option maxRecDepth 20000 in
theorem ggL_law_X10_best : GoodIn wsL_law wsX10_best := goodIn_t lw_good _ [635, 15, 491, 31, 492, 452, 518, 493, 494, 495, 2, 496, 131, 132, 133, 134, 135, 136, 137, 138, 25, 497, 346, 347, 30, 348, 181, 560, 561, 562, 563, 174, 175, 176, 177, 178, 179, 180, 589, 590, 591, 592, 361, 568, 358, 359, 360, 362, 363, 364, 365, 366, 367, 368, 369, 1054, 1055, 1056, 1057, 1058, 1059, 1060, 1061, 1062, 1063, 1064, 1065, 1066, 1067, 1086, 1087, 1088, 1089, 1090, 1091, 1092, 1093, 1101, 1102, 1103, 1104, 1105, 1106, 1107, 1108] rfl
set_option maxRecDepth 20000 in
theorem gL_law_X10_best : GoodIn wsL_law (wsV RL 73 RX10 yX10_best wsX10_best) := goodIn_app (goodIn_of _ (by decide +kernel)) ggL_law_X10_best
set_option maxRecDepth 20000 in
theorem ggL_law_X11_best : GoodIn wsL_law wsX11_best := goodIn_t lw_good _ [639, 613, 112, 117, 502, 503, 504, 5, 505, 158, 159, 160, 161, 151, 152, 153, 154, 155, 156, 157, 115, 420, 421, 422, 573, 574, 575, 576, 601, 602, 603, 604, 430, 431, 432, 433, 434, 435, 436, 437, 438, 439, 440, 441, 442, 443, 444, 445, 446, 447, 1068, 1069, 1070, 1071, 1072, 1073, 1074, 1075, 1076, 1077, 1078, 1079, 1080, 1081, 1082, 1083, 1084, 1085] rfl
set_option maxRecDepth 20000 in
theorem gL_law_X11_best : GoodIn wsL_law (wsV RL 76 RX11 yX11_best wsX11_best) := goodIn_app (goodIn_of _ (by decide +kernel)) ggL_law_X11_best
set_option maxRecDepth 20000 in
theorem ggL_law_X10_turn : GoodIn wsL_law wsX10_turn := goodIn_t lw_good _ [643, 15, 491, 493, 494, 495, 2, 496, 131, 132, 133, 134, 135, 136, 137, 138, 25, 497, 346, 347, 30, 348, 181, 644, 645, 646, 647, 648, 341, 342, 343, 31, 492, 452, 518, 585, 586, 587, 588, 560, 561, 562, 563, 174, 175, 176, 177, 178, 179, 180, 589, 590, 591, 592, 361, 568, 358, 359, 360, 362, 363, 364, 365, 366, 367, 368, 369, 1054, 1055, 1056, 1057, 1058, 1059, 1060, 1061, 1062, 1063, 1064, 1065, 1066, 1067, 1086, 1087, 1088, 1089, 1090, 1091, 1092, 1093, 1101, 1102, 1103, 1104, 1105, 1106, 1107, 1108] rfl
set_option maxRecDepth 20000 in
theorem gL_law_X10_turn : GoodIn wsL_law (wsV RL 77 RX10 yX10_turn wsX10_turn) := goodIn_app (goodIn_of _ (by decide +kernel)) ggL_law_X10_turn
set_option maxRecDepth 20000 in
theorem ggL_law_X11_turn : GoodIn wsL_law wsX11_turn := goodIn_t lw_good _ [652, 613, 112, 117, 502, 503, 504, 5, 505, 158, 159, 160, 161, 151, 152, 153, 506, 507, 508, 193, 154, 155, 156, 157, 115, 420, 421, 422, 573, 574, 575, 576, 601, 602, 603, 604, 430, 431, 432, 433, 434, 435, 436, 437, 438, 439, 440, 441, 442, 443, 444, 445, 446, 447, 577, 578, 579, 580, 1068, 1069, 1070, 1071, 1072, 1073, 1074, 1075, 1076, 1077, 1078, 1079, 1080, 1081, 1082, 1083, 1084, 1085] rfl
set_option maxRecDepth 20000 in
theorem gL_law_X11_turn : GoodIn wsL_law (wsV RL 80 RX11 yX11_turn wsX11_turn) := goodIn_app (goodIn_of _ (by decide +kernel)) ggL_law_X11_turn
set_option maxRecDepth 20000 in
theorem ggL_law_X10_beats : GoodIn wsL_law wsX10_beats := goodIn_t lw_good _ [656, 15, 491, 517, 518, 31, 452, 657, 658, 659, 2, 660, 493, 494, 495, 496, 131, 135, 136, 137, 138, 25, 497, 346, 347, 30, 348, 181, 585, 586, 587, 588, 560, 561, 562, 563, 174, 175, 176, 177, 178, 179, 180, 589, 590, 591, 592, 361, 568, 358, 359, 360, 362, 363, 364, 365, 366, 367, 368, 369, 1054, 1055, 1056, 1057, 1058, 1059, 1060, 1061, 1062, 1063, 1064, 1065, 1066, 1067, 1086, 1087, 1088, 1089, 1090, 1091, 1092, 1093, 1101, 1102, 1103, 1104, 1105, 1106, 1107, 1108] rfl
set_option maxRecDepth 20000 in
theorem gL_law_X10_beats : GoodIn wsL_law (wsV RL 81 RX10 yX10_beats wsX10_beats) := goodIn_app (goodIn_of _ (by decide +kernel)) ggL_law_X10_beats
set_option maxRecDepth 20000 in
theorem ggL_law_X11_beats : GoodIn wsL_law wsX11_beats := goodIn_t lw_good _ [664, 112, 117, 502, 503, 504, 5, 505, 158, 159, 160, 161, 151, 152, 153, 154, 155, 156, 157, 115, 597, 598, 599, 600, 573, 574, 575, 576, 601, 602, 603, 604, 420, 421, 422, 430, 431, 432, 433, 434, 435, 436, 437, 438, 439, 440, 441, 442, 443, 444, 445, 446, 447, 1068, 1069, 1070, 1071, 1072, 1073, 1074, 1075, 1076, 1077, 1078, 1079, 1080, 1081, 1082, 1083, 1084, 1085] rfl
set_option maxRecDepth 20000 in
theorem gL_law_X11_beats : GoodIn wsL_law (wsV RL 84 RX11 yX11_beats wsX11_beats) := goodIn_app (goodIn_of _ (by decide +kernel)) ggL_law_X11_beats
set_option maxRecDepth 20000 in
theorem ggL_law_X10_close : GoodIn wsL_law wsX10_close := goodIn_t lw_good _ [668, 31, 15, 491, 32, 517, 669, 670, 342, 671, 452, 518, 657, 658, 659, 2, 660, 493, 494, 495, 496, 131, 132, 133, 134, 135, 136, 137, 138, 25, 560, 561, 562, 30, 563, 174, 175, 176, 177, 178, 179, 180, 181, 672, 358, 359, 360, 361, 346, 347, 348, 362, 363, 364, 365, 366, 367, 368, 369, 1054, 1055, 1056, 1057, 1058, 1059, 1060, 1061, 1062, 1063, 1064, 1065, 1066, 1067, 1086, 1087, 1088, 1089, 1090, 1091, 1092, 1093, 1101, 1102, 1103, 1104, 1105, 1106, 1107, 1108] rfl
set_option maxRecDepth 20000 in
theorem gL_law_X10_close : GoodIn wsL_law (wsV RL 85 RX10 yX10_close wsX10_close) := goodIn_app (goodIn_of _ (by decide +kernel)) ggL_law_X10_close
set_option maxRecDepth 20000 in
theorem ggL_law_X11_close : GoodIn wsL_law wsX11_close := goodIn_t lw_good _ [676, 613, 117, 502, 503, 504, 5, 505, 158, 159, 160, 161, 112, 151, 152, 153, 154, 155, 156, 157, 115, 573, 574, 575, 576, 430, 431, 432, 420, 421, 422, 433, 434, 435, 436, 437, 438, 439, 440, 441, 442, 443, 444, 445, 446, 447, 1068, 1069, 1070, 1071, 1072, 1073, 1074, 1075, 1076, 1077, 1078, 1079, 1080, 1081, 1082, 1083, 1084, 1085] rfl
set_option maxRecDepth 20000 in
theorem gL_law_X11_close : GoodIn wsL_law (wsV RL 88 RX11 yX11_close wsX11_close) := goodIn_app (goodIn_of _ (by decide +kernel)) ggL_law_X11_close
