set_option maxRecDepth 20000 in
theorem ggL_law_X10_seen : GoodIn wsL_law wsX10_seen := goodIn_t lw_good _ [680, 15, 681, 682, 493, 494, 495, 2, 496, 131, 132, 133, 134, 135, 136, 137, 138, 25, 683, 684, 685, 61, 686, 74, 75, 78, 1054, 1055, 1056, 1057, 1058, 1059, 1060, 1061, 1062, 1063, 1064, 1065, 1066, 1067, 1086, 1087, 1088, 1089, 1090, 1091, 1092, 1093, 1126, 1127, 1128, 1129, 1130] rfl
set_option maxRecDepth 20000 in
theorem gL_law_X10_seen : GoodIn wsL_law (wsV RL 89 RX10 yX10_seen wsX10_seen) := goodIn_app (goodIn_of _ (by decide +kernel)) ggL_law_X10_seen
set_option maxRecDepth 20000 in
theorem ggL_law_X11_seen : GoodIn wsL_law wsX11_seen := goodIn_t lw_good _ [690, 691, 692, 112, 502, 503, 504, 5, 505, 158, 159, 160, 161, 151, 152, 153, 506, 507, 508, 193, 154, 155, 156, 157, 115, 194, 195, 196, 197, 1068, 1069, 1070, 1071, 1072, 1073, 1074, 1075, 1076, 1077, 1078, 1079, 1080, 1081, 1082, 1083, 1084, 1085] rfl
set_option maxRecDepth 20000 in
theorem gL_law_X11_seen : GoodIn wsL_law (wsV RL 93 RX11 yX11_seen wsX11_seen) := goodIn_app (goodIn_of _ (by decide +kernel)) ggL_law_X11_seen
set_option maxRecDepth 20000 in
theorem ggL_law_X10_strong : GoodIn wsL_law wsX10_strong := goodIn_t lw_good _ [696, 15, 493, 494, 495, 2, 496, 131, 132, 133, 134, 135, 136, 137, 138, 25, 697, 698, 699, 14, 700, 62, 54, 701, 702, 703, 704, 61, 705, 74, 76, 78, 706, 363, 364, 365, 707, 708, 709, 710, 711, 712, 713, 714, 715, 716, 1054, 1055, 1056, 1057, 1058, 1059, 1060, 1061, 1062, 1063, 1064, 1065, 1066, 1067, 1086, 1087, 1088, 1089, 1090, 1091, 1092, 1093, 1101, 1102, 1103, 1104, 1105, 1106, 1107, 1108, 1126, 1127, 1128, 1129, 1130] rfl
set_option maxRecDepth 20000 in
theorem gL_law_X10_strong : GoodIn wsL_law (wsV RL 94 RX10 yX10_strong wsX10_strong) := goodIn_app (goodIn_of _ (by decide +kernel)) ggL_law_X10_strong
set_option maxRecDepth 20000 in
theorem ggL_law_X11_strong : GoodIn wsL_law wsX11_strong := goodIn_t lw_good _ [720, 721, 502, 503, 504, 5, 505, 158, 159, 160, 161, 112, 151, 152, 153, 154, 155, 156, 157, 115, 722, 723, 724, 725, 439, 440, 441, 726, 727, 728, 1068, 1069, 1070, 1071, 1072, 1073, 1074, 1075, 1076, 1077, 1078, 1079, 1080, 1081, 1082, 1083, 1084, 1085] rfl
set_option maxRecDepth 20000 in
theorem gL_law_X11_strong : GoodIn wsL_law (wsV RL 97 RX11 yX11_strong wsX11_strong) := goodIn_app (goodIn_of _ (by decide +kernel)) ggL_law_X11_strong
set_option maxRecDepth 20000 in
theorem ggL_law_X10_tell : GoodIn wsL_law wsX10_tell := goodIn_t lw_good _ [732, 15, 491, 493, 494, 495, 2, 496, 131, 135, 136, 137, 138, 25, 697, 698, 699, 14, 700, 62, 54, 701, 702, 703, 704, 61, 705, 74, 76, 78, 706, 363, 364, 365, 733, 734, 735, 736, 707, 708, 709, 710, 711, 712, 713, 737, 738, 739, 740, 36, 741, 742, 743, 744, 35, 745, 95, 96, 714, 715, 716, 746, 747, 748, 749, 750, 751, 752, 367, 368, 369, 753, 754, 755, 756, 757, 758, 342, 759, 1054, 1055, 1056, 1057, 1058, 1059, 1060, 1061, 1062, 1063, 1064, 1065, 1066, 1067, 1086, 1087, 1088, 1089, 1090, 1091, 1092, 1093, 1101, 1102, 1103, 1104, 1105, 1106, 1107, 1108, 1126, 1127, 1128, 1129, 1130, 1109, 1110] rfl
set_option maxRecDepth 20000 in
theorem gL_law_X10_tell : GoodIn wsL_law (wsV RL 98 RX10 yX10_tell wsX10_tell) := goodIn_app (goodIn_of _ (by decide +kernel)) ggL_law_X10_tell
set_option maxRecDepth 20000 in
theorem ggL_law_X11_tell : GoodIn wsL_law wsX11_tell := goodIn_t lw_good _ [763, 613, 119, 112, 502, 503, 504, 5, 505, 158, 159, 160, 161, 151, 152, 153, 154, 155, 156, 157, 115, 722, 723, 724, 725, 439, 440, 441, 764, 765, 766, 767, 726, 727, 728, 1068, 1069, 1070, 1071, 1072, 1073, 1074, 1075, 1076, 1077, 1078, 1079, 1080, 1081, 1082, 1083, 1084, 1085] rfl
set_option maxRecDepth 20000 in
theorem gL_law_X11_tell : GoodIn wsL_law (wsV RL 101 RX11 yX11_tell wsX11_tell) := goodIn_app (goodIn_of _ (by decide +kernel)) ggL_law_X11_tell
set_option maxRecDepth 20000 in
theorem ggL_law_X10_note : GoodIn wsL_law wsX10_note := goodIn_t lw_good _ [771, 15, 772, 682, 493, 494, 495, 2, 496, 131, 132, 133, 134, 135, 136, 137, 138, 25, 683, 684, 685, 61, 686, 74, 75, 78, 1054, 1055, 1056, 1057, 1058, 1059, 1060, 1061, 1062, 1063, 1064, 1065, 1066, 1067, 1086, 1087, 1088, 1089, 1090, 1091, 1092, 1093, 1126, 1127, 1128, 1129, 1130] rfl
set_option maxRecDepth 20000 in
theorem gL_law_X10_note : GoodIn wsL_law (wsV RL 102 RX10 yX10_note wsX10_note) := goodIn_app (goodIn_of _ (by decide +kernel)) ggL_law_X10_note
set_option maxRecDepth 20000 in
theorem ggL_law_X11_note : GoodIn wsL_law wsX11_note := goodIn_t lw_good _ [776, 691, 692, 112, 502, 503, 504, 5, 505, 158, 159, 160, 161, 151, 152, 153, 190, 191, 192, 193, 506, 507, 508, 154, 155, 156, 157, 115, 194, 195, 196, 197, 1068, 1069, 1070, 1071, 1072, 1073, 1074, 1075, 1076, 1077, 1078, 1079, 1080, 1081, 1082, 1083, 1084, 1085] rfl
set_option maxRecDepth 20000 in
theorem gL_law_X11_note : GoodIn wsL_law (wsV RL 106 RX11 yX11_note wsX11_note) := goodIn_app (goodIn_of _ (by decide +kernel)) ggL_law_X11_note
set_option maxRecDepth 20000 in
theorem ggL_law_X10_mark : GoodIn wsL_law wsX10_mark := goodIn_t lw_good _ [780, 15, 781, 682, 493, 494, 495, 2, 496, 131, 132, 133, 134, 135, 136, 137, 138, 25, 683, 684, 685, 61, 686, 74, 75, 78, 1054, 1055, 1056, 1057, 1058, 1059, 1060, 1061, 1062, 1063, 1064, 1065, 1066, 1067, 1086, 1087, 1088, 1089, 1090, 1091, 1092, 1093, 1126, 1127, 1128, 1129, 1130] rfl
set_option maxRecDepth 20000 in
theorem gL_law_X10_mark : GoodIn wsL_law (wsV RL 107 RX10 yX10_mark wsX10_mark) := goodIn_app (goodIn_of _ (by decide +kernel)) ggL_law_X10_mark
set_option maxRecDepth 20000 in
theorem ggL_law_X11_mark : GoodIn wsL_law wsX11_mark := goodIn_t lw_good _ [785, 691, 692, 112, 502, 503, 504, 5, 505, 158, 159, 160, 161, 151, 152, 153, 154, 155, 156, 157, 115, 194, 195, 196, 197, 1068, 1069, 1070, 1071, 1072, 1073, 1074, 1075, 1076, 1077, 1078, 1079, 1080, 1081, 1082, 1083, 1084, 1085] rfl
set_option maxRecDepth 20000 in
theorem gL_law_X11_mark : GoodIn wsL_law (wsV RL 110 RX11 yX11_mark wsX11_mark) := goodIn_app (goodIn_of _ (by decide +kernel)) ggL_law_X11_mark
set_option maxRecDepth 20000 in
theorem ggL_law_X10_forget : GoodIn wsL_law wsX10_forget := goodIn_t lw_good _ [789, 15, 681, 772, 781, 682, 132, 133, 2, 134, 135, 136, 137, 138, 25, 1054, 1055, 1056, 1057, 1058, 1059, 1060, 1061, 1062, 1063, 1064, 1065, 1066, 1067, 1086, 1087, 1088, 1089, 1090, 1091, 1092, 1093, 1126, 1127, 1128, 1129, 1130] rfl
set_option maxRecDepth 20000 in
theorem gL_law_X10_forget : GoodIn wsL_law (wsV RL 111 RX10 yX10_forget wsX10_forget) := goodIn_app (goodIn_of _ (by decide +kernel)) ggL_law_X10_forget
set_option maxRecDepth 20000 in
theorem ggL_law_X11_forget : GoodIn wsL_law wsX11_forget := goodIn_t lw_good _ [793, 721, 112, 151, 152, 5, 153, 154, 155, 156, 157, 115, 1068, 1069, 1070, 1071, 1072, 1073, 1074, 1075, 1076, 1077, 1078, 1079, 1080, 1081, 1082, 1083, 1084, 1085] rfl
set_option maxRecDepth 20000 in
theorem gL_law_X11_forget : GoodIn wsL_law (wsV RL 114 RX11 yX11_forget wsX11_forget) := goodIn_app (goodIn_of _ (by decide +kernel)) ggL_law_X11_forget
set_option maxRecDepth 20000 in
theorem ggL_law_X10_is : GoodIn wsL_law wsX10_is := goodIn_t lw_good _ [797, 15, 493, 494, 495, 2, 496, 131, 798, 799, 800, 14, 801, 63, 702, 703, 704, 61, 705, 74, 76, 78, 706, 363, 364, 365, 135, 136, 137, 138, 25, 1054, 1055, 1056, 1057, 1058, 1059, 1060, 1061, 1062, 1063, 1064, 1065, 1066, 1067, 1086, 1087, 1088, 1089, 1090, 1091, 1092, 1093, 1126, 1127, 1128, 1129, 1130] rfl
set_option maxRecDepth 20000 in
theorem gL_law_X10_is : GoodIn wsL_law (wsV RL 115 RX10 yX10_is wsX10_is) := goodIn_app (goodIn_of _ (by decide +kernel)) ggL_law_X10_is
set_option maxRecDepth 20000 in
theorem ggL_law_X11_is : GoodIn wsL_law wsX11_is := goodIn_t lw_good _ [805, 502, 503, 504, 5, 505, 158, 159, 160, 161, 112, 151, 152, 153, 806, 807, 808, 809, 439, 440, 441, 154, 155, 156, 157, 115, 1068, 1069, 1070, 1071, 1072, 1073, 1074, 1075, 1076, 1077, 1078, 1079, 1080, 1081, 1082, 1083, 1084, 1085] rfl
set_option maxRecDepth 20000 in
theorem gL_law_X11_is : GoodIn wsL_law (wsV RL 118 RX11 yX11_is wsX11_is) := goodIn_app (goodIn_of _ (by decide +kernel)) ggL_law_X11_is
set_option maxRecDepth 20000 in
theorem ggL_law_X10_look : GoodIn wsL_law wsX10_look := goodIn_t lw_good _ [813, 15, 491, 493, 494, 495, 2, 496, 131, 135, 136, 137, 138, 25, 798, 799, 800, 14, 801, 63, 702, 703, 704, 61, 705, 74, 76, 78, 706, 363, 364, 365, 733, 734, 735, 736, 707, 708, 709, 710, 711, 712, 713, 737, 738, 739, 740, 36, 741, 742, 743, 744, 35, 745, 95, 96, 714, 715, 716, 746, 747, 748, 749, 750, 751, 752, 367, 368, 369, 753, 754, 755, 756, 757, 758, 342, 759, 1054, 1055, 1056, 1057, 1058, 1059, 1060, 1061, 1062, 1063, 1064, 1065, 1066, 1067, 1086, 1087, 1088, 1089, 1090, 1091, 1092, 1093, 1126, 1127, 1128, 1129, 1130, 1109, 1110, 1101, 1102, 1103, 1104, 1105, 1106, 1107, 1108] rfl
set_option maxRecDepth 20000 in
theorem gL_law_X10_look : GoodIn wsL_law (wsV RL 119 RX10 yX10_look wsX10_look) := goodIn_app (goodIn_of _ (by decide +kernel)) ggL_law_X10_look
set_option maxRecDepth 20000 in
theorem ggL_law_X11_look : GoodIn wsL_law wsX11_look := goodIn_t lw_good _ [817, 613, 119, 112, 502, 503, 504, 5, 505, 158, 159, 160, 161, 151, 152, 153, 154, 155, 156, 157, 115, 806, 807, 808, 809, 439, 440, 441, 764, 765, 766, 767, 726, 727, 728, 1068, 1069, 1070, 1071, 1072, 1073, 1074, 1075, 1076, 1077, 1078, 1079, 1080, 1081, 1082, 1083, 1084, 1085] rfl
set_option maxRecDepth 20000 in
theorem gL_law_X11_look : GoodIn wsL_law (wsV RL 122 RX11 yX11_look wsX11_look) := goodIn_app (goodIn_of _ (by decide +kernel)) ggL_law_X11_look
set_option maxRecDepth 20000 in
theorem ggL_law_X10_kinds : GoodIn wsL_law wsX10_kinds := goodIn_t lw_good _ [821, 15, 493, 494, 495, 2, 496, 131, 822, 823, 824, 14, 825, 64, 826, 827, 828, 61, 829, 74, 78, 830, 367, 368, 369, 135, 136, 137, 138, 25, 1054, 1055, 1056, 1057, 1058, 1059, 1060, 1061, 1062, 1063, 1064, 1065, 1066, 1067, 1086, 1087, 1088, 1089, 1090, 1091, 1092, 1093, 1126, 1127, 1128, 1129, 1130] rfl
set_option maxRecDepth 20000 in
theorem gL_law_X10_kinds : GoodIn wsL_law (wsV RL 123 RX10 yX10_kinds wsX10_kinds) := goodIn_app (goodIn_of _ (by decide +kernel)) ggL_law_X10_kinds
set_option maxRecDepth 20000 in
theorem ggL_law_X11_kinds : GoodIn wsL_law wsX11_kinds := goodIn_t lw_good _ [834, 502, 503, 504, 5, 505, 158, 159, 160, 161, 112, 151, 152, 153, 835, 836, 837, 838, 442, 443, 444, 154, 155, 156, 157, 115, 1068, 1069, 1070, 1071, 1072, 1073, 1074, 1075, 1076, 1077, 1078, 1079, 1080, 1081, 1082, 1083, 1084, 1085] rfl
set_option maxRecDepth 20000 in
theorem gL_law_X11_kinds : GoodIn wsL_law (wsV RL 126 RX11 yX11_kinds wsX11_kinds) := goodIn_app (goodIn_of _ (by decide +kernel)) ggL_law_X11_kinds
set_option maxRecDepth 20000 in
theorem ggL_law_X10_ask : GoodIn wsL_law wsX10_ask := goodIn_t lw_good _ [842, 15, 491, 493, 494, 495, 2, 496, 131, 135, 136, 137, 138, 25, 822, 823, 824, 14, 825, 64, 826, 827, 828, 61, 829, 74, 78, 830, 367, 368, 369, 733, 734, 735, 736, 707, 708, 709, 710, 711, 712, 713, 737, 738, 739, 740, 36, 741, 742, 743, 744, 35, 745, 95, 96, 714, 715, 716, 746, 747, 748, 749, 750, 751, 363, 364, 365, 752, 753, 754, 755, 756, 757, 758, 342, 759, 1054, 1055, 1056, 1057, 1058, 1059, 1060, 1061, 1062, 1063, 1064, 1065, 1066, 1067, 1086, 1087, 1088, 1089, 1090, 1091, 1092, 1093, 1126, 1127, 1128, 1129, 1130, 1109, 1110, 1101, 1102, 1103, 1104, 1105, 1106, 1107, 1108] rfl
set_option maxRecDepth 20000 in
theorem gL_law_X10_ask : GoodIn wsL_law (wsV RL 127 RX10 yX10_ask wsX10_ask) := goodIn_app (goodIn_of _ (by decide +kernel)) ggL_law_X10_ask
