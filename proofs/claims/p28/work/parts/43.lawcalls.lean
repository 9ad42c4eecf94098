set_option maxRecDepth 20000 in
theorem ggL_law_X11_ask : GoodIn wsL_law wsX11_ask := goodIn_t lw_good _ [846, 613, 119, 502, 503, 504, 5, 505, 158, 159, 160, 161, 112, 151, 152, 153, 154, 155, 156, 157, 115, 835, 836, 837, 838, 442, 443, 444, 764, 765, 766, 767, 726, 727, 728, 1068, 1069, 1070, 1071, 1072, 1073, 1074, 1075, 1076, 1077, 1078, 1079, 1080, 1081, 1082, 1083, 1084, 1085] rfl
set_option maxRecDepth 20000 in
theorem gL_law_X11_ask : GoodIn wsL_law (wsV RL 130 RX11 yX11_ask wsX11_ask) := goodIn_app (goodIn_of _ (by decide +kernel)) ggL_law_X11_ask
set_option maxRecDepth 20000 in
theorem ggL_law_X10_pair : GoodIn wsL_law wsX10_pair := goodIn_t lw_good _ [850, 44, 15, 491, 517, 657, 658, 659, 2, 660, 493, 494, 495, 496, 131, 135, 136, 137, 138, 25, 851, 852, 853, 854, 31, 492, 452, 518, 560, 561, 562, 30, 563, 174, 175, 176, 177, 178, 179, 180, 181, 564, 565, 566, 567, 568, 358, 359, 360, 361, 346, 347, 348, 362, 363, 364, 365, 366, 367, 368, 369, 855, 856, 857, 43, 858, 103, 104, 859, 860, 861, 862, 105, 106, 107, 863, 864, 865, 866, 758, 342, 759, 867, 868, 869, 870, 871, 872, 873, 1054, 1055, 1056, 1057, 1058, 1059, 1060, 1061, 1062, 1063, 1064, 1065, 1066, 1067, 1086, 1087, 1088, 1089, 1090, 1091, 1092, 1093, 1101, 1102, 1103, 1104, 1105, 1106, 1107, 1108, 1119, 1120, 1121, 1122, 1123] rfl
set_option maxRecDepth 20000 in
theorem gL_law_X10_pair : GoodIn wsL_law (wsV RL 131 RX10 yX10_pair wsX10_pair) := goodIn_app (goodIn_of _ (by decide +kernel)) ggL_law_X10_pair
set_option maxRecDepth 20000 in
theorem ggL_law_X11_pair : GoodIn wsL_law wsX11_pair := goodIn_t lw_good _ [877, 117, 120, 502, 503, 504, 5, 505, 158, 159, 160, 161, 112, 151, 152, 153, 154, 155, 156, 157, 115, 573, 574, 575, 576, 577, 578, 579, 580, 430, 431, 432, 420, 421, 422, 433, 434, 435, 436, 437, 438, 439, 440, 441, 442, 443, 444, 445, 446, 447, 878, 879, 880, 881, 882, 883, 884, 885, 1068, 1069, 1070, 1071, 1072, 1073, 1074, 1075, 1076, 1077, 1078, 1079, 1080, 1081, 1082, 1083, 1084, 1085] rfl
set_option maxRecDepth 20000 in
theorem gL_law_X11_pair : GoodIn wsL_law (wsV RL 134 RX11 yX11_pair wsX11_pair) := goodIn_app (goodIn_of _ (by decide +kernel)) ggL_law_X11_pair
set_option maxRecDepth 20000 in
theorem ggL_law_X10_stumble : GoodIn wsL_law wsX10_stumble := goodIn_t lw_good _ [889, 15, 491, 40, 518, 452, 517, 890, 26, 27, 493, 494, 495, 2, 496, 131, 132, 133, 134, 135, 136, 137, 138, 25, 891, 892, 893, 39, 894, 895, 896, 897, 898, 899, 900, 901, 902, 903, 904, 905, 906, 907, 908, 909, 910, 911, 912, 913, 914, 363, 364, 365, 915, 367, 368, 369, 916, 917, 918, 919, 1054, 1055, 1056, 1057, 1058, 1059, 1060, 1061, 1062, 1063, 1064, 1065, 1066, 1067, 1086, 1087, 1088, 1089, 1090, 1091, 1092, 1093, 1101, 1102, 1103, 1104, 1105, 1106, 1107, 1108, 1111, 1112, 1113, 1114, 1115, 1116, 1117, 1118] rfl
set_option maxRecDepth 20000 in
theorem gL_law_X10_stumble : GoodIn wsL_law (wsV RL 135 RX10 yX10_stumble wsX10_stumble) := goodIn_app (goodIn_of _ (by decide +kernel)) ggL_law_X10_stumble
set_option maxRecDepth 20000 in
theorem ggL_law_X11_stumble : GoodIn wsL_law wsX11_stumble := goodIn_t lw_good _ [923, 150, 924, 149, 117, 502, 503, 504, 5, 505, 158, 159, 160, 161, 112, 151, 152, 153, 154, 155, 156, 157, 115, 573, 574, 575, 576, 726, 727, 728, 420, 421, 422, 433, 434, 435, 436, 437, 438, 439, 440, 441, 442, 443, 444, 445, 446, 447, 925, 926, 927, 928, 929, 116, 1068, 1069, 1070, 1071, 1072, 1073, 1074, 1075, 1076, 1077, 1078, 1079, 1080, 1081, 1082, 1083, 1084, 1085] rfl
set_option maxRecDepth 20000 in
theorem gL_law_X11_stumble : GoodIn wsL_law (wsV RL 138 RX11 yX11_stumble wsX11_stumble) := goodIn_app (goodIn_of _ (by decide +kernel)) ggL_law_X11_stumble
set_option maxRecDepth 20000 in
theorem ggL_law_X10_races : GoodIn wsL_law wsX10_races := goodIn_t lw_good _ [933, 934, 16, 15, 935, 936, 937, 938, 939, 131, 491, 940, 941, 492, 132, 133, 2, 134, 135, 136, 137, 138, 25, 942, 943, 944, 14, 945, 50, 51, 52, 54, 946, 561, 562, 30, 563, 174, 175, 176, 177, 178, 179, 180, 181, 470, 354, 355, 356, 357, 358, 359, 360, 361, 346, 347, 348, 362, 363, 364, 365, 366, 367, 368, 369, 471, 472, 473, 474, 475, 1054, 1055, 1056, 1057, 1058, 1059, 1060, 1061, 1062, 1063, 1064, 1065, 1066, 1067, 1086, 1087, 1088, 1089, 1090, 1091, 1092, 1093, 1101, 1102, 1103, 1104, 1105, 1106, 1107, 1108] rfl
set_option maxRecDepth 20000 in
theorem gL_law_X10_races : GoodIn wsL_law (wsV RL 139 RX10 yX10_races wsX10_races) := goodIn_app (goodIn_of _ (by decide +kernel)) ggL_law_X10_races
set_option maxRecDepth 20000 in
theorem ggL_law_X11_races : GoodIn wsL_law wsX11_races := goodIn_t lw_good _ [950, 951, 150, 952, 953, 954, 955, 924, 117, 956, 149, 151, 152, 5, 153, 154, 155, 156, 157, 115, 573, 574, 575, 576, 112, 502, 503, 504, 505, 158, 159, 160, 161, 430, 431, 432, 420, 421, 422, 433, 434, 435, 436, 437, 438, 439, 440, 441, 442, 443, 444, 445, 446, 447, 484, 485, 486, 1068, 1069, 1070, 1071, 1072, 1073, 1074, 1075, 1076, 1077, 1078, 1079, 1080, 1081, 1082, 1083, 1084, 1085] rfl
set_option maxRecDepth 20000 in
theorem gL_law_X11_races : GoodIn wsL_law (wsV RL 142 RX11 yX11_races wsX11_races) := goodIn_app (goodIn_of _ (by decide +kernel)) ggL_law_X11_races
set_option maxRecDepth 20000 in
theorem ggL_law_X10_part : GoodIn wsL_law wsX10_part := goodIn_t lw_good _ [960, 26, 27, 132, 133, 2, 134, 135, 136, 137, 138, 25, 1054, 1055, 1056, 1057, 1058, 1059, 1060, 1061, 1062, 1063, 1064, 1065, 1066, 1067] rfl
set_option maxRecDepth 20000 in
theorem gL_law_X10_part : GoodIn wsL_law (wsV RL 143 RX10 yX10_part wsX10_part) := goodIn_app (goodIn_of _ (by decide +kernel)) ggL_law_X10_part
set_option maxRecDepth 20000 in
theorem ggL_law_X11_part : GoodIn wsL_law wsX11_part := goodIn_t lw_good _ [964, 929, 116, 154, 155, 156, 5, 157, 115, 1068, 1069, 1070, 1071, 1072, 1073, 1074, 1075, 1076, 1077, 1078, 1079, 1080, 1081, 1082, 1083, 1084, 1085] rfl
set_option maxRecDepth 20000 in
theorem gL_law_X11_part : GoodIn wsL_law (wsV RL 147 RX11 yX11_part wsX11_part) := goodIn_app (goodIn_of _ (by decide +kernel)) ggL_law_X11_part
set_option maxRecDepth 20000 in
theorem ggL_law_X10_image : GoodIn wsL_law wsX10_image := goodIn_t lw_good _ [968, 17, 15, 19, 132, 133, 2, 134, 135, 136, 137, 138, 25, 969, 970, 971, 14, 972, 58, 62, 63, 64, 973, 943, 944, 945, 50, 51, 52, 54, 946, 561, 562, 30, 563, 174, 175, 176, 177, 178, 179, 180, 181, 974, 975, 976, 57, 977, 69, 68, 461, 462, 463, 464, 978, 979, 980, 61, 981, 74, 78, 982, 341, 342, 343, 983, 1054, 1055, 1056, 1057, 1058, 1059, 1060, 1061, 1062, 1063, 1064, 1065, 1066, 1067, 1086, 1087, 1088, 1089, 1090, 1091, 1092, 1093, 1101, 1102, 1103, 1104, 1105, 1106, 1107, 1108, 1124, 1125, 1126, 1127, 1128, 1129, 1130] rfl
set_option maxRecDepth 20000 in
theorem gL_law_X10_image : GoodIn wsL_law (wsV RL 148 RX10 yX10_image wsX10_image) := goodIn_app (goodIn_of _ (by decide +kernel)) ggL_law_X10_image
set_option maxRecDepth 20000 in
theorem ggL_law_X11_image : GoodIn wsL_law wsX11_image := goodIn_t lw_good _ [987, 113, 112, 114, 151, 152, 5, 153, 154, 155, 156, 157, 115, 1068, 1069, 1070, 1071, 1072, 1073, 1074, 1075, 1076, 1077, 1078, 1079, 1080, 1081, 1082, 1083, 1084, 1085] rfl
set_option maxRecDepth 20000 in
theorem gL_law_X11_image : GoodIn wsL_law (wsV RL 151 RX11 yX11_image wsX11_image) := goodIn_app (goodIn_of _ (by decide +kernel)) ggL_law_X11_image
set_option maxRecDepth 20000 in
theorem ggL_law_X10_from : GoodIn wsL_law wsX10_from := goodIn_t lw_good _ [991, 19, 15, 17, 132, 133, 2, 134, 135, 136, 137, 138, 25, 969, 970, 971, 14, 972, 58, 62, 63, 64, 973, 943, 944, 945, 50, 51, 52, 54, 946, 561, 562, 30, 563, 174, 175, 176, 177, 178, 179, 180, 181, 974, 975, 976, 57, 977, 69, 68, 461, 462, 463, 464, 978, 979, 980, 61, 981, 74, 78, 982, 341, 342, 343, 983, 1054, 1055, 1056, 1057, 1058, 1059, 1060, 1061, 1062, 1063, 1064, 1065, 1066, 1067, 1086, 1087, 1088, 1089, 1090, 1091, 1092, 1093, 1101, 1102, 1103, 1104, 1105, 1106, 1107, 1108, 1124, 1125, 1126, 1127, 1128, 1129, 1130] rfl
set_option maxRecDepth 20000 in
theorem gL_law_X10_from : GoodIn wsL_law (wsV RL 152 RX10 yX10_from wsX10_from) := goodIn_app (goodIn_of _ (by decide +kernel)) ggL_law_X10_from
set_option maxRecDepth 20000 in
theorem ggL_law_X11_from : GoodIn wsL_law wsX11_from := goodIn_t lw_good _ [995, 114, 112, 113, 151, 152, 5, 153, 154, 155, 156, 157, 115, 509, 510, 511, 512, 1068, 1069, 1070, 1071, 1072, 1073, 1074, 1075, 1076, 1077, 1078, 1079, 1080, 1081, 1082, 1083, 1084, 1085] rfl
set_option maxRecDepth 20000 in
theorem gL_law_X11_from : GoodIn wsL_law (wsV RL 155 RX11 yX11_from wsX11_from) := goodIn_app (goodIn_of _ (by decide +kernel)) ggL_law_X11_from
set_option maxRecDepth 20000 in
theorem ggL_law_X10_status : GoodIn wsL_law wsX10_status := goodIn_t lw_good _ [999, 25, 132, 133, 2, 134, 135, 136, 137, 138, 1054, 1055, 1056, 1057, 1058, 1059, 1060, 1061, 1062, 1063, 1064, 1065, 1066, 1067] rfl
set_option maxRecDepth 20000 in
theorem gL_law_X10_status : GoodIn wsL_law (wsV RL 156 RX10 yX10_status wsX10_status) := goodIn_app (goodIn_of _ (by decide +kernel)) ggL_law_X10_status
set_option maxRecDepth 20000 in
theorem ggL_law_X11_status : GoodIn wsL_law wsX11_status := goodIn_t lw_good _ [1003, 721, 115, 151, 152, 5, 153, 154, 155, 156, 157, 1068, 1069, 1070, 1071, 1072, 1073, 1074, 1075, 1076, 1077, 1078, 1079, 1080, 1081, 1082, 1083, 1084, 1085] rfl
set_option maxRecDepth 20000 in
theorem gL_law_X11_status : GoodIn wsL_law (wsV RL 159 RX11 yX11_status wsX11_status) := goodIn_app (goodIn_of _ (by decide +kernel)) ggL_law_X11_status
set_option maxRecDepth 20000 in
theorem ggL_law_X10_count : GoodIn wsL_law wsX10_count := goodIn_t lw_good _ [1007, 15, 131, 518, 452, 681, 682, 772, 781, 1008, 1009, 23, 471, 472, 473, 14, 474, 52, 54, 475, 346, 347, 30, 348, 181, 1010, 1011, 1012, 1013, 1014, 1015, 1016, 1017, 1018, 1019, 135, 136, 137, 2, 138, 25, 1054, 1055, 1056, 1057, 1058, 1059, 1060, 1061, 1062, 1063, 1064, 1065, 1066, 1067, 1086, 1087, 1088, 1089, 1090, 1091, 1092, 1093, 1126, 1127, 1128, 1129, 1130, 1124, 1125, 1094, 1095, 1096, 1097, 1098, 1099, 1100, 1101, 1102, 1103, 1104, 1105, 1106, 1107, 1108] rfl
set_option maxRecDepth 20000 in
theorem gL_law_X10_count : GoodIn wsL_law (wsV RL 160 RX10 yX10_count wsX10_count) := goodIn_app (goodIn_of _ (by decide +kernel)) ggL_law_X10_count
set_option maxRecDepth 20000 in
theorem ggL_law_X11_count : GoodIn wsL_law wsX11_count := goodIn_t lw_good _ [1023, 149, 151, 152, 5, 153, 1024, 1025, 1026, 1027, 112, 214, 158, 159, 160, 161, 484, 485, 486, 420, 421, 422, 1028, 1029, 1030, 1031, 154, 155, 156, 157, 115, 1068, 1069, 1070, 1071, 1072, 1073, 1074, 1075, 1076, 1077, 1078, 1079, 1080, 1081, 1082, 1083, 1084, 1085] rfl
set_option maxRecDepth 20000 in
theorem gL_law_X11_count : GoodIn wsL_law (wsV RL 163 RX11 yX11_count wsX11_count) := goodIn_app (goodIn_of _ (by decide +kernel)) ggL_law_X11_count
set_option maxRecDepth 20000 in
theorem ggL_law_X10_digest : GoodIn wsL_law wsX10_digest := goodIn_t lw_good _ [1035, 1036, 1037, 15, 131, 491, 452, 681, 772, 781, 26, 27, 1038, 1005, 1006, 2, 1007, 518, 682, 1008, 1009, 23, 471, 472, 473, 14, 474, 52, 54, 475, 346, 347, 30, 348, 181, 1010, 1011, 1012, 1013, 1014, 1015, 1016, 1017, 1018, 1019, 135, 136, 137, 138, 25, 544, 545, 546, 547, 174, 175, 176, 177, 178, 179, 180, 362, 363, 364, 365, 366, 367, 368, 369, 1039, 1040, 1041, 61, 1042, 74, 1043, 78, 76, 77, 1054, 1055, 1056, 1057, 1058, 1059, 1060, 1061, 1062, 1063, 1064, 1065, 1066, 1067, 1086, 1087, 1088, 1089, 1090, 1091, 1092, 1093, 1126, 1127, 1128, 1129, 1130, 1124, 1125, 1094, 1095, 1096, 1097, 1098, 1099, 1100, 1101, 1102, 1103, 1104, 1105, 1106, 1107, 1108] rfl
set_option maxRecDepth 20000 in
theorem gL_law_X10_digest : GoodIn wsL_law (wsV RL 164 RX10 yX10_digest wsX10_digest) := goodIn_app (goodIn_of _ (by decide +kernel)) ggL_law_X10_digest
set_option maxRecDepth 20000 in
theorem ggL_law_X11_digest : GoodIn wsL_law wsX11_digest := goodIn_t lw_good _ [1047, 1048, 1049, 112, 929, 116, 1024, 1025, 1026, 5, 1027, 214, 158, 159, 160, 161, 484, 485, 486, 420, 421, 422, 1028, 1029, 1030, 1031, 552, 553, 554, 555, 436, 437, 438, 439, 440, 441, 442, 443, 444, 1050, 1051, 1052, 1053, 1068, 1069, 1070, 1071, 1072, 1073, 1074, 1075, 1076, 1077, 1078, 1079, 1080, 1081, 1082, 1083, 1084, 1085] rfl
set_option maxRecDepth 20000 in
theorem gL_law_X11_digest : GoodIn wsL_law (wsV RL 168 RX11 yX11_digest wsX11_digest) := goodIn_app (goodIn_of _ (by decide +kernel)) ggL_law_X11_digest


