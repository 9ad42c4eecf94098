set_option maxRecDepth 20000 in
theorem lw_good : wsL_law.all goodWord = true := by decide +kernel
theorem goodIn_t {big : List Cond} (hb : big.all goodWord = true) (ws : List Cond) (ps : List Nat) (hp : ws = ps.filterMap (fun i => big[i]?)) : GoodIn big ws := by
  intro w hw
  rw [hp] at hw
  obtain ⟨i, -, hi⟩ := List.mem_filterMap.mp hw
  have hm : w ∈ big := by first | exact List.mem_of_getElem? hi | exact List.getElem?_mem hi
  exact ⟨hm, good_of_word (List.all_eq_true.mp hb w hm)⟩
set_option maxRecDepth 20000 in
theorem ggL_law_X10_init : GoodIn wsL_law wsX10_init := goodIn_t lw_good _ [8, 9, 10, 11, 12, 13, 14, 15, 16, 17, 18, 19, 20, 21, 22, 23, 24, 25, 26, 27, 28, 29, 30, 31, 32, 33, 34, 35, 36, 37, 38, 39, 40, 41, 42, 43, 44, 45, 46, 47, 48, 49, 50, 51, 52, 53, 54, 55, 56, 57, 58, 59, 60, 61, 62, 63, 64, 65, 66, 67, 68, 69, 70, 71, 72, 73, 74, 75, 76, 77, 78, 79, 80, 81, 82, 83, 84, 85, 86, 87, 88, 89, 90, 91, 92, 93, 94, 95, 96, 97, 98, 99, 100, 101, 102, 103, 104, 105, 106, 107, 1086, 1087, 1088, 1089, 1090, 1091, 1092, 1093, 1054, 1055, 1056, 1057, 1058, 1059, 1060, 1061, 1062, 1063, 1064, 1065, 1066, 1067, 1094, 1095, 1096, 1097, 1098, 1099, 1100, 1101, 1102, 1103, 1104, 1105, 1106, 1107, 1108, 1109, 1110, 1111, 1112, 1113, 1114, 1115, 1116, 1117, 1118, 1119, 1120, 1121, 1122, 1123, 1124, 1125, 1126, 1127, 1128, 1129, 1130] rfl
set_option maxRecDepth 20000 in
theorem gL_law_X10_init : GoodIn wsL_law (wsX10_init) := ggL_law_X10_init
set_option maxRecDepth 20000 in
theorem ggL_law_X11_init : GoodIn wsL_law wsX11_init := goodIn_t lw_good _ [110, 111, 10, 11, 24, 112, 113, 18, 114, 115, 116, 117, 118, 119, 120, 121, 122, 123, 124, 125, 5, 126, 1068, 1069, 1070, 1071, 1072, 1073, 1074, 1075, 1076, 1077, 1078, 1079, 1080, 1081, 1082, 1083, 1084, 1085] rfl
set_option maxRecDepth 20000 in
theorem gL_law_X11_init : GoodIn wsL_law (wsX11_init) := ggL_law_X11_init
set_option maxRecDepth 20000 in
theorem ggL_law_X10_race : GoodIn wsL_law wsX10_race := goodIn_t lw_good _ [130, 15, 131, 132, 133, 2, 134, 135, 136, 137, 138, 25, 139, 140, 141, 14, 142, 50, 51, 52, 58, 143, 62, 144, 63, 64, 1054, 1055, 1056, 1057, 1058, 1059, 1060, 1061, 1062, 1063, 1064, 1065, 1066, 1067, 1086, 1087, 1088, 1089, 1090, 1091, 1092, 1093, 1124, 1125, 1126, 1127, 1128, 1129, 1130] rfl
set_option maxRecDepth 20000 in
theorem gL_law_X10_race : GoodIn wsL_law (wsV RL 13 RX10 yX10_race wsX10_race) := goodIn_app (goodIn_of _ (by decide +kernel)) ggL_law_X10_race
set_option maxRecDepth 20000 in
theorem ggL_law_X11_race : GoodIn wsL_law wsX11_race := goodIn_t lw_good _ [148, 149, 150, 112, 151, 152, 5, 153, 154, 155, 156, 157, 115, 158, 159, 160, 161, 124, 125, 126, 1068, 1069, 1070, 1071, 1072, 1073, 1074, 1075, 1076, 1077, 1078, 1079, 1080, 1081, 1082, 1083, 1084, 1085] rfl
set_option maxRecDepth 20000 in
theorem gL_law_X11_race : GoodIn wsL_law (wsV RL 17 RX11 yX11_race wsX11_race) := goodIn_app (goodIn_of _ (by decide +kernel)) ggL_law_X11_race
set_option maxRecDepth 20000 in
theorem ggL_law_X10_one : GoodIn wsL_law wsX10_one := goodIn_t lw_good _ [165, 15, 131, 132, 133, 2, 134, 135, 136, 137, 138, 25, 166, 167, 168, 14, 169, 52, 54, 58, 143, 170, 171, 172, 30, 173, 174, 175, 176, 177, 178, 179, 180, 181, 1054, 1055, 1056, 1057, 1058, 1059, 1060, 1061, 1062, 1063, 1064, 1065, 1066, 1067, 1086, 1087, 1088, 1089, 1090, 1091, 1092, 1093, 1124, 1125, 1101, 1102, 1103, 1104, 1105, 1106, 1107, 1108] rfl
set_option maxRecDepth 20000 in
theorem gL_law_X10_one : GoodIn wsL_law (wsV RL 18 RX10 yX10_one wsX10_one) := goodIn_app (goodIn_of _ (by decide +kernel)) ggL_law_X10_one
set_option maxRecDepth 20000 in
theorem ggL_law_X11_one : GoodIn wsL_law wsX11_one := goodIn_t lw_good _ [185, 112, 186, 187, 5, 188, 189, 151, 152, 153, 190, 191, 192, 193, 154, 155, 156, 157, 115, 158, 159, 160, 161, 194, 195, 196, 197, 198, 199, 200, 1068, 1069, 1070, 1071, 1072, 1073, 1074, 1075, 1076, 1077, 1078, 1079, 1080, 1081, 1082, 1083, 1084, 1085] rfl
set_option maxRecDepth 20000 in
theorem gL_law_X11_one : GoodIn wsL_law (wsV RL 22 RX11 yX11_one wsX11_one) := goodIn_app (goodIn_of _ (by decide +kernel)) ggL_law_X11_one
set_option maxRecDepth 20000 in
theorem ggL_law_X10_type : GoodIn wsL_law wsX10_type := goodIn_t lw_good _ [204, 23, 132, 133, 2, 134, 135, 136, 137, 138, 25, 205, 206, 207, 22, 208, 86, 85, 1054, 1055, 1056, 1057, 1058, 1059, 1060, 1061, 1062, 1063, 1064, 1065, 1066, 1067, 1094, 1095, 1096, 1097, 1098, 1099, 1100] rfl
set_option maxRecDepth 20000 in
theorem gL_law_X10_type : GoodIn wsL_law (wsV RL 23 RX10 yX10_type wsX10_type) := goodIn_app (goodIn_of _ (by decide +kernel)) ggL_law_X10_type
set_option maxRecDepth 20000 in
theorem ggL_law_X11_type : GoodIn wsL_law wsX11_type := goodIn_t lw_good _ [212, 213, 214, 121, 151, 152, 5, 153, 154, 155, 156, 157, 115, 194, 195, 196, 197, 1068, 1069, 1070, 1071, 1072, 1073, 1074, 1075, 1076, 1077, 1078, 1079, 1080, 1081, 1082, 1083, 1084, 1085] rfl
set_option maxRecDepth 20000 in
theorem gL_law_X11_type : GoodIn wsL_law (wsV RL 26 RX11 yX11_type wsX11_type) := goodIn_app (goodIn_of _ (by decide +kernel)) ggL_law_X11_type
set_option maxRecDepth 20000 in
theorem ggL_law_X10_clear : GoodIn wsL_law wsX10_clear := goodIn_t lw_good _ [218, 23, 1054, 1055, 1056, 1057, 1058, 1059, 1060, 1061, 1062, 1063, 1064, 1065, 1066, 1067, 1094, 1095, 1096, 1097, 1098, 1099, 1100] rfl
set_option maxRecDepth 20000 in
theorem gL_law_X10_clear : GoodIn wsL_law (wsV RL 27 RX10 yX10_clear wsX10_clear) := goodIn_app (goodIn_of _ (by decide +kernel)) ggL_law_X10_clear
set_option maxRecDepth 20000 in
theorem ggL_law_X11_clear : GoodIn wsL_law wsX11_clear := goodIn_t lw_good _ [222, 214, 1068, 1069, 1070, 1071, 1072, 1073, 1074, 1075, 1076, 1077, 1078, 1079, 1080, 1081, 1082, 1083, 1084, 1085] rfl
set_option maxRecDepth 20000 in
theorem gL_law_X11_clear : GoodIn wsL_law (wsV RL 31 RX11 yX11_clear wsX11_clear) := goodIn_app (goodIn_of _ (by decide +kernel)) ggL_law_X11_clear
set_option maxRecDepth 20000 in
theorem ggL_law_X10_read : GoodIn wsL_law wsX10_read := goodIn_t lw_good _ [226, 23, 16, 15, 227, 228, 229, 22, 230, 87, 91, 86, 231, 232, 233, 234, 89, 88, 235, 236, 237, 238, 239, 85, 240, 241, 242, 243, 244, 245, 246, 247, 248, 249, 250, 251, 252, 253, 254, 255, 256, 257, 90, 258, 259, 260, 261, 262, 263, 264, 265, 266, 267, 268, 269, 270, 271, 272, 273, 274, 275, 276, 277, 278, 279, 280, 281, 282, 283, 284, 285, 286, 287, 288, 289, 290, 291, 292, 293, 294, 295, 296, 297, 298, 299, 300, 301, 302, 303, 304, 305, 306, 307, 308, 309, 310, 311, 312, 313, 314, 315, 316, 317, 318, 319, 320, 321, 322, 323, 140, 141, 14, 142, 50, 51, 52, 58, 143, 62, 144, 63, 64, 324, 325, 326, 327, 328, 167, 168, 169, 54, 170, 171, 172, 30, 173, 174, 175, 176, 177, 178, 179, 180, 181, 329, 330, 331, 332, 333, 334, 335, 336, 337, 338, 339, 340, 341, 342, 343, 344, 345, 346, 347, 348, 349, 350, 351, 352, 353, 354, 355, 356, 357, 358, 359, 360, 361, 362, 363, 364, 365, 366, 367, 368, 369, 1054, 1055, 1056, 1057, 1058, 1059, 1060, 1061, 1062, 1063, 1064, 1065, 1066, 1067, 1094, 1095, 1096, 1097, 1098, 1099, 1100, 1086, 1087, 1088, 1089, 1090, 1091, 1092, 1093, 1124, 1125, 1126, 1127, 1128, 1129, 1130, 1101, 1102, 1103, 1104, 1105, 1106, 1107, 1108] rfl
set_option maxRecDepth 20000 in
theorem gL_law_X10_read : GoodIn wsL_law (wsV RL 32 RX10 yX10_read wsX10_read) := goodIn_app (goodIn_of _ (by decide +kernel)) ggL_law_X10_read
set_option maxRecDepth 20000 in
theorem ggL_law_X11_read : GoodIn wsL_law wsX11_read := goodIn_t lw_good _ [373, 374, 375, 122, 123, 112, 376, 377, 378, 5, 379, 214, 121, 380, 381, 382, 383, 384, 385, 386, 151, 152, 153, 387, 388, 389, 390, 391, 392, 393, 394, 395, 396, 397, 398, 399, 400, 401, 402, 403, 124, 125, 126, 404, 405, 406, 407, 408, 409, 410, 411, 198, 199, 200, 412, 413, 414, 415, 416, 417, 418, 419, 420, 421, 422, 423, 424, 425, 426, 427, 428, 429, 430, 431, 432, 433, 434, 435, 436, 437, 438, 439, 440, 441, 442, 443, 444, 445, 446, 447, 1068, 1069, 1070, 1071, 1072, 1073, 1074, 1075, 1076, 1077, 1078, 1079, 1080, 1081, 1082, 1083, 1084, 1085] rfl
set_option maxRecDepth 20000 in
theorem gL_law_X11_read : GoodIn wsL_law (wsV RL 35 RX11 yX11_read wsX11_read) := goodIn_app (goodIn_of _ (by decide +kernel)) ggL_law_X11_read
set_option maxRecDepth 20000 in
theorem ggL_law_X10_ticks : GoodIn wsL_law wsX10_ticks := goodIn_t lw_good _ [451, 15, 452, 132, 133, 2, 134, 135, 136, 137, 138, 25, 453, 454, 455, 14, 456, 58, 51, 54, 457, 458, 459, 57, 460, 69, 68, 461, 462, 463, 464, 465, 466, 467, 468, 469, 470, 354, 355, 356, 52, 50, 357, 358, 359, 30, 360, 180, 174, 175, 177, 176, 179, 178, 181, 361, 346, 347, 348, 362, 363, 364, 365, 366, 367, 368, 369, 471, 472, 473, 474, 475, 1054, 1055, 1056, 1057, 1058, 1059, 1060, 1061, 1062, 1063, 1064, 1065, 1066, 1067, 1086, 1087, 1088, 1089, 1090, 1091, 1092, 1093, 1124, 1125, 1101, 1102, 1103, 1104, 1105, 1106, 1107, 1108] rfl
set_option maxRecDepth 20000 in
theorem gL_law_X10_ticks : GoodIn wsL_law (wsV RL 36 RX10 yX10_ticks wsX10_ticks) := goodIn_app (goodIn_of _ (by decide +kernel)) ggL_law_X10_ticks
set_option maxRecDepth 20000 in
theorem ggL_law_X11_ticks : GoodIn wsL_law wsX11_ticks := goodIn_t lw_good _ [479, 150, 112, 151, 152, 5, 153, 154, 155, 156, 157, 115, 480, 481, 482, 483, 427, 428, 429, 430, 431, 432, 420, 421, 422, 433, 434, 435, 436, 437, 438, 439, 440, 441, 442, 443, 444, 445, 446, 447, 484, 485, 486, 1068, 1069, 1070, 1071, 1072, 1073, 1074, 1075, 1076, 1077, 1078, 1079, 1080, 1081, 1082, 1083, 1084, 1085] rfl
set_option maxRecDepth 20000 in
theorem gL_law_X11_ticks : GoodIn wsL_law (wsV RL 39 RX11 yX11_ticks wsX11_ticks) := goodIn_app (goodIn_of _ (by decide +kernel)) ggL_law_X11_ticks
set_option maxRecDepth 20000 in
theorem ggL_law_X10_speed : GoodIn wsL_law wsX10_speed := goodIn_t lw_good _ [490, 15, 491, 492, 493, 494, 495, 2, 496, 131, 132, 133, 134, 135, 136, 137, 138, 25, 497, 346, 347, 30, 348, 181, 453, 454, 455, 14, 456, 58, 51, 54, 457, 458, 459, 57, 460, 69, 68, 461, 462, 463, 464, 465, 466, 467, 468, 469, 1054, 1055, 1056, 1057, 1058, 1059, 1060, 1061, 1062, 1063, 1064, 1065, 1066, 1067, 1086, 1087, 1088, 1089, 1090, 1091, 1092, 1093, 1101, 1102, 1103, 1104, 1105, 1106, 1107, 1108, 1124, 1125] rfl
set_option maxRecDepth 20000 in
theorem gL_law_X10_speed : GoodIn wsL_law (wsV RL 40 RX10 yX10_speed wsX10_speed) := goodIn_app (goodIn_of _ (by decide +kernel)) ggL_law_X10_speed
set_option maxRecDepth 20000 in
theorem ggL_law_X11_speed : GoodIn wsL_law wsX11_speed := goodIn_t lw_good _ [501, 112, 502, 503, 504, 5, 505, 158, 159, 160, 161, 151, 152, 153, 506, 507, 508, 193, 154, 155, 156, 157, 115, 420, 421, 422, 509, 510, 511, 512, 480, 481, 482, 483, 1068, 1069, 1070, 1071, 1072, 1073, 1074, 1075, 1076, 1077, 1078, 1079, 1080, 1081, 1082, 1083, 1084, 1085] rfl
set_option maxRecDepth 20000 in
theorem gL_law_X11_speed : GoodIn wsL_law (wsV RL 44 RX11 yX11_speed wsX11_speed) := goodIn_app (goodIn_of _ (by decide +kernel)) ggL_law_X11_speed
set_option maxRecDepth 20000 in
theorem ggL_law_X10_start : GoodIn wsL_law wsX10_start := goodIn_t lw_good _ [516, 15, 491, 517, 518, 493, 494, 495, 2, 496, 131, 132, 133, 134, 135, 136, 137, 138, 25, 497, 346, 347, 30, 348, 181, 453, 454, 455, 14, 456, 58, 51, 54, 457, 458, 459, 57, 460, 69, 68, 461, 462, 463, 464, 465, 466, 467, 468, 469, 1054, 1055, 1056, 1057, 1058, 1059, 1060, 1061, 1062, 1063, 1064, 1065, 1066, 1067, 1086, 1087, 1088, 1089, 1090, 1091, 1092, 1093, 1101, 1102, 1103, 1104, 1105, 1106, 1107, 1108, 1124, 1125] rfl
set_option maxRecDepth 20000 in
theorem gL_law_X10_start : GoodIn wsL_law (wsV RL 45 RX10 yX10_start wsX10_start) := goodIn_app (goodIn_of _ (by decide +kernel)) ggL_law_X10_start
set_option maxRecDepth 20000 in
theorem ggL_law_X11_start : GoodIn wsL_law wsX11_start := goodIn_t lw_good _ [522, 523, 112, 502, 503, 504, 5, 505, 158, 159, 160, 161, 151, 152, 153, 154, 155, 156, 157, 115, 420, 421, 422, 509, 510, 511, 512, 480, 481, 482, 483, 1068, 1069, 1070, 1071, 1072, 1073, 1074, 1075, 1076, 1077, 1078, 1079, 1080, 1081, 1082, 1083, 1084, 1085] rfl
set_option maxRecDepth 20000 in
theorem gL_law_X11_start : GoodIn wsL_law (wsV RL 48 RX11 yX11_start wsX11_start) := goodIn_app (goodIn_of _ (by decide +kernel)) ggL_law_X11_start
set_option maxRecDepth 20000 in
theorem ggL_law_X10_undo : GoodIn wsL_law wsX10_undo := goodIn_t lw_good _ [527, 15, 452, 528, 529, 530, 14, 531, 58, 54, 51, 532, 533, 534, 57, 535, 69, 68, 465, 466, 467, 468, 469, 135, 136, 137, 2, 138, 25, 1054, 1055, 1056, 1057, 1058, 1059, 1060, 1061, 1062, 1063, 1064, 1065, 1066, 1067, 1086, 1087, 1088, 1089, 1090, 1091, 1092, 1093, 1124, 1125, 1101, 1102, 1103, 1104, 1105, 1106, 1107, 1108] rfl
set_option maxRecDepth 20000 in
theorem gL_law_X10_undo : GoodIn wsL_law (wsV RL 49 RX10 yX10_undo wsX10_undo) := goodIn_app (goodIn_of _ (by decide +kernel)) ggL_law_X10_undo
