set_option maxRecDepth 20000 in
theorem ggL_law_X4_init : GoodIn wsL_law wsX4_init := goodIn_r _ [9, 10, 11, 12, 13, 14, 15, 16, 17, 18, 19, 20, 21, 22, 23, 24, 25, 26, 27, 28, 29, 30, 31, 32, 33, 34, 35, 36, 37, 38, 39, 40, 41, 42, 43, 44, 45, 46, 47, 48, 49, 50, 51, 52, 53, 54, 55, 56, 57, 58, 59, 60, 61, 62, 63, 64, 65, 66, 67, 68, 69, 70, 71, 72, 73, 74, 75, 1104, 1105, 1106, 1107, 1108, 1109, 1110, 1111, 1112, 1113, 1114, 1064, 1065, 1066, 1067, 1068, 1069, 1070, 1071, 1072, 1073, 1074, 1115, 1116, 1117, 1118, 1119, 1120, 1121, 1122, 1123, 1124, 1125] (by decide +kernel) (by decide +kernel)
set_option maxRecDepth 20000 in
theorem gL_law_X4_init : GoodIn wsL_law (wsX4_init) := ggL_law_X4_init
set_option maxRecDepth 20000 in
theorem ggL_law_X5_init : GoodIn wsL_law wsX5_init := goodIn_r _ [78, 79, 11, 12, 28, 80, 81, 82, 83, 84, 85, 86, 87, 88, 89, 90, 91, 92, 93, 94, 95, 96, 97, 98, 99, 5, 100, 1075, 1076, 1077, 1078, 1079, 1080, 1081, 1082, 1083, 1084, 1085, 1086, 1087, 1088, 1089, 1090, 1091, 1092, 1093, 1094, 1095, 1096, 1097, 1098, 1099, 1100, 1101, 1102, 1103] (by decide +kernel) (by decide +kernel)
set_option maxRecDepth 20000 in
theorem gL_law_X5_init : GoodIn wsL_law (wsX5_init) := ggL_law_X5_init
set_option maxRecDepth 20000 in
theorem ggL_law_X4_feed : GoodIn wsL_law wsX4_feed := goodIn_r _ [104, 23, 105, 106, 107, 2, 108, 109, 110, 111, 22, 112, 61, 63, 1064, 1065, 1066, 1067, 1068, 1069, 1070, 1071, 1072, 1073, 1074, 1115, 1116, 1117, 1118, 1119] (by decide +kernel) (by decide +kernel)
set_option maxRecDepth 20000 in
theorem gL_law_X4_feed : GoodIn wsL_law (wsV RL 15 RX4 yX4_feed wsX4_feed) := goodIn_app (goodIn_of _ (by decide +kernel)) ggL_law_X4_feed
set_option maxRecDepth 20000 in
theorem ggL_law_X5_feed : GoodIn wsL_law wsX5_feed := goodIn_r _ [116, 117, 118, 85, 119, 120, 121, 5, 122, 1075, 1076, 1077, 1078, 1079, 1080, 1081, 1082, 1083, 1084, 1085, 1086, 1087, 1088, 1089, 1090, 1091, 1092, 1093, 1094, 1095, 1096, 1097, 1098, 1099, 1100, 1101, 1102, 1103] (by decide +kernel) (by decide +kernel)
set_option maxRecDepth 20000 in
theorem gL_law_X5_feed : GoodIn wsL_law (wsV RL 19 RX5 yX5_feed wsX5_feed) := goodIn_app (goodIn_of _ (by decide +kernel)) ggL_law_X5_feed
set_option maxRecDepth 20000 in
theorem ggL_law_X4_opera : GoodIn wsL_law wsX4_opera := goodIn_r _ [126, 17, 16, 127, 23, 105, 30, 128, 129, 48, 49, 15, 50, 39, 51, 52, 53, 54, 55, 56, 57, 130, 131, 132, 22, 133, 66, 64, 65, 134, 135, 136, 137, 61, 63, 138, 139, 140, 141, 107, 2, 108, 142, 143, 144, 145, 146, 147, 148, 149, 150, 151, 152, 153, 154, 155, 156, 157, 158, 159, 160, 161, 162, 163, 164, 165, 166, 167, 168, 169, 170, 171, 172, 173, 174, 175, 176, 177, 178, 179, 180, 181, 182, 183, 184, 185, 186, 187, 188, 189, 190, 191, 192, 193, 194, 195, 196, 197, 198, 199, 200, 201, 202, 203, 204, 205, 206, 207, 208, 209, 210, 211, 212, 213, 214, 215, 216, 217, 218, 219, 106, 220, 221, 222, 223, 224, 225, 226, 227, 228, 229, 230, 231, 232, 233, 234, 235, 236, 40, 41, 42, 43, 237, 238, 239, 240, 241, 242, 243, 244, 245, 246, 247, 248, 46, 1064, 1065, 1066, 1067, 1068, 1069, 1070, 1071, 1072, 1073, 1074, 1104, 1105, 1106, 1107, 1108, 1109, 1110, 1111, 1112, 1113, 1114, 1115, 1116, 1117, 1118, 1119] (by decide +kernel) (by decide +kernel)
set_option maxRecDepth 20000 in
theorem gL_law_X4_opera : GoodIn wsL_law (wsV RL 20 RX4 yX4_opera wsX4_opera) := goodIn_app (goodIn_of _ (by decide +kernel)) ggL_law_X4_opera
set_option maxRecDepth 20000 in
theorem ggL_law_X5_opera : GoodIn wsL_law wsX5_opera := goodIn_r _ [252, 80, 83, 253, 254, 255, 118, 256, 257, 258, 259, 5, 260, 97, 98, 99, 100, 261, 262, 263, 264, 265, 266, 267, 268, 269, 85, 270, 271, 272, 273, 274, 275, 276, 277, 278, 279, 280, 281, 282, 283, 284, 285, 286, 287, 288, 289, 290, 291, 292, 293, 294, 295, 296, 297, 298, 299, 300, 301, 302, 303, 304, 305, 306, 307, 308, 309, 310, 311, 312, 313, 314, 315, 316, 317, 318, 319, 1075, 1076, 1077, 1078, 1079, 1080, 1081, 1082, 1083, 1084, 1085, 1086, 1087, 1088, 1089, 1090, 1091, 1092, 1093, 1094, 1095, 1096, 1097, 1098, 1099, 1100, 1101, 1102, 1103] (by decide +kernel) (by decide +kernel)
set_option maxRecDepth 20000 in
theorem gL_law_X5_opera : GoodIn wsL_law (wsV RL 24 RX5 yX5_opera wsX5_opera) := goodIn_app (goodIn_of _ (by decide +kernel)) ggL_law_X5_opera
set_option maxRecDepth 20000 in
theorem ggL_law_X4_set : GoodIn wsL_law wsX4_set := goodIn_r _ [323, 324, 325, 16, 326, 327, 218, 2, 219, 106, 107, 108, 1064, 1065, 1066, 1067, 1068, 1069, 1070, 1071, 1072, 1073, 1074, 1104, 1105, 1106, 1107, 1108, 1109, 1110, 1111, 1112, 1113, 1114] (by decide +kernel) (by decide +kernel)
set_option maxRecDepth 20000 in
theorem gL_law_X4_set : GoodIn wsL_law (wsV RL 25 RX4 yX4_set wsX4_set) := goodIn_app (goodIn_of _ (by decide +kernel)) ggL_law_X4_set
set_option maxRecDepth 20000 in
theorem ggL_law_X5_set : GoodIn wsL_law wsX5_set := goodIn_r _ [331, 332, 333, 334, 120, 121, 5, 122, 335, 336, 337, 338, 80, 1075, 1076, 1077, 1078, 1079, 1080, 1081, 1082, 1083, 1084, 1085, 1086, 1087, 1088, 1089, 1090, 1091, 1092, 1093, 1094, 1095, 1096, 1097, 1098, 1099, 1100, 1101, 1102, 1103] (by decide +kernel) (by decide +kernel)
set_option maxRecDepth 20000 in
theorem gL_law_X5_set : GoodIn wsL_law (wsV RL 29 RX5 yX5_set wsX5_set) := goodIn_app (goodIn_of _ (by decide +kernel)) ggL_law_X5_set
set_option maxRecDepth 20000 in
theorem ggL_law_X4_lawOf : GoodIn wsL_law wsX4_lawOf := goodIn_r _ [342, 16, 326, 327, 218, 2, 219, 106, 107, 108, 1064, 1065, 1066, 1067, 1068, 1069, 1070, 1071, 1072, 1073, 1074, 1104, 1105, 1106, 1107, 1108, 1109, 1110, 1111, 1112, 1113, 1114] (by decide +kernel) (by decide +kernel)
set_option maxRecDepth 20000 in
theorem gL_law_X4_lawOf : GoodIn wsL_law (wsV RL 30 RX4 yX4_lawOf wsX4_lawOf) := goodIn_app (goodIn_of _ (by decide +kernel)) ggL_law_X4_lawOf
set_option maxRecDepth 20000 in
theorem ggL_law_X5_lawOf : GoodIn wsL_law wsX5_lawOf := goodIn_r _ [346, 332, 80, 120, 121, 5, 122, 1075, 1076, 1077, 1078, 1079, 1080, 1081, 1082, 1083, 1084, 1085, 1086, 1087, 1088, 1089, 1090, 1091, 1092, 1093, 1094, 1095, 1096, 1097, 1098, 1099, 1100, 1101, 1102, 1103] (by decide +kernel) (by decide +kernel)
set_option maxRecDepth 20000 in
theorem gL_law_X5_lawOf : GoodIn wsL_law (wsV RL 34 RX5 yX5_lawOf wsX5_lawOf) := goodIn_app (goodIn_of _ (by decide +kernel)) ggL_law_X5_lawOf
set_option maxRecDepth 20000 in
theorem ggL_law_X4_person : GoodIn wsL_law wsX4_person := goodIn_r _ [350, 16, 128, 351, 352, 2, 353, 106, 107, 108, 354, 355, 356, 357, 358, 359, 360, 361, 362, 363, 234, 235, 15, 236, 55, 40, 41, 42, 43, 237, 238, 239, 240, 56, 1064, 1065, 1066, 1067, 1068, 1069, 1070, 1071, 1072, 1073, 1074, 1104, 1105, 1106, 1107, 1108, 1109, 1110, 1111, 1112, 1113, 1114] (by decide +kernel) (by decide +kernel)
set_option maxRecDepth 20000 in
theorem gL_law_X4_person : GoodIn wsL_law (wsV RL 35 RX4 yX4_person wsX4_person) := goodIn_app (goodIn_of _ (by decide +kernel)) ggL_law_X4_person
set_option maxRecDepth 20000 in
theorem ggL_law_X5_person : GoodIn wsL_law wsX5_person := goodIn_r _ [367, 368, 333, 334, 80, 120, 121, 5, 122, 369, 370, 371, 308, 309, 310, 311, 1075, 1076, 1077, 1078, 1079, 1080, 1081, 1082, 1083, 1084, 1085, 1086, 1087, 1088, 1089, 1090, 1091, 1092, 1093, 1094, 1095, 1096, 1097, 1098, 1099, 1100, 1101, 1102, 1103] (by decide +kernel) (by decide +kernel)
set_option maxRecDepth 20000 in
theorem gL_law_X5_person : GoodIn wsL_law (wsV RL 39 RX5 yX5_person wsX5_person) := goodIn_app (goodIn_of _ (by decide +kernel)) ggL_law_X5_person
set_option maxRecDepth 20000 in
theorem ggL_law_X4_of : GoodIn wsL_law wsX4_of := goodIn_r _ [375, 16, 376, 377, 378, 379, 380, 381, 382, 15, 383, 55, 107, 2, 108, 384, 385, 386, 387, 56, 1064, 1065, 1066, 1067, 1068, 1069, 1070, 1071, 1072, 1073, 1074, 1104, 1105, 1106, 1107, 1108, 1109, 1110, 1111, 1112, 1113, 1114] (by decide +kernel) (by decide +kernel)
set_option maxRecDepth 20000 in
theorem gL_law_X4_of : GoodIn wsL_law (wsV RL 40 RX4 yX4_of wsX4_of) := goodIn_app (goodIn_of _ (by decide +kernel)) ggL_law_X4_of
set_option maxRecDepth 20000 in
theorem ggL_law_X5_of : GoodIn wsL_law wsX5_of := goodIn_r _ [391, 392, 393, 394, 395, 5, 396, 80, 120, 121, 122, 397, 398, 399, 400, 1075, 1076, 1077, 1078, 1079, 1080, 1081, 1082, 1083, 1084, 1085, 1086, 1087, 1088, 1089, 1090, 1091, 1092, 1093, 1094, 1095, 1096, 1097, 1098, 1099, 1100, 1101, 1102, 1103] (by decide +kernel) (by decide +kernel)
set_option maxRecDepth 20000 in
theorem gL_law_X5_of : GoodIn wsL_law (wsV RL 43 RX5 yX5_of wsX5_of) := goodIn_app (goodIn_of _ (by decide +kernel)) ggL_law_X5_of
set_option maxRecDepth 20000 in
theorem ggL_law_X4_does : GoodIn wsL_law wsX4_does := goodIn_r _ [404, 16, 380, 381, 382, 15, 383, 55, 107, 2, 108, 405, 406, 407, 408, 42, 40, 39, 41, 409, 410, 411, 412, 413, 414, 415, 416, 57, 417, 418, 419, 420, 45, 421, 422, 423, 424, 44, 43, 425, 385, 386, 387, 56, 426, 427, 428, 429, 430, 431, 432, 433, 1064, 1065, 1066, 1067, 1068, 1069, 1070, 1071, 1072, 1073, 1074, 1104, 1105, 1106, 1107, 1108, 1109, 1110, 1111, 1112, 1113, 1114] (by decide +kernel) (by decide +kernel)
set_option maxRecDepth 20000 in
theorem gL_law_X4_does : GoodIn wsL_law (wsV RL 44 RX4 yX4_does wsX4_does) := goodIn_app (goodIn_of _ (by decide +kernel)) ggL_law_X4_does
set_option maxRecDepth 20000 in
theorem ggL_law_X5_does : GoodIn wsL_law wsX5_does := goodIn_r _ [437, 438, 393, 394, 395, 5, 396, 80, 120, 121, 122, 439, 440, 441, 442, 397, 398, 399, 400, 443, 444, 445, 446, 447, 448, 449, 450, 451, 452, 453, 454, 1075, 1076, 1077, 1078, 1079, 1080, 1081, 1082, 1083, 1084, 1085, 1086, 1087, 1088, 1089, 1090, 1091, 1092, 1093, 1094, 1095, 1096, 1097, 1098, 1099, 1100, 1101, 1102, 1103] (by decide +kernel) (by decide +kernel)
set_option maxRecDepth 20000 in
theorem gL_law_X5_does : GoodIn wsL_law (wsV RL 47 RX5 yX5_does wsX5_does) := goodIn_app (goodIn_of _ (by decide +kernel)) ggL_law_X5_does
set_option maxRecDepth 20000 in
theorem ggL_law_X4_mind : GoodIn wsL_law wsX4_mind := goodIn_r _ [458, 16, 376, 378, 380, 381, 382, 15, 383, 55, 107, 2, 108, 351, 352, 353, 106, 357, 358, 359, 1064, 1065, 1066, 1067, 1068, 1069, 1070, 1071, 1072, 1073, 1074, 1104, 1105, 1106, 1107, 1108, 1109, 1110, 1111, 1112, 1113, 1114] (by decide +kernel) (by decide +kernel)
set_option maxRecDepth 20000 in
theorem gL_law_X4_mind : GoodIn wsL_law (wsV RL 48 RX4 yX4_mind wsX4_mind) := goodIn_app (goodIn_of _ (by decide +kernel)) ggL_law_X4_mind
set_option maxRecDepth 20000 in
theorem ggL_law_X5_mind : GoodIn wsL_law wsX5_mind := goodIn_r _ [462, 368, 334, 80, 393, 394, 395, 5, 396, 120, 121, 122, 335, 336, 337, 338, 1075, 1076, 1077, 1078, 1079, 1080, 1081, 1082, 1083, 1084, 1085, 1086, 1087, 1088, 1089, 1090, 1091, 1092, 1093, 1094, 1095, 1096, 1097, 1098, 1099, 1100, 1101, 1102, 1103] (by decide +kernel) (by decide +kernel)
set_option maxRecDepth 20000 in
theorem gL_law_X5_mind : GoodIn wsL_law (wsV RL 52 RX5 yX5_mind wsX5_mind) := goodIn_app (goodIn_of _ (by decide +kernel)) ggL_law_X5_mind
set_option maxRecDepth 20000 in
theorem ggL_law_X4_pride : GoodIn wsL_law wsX4_pride := goodIn_r _ [466, 16, 377, 380, 381, 382, 15, 383, 55, 107, 2, 108, 354, 355, 356, 106, 1064, 1065, 1066, 1067, 1068, 1069, 1070, 1071, 1072, 1073, 1074, 1104, 1105, 1106, 1107, 1108, 1109, 1110, 1111, 1112, 1113, 1114] (by decide +kernel) (by decide +kernel)
set_option maxRecDepth 20000 in
theorem gL_law_X4_pride : GoodIn wsL_law (wsV RL 53 RX4 yX4_pride wsX4_pride) := goodIn_app (goodIn_of _ (by decide +kernel)) ggL_law_X4_pride
set_option maxRecDepth 20000 in
theorem ggL_law_X5_pride : GoodIn wsL_law wsX5_pride := goodIn_r _ [470, 333, 393, 394, 395, 5, 396, 80, 120, 121, 122, 335, 336, 337, 338, 1075, 1076, 1077, 1078, 1079, 1080, 1081, 1082, 1083, 1084, 1085, 1086, 1087, 1088, 1089, 1090, 1091, 1092, 1093, 1094, 1095, 1096, 1097, 1098, 1099, 1100, 1101, 1102, 1103] (by decide +kernel) (by decide +kernel)
set_option maxRecDepth 20000 in
theorem gL_law_X5_pride : GoodIn wsL_law (wsV RL 56 RX5 yX5_pride wsX5_pride) := goodIn_app (goodIn_of _ (by decide +kernel)) ggL_law_X5_pride
set_option maxRecDepth 20000 in
theorem ggL_law_X4_move : GoodIn wsL_law wsX4_move := goodIn_r _ [474, 16, 379, 380, 381, 382, 15, 383, 55, 107, 2, 108, 360, 361, 362, 106, 1064, 1065, 1066, 1067, 1068, 1069, 1070, 1071, 1072, 1073, 1074, 1104, 1105, 1106, 1107, 1108, 1109, 1110, 1111, 1112, 1113, 1114] (by decide +kernel) (by decide +kernel)
set_option maxRecDepth 20000 in
theorem gL_law_X4_move : GoodIn wsL_law (wsV RL 57 RX4 yX4_move wsX4_move) := goodIn_app (goodIn_of _ (by decide +kernel)) ggL_law_X4_move
set_option maxRecDepth 20000 in
theorem ggL_law_X5_move : GoodIn wsL_law wsX5_move := goodIn_r _ [478, 393, 394, 395, 5, 396, 80, 369, 370, 371, 335, 336, 337, 338, 1075, 1076, 1077, 1078, 1079, 1080, 1081, 1082, 1083, 1084, 1085, 1086, 1087, 1088, 1089, 1090, 1091, 1092, 1093, 1094, 1095, 1096, 1097, 1098, 1099, 1100, 1101, 1102, 1103] (by decide +kernel) (by decide +kernel)
set_option maxRecDepth 20000 in
theorem gL_law_X5_move : GoodIn wsL_law (wsV RL 60 RX5 yX5_move wsX5_move) := goodIn_app (goodIn_of _ (by decide +kernel)) ggL_law_X5_move
set_option maxRecDepth 20000 in
theorem ggL_law_X4_clap : GoodIn wsL_law wsX4_clap := goodIn_r _ [482, 16, 380, 381, 382, 15, 383, 55, 107, 2, 108, 106, 384, 385, 386, 387, 56, 483, 238, 239, 240, 1064, 1065, 1066, 1067, 1068, 1069, 1070, 1071, 1072, 1073, 1074, 1104, 1105, 1106, 1107, 1108, 1109, 1110, 1111, 1112, 1113, 1114] (by decide +kernel) (by decide +kernel)
set_option maxRecDepth 20000 in
theorem gL_law_X4_clap : GoodIn wsL_law (wsV RL 61 RX4 yX4_clap wsX4_clap) := goodIn_app (goodIn_of _ (by decide +kernel)) ggL_law_X4_clap
set_option maxRecDepth 20000 in
theorem ggL_law_X5_clap : GoodIn wsL_law wsX5_clap := goodIn_r _ [487, 393, 394, 395, 5, 396, 80, 120, 121, 122, 335, 336, 337, 338, 1075, 1076, 1077, 1078, 1079, 1080, 1081, 1082, 1083, 1084, 1085, 1086, 1087, 1088, 1089, 1090, 1091, 1092, 1093, 1094, 1095, 1096, 1097, 1098, 1099, 1100, 1101, 1102, 1103] (by decide +kernel) (by decide +kernel)
set_option maxRecDepth 20000 in
theorem gL_law_X5_clap : GoodIn wsL_law (wsV RL 64 RX5 yX5_clap wsX5_clap) := goodIn_app (goodIn_of _ (by decide +kernel)) ggL_law_X5_clap
set_option maxRecDepth 20000 in
theorem ggL_law_X4_room : GoodIn wsL_law wsX4_room := goodIn_r _ [491, 16, 492, 360, 361, 2, 362, 106, 107, 108, 493, 494, 495, 15, 496, 55, 43, 1064, 1065, 1066, 1067, 1068, 1069, 1070, 1071, 1072, 1073, 1074, 1104, 1105, 1106, 1107, 1108, 1109, 1110, 1111, 1112, 1113, 1114] (by decide +kernel) (by decide +kernel)
set_option maxRecDepth 20000 in
theorem gL_law_X4_room : GoodIn wsL_law (wsV RL 65 RX4 yX4_room wsX4_room) := goodIn_app (goodIn_of _ (by decide +kernel)) ggL_law_X4_room
set_option maxRecDepth 20000 in
theorem ggL_law_X5_room : GoodIn wsL_law wsX5_room := goodIn_r _ [500, 369, 370, 5, 371, 120, 121, 122, 501, 502, 503, 504, 80, 397, 398, 399, 400, 505, 506, 507, 508, 1075, 1076, 1077, 1078, 1079, 1080, 1081, 1082, 1083, 1084, 1085, 1086, 1087, 1088, 1089, 1090, 1091, 1092, 1093, 1094, 1095, 1096, 1097, 1098, 1099, 1100, 1101, 1102, 1103] (by decide +kernel) (by decide +kernel)
set_option maxRecDepth 20000 in
theorem gL_law_X5_room : GoodIn wsL_law (wsV RL 68 RX5 yX5_room wsX5_room) := goodIn_app (goodIn_of _ (by decide +kernel)) ggL_law_X5_room
set_option maxRecDepth 20000 in
theorem ggL_law_X4_minutes : GoodIn wsL_law wsX4_minutes := goodIn_r _ [512, 16, 492, 106, 107, 2, 108, 513, 514, 515, 15, 516, 517, 518, 519, 520, 55, 45, 41, 56, 57, 421, 422, 423, 424, 44, 43, 425, 385, 386, 387, 426, 427, 428, 429, 406, 407, 408, 42, 40, 39, 430, 431, 432, 433, 521, 410, 411, 412, 413, 414, 415, 416, 522, 523, 524, 525, 526, 527, 528, 529, 530, 531, 532, 533, 534, 535, 536, 537, 1064, 1065, 1066, 1067, 1068, 1069, 1070, 1071, 1072, 1073, 1074, 1104, 1105, 1106, 1107, 1108, 1109, 1110, 1111, 1112, 1113, 1114] (by decide +kernel) (by decide +kernel)
set_option maxRecDepth 20000 in
theorem gL_law_X4_minutes : GoodIn wsL_law (wsV RL 69 RX4 yX4_minutes wsX4_minutes) := goodIn_app (goodIn_of _ (by decide +kernel)) ggL_law_X4_minutes
set_option maxRecDepth 20000 in
theorem ggL_law_X5_minutes : GoodIn wsL_law wsX5_minutes := goodIn_r _ [541, 542, 120, 121, 5, 122, 543, 544, 545, 546, 547, 548, 549, 550, 80, 86, 88, 447, 448, 449, 450, 397, 398, 399, 400, 451, 452, 453, 454, 439, 440, 441, 442, 443, 444, 445, 446, 551, 552, 553, 505, 506, 507, 508, 554, 555, 556, 1075, 1076, 1077, 1078, 1079, 1080, 1081, 1082, 1083, 1084, 1085, 1086, 1087, 1088, 1089, 1090, 1091, 1092, 1093, 1094, 1095, 1096, 1097, 1098, 1099, 1100, 1101, 1102, 1103] (by decide +kernel) (by decide +kernel)
set_option maxRecDepth 20000 in
theorem gL_law_X5_minutes : GoodIn wsL_law (wsV RL 72 RX5 yX5_minutes wsX5_minutes) := goodIn_app (goodIn_of _ (by decide +kernel)) ggL_law_X5_minutes
set_option maxRecDepth 20000 in
theorem ggL_law_X4_seed : GoodIn wsL_law wsX4_seed := goodIn_r _ [560, 16, 127, 1064, 1065, 1066, 1067, 1068, 1069, 1070, 1071, 1072, 1073, 1074, 1104, 1105, 1106, 1107, 1108, 1109, 1110, 1111, 1112, 1113, 1114] (by decide +kernel) (by decide +kernel)
set_option maxRecDepth 20000 in
theorem gL_law_X4_seed : GoodIn wsL_law (wsV RL 73 RX4 yX4_seed wsX4_seed) := goodIn_app (goodIn_of _ (by decide +kernel)) ggL_law_X4_seed
set_option maxRecDepth 20000 in
theorem ggL_law_X5_seed : GoodIn wsL_law wsX5_seed := goodIn_r _ [564, 335, 336, 337, 5, 338, 80, 1075, 1076, 1077, 1078, 1079, 1080, 1081, 1082, 1083, 1084, 1085, 1086, 1087, 1088, 1089, 1090, 1091, 1092, 1093, 1094, 1095, 1096, 1097, 1098, 1099, 1100, 1101, 1102, 1103] (by decide +kernel) (by decide +kernel)
set_option maxRecDepth 20000 in
theorem gL_law_X5_seed : GoodIn wsL_law (wsV RL 76 RX5 yX5_seed wsX5_seed) := goodIn_app (goodIn_of _ (by decide +kernel)) ggL_law_X5_seed
set_option maxRecDepth 20000 in
theorem ggL_law_X4_minute : GoodIn wsL_law wsX4_minute := goodIn_r _ [568, 16, 492, 569, 570, 571, 15, 572, 55, 39, 573, 574, 575, 576, 46, 577, 425, 385, 386, 387, 56, 237, 238, 239, 240, 517, 518, 519, 520, 45, 41, 57, 421, 422, 423, 424, 44, 43, 426, 427, 428, 429, 406, 407, 408, 42, 40, 430, 431, 432, 433, 521, 410, 411, 412, 413, 414, 415, 416, 522, 2, 523, 524, 525, 526, 527, 528, 529, 530, 531, 532, 533, 534, 535, 536, 537, 1064, 1065, 1066, 1067, 1068, 1069, 1070, 1071, 1072, 1073, 1074, 1104, 1105, 1106, 1107, 1108, 1109, 1110, 1111, 1112, 1113, 1114] (by decide +kernel) (by decide +kernel)
set_option maxRecDepth 20000 in
theorem gL_law_X4_minute : GoodIn wsL_law (wsV RL 77 RX4 yX4_minute wsX4_minute) := goodIn_app (goodIn_of _ (by decide +kernel)) ggL_law_X4_minute
set_option maxRecDepth 20000 in
theorem ggL_law_X5_minute : GoodIn wsL_law wsX5_minute := goodIn_r _ [581, 80, 582, 583, 584, 5, 585, 586, 547, 548, 549, 550, 86, 88, 447, 448, 449, 450, 397, 398, 399, 400, 451, 452, 453, 454, 439, 440, 441, 442, 443, 444, 445, 446, 551, 552, 553, 505, 506, 507, 508, 554, 555, 556, 1075, 1076, 1077, 1078, 1079, 1080, 1081, 1082, 1083, 1084, 1085, 1086, 1087, 1088, 1089, 1090, 1091, 1092, 1093, 1094, 1095, 1096, 1097, 1098, 1099, 1100, 1101, 1102, 1103] (by decide +kernel) (by decide +kernel)
set_option maxRecDepth 20000 in
theorem gL_law_X5_minute : GoodIn wsL_law (wsV RL 80 RX5 yX5_minute wsX5_minute) := goodIn_app (goodIn_of _ (by decide +kernel)) ggL_law_X5_minute
set_option maxRecDepth 20000 in
theorem ggL_law_X4_stir : GoodIn wsL_law wsX4_stir := goodIn_r _ [590, 17, 492, 16, 127, 106, 107, 2, 108, 591, 592, 593, 594, 245, 246, 247, 15, 248, 39, 51, 52, 53, 54, 40, 41, 42, 43, 55, 56, 57, 46, 513, 514, 515, 516, 517, 518, 519, 520, 45, 421, 422, 423, 424, 44, 425, 385, 386, 387, 426, 427, 428, 429, 406, 407, 408, 430, 431, 432, 433, 521, 410, 411, 412, 413, 414, 415, 416, 522, 523, 524, 525, 526, 527, 528, 529, 530, 531, 532, 533, 534, 535, 536, 537, 569, 570, 571, 572, 573, 574, 575, 576, 577, 237, 238, 239, 240, 1064, 1065, 1066, 1067, 1068, 1069, 1070, 1071, 1072, 1073, 1074, 1104, 1105, 1106, 1107, 1108, 1109, 1110, 1111, 1112, 1113, 1114] (by decide +kernel) (by decide +kernel)
set_option maxRecDepth 20000 in
theorem gL_law_X4_stir : GoodIn wsL_law (wsV RL 81 RX4 yX4_stir wsX4_stir) := goodIn_app (goodIn_of _ (by decide +kernel)) ggL_law_X4_stir
set_option maxRecDepth 20000 in
theorem ggL_law_X5_stir : GoodIn wsL_law wsX5_stir := goodIn_r _ [598, 599, 80, 82, 120, 121, 5, 122, 258, 259, 260, 547, 548, 549, 550, 86, 88, 447, 448, 449, 450, 397, 398, 399, 400, 451, 452, 453, 454, 439, 440, 441, 442, 443, 444, 445, 446, 551, 552, 553, 505, 506, 507, 508, 554, 555, 556, 600, 579, 580, 581, 582, 583, 584, 585, 586, 1075, 1076, 1077, 1078, 1079, 1080, 1081, 1082, 1083, 1084, 1085, 1086, 1087, 1088, 1089, 1090, 1091, 1092, 1093, 1094, 1095, 1096, 1097, 1098, 1099, 1100, 1101, 1102, 1103] (by decide +kernel) (by decide +kernel)
set_option maxRecDepth 20000 in
theorem gL_law_X5_stir : GoodIn wsL_law (wsV RL 84 RX5 yX5_stir wsX5_stir) := goodIn_app (goodIn_of _ (by decide +kernel)) ggL_law_X5_stir
set_option maxRecDepth 20000 in
theorem ggL_law_X4_state : GoodIn wsL_law wsX4_state := goodIn_r _ [604, 16, 605, 492, 377, 378, 606, 607, 608, 15, 609, 55, 610, 611, 612, 613, 425, 385, 386, 387, 56, 429, 406, 407, 408, 42, 40, 39, 41, 614, 615, 616, 617, 43, 1064, 1065, 1066, 1067, 1068, 1069, 1070, 1071, 1072, 1073, 1074, 1104, 1105, 1106, 1107, 1108, 1109, 1110, 1111, 1112, 1113, 1114] (by decide +kernel) (by decide +kernel)
set_option maxRecDepth 20000 in
theorem gL_law_X4_state : GoodIn wsL_law (wsV RL 85 RX4 yX4_state wsX4_state) := goodIn_app (goodIn_of _ (by decide +kernel)) ggL_law_X4_state
set_option maxRecDepth 20000 in
theorem ggL_law_X5_state : GoodIn wsL_law wsX5_state := goodIn_r _ [621, 80, 505, 506, 507, 5, 508, 397, 398, 399, 400, 622, 623, 624, 625, 626, 627, 628, 629, 451, 452, 453, 454, 439, 440, 441, 442, 630, 631, 632, 633, 1075, 1076, 1077, 1078, 1079, 1080, 1081, 1082, 1083, 1084, 1085, 1086, 1087, 1088, 1089, 1090, 1091, 1092, 1093, 1094, 1095, 1096, 1097, 1098, 1099, 1100, 1101, 1102, 1103] (by decide +kernel) (by decide +kernel)
set_option maxRecDepth 20000 in
theorem gL_law_X5_state : GoodIn wsL_law (wsV RL 88 RX5 yX5_state wsX5_state) := goodIn_app (goodIn_of _ (by decide +kernel)) ggL_law_X5_state
set_option maxRecDepth 20000 in
theorem ggL_law_X4_clapping : GoodIn wsL_law wsX4_clapping := goodIn_r _ [637, 17, 492, 106, 107, 2, 108, 591, 592, 593, 594, 16, 245, 246, 247, 15, 248, 39, 51, 52, 53, 54, 40, 41, 42, 43, 55, 56, 57, 46, 513, 514, 515, 516, 517, 518, 519, 520, 45, 421, 422, 423, 424, 44, 425, 385, 386, 387, 426, 427, 428, 429, 406, 407, 408, 430, 431, 432, 433, 521, 410, 411, 412, 413, 414, 415, 416, 522, 523, 524, 525, 526, 527, 528, 529, 530, 1064, 1065, 1066, 1067, 1068, 1069, 1070, 1071, 1072, 1073, 1074, 1104, 1105, 1106, 1107, 1108, 1109, 1110, 1111, 1112, 1113, 1114] (by decide +kernel) (by decide +kernel)
set_option maxRecDepth 20000 in
theorem gL_law_X4_clapping : GoodIn wsL_law (wsV RL 89 RX4 yX4_clapping wsX4_clapping) := goodIn_app (goodIn_of _ (by decide +kernel)) ggL_law_X4_clapping
set_option maxRecDepth 20000 in
theorem ggL_law_X5_clapping : GoodIn wsL_law wsX5_clapping := goodIn_r _ [641, 542, 120, 121, 5, 122, 642, 643, 644, 645, 80, 82, 258, 259, 260, 543, 544, 545, 546, 547, 548, 549, 550, 86, 88, 447, 448, 449, 450, 397, 398, 399, 400, 451, 452, 453, 454, 439, 440, 441, 442, 443, 444, 445, 446, 551, 552, 553, 505, 506, 507, 508, 1075, 1076, 1077, 1078, 1079, 1080, 1081, 1082, 1083, 1084, 1085, 1086, 1087, 1088, 1089, 1090, 1091, 1092, 1093, 1094, 1095, 1096, 1097, 1098, 1099, 1100, 1101, 1102, 1103] (by decide +kernel) (by decide +kernel)
set_option maxRecDepth 20000 in
theorem gL_law_X5_clapping : GoodIn wsL_law (wsV RL 92 RX5 yX5_clapping wsX5_clapping) := goodIn_app (goodIn_of _ (by decide +kernel)) ggL_law_X5_clapping
set_option maxRecDepth 20000 in
theorem ggL_law_X4_joins : GoodIn wsL_law wsX4_joins := goodIn_r _ [649, 16, 380, 381, 382, 15, 383, 55, 107, 2, 108, 650, 651, 652, 653, 17, 492, 591, 592, 593, 594, 245, 246, 247, 248, 39, 51, 52, 53, 54, 40, 41, 42, 43, 56, 57, 46, 513, 514, 515, 516, 517, 518, 519, 520, 45, 421, 422, 423, 424, 44, 425, 385, 386, 387, 426, 427, 428, 429, 406, 407, 408, 430, 431, 432, 433, 521, 410, 411, 412, 413, 414, 415, 416, 522, 523, 524, 525, 526, 527, 528, 529, 530, 1064, 1065, 1066, 1067, 1068, 1069, 1070, 1071, 1072, 1073, 1074, 1104, 1105, 1106, 1107, 1108, 1109, 1110, 1111, 1112, 1113, 1114] (by decide +kernel) (by decide +kernel)
set_option maxRecDepth 20000 in
theorem gL_law_X4_joins : GoodIn wsL_law (wsV RL 93 RX4 yX4_joins wsX4_joins) := goodIn_app (goodIn_of _ (by decide +kernel)) ggL_law_X4_joins
set_option maxRecDepth 20000 in
theorem ggL_law_X5_joins : GoodIn wsL_law wsX5_joins := goodIn_r _ [657, 393, 394, 395, 5, 396, 80, 658, 659, 660, 661, 82, 258, 259, 260, 543, 544, 545, 546, 547, 548, 549, 550, 86, 88, 447, 448, 449, 450, 397, 398, 399, 400, 451, 452, 453, 454, 439, 440, 441, 442, 443, 444, 445, 446, 551, 552, 553, 505, 506, 507, 508, 1075, 1076, 1077, 1078, 1079, 1080, 1081, 1082, 1083, 1084, 1085, 1086, 1087, 1088, 1089, 1090, 1091, 1092, 1093, 1094, 1095, 1096, 1097, 1098, 1099, 1100, 1101, 1102, 1103] (by decide +kernel) (by decide +kernel)
set_option maxRecDepth 20000 in
theorem gL_law_X5_joins : GoodIn wsL_law (wsV RL 96 RX5 yX5_joins wsX5_joins) := goodIn_app (goodIn_of _ (by decide +kernel)) ggL_law_X5_joins
set_option maxRecDepth 20000 in
theorem ggL_law_X4_all : GoodIn wsL_law wsX4_all := goodIn_r _ [665, 16, 666, 667, 668, 15, 669, 55, 650, 651, 652, 2, 653, 17, 492, 591, 592, 593, 594, 245, 246, 247, 248, 39, 51, 52, 53, 54, 40, 41, 42, 43, 56, 57, 46, 513, 514, 515, 516, 517, 518, 519, 520, 45, 421, 422, 423, 424, 44, 425, 385, 386, 387, 426, 427, 428, 429, 406, 407, 408, 430, 431, 432, 433, 521, 410, 411, 412, 413, 414, 415, 416, 522, 523, 524, 525, 526, 527, 528, 529, 530, 1064, 1065, 1066, 1067, 1068, 1069, 1070, 1071, 1072, 1073, 1074, 1104, 1105, 1106, 1107, 1108, 1109, 1110, 1111, 1112, 1113, 1114] (by decide +kernel) (by decide +kernel)
set_option maxRecDepth 20000 in
theorem gL_law_X4_all : GoodIn wsL_law (wsV RL 97 RX4 yX4_all wsX4_all) := goodIn_app (goodIn_of _ (by decide +kernel)) ggL_law_X4_all
set_option maxRecDepth 20000 in
theorem ggL_law_X5_all : GoodIn wsL_law wsX5_all := goodIn_r _ [673, 674, 675, 676, 5, 677, 80, 658, 659, 660, 661, 82, 258, 259, 260, 543, 544, 545, 546, 547, 548, 549, 550, 86, 88, 447, 448, 449, 450, 397, 398, 399, 400, 451, 452, 453, 454, 439, 440, 441, 442, 443, 444, 445, 446, 551, 552, 553, 505, 506, 507, 508, 1075, 1076, 1077, 1078, 1079, 1080, 1081, 1082, 1083, 1084, 1085, 1086, 1087, 1088, 1089, 1090, 1091, 1092, 1093, 1094, 1095, 1096, 1097, 1098, 1099, 1100, 1101, 1102, 1103] (by decide +kernel) (by decide +kernel)
set_option maxRecDepth 20000 in
theorem gL_law_X5_all : GoodIn wsL_law (wsV RL 100 RX5 yX5_all wsX5_all) := goodIn_app (goodIn_of _ (by decide +kernel)) ggL_law_X5_all
set_option maxRecDepth 20000 in
theorem ggL_law_X4_hush : GoodIn wsL_law wsX4_hush := goodIn_r _ [681, 16, 666, 667, 668, 15, 669, 55, 650, 651, 652, 2, 653, 17, 492, 591, 592, 593, 594, 245, 246, 247, 248, 39, 51, 52, 53, 54, 40, 41, 42, 43, 56, 57, 46, 513, 514, 515, 516, 517, 518, 519, 520, 45, 421, 422, 423, 424, 44, 425, 385, 386, 387, 426, 427, 428, 429, 406, 407, 408, 430, 431, 432, 433, 521, 410, 411, 412, 413, 414, 415, 416, 522, 523, 524, 525, 526, 527, 528, 529, 530, 1064, 1065, 1066, 1067, 1068, 1069, 1070, 1071, 1072, 1073, 1074, 1104, 1105, 1106, 1107, 1108, 1109, 1110, 1111, 1112, 1113, 1114] (by decide +kernel) (by decide +kernel)
set_option maxRecDepth 20000 in
theorem gL_law_X4_hush : GoodIn wsL_law (wsV RL 101 RX4 yX4_hush wsX4_hush) := goodIn_app (goodIn_of _ (by decide +kernel)) ggL_law_X4_hush
set_option maxRecDepth 20000 in
theorem ggL_law_X5_hush : GoodIn wsL_law wsX5_hush := goodIn_r _ [685, 674, 675, 676, 5, 677, 80, 658, 659, 660, 661, 82, 258, 259, 260, 543, 544, 545, 546, 547, 548, 549, 550, 86, 88, 447, 448, 449, 450, 397, 398, 399, 400, 451, 452, 453, 454, 439, 440, 441, 442, 443, 444, 445, 446, 551, 552, 553, 505, 506, 507, 508, 1075, 1076, 1077, 1078, 1079, 1080, 1081, 1082, 1083, 1084, 1085, 1086, 1087, 1088, 1089, 1090, 1091, 1092, 1093, 1094, 1095, 1096, 1097, 1098, 1099, 1100, 1101, 1102, 1103] (by decide +kernel) (by decide +kernel)
set_option maxRecDepth 20000 in
theorem gL_law_X5_hush : GoodIn wsL_law (wsV RL 104 RX5 yX5_hush wsX5_hush) := goodIn_app (goodIn_of _ (by decide +kernel)) ggL_law_X5_hush
set_option maxRecDepth 20000 in
theorem ggL_law_X4_roomFor : GoodIn wsL_law wsX4_roomFor := goodIn_r _ [689, 17, 379, 690, 691, 692, 2, 693, 16, 377, 380, 381, 382, 15, 383, 55, 107, 108, 106, 591, 592, 593, 594, 245, 246, 247, 248, 39, 51, 52, 53, 54, 40, 41, 42, 43, 56, 57, 46, 513, 514, 515, 516, 517, 518, 519, 520, 45, 421, 422, 423, 424, 44, 425, 385, 386, 387, 426, 427, 428, 429, 406, 407, 408, 430, 431, 432, 433, 521, 410, 411, 412, 413, 414, 415, 416, 522, 523, 524, 525, 526, 527, 528, 529, 530, 1064, 1065, 1066, 1067, 1068, 1069, 1070, 1071, 1072, 1073, 1074, 1104, 1105, 1106, 1107, 1108, 1109, 1110, 1111, 1112, 1113, 1114] (by decide +kernel) (by decide +kernel)
set_option maxRecDepth 20000 in
theorem gL_law_X4_roomFor : GoodIn wsL_law (wsV RL 105 RX4 yX4_roomFor wsX4_roomFor) := goodIn_app (goodIn_of _ (by decide +kernel)) ggL_law_X4_roomFor
set_option maxRecDepth 20000 in
theorem ggL_law_X5_roomFor : GoodIn wsL_law wsX5_roomFor := goodIn_r _ [697, 393, 394, 395, 5, 396, 80, 698, 699, 700, 701, 120, 121, 122, 702, 703, 704, 705, 82, 258, 259, 260, 543, 544, 545, 546, 547, 548, 549, 550, 86, 88, 447, 448, 449, 450, 397, 398, 399, 400, 451, 452, 453, 454, 439, 440, 441, 442, 443, 444, 445, 446, 551, 552, 553, 706, 707, 708, 1075, 1076, 1077, 1078, 1079, 1080, 1081, 1082, 1083, 1084, 1085, 1086, 1087, 1088, 1089, 1090, 1091, 1092, 1093, 1094, 1095, 1096, 1097, 1098, 1099, 1100, 1101, 1102, 1103] (by decide +kernel) (by decide +kernel)
set_option maxRecDepth 20000 in
theorem gL_law_X5_roomFor : GoodIn wsL_law (wsV RL 108 RX5 yX5_roomFor wsX5_roomFor) := goodIn_app (goodIn_of _ (by decide +kernel)) ggL_law_X5_roomFor
set_option maxRecDepth 20000 in
theorem ggL_law_X4_kindFor : GoodIn wsL_law wsX4_kindFor := goodIn_r _ [712, 17, 376, 690, 691, 692, 2, 693, 16, 377, 380, 381, 382, 15, 383, 55, 107, 108, 106, 591, 592, 593, 594, 245, 246, 247, 248, 39, 51, 52, 53, 54, 40, 41, 42, 43, 56, 57, 46, 513, 514, 515, 516, 517, 518, 519, 520, 45, 421, 422, 423, 424, 44, 425, 385, 386, 387, 426, 427, 428, 429, 406, 407, 408, 430, 431, 432, 433, 521, 410, 411, 412, 413, 414, 415, 416, 522, 523, 524, 525, 526, 527, 528, 529, 530, 1064, 1065, 1066, 1067, 1068, 1069, 1070, 1071, 1072, 1073, 1074, 1104, 1105, 1106, 1107, 1108, 1109, 1110, 1111, 1112, 1113, 1114] (by decide +kernel) (by decide +kernel)
set_option maxRecDepth 20000 in
theorem gL_law_X4_kindFor : GoodIn wsL_law (wsV RL 109 RX4 yX4_kindFor wsX4_kindFor) := goodIn_app (goodIn_of _ (by decide +kernel)) ggL_law_X4_kindFor
set_option maxRecDepth 20000 in
theorem ggL_law_X5_kindFor : GoodIn wsL_law wsX5_kindFor := goodIn_r _ [716, 393, 394, 395, 5, 396, 80, 698, 699, 700, 701, 120, 121, 122, 702, 703, 704, 705, 82, 258, 259, 260, 543, 544, 545, 546, 547, 548, 549, 550, 86, 88, 447, 448, 449, 450, 397, 398, 399, 400, 451, 452, 453, 454, 439, 440, 441, 442, 443, 444, 445, 446, 551, 552, 553, 706, 707, 708, 1075, 1076, 1077, 1078, 1079, 1080, 1081, 1082, 1083, 1084, 1085, 1086, 1087, 1088, 1089, 1090, 1091, 1092, 1093, 1094, 1095, 1096, 1097, 1098, 1099, 1100, 1101, 1102, 1103] (by decide +kernel) (by decide +kernel)
set_option maxRecDepth 20000 in
theorem gL_law_X5_kindFor : GoodIn wsL_law (wsV RL 112 RX5 yX5_kindFor wsX5_kindFor) := goodIn_app (goodIn_of _ (by decide +kernel)) ggL_law_X5_kindFor
set_option maxRecDepth 20000 in
theorem ggL_law_X4_earFor : GoodIn wsL_law wsX4_earFor := goodIn_r _ [720, 17, 378, 690, 691, 692, 2, 693, 16, 377, 380, 381, 382, 15, 383, 55, 107, 108, 106, 591, 592, 593, 594, 245, 246, 247, 248, 39, 51, 52, 53, 54, 40, 41, 42, 43, 56, 57, 46, 513, 514, 515, 516, 517, 518, 519, 520, 45, 421, 422, 423, 424, 44, 425, 385, 386, 387, 426, 427, 428, 429, 406, 407, 408, 430, 431, 432, 433, 521, 410, 411, 412, 413, 414, 415, 416, 522, 523, 524, 525, 526, 527, 528, 529, 530, 1064, 1065, 1066, 1067, 1068, 1069, 1070, 1071, 1072, 1073, 1074, 1104, 1105, 1106, 1107, 1108, 1109, 1110, 1111, 1112, 1113, 1114] (by decide +kernel) (by decide +kernel)
set_option maxRecDepth 20000 in
theorem gL_law_X4_earFor : GoodIn wsL_law (wsV RL 113 RX4 yX4_earFor wsX4_earFor) := goodIn_app (goodIn_of _ (by decide +kernel)) ggL_law_X4_earFor
set_option maxRecDepth 20000 in
theorem ggL_law_X5_earFor : GoodIn wsL_law wsX5_earFor := goodIn_r _ [724, 393, 394, 395, 5, 396, 80, 698, 699, 700, 701, 120, 121, 122, 702, 703, 704, 705, 82, 258, 259, 260, 543, 544, 545, 546, 547, 548, 549, 550, 86, 88, 447, 448, 449, 450, 397, 398, 399, 400, 451, 452, 453, 454, 439, 440, 441, 442, 443, 444, 445, 446, 551, 552, 553, 706, 707, 708, 1075, 1076, 1077, 1078, 1079, 1080, 1081, 1082, 1083, 1084, 1085, 1086, 1087, 1088, 1089, 1090, 1091, 1092, 1093, 1094, 1095, 1096, 1097, 1098, 1099, 1100, 1101, 1102, 1103] (by decide +kernel) (by decide +kernel)
set_option maxRecDepth 20000 in
theorem gL_law_X5_earFor : GoodIn wsL_law (wsV RL 116 RX5 yX5_earFor wsX5_earFor) := goodIn_app (goodIn_of _ (by decide +kernel)) ggL_law_X5_earFor
set_option maxRecDepth 20000 in
theorem ggL_law_X4_begunFor : GoodIn wsL_law wsX4_begunFor := goodIn_r _ [728, 16, 380, 381, 382, 15, 383, 55, 107, 2, 108, 106, 729, 730, 731, 732, 128, 666, 667, 668, 669, 531, 532, 533, 534, 535, 536, 537, 733, 734, 735, 736, 17, 376, 492, 591, 592, 593, 594, 245, 246, 247, 248, 39, 51, 52, 53, 54, 40, 41, 42, 43, 56, 57, 46, 513, 514, 515, 516, 517, 518, 519, 520, 45, 421, 422, 423, 424, 44, 425, 385, 386, 387, 426, 427, 428, 429, 406, 407, 408, 430, 431, 432, 433, 521, 410, 411, 412, 413, 414, 415, 416, 522, 523, 524, 525, 526, 527, 528, 529, 530, 737, 738, 739, 740, 384, 1064, 1065, 1066, 1067, 1068, 1069, 1070, 1071, 1072, 1073, 1074, 1104, 1105, 1106, 1107, 1108, 1109, 1110, 1111, 1112, 1113, 1114] (by decide +kernel) (by decide +kernel)
set_option maxRecDepth 20000 in
theorem gL_law_X4_begunFor : GoodIn wsL_law (wsV RL 117 RX4 yX4_begunFor wsX4_begunFor) := goodIn_app (goodIn_of _ (by decide +kernel)) ggL_law_X4_begunFor
set_option maxRecDepth 20000 in
theorem ggL_law_X5_begunFor : GoodIn wsL_law wsX5_begunFor := goodIn_r _ [744, 80, 84, 393, 394, 395, 5, 396, 698, 699, 700, 701, 120, 121, 122, 258, 259, 260, 554, 555, 556, 642, 643, 644, 645, 82, 543, 544, 545, 546, 547, 548, 549, 550, 86, 88, 447, 448, 449, 450, 397, 398, 399, 400, 451, 452, 453, 454, 439, 440, 441, 442, 443, 444, 445, 446, 551, 552, 553, 505, 506, 507, 508, 1075, 1076, 1077, 1078, 1079, 1080, 1081, 1082, 1083, 1084, 1085, 1086, 1087, 1088, 1089, 1090, 1091, 1092, 1093, 1094, 1095, 1096, 1097, 1098, 1099, 1100, 1101, 1102, 1103] (by decide +kernel) (by decide +kernel)
set_option maxRecDepth 20000 in
theorem gL_law_X5_begunFor : GoodIn wsL_law (wsV RL 120 RX5 yX5_begunFor wsX5_begunFor) := goodIn_app (goodIn_of _ (by decide +kernel)) ggL_law_X5_begunFor
set_option maxRecDepth 20000 in
theorem ggL_law_X4_hiredFor : GoodIn wsL_law wsX4_hiredFor := goodIn_r _ [748, 106, 107, 2, 108, 729, 730, 731, 732, 16, 128, 666, 667, 668, 15, 669, 55, 531, 532, 533, 534, 535, 536, 537, 733, 734, 735, 736, 17, 376, 492, 591, 592, 593, 594, 245, 246, 247, 248, 39, 51, 52, 53, 54, 40, 41, 42, 43, 56, 57, 46, 513, 514, 515, 516, 517, 518, 519, 520, 45, 421, 422, 423, 424, 44, 425, 385, 386, 387, 426, 427, 428, 429, 406, 407, 408, 430, 431, 432, 433, 521, 410, 411, 412, 413, 414, 415, 416, 522, 523, 524, 525, 526, 527, 528, 529, 530, 737, 738, 739, 740, 384, 1064, 1065, 1066, 1067, 1068, 1069, 1070, 1071, 1072, 1073, 1074, 1104, 1105, 1106, 1107, 1108, 1109, 1110, 1111, 1112, 1113, 1114] (by decide +kernel) (by decide +kernel)
set_option maxRecDepth 20000 in
theorem gL_law_X4_hiredFor : GoodIn wsL_law (wsV RL 121 RX4 yX4_hiredFor wsX4_hiredFor) := goodIn_app (goodIn_of _ (by decide +kernel)) ggL_law_X4_hiredFor
set_option maxRecDepth 20000 in
theorem ggL_law_X5_hiredFor : GoodIn wsL_law wsX5_hiredFor := goodIn_r _ [752, 80, 84, 698, 699, 5, 700, 701, 120, 121, 122, 258, 259, 260, 554, 555, 556, 397, 398, 399, 400, 642, 643, 644, 645, 82, 543, 544, 545, 546, 547, 548, 549, 550, 86, 88, 447, 448, 449, 450, 451, 452, 453, 454, 439, 440, 441, 442, 443, 444, 445, 446, 551, 552, 553, 505, 506, 507, 508, 674, 675, 676, 677, 1075, 1076, 1077, 1078, 1079, 1080, 1081, 1082, 1083, 1084, 1085, 1086, 1087, 1088, 1089, 1090, 1091, 1092, 1093, 1094, 1095, 1096, 1097, 1098, 1099, 1100, 1101, 1102, 1103] (by decide +kernel) (by decide +kernel)
set_option maxRecDepth 20000 in
theorem gL_law_X5_hiredFor : GoodIn wsL_law (wsV RL 124 RX5 yX5_hiredFor wsX5_hiredFor) := goodIn_app (goodIn_of _ (by decide +kernel)) ggL_law_X5_hiredFor
set_option maxRecDepth 20000 in
theorem ggL_law_X4_round : GoodIn wsL_law wsX4_round := goodIn_r _ [756, 16, 492, 666, 667, 668, 15, 669, 55, 650, 651, 652, 2, 653, 17, 591, 592, 593, 594, 245, 246, 247, 248, 39, 51, 52, 53, 54, 40, 41, 42, 43, 56, 57, 46, 513, 514, 515, 516, 517, 518, 519, 520, 45, 421, 422, 423, 424, 44, 425, 385, 386, 387, 426, 427, 428, 429, 406, 407, 408, 430, 431, 432, 433, 521, 410, 411, 412, 413, 414, 415, 416, 522, 523, 524, 525, 526, 527, 528, 529, 530, 1064, 1065, 1066, 1067, 1068, 1069, 1070, 1071, 1072, 1073, 1074, 1104, 1105, 1106, 1107, 1108, 1109, 1110, 1111, 1112, 1113, 1114] (by decide +kernel) (by decide +kernel)
set_option maxRecDepth 20000 in
theorem gL_law_X4_round : GoodIn wsL_law (wsV RL 125 RX4 yX4_round wsX4_round) := goodIn_app (goodIn_of _ (by decide +kernel)) ggL_law_X4_round
set_option maxRecDepth 20000 in
theorem ggL_law_X5_round : GoodIn wsL_law wsX5_round := goodIn_r _ [760, 674, 675, 676, 5, 677, 80, 505, 506, 507, 508, 397, 398, 399, 400, 658, 659, 660, 661, 82, 258, 259, 260, 543, 544, 545, 546, 547, 548, 549, 550, 86, 88, 447, 448, 449, 450, 451, 452, 453, 454, 439, 440, 441, 442, 443, 444, 445, 446, 551, 552, 553, 1075, 1076, 1077, 1078, 1079, 1080, 1081, 1082, 1083, 1084, 1085, 1086, 1087, 1088, 1089, 1090, 1091, 1092, 1093, 1094, 1095, 1096, 1097, 1098, 1099, 1100, 1101, 1102, 1103] (by decide +kernel) (by decide +kernel)
set_option maxRecDepth 20000 in
theorem gL_law_X5_round : GoodIn wsL_law (wsV RL 128 RX5 yX5_round wsX5_round) := goodIn_app (goodIn_of _ (by decide +kernel)) ggL_law_X5_round
set_option maxRecDepth 20000 in
theorem ggL_law_X4_fits : GoodIn wsL_law wsX4_fits := goodIn_r _ [764, 16, 32, 765, 766, 2, 767, 106, 107, 108, 380, 381, 382, 15, 383, 55, 768, 769, 770, 771, 17, 378, 772, 773, 492, 591, 592, 593, 594, 245, 246, 247, 248, 39, 51, 52, 53, 54, 40, 41, 42, 43, 56, 57, 46, 513, 514, 515, 516, 517, 518, 519, 520, 45, 421, 422, 423, 424, 44, 425, 385, 386, 387, 426, 427, 428, 429, 406, 407, 408, 430, 431, 432, 433, 521, 410, 411, 412, 413, 414, 415, 416, 522, 523, 524, 525, 526, 527, 528, 529, 530, 531, 532, 533, 534, 535, 536, 537, 1064, 1065, 1066, 1067, 1068, 1069, 1070, 1071, 1072, 1073, 1074, 1104, 1105, 1106, 1107, 1108, 1109, 1110, 1111, 1112, 1113, 1114, 1126, 1127] (by decide +kernel) (by decide +kernel)
set_option maxRecDepth 20000 in
theorem gL_law_X4_fits : GoodIn wsL_law (wsV RL 129 RX4 yX4_fits wsX4_fits) := goodIn_app (goodIn_of _ (by decide +kernel)) ggL_law_X4_fits
set_option maxRecDepth 20000 in
theorem ggL_law_X5_fits : GoodIn wsL_law wsX5_fits := goodIn_r _ [777, 90, 80, 778, 779, 5, 780, 332, 120, 121, 122, 393, 394, 395, 396, 781, 782, 783, 784, 82, 91, 92, 258, 259, 260, 547, 548, 549, 550, 86, 88, 447, 448, 449, 450, 397, 398, 399, 400, 451, 452, 453, 454, 439, 440, 441, 442, 443, 444, 445, 446, 551, 552, 553, 505, 506, 507, 508, 554, 555, 556, 1075, 1076, 1077, 1078, 1079, 1080, 1081, 1082, 1083, 1084, 1085, 1086, 1087, 1088, 1089, 1090, 1091, 1092, 1093, 1094, 1095, 1096, 1097, 1098, 1099, 1100, 1101, 1102, 1103] (by decide +kernel) (by decide +kernel)
set_option maxRecDepth 20000 in
theorem gL_law_X5_fits : GoodIn wsL_law (wsV RL 132 RX5 yX5_fits wsX5_fits) := goodIn_app (goodIn_of _ (by decide +kernel)) ggL_law_X5_fits
set_option maxRecDepth 20000 in
theorem ggL_law_X4_odds : GoodIn wsL_law wsX4_odds := goodIn_r _ [788, 773, 16, 326, 789, 106, 107, 2, 108, 790, 791, 792, 793, 794, 795, 1064, 1065, 1066, 1067, 1068, 1069, 1070, 1071, 1072, 1073, 1074, 1104, 1105, 1106, 1107, 1108, 1109, 1110, 1111, 1112, 1113, 1114] (by decide +kernel) (by decide +kernel)
set_option maxRecDepth 20000 in
theorem gL_law_X4_odds : GoodIn wsL_law (wsV RL 133 RX4 yX4_odds wsX4_odds) := goodIn_app (goodIn_of _ (by decide +kernel)) ggL_law_X4_odds
set_option maxRecDepth 20000 in
theorem ggL_law_X5_odds : GoodIn wsL_law wsX5_odds := goodIn_r _ [799, 117, 800, 80, 801, 120, 121, 5, 122, 802, 803, 804, 805, 806, 807, 1075, 1076, 1077, 1078, 1079, 1080, 1081, 1082, 1083, 1084, 1085, 1086, 1087, 1088, 1089, 1090, 1091, 1092, 1093, 1094, 1095, 1096, 1097, 1098, 1099, 1100, 1101, 1102, 1103] (by decide +kernel) (by decide +kernel)
set_option maxRecDepth 20000 in
theorem gL_law_X5_odds : GoodIn wsL_law (wsV RL 137 RX5 yX5_odds wsX5_odds) := goodIn_app (goodIn_of _ (by decide +kernel)) ggL_law_X5_odds
set_option maxRecDepth 20000 in
theorem ggL_law_X4_hope : GoodIn wsL_law wsX4_hope := goodIn_r _ [811, 773, 16, 326, 789, 106, 107, 2, 108, 790, 791, 792, 793, 794, 795, 1064, 1065, 1066, 1067, 1068, 1069, 1070, 1071, 1072, 1073, 1074, 1104, 1105, 1106, 1107, 1108, 1109, 1110, 1111, 1112, 1113, 1114] (by decide +kernel) (by decide +kernel)
set_option maxRecDepth 20000 in
theorem gL_law_X4_hope : GoodIn wsL_law (wsV RL 138 RX4 yX4_hope wsX4_hope) := goodIn_app (goodIn_of _ (by decide +kernel)) ggL_law_X4_hope
set_option maxRecDepth 20000 in
theorem ggL_law_X5_hope : GoodIn wsL_law wsX5_hope := goodIn_r _ [815, 333, 80, 801, 800, 120, 121, 5, 122, 805, 806, 807, 1075, 1076, 1077, 1078, 1079, 1080, 1081, 1082, 1083, 1084, 1085, 1086, 1087, 1088, 1089, 1090, 1091, 1092, 1093, 1094, 1095, 1096, 1097, 1098, 1099, 1100, 1101, 1102, 1103] (by decide +kernel) (by decide +kernel)
set_option maxRecDepth 20000 in
theorem gL_law_X5_hope : GoodIn wsL_law (wsV RL 142 RX5 yX5_hope wsX5_hope) := goodIn_app (goodIn_of _ (by decide +kernel)) ggL_law_X5_hope
set_option maxRecDepth 20000 in
theorem ggL_law_X4_prove : GoodIn wsL_law wsX4_prove := goodIn_r _ [819, 16, 17, 29, 30, 380, 381, 382, 15, 383, 55, 107, 2, 108, 106, 591, 592, 593, 594, 245, 246, 247, 248, 39, 51, 52, 53, 54, 40, 41, 42, 43, 56, 57, 46, 513, 514, 515, 516, 517, 518, 519, 520, 45, 421, 422, 423, 424, 44, 425, 385, 386, 387, 426, 427, 428, 429, 406, 407, 408, 430, 431, 432, 433, 521, 410, 411, 412, 413, 414, 415, 416, 522, 523, 524, 525, 526, 527, 528, 529, 530, 820, 821, 822, 823, 377, 492, 384, 1064, 1065, 1066, 1067, 1068, 1069, 1070, 1071, 1072, 1073, 1074, 1104, 1105, 1106, 1107, 1108, 1109, 1110, 1111, 1112, 1113, 1114] (by decide +kernel) (by decide +kernel)
set_option maxRecDepth 20000 in
theorem gL_law_X4_prove : GoodIn wsL_law (wsV RL 143 RX4 yX4_prove wsX4_prove) := goodIn_app (goodIn_of _ (by decide +kernel)) ggL_law_X4_prove
set_option maxRecDepth 20000 in
theorem ggL_law_X5_prove : GoodIn wsL_law wsX5_prove := goodIn_r _ [827, 828, 80, 82, 89, 257, 393, 394, 395, 5, 396, 120, 121, 122, 258, 259, 260, 547, 548, 549, 550, 86, 88, 447, 448, 449, 450, 397, 398, 399, 400, 451, 452, 453, 454, 439, 440, 441, 442, 443, 444, 445, 446, 551, 552, 553, 505, 506, 507, 508, 1075, 1076, 1077, 1078, 1079, 1080, 1081, 1082, 1083, 1084, 1085, 1086, 1087, 1088, 1089, 1090, 1091, 1092, 1093, 1094, 1095, 1096, 1097, 1098, 1099, 1100, 1101, 1102, 1103] (by decide +kernel) (by decide +kernel)
set_option maxRecDepth 20000 in
theorem gL_law_X5_prove : GoodIn wsL_law (wsV RL 146 RX5 yX5_prove wsX5_prove) := goodIn_app (goodIn_of _ (by decide +kernel)) ggL_law_X5_prove
set_option maxRecDepth 20000 in
theorem ggL_law_X4_row : GoodIn wsL_law wsX4_row := goodIn_r _ [832, 29, 833, 834, 835, 2, 836, 30, 106, 107, 108, 1064, 1065, 1066, 1067, 1068, 1069, 1070, 1071, 1072, 1073, 1074] (by decide +kernel) (by decide +kernel)
set_option maxRecDepth 20000 in
theorem gL_law_X4_row : GoodIn wsL_law (wsV RL 147 RX4 yX4_row wsX4_row) := goodIn_app (goodIn_of _ (by decide +kernel)) ggL_law_X4_row
set_option maxRecDepth 20000 in
theorem ggL_law_X5_row : GoodIn wsL_law wsX5_row := goodIn_r _ [840, 89, 841, 842, 843, 5, 844, 257, 438, 120, 121, 122, 1075, 1076, 1077, 1078, 1079, 1080, 1081, 1082, 1083, 1084, 1085, 1086, 1087, 1088, 1089, 1090, 1091, 1092, 1093, 1094, 1095, 1096, 1097, 1098, 1099, 1100, 1101, 1102, 1103] (by decide +kernel) (by decide +kernel)
set_option maxRecDepth 20000 in
theorem gL_law_X5_row : GoodIn wsL_law (wsV RL 150 RX5 yX5_row wsX5_row) := goodIn_app (goodIn_of _ (by decide +kernel)) ggL_law_X5_row
set_option maxRecDepth 20000 in
theorem ggL_law_X4_alterRow : GoodIn wsL_law wsX4_alterRow := goodIn_r _ [848, 29, 833, 834, 835, 2, 836, 30, 106, 107, 108, 1064, 1065, 1066, 1067, 1068, 1069, 1070, 1071, 1072, 1073, 1074] (by decide +kernel) (by decide +kernel)
set_option maxRecDepth 20000 in
theorem gL_law_X4_alterRow : GoodIn wsL_law (wsV RL 151 RX4 yX4_alterRow wsX4_alterRow) := goodIn_app (goodIn_of _ (by decide +kernel)) ggL_law_X4_alterRow
set_option maxRecDepth 20000 in
theorem ggL_law_X5_alterRow : GoodIn wsL_law wsX5_alterRow := goodIn_r _ [852, 89, 841, 842, 843, 5, 844, 257, 438, 120, 121, 122, 1075, 1076, 1077, 1078, 1079, 1080, 1081, 1082, 1083, 1084, 1085, 1086, 1087, 1088, 1089, 1090, 1091, 1092, 1093, 1094, 1095, 1096, 1097, 1098, 1099, 1100, 1101, 1102, 1103] (by decide +kernel) (by decide +kernel)
set_option maxRecDepth 20000 in
theorem gL_law_X5_alterRow : GoodIn wsL_law (wsV RL 154 RX5 yX5_alterRow wsX5_alterRow) := goodIn_app (goodIn_of _ (by decide +kernel)) ggL_law_X5_alterRow
set_option maxRecDepth 20000 in
theorem ggL_law_X4_judge : GoodIn wsL_law wsX4_judge := goodIn_r _ [856, 16, 30, 17, 29, 380, 381, 382, 15, 383, 55, 107, 2, 108, 591, 592, 593, 594, 245, 246, 247, 248, 39, 51, 52, 53, 54, 40, 41, 42, 43, 56, 57, 46, 513, 514, 515, 516, 517, 518, 519, 520, 45, 421, 422, 423, 424, 44, 425, 385, 386, 387, 426, 427, 428, 429, 406, 407, 408, 430, 431, 432, 433, 521, 410, 411, 412, 413, 414, 415, 416, 522, 523, 524, 525, 526, 527, 528, 529, 530, 820, 821, 822, 823, 377, 492, 384, 1064, 1065, 1066, 1067, 1068, 1069, 1070, 1071, 1072, 1073, 1074, 1104, 1105, 1106, 1107, 1108, 1109, 1110, 1111, 1112, 1113, 1114] (by decide +kernel) (by decide +kernel)
set_option maxRecDepth 20000 in
theorem gL_law_X4_judge : GoodIn wsL_law (wsV RL 155 RX4 yX4_judge wsX4_judge) := goodIn_app (goodIn_of _ (by decide +kernel)) ggL_law_X4_judge
set_option maxRecDepth 20000 in
theorem ggL_law_X5_judge : GoodIn wsL_law wsX5_judge := goodIn_r _ [860, 80, 82, 257, 89, 393, 394, 395, 5, 396, 258, 259, 260, 547, 548, 549, 550, 86, 88, 447, 448, 449, 450, 397, 398, 399, 400, 451, 452, 453, 454, 439, 440, 441, 442, 443, 444, 445, 446, 551, 552, 553, 505, 506, 507, 508, 1075, 1076, 1077, 1078, 1079, 1080, 1081, 1082, 1083, 1084, 1085, 1086, 1087, 1088, 1089, 1090, 1091, 1092, 1093, 1094, 1095, 1096, 1097, 1098, 1099, 1100, 1101, 1102, 1103] (by decide +kernel) (by decide +kernel)
set_option maxRecDepth 20000 in
theorem gL_law_X5_judge : GoodIn wsL_law (wsV RL 158 RX5 yX5_judge wsX5_judge) := goodIn_app (goodIn_of _ (by decide +kernel)) ggL_law_X5_judge
set_option maxRecDepth 20000 in
theorem ggL_law_X4_minds : GoodIn wsL_law wsX4_minds := goodIn_r _ [864, 16, 128, 32, 865, 772, 377, 765, 766, 2, 767, 106, 107, 108, 380, 381, 382, 15, 383, 55, 866, 522, 523, 524, 525, 526, 527, 528, 529, 530, 1064, 1065, 1066, 1067, 1068, 1069, 1070, 1071, 1072, 1073, 1074, 1104, 1105, 1106, 1107, 1108, 1109, 1110, 1111, 1112, 1113, 1114, 1126, 1127] (by decide +kernel) (by decide +kernel)
set_option maxRecDepth 20000 in
theorem gL_law_X4_minds : GoodIn wsL_law (wsV RL 159 RX4 yX4_minds wsX4_minds) := goodIn_app (goodIn_of _ (by decide +kernel)) ggL_law_X4_minds
set_option maxRecDepth 20000 in
theorem ggL_law_X5_minds : GoodIn wsL_law wsX5_minds := goodIn_r _ [870, 117, 80, 91, 92, 778, 779, 5, 780, 332, 120, 121, 122, 393, 394, 395, 396, 871, 872, 873, 874, 90, 551, 552, 553, 1075, 1076, 1077, 1078, 1079, 1080, 1081, 1082, 1083, 1084, 1085, 1086, 1087, 1088, 1089, 1090, 1091, 1092, 1093, 1094, 1095, 1096, 1097, 1098, 1099, 1100, 1101, 1102, 1103] (by decide +kernel) (by decide +kernel)
set_option maxRecDepth 20000 in
theorem gL_law_X5_minds : GoodIn wsL_law (wsV RL 162 RX5 yX5_minds wsX5_minds) := goodIn_app (goodIn_of _ (by decide +kernel)) ggL_law_X5_minds
set_option maxRecDepth 20000 in
theorem ggL_law_X4_sheet : GoodIn wsL_law wsX4_sheet := goodIn_r _ [878, 32, 31, 879, 880, 881, 765, 766, 2, 767, 106, 107, 108, 882, 883, 884, 885, 11, 12, 886, 887, 1064, 1065, 1066, 1067, 1068, 1069, 1070, 1071, 1072, 1073, 1074, 1126, 1127] (by decide +kernel) (by decide +kernel)
set_option maxRecDepth 20000 in
theorem gL_law_X4_sheet : GoodIn wsL_law (wsV RL 163 RX4 yX4_sheet wsX4_sheet) := goodIn_app (goodIn_of _ (by decide +kernel)) ggL_law_X4_sheet
set_option maxRecDepth 20000 in
theorem ggL_law_X5_sheet : GoodIn wsL_law wsX5_sheet := goodIn_r _ [891, 800, 332, 90, 91, 92, 778, 779, 5, 780, 120, 121, 122, 1075, 1076, 1077, 1078, 1079, 1080, 1081, 1082, 1083, 1084, 1085, 1086, 1087, 1088, 1089, 1090, 1091, 1092, 1093, 1094, 1095, 1096, 1097, 1098, 1099, 1100, 1101, 1102, 1103] (by decide +kernel) (by decide +kernel)
set_option maxRecDepth 20000 in
theorem gL_law_X5_sheet : GoodIn wsL_law (wsV RL 166 RX5 yX5_sheet wsX5_sheet) := goodIn_app (goodIn_of _ (by decide +kernel)) ggL_law_X5_sheet
set_option maxRecDepth 20000 in
theorem ggL_law_X4_put : GoodIn wsL_law wsX4_put := goodIn_r _ [895, 32, 772, 765, 766, 2, 767, 106, 107, 108, 896, 897, 898, 880, 899, 886, 1064, 1065, 1066, 1067, 1068, 1069, 1070, 1071, 1072, 1073, 1074, 1126, 1127] (by decide +kernel) (by decide +kernel)
set_option maxRecDepth 20000 in
theorem gL_law_X4_put : GoodIn wsL_law (wsV RL 167 RX4 yX4_put wsX4_put) := goodIn_app (goodIn_of _ (by decide +kernel)) ggL_law_X4_put
set_option maxRecDepth 20000 in
theorem ggL_law_X5_put : GoodIn wsL_law wsX5_put := goodIn_r _ [903, 90, 91, 92, 778, 779, 5, 780, 332, 120, 121, 122, 1075, 1076, 1077, 1078, 1079, 1080, 1081, 1082, 1083, 1084, 1085, 1086, 1087, 1088, 1089, 1090, 1091, 1092, 1093, 1094, 1095, 1096, 1097, 1098, 1099, 1100, 1101, 1102, 1103] (by decide +kernel) (by decide +kernel)
set_option maxRecDepth 20000 in
theorem gL_law_X5_put : GoodIn wsL_law (wsV RL 170 RX5 yX5_put wsX5_put) := goodIn_app (goodIn_of _ (by decide +kernel)) ggL_law_X5_put
set_option maxRecDepth 20000 in
theorem ggL_law_X4_item : GoodIn wsL_law wsX4_item := goodIn_r _ [907, 32, 865, 772, 765, 766, 2, 767, 106, 107, 108, 1064, 1065, 1066, 1067, 1068, 1069, 1070, 1071, 1072, 1073, 1074, 1126, 1127] (by decide +kernel) (by decide +kernel)
set_option maxRecDepth 20000 in
theorem gL_law_X4_item : GoodIn wsL_law (wsV RL 171 RX4 yX4_item wsX4_item) := goodIn_app (goodIn_of _ (by decide +kernel)) ggL_law_X4_item
set_option maxRecDepth 20000 in
theorem ggL_law_X5_item : GoodIn wsL_law wsX5_item := goodIn_r _ [911, 332, 91, 92, 778, 779, 5, 780, 120, 121, 122, 871, 872, 873, 874, 90, 1075, 1076, 1077, 1078, 1079, 1080, 1081, 1082, 1083, 1084, 1085, 1086, 1087, 1088, 1089, 1090, 1091, 1092, 1093, 1094, 1095, 1096, 1097, 1098, 1099, 1100, 1101, 1102, 1103] (by decide +kernel) (by decide +kernel)
set_option maxRecDepth 20000 in
theorem gL_law_X5_item : GoodIn wsL_law (wsV RL 174 RX5 yX5_item wsX5_item) := goodIn_app (goodIn_of _ (by decide +kernel)) ggL_law_X5_item
set_option maxRecDepth 20000 in
theorem ggL_law_X4_shelf : GoodIn wsL_law wsX4_shelf := goodIn_r _ [915, 34, 33, 32, 765, 766, 2, 767, 106, 107, 108, 916, 917, 918, 919, 16, 380, 381, 382, 15, 383, 55, 1064, 1065, 1066, 1067, 1068, 1069, 1070, 1071, 1072, 1073, 1074, 1104, 1105, 1106, 1107, 1108, 1109, 1110, 1111, 1112, 1113, 1114] (by decide +kernel) (by decide +kernel)
set_option maxRecDepth 20000 in
theorem gL_law_X4_shelf : GoodIn wsL_law (wsV RL 175 RX4 yX4_shelf wsX4_shelf) := goodIn_app (goodIn_of _ (by decide +kernel)) ggL_law_X4_shelf
set_option maxRecDepth 20000 in
theorem ggL_law_X5_shelf : GoodIn wsL_law wsX5_shelf := goodIn_r _ [923, 438, 90, 93, 94, 95, 91, 924, 925, 5, 926, 332, 120, 121, 122, 393, 394, 395, 396, 80, 778, 779, 780, 1075, 1076, 1077, 1078, 1079, 1080, 1081, 1082, 1083, 1084, 1085, 1086, 1087, 1088, 1089, 1090, 1091, 1092, 1093, 1094, 1095, 1096, 1097, 1098, 1099, 1100, 1101, 1102, 1103] (by decide +kernel) (by decide +kernel)
set_option maxRecDepth 20000 in
theorem gL_law_X5_shelf : GoodIn wsL_law (wsV RL 178 RX5 yX5_shelf wsX5_shelf) := goodIn_app (goodIn_of _ (by decide +kernel)) ggL_law_X5_shelf
set_option maxRecDepth 20000 in
theorem ggL_law_X4_taken : GoodIn wsL_law wsX4_taken := goodIn_r _ [930, 33, 34, 865, 772, 16, 376, 106, 107, 2, 108, 765, 766, 767, 351, 352, 353, 380, 381, 382, 15, 383, 55, 931, 932, 933, 934, 1064, 1065, 1066, 1067, 1068, 1069, 1070, 1071, 1072, 1073, 1074, 1126, 1127, 1104, 1105, 1106, 1107, 1108, 1109, 1110, 1111, 1112, 1113, 1114] (by decide +kernel) (by decide +kernel)
set_option maxRecDepth 20000 in
theorem gL_law_X4_taken : GoodIn wsL_law (wsV RL 179 RX4 yX4_taken wsX4_taken) := goodIn_app (goodIn_of _ (by decide +kernel)) ggL_law_X4_taken
set_option maxRecDepth 20000 in
theorem ggL_law_X5_taken : GoodIn wsL_law wsX5_taken := goodIn_r _ [938, 939, 940, 334, 94, 95, 924, 925, 5, 926, 332, 120, 121, 122, 941, 942, 943, 944, 93, 393, 394, 395, 396, 80, 397, 398, 399, 400, 945, 946, 947, 1075, 1076, 1077, 1078, 1079, 1080, 1081, 1082, 1083, 1084, 1085, 1086, 1087, 1088, 1089, 1090, 1091, 1092, 1093, 1094, 1095, 1096, 1097, 1098, 1099, 1100, 1101, 1102, 1103] (by decide +kernel) (by decide +kernel)
set_option maxRecDepth 20000 in
theorem gL_law_X5_taken : GoodIn wsL_law (wsV RL 182 RX5 yX5_taken wsX5_taken) := goodIn_app (goodIn_of _ (by decide +kernel)) ggL_law_X5_taken
set_option maxRecDepth 20000 in
theorem ggL_law_X4_act : GoodIn wsL_law wsX4_act := goodIn_r _ [951, 27, 34, 16, 376, 378, 952, 953, 954, 26, 955, 71, 75, 765, 766, 2, 767, 106, 107, 108, 380, 381, 382, 15, 383, 55, 956, 957, 958, 959, 72, 73, 74, 960, 961, 962, 963, 964, 965, 966, 967, 968, 969, 970, 971, 70, 972, 973, 974, 975, 1064, 1065, 1066, 1067, 1068, 1069, 1070, 1071, 1072, 1073, 1074, 1104, 1105, 1106, 1107, 1108, 1109, 1110, 1111, 1112, 1113, 1114, 1120, 1121, 1122, 1123, 1124, 1125] (by decide +kernel) (by decide +kernel)
set_option maxRecDepth 20000 in
theorem gL_law_X4_act : GoodIn wsL_law (wsV RL 183 RX4 yX4_act wsX4_act) := goodIn_app (goodIn_of _ (by decide +kernel)) ggL_law_X4_act
set_option maxRecDepth 20000 in
theorem ggL_law_X5_act : GoodIn wsL_law wsX5_act := goodIn_r _ [979, 980, 332, 981, 94, 982, 983, 984, 924, 925, 5, 926, 120, 121, 122, 941, 942, 943, 944, 93, 393, 394, 395, 396, 80, 397, 398, 399, 400, 985, 986, 987, 988, 989, 990, 991, 992, 993, 994, 995, 996, 96, 997, 998, 999, 1000, 1001, 1002, 1003, 1004, 1005, 1006, 1007, 1008, 1009, 1010, 1011, 1012, 1013, 1014, 1015, 1016, 1017, 1018, 1019, 1020, 1021, 1022, 1023, 1024, 1075, 1076, 1077, 1078, 1079, 1080, 1081, 1082, 1083, 1084, 1085, 1086, 1087, 1088, 1089, 1090, 1091, 1092, 1093, 1094, 1095, 1096, 1097, 1098, 1099, 1100, 1101, 1102, 1103] (by decide +kernel) (by decide +kernel)
set_option maxRecDepth 20000 in
theorem gL_law_X5_act : GoodIn wsL_law (wsV RL 186 RX5 yX5_act wsX5_act) := goodIn_app (goodIn_of _ (by decide +kernel)) ggL_law_X5_act
set_option maxRecDepth 20000 in
theorem ggL_law_X4_trace : GoodIn wsL_law wsX4_trace := goodIn_r _ [1028, 27, 1029, 1030, 106, 107, 2, 108, 1064, 1065, 1066, 1067, 1068, 1069, 1070, 1071, 1072, 1073, 1074, 1120, 1121, 1122, 1123, 1124, 1125] (by decide +kernel) (by decide +kernel)
set_option maxRecDepth 20000 in
theorem gL_law_X4_trace : GoodIn wsL_law (wsV RL 187 RX4 yX4_trace wsX4_trace) := goodIn_app (goodIn_of _ (by decide +kernel)) ggL_law_X4_trace
set_option maxRecDepth 20000 in
theorem ggL_law_X5_trace : GoodIn wsL_law wsX5_trace := goodIn_r _ [1034, 980, 96, 120, 121, 5, 122, 1075, 1076, 1077, 1078, 1079, 1080, 1081, 1082, 1083, 1084, 1085, 1086, 1087, 1088, 1089, 1090, 1091, 1092, 1093, 1094, 1095, 1096, 1097, 1098, 1099, 1100, 1101, 1102, 1103] (by decide +kernel) (by decide +kernel)
set_option maxRecDepth 20000 in
theorem gL_law_X5_trace : GoodIn wsL_law (wsV RL 190 RX5 yX5_trace wsX5_trace) := goodIn_app (goodIn_of _ (by decide +kernel)) ggL_law_X5_trace
set_option maxRecDepth 20000 in
theorem ggL_law_X4_many : GoodIn wsL_law wsX4_many := goodIn_r _ [1038, 16, 128, 492, 30, 23, 105, 27, 1029, 531, 532, 533, 534, 535, 536, 537, 614, 615, 616, 15, 617, 55, 43, 1039, 1040, 1041, 1042, 41, 1064, 1065, 1066, 1067, 1068, 1069, 1070, 1071, 1072, 1073, 1074, 1104, 1105, 1106, 1107, 1108, 1109, 1110, 1111, 1112, 1113, 1114, 1115, 1116, 1117, 1118, 1119, 1120, 1121, 1122, 1123, 1124, 1125] (by decide +kernel) (by decide +kernel)
set_option maxRecDepth 20000 in
theorem gL_law_X4_many : GoodIn wsL_law (wsV RL 191 RX4 yX4_many wsX4_many) := goodIn_app (goodIn_of _ (by decide +kernel)) ggL_law_X4_many
set_option maxRecDepth 20000 in
theorem ggL_law_X5_many : GoodIn wsL_law wsX5_many := goodIn_r _ [1046, 80, 257, 118, 980, 505, 506, 507, 5, 508, 397, 398, 399, 400, 554, 555, 556, 630, 631, 632, 633, 1075, 1076, 1077, 1078, 1079, 1080, 1081, 1082, 1083, 1084, 1085, 1086, 1087, 1088, 1089, 1090, 1091, 1092, 1093, 1094, 1095, 1096, 1097, 1098, 1099, 1100, 1101, 1102, 1103] (by decide +kernel) (by decide +kernel)
set_option maxRecDepth 20000 in
theorem gL_law_X5_many : GoodIn wsL_law (wsV RL 194 RX5 yX5_many wsX5_many) := goodIn_app (goodIn_of _ (by decide +kernel)) ggL_law_X5_many
set_option maxRecDepth 20000 in
theorem ggL_law_X4_keep : GoodIn wsL_law wsX4_keep := goodIn_r _ [1050, 18, 16, 19, 245, 246, 247, 15, 248, 39, 51, 52, 53, 54, 40, 41, 42, 43, 55, 56, 57, 46, 1064, 1065, 1066, 1067, 1068, 1069, 1070, 1071, 1072, 1073, 1074, 1104, 1105, 1106, 1107, 1108, 1109, 1110, 1111, 1112, 1113, 1114] (by decide +kernel) (by decide +kernel)
set_option maxRecDepth 20000 in
theorem gL_law_X4_keep : GoodIn wsL_law (wsV RL 195 RX4 yX4_keep wsX4_keep) := goodIn_app (goodIn_of _ (by decide +kernel)) ggL_law_X4_keep
set_option maxRecDepth 20000 in
theorem ggL_law_X5_keep : GoodIn wsL_law wsX5_keep := goodIn_r _ [1054, 81, 80, 1055, 1075, 1076, 1077, 1078, 1079, 1080, 1081, 1082, 1083, 1084, 1085, 1086, 1087, 1088, 1089, 1090, 1091, 1092, 1093, 1094, 1095, 1096, 1097, 1098, 1099, 1100, 1101, 1102, 1103] (by decide +kernel) (by decide +kernel)
set_option maxRecDepth 20000 in
theorem gL_law_X5_keep : GoodIn wsL_law (wsV RL 198 RX5 yX5_keep wsX5_keep) := goodIn_app (goodIn_of _ (by decide +kernel)) ggL_law_X5_keep
set_option maxRecDepth 20000 in
theorem ggL_law_X4_again : GoodIn wsL_law wsX4_again := goodIn_r _ [1059, 19, 16, 18, 128, 245, 246, 247, 15, 248, 39, 51, 52, 53, 54, 40, 41, 42, 43, 55, 56, 57, 46, 1064, 1065, 1066, 1067, 1068, 1069, 1070, 1071, 1072, 1073, 1074, 1104, 1105, 1106, 1107, 1108, 1109, 1110, 1111, 1112, 1113, 1114] (by decide +kernel) (by decide +kernel)
set_option maxRecDepth 20000 in
theorem gL_law_X4_again : GoodIn wsL_law (wsV RL 199 RX4 yX4_again wsX4_again) := goodIn_app (goodIn_of _ (by decide +kernel)) ggL_law_X4_again
set_option maxRecDepth 20000 in
theorem ggL_law_X5_again : GoodIn wsL_law wsX5_again := goodIn_r _ [1063, 1055, 80, 81, 1075, 1076, 1077, 1078, 1079, 1080, 1081, 1082, 1083, 1084, 1085, 1086, 1087, 1088, 1089, 1090, 1091, 1092, 1093, 1094, 1095, 1096, 1097, 1098, 1099, 1100, 1101, 1102, 1103] (by decide +kernel) (by decide +kernel)
set_option maxRecDepth 20000 in
theorem gL_law_X5_again : GoodIn wsL_law (wsV RL 202 RX5 yX5_again wsX5_again) := goodIn_app (goodIn_of _ (by decide +kernel)) ggL_law_X5_again
theorem dL_law_0 : decode cL_law 0 = .ok (.new 7, 3) := by decide +kernel
theorem dL_law_3 : decode cL_law 3 = .ok (.dup, 1) := by decide +kernel
theorem dL_law_4 : decode cL_law 4 = .ok (.invokespecial 9, 3) := by decide +kernel
theorem dL_law_7 : decode cL_law 7 = .ok (.astore_n 1, 1) := by decide +kernel
theorem dL_law_8 : decode cL_law 8 = .ok (.new 10, 3) := by decide +kernel
theorem dL_law_11 : decode cL_law 11 = .ok (.dup, 1) := by decide +kernel
theorem dL_law_12 : decode cL_law 12 = .ok (.invokespecial 12, 3) := by decide +kernel
theorem dL_law_15 : decode cL_law 15 = .ok (.astore_n 2, 1) := by decide +kernel
theorem dL_law_16 : decode cL_law 16 = .ok (.iconst 0, 1) := by decide +kernel
theorem dL_law_17 : decode cL_law 17 = .ok (.istore_n 3, 1) := by decide +kernel
theorem dL_law_18 : decode cL_law 18 = .ok (.iload_n 3, 1) := by decide +kernel
theorem dL_law_19 : decode cL_law 19 = .ok (.aload_n 0, 1) := by decide +kernel
theorem dL_law_20 : decode cL_law 20 = .ok (.arraylength, 1) := by decide +kernel
theorem dL_law_21 : decode cL_law 21 = .ok (.iconst 5, 1) := by decide +kernel
theorem dL_law_22 : decode cL_law 22 = .ok (.isub, 1) := by decide +kernel
theorem dL_law_23 : decode cL_law 23 = .ok (.if_icmp .gt 1608, 3) := by decide +kernel
theorem dL_law_26 : decode cL_law 26 = .ok (.aload_n 0, 1) := by decide +kernel
theorem dL_law_27 : decode cL_law 27 = .ok (.iload_n 3, 1) := by decide +kernel
theorem dL_law_28 : decode cL_law 28 = .ok (.iaload, 1) := by decide +kernel
theorem dL_law_29 : decode cL_law 29 = .ok (.bipush 63, 2) := by decide +kernel
theorem dL_law_31 : decode cL_law 31 = .ok (.iand, 1) := by decide +kernel
theorem dL_law_32 : decode cL_law 32 = .ok (.tableswitch 1593 0 44 #[196, 259, 272, 305, 328, 381, 414, 447, 490, 523, 556, 589, 622, 645, 668, 681, 704, 727, 750, 773, 786, 799, 832, 865, 898, 931, 954, 967, 1010, 1054, 1088, 1121, 1154, 1197, 1220, 1273, 1316, 1359, 1402, 1445, 1478, 1521, 1544, 1567, 1580], 196) := by decide +kernel
theorem dL_law_228 : decode cL_law 228 = .ok (.aload_n 1, 1) := by decide +kernel
theorem dL_law_229 : decode cL_law 229 = .ok (.aload_n 0, 1) := by decide +kernel
theorem dL_law_230 : decode cL_law 230 = .ok (.iload_n 3, 1) := by decide +kernel
theorem dL_law_231 : decode cL_law 231 = .ok (.iconst 1, 1) := by decide +kernel
theorem dL_law_232 : decode cL_law 232 = .ok (.iadd, 1) := by decide +kernel
theorem dL_law_233 : decode cL_law 233 = .ok (.iaload, 1) := by decide +kernel
theorem dL_law_234 : decode cL_law 234 = .ok (.i2l, 1) := by decide +kernel
theorem dL_law_235 : decode cL_law 235 = .ok (.bipush 32, 2) := by decide +kernel
theorem dL_law_237 : decode cL_law 237 = .ok (.lshl, 1) := by decide +kernel
theorem dL_law_238 : decode cL_law 238 = .ok (.aload_n 0, 1) := by decide +kernel
theorem dL_law_239 : decode cL_law 239 = .ok (.iload_n 3, 1) := by decide +kernel
theorem dL_law_240 : decode cL_law 240 = .ok (.iconst 2, 1) := by decide +kernel
theorem dL_law_241 : decode cL_law 241 = .ok (.iadd, 1) := by decide +kernel
theorem dL_law_242 : decode cL_law 242 = .ok (.iaload, 1) := by decide +kernel
theorem dL_law_243 : decode cL_law 243 = .ok (.i2l, 1) := by decide +kernel
theorem dL_law_244 : decode cL_law 244 = .ok (.ldc2_w 13, 3) := by decide +kernel
theorem dL_law_247 : decode cL_law 247 = .ok (.land, 1) := by decide +kernel
theorem dL_law_248 : decode cL_law 248 = .ok (.lor, 1) := by decide +kernel
theorem dL_law_249 : decode cL_law 249 = .ok (.aload_n 0, 1) := by decide +kernel
theorem dL_law_250 : decode cL_law 250 = .ok (.iload_n 3, 1) := by decide +kernel
theorem dL_law_251 : decode cL_law 251 = .ok (.iconst 3, 1) := by decide +kernel
theorem dL_law_252 : decode cL_law 252 = .ok (.iadd, 1) := by decide +kernel
theorem dL_law_253 : decode cL_law 253 = .ok (.iaload, 1) := by decide +kernel
theorem dL_law_254 : decode cL_law 254 = .ok (.invokevirtual 15, 3) := by decide +kernel
theorem dL_law_257 : decode cL_law 257 = .ok (.aload_n 2, 1) := by decide +kernel
theorem dL_law_258 : decode cL_law 258 = .ok (.aload_n 0, 1) := by decide +kernel
theorem dL_law_259 : decode cL_law 259 = .ok (.iload_n 3, 1) := by decide +kernel
theorem dL_law_260 : decode cL_law 260 = .ok (.iconst 1, 1) := by decide +kernel
theorem dL_law_261 : decode cL_law 261 = .ok (.iadd, 1) := by decide +kernel
theorem dL_law_262 : decode cL_law 262 = .ok (.iaload, 1) := by decide +kernel
theorem dL_law_263 : decode cL_law 263 = .ok (.i2l, 1) := by decide +kernel
theorem dL_law_264 : decode cL_law 264 = .ok (.bipush 32, 2) := by decide +kernel
theorem dL_law_266 : decode cL_law 266 = .ok (.lshl, 1) := by decide +kernel
theorem dL_law_267 : decode cL_law 267 = .ok (.aload_n 0, 1) := by decide +kernel
