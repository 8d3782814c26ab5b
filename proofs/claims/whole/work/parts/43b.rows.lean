set_option maxRecDepth 20000 in
theorem ggL_law_X4_minute : GoodIn wsL_law wsX4_minute := goodIn_r _ [568, 16, 492, 569, 570, 571, 15, 572, 55, 39, 573, 574, 575, 576, 46, 577, 425, 385, 386, 387, 56, 237, 238, 239, 240, 517, 518, 519, 520, 45, 41, 57, 421, 422, 423, 424, 44, 43, 426, 427, 428, 429, 406, 407, 408, 42, 40, 430, 431, 432, 433, 521, 410, 411, 412, 413, 414, 415, 416, 522, 2, 523, 524, 525, 526, 527, 528, 529, 530, 531, 532, 533, 534, 535, 536, 537, 1064, 1065, 1066, 1067, 1068, 1069, 1070, 1071, 1072, 1073, 1074, 1104, 1105, 1106, 1107, 1108, 1109, 1110, 1111, 1112, 1113, 1114] (by decide +kernel) (by decide +kernel)
set_option maxRecDepth 20000 in
theorem gL_law_X4_minute : GoodIn wsL_law (wsV RL 77 RX4 yX4_minute wsX4_minute) := goodIn_app (goodIn_of _ (by decide +kernel)) ggL_law_X4_minute
set_option maxRecDepth 20000 in
theorem ggL_law_X5_minute : GoodIn wsL_law wsX5_minute := goodIn_r _ [581, 80, 582, 583, 584, 5, 585, 586, 547, 548, 549, 550, 86, 88, 447, 448, 449, 450, 397, 398, 399, 400, 451, 452, 453, 454, 439, 440, 441, 442, 443, 444, 445, 446, 551, 552, 553, 505, 506, 507, 508, 554, 555, 556, 1075, 1076, 1077, 1078, 1079, 1080, 1081, 1082, 1083, 1084, 1085, 1086, 1087, 1088, 1089, 1090, 1091, 1092, 1093, 1094, 1095, 1096, 1097, 1098, 1099, 1100, 1101, 1102, 1103] (by decide +kernel) (by decide +kernel)
set_option maxRecDepth 20000 in
theorem gL_law_X5_minute : GoodIn wsL_law (wsV RL 80 RX5 yX5_minute wsX5_minute) := goodIn_app (goodIn_of _ (by decide +kernel)) ggL_law_X5_minute
set_option maxRecDepth 20000 in
theorem ggL_law_X4_stir : GoodIn wsL_law wsX4_stir := goodIn_r _ [590, 17, 492, 16, 127, 106, 107, 2, 108, 591, 592, 593, 594, 245, 246, 247, 15, 248, 39, 51, 52, 53, 54, 40, 41, 42, 43, 55, 56, 57, 46, 513, 514, 515, 516, 517, 518, 519, 520, 45, 421, 422, 423, 424, 44, 425, 385, 386, 387, 426, 427, 428, 429, 406, 407, 408, 430, 431, 432, 433, 521, 410, 411, 412, 413, 414, 415, 416, 522, 523, 524, 525, 526, 527, 528, 529, 530, 531, 532, 533, 534, 535, 536, 537, 569, 570, 571, 572, 573, 574, 575, 576, 577, 237, 238, 239, 240, 1064, 1065, 1066, 1067, 1068, 1069, 1070, 1071, 1072, 1073, 1074, 1104, 1105, 1106, 1107, 1108, 1109, 1110, 1111, 1112, 1113, 1114] (by decide +kernel) (by decide +kernel)
set_option maxRecDepth 20000 in
theorem gL_law_X4_stir : GoodIn wsL_law (wsV RL 81 RX4 yX4_stir wsX4_stir) := goodIn_app (goodIn_of _ (by decide +kernel)) ggL_law_X4_stir
set_option maxRecDepth 20000 in
theorem ggL_law_X5_stir : GoodIn wsL_law wsX5_stir := goodIn_r _ [598, 599, 80, 82, 120, 121, 5, 122, 258, 259, 260, 547, 548, 549, 550, 86, 88, 447, 448, 449, 450, 397, 398, 399, 400, 451, 452, 453, 454, 439, 440, 441, 442, 443, 444, 445, 446, 551, 552, 553, 505, 506, 507, 508, 554, 555, 556, 600, 579, 580, 581, 582, 583, 584, 585, 586, 1075, 1076, 1077, 1078, 1079, 1080, 1081, 1082, 1083, 1084, 1085, 1086, 1087, 1088, 1089, 1090, 1091, 1092, 1093, 1094, 1095, 1096, 1097, 1098, 1099, 1100, 1101, 1102, 1103] (by decide +kernel) (by decide +kernel)
set_option maxRecDepth 20000 in
theorem gL_law_X5_stir : GoodIn wsL_law (wsV RL 84 RX5 yX5_stir wsX5_stir) := goodIn_app (goodIn_of _ (by decide +kernel)) ggL_law_X5_stir
set_option maxRecDepth 20000 in
theorem ggL_law_X4_state : GoodIn wsL_law wsX4_state := goodIn_r _ [604, 16, 605, 492, 377, 378, 606, 607, 608, 15, 609, 55, 610, 611, 612, 613, 425, 385, 386, 387, 56, 429, 406, 407, 408, 42, 40, 39, 41, 614, 615, 616, 617, 43, 1064, 1065, 1066, 1067, 1068, 1069, 1070, 1071, 1072, 1073, 1074, 1104, 1105, 1106, 1107, 1108, 1109, 1110, 1111, 1112, 1113, 1114] (by decide +kernel) (by decide +kernel)
set_option maxRecDepth 20000 in
theorem gL_law_X4_state : GoodIn wsL_law (wsV RL 85 RX4 yX4_state wsX4_state) := goodIn_app (goodIn_of _ (by decide +kernel)) ggL_law_X4_state
set_option maxRecDepth 20000 in
theorem ggL_law_X5_state : GoodIn wsL_law wsX5_state := goodIn_r _ [621, 80, 505, 506, 507, 5, 508, 397, 398, 399, 400, 622, 623, 624, 625, 626, 627, 628, 629, 451, 452, 453, 454, 439, 440, 441, 442, 630, 631, 632, 633, 1075, 1076, 1077, 1078, 1079, 1080, 1081, 1082, 1083, 1084, 1085, 1086, 1087, 1088, 1089, 1090, 1091, 1092, 1093, 1094, 1095, 1096, 1097, 1098, 1099, 1100, 1101, 1102, 1103] (by decide +kernel) (by decide +kernel)
set_option maxRecDepth 20000 in
theorem gL_law_X5_state : GoodIn wsL_law (wsV RL 88 RX5 yX5_state wsX5_state) := goodIn_app (goodIn_of _ (by decide +kernel)) ggL_law_X5_state
set_option maxRecDepth 20000 in
theorem ggL_law_X4_clapping : GoodIn wsL_law wsX4_clapping := goodIn_r _ [637, 17, 492, 106, 107, 2, 108, 591, 592, 593, 594, 16, 245, 246, 247, 15, 248, 39, 51, 52, 53, 54, 40, 41, 42, 43, 55, 56, 57, 46, 513, 514, 515, 516, 517, 518, 519, 520, 45, 421, 422, 423, 424, 44, 425, 385, 386, 387, 426, 427, 428, 429, 406, 407, 408, 430, 431, 432, 433, 521, 410, 411, 412, 413, 414, 415, 416, 522, 523, 524, 525, 526, 527, 528, 529, 530, 1064, 1065, 1066, 1067, 1068, 1069, 1070, 1071, 1072, 1073, 1074, 1104, 1105, 1106, 1107, 1108, 1109, 1110, 1111, 1112, 1113, 1114] (by decide +kernel) (by decide +kernel)
set_option maxRecDepth 20000 in
theorem gL_law_X4_clapping : GoodIn wsL_law (wsV RL 89 RX4 yX4_clapping wsX4_clapping) := goodIn_app (goodIn_of _ (by decide +kernel)) ggL_law_X4_clapping
set_option maxRecDepth 20000 in
theorem ggL_law_X5_clapping : GoodIn wsL_law wsX5_clapping := goodIn_r _ [641, 542, 120, 121, 5, 122, 642, 643, 644, 645, 80, 82, 258, 259, 260, 543, 544, 545, 546, 547, 548, 549, 550, 86, 88, 447, 448, 449, 450, 397, 398, 399, 400, 451, 452, 453, 454, 439, 440, 441, 442, 443, 444, 445, 446, 551, 552, 553, 505, 506, 507, 508, 1075, 1076, 1077, 1078, 1079, 1080, 1081, 1082, 1083, 1084, 1085, 1086, 1087, 1088, 1089, 1090, 1091, 1092, 1093, 1094, 1095, 1096, 1097, 1098, 1099, 1100, 1101, 1102, 1103] (by decide +kernel) (by decide +kernel)
set_option maxRecDepth 20000 in
theorem gL_law_X5_clapping : GoodIn wsL_law (wsV RL 92 RX5 yX5_clapping wsX5_clapping) := goodIn_app (goodIn_of _ (by decide +kernel)) ggL_law_X5_clapping
set_option maxRecDepth 20000 in
theorem ggL_law_X4_joins : GoodIn wsL_law wsX4_joins := goodIn_r _ [649, 16, 380, 381, 382, 15, 383, 55, 107, 2, 108, 650, 651, 652, 653, 17, 492, 591, 592, 593, 594, 245, 246, 247, 248, 39, 51, 52, 53, 54, 40, 41, 42, 43, 56, 57, 46, 513, 514, 515, 516, 517, 518, 519, 520, 45, 421, 422, 423, 424, 44, 425, 385, 386, 387, 426, 427, 428, 429, 406, 407, 408, 430, 431, 432, 433, 521, 410, 411, 412, 413, 414, 415, 416, 522, 523, 524, 525, 526, 527, 528, 529, 530, 1064, 1065, 1066, 1067, 1068, 1069, 1070, 1071, 1072, 1073, 1074, 1104, 1105, 1106, 1107, 1108, 1109, 1110, 1111, 1112, 1113, 1114] (by decide +kernel) (by decide +kernel)
set_option maxRecDepth 20000 in
theorem gL_law_X4_joins : GoodIn wsL_law (wsV RL 93 RX4 yX4_joins wsX4_joins) := goodIn_app (goodIn_of _ (by decide +kernel)) ggL_law_X4_joins
set_option maxRecDepth 20000 in
theorem ggL_law_X5_joins : GoodIn wsL_law wsX5_joins := goodIn_r _ [657, 393, 394, 395, 5, 396, 80, 658, 659, 660, 661, 82, 258, 259, 260, 543, 544, 545, 546, 547, 548, 549, 550, 86, 88, 447, 448, 449, 450, 397, 398, 399, 400, 451, 452, 453, 454, 439, 440, 441, 442, 443, 444, 445, 446, 551, 552, 553, 505, 506, 507, 508, 1075, 1076, 1077, 1078, 1079, 1080, 1081, 1082, 1083, 1084, 1085, 1086, 1087, 1088, 1089, 1090, 1091, 1092, 1093, 1094, 1095, 1096, 1097, 1098, 1099, 1100, 1101, 1102, 1103] (by decide +kernel) (by decide +kernel)
set_option maxRecDepth 20000 in
theorem gL_law_X5_joins : GoodIn wsL_law (wsV RL 96 RX5 yX5_joins wsX5_joins) := goodIn_app (goodIn_of _ (by decide +kernel)) ggL_law_X5_joins
set_option maxRecDepth 20000 in
theorem ggL_law_X4_all : GoodIn wsL_law wsX4_all := goodIn_r _ [665, 16, 666, 667, 668, 15, 669, 55, 650, 651, 652, 2, 653, 17, 492, 591, 592, 593, 594, 245, 246, 247, 248, 39, 51, 52, 53, 54, 40, 41, 42, 43, 56, 57, 46, 513, 514, 515, 516, 517, 518, 519, 520, 45, 421, 422, 423, 424, 44, 425, 385, 386, 387, 426, 427, 428, 429, 406, 407, 408, 430, 431, 432, 433, 521, 410, 411, 412, 413, 414, 415, 416, 522, 523, 524, 525, 526, 527, 528, 529, 530, 1064, 1065, 1066, 1067, 1068, 1069, 1070, 1071, 1072, 1073, 1074, 1104, 1105, 1106, 1107, 1108, 1109, 1110, 1111, 1112, 1113, 1114] (by decide +kernel) (by decide +kernel)
set_option maxRecDepth 20000 in
theorem gL_law_X4_all : GoodIn wsL_law (wsV RL 97 RX4 yX4_all wsX4_all) := goodIn_app (goodIn_of _ (by decide +kernel)) ggL_law_X4_all
set_option maxRecDepth 20000 in
theorem ggL_law_X5_all : GoodIn wsL_law wsX5_all := goodIn_r _ [673, 674, 675, 676, 5, 677, 80, 658, 659, 660, 661, 82, 258, 259, 260, 543, 544, 545, 546, 547, 548, 549, 550, 86, 88, 447, 448, 449, 450, 397, 398, 399, 400, 451, 452, 453, 454, 439, 440, 441, 442, 443, 444, 445, 446, 551, 552, 553, 505, 506, 507, 508, 1075, 1076, 1077, 1078, 1079, 1080, 1081, 1082, 1083, 1084, 1085, 1086, 1087, 1088, 1089, 1090, 1091, 1092, 1093, 1094, 1095, 1096, 1097, 1098, 1099, 1100, 1101, 1102, 1103] (by decide +kernel) (by decide +kernel)
set_option maxRecDepth 20000 in
theorem gL_law_X5_all : GoodIn wsL_law (wsV RL 100 RX5 yX5_all wsX5_all) := goodIn_app (goodIn_of _ (by decide +kernel)) ggL_law_X5_all
set_option maxRecDepth 20000 in
theorem ggL_law_X4_hush : GoodIn wsL_law wsX4_hush := goodIn_r _ [681, 16, 666, 667, 668, 15, 669, 55, 650, 651, 652, 2, 653, 17, 492, 591, 592, 593, 594, 245, 246, 247, 248, 39, 51, 52, 53, 54, 40, 41, 42, 43, 56, 57, 46, 513, 514, 515, 516, 517, 518, 519, 520, 45, 421, 422, 423, 424, 44, 425, 385, 386, 387, 426, 427, 428, 429, 406, 407, 408, 430, 431, 432, 433, 521, 410, 411, 412, 413, 414, 415, 416, 522, 523, 524, 525, 526, 527, 528, 529, 530, 1064, 1065, 1066, 1067, 1068, 1069, 1070, 1071, 1072, 1073, 1074, 1104, 1105, 1106, 1107, 1108, 1109, 1110, 1111, 1112, 1113, 1114] (by decide +kernel) (by decide +kernel)
set_option maxRecDepth 20000 in
theorem gL_law_X4_hush : GoodIn wsL_law (wsV RL 101 RX4 yX4_hush wsX4_hush) := goodIn_app (goodIn_of _ (by decide +kernel)) ggL_law_X4_hush
set_option maxRecDepth 20000 in
theorem ggL_law_X5_hush : GoodIn wsL_law wsX5_hush := goodIn_r _ [685, 674, 675, 676, 5, 677, 80, 658, 659, 660, 661, 82, 258, 259, 260, 543, 544, 545, 546, 547, 548, 549, 550, 86, 88, 447, 448, 449, 450, 397, 398, 399, 400, 451, 452, 453, 454, 439, 440, 441, 442, 443, 444, 445, 446, 551, 552, 553, 505, 506, 507, 508, 1075, 1076, 1077, 1078, 1079, 1080, 1081, 1082, 1083, 1084, 1085, 1086, 1087, 1088, 1089, 1090, 1091, 1092, 1093, 1094, 1095, 1096, 1097, 1098, 1099, 1100, 1101, 1102, 1103] (by decide +kernel) (by decide +kernel)
set_option maxRecDepth 20000 in
theorem gL_law_X5_hush : GoodIn wsL_law (wsV RL 104 RX5 yX5_hush wsX5_hush) := goodIn_app (goodIn_of _ (by decide +kernel)) ggL_law_X5_hush
set_option maxRecDepth 20000 in
theorem ggL_law_X4_roomFor : GoodIn wsL_law wsX4_roomFor := goodIn_r _ [689, 17, 379, 690, 691, 692, 2, 693, 16, 377, 380, 381, 382, 15, 383, 55, 107, 108, 106, 591, 592, 593, 594, 245, 246, 247, 248, 39, 51, 52, 53, 54, 40, 41, 42, 43, 56, 57, 46, 513, 514, 515, 516, 517, 518, 519, 520, 45, 421, 422, 423, 424, 44, 425, 385, 386, 387, 426, 427, 428, 429, 406, 407, 408, 430, 431, 432, 433, 521, 410, 411, 412, 413, 414, 415, 416, 522, 523, 524, 525, 526, 527, 528, 529, 530, 1064, 1065, 1066, 1067, 1068, 1069, 1070, 1071, 1072, 1073, 1074, 1104, 1105, 1106, 1107, 1108, 1109, 1110, 1111, 1112, 1113, 1114] (by decide +kernel) (by decide +kernel)
set_option maxRecDepth 20000 in
theorem gL_law_X4_roomFor : GoodIn wsL_law (wsV RL 105 RX4 yX4_roomFor wsX4_roomFor) := goodIn_app (goodIn_of _ (by decide +kernel)) ggL_law_X4_roomFor
set_option maxRecDepth 20000 in
theorem ggL_law_X5_roomFor : GoodIn wsL_law wsX5_roomFor := goodIn_r _ [697, 393, 394, 395, 5, 396, 80, 698, 699, 700, 701, 120, 121, 122, 702, 703, 704, 705, 82, 258, 259, 260, 543, 544, 545, 546, 547, 548, 549, 550, 86, 88, 447, 448, 449, 450, 397, 398, 399, 400, 451, 452, 453, 454, 439, 440, 441, 442, 443, 444, 445, 446, 551, 552, 553, 706, 707, 708, 1075, 1076, 1077, 1078, 1079, 1080, 1081, 1082, 1083, 1084, 1085, 1086, 1087, 1088, 1089, 1090, 1091, 1092, 1093, 1094, 1095, 1096, 1097, 1098, 1099, 1100, 1101, 1102, 1103] (by decide +kernel) (by decide +kernel)
set_option maxRecDepth 20000 in
theorem gL_law_X5_roomFor : GoodIn wsL_law (wsV RL 108 RX5 yX5_roomFor wsX5_roomFor) := goodIn_app (goodIn_of _ (by decide +kernel)) ggL_law_X5_roomFor
set_option maxRecDepth 20000 in
theorem ggL_law_X4_kindFor : GoodIn wsL_law wsX4_kindFor := goodIn_r _ [712, 17, 376, 690, 691, 692, 2, 693, 16, 377, 380, 381, 382, 15, 383, 55, 107, 108, 106, 591, 592, 593, 594, 245, 246, 247, 248, 39, 51, 52, 53, 54, 40, 41, 42, 43, 56, 57, 46, 513, 514, 515, 516, 517, 518, 519, 520, 45, 421, 422, 423, 424, 44, 425, 385, 386, 387, 426, 427, 428, 429, 406, 407, 408, 430, 431, 432, 433, 521, 410, 411, 412, 413, 414, 415, 416, 522, 523, 524, 525, 526, 527, 528, 529, 530, 1064, 1065, 1066, 1067, 1068, 1069, 1070, 1071, 1072, 1073, 1074, 1104, 1105, 1106, 1107, 1108, 1109, 1110, 1111, 1112, 1113, 1114] (by decide +kernel) (by decide +kernel)
set_option maxRecDepth 20000 in
theorem gL_law_X4_kindFor : GoodIn wsL_law (wsV RL 109 RX4 yX4_kindFor wsX4_kindFor) := goodIn_app (goodIn_of _ (by decide +kernel)) ggL_law_X4_kindFor
set_option maxRecDepth 20000 in
theorem ggL_law_X5_kindFor : GoodIn wsL_law wsX5_kindFor := goodIn_r _ [716, 393, 394, 395, 5, 396, 80, 698, 699, 700, 701, 120, 121, 122, 702, 703, 704, 705, 82, 258, 259, 260, 543, 544, 545, 546, 547, 548, 549, 550, 86, 88, 447, 448, 449, 450, 397, 398, 399, 400, 451, 452, 453, 454, 439, 440, 441, 442, 443, 444, 445, 446, 551, 552, 553, 706, 707, 708, 1075, 1076, 1077, 1078, 1079, 1080, 1081, 1082, 1083, 1084, 1085, 1086, 1087, 1088, 1089, 1090, 1091, 1092, 1093, 1094, 1095, 1096, 1097, 1098, 1099, 1100, 1101, 1102, 1103] (by decide +kernel) (by decide +kernel)
set_option maxRecDepth 20000 in
theorem gL_law_X5_kindFor : GoodIn wsL_law (wsV RL 112 RX5 yX5_kindFor wsX5_kindFor) := goodIn_app (goodIn_of _ (by decide +kernel)) ggL_law_X5_kindFor
set_option maxRecDepth 20000 in
theorem ggL_law_X4_earFor : GoodIn wsL_law wsX4_earFor := goodIn_r _ [720, 17, 378, 690, 691, 692, 2, 693, 16, 377, 380, 381, 382, 15, 383, 55, 107, 108, 106, 591, 592, 593, 594, 245, 246, 247, 248, 39, 51, 52, 53, 54, 40, 41, 42, 43, 56, 57, 46, 513, 514, 515, 516, 517, 518, 519, 520, 45, 421, 422, 423, 424, 44, 425, 385, 386, 387, 426, 427, 428, 429, 406, 407, 408, 430, 431, 432, 433, 521, 410, 411, 412, 413, 414, 415, 416, 522, 523, 524, 525, 526, 527, 528, 529, 530, 1064, 1065, 1066, 1067, 1068, 1069, 1070, 1071, 1072, 1073, 1074, 1104, 1105, 1106, 1107, 1108, 1109, 1110, 1111, 1112, 1113, 1114] (by decide +kernel) (by decide +kernel)
set_option maxRecDepth 20000 in
theorem gL_law_X4_earFor : GoodIn wsL_law (wsV RL 113 RX4 yX4_earFor wsX4_earFor) := goodIn_app (goodIn_of _ (by decide +kernel)) ggL_law_X4_earFor
set_option maxRecDepth 20000 in
theorem ggL_law_X5_earFor : GoodIn wsL_law wsX5_earFor := goodIn_r _ [724, 393, 394, 395, 5, 396, 80, 698, 699, 700, 701, 120, 121, 122, 702, 703, 704, 705, 82, 258, 259, 260, 543, 544, 545, 546, 547, 548, 549, 550, 86, 88, 447, 448, 449, 450, 397, 398, 399, 400, 451, 452, 453, 454, 439, 440, 441, 442, 443, 444, 445, 446, 551, 552, 553, 706, 707, 708, 1075, 1076, 1077, 1078, 1079, 1080, 1081, 1082, 1083, 1084, 1085, 1086, 1087, 1088, 1089, 1090, 1091, 1092, 1093, 1094, 1095, 1096, 1097, 1098, 1099, 1100, 1101, 1102, 1103] (by decide +kernel) (by decide +kernel)
set_option maxRecDepth 20000 in
theorem gL_law_X5_earFor : GoodIn wsL_law (wsV RL 116 RX5 yX5_earFor wsX5_earFor) := goodIn_app (goodIn_of _ (by decide +kernel)) ggL_law_X5_earFor
set_option maxRecDepth 20000 in
theorem ggL_law_X4_begunFor : GoodIn wsL_law wsX4_begunFor := goodIn_r _ [728, 16, 380, 381, 382, 15, 383, 55, 107, 2, 108, 106, 729, 730, 731, 732, 128, 666, 667, 668, 669, 531, 532, 533, 534, 535, 536, 537, 733, 734, 735, 736, 17, 376, 492, 591, 592, 593, 594, 245, 246, 247, 248, 39, 51, 52, 53, 54, 40, 41, 42, 43, 56, 57, 46, 513, 514, 515, 516, 517, 518, 519, 520, 45, 421, 422, 423, 424, 44, 425, 385, 386, 387, 426, 427, 428, 429, 406, 407, 408, 430, 431, 432, 433, 521, 410, 411, 412, 413, 414, 415, 416, 522, 523, 524, 525, 526, 527, 528, 529, 530, 737, 738, 739, 740, 384, 1064, 1065, 1066, 1067, 1068, 1069, 1070, 1071, 1072, 1073, 1074, 1104, 1105, 1106, 1107, 1108, 1109, 1110, 1111, 1112, 1113, 1114] (by decide +kernel) (by decide +kernel)
set_option maxRecDepth 20000 in
theorem gL_law_X4_begunFor : GoodIn wsL_law (wsV RL 117 RX4 yX4_begunFor wsX4_begunFor) := goodIn_app (goodIn_of _ (by decide +kernel)) ggL_law_X4_begunFor
set_option maxRecDepth 20000 in
theorem ggL_law_X5_begunFor : GoodIn wsL_law wsX5_begunFor := goodIn_r _ [744, 80, 84, 393, 394, 395, 5, 396, 698, 699, 700, 701, 120, 121, 122, 258, 259, 260, 554, 555, 556, 642, 643, 644, 645, 82, 543, 544, 545, 546, 547, 548, 549, 550, 86, 88, 447, 448, 449, 450, 397, 398, 399, 400, 451, 452, 453, 454, 439, 440, 441, 442, 443, 444, 445, 446, 551, 552, 553, 505, 506, 507, 508, 1075, 1076, 1077, 1078, 1079, 1080, 1081, 1082, 1083, 1084, 1085, 1086, 1087, 1088, 1089, 1090, 1091, 1092, 1093, 1094, 1095, 1096, 1097, 1098, 1099, 1100, 1101, 1102, 1103] (by decide +kernel) (by decide +kernel)
set_option maxRecDepth 20000 in
theorem gL_law_X5_begunFor : GoodIn wsL_law (wsV RL 120 RX5 yX5_begunFor wsX5_begunFor) := goodIn_app (goodIn_of _ (by decide +kernel)) ggL_law_X5_begunFor
set_option maxRecDepth 20000 in
theorem ggL_law_X4_hiredFor : GoodIn wsL_law wsX4_hiredFor := goodIn_r _ [748, 106, 107, 2, 108, 729, 730, 731, 732, 16, 128, 666, 667, 668, 15, 669, 55, 531, 532, 533, 534, 535, 536, 537, 733, 734, 735, 736, 17, 376, 492, 591, 592, 593, 594, 245, 246, 247, 248, 39, 51, 52, 53, 54, 40, 41, 42, 43, 56, 57, 46, 513, 514, 515, 516, 517, 518, 519, 520, 45, 421, 422, 423, 424, 44, 425, 385, 386, 387, 426, 427, 428, 429, 406, 407, 408, 430, 431, 432, 433, 521, 410, 411, 412, 413, 414, 415, 416, 522, 523, 524, 525, 526, 527, 528, 529, 530, 737, 738, 739, 740, 384, 1064, 1065, 1066, 1067, 1068, 1069, 1070, 1071, 1072, 1073, 1074, 1104, 1105, 1106, 1107, 1108, 1109, 1110, 1111, 1112, 1113, 1114] (by decide +kernel) (by decide +kernel)
set_option maxRecDepth 20000 in
theorem gL_law_X4_hiredFor : GoodIn wsL_law (wsV RL 121 RX4 yX4_hiredFor wsX4_hiredFor) := goodIn_app (goodIn_of _ (by decide +kernel)) ggL_law_X4_hiredFor
set_option maxRecDepth 20000 in
theorem ggL_law_X5_hiredFor : GoodIn wsL_law wsX5_hiredFor := goodIn_r _ [752, 80, 84, 698, 699, 5, 700, 701, 120, 121, 122, 258, 259, 260, 554, 555, 556, 397, 398, 399, 400, 642, 643, 644, 645, 82, 543, 544, 545, 546, 547, 548, 549, 550, 86, 88, 447, 448, 449, 450, 451, 452, 453, 454, 439, 440, 441, 442, 443, 444, 445, 446, 551, 552, 553, 505, 506, 507, 508, 674, 675, 676, 677, 1075, 1076, 1077, 1078, 1079, 1080, 1081, 1082, 1083, 1084, 1085, 1086, 1087, 1088, 1089, 1090, 1091, 1092, 1093, 1094, 1095, 1096, 1097, 1098, 1099, 1100, 1101, 1102, 1103] (by decide +kernel) (by decide +kernel)
set_option maxRecDepth 20000 in
theorem gL_law_X5_hiredFor : GoodIn wsL_law (wsV RL 124 RX5 yX5_hiredFor wsX5_hiredFor) := goodIn_app (goodIn_of _ (by decide +kernel)) ggL_law_X5_hiredFor
set_option maxRecDepth 20000 in
theorem ggL_law_X4_round : GoodIn wsL_law wsX4_round := goodIn_r _ [756, 16, 492, 666, 667, 668, 15, 669, 55, 650, 651, 652, 2, 653, 17, 591, 592, 593, 594, 245, 246, 247, 248, 39, 51, 52, 53, 54, 40, 41, 42, 43, 56, 57, 46, 513, 514, 515, 516, 517, 518, 519, 520, 45, 421, 422, 423, 424, 44, 425, 385, 386, 387, 426, 427, 428, 429, 406, 407, 408, 430, 431, 432, 433, 521, 410, 411, 412, 413, 414, 415, 416, 522, 523, 524, 525, 526, 527, 528, 529, 530, 1064, 1065, 1066, 1067, 1068, 1069, 1070, 1071, 1072, 1073, 1074, 1104, 1105, 1106, 1107, 1108, 1109, 1110, 1111, 1112, 1113, 1114] (by decide +kernel) (by decide +kernel)
set_option maxRecDepth 20000 in
theorem gL_law_X4_round : GoodIn wsL_law (wsV RL 125 RX4 yX4_round wsX4_round) := goodIn_app (goodIn_of _ (by decide +kernel)) ggL_law_X4_round
set_option maxRecDepth 20000 in
theorem ggL_law_X5_round : GoodIn wsL_law wsX5_round := goodIn_r _ [760, 674, 675, 676, 5, 677, 80, 505, 506, 507, 508, 397, 398, 399, 400, 658, 659, 660, 661, 82, 258, 259, 260, 543, 544, 545, 546, 547, 548, 549, 550, 86, 88, 447, 448, 449, 450, 451, 452, 453, 454, 439, 440, 441, 442, 443, 444, 445, 446, 551, 552, 553, 1075, 1076, 1077, 1078, 1079, 1080, 1081, 1082, 1083, 1084, 1085, 1086, 1087, 1088, 1089, 1090, 1091, 1092, 1093, 1094, 1095, 1096, 1097, 1098, 1099, 1100, 1101, 1102, 1103] (by decide +kernel) (by decide +kernel)
set_option maxRecDepth 20000 in
theorem gL_law_X5_round : GoodIn wsL_law (wsV RL 128 RX5 yX5_round wsX5_round) := goodIn_app (goodIn_of _ (by decide +kernel)) ggL_law_X5_round
set_option maxRecDepth 20000 in
theorem ggL_law_X4_fits : GoodIn wsL_law wsX4_fits := goodIn_r _ [764, 16, 32, 765, 766, 2, 767, 106, 107, 108, 380, 381, 382, 15, 383, 55, 768, 769, 770, 771, 17, 378, 772, 773, 492, 591, 592, 593, 594, 245, 246, 247, 248, 39, 51, 52, 53, 54, 40, 41, 42, 43, 56, 57, 46, 513, 514, 515, 516, 517, 518, 519, 520, 45, 421, 422, 423, 424, 44, 425, 385, 386, 387, 426, 427, 428, 429, 406, 407, 408, 430, 431, 432, 433, 521, 410, 411, 412, 413, 414, 415, 416, 522, 523, 524, 525, 526, 527, 528, 529, 530, 531, 532, 533, 534, 535, 536, 537, 1064, 1065, 1066, 1067, 1068, 1069, 1070, 1071, 1072, 1073, 1074, 1104, 1105, 1106, 1107, 1108, 1109, 1110, 1111, 1112, 1113, 1114, 1126, 1127] (by decide +kernel) (by decide +kernel)
set_option maxRecDepth 20000 in
theorem gL_law_X4_fits : GoodIn wsL_law (wsV RL 129 RX4 yX4_fits wsX4_fits) := goodIn_app (goodIn_of _ (by decide +kernel)) ggL_law_X4_fits
set_option maxRecDepth 20000 in
theorem ggL_law_X5_fits : GoodIn wsL_law wsX5_fits := goodIn_r _ [777, 90, 80, 778, 779, 5, 780, 332, 120, 121, 122, 393, 394, 395, 396, 781, 782, 783, 784, 82, 91, 92, 258, 259, 260, 547, 548, 549, 550, 86, 88, 447, 448, 449, 450, 397, 398, 399, 400, 451, 452, 453, 454, 439, 440, 441, 442, 443, 444, 445, 446, 551, 552, 553, 505, 506, 507, 508, 554, 555, 556, 1075, 1076, 1077, 1078, 1079, 1080, 1081, 1082, 1083, 1084, 1085, 1086, 1087, 1088, 1089, 1090, 1091, 1092, 1093, 1094, 1095, 1096, 1097, 1098, 1099, 1100, 1101, 1102, 1103] (by decide +kernel) (by decide +kernel)
set_option maxRecDepth 20000 in
theorem gL_law_X5_fits : GoodIn wsL_law (wsV RL 132 RX5 yX5_fits wsX5_fits) := goodIn_app (goodIn_of _ (by decide +kernel)) ggL_law_X5_fits
set_option maxRecDepth 20000 in
theorem ggL_law_X4_odds : GoodIn wsL_law wsX4_odds := goodIn_r _ [788, 773, 16, 326, 789, 106, 107, 2, 108, 790, 791, 792, 793, 794, 795, 1064, 1065, 1066, 1067, 1068, 1069, 1070, 1071, 1072, 1073, 1074, 1104, 1105, 1106, 1107, 1108, 1109, 1110, 1111, 1112, 1113, 1114] (by decide +kernel) (by decide +kernel)
set_option maxRecDepth 20000 in
theorem gL_law_X4_odds : GoodIn wsL_law (wsV RL 133 RX4 yX4_odds wsX4_odds) := goodIn_app (goodIn_of _ (by decide +kernel)) ggL_law_X4_odds
set_option maxRecDepth 20000 in
theorem ggL_law_X5_odds : GoodIn wsL_law wsX5_odds := goodIn_r _ [799, 117, 800, 80, 801, 120, 121, 5, 122, 802, 803, 804, 805, 806, 807, 1075, 1076, 1077, 1078, 1079, 1080, 1081, 1082, 1083, 1084, 1085, 1086, 1087, 1088, 1089, 1090, 1091, 1092, 1093, 1094, 1095, 1096, 1097, 1098, 1099, 1100, 1101, 1102, 1103] (by decide +kernel) (by decide +kernel)
set_option maxRecDepth 20000 in
theorem gL_law_X5_odds : GoodIn wsL_law (wsV RL 137 RX5 yX5_odds wsX5_odds) := goodIn_app (goodIn_of _ (by decide +kernel)) ggL_law_X5_odds
