theorem dL_law_782 : decode cL_law 782 = .ok (.aload_n 1, 1) := by decide +kernel
theorem dL_law_783 : decode cL_law 783 = .ok (.aload_n 0, 1) := by decide +kernel
theorem dL_law_784 : decode cL_law 784 = .ok (.iload_n 3, 1) := by decide +kernel
theorem dL_law_785 : decode cL_law 785 = .ok (.iconst 1, 1) := by decide +kernel
theorem dL_law_786 : decode cL_law 786 = .ok (.iadd, 1) := by decide +kernel
theorem dL_law_787 : decode cL_law 787 = .ok (.iaload, 1) := by decide +kernel
set_option maxRecDepth 20000 in
theorem ggL_law_X4_joins : GoodIn wsL_law wsX4_joins := goodIn_r _ [649, 16, 380, 381, 382, 15, 383, 55, 107, 2, 108, 650, 651, 652, 653, 17, 492, 591, 592, 593, 594, 245, 246, 247, 248, 39, 51, 52, 53, 54, 40, 41, 42, 43, 56, 57, 46, 513, 514, 515, 516, 517, 518, 519, 520, 45, 421, 422, 423, 424, 44, 425, 385, 386, 387, 426, 427, 428, 429, 406, 407, 408, 430, 431, 432, 433, 521, 410, 411, 412, 413, 414, 415, 416, 522, 523, 524, 525, 526, 527, 528, 529, 530, 1064, 1065, 1066, 1067, 1068, 1069, 1070, 1071, 1072, 1073, 1074, 1104, 1105, 1106, 1107, 1108, 1109, 1110, 1111, 1112, 1113, 1114] (by decide +kernel) (by decide +kernel)
set_option maxRecDepth 20000 in
theorem gL_law_X4_joins : GoodIn wsL_law (wsV RL 93 RX4 yX4_joins wsX4_joins) := goodIn_app (goodIn_of _ (by decide +kernel)) ggL_law_X4_joins
theorem dL_law_788 : decode cL_law 788 = .ok (.invokevirtual 93, 3) := by decide +kernel
theorem dL_law_791 : decode cL_law 791 = .ok (.aload_n 2, 1) := by decide +kernel
theorem dL_law_792 : decode cL_law 792 = .ok (.aload_n 0, 1) := by decide +kernel
theorem dL_law_793 : decode cL_law 793 = .ok (.iload_n 3, 1) := by decide +kernel
theorem dL_law_794 : decode cL_law 794 = .ok (.iconst 1, 1) := by decide +kernel
theorem dL_law_795 : decode cL_law 795 = .ok (.iadd, 1) := by decide +kernel
theorem dL_law_796 : decode cL_law 796 = .ok (.iaload, 1) := by decide +kernel
set_option maxRecDepth 20000 in
theorem ggL_law_X5_joins : GoodIn wsL_law wsX5_joins := goodIn_r _ [657, 393, 394, 395, 5, 396, 80, 658, 659, 660, 661, 82, 258, 259, 260, 543, 544, 545, 546, 547, 548, 549, 550, 86, 88, 447, 448, 449, 450, 397, 398, 399, 400, 451, 452, 453, 454, 439, 440, 441, 442, 443, 444, 445, 446, 551, 552, 553, 505, 506, 507, 508, 1075, 1076, 1077, 1078, 1079, 1080, 1081, 1082, 1083, 1084, 1085, 1086, 1087, 1088, 1089, 1090, 1091, 1092, 1093, 1094, 1095, 1096, 1097, 1098, 1099, 1100, 1101, 1102, 1103] (by decide +kernel) (by decide +kernel)
set_option maxRecDepth 20000 in
theorem gL_law_X5_joins : GoodIn wsL_law (wsV RL 96 RX5 yX5_joins wsX5_joins) := goodIn_app (goodIn_of _ (by decide +kernel)) ggL_law_X5_joins
theorem dL_law_797 : decode cL_law 797 = .ok (.invokevirtual 96, 3) := by decide +kernel
theorem dL_law_800 : decode cL_law 800 = .ok (.if_icmp .eq 825, 3) := by decide +kernel
theorem dL_law_805 : decode cL_law 805 = .ok (.aload_n 1, 1) := by decide +kernel
set_option maxRecDepth 20000 in
theorem ggL_law_X4_all : GoodIn wsL_law wsX4_all := goodIn_r _ [665, 16, 666, 667, 668, 15, 669, 55, 650, 651, 652, 2, 653, 17, 492, 591, 592, 593, 594, 245, 246, 247, 248, 39, 51, 52, 53, 54, 40, 41, 42, 43, 56, 57, 46, 513, 514, 515, 516, 517, 518, 519, 520, 45, 421, 422, 423, 424, 44, 425, 385, 386, 387, 426, 427, 428, 429, 406, 407, 408, 430, 431, 432, 433, 521, 410, 411, 412, 413, 414, 415, 416, 522, 523, 524, 525, 526, 527, 528, 529, 530, 1064, 1065, 1066, 1067, 1068, 1069, 1070, 1071, 1072, 1073, 1074, 1104, 1105, 1106, 1107, 1108, 1109, 1110, 1111, 1112, 1113, 1114] (by decide +kernel) (by decide +kernel)
set_option maxRecDepth 20000 in
theorem gL_law_X4_all : GoodIn wsL_law (wsV RL 97 RX4 yX4_all wsX4_all) := goodIn_app (goodIn_of _ (by decide +kernel)) ggL_law_X4_all
theorem dL_law_806 : decode cL_law 806 = .ok (.invokevirtual 97, 3) := by decide +kernel
theorem dL_law_809 : decode cL_law 809 = .ok (.aload_n 2, 1) := by decide +kernel
set_option maxRecDepth 20000 in
theorem ggL_law_X5_all : GoodIn wsL_law wsX5_all := goodIn_r _ [673, 674, 675, 676, 5, 677, 80, 658, 659, 660, 661, 82, 258, 259, 260, 543, 544, 545, 546, 547, 548, 549, 550, 86, 88, 447, 448, 449, 450, 397, 398, 399, 400, 451, 452, 453, 454, 439, 440, 441, 442, 443, 444, 445, 446, 551, 552, 553, 505, 506, 507, 508, 1075, 1076, 1077, 1078, 1079, 1080, 1081, 1082, 1083, 1084, 1085, 1086, 1087, 1088, 1089, 1090, 1091, 1092, 1093, 1094, 1095, 1096, 1097, 1098, 1099, 1100, 1101, 1102, 1103] (by decide +kernel) (by decide +kernel)
set_option maxRecDepth 20000 in
theorem gL_law_X5_all : GoodIn wsL_law (wsV RL 100 RX5 yX5_all wsX5_all) := goodIn_app (goodIn_of _ (by decide +kernel)) ggL_law_X5_all
theorem dL_law_810 : decode cL_law 810 = .ok (.invokevirtual 100, 3) := by decide +kernel
theorem dL_law_813 : decode cL_law 813 = .ok (.if_icmp .eq 812, 3) := by decide +kernel
theorem dL_law_818 : decode cL_law 818 = .ok (.aload_n 1, 1) := by decide +kernel
set_option maxRecDepth 20000 in
theorem ggL_law_X4_hush : GoodIn wsL_law wsX4_hush := goodIn_r _ [681, 16, 666, 667, 668, 15, 669, 55, 650, 651, 652, 2, 653, 17, 492, 591, 592, 593, 594, 245, 246, 247, 248, 39, 51, 52, 53, 54, 40, 41, 42, 43, 56, 57, 46, 513, 514, 515, 516, 517, 518, 519, 520, 45, 421, 422, 423, 424, 44, 425, 385, 386, 387, 426, 427, 428, 429, 406, 407, 408, 430, 431, 432, 433, 521, 410, 411, 412, 413, 414, 415, 416, 522, 523, 524, 525, 526, 527, 528, 529, 530, 1064, 1065, 1066, 1067, 1068, 1069, 1070, 1071, 1072, 1073, 1074, 1104, 1105, 1106, 1107, 1108, 1109, 1110, 1111, 1112, 1113, 1114] (by decide +kernel) (by decide +kernel)
set_option maxRecDepth 20000 in
theorem gL_law_X4_hush : GoodIn wsL_law (wsV RL 101 RX4 yX4_hush wsX4_hush) := goodIn_app (goodIn_of _ (by decide +kernel)) ggL_law_X4_hush
theorem dL_law_819 : decode cL_law 819 = .ok (.invokevirtual 101, 3) := by decide +kernel
theorem dL_law_822 : decode cL_law 822 = .ok (.aload_n 2, 1) := by decide +kernel
set_option maxRecDepth 20000 in
theorem ggL_law_X5_hush : GoodIn wsL_law wsX5_hush := goodIn_r _ [685, 674, 675, 676, 5, 677, 80, 658, 659, 660, 661, 82, 258, 259, 260, 543, 544, 545, 546, 547, 548, 549, 550, 86, 88, 447, 448, 449, 450, 397, 398, 399, 400, 451, 452, 453, 454, 439, 440, 441, 442, 443, 444, 445, 446, 551, 552, 553, 505, 506, 507, 508, 1075, 1076, 1077, 1078, 1079, 1080, 1081, 1082, 1083, 1084, 1085, 1086, 1087, 1088, 1089, 1090, 1091, 1092, 1093, 1094, 1095, 1096, 1097, 1098, 1099, 1100, 1101, 1102, 1103] (by decide +kernel) (by decide +kernel)
set_option maxRecDepth 20000 in
theorem gL_law_X5_hush : GoodIn wsL_law (wsV RL 104 RX5 yX5_hush wsX5_hush) := goodIn_app (goodIn_of _ (by decide +kernel)) ggL_law_X5_hush
theorem dL_law_823 : decode cL_law 823 = .ok (.invokevirtual 104, 3) := by decide +kernel
theorem dL_law_826 : decode cL_law 826 = .ok (.if_icmp .eq 799, 3) := by decide +kernel
theorem dL_law_831 : decode cL_law 831 = .ok (.aload_n 1, 1) := by decide +kernel
theorem dL_law_832 : decode cL_law 832 = .ok (.aload_n 0, 1) := by decide +kernel
theorem dL_law_833 : decode cL_law 833 = .ok (.iload_n 3, 1) := by decide +kernel
theorem dL_law_834 : decode cL_law 834 = .ok (.iconst 1, 1) := by decide +kernel
theorem dL_law_835 : decode cL_law 835 = .ok (.iadd, 1) := by decide +kernel
theorem dL_law_836 : decode cL_law 836 = .ok (.iaload, 1) := by decide +kernel
theorem dL_law_837 : decode cL_law 837 = .ok (.aload_n 0, 1) := by decide +kernel
theorem dL_law_838 : decode cL_law 838 = .ok (.iload_n 3, 1) := by decide +kernel
theorem dL_law_839 : decode cL_law 839 = .ok (.iconst 2, 1) := by decide +kernel
theorem dL_law_840 : decode cL_law 840 = .ok (.iadd, 1) := by decide +kernel
theorem dL_law_841 : decode cL_law 841 = .ok (.iaload, 1) := by decide +kernel
set_option maxRecDepth 20000 in
theorem ggL_law_X4_roomFor : GoodIn wsL_law wsX4_roomFor := goodIn_r _ [689, 17, 379, 690, 691, 692, 2, 693, 16, 377, 380, 381, 382, 15, 383, 55, 107, 108, 106, 591, 592, 593, 594, 245, 246, 247, 248, 39, 51, 52, 53, 54, 40, 41, 42, 43, 56, 57, 46, 513, 514, 515, 516, 517, 518, 519, 520, 45, 421, 422, 423, 424, 44, 425, 385, 386, 387, 426, 427, 428, 429, 406, 407, 408, 430, 431, 432, 433, 521, 410, 411, 412, 413, 414, 415, 416, 522, 523, 524, 525, 526, 527, 528, 529, 530, 1064, 1065, 1066, 1067, 1068, 1069, 1070, 1071, 1072, 1073, 1074, 1104, 1105, 1106, 1107, 1108, 1109, 1110, 1111, 1112, 1113, 1114] (by decide +kernel) (by decide +kernel)
set_option maxRecDepth 20000 in
theorem gL_law_X4_roomFor : GoodIn wsL_law (wsV RL 105 RX4 yX4_roomFor wsX4_roomFor) := goodIn_app (goodIn_of _ (by decide +kernel)) ggL_law_X4_roomFor
theorem dL_law_842 : decode cL_law 842 = .ok (.invokevirtual 105, 3) := by decide +kernel
theorem dL_law_845 : decode cL_law 845 = .ok (.aload_n 2, 1) := by decide +kernel
theorem dL_law_846 : decode cL_law 846 = .ok (.aload_n 0, 1) := by decide +kernel
theorem dL_law_847 : decode cL_law 847 = .ok (.iload_n 3, 1) := by decide +kernel
theorem dL_law_848 : decode cL_law 848 = .ok (.iconst 1, 1) := by decide +kernel
theorem dL_law_849 : decode cL_law 849 = .ok (.iadd, 1) := by decide +kernel
theorem dL_law_850 : decode cL_law 850 = .ok (.iaload, 1) := by decide +kernel
theorem dL_law_851 : decode cL_law 851 = .ok (.aload_n 0, 1) := by decide +kernel
theorem dL_law_852 : decode cL_law 852 = .ok (.iload_n 3, 1) := by decide +kernel
theorem dL_law_853 : decode cL_law 853 = .ok (.iconst 2, 1) := by decide +kernel
theorem dL_law_854 : decode cL_law 854 = .ok (.iadd, 1) := by decide +kernel
theorem dL_law_855 : decode cL_law 855 = .ok (.iaload, 1) := by decide +kernel
set_option maxRecDepth 20000 in
theorem ggL_law_X5_roomFor : GoodIn wsL_law wsX5_roomFor := goodIn_r _ [697, 393, 394, 395, 5, 396, 80, 698, 699, 700, 701, 120, 121, 122, 702, 703, 704, 705, 82, 258, 259, 260, 543, 544, 545, 546, 547, 548, 549, 550, 86, 88, 447, 448, 449, 450, 397, 398, 399, 400, 451, 452, 453, 454, 439, 440, 441, 442, 443, 444, 445, 446, 551, 552, 553, 706, 707, 708, 1075, 1076, 1077, 1078, 1079, 1080, 1081, 1082, 1083, 1084, 1085, 1086, 1087, 1088, 1089, 1090, 1091, 1092, 1093, 1094, 1095, 1096, 1097, 1098, 1099, 1100, 1101, 1102, 1103] (by decide +kernel) (by decide +kernel)
set_option maxRecDepth 20000 in
theorem gL_law_X5_roomFor : GoodIn wsL_law (wsV RL 108 RX5 yX5_roomFor wsX5_roomFor) := goodIn_app (goodIn_of _ (by decide +kernel)) ggL_law_X5_roomFor
theorem dL_law_856 : decode cL_law 856 = .ok (.invokevirtual 108, 3) := by decide +kernel
theorem dL_law_859 : decode cL_law 859 = .ok (.if_icmp .eq 766, 3) := by decide +kernel
theorem dL_law_864 : decode cL_law 864 = .ok (.aload_n 1, 1) := by decide +kernel
theorem dL_law_865 : decode cL_law 865 = .ok (.aload_n 0, 1) := by decide +kernel
theorem dL_law_866 : decode cL_law 866 = .ok (.iload_n 3, 1) := by decide +kernel
theorem dL_law_867 : decode cL_law 867 = .ok (.iconst 1, 1) := by decide +kernel
theorem dL_law_868 : decode cL_law 868 = .ok (.iadd, 1) := by decide +kernel
theorem dL_law_869 : decode cL_law 869 = .ok (.iaload, 1) := by decide +kernel
theorem dL_law_870 : decode cL_law 870 = .ok (.aload_n 0, 1) := by decide +kernel
theorem dL_law_871 : decode cL_law 871 = .ok (.iload_n 3, 1) := by decide +kernel
theorem dL_law_872 : decode cL_law 872 = .ok (.iconst 2, 1) := by decide +kernel
theorem dL_law_873 : decode cL_law 873 = .ok (.iadd, 1) := by decide +kernel
theorem dL_law_874 : decode cL_law 874 = .ok (.iaload, 1) := by decide +kernel
set_option maxRecDepth 20000 in
theorem ggL_law_X4_kindFor : GoodIn wsL_law wsX4_kindFor := goodIn_r _ [712, 17, 376, 690, 691, 692, 2, 693, 16, 377, 380, 381, 382, 15, 383, 55, 107, 108, 106, 591, 592, 593, 594, 245, 246, 247, 248, 39, 51, 52, 53, 54, 40, 41, 42, 43, 56, 57, 46, 513, 514, 515, 516, 517, 518, 519, 520, 45, 421, 422, 423, 424, 44, 425, 385, 386, 387, 426, 427, 428, 429, 406, 407, 408, 430, 431, 432, 433, 521, 410, 411, 412, 413, 414, 415, 416, 522, 523, 524, 525, 526, 527, 528, 529, 530, 1064, 1065, 1066, 1067, 1068, 1069, 1070, 1071, 1072, 1073, 1074, 1104, 1105, 1106, 1107, 1108, 1109, 1110, 1111, 1112, 1113, 1114] (by decide +kernel) (by decide +kernel)
set_option maxRecDepth 20000 in
theorem gL_law_X4_kindFor : GoodIn wsL_law (wsV RL 109 RX4 yX4_kindFor wsX4_kindFor) := goodIn_app (goodIn_of _ (by decide +kernel)) ggL_law_X4_kindFor
theorem dL_law_875 : decode cL_law 875 = .ok (.invokevirtual 109, 3) := by decide +kernel
theorem dL_law_878 : decode cL_law 878 = .ok (.aload_n 2, 1) := by decide +kernel
theorem dL_law_879 : decode cL_law 879 = .ok (.aload_n 0, 1) := by decide +kernel
theorem dL_law_880 : decode cL_law 880 = .ok (.iload_n 3, 1) := by decide +kernel
theorem dL_law_881 : decode cL_law 881 = .ok (.iconst 1, 1) := by decide +kernel
theorem dL_law_882 : decode cL_law 882 = .ok (.iadd, 1) := by decide +kernel
theorem dL_law_883 : decode cL_law 883 = .ok (.iaload, 1) := by decide +kernel
theorem dL_law_884 : decode cL_law 884 = .ok (.aload_n 0, 1) := by decide +kernel
theorem dL_law_885 : decode cL_law 885 = .ok (.iload_n 3, 1) := by decide +kernel
theorem dL_law_886 : decode cL_law 886 = .ok (.iconst 2, 1) := by decide +kernel
theorem dL_law_887 : decode cL_law 887 = .ok (.iadd, 1) := by decide +kernel
theorem dL_law_888 : decode cL_law 888 = .ok (.iaload, 1) := by decide +kernel
set_option maxRecDepth 20000 in
theorem ggL_law_X5_kindFor : GoodIn wsL_law wsX5_kindFor := goodIn_r _ [716, 393, 394, 395, 5, 396, 80, 698, 699, 700, 701, 120, 121, 122, 702, 703, 704, 705, 82, 258, 259, 260, 543, 544, 545, 546, 547, 548, 549, 550, 86, 88, 447, 448, 449, 450, 397, 398, 399, 400, 451, 452, 453, 454, 439, 440, 441, 442, 443, 444, 445, 446, 551, 552, 553, 706, 707, 708, 1075, 1076, 1077, 1078, 1079, 1080, 1081, 1082, 1083, 1084, 1085, 1086, 1087, 1088, 1089, 1090, 1091, 1092, 1093, 1094, 1095, 1096, 1097, 1098, 1099, 1100, 1101, 1102, 1103] (by decide +kernel) (by decide +kernel)
set_option maxRecDepth 20000 in
theorem gL_law_X5_kindFor : GoodIn wsL_law (wsV RL 112 RX5 yX5_kindFor wsX5_kindFor) := goodIn_app (goodIn_of _ (by decide +kernel)) ggL_law_X5_kindFor
theorem dL_law_889 : decode cL_law 889 = .ok (.invokevirtual 112, 3) := by decide +kernel
theorem dL_law_892 : decode cL_law 892 = .ok (.if_icmp .eq 733, 3) := by decide +kernel
theorem dL_law_897 : decode cL_law 897 = .ok (.aload_n 1, 1) := by decide +kernel
theorem dL_law_898 : decode cL_law 898 = .ok (.aload_n 0, 1) := by decide +kernel
theorem dL_law_899 : decode cL_law 899 = .ok (.iload_n 3, 1) := by decide +kernel
theorem dL_law_900 : decode cL_law 900 = .ok (.iconst 1, 1) := by decide +kernel
theorem dL_law_901 : decode cL_law 901 = .ok (.iadd, 1) := by decide +kernel
theorem dL_law_902 : decode cL_law 902 = .ok (.iaload, 1) := by decide +kernel
theorem dL_law_903 : decode cL_law 903 = .ok (.aload_n 0, 1) := by decide +kernel
theorem dL_law_904 : decode cL_law 904 = .ok (.iload_n 3, 1) := by decide +kernel
theorem dL_law_905 : decode cL_law 905 = .ok (.iconst 2, 1) := by decide +kernel
theorem dL_law_906 : decode cL_law 906 = .ok (.iadd, 1) := by decide +kernel
theorem dL_law_907 : decode cL_law 907 = .ok (.iaload, 1) := by decide +kernel
set_option maxRecDepth 20000 in
theorem ggL_law_X4_earFor : GoodIn wsL_law wsX4_earFor := goodIn_r _ [720, 17, 378, 690, 691, 692, 2, 693, 16, 377, 380, 381, 382, 15, 383, 55, 107, 108, 106, 591, 592, 593, 594, 245, 246, 247, 248, 39, 51, 52, 53, 54, 40, 41, 42, 43, 56, 57, 46, 513, 514, 515, 516, 517, 518, 519, 520, 45, 421, 422, 423, 424, 44, 425, 385, 386, 387, 426, 427, 428, 429, 406, 407, 408, 430, 431, 432, 433, 521, 410, 411, 412, 413, 414, 415, 416, 522, 523, 524, 525, 526, 527, 528, 529, 530, 1064, 1065, 1066, 1067, 1068, 1069, 1070, 1071, 1072, 1073, 1074, 1104, 1105, 1106, 1107, 1108, 1109, 1110, 1111, 1112, 1113, 1114] (by decide +kernel) (by decide +kernel)
set_option maxRecDepth 20000 in
theorem gL_law_X4_earFor : GoodIn wsL_law (wsV RL 113 RX4 yX4_earFor wsX4_earFor) := goodIn_app (goodIn_of _ (by decide +kernel)) ggL_law_X4_earFor
theorem dL_law_908 : decode cL_law 908 = .ok (.invokevirtual 113, 3) := by decide +kernel
theorem dL_law_911 : decode cL_law 911 = .ok (.aload_n 2, 1) := by decide +kernel
theorem dL_law_912 : decode cL_law 912 = .ok (.aload_n 0, 1) := by decide +kernel
theorem dL_law_913 : decode cL_law 913 = .ok (.iload_n 3, 1) := by decide +kernel
theorem dL_law_914 : decode cL_law 914 = .ok (.iconst 1, 1) := by decide +kernel
theorem dL_law_915 : decode cL_law 915 = .ok (.iadd, 1) := by decide +kernel
theorem dL_law_916 : decode cL_law 916 = .ok (.iaload, 1) := by decide +kernel
theorem dL_law_917 : decode cL_law 917 = .ok (.aload_n 0, 1) := by decide +kernel
theorem dL_law_918 : decode cL_law 918 = .ok (.iload_n 3, 1) := by decide +kernel
theorem dL_law_919 : decode cL_law 919 = .ok (.iconst 2, 1) := by decide +kernel
theorem dL_law_920 : decode cL_law 920 = .ok (.iadd, 1) := by decide +kernel
theorem dL_law_921 : decode cL_law 921 = .ok (.iaload, 1) := by decide +kernel
set_option maxRecDepth 20000 in
theorem ggL_law_X5_earFor : GoodIn wsL_law wsX5_earFor := goodIn_r _ [724, 393, 394, 395, 5, 396, 80, 698, 699, 700, 701, 120, 121, 122, 702, 703, 704, 705, 82, 258, 259, 260, 543, 544, 545, 546, 547, 548, 549, 550, 86, 88, 447, 448, 449, 450, 397, 398, 399, 400, 451, 452, 453, 454, 439, 440, 441, 442, 443, 444, 445, 446, 551, 552, 553, 706, 707, 708, 1075, 1076, 1077, 1078, 1079, 1080, 1081, 1082, 1083, 1084, 1085, 1086, 1087, 1088, 1089, 1090, 1091, 1092, 1093, 1094, 1095, 1096, 1097, 1098, 1099, 1100, 1101, 1102, 1103] (by decide +kernel) (by decide +kernel)
set_option maxRecDepth 20000 in
theorem gL_law_X5_earFor : GoodIn wsL_law (wsV RL 116 RX5 yX5_earFor wsX5_earFor) := goodIn_app (goodIn_of _ (by decide +kernel)) ggL_law_X5_earFor
theorem dL_law_922 : decode cL_law 922 = .ok (.invokevirtual 116, 3) := by decide +kernel
theorem dL_law_925 : decode cL_law 925 = .ok (.if_icmp .eq 700, 3) := by decide +kernel
section LAW
variable {p : Program} {l : Launch} {e : Env} {s : State} {m : MethodId} {below : List Frame} {meth : Method} {c : Code} {D : va_G} {q : Nat → ClassId} {tt : Nat → Nat} {b L : Nat} {xs : Nat → Int32}
variable {pc : Nat} {lv : List (Nat × Value)} {st : List Value} {ws : va_W} {cells slots : Nat}
set_option maxRecDepth 100000 in
set_option maxHeartbeats 4000000 in
theorem lw_joins {B : Nat → Nat → Nat} {a : Nat → Nat} {o : OC} {h1 h2 h3 : HC} {t : TC} {g : GC} {P : List PE} {v : MC} {N n rn c0 k : Nat} (X : Lx p s m meth c D q tt b L xs) (r : LR o h1 h3 t g P v N n rn c0) (hk : k + 5 ≤ L) (hc : cells + 10 ≤ 600000) (hs : slots + 60 ≤ 7302250) (kk : ∀ (o : OC) (h1 h2 h3 : HC) (t : TC) (g : GC) (P : List PE) (v : MC) (N n rn c0 c2 s2 : Nat), LR o h1 h3 t g P v N n rn c0 → c2 ≤ cells + 2 → s2 ≤ slots + 42 → GL p l e s m below meth c D b 1625 (lvk b B a k) [] ((ow q B o ++ (hw q (B 1) h1 ++ (hw q (B 2) h2 ++ (hw q (B 3) h3 ++ (tw q (B 4) t ++ (sw q (B 5) g)))))) ++ (pw q P ++ mw q a v)) c2 s2) : GL p l e s m below meth c D b 782 (lvk b B a k) [] ((ow q B o ++ (hw q (B 1) h1 ++ (hw q (B 2) h2 ++ (hw q (B 3) h3 ++ (tw q (B 4) t ++ (sw q (B 5) g)))))) ++ (pw q P ++ mw q a v)) cells slots := by
  refine g_aloadn X.1 dL_law_782 1 rfl rfl ?_
  refine g_scr X 1 dL_law_783 dL_law_784 dL_law_785 (by decide) dL_law_786 dL_law_787 (by omega) ?_
  refine g_callLi X.1 (rd_V X.1 (k_X4_joins l D q tt B o h1 h2 h3 t g (m_s v) N (xs (k + 1)) r.gd r.hr) gL_law_X4_joins rfl rfl rfl 1 ok_X4_joins rfl 0 rfl rfl (rest := []) rfl rfl (Nat.le_of_ble_eq_true rfl) dL_law_788 ⟨(Nat.le_of_ble_eq_true rfl), (Nat.le_of_ble_eq_true rfl)⟩ ⟨(show cells + _ ≤ 600000 by omega), (show slots + _ ≤ 7302250 by omega)⟩) (fun r1_ u1 h1_ => ?_)
  refine g_asc ?_
  refine g_aloadn X.1 dL_law_791 2 rfl rfl ?_
  refine g_scr X 1 dL_law_792 dL_law_793 dL_law_794 (by decide) dL_law_795 dL_law_796 (by omega) ?_
  refine g_callRi X.1 (rd_V X.1 (k_X5_joins l D q tt a v N (xs (k + 1)) r.gd) gL_law_X5_joins rfl rfl rfl 1 ok_X5_joins rfl 0 rfl rfl (rest := [.int r1_]) rfl rfl (Nat.le_of_ble_eq_true rfl) dL_law_797 ⟨(Nat.le_of_ble_eq_true rfl), (Nat.le_of_ble_eq_true rfl)⟩ ⟨(show cells + 0 + _ ≤ 600000 by omega), (show slots + 0 + _ ≤ 7302250 by omega)⟩) (fun r2_ u2 h2_ => ?_)
  refine g_asc' ?_
  have e_ : r1_ = r2_ := h1_.trans h2_.symm
  refine g_icmp_eq X.1 1625 dL_law_800 rfl (fun _ => ?_) (fun h_ => absurd e_ h_)
  exact kk _ _ _ _ _ _ _ _ _ _ _ _ _ _ (r.house ⟨r.gd, r.hr⟩ ⟨rfl, rfl, rfl, rfl, rfl, rfl, rfl, rfl, rfl, rfl, rfl, rfl, rfl, rfl⟩) (by omega) (by omega)

set_option maxRecDepth 100000 in
set_option maxHeartbeats 4000000 in
theorem lw_all {B : Nat → Nat → Nat} {a : Nat → Nat} {o : OC} {h1 h2 h3 : HC} {t : TC} {g : GC} {P : List PE} {v : MC} {N n rn c0 k : Nat} (X : Lx p s m meth c D q tt b L xs) (r : LR o h1 h3 t g P v N n rn c0) (hk : k + 5 ≤ L) (hc : cells + 10 ≤ 600000) (hs : slots + 60 ≤ 7302250) (kk : ∀ (o : OC) (h1 h2 h3 : HC) (t : TC) (g : GC) (P : List PE) (v : MC) (N n rn c0 c2 s2 : Nat), LR o h1 h3 t g P v N n rn c0 → c2 ≤ cells + 2 → s2 ≤ slots + 42 → GL p l e s m below meth c D b 1625 (lvk b B a k) [] ((ow q B o ++ (hw q (B 1) h1 ++ (hw q (B 2) h2 ++ (hw q (B 3) h3 ++ (tw q (B 4) t ++ (sw q (B 5) g)))))) ++ (pw q P ++ mw q a v)) c2 s2) : GL p l e s m below meth c D b 805 (lvk b B a k) [] ((ow q B o ++ (hw q (B 1) h1 ++ (hw q (B 2) h2 ++ (hw q (B 3) h3 ++ (tw q (B 4) t ++ (sw q (B 5) g)))))) ++ (pw q P ++ mw q a v)) cells slots := by
  refine g_aloadn X.1 dL_law_805 1 rfl rfl ?_
  refine g_callLi X.1 (rd_V X.1 (k_X4_all l D q tt B o h1 h2 h3 t g (m_s v) N r.gd r.hr) gL_law_X4_all rfl rfl rfl 0 ok_X4_all rfl 0 rfl rfl (rest := []) rfl rfl (Nat.le_of_ble_eq_true rfl) dL_law_806 ⟨(Nat.le_of_ble_eq_true rfl), (Nat.le_of_ble_eq_true rfl)⟩ ⟨(show cells + _ ≤ 600000 by omega), (show slots + _ ≤ 7302250 by omega)⟩) (fun r1_ u1 h1_ => ?_)
  refine g_asc ?_
  refine g_aloadn X.1 dL_law_809 2 rfl rfl ?_
  refine g_callRi X.1 (rd_V X.1 (k_X5_all l D q tt a v N r.gd) gL_law_X5_all rfl rfl rfl 0 ok_X5_all rfl 0 rfl rfl (rest := [.int r1_]) rfl rfl (Nat.le_of_ble_eq_true rfl) dL_law_810 ⟨(Nat.le_of_ble_eq_true rfl), (Nat.le_of_ble_eq_true rfl)⟩ ⟨(show cells + 0 + _ ≤ 600000 by omega), (show slots + 0 + _ ≤ 7302250 by omega)⟩) (fun r2_ u2 h2_ => ?_)
  refine g_asc' ?_
  have e_ : r1_ = r2_ := h1_.trans h2_.symm
  refine g_icmp_eq X.1 1625 dL_law_813 rfl (fun _ => ?_) (fun h_ => absurd e_ h_)
  exact kk _ _ _ _ _ _ _ _ _ _ _ _ _ _ (r.house ⟨r.gd, r.hr⟩ ⟨rfl, rfl, rfl, rfl, rfl, rfl, rfl, rfl, rfl, rfl, rfl, rfl, rfl, rfl⟩) (by omega) (by omega)

set_option maxRecDepth 100000 in
set_option maxHeartbeats 4000000 in
theorem lw_hush {B : Nat → Nat → Nat} {a : Nat → Nat} {o : OC} {h1 h2 h3 : HC} {t : TC} {g : GC} {P : List PE} {v : MC} {N n rn c0 k : Nat} (X : Lx p s m meth c D q tt b L xs) (r : LR o h1 h3 t g P v N n rn c0) (hk : k + 5 ≤ L) (hc : cells + 10 ≤ 600000) (hs : slots + 60 ≤ 7302250) (kk : ∀ (o : OC) (h1 h2 h3 : HC) (t : TC) (g : GC) (P : List PE) (v : MC) (N n rn c0 c2 s2 : Nat), LR o h1 h3 t g P v N n rn c0 → c2 ≤ cells + 2 → s2 ≤ slots + 42 → GL p l e s m below meth c D b 1625 (lvk b B a k) [] ((ow q B o ++ (hw q (B 1) h1 ++ (hw q (B 2) h2 ++ (hw q (B 3) h3 ++ (tw q (B 4) t ++ (sw q (B 5) g)))))) ++ (pw q P ++ mw q a v)) c2 s2) : GL p l e s m below meth c D b 818 (lvk b B a k) [] ((ow q B o ++ (hw q (B 1) h1 ++ (hw q (B 2) h2 ++ (hw q (B 3) h3 ++ (tw q (B 4) t ++ (sw q (B 5) g)))))) ++ (pw q P ++ mw q a v)) cells slots := by
  refine g_aloadn X.1 dL_law_818 1 rfl rfl ?_
  refine g_callLi X.1 (rd_V X.1 (k_X4_hush l D q tt B o h1 h2 h3 t g (m_s v) N r.gd r.hr) gL_law_X4_hush rfl rfl rfl 0 ok_X4_hush rfl 0 rfl rfl (rest := []) rfl rfl (Nat.le_of_ble_eq_true rfl) dL_law_819 ⟨(Nat.le_of_ble_eq_true rfl), (Nat.le_of_ble_eq_true rfl)⟩ ⟨(show cells + _ ≤ 600000 by omega), (show slots + _ ≤ 7302250 by omega)⟩) (fun r1_ u1 h1_ => ?_)
  refine g_asc ?_
  refine g_aloadn X.1 dL_law_822 2 rfl rfl ?_
  refine g_callRi X.1 (rd_V X.1 (k_X5_hush l D q tt a v N r.gd) gL_law_X5_hush rfl rfl rfl 0 ok_X5_hush rfl 0 rfl rfl (rest := [.int r1_]) rfl rfl (Nat.le_of_ble_eq_true rfl) dL_law_823 ⟨(Nat.le_of_ble_eq_true rfl), (Nat.le_of_ble_eq_true rfl)⟩ ⟨(show cells + 0 + _ ≤ 600000 by omega), (show slots + 0 + _ ≤ 7302250 by omega)⟩) (fun r2_ u2 h2_ => ?_)
  refine g_asc' ?_
  have e_ : r1_ = r2_ := h1_.trans h2_.symm
  refine g_icmp_eq X.1 1625 dL_law_826 rfl (fun _ => ?_) (fun h_ => absurd e_ h_)
  exact kk _ _ _ _ _ _ _ _ _ _ _ _ _ _ (r.house ⟨r.gd, r.hr⟩ ⟨rfl, rfl, rfl, rfl, rfl, rfl, rfl, rfl, rfl, rfl, rfl, rfl, rfl, rfl⟩) (by omega) (by omega)

set_option maxRecDepth 100000 in
set_option maxHeartbeats 4000000 in
theorem lw_roomFor {B : Nat → Nat → Nat} {a : Nat → Nat} {o : OC} {h1 h2 h3 : HC} {t : TC} {g : GC} {P : List PE} {v : MC} {N n rn c0 k : Nat} (X : Lx p s m meth c D q tt b L xs) (r : LR o h1 h3 t g P v N n rn c0) (hk : k + 5 ≤ L) (hc : cells + 10 ≤ 600000) (hs : slots + 60 ≤ 7302250) (kk : ∀ (o : OC) (h1 h2 h3 : HC) (t : TC) (g : GC) (P : List PE) (v : MC) (N n rn c0 c2 s2 : Nat), LR o h1 h3 t g P v N n rn c0 → c2 ≤ cells + 2 → s2 ≤ slots + 42 → GL p l e s m below meth c D b 1625 (lvk b B a k) [] ((ow q B o ++ (hw q (B 1) h1 ++ (hw q (B 2) h2 ++ (hw q (B 3) h3 ++ (tw q (B 4) t ++ (sw q (B 5) g)))))) ++ (pw q P ++ mw q a v)) c2 s2) : GL p l e s m below meth c D b 831 (lvk b B a k) [] ((ow q B o ++ (hw q (B 1) h1 ++ (hw q (B 2) h2 ++ (hw q (B 3) h3 ++ (tw q (B 4) t ++ (sw q (B 5) g)))))) ++ (pw q P ++ mw q a v)) cells slots := by
  refine g_aloadn X.1 dL_law_831 1 rfl rfl ?_
  refine g_scr X 1 dL_law_832 dL_law_833 dL_law_834 (by decide) dL_law_835 dL_law_836 (by omega) ?_
  refine g_scr X 2 dL_law_837 dL_law_838 dL_law_839 (by decide) dL_law_840 dL_law_841 (by omega) ?_
  refine g_callLi X.1 (rd_V X.1 (k_X4_roomFor l D q tt B o h1 h2 h3 t g (m_s v) N (xs (k + 1)) (xs (k + 2)) r.gd r.hr) gL_law_X4_roomFor rfl rfl rfl 2 ok_X4_roomFor rfl 0 rfl rfl (rest := []) rfl rfl (Nat.le_of_ble_eq_true rfl) dL_law_842 ⟨(Nat.le_of_ble_eq_true rfl), (Nat.le_of_ble_eq_true rfl)⟩ ⟨(show cells + _ ≤ 600000 by omega), (show slots + _ ≤ 7302250 by omega)⟩) (fun r1_ u1 h1_ => ?_)
  refine g_asc ?_
  refine g_aloadn X.1 dL_law_845 2 rfl rfl ?_
  refine g_scr X 1 dL_law_846 dL_law_847 dL_law_848 (by decide) dL_law_849 dL_law_850 (by omega) ?_
  refine g_scr X 2 dL_law_851 dL_law_852 dL_law_853 (by decide) dL_law_854 dL_law_855 (by omega) ?_
  refine g_callRi X.1 (rd_V X.1 (k_X5_roomFor l D q tt a v N (xs (k + 1)) (xs (k + 2)) r.gd) gL_law_X5_roomFor rfl rfl rfl 2 ok_X5_roomFor rfl 0 rfl rfl (rest := [.int r1_]) rfl rfl (Nat.le_of_ble_eq_true rfl) dL_law_856 ⟨(Nat.le_of_ble_eq_true rfl), (Nat.le_of_ble_eq_true rfl)⟩ ⟨(show cells + 0 + _ ≤ 600000 by omega), (show slots + 0 + _ ≤ 7302250 by omega)⟩) (fun r2_ u2 h2_ => ?_)
  refine g_asc' ?_
  have e_ : r1_ = r2_ := h1_.trans h2_.symm
  refine g_icmp_eq X.1 1625 dL_law_859 rfl (fun _ => ?_) (fun h_ => absurd e_ h_)
  exact kk _ _ _ _ _ _ _ _ _ _ _ _ _ _ (r.house ⟨r.gd, r.hr⟩ ⟨rfl, rfl, rfl, rfl, rfl, rfl, rfl, rfl, rfl, rfl, rfl, rfl, rfl, rfl⟩) (by omega) (by omega)

set_option maxRecDepth 100000 in
set_option maxHeartbeats 4000000 in
theorem lw_kindFor {B : Nat → Nat → Nat} {a : Nat → Nat} {o : OC} {h1 h2 h3 : HC} {t : TC} {g : GC} {P : List PE} {v : MC} {N n rn c0 k : Nat} (X : Lx p s m meth c D q tt b L xs) (r : LR o h1 h3 t g P v N n rn c0) (hk : k + 5 ≤ L) (hc : cells + 10 ≤ 600000) (hs : slots + 60 ≤ 7302250) (kk : ∀ (o : OC) (h1 h2 h3 : HC) (t : TC) (g : GC) (P : List PE) (v : MC) (N n rn c0 c2 s2 : Nat), LR o h1 h3 t g P v N n rn c0 → c2 ≤ cells + 2 → s2 ≤ slots + 42 → GL p l e s m below meth c D b 1625 (lvk b B a k) [] ((ow q B o ++ (hw q (B 1) h1 ++ (hw q (B 2) h2 ++ (hw q (B 3) h3 ++ (tw q (B 4) t ++ (sw q (B 5) g)))))) ++ (pw q P ++ mw q a v)) c2 s2) : GL p l e s m below meth c D b 864 (lvk b B a k) [] ((ow q B o ++ (hw q (B 1) h1 ++ (hw q (B 2) h2 ++ (hw q (B 3) h3 ++ (tw q (B 4) t ++ (sw q (B 5) g)))))) ++ (pw q P ++ mw q a v)) cells slots := by
  refine g_aloadn X.1 dL_law_864 1 rfl rfl ?_
  refine g_scr X 1 dL_law_865 dL_law_866 dL_law_867 (by decide) dL_law_868 dL_law_869 (by omega) ?_
  refine g_scr X 2 dL_law_870 dL_law_871 dL_law_872 (by decide) dL_law_873 dL_law_874 (by omega) ?_
  refine g_callLi X.1 (rd_V X.1 (k_X4_kindFor l D q tt B o h1 h2 h3 t g (m_s v) N (xs (k + 1)) (xs (k + 2)) r.gd r.hr) gL_law_X4_kindFor rfl rfl rfl 2 ok_X4_kindFor rfl 0 rfl rfl (rest := []) rfl rfl (Nat.le_of_ble_eq_true rfl) dL_law_875 ⟨(Nat.le_of_ble_eq_true rfl), (Nat.le_of_ble_eq_true rfl)⟩ ⟨(show cells + _ ≤ 600000 by omega), (show slots + _ ≤ 7302250 by omega)⟩) (fun r1_ u1 h1_ => ?_)
  refine g_asc ?_
  refine g_aloadn X.1 dL_law_878 2 rfl rfl ?_
  refine g_scr X 1 dL_law_879 dL_law_880 dL_law_881 (by decide) dL_law_882 dL_law_883 (by omega) ?_
  refine g_scr X 2 dL_law_884 dL_law_885 dL_law_886 (by decide) dL_law_887 dL_law_888 (by omega) ?_
  refine g_callRi X.1 (rd_V X.1 (k_X5_kindFor l D q tt a v N (xs (k + 1)) (xs (k + 2)) r.gd) gL_law_X5_kindFor rfl rfl rfl 2 ok_X5_kindFor rfl 0 rfl rfl (rest := [.int r1_]) rfl rfl (Nat.le_of_ble_eq_true rfl) dL_law_889 ⟨(Nat.le_of_ble_eq_true rfl), (Nat.le_of_ble_eq_true rfl)⟩ ⟨(show cells + 0 + _ ≤ 600000 by omega), (show slots + 0 + _ ≤ 7302250 by omega)⟩) (fun r2_ u2 h2_ => ?_)
  refine g_asc' ?_
  have e_ : r1_ = r2_ := h1_.trans h2_.symm
  refine g_icmp_eq X.1 1625 dL_law_892 rfl (fun _ => ?_) (fun h_ => absurd e_ h_)
  exact kk _ _ _ _ _ _ _ _ _ _ _ _ _ _ (r.house ⟨r.gd, r.hr⟩ ⟨rfl, rfl, rfl, rfl, rfl, rfl, rfl, rfl, rfl, rfl, rfl, rfl, rfl, rfl⟩) (by omega) (by omega)

set_option maxRecDepth 100000 in
set_option maxHeartbeats 4000000 in
theorem lw_earFor {B : Nat → Nat → Nat} {a : Nat → Nat} {o : OC} {h1 h2 h3 : HC} {t : TC} {g : GC} {P : List PE} {v : MC} {N n rn c0 k : Nat} (X : Lx p s m meth c D q tt b L xs) (r : LR o h1 h3 t g P v N n rn c0) (hk : k + 5 ≤ L) (hc : cells + 10 ≤ 600000) (hs : slots + 60 ≤ 7302250) (kk : ∀ (o : OC) (h1 h2 h3 : HC) (t : TC) (g : GC) (P : List PE) (v : MC) (N n rn c0 c2 s2 : Nat), LR o h1 h3 t g P v N n rn c0 → c2 ≤ cells + 2 → s2 ≤ slots + 42 → GL p l e s m below meth c D b 1625 (lvk b B a k) [] ((ow q B o ++ (hw q (B 1) h1 ++ (hw q (B 2) h2 ++ (hw q (B 3) h3 ++ (tw q (B 4) t ++ (sw q (B 5) g)))))) ++ (pw q P ++ mw q a v)) c2 s2) : GL p l e s m below meth c D b 897 (lvk b B a k) [] ((ow q B o ++ (hw q (B 1) h1 ++ (hw q (B 2) h2 ++ (hw q (B 3) h3 ++ (tw q (B 4) t ++ (sw q (B 5) g)))))) ++ (pw q P ++ mw q a v)) cells slots := by
  refine g_aloadn X.1 dL_law_897 1 rfl rfl ?_
  refine g_scr X 1 dL_law_898 dL_law_899 dL_law_900 (by decide) dL_law_901 dL_law_902 (by omega) ?_
  refine g_scr X 2 dL_law_903 dL_law_904 dL_law_905 (by decide) dL_law_906 dL_law_907 (by omega) ?_
  refine g_callLi X.1 (rd_V X.1 (k_X4_earFor l D q tt B o h1 h2 h3 t g (m_s v) N (xs (k + 1)) (xs (k + 2)) r.gd r.hr) gL_law_X4_earFor rfl rfl rfl 2 ok_X4_earFor rfl 0 rfl rfl (rest := []) rfl rfl (Nat.le_of_ble_eq_true rfl) dL_law_908 ⟨(Nat.le_of_ble_eq_true rfl), (Nat.le_of_ble_eq_true rfl)⟩ ⟨(show cells + _ ≤ 600000 by omega), (show slots + _ ≤ 7302250 by omega)⟩) (fun r1_ u1 h1_ => ?_)
  refine g_asc ?_
  refine g_aloadn X.1 dL_law_911 2 rfl rfl ?_
  refine g_scr X 1 dL_law_912 dL_law_913 dL_law_914 (by decide) dL_law_915 dL_law_916 (by omega) ?_
  refine g_scr X 2 dL_law_917 dL_law_918 dL_law_919 (by decide) dL_law_920 dL_law_921 (by omega) ?_
  refine g_callRi X.1 (rd_V X.1 (k_X5_earFor l D q tt a v N (xs (k + 1)) (xs (k + 2)) r.gd) gL_law_X5_earFor rfl rfl rfl 2 ok_X5_earFor rfl 0 rfl rfl (rest := [.int r1_]) rfl rfl (Nat.le_of_ble_eq_true rfl) dL_law_922 ⟨(Nat.le_of_ble_eq_true rfl), (Nat.le_of_ble_eq_true rfl)⟩ ⟨(show cells + 0 + _ ≤ 600000 by omega), (show slots + 0 + _ ≤ 7302250 by omega)⟩) (fun r2_ u2 h2_ => ?_)
  refine g_asc' ?_
  have e_ : r1_ = r2_ := h1_.trans h2_.symm
  refine g_icmp_eq X.1 1625 dL_law_925 rfl (fun _ => ?_) (fun h_ => absurd e_ h_)
  exact kk _ _ _ _ _ _ _ _ _ _ _ _ _ _ (r.house ⟨r.gd, r.hr⟩ ⟨rfl, rfl, rfl, rfl, rfl, rfl, rfl, rfl, rfl, rfl, rfl, rfl, rfl, rfl⟩) (by omega) (by omega)
end LAW
