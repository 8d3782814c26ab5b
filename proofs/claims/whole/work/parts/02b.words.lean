theorem mem_px {big : List Cond} (ws : List Cond) (ps : List Nat) (hp : ws = ps.filterMap (fun i => big[i]?)) : ∀ w ∈ ws, w ∈ big := by
  intro w hw
  rw [hp] at hw
  obtain ⟨i, -, hi⟩ := List.mem_filterMap.mp hw
  exact List.mem_of_getElem? hi
theorem mem_ap {big a b : List Cond} (ha : ∀ w ∈ a, w ∈ big) (hb : ∀ w ∈ b, w ∈ big) : ∀ w ∈ a ++ b, w ∈ big := fun w h => (List.mem_append.mp h).elim (ha w) (hb w)
set_option maxRecDepth 20000 in
theorem wsL_law_in_1 : ∀ w ∈ wsL_law_r1, w ∈ lw_tbl := mem_px _ [90, 91, 77, 784, 785, 82, 1307, 92, 93, 94, 95, 96, 97, 98, 99, 78, 212, 213, 214, 215, 159, 160, 80, 216] (by decide +kernel)
set_option maxRecDepth 20000 in
theorem wsL_law_in_2 : ∀ w ∈ wsL_law_r2, w ∈ lw_tbl := mem_px _ [183, 184, 81, 217, 158, 218, 219, 210, 220, 221, 222, 100, 101, 102, 103, 113, 116, 118, 120, 122, 133, 134, 131, 104] (by decide +kernel)
set_option maxRecDepth 20000 in
theorem wsL_law_in_3 : ∀ w ∈ wsL_law_r3, w ∈ lw_tbl := mem_px _ [105, 106, 107, 110, 112, 111, 79, 124, 127, 129, 162, 163, 164, 165, 182, 167, 168, 169, 170, 186, 187, 188, 189, 191] (by decide +kernel)
set_option maxRecDepth 20000 in
theorem wsL_law_in_4 : ∀ w ∈ wsL_law_r4, w ∈ lw_tbl := mem_px _ [193, 194, 195, 196, 786, 787, 788, 789, 794, 795, 796, 797, 798, 800, 807, 882, 808, 809, 811, 812, 813, 814, 815, 816] (by decide +kernel)
set_option maxRecDepth 20000 in
theorem wsL_law_in_5 : ∀ w ∈ wsL_law_r5, w ∈ lw_tbl := mem_px _ [817, 790, 792, 29, 793, 246, 247, 248, 249, 166, 250, 251, 252, 253, 254, 255, 256, 883, 884, 885, 886, 887, 801, 891] (by decide +kernel)
set_option maxRecDepth 20000 in
theorem wsL_law_in_6 : ∀ w ∈ wsL_law_r6, w ∈ lw_tbl := mem_px _ [888, 889, 890, 257, 258, 259, 260, 132, 125, 261, 262, 263, 264, 265, 266, 268, 0, 269, 270, 272, 1, 273, 274, 276] (by decide +kernel)
set_option maxRecDepth 20000 in
theorem wsL_law_in_7 : ∀ w ∈ wsL_law_r7, w ∈ lw_tbl := mem_px _ [2, 277, 278, 280, 3, 281, 282, 283, 284, 291, 293, 4, 294, 295, 296, 297, 83, 298, 1308, 299, 300, 301, 302, 303] (by decide +kernel)
set_option maxRecDepth 20000 in
theorem wsL_law_in_8 : ∀ w ∈ wsL_law_r8, w ∈ lw_tbl := mem_px _ [1309, 305, 306, 307, 308, 309, 310, 311, 312, 313, 314, 84, 315, 316, 317, 318, 319, 321, 322, 85, 323, 324, 325, 86] (by decide +kernel)
set_option maxRecDepth 20000 in
theorem wsL_law_in_9 : ∀ w ∈ wsL_law_r9, w ∈ lw_tbl := mem_px _ [326, 327, 328, 329, 330, 331, 332, 333, 334, 335, 336, 337, 339, 341, 343, 345, 5, 346, 115, 347, 349, 6, 350, 351] (by decide +kernel)
set_option maxRecDepth 20000 in
theorem wsL_law_in_10 : ∀ w ∈ wsL_law_r10, w ∈ lw_tbl := mem_px _ [352, 353, 359, 360, 365, 367, 7, 368, 370, 372, 8, 373, 126, 375, 377, 9, 378, 382, 383, 384, 385, 386, 387, 388] (by decide +kernel)
set_option maxRecDepth 20000 in
theorem wsL_law_in_11 : ∀ w ∈ wsL_law_r11, w ∈ lw_tbl := mem_px _ [389, 390, 392, 10, 393, 394, 395, 396, 397, 892, 893, 894, 895, 804, 806, 802, 803, 810, 896, 897, 898, 899, 901, 30] (by decide +kernel)
set_option maxRecDepth 20000 in
theorem wsL_law_in_12 : ∀ w ∈ wsL_law_r12, w ∈ lw_tbl := mem_px _ [902, 805, 903, 905, 31, 906, 907, 908, 909, 910, 911, 912, 913, 915, 32, 916, 917, 919, 33, 920, 921, 923, 34, 924] (by decide +kernel)
set_option maxRecDepth 20000 in
theorem wsL_law_in_13 : ∀ w ∈ wsL_law_r13, w ∈ lw_tbl := mem_px _ [925, 927, 35, 928, 929, 931, 36, 932, 933, 935, 37, 936, 937, 939, 38, 940, 941, 943, 39, 944, 945, 947, 40, 948] (by decide +kernel)
set_option maxRecDepth 20000 in
theorem wsL_law_in_14 : ∀ w ∈ wsL_law_r14, w ∈ lw_tbl := mem_px _ [949, 951, 41, 952, 953, 955, 42, 956, 398, 399, 400, 401, 403, 404, 114, 402, 957, 958, 959, 960, 961, 962, 963, 964] (by decide +kernel)
set_option maxRecDepth 20000 in
theorem wsL_law_in_15 : ∀ w ∈ wsL_law_r15, w ∈ lw_tbl := mem_px _ [966, 43, 967, 405, 406, 407, 408, 968, 969, 970, 971, 409, 410, 411, 412, 413, 414, 415, 416, 417, 418, 419, 420, 421] (by decide +kernel)
set_option maxRecDepth 20000 in
theorem wsL_law_in_16 : ∀ w ∈ wsL_law_r16, w ∈ lw_tbl := mem_px _ [422, 423, 424, 425, 972, 973, 974, 975, 976, 977, 978, 979, 426, 427, 428, 429, 117, 119, 121, 123, 430, 431, 432, 433] (by decide +kernel)
set_option maxRecDepth 20000 in
theorem wsL_law_in_17 : ∀ w ∈ wsL_law_r17, w ∈ lw_tbl := mem_px _ [435, 436, 437, 438, 980, 981, 982, 983, 988, 984, 986, 44, 987, 989, 991, 45, 992, 439, 440, 441, 442, 443, 444, 445] (by decide +kernel)
set_option maxRecDepth 20000 in
theorem wsL_law_in_18 : ∀ w ∈ wsL_law_r18, w ∈ lw_tbl := mem_px _ [446, 447, 448, 449, 450, 451, 453, 11, 454, 455, 456, 457, 458, 459, 461, 12, 462, 463, 464, 465, 466, 467, 468, 470] (by decide +kernel)
set_option maxRecDepth 20000 in
theorem wsL_law_in_19 : ∀ w ∈ wsL_law_r19, w ∈ lw_tbl := mem_px _ [13, 471, 993, 994, 995, 996, 997, 998, 1000, 46, 1001, 1002, 1004, 47, 1005, 1006, 1008, 48, 1009, 1010, 1012, 49, 1013, 472] (by decide +kernel)
set_option maxRecDepth 20000 in
theorem wsL_law_in_20 : ∀ w ∈ wsL_law_r20, w ∈ lw_tbl := mem_px _ [473, 474, 475, 1014, 1015, 1016, 1017, 476, 477, 478, 479, 1018, 1019, 1020, 1021, 480, 481, 482, 483, 1022, 1023, 1024, 1025, 484] (by decide +kernel)
set_option maxRecDepth 20000 in
theorem wsL_law_in_21 : ∀ w ∈ wsL_law_r21, w ∈ lw_tbl := mem_px _ [485, 486, 487, 488, 1026, 1027, 1028, 1029, 489, 490, 491, 492, 128, 493, 494, 495, 496, 1030, 1031, 1032, 1033, 1034, 1036, 50] (by decide +kernel)
set_option maxRecDepth 20000 in
theorem wsL_law_in_22 : ∀ w ∈ wsL_law_r22, w ∈ lw_tbl := mem_px _ [1037, 1038, 1040, 51, 1041, 497, 498, 499, 500, 501, 502, 503, 504, 505, 507, 14, 508, 509, 511, 512, 513, 514, 87, 515] (by decide +kernel)
set_option maxRecDepth 20000 in
theorem wsL_law_in_23 : ∀ w ∈ wsL_law_r23, w ∈ lw_tbl := mem_px _ [516, 517, 518, 519, 520, 88, 521, 522, 523, 524, 1042, 1043, 1044, 1045, 1046, 1047, 1049, 52, 1050, 1051, 1053, 53, 1054, 1055] (by decide +kernel)
set_option maxRecDepth 20000 in
theorem wsL_law_in_24 : ∀ w ∈ wsL_law_r24, w ∈ lw_tbl := mem_px _ [1056, 1057, 1058, 1059, 1060, 525, 526, 527, 528, 1061, 1062, 1063, 1064, 529, 530, 531, 532, 533, 534, 535, 536, 537, 539, 15] (by decide +kernel)
set_option maxRecDepth 20000 in
theorem wsL_law_in_25 : ∀ w ∈ wsL_law_r25, w ∈ lw_tbl := mem_px _ [540, 541, 1065, 1066, 1067, 1068, 1069, 1071, 54, 1072, 1073, 542, 543, 544, 545, 546, 548, 16, 549, 1074, 1075, 1076, 1077, 1078] (by decide +kernel)
set_option maxRecDepth 20000 in
theorem wsL_law_in_26 : ∀ w ∈ wsL_law_r26, w ∈ lw_tbl := mem_px _ [1079, 550, 551, 552, 553, 130, 554, 555, 556, 557, 558, 559, 560, 561, 562, 563, 564, 565, 1080, 1081, 1082, 1083, 1084, 1086] (by decide +kernel)
set_option maxRecDepth 20000 in
theorem wsL_law_in_27 : ∀ w ∈ wsL_law_r27, w ∈ lw_tbl := mem_px _ [55, 1087, 1088, 1090, 56, 1091, 1092, 1094, 57, 1095, 566, 567, 568, 569, 1096, 1097, 1098, 1099, 1100, 1102, 58, 1103, 570, 571] (by decide +kernel)
set_option maxRecDepth 20000 in
theorem wsL_law_in_28 : ∀ w ∈ wsL_law_r28, w ∈ lw_tbl := mem_px _ [572, 573, 574, 576, 17, 577, 1104, 1105, 1106, 1107, 1108, 1110, 59, 1111, 578, 579, 580, 581, 582, 583, 584, 585, 1112, 1113] (by decide +kernel)
set_option maxRecDepth 20000 in
theorem wsL_law_in_29 : ∀ w ∈ wsL_law_r29, w ∈ lw_tbl := mem_px _ [1114, 1115, 1116, 1118, 60, 1119, 586, 587, 588, 589, 1120, 1121, 1122, 1123, 590, 591, 592, 593, 594, 596, 18, 597, 1128, 1129] (by decide +kernel)
set_option maxRecDepth 20000 in
theorem wsL_law_in_30 : ∀ w ∈ wsL_law_r30, w ∈ lw_tbl := mem_px _ [1130, 1131, 1132, 1133, 1134, 1135, 1136, 1138, 61, 1139, 1140, 1141, 1142, 598, 599, 600, 601, 1143, 1144, 1145, 1146, 602, 603, 604] (by decide +kernel)
set_option maxRecDepth 20000 in
theorem wsL_law_in_31 : ∀ w ∈ wsL_law_r31, w ∈ lw_tbl := mem_px _ [605, 1147, 1148, 1149, 1150, 606, 607, 608, 609, 610, 612, 19, 613, 614, 616, 20, 617, 618, 620, 21, 621, 1151, 1152, 1153] (by decide +kernel)
set_option maxRecDepth 20000 in
theorem wsL_law_in_32 : ∀ w ∈ wsL_law_r32, w ∈ lw_tbl := mem_px _ [1154, 622, 623, 624, 625, 1155, 1156, 1157, 1158, 626, 627, 628, 629, 1124, 1125, 1126, 1127, 630, 631, 632, 633, 634, 635, 636] (by decide +kernel)
set_option maxRecDepth 20000 in
theorem wsL_law_in_33 : ∀ w ∈ wsL_law_r33, w ∈ lw_tbl := mem_px _ [637, 639, 22, 640, 698, 641, 1159, 1160, 1161, 1162, 1163, 1164, 1165, 1166, 1168, 62, 1169, 642, 643, 644, 645, 646, 647, 648] (by decide +kernel)
set_option maxRecDepth 20000 in
theorem wsL_law_in_34 : ∀ w ∈ wsL_law_r34, w ∈ lw_tbl := mem_px _ [649, 650, 651, 652, 1170, 1171, 1172, 1173, 1174, 1178, 1175, 1176, 1177, 1179, 1180, 1181, 653, 654, 655, 656, 1182, 1183, 1184, 1185] (by decide +kernel)
set_option maxRecDepth 20000 in
theorem wsL_law_in_35 : ∀ w ∈ wsL_law_r35, w ∈ lw_tbl := mem_px _ [657, 658, 659, 660, 661, 663, 23, 664, 1186, 1187, 1188, 1189, 1190, 665, 666, 667, 668, 669, 671, 24, 672, 1191, 1192, 1193] (by decide +kernel)
set_option maxRecDepth 20000 in
theorem wsL_law_in_36 : ∀ w ∈ wsL_law_r36, w ∈ lw_tbl := mem_px _ [1194, 1195, 1197, 63, 1198, 673, 674, 675, 676, 1199, 1200, 1201, 1202, 677, 678, 679, 680, 1203, 1204, 1205, 1206, 681, 682, 683] (by decide +kernel)
set_option maxRecDepth 20000 in
theorem wsL_law_in_37 : ∀ w ∈ wsL_law_r37, w ∈ lw_tbl := mem_px _ [684, 696, 685, 1223, 1224, 1225, 1226, 1219, 1221, 64, 1222, 686, 687, 688, 689, 690, 89, 704, 691, 692, 693, 694, 695, 697] (by decide +kernel)
set_option maxRecDepth 20000 in
theorem wsL_law_in_38 : ∀ w ∈ wsL_law_r38, w ∈ lw_tbl := mem_px _ [1207, 1208, 1209, 1210, 705, 706, 707, 708, 709, 710, 711, 712, 1211, 1212, 1213, 1214, 713, 714, 715, 716, 1215, 1216, 1217, 1218] (by decide +kernel)
set_option maxRecDepth 20000 in
theorem wsL_law_in_39 : ∀ w ∈ wsL_law_r39, w ∈ lw_tbl := mem_px _ [717, 718, 719, 720, 721, 723, 25, 724, 1227, 1228, 1229, 1230, 1231, 1232, 1233, 725, 726, 727, 728, 729, 730, 731, 732, 1234] (by decide +kernel)
set_option maxRecDepth 20000 in
theorem wsL_law_in_40 : ∀ w ∈ wsL_law_r40, w ∈ lw_tbl := mem_px _ [1235, 1236, 1237, 1238, 1239, 1240, 1242, 65, 1243, 1244, 1245, 1246, 734, 735, 736, 737, 738, 739, 740, 741, 742, 743, 744, 745] (by decide +kernel)
set_option maxRecDepth 20000 in
theorem wsL_law_in_41 : ∀ w ∈ wsL_law_r41, w ∈ lw_tbl := mem_px _ [746, 748, 26, 749, 750, 751, 752, 753, 756, 758, 27, 759, 760, 762, 28, 763, 1247, 1248, 1249, 1250, 818, 822, 819, 820] (by decide +kernel)
set_option maxRecDepth 20000 in
theorem wsL_law_in_42 : ∀ w ∈ wsL_law_r42, w ∈ lw_tbl := mem_px _ [821, 1251, 1253, 66, 1254, 1255, 1257, 67, 1258, 1259, 1261, 68, 1262, 1263, 1265, 69, 1266, 1267, 1269, 70, 1270, 1271, 1273, 71] (by decide +kernel)
set_option maxRecDepth 20000 in
theorem wsL_law_in_43 : ∀ w ∈ wsL_law_r43, w ∈ lw_tbl := mem_px _ [1274, 1275, 1277, 72, 1278, 1279, 1281, 73, 1282, 1283, 1285, 74, 1286, 1287, 1289, 75, 1290, 764, 765, 766, 767, 192, 190, 1291] (by decide +kernel)
set_option maxRecDepth 20000 in
theorem wsL_law_in_44 : ∀ w ∈ wsL_law_r44, w ∈ lw_tbl := mem_px _ [1292, 1293, 1294, 768, 769, 770, 771, 772, 773, 774, 775, 1295, 1296, 1297, 1298, 776, 777, 778, 779, 1299, 1300, 1301, 1302, 799] (by decide +kernel)
set_option maxRecDepth 20000 in
theorem wsL_law_in_45 : ∀ w ∈ wsL_law_r45, w ∈ lw_tbl := mem_px _ [780, 781, 782, 783, 1303, 1304, 1305, 1306] (by decide +kernel)
set_option maxRecDepth 20000 in
theorem wsL_law_in_wsX40 : ∀ w ∈ wsX40, w ∈ lw_tbl := by decide +kernel
set_option maxRecDepth 20000 in
theorem wsL_law_in_wsX50 : ∀ w ∈ wsX50, w ∈ lw_tbl := by decide +kernel
set_option maxRecDepth 20000 in
theorem wsL_law_in_wsX00 : ∀ w ∈ wsX00, w ∈ lw_tbl := by decide +kernel
set_option maxRecDepth 20000 in
theorem wsL_law_in_wsX30 : ∀ w ∈ wsX30, w ∈ lw_tbl := by decide +kernel
set_option maxRecDepth 20000 in
theorem wsL_law_in_wsX20 : ∀ w ∈ wsX20, w ∈ lw_tbl := by decide +kernel
set_option maxRecDepth 20000 in
theorem wsL_law_in_wsX10 : ∀ w ∈ wsX10, w ∈ lw_tbl := by decide +kernel
theorem wsL_law_in : ∀ w ∈ wsL_law, w ∈ lw_tbl := (mem_ap (mem_ap (mem_ap (mem_ap (mem_ap (mem_ap (mem_ap (mem_ap wsL_law_in_1 (mem_ap wsL_law_in_2 (mem_ap wsL_law_in_3 (mem_ap wsL_law_in_4 (mem_ap wsL_law_in_5 (mem_ap wsL_law_in_6 (mem_ap wsL_law_in_7 (mem_ap wsL_law_in_8 (mem_ap wsL_law_in_9 (mem_ap wsL_law_in_10 (mem_ap wsL_law_in_11 (mem_ap wsL_law_in_12 (mem_ap wsL_law_in_13 (mem_ap wsL_law_in_14 (mem_ap wsL_law_in_15 (mem_ap wsL_law_in_16 (mem_ap wsL_law_in_17 (mem_ap wsL_law_in_18 (mem_ap wsL_law_in_19 (mem_ap wsL_law_in_20 (mem_ap wsL_law_in_21 (mem_ap wsL_law_in_22 (mem_ap wsL_law_in_23 (mem_ap wsL_law_in_24 (mem_ap wsL_law_in_25 (mem_ap wsL_law_in_26 (mem_ap wsL_law_in_27 (mem_ap wsL_law_in_28 (mem_ap wsL_law_in_29 (mem_ap wsL_law_in_30 (mem_ap wsL_law_in_31 (mem_ap wsL_law_in_32 (mem_ap wsL_law_in_33 (mem_ap wsL_law_in_34 (mem_ap wsL_law_in_35 (mem_ap wsL_law_in_36 (mem_ap wsL_law_in_37 (mem_ap wsL_law_in_38 (mem_ap wsL_law_in_39 (mem_ap wsL_law_in_40 (mem_ap wsL_law_in_41 (mem_ap wsL_law_in_42 (mem_ap wsL_law_in_43 (mem_ap wsL_law_in_44 wsL_law_in_45)))))))))))))))))))))))))))))))))))))))))))) wsL_law_in_wsX40) wsL_law_in_wsX50) wsL_law_in_wsX00) wsL_law_in_wsX30) wsL_law_in_wsX20) wsL_law_in_wsX10) (fun _ h => absurd h List.not_mem_nil))
theorem inlX0 : ∀ w ∈ wsX00, w ∈ wsL_law := fun _ h => List.mem_append_left _ (List.mem_append_left _ (List.mem_append_left _ (List.mem_append_left _ (List.mem_append_right _ h))))
theorem inX0 : ∀ w ∈ wsX00, w ∈ lw_tbl := fun w h => wsL_law_in w (inlX0 w h)
theorem inlX1 : ∀ w ∈ wsX10, w ∈ wsL_law := fun _ h => List.mem_append_left _ (List.mem_append_right _ h)
theorem inX1 : ∀ w ∈ wsX10, w ∈ lw_tbl := fun w h => wsL_law_in w (inlX1 w h)
theorem inlX2 : ∀ w ∈ wsX20, w ∈ wsL_law := fun _ h => List.mem_append_left _ (List.mem_append_left _ (List.mem_append_right _ h))
theorem inX2 : ∀ w ∈ wsX20, w ∈ lw_tbl := fun w h => wsL_law_in w (inlX2 w h)
theorem inlX3 : ∀ w ∈ wsX30, w ∈ wsL_law := fun _ h => List.mem_append_left _ (List.mem_append_left _ (List.mem_append_left _ (List.mem_append_right _ h)))
theorem inX3 : ∀ w ∈ wsX30, w ∈ lw_tbl := fun w h => wsL_law_in w (inlX3 w h)
theorem inlX4 : ∀ w ∈ wsX40, w ∈ wsL_law := fun _ h => List.mem_append_left _ (List.mem_append_left _ (List.mem_append_left _ (List.mem_append_left _ (List.mem_append_left _ (List.mem_append_left _ (List.mem_append_right _ h))))))
theorem inX4 : ∀ w ∈ wsX40, w ∈ lw_tbl := fun w h => wsL_law_in w (inlX4 w h)
theorem inlX5 : ∀ w ∈ wsX50, w ∈ wsL_law := fun _ h => List.mem_append_left _ (List.mem_append_left _ (List.mem_append_left _ (List.mem_append_left _ (List.mem_append_left _ (List.mem_append_right _ h)))))
theorem inX5 : ∀ w ∈ wsX50, w ∈ lw_tbl := fun w h => wsL_law_in w (inlX5 w h)
theorem inJ6 : ∀ w ∈ wsJ60, w ∈ lw_tbl := by decide +kernel
theorem inJ9 : ∀ w ∈ wsJ90, w ∈ lw_tbl := by decide +kernel
theorem inJ0 : ∀ w ∈ wsJ00, w ∈ lw_tbl := by decide +kernel
theorem inJ1 : ∀ w ∈ wsJ10, w ∈ lw_tbl := by decide +kernel
theorem inJ2 : ∀ w ∈ wsJ20, w ∈ lw_tbl := by decide +kernel
theorem inJ10 : ∀ w ∈ wsJ100, w ∈ lw_tbl := by decide +kernel
theorem inJ3 : ∀ w ∈ wsJ30, w ∈ lw_tbl := by decide +kernel
abbrev vwCl : List vw_C := [(RX0, TX0, 11), (RX1, TX1, 2), (RX2, TX2, 6), (RX3, TX3, 5), (RX4, TX4, 11), (RX5, TX5, 29)]
