set_option maxRecDepth 20000 in
theorem ggX5_init_X5_begins : GoodIn wsX5_init wsX5_begins := goodIn_r _ [26, 5, 27, 28, 29, 30, 31, 32, 33, 34, 35, 36, 37, 38, 39, 40, 41, 42, 43, 44, 45, 46, 47, 48, 49, 50, 51, 52, 53, 54, 55] (by decide +kernel) (by decide +kernel)
set_option maxRecDepth 20000 in
theorem gX5_init_X5_begins : GoodIn wsX5_init (wsV RX5 59 RX5 yX5_begins wsX5_begins) := goodIn_app (goodIn_of _ (by decide +kernel)) ggX5_init_X5_begins
theorem dX5_init_0 : decode cX5_init 0 = .ok (.aload_n 0, 1) := by decide +kernel
theorem dX5_init_1 : decode cX5_init 1 = .ok (.invokespecial 1, 3) := by decide +kernel
theorem dX5_init_4 : decode cX5_init 4 = .ok (.aload_n 0, 1) := by decide +kernel
theorem dX5_init_5 : decode cX5_init 5 = .ok (.bipush 47, 2) := by decide +kernel
theorem dX5_init_7 : decode cX5_init 7 = .ok (.newarray .int, 2) := by decide +kernel
theorem dX5_init_9 : decode cX5_init 9 = .ok (.putfield 7, 3) := by decide +kernel
theorem dX5_init_12 : decode cX5_init 12 = .ok (.aload_n 0, 1) := by decide +kernel
theorem dX5_init_13 : decode cX5_init 13 = .ok (.bipush 47, 2) := by decide +kernel
theorem dX5_init_15 : decode cX5_init 15 = .ok (.newarray .int, 2) := by decide +kernel
theorem dX5_init_17 : decode cX5_init 17 = .ok (.putfield 13, 3) := by decide +kernel
theorem dX5_init_20 : decode cX5_init 20 = .ok (.aload_n 0, 1) := by decide +kernel
theorem dX5_init_21 : decode cX5_init 21 = .ok (.bipush 47, 2) := by decide +kernel
theorem dX5_init_23 : decode cX5_init 23 = .ok (.newarray .int, 2) := by decide +kernel
theorem dX5_init_25 : decode cX5_init 25 = .ok (.putfield 16, 3) := by decide +kernel
theorem dX5_init_28 : decode cX5_init 28 = .ok (.aload_n 0, 1) := by decide +kernel
theorem dX5_init_29 : decode cX5_init 29 = .ok (.bipush 47, 2) := by decide +kernel
theorem dX5_init_31 : decode cX5_init 31 = .ok (.newarray .int, 2) := by decide +kernel
theorem dX5_init_33 : decode cX5_init 33 = .ok (.putfield 19, 3) := by decide +kernel
theorem dX5_init_36 : decode cX5_init 36 = .ok (.aload_n 0, 1) := by decide +kernel
theorem dX5_init_37 : decode cX5_init 37 = .ok (.bipush 47, 2) := by decide +kernel
theorem dX5_init_39 : decode cX5_init 39 = .ok (.newarray .int, 2) := by decide +kernel
theorem dX5_init_41 : decode cX5_init 41 = .ok (.putfield 22, 3) := by decide +kernel
theorem dX5_init_44 : decode cX5_init 44 = .ok (.aload_n 0, 1) := by decide +kernel
theorem dX5_init_45 : decode cX5_init 45 = .ok (.sipush 200, 3) := by decide +kernel
theorem dX5_init_48 : decode cX5_init 48 = .ok (.newarray .int, 2) := by decide +kernel
theorem dX5_init_50 : decode cX5_init 50 = .ok (.putfield 25, 3) := by decide +kernel
theorem dX5_init_53 : decode cX5_init 53 = .ok (.aload_n 0, 1) := by decide +kernel
theorem dX5_init_54 : decode cX5_init 54 = .ok (.bipush 8, 2) := by decide +kernel
theorem dX5_init_56 : decode cX5_init 56 = .ok (.newarray .int, 2) := by decide +kernel
theorem dX5_init_58 : decode cX5_init 58 = .ok (.putfield 28, 3) := by decide +kernel
theorem dX5_init_61 : decode cX5_init 61 = .ok (.aload_n 0, 1) := by decide +kernel
theorem dX5_init_62 : decode cX5_init 62 = .ok (.bipush 8, 2) := by decide +kernel
theorem dX5_init_64 : decode cX5_init 64 = .ok (.newarray .boolean, 2) := by decide +kernel
theorem dX5_init_66 : decode cX5_init 66 = .ok (.putfield 31, 3) := by decide +kernel
theorem dX5_init_69 : decode cX5_init 69 = .ok (.aload_n 0, 1) := by decide +kernel
theorem dX5_init_70 : decode cX5_init 70 = .ok (.bipush 30, 2) := by decide +kernel
theorem dX5_init_72 : decode cX5_init 72 = .ok (.newarray .int, 2) := by decide +kernel
theorem dX5_init_74 : decode cX5_init 74 = .ok (.putfield 35, 3) := by decide +kernel
theorem dX5_init_77 : decode cX5_init 77 = .ok (.aload_n 0, 1) := by decide +kernel
theorem dX5_init_78 : decode cX5_init 78 = .ok (.iconst 4, 1) := by decide +kernel
theorem dX5_init_79 : decode cX5_init 79 = .ok (.newarray .int, 2) := by decide +kernel
theorem dX5_init_81 : decode cX5_init 81 = .ok (.dup, 1) := by decide +kernel
theorem dX5_init_82 : decode cX5_init 82 = .ok (.iconst 0, 1) := by decide +kernel
theorem dX5_init_83 : decode cX5_init 83 = .ok (.iconst (-1), 1) := by decide +kernel
theorem dX5_init_84 : decode cX5_init 84 = .ok (.iastore, 1) := by decide +kernel
theorem dX5_init_85 : decode cX5_init 85 = .ok (.dup, 1) := by decide +kernel
theorem dX5_init_86 : decode cX5_init 86 = .ok (.iconst 1, 1) := by decide +kernel
theorem dX5_init_87 : decode cX5_init 87 = .ok (.iconst (-1), 1) := by decide +kernel
theorem dX5_init_88 : decode cX5_init 88 = .ok (.iastore, 1) := by decide +kernel
theorem dX5_init_89 : decode cX5_init 89 = .ok (.dup, 1) := by decide +kernel
theorem dX5_init_90 : decode cX5_init 90 = .ok (.iconst 2, 1) := by decide +kernel
theorem dX5_init_91 : decode cX5_init 91 = .ok (.iconst (-1), 1) := by decide +kernel
theorem dX5_init_92 : decode cX5_init 92 = .ok (.iastore, 1) := by decide +kernel
theorem dX5_init_93 : decode cX5_init 93 = .ok (.dup, 1) := by decide +kernel
theorem dX5_init_94 : decode cX5_init 94 = .ok (.iconst 3, 1) := by decide +kernel
theorem dX5_init_95 : decode cX5_init 95 = .ok (.iconst (-1), 1) := by decide +kernel
theorem dX5_init_96 : decode cX5_init 96 = .ok (.iastore, 1) := by decide +kernel
theorem dX5_init_97 : decode cX5_init 97 = .ok (.putfield 38, 3) := by decide +kernel
theorem dX5_init_100 : decode cX5_init 100 = .ok (.aload_n 0, 1) := by decide +kernel
theorem dX5_init_101 : decode cX5_init 101 = .ok (.iconst 4, 1) := by decide +kernel
theorem dX5_init_102 : decode cX5_init 102 = .ok (.newarray .int, 2) := by decide +kernel
theorem dX5_init_104 : decode cX5_init 104 = .ok (.putfield 41, 3) := by decide +kernel
theorem dX5_init_107 : decode cX5_init 107 = .ok (.aload_n 0, 1) := by decide +kernel
theorem dX5_init_108 : decode cX5_init 108 = .ok (.sipush 160, 3) := by decide +kernel
theorem dX5_init_111 : decode cX5_init 111 = .ok (.newarray .int, 2) := by decide +kernel
theorem dX5_init_113 : decode cX5_init 113 = .ok (.putfield 44, 3) := by decide +kernel
theorem dX5_init_116 : decode cX5_init 116 = .ok (.aload_n 0, 1) := by decide +kernel
theorem dX5_init_117 : decode cX5_init 117 = .ok (.iconst 4, 1) := by decide +kernel
theorem dX5_init_118 : decode cX5_init 118 = .ok (.newarray .int, 2) := by decide +kernel
theorem dX5_init_120 : decode cX5_init 120 = .ok (.putfield 47, 3) := by decide +kernel
theorem dX5_init_123 : decode cX5_init 123 = .ok (.aload_n 0, 1) := by decide +kernel
theorem dX5_init_124 : decode cX5_init 124 = .ok (.iconst 4, 1) := by decide +kernel
theorem dX5_init_125 : decode cX5_init 125 = .ok (.newarray .int, 2) := by decide +kernel
theorem dX5_init_127 : decode cX5_init 127 = .ok (.putfield 50, 3) := by decide +kernel
theorem dX5_init_130 : decode cX5_init 130 = .ok (.aload_n 0, 1) := by decide +kernel
theorem dX5_init_131 : decode cX5_init 131 = .ok (.iconst 4, 1) := by decide +kernel
theorem dX5_init_132 : decode cX5_init 132 = .ok (.newarray .int, 2) := by decide +kernel
theorem dX5_init_134 : decode cX5_init 134 = .ok (.putfield 53, 3) := by decide +kernel
theorem dX5_init_137 : decode cX5_init 137 = .ok (.aload_n 0, 1) := by decide +kernel
theorem dX5_init_138 : decode cX5_init 138 = .ok (.bipush 30, 2) := by decide +kernel
theorem dX5_init_140 : decode cX5_init 140 = .ok (.newarray .int, 2) := by decide +kernel
theorem dX5_init_142 : decode cX5_init 142 = .ok (.putfield 56, 3) := by decide +kernel
theorem dX5_init_145 : decode cX5_init 145 = .ok (.aload_n 0, 1) := by decide +kernel
theorem dX5_init_146 : decode cX5_init 146 = .ok (.invokevirtual 59, 3) := by decide +kernel
theorem dX5_init_149 : decode cX5_init 149 = .ok (.aload_n 0, 1) := by decide +kernel
theorem dX5_init_150 : decode cX5_init 150 = .ok (.getfield 7, 3) := by decide +kernel
theorem dX5_init_153 : decode cX5_init 153 = .ok (.iconst 2, 1) := by decide +kernel
theorem dX5_init_154 : decode cX5_init 154 = .ok (.iconst 1, 1) := by decide +kernel
theorem dX5_init_155 : decode cX5_init 155 = .ok (.iastore, 1) := by decide +kernel
theorem dX5_init_156 : decode cX5_init 156 = .ok (.return_, 1) := by decide +kernel
theorem dX5_begins_0 : decode cX5_begins 0 = .ok (.aload_n 0, 1) := by decide +kernel
theorem dX5_begins_1 : decode cX5_begins 1 = .ok (.getfield 7, 3) := by decide +kernel
theorem dX5_begins_4 : decode cX5_begins 4 = .ok (.iconst 2, 1) := by decide +kernel
theorem dX5_begins_5 : decode cX5_begins 5 = .ok (.iaload, 1) := by decide +kernel
theorem dX5_begins_6 : decode cX5_begins 6 = .ok (.istore_n 1, 1) := by decide +kernel
theorem dX5_begins_7 : decode cX5_begins 7 = .ok (.iconst 0, 1) := by decide +kernel
theorem dX5_begins_8 : decode cX5_begins 8 = .ok (.istore_n 2, 1) := by decide +kernel
theorem dX5_begins_9 : decode cX5_begins 9 = .ok (.iload_n 2, 1) := by decide +kernel
theorem dX5_begins_10 : decode cX5_begins 10 = .ok (.bipush 47, 2) := by decide +kernel
theorem dX5_begins_12 : decode cX5_begins 12 = .ok (.if_icmp .ge 16, 3) := by decide +kernel
theorem dX5_begins_15 : decode cX5_begins 15 = .ok (.aload_n 0, 1) := by decide +kernel
theorem dX5_begins_16 : decode cX5_begins 16 = .ok (.getfield 7, 3) := by decide +kernel
theorem dX5_begins_19 : decode cX5_begins 19 = .ok (.iload_n 2, 1) := by decide +kernel
theorem dX5_begins_20 : decode cX5_begins 20 = .ok (.iconst 0, 1) := by decide +kernel
theorem dX5_begins_21 : decode cX5_begins 21 = .ok (.iastore, 1) := by decide +kernel
theorem dX5_begins_22 : decode cX5_begins 22 = .ok (.iinc 2 1, 3) := by decide +kernel
theorem dX5_begins_25 : decode cX5_begins 25 = .ok (.goto (-16), 3) := by decide +kernel
theorem dX5_begins_28 : decode cX5_begins 28 = .ok (.aload_n 0, 1) := by decide +kernel
theorem dX5_begins_29 : decode cX5_begins 29 = .ok (.getfield 7, 3) := by decide +kernel
theorem dX5_begins_32 : decode cX5_begins 32 = .ok (.iconst 2, 1) := by decide +kernel
theorem dX5_begins_33 : decode cX5_begins 33 = .ok (.iload_n 1, 1) := by decide +kernel
theorem dX5_begins_34 : decode cX5_begins 34 = .ok (.iastore, 1) := by decide +kernel
theorem dX5_begins_35 : decode cX5_begins 35 = .ok (.aload_n 0, 1) := by decide +kernel
theorem dX5_begins_36 : decode cX5_begins 36 = .ok (.getfield 7, 3) := by decide +kernel
theorem dX5_begins_39 : decode cX5_begins 39 = .ok (.iconst 3, 1) := by decide +kernel
theorem dX5_begins_40 : decode cX5_begins 40 = .ok (.iconst 2, 1) := by decide +kernel
theorem dX5_begins_41 : decode cX5_begins 41 = .ok (.iastore, 1) := by decide +kernel
theorem dX5_begins_42 : decode cX5_begins 42 = .ok (.aload_n 0, 1) := by decide +kernel
theorem dX5_begins_43 : decode cX5_begins 43 = .ok (.getfield 7, 3) := by decide +kernel
theorem dX5_begins_46 : decode cX5_begins 46 = .ok (.iconst 4, 1) := by decide +kernel
theorem dX5_begins_47 : decode cX5_begins 47 = .ok (.iconst 3, 1) := by decide +kernel
theorem dX5_begins_48 : decode cX5_begins 48 = .ok (.iastore, 1) := by decide +kernel
theorem dX5_begins_49 : decode cX5_begins 49 = .ok (.aload_n 0, 1) := by decide +kernel
theorem dX5_begins_50 : decode cX5_begins 50 = .ok (.getfield 7, 3) := by decide +kernel
theorem dX5_begins_53 : decode cX5_begins 53 = .ok (.iconst 5, 1) := by decide +kernel
theorem dX5_begins_54 : decode cX5_begins 54 = .ok (.iconst 1, 1) := by decide +kernel
theorem dX5_begins_55 : decode cX5_begins 55 = .ok (.iastore, 1) := by decide +kernel
theorem dX5_begins_56 : decode cX5_begins 56 = .ok (.aload_n 0, 1) := by decide +kernel
theorem dX5_begins_57 : decode cX5_begins 57 = .ok (.getfield 7, 3) := by decide +kernel
theorem dX5_begins_60 : decode cX5_begins 60 = .ok (.bipush 6, 2) := by decide +kernel
theorem dX5_begins_62 : decode cX5_begins 62 = .ok (.bipush 20, 2) := by decide +kernel
theorem dX5_begins_64 : decode cX5_begins 64 = .ok (.iastore, 1) := by decide +kernel
theorem dX5_begins_65 : decode cX5_begins 65 = .ok (.return_, 1) := by decide +kernel
theorem dX5_isIn_0 : decode cX5_isIn 0 = .ok (.lload_n 0, 1) := by decide +kernel
theorem dX5_isIn_1 : decode cX5_isIn 1 = .ok (.lload_n 2, 1) := by decide +kernel
theorem dX5_isIn_2 : decode cX5_isIn 2 = .ok (.lcmp, 1) := by decide +kernel
theorem dX5_isIn_3 : decode cX5_isIn 3 = .ok (.ifCond .lt 14, 3) := by decide +kernel
theorem dX5_isIn_6 : decode cX5_isIn 6 = .ok (.lload_n 0, 1) := by decide +kernel
theorem dX5_isIn_7 : decode cX5_isIn 7 = .ok (.lload 4, 2) := by decide +kernel
theorem dX5_isIn_9 : decode cX5_isIn 9 = .ok (.lcmp, 1) := by decide +kernel
theorem dX5_isIn_10 : decode cX5_isIn 10 = .ok (.ifCond .gt 7, 3) := by decide +kernel
theorem dX5_isIn_13 : decode cX5_isIn 13 = .ok (.iconst 1, 1) := by decide +kernel
theorem dX5_isIn_14 : decode cX5_isIn 14 = .ok (.goto 4, 3) := by decide +kernel
theorem dX5_isIn_17 : decode cX5_isIn 17 = .ok (.iconst 0, 1) := by decide +kernel
theorem dX5_isIn_18 : decode cX5_isIn 18 = .ok (.ireturn, 1) := by decide +kernel
theorem dX5_isRoom_0 : decode cX5_isRoom 0 = .ok (.iload_n 0, 1) := by decide +kernel
theorem dX5_isRoom_1 : decode cX5_isRoom 1 = .ok (.ifCond .lt 13, 3) := by decide +kernel
theorem dX5_isRoom_4 : decode cX5_isRoom 4 = .ok (.iload_n 0, 1) := by decide +kernel
theorem dX5_isRoom_5 : decode cX5_isRoom 5 = .ok (.bipush 8, 2) := by decide +kernel
theorem dX5_isRoom_7 : decode cX5_isRoom 7 = .ok (.if_icmp .ge 7, 3) := by decide +kernel
theorem dX5_isRoom_10 : decode cX5_isRoom 10 = .ok (.iconst 1, 1) := by decide +kernel
theorem dX5_isRoom_11 : decode cX5_isRoom 11 = .ok (.goto 4, 3) := by decide +kernel
theorem dX5_isRoom_14 : decode cX5_isRoom 14 = .ok (.iconst 0, 1) := by decide +kernel
theorem dX5_isRoom_15 : decode cX5_isRoom 15 = .ok (.ireturn, 1) := by decide +kernel
theorem dX5_isOne_0 : decode cX5_isOne 0 = .ok (.iload_n 1, 1) := by decide +kernel
theorem dX5_isOne_1 : decode cX5_isOne 1 = .ok (.ifCond .lt 17, 3) := by decide +kernel
theorem dX5_isOne_4 : decode cX5_isOne 4 = .ok (.iload_n 1, 1) := by decide +kernel
theorem dX5_isOne_5 : decode cX5_isOne 5 = .ok (.aload_n 0, 1) := by decide +kernel
theorem dX5_isOne_6 : decode cX5_isOne 6 = .ok (.getfield 7, 3) := by decide +kernel
theorem dX5_isOne_9 : decode cX5_isOne 9 = .ok (.iconst 0, 1) := by decide +kernel
theorem dX5_isOne_10 : decode cX5_isOne 10 = .ok (.iaload, 1) := by decide +kernel
theorem dX5_isOne_11 : decode cX5_isOne 11 = .ok (.if_icmp .ge 7, 3) := by decide +kernel
theorem dX5_isOne_14 : decode cX5_isOne 14 = .ok (.iconst 1, 1) := by decide +kernel
theorem dX5_isOne_15 : decode cX5_isOne 15 = .ok (.goto 4, 3) := by decide +kernel
theorem dX5_isOne_18 : decode cX5_isOne 18 = .ok (.iconst 0, 1) := by decide +kernel
theorem dX5_isOne_19 : decode cX5_isOne 19 = .ok (.ireturn, 1) := by decide +kernel
theorem dX5_its_0 : decode cX5_its 0 = .ok (.aload_n 0, 1) := by decide +kernel
theorem dX5_its_1 : decode cX5_its 1 = .ok (.getfield 7, 3) := by decide +kernel
theorem dX5_its_4 : decode cX5_its 4 = .ok (.bipush 7, 2) := by decide +kernel
theorem dX5_its_6 : decode cX5_its 6 = .ok (.iconst 5, 1) := by decide +kernel
theorem dX5_its_7 : decode cX5_its 7 = .ok (.iload_n 1, 1) := by decide +kernel
theorem dX5_its_8 : decode cX5_its 8 = .ok (.imul, 1) := by decide +kernel
theorem dX5_its_9 : decode cX5_its 9 = .ok (.iadd, 1) := by decide +kernel
theorem dX5_its_10 : decode cX5_its 10 = .ok (.iload_n 2, 1) := by decide +kernel
theorem dX5_its_11 : decode cX5_its 11 = .ok (.iadd, 1) := by decide +kernel
theorem dX5_its_12 : decode cX5_its 12 = .ok (.iaload, 1) := by decide +kernel
theorem dX5_its_13 : decode cX5_its 13 = .ok (.ireturn, 1) := by decide +kernel
theorem dX5_becomes_0 : decode cX5_becomes 0 = .ok (.aload_n 0, 1) := by decide +kernel
theorem dX5_becomes_1 : decode cX5_becomes 1 = .ok (.getfield 7, 3) := by decide +kernel
theorem dX5_becomes_4 : decode cX5_becomes 4 = .ok (.iload_n 1, 1) := by decide +kernel
theorem dX5_becomes_5 : decode cX5_becomes 5 = .ok (.iaload, 1) := by decide +kernel
theorem dX5_becomes_6 : decode cX5_becomes 6 = .ok (.istore_n 3, 1) := by decide +kernel
theorem dX5_becomes_7 : decode cX5_becomes 7 = .ok (.aload_n 0, 1) := by decide +kernel
theorem dX5_becomes_8 : decode cX5_becomes 8 = .ok (.getfield 7, 3) := by decide +kernel
theorem dX5_becomes_11 : decode cX5_becomes 11 = .ok (.iload_n 1, 1) := by decide +kernel
theorem dX5_becomes_12 : decode cX5_becomes 12 = .ok (.iload_n 2, 1) := by decide +kernel
theorem dX5_becomes_13 : decode cX5_becomes 13 = .ok (.iastore, 1) := by decide +kernel
theorem dX5_becomes_14 : decode cX5_becomes 14 = .ok (.iload_n 3, 1) := by decide +kernel
theorem dX5_becomes_15 : decode cX5_becomes 15 = .ok (.ireturn, 1) := by decide +kernel
theorem dX5_copyRow_0 : decode cX5_copyRow 0 = .ok (.iconst 0, 1) := by decide +kernel
theorem dX5_copyRow_1 : decode cX5_copyRow 1 = .ok (.istore_n 2, 1) := by decide +kernel
theorem dX5_copyRow_2 : decode cX5_copyRow 2 = .ok (.iload_n 2, 1) := by decide +kernel
theorem dX5_copyRow_3 : decode cX5_copyRow 3 = .ok (.bipush 47, 2) := by decide +kernel
theorem dX5_copyRow_5 : decode cX5_copyRow 5 = .ok (.if_icmp .ge 15, 3) := by decide +kernel
theorem dX5_copyRow_8 : decode cX5_copyRow 8 = .ok (.aload_n 1, 1) := by decide +kernel
theorem dX5_copyRow_9 : decode cX5_copyRow 9 = .ok (.iload_n 2, 1) := by decide +kernel
theorem dX5_copyRow_10 : decode cX5_copyRow 10 = .ok (.aload_n 0, 1) := by decide +kernel
theorem dX5_copyRow_11 : decode cX5_copyRow 11 = .ok (.iload_n 2, 1) := by decide +kernel
theorem dX5_copyRow_12 : decode cX5_copyRow 12 = .ok (.iaload, 1) := by decide +kernel
theorem dX5_copyRow_13 : decode cX5_copyRow 13 = .ok (.iastore, 1) := by decide +kernel
theorem dX5_copyRow_14 : decode cX5_copyRow 14 = .ok (.iinc 2 1, 3) := by decide +kernel
theorem dX5_copyRow_17 : decode cX5_copyRow 17 = .ok (.goto (-15), 3) := by decide +kernel
theorem dX5_copyRow_20 : decode cX5_copyRow 20 = .ok (.return_, 1) := by decide +kernel
theorem dX5_greatest_0 : decode cX5_greatest 0 = .ok (.iload_n 0, 1) := by decide +kernel
theorem dX5_greatest_1 : decode cX5_greatest 1 = .ok (.iload_n 1, 1) := by decide +kernel
theorem dX5_greatest_2 : decode cX5_greatest 2 = .ok (.if_icmp .le 7, 3) := by decide +kernel
theorem dX5_greatest_5 : decode cX5_greatest 5 = .ok (.iload_n 0, 1) := by decide +kernel
theorem dX5_greatest_6 : decode cX5_greatest 6 = .ok (.goto 4, 3) := by decide +kernel
theorem dX5_greatest_9 : decode cX5_greatest 9 = .ok (.iload_n 1, 1) := by decide +kernel
theorem dX5_greatest_10 : decode cX5_greatest 10 = .ok (.ireturn, 1) := by decide +kernel
theorem dX5_within_0 : decode cX5_within 0 = .ok (.iload_n 0, 1) := by decide +kernel
theorem dX5_within_1 : decode cX5_within 1 = .ok (.ifCond .ge 7, 3) := by decide +kernel
theorem dX5_within_4 : decode cX5_within 4 = .ok (.iconst 0, 1) := by decide +kernel
theorem dX5_within_5 : decode cX5_within 5 = .ok (.goto 15, 3) := by decide +kernel
theorem dX5_within_8 : decode cX5_within 8 = .ok (.iload_n 0, 1) := by decide +kernel
theorem dX5_within_9 : decode cX5_within 9 = .ok (.bipush 99, 2) := by decide +kernel
theorem dX5_within_11 : decode cX5_within 11 = .ok (.if_icmp .le 8, 3) := by decide +kernel
theorem dX5_within_14 : decode cX5_within 14 = .ok (.bipush 99, 2) := by decide +kernel
theorem dX5_within_16 : decode cX5_within 16 = .ok (.goto 4, 3) := by decide +kernel
theorem dX5_within_19 : decode cX5_within 19 = .ok (.iload_n 0, 1) := by decide +kernel
theorem dX5_within_20 : decode cX5_within 20 = .ok (.ireturn, 1) := by decide +kernel
theorem dX5_size_0 : decode cX5_size 0 = .ok (.iconst 0, 1) := by decide +kernel
theorem dX5_size_1 : decode cX5_size 1 = .ok (.istore_n 1, 1) := by decide +kernel
theorem dX5_size_2 : decode cX5_size 2 = .ok (.iload_n 0, 1) := by decide +kernel
theorem dX5_size_3 : decode cX5_size 3 = .ok (.istore_n 2, 1) := by decide +kernel
theorem dX5_size_4 : decode cX5_size 4 = .ok (.iload_n 2, 1) := by decide +kernel
theorem dX5_size_5 : decode cX5_size 5 = .ok (.ifCond .eq 15, 3) := by decide +kernel
theorem dX5_size_8 : decode cX5_size 8 = .ok (.iinc 1 1, 3) := by decide +kernel
theorem dX5_size_11 : decode cX5_size 11 = .ok (.iload_n 2, 1) := by decide +kernel
theorem dX5_size_12 : decode cX5_size 12 = .ok (.iload_n 2, 1) := by decide +kernel
theorem dX5_size_13 : decode cX5_size 13 = .ok (.iconst 1, 1) := by decide +kernel
theorem dX5_size_14 : decode cX5_size 14 = .ok (.isub, 1) := by decide +kernel
theorem dX5_size_15 : decode cX5_size 15 = .ok (.iand, 1) := by decide +kernel
theorem dX5_size_16 : decode cX5_size 16 = .ok (.istore_n 2, 1) := by decide +kernel
theorem dX5_size_17 : decode cX5_size 17 = .ok (.goto (-13), 3) := by decide +kernel
theorem dX5_size_20 : decode cX5_size 20 = .ok (.iload_n 1, 1) := by decide +kernel
theorem dX5_size_21 : decode cX5_size 21 = .ok (.ireturn, 1) := by decide +kernel
theorem dX5_isUnder_0 : decode cX5_isUnder 0 = .ok (.iload_n 1, 1) := by decide +kernel
theorem dX5_isUnder_1 : decode cX5_isUnder 1 = .ok (.ifCond .eq 28, 3) := by decide +kernel
theorem dX5_isUnder_4 : decode cX5_isUnder 4 = .ok (.iload_n 0, 1) := by decide +kernel
theorem dX5_isUnder_5 : decode cX5_isUnder 5 = .ok (.iload_n 1, 1) := by decide +kernel
theorem dX5_isUnder_6 : decode cX5_isUnder 6 = .ok (.if_icmp .eq 23, 3) := by decide +kernel
theorem dX5_isUnder_9 : decode cX5_isUnder 9 = .ok (.iload_n 1, 1) := by decide +kernel
theorem dX5_isUnder_10 : decode cX5_isUnder 10 = .ok (.iconst 1, 1) := by decide +kernel
theorem dX5_isUnder_11 : decode cX5_isUnder 11 = .ok (.if_icmp .ne 8, 3) := by decide +kernel
theorem dX5_isUnder_14 : decode cX5_isUnder 14 = .ok (.iload_n 0, 1) := by decide +kernel
theorem dX5_isUnder_15 : decode cX5_isUnder 15 = .ok (.iconst 3, 1) := by decide +kernel
theorem dX5_isUnder_16 : decode cX5_isUnder 16 = .ok (.if_icmp .eq 13, 3) := by decide +kernel
theorem dX5_isUnder_19 : decode cX5_isUnder 19 = .ok (.iload_n 1, 1) := by decide +kernel
theorem dX5_isUnder_20 : decode cX5_isUnder 20 = .ok (.iconst 2, 1) := by decide +kernel
theorem dX5_isUnder_21 : decode cX5_isUnder 21 = .ok (.if_icmp .ne 12, 3) := by decide +kernel
theorem dX5_isUnder_24 : decode cX5_isUnder 24 = .ok (.iload_n 0, 1) := by decide +kernel
theorem dX5_isUnder_25 : decode cX5_isUnder 25 = .ok (.iconst 4, 1) := by decide +kernel
theorem dX5_isUnder_26 : decode cX5_isUnder 26 = .ok (.if_icmp .ne 7, 3) := by decide +kernel
theorem dX5_isUnder_29 : decode cX5_isUnder 29 = .ok (.iconst 1, 1) := by decide +kernel
theorem dX5_isUnder_30 : decode cX5_isUnder 30 = .ok (.goto 4, 3) := by decide +kernel
theorem dX5_isUnder_33 : decode cX5_isUnder 33 = .ok (.iconst 0, 1) := by decide +kernel
theorem dX5_isUnder_34 : decode cX5_isUnder 34 = .ok (.ireturn, 1) := by decide +kernel
set_option maxRecDepth 20000 in
theorem ggX5_feed_X5_isIn : GoodIn wsX5_feed wsX5_isIn := goodIn_r _ [8] (by decide +kernel) (by decide +kernel)
set_option maxRecDepth 20000 in
theorem gX5_feed_X5_isIn : GoodIn wsX5_feed (va_wsS RX5 64 yX5_isIn wsX5_isIn) := goodIn_app (goodIn_of _ (by decide +kernel)) ggX5_feed_X5_isIn
theorem dX5_feed_0 : decode cX5_feed 0 = .ok (.iload_n 3, 1) := by decide +kernel
theorem dX5_feed_1 : decode cX5_feed 1 = .ok (.i2l, 1) := by decide +kernel
theorem dX5_feed_2 : decode cX5_feed 2 = .ok (.lconst 1, 1) := by decide +kernel
theorem dX5_feed_3 : decode cX5_feed 3 = .ok (.ldc2_w 62, 3) := by decide +kernel
theorem dX5_feed_6 : decode cX5_feed 6 = .ok (.invokestatic 64, 3) := by decide +kernel
theorem dX5_feed_9 : decode cX5_feed 9 = .ok (.ifCond .ne 5, 3) := by decide +kernel
theorem dX5_feed_12 : decode cX5_feed 12 = .ok (.iconst (-1), 1) := by decide +kernel
theorem dX5_feed_13 : decode cX5_feed 13 = .ok (.ireturn, 1) := by decide +kernel
theorem dX5_feed_14 : decode cX5_feed 14 = .ok (.aload_n 0, 1) := by decide +kernel
theorem dX5_feed_15 : decode cX5_feed 15 = .ok (.getfield 68, 3) := by decide +kernel
theorem dX5_feed_18 : decode cX5_feed 18 = .ok (.iload_n 3, 1) := by decide +kernel
theorem dX5_feed_19 : decode cX5_feed 19 = .ok (.iadd, 1) := by decide +kernel
theorem dX5_feed_20 : decode cX5_feed 20 = .ok (.sipush 200, 3) := by decide +kernel
theorem dX5_feed_23 : decode cX5_feed 23 = .ok (.if_icmp .le 6, 3) := by decide +kernel
theorem dX5_feed_26 : decode cX5_feed 26 = .ok (.bipush (-2), 2) := by decide +kernel
theorem dX5_feed_28 : decode cX5_feed 28 = .ok (.ireturn, 1) := by decide +kernel
theorem dX5_feed_29 : decode cX5_feed 29 = .ok (.iconst 0, 1) := by decide +kernel
theorem dX5_feed_30 : decode cX5_feed 30 = .ok (.istore 4, 2) := by decide +kernel
theorem dX5_feed_32 : decode cX5_feed 32 = .ok (.iload 4, 2) := by decide +kernel
theorem dX5_feed_34 : decode cX5_feed 34 = .ok (.iload_n 3, 1) := by decide +kernel
theorem dX5_feed_35 : decode cX5_feed 35 = .ok (.if_icmp .ge 40, 3) := by decide +kernel
theorem dX5_feed_38 : decode cX5_feed 38 = .ok (.aload_n 0, 1) := by decide +kernel
theorem dX5_feed_39 : decode cX5_feed 39 = .ok (.getfield 25, 3) := by decide +kernel
theorem dX5_feed_42 : decode cX5_feed 42 = .ok (.aload_n 0, 1) := by decide +kernel
theorem dX5_feed_43 : decode cX5_feed 43 = .ok (.getfield 68, 3) := by decide +kernel
theorem dX5_feed_46 : decode cX5_feed 46 = .ok (.lload_n 1, 1) := by decide +kernel
theorem dX5_feed_47 : decode cX5_feed 47 = .ok (.bipush 8, 2) := by decide +kernel
theorem dX5_feed_49 : decode cX5_feed 49 = .ok (.iload 4, 2) := by decide +kernel
theorem dX5_feed_51 : decode cX5_feed 51 = .ok (.imul, 1) := by decide +kernel
theorem dX5_feed_52 : decode cX5_feed 52 = .ok (.lshr, 1) := by decide +kernel
theorem dX5_feed_53 : decode cX5_feed 53 = .ok (.ldc2_w 72, 3) := by decide +kernel
theorem dX5_feed_56 : decode cX5_feed 56 = .ok (.land, 1) := by decide +kernel
theorem dX5_feed_57 : decode cX5_feed 57 = .ok (.l2i, 1) := by decide +kernel
theorem dX5_feed_58 : decode cX5_feed 58 = .ok (.iastore, 1) := by decide +kernel
theorem dX5_feed_59 : decode cX5_feed 59 = .ok (.aload_n 0, 1) := by decide +kernel
theorem dX5_feed_60 : decode cX5_feed 60 = .ok (.dup, 1) := by decide +kernel
theorem dX5_feed_61 : decode cX5_feed 61 = .ok (.getfield 68, 3) := by decide +kernel
theorem dX5_feed_64 : decode cX5_feed 64 = .ok (.iconst 1, 1) := by decide +kernel
theorem dX5_feed_65 : decode cX5_feed 65 = .ok (.iadd, 1) := by decide +kernel
theorem dX5_feed_66 : decode cX5_feed 66 = .ok (.putfield 68, 3) := by decide +kernel
theorem dX5_feed_69 : decode cX5_feed 69 = .ok (.iinc 4 1, 3) := by decide +kernel
theorem dX5_feed_72 : decode cX5_feed 72 = .ok (.goto (-40), 3) := by decide +kernel
theorem dX5_feed_75 : decode cX5_feed 75 = .ok (.aload_n 0, 1) := by decide +kernel
theorem dX5_feed_76 : decode cX5_feed 76 = .ok (.getfield 68, 3) := by decide +kernel
theorem dX5_feed_79 : decode cX5_feed 79 = .ok (.ireturn, 1) := by decide +kernel
theorem dX5_isAlpha_0 : decode cX5_isAlpha 0 = .ok (.iload_n 0, 1) := by decide +kernel
theorem dX5_isAlpha_1 : decode cX5_isAlpha 1 = .ok (.bipush 97, 2) := by decide +kernel
theorem dX5_isAlpha_3 : decode cX5_isAlpha 3 = .ok (.if_icmp .lt 13, 3) := by decide +kernel
theorem dX5_isAlpha_6 : decode cX5_isAlpha 6 = .ok (.iload_n 0, 1) := by decide +kernel
theorem dX5_isAlpha_7 : decode cX5_isAlpha 7 = .ok (.bipush 122, 2) := by decide +kernel
theorem dX5_isAlpha_9 : decode cX5_isAlpha 9 = .ok (.if_icmp .gt 7, 3) := by decide +kernel
theorem dX5_isAlpha_12 : decode cX5_isAlpha 12 = .ok (.iconst 1, 1) := by decide +kernel
theorem dX5_isAlpha_13 : decode cX5_isAlpha 13 = .ok (.goto 4, 3) := by decide +kernel
theorem dX5_isAlpha_16 : decode cX5_isAlpha 16 = .ok (.iconst 0, 1) := by decide +kernel
theorem dX5_isAlpha_17 : decode cX5_isAlpha 17 = .ok (.ireturn, 1) := by decide +kernel
theorem dX5_isDigit_0 : decode cX5_isDigit 0 = .ok (.iload_n 0, 1) := by decide +kernel
theorem dX5_isDigit_1 : decode cX5_isDigit 1 = .ok (.bipush 48, 2) := by decide +kernel
theorem dX5_isDigit_3 : decode cX5_isDigit 3 = .ok (.if_icmp .lt 13, 3) := by decide +kernel
theorem dX5_isDigit_6 : decode cX5_isDigit 6 = .ok (.iload_n 0, 1) := by decide +kernel
theorem dX5_isDigit_7 : decode cX5_isDigit 7 = .ok (.bipush 57, 2) := by decide +kernel
theorem dX5_isDigit_9 : decode cX5_isDigit 9 = .ok (.if_icmp .gt 7, 3) := by decide +kernel
theorem dX5_isDigit_12 : decode cX5_isDigit 12 = .ok (.iconst 1, 1) := by decide +kernel
theorem dX5_isDigit_13 : decode cX5_isDigit 13 = .ok (.goto 4, 3) := by decide +kernel
theorem dX5_isDigit_16 : decode cX5_isDigit 16 = .ok (.iconst 0, 1) := by decide +kernel
theorem dX5_isDigit_17 : decode cX5_isDigit 17 = .ok (.ireturn, 1) := by decide +kernel
theorem dX5_byteAt_0 : decode cX5_byteAt 0 = .ok (.iload_n 1, 1) := by decide +kernel
theorem dX5_byteAt_1 : decode cX5_byteAt 1 = .ok (.aload_n 0, 1) := by decide +kernel
theorem dX5_byteAt_2 : decode cX5_byteAt 2 = .ok (.getfield 68, 3) := by decide +kernel
theorem dX5_byteAt_5 : decode cX5_byteAt 5 = .ok (.if_icmp .ge 12, 3) := by decide +kernel
theorem dX5_byteAt_8 : decode cX5_byteAt 8 = .ok (.aload_n 0, 1) := by decide +kernel
theorem dX5_byteAt_9 : decode cX5_byteAt 9 = .ok (.getfield 25, 3) := by decide +kernel
theorem dX5_byteAt_12 : decode cX5_byteAt 12 = .ok (.iload_n 1, 1) := by decide +kernel
theorem dX5_byteAt_13 : decode cX5_byteAt 13 = .ok (.iaload, 1) := by decide +kernel
theorem dX5_byteAt_14 : decode cX5_byteAt 14 = .ok (.goto 4, 3) := by decide +kernel
theorem dX5_byteAt_17 : decode cX5_byteAt 17 = .ok (.iconst (-1), 1) := by decide +kernel
theorem dX5_byteAt_18 : decode cX5_byteAt 18 = .ok (.ireturn, 1) := by decide +kernel
set_option maxRecDepth 20000 in
theorem ggX5_nextToken_X5_byteAt : GoodIn wsX5_nextToken wsX5_byteAt := goodIn_r _ [9, 10, 11, 18, 19, 20, 21, 22, 23, 24, 25, 26, 27, 28, 29, 30, 31, 32, 33, 34, 35, 36, 37, 38, 39, 40, 41, 42, 43, 44, 45, 46] (by decide +kernel) (by decide +kernel)
set_option maxRecDepth 20000 in
theorem gX5_nextToken_X5_byteAt : GoodIn wsX5_nextToken (wsV RX5 80 RX5 yX5_byteAt wsX5_byteAt) := goodIn_app (goodIn_of _ (by decide +kernel)) ggX5_nextToken_X5_byteAt
set_option maxRecDepth 20000 in
theorem ggX5_nextToken_X5_isAlpha : GoodIn wsX5_nextToken wsX5_isAlpha := goodIn_r _ [14] (by decide +kernel) (by decide +kernel)
set_option maxRecDepth 20000 in
theorem gX5_nextToken_X5_isAlpha : GoodIn wsX5_nextToken (va_wsS RX5 84 yX5_isAlpha wsX5_isAlpha) := goodIn_app (goodIn_of _ (by decide +kernel)) ggX5_nextToken_X5_isAlpha
set_option maxRecDepth 20000 in
theorem ggX5_nextToken_X5_isDigit : GoodIn wsX5_nextToken wsX5_isDigit := goodIn_r _ [17] (by decide +kernel) (by decide +kernel)
set_option maxRecDepth 20000 in
theorem gX5_nextToken_X5_isDigit : GoodIn wsX5_nextToken (va_wsS RX5 88 yX5_isDigit wsX5_isDigit) := goodIn_app (goodIn_of _ (by decide +kernel)) ggX5_nextToken_X5_isDigit
theorem dX5_nextToken_0 : decode cX5_nextToken 0 = .ok (.aload_n 0, 1) := by decide +kernel
theorem dX5_nextToken_1 : decode cX5_nextToken 1 = .ok (.aload_n 0, 1) := by decide +kernel
theorem dX5_nextToken_2 : decode cX5_nextToken 2 = .ok (.getfield 74, 3) := by decide +kernel
theorem dX5_nextToken_5 : decode cX5_nextToken 5 = .ok (.putfield 77, 3) := by decide +kernel
theorem dX5_nextToken_8 : decode cX5_nextToken 8 = .ok (.aload_n 0, 1) := by decide +kernel
theorem dX5_nextToken_9 : decode cX5_nextToken 9 = .ok (.aload_n 0, 1) := by decide +kernel
theorem dX5_nextToken_10 : decode cX5_nextToken 10 = .ok (.getfield 77, 3) := by decide +kernel
theorem dX5_nextToken_13 : decode cX5_nextToken 13 = .ok (.invokevirtual 80, 3) := by decide +kernel
theorem dX5_nextToken_16 : decode cX5_nextToken 16 = .ok (.bipush 32, 2) := by decide +kernel
theorem dX5_nextToken_18 : decode cX5_nextToken 18 = .ok (.if_icmp .ne 16, 3) := by decide +kernel
theorem dX5_nextToken_21 : decode cX5_nextToken 21 = .ok (.aload_n 0, 1) := by decide +kernel
theorem dX5_nextToken_22 : decode cX5_nextToken 22 = .ok (.dup, 1) := by decide +kernel
theorem dX5_nextToken_23 : decode cX5_nextToken 23 = .ok (.getfield 77, 3) := by decide +kernel
theorem dX5_nextToken_26 : decode cX5_nextToken 26 = .ok (.iconst 1, 1) := by decide +kernel
theorem dX5_nextToken_27 : decode cX5_nextToken 27 = .ok (.iadd, 1) := by decide +kernel
theorem dX5_nextToken_28 : decode cX5_nextToken 28 = .ok (.putfield 77, 3) := by decide +kernel
theorem dX5_nextToken_31 : decode cX5_nextToken 31 = .ok (.goto (-23), 3) := by decide +kernel
theorem dX5_nextToken_34 : decode cX5_nextToken 34 = .ok (.aload_n 0, 1) := by decide +kernel
theorem dX5_nextToken_35 : decode cX5_nextToken 35 = .ok (.aload_n 0, 1) := by decide +kernel
theorem dX5_nextToken_36 : decode cX5_nextToken 36 = .ok (.getfield 77, 3) := by decide +kernel
theorem dX5_nextToken_39 : decode cX5_nextToken 39 = .ok (.putfield 74, 3) := by decide +kernel
theorem dX5_nextToken_42 : decode cX5_nextToken 42 = .ok (.aload_n 0, 1) := by decide +kernel
theorem dX5_nextToken_43 : decode cX5_nextToken 43 = .ok (.aload_n 0, 1) := by decide +kernel
theorem dX5_nextToken_44 : decode cX5_nextToken 44 = .ok (.getfield 77, 3) := by decide +kernel
theorem dX5_nextToken_47 : decode cX5_nextToken 47 = .ok (.invokevirtual 80, 3) := by decide +kernel
theorem dX5_nextToken_50 : decode cX5_nextToken 50 = .ok (.istore_n 1, 1) := by decide +kernel
theorem dX5_nextToken_51 : decode cX5_nextToken 51 = .ok (.aload_n 0, 1) := by decide +kernel
theorem dX5_nextToken_52 : decode cX5_nextToken 52 = .ok (.iload_n 1, 1) := by decide +kernel
theorem dX5_nextToken_53 : decode cX5_nextToken 53 = .ok (.ifCond .ge 7, 3) := by decide +kernel
theorem dX5_nextToken_56 : decode cX5_nextToken 56 = .ok (.iconst 0, 1) := by decide +kernel
theorem dX5_nextToken_57 : decode cX5_nextToken 57 = .ok (.goto 26, 3) := by decide +kernel
theorem dX5_nextToken_60 : decode cX5_nextToken 60 = .ok (.iload_n 1, 1) := by decide +kernel
theorem dX5_nextToken_61 : decode cX5_nextToken 61 = .ok (.invokestatic 84, 3) := by decide +kernel
theorem dX5_nextToken_64 : decode cX5_nextToken 64 = .ok (.ifCond .eq 7, 3) := by decide +kernel
theorem dX5_nextToken_67 : decode cX5_nextToken 67 = .ok (.iconst 1, 1) := by decide +kernel
theorem dX5_nextToken_68 : decode cX5_nextToken 68 = .ok (.goto 15, 3) := by decide +kernel
theorem dX5_nextToken_71 : decode cX5_nextToken 71 = .ok (.iload_n 1, 1) := by decide +kernel
theorem dX5_nextToken_72 : decode cX5_nextToken 72 = .ok (.invokestatic 88, 3) := by decide +kernel
theorem dX5_nextToken_75 : decode cX5_nextToken 75 = .ok (.ifCond .eq 7, 3) := by decide +kernel
theorem dX5_nextToken_78 : decode cX5_nextToken 78 = .ok (.iconst 2, 1) := by decide +kernel
theorem dX5_nextToken_79 : decode cX5_nextToken 79 = .ok (.goto 4, 3) := by decide +kernel
theorem dX5_nextToken_82 : decode cX5_nextToken 82 = .ok (.iconst 3, 1) := by decide +kernel
theorem dX5_nextToken_83 : decode cX5_nextToken 83 = .ok (.putfield 91, 3) := by decide +kernel
theorem dX5_nextToken_86 : decode cX5_nextToken 86 = .ok (.aload_n 0, 1) := by decide +kernel
theorem dX5_nextToken_87 : decode cX5_nextToken 87 = .ok (.iconst 0, 1) := by decide +kernel
theorem dX5_nextToken_88 : decode cX5_nextToken 88 = .ok (.putfield 94, 3) := by decide +kernel
theorem dX5_nextToken_91 : decode cX5_nextToken 91 = .ok (.aload_n 0, 1) := by decide +kernel
theorem dX5_nextToken_92 : decode cX5_nextToken 92 = .ok (.getfield 91, 3) := by decide +kernel
theorem dX5_nextToken_95 : decode cX5_nextToken 95 = .ok (.iconst 1, 1) := by decide +kernel
theorem dX5_nextToken_96 : decode cX5_nextToken 96 = .ok (.if_icmp .ne 30, 3) := by decide +kernel
theorem dX5_nextToken_99 : decode cX5_nextToken 99 = .ok (.aload_n 0, 1) := by decide +kernel
theorem dX5_nextToken_100 : decode cX5_nextToken 100 = .ok (.aload_n 0, 1) := by decide +kernel
theorem dX5_nextToken_101 : decode cX5_nextToken 101 = .ok (.getfield 74, 3) := by decide +kernel
theorem dX5_nextToken_104 : decode cX5_nextToken 104 = .ok (.invokevirtual 80, 3) := by decide +kernel
theorem dX5_nextToken_107 : decode cX5_nextToken 107 = .ok (.invokestatic 84, 3) := by decide +kernel
theorem dX5_nextToken_110 : decode cX5_nextToken 110 = .ok (.ifCond .eq 16, 3) := by decide +kernel
theorem dX5_nextToken_113 : decode cX5_nextToken 113 = .ok (.aload_n 0, 1) := by decide +kernel
theorem dX5_nextToken_114 : decode cX5_nextToken 114 = .ok (.dup, 1) := by decide +kernel
theorem dX5_nextToken_115 : decode cX5_nextToken 115 = .ok (.getfield 74, 3) := by decide +kernel
theorem dX5_nextToken_118 : decode cX5_nextToken 118 = .ok (.iconst 1, 1) := by decide +kernel
theorem dX5_nextToken_119 : decode cX5_nextToken 119 = .ok (.iadd, 1) := by decide +kernel
theorem dX5_nextToken_120 : decode cX5_nextToken 120 = .ok (.putfield 74, 3) := by decide +kernel
theorem dX5_nextToken_123 : decode cX5_nextToken 123 = .ok (.goto (-32), 3) := by decide +kernel
theorem dX5_nextToken_126 : decode cX5_nextToken 126 = .ok (.aload_n 0, 1) := by decide +kernel
theorem dX5_nextToken_127 : decode cX5_nextToken 127 = .ok (.getfield 91, 3) := by decide +kernel
theorem dX5_nextToken_130 : decode cX5_nextToken 130 = .ok (.iconst 2, 1) := by decide +kernel
theorem dX5_nextToken_131 : decode cX5_nextToken 131 = .ok (.if_icmp .ne 70, 3) := by decide +kernel
theorem dX5_nextToken_134 : decode cX5_nextToken 134 = .ok (.aload_n 0, 1) := by decide +kernel
theorem dX5_nextToken_135 : decode cX5_nextToken 135 = .ok (.aload_n 0, 1) := by decide +kernel
theorem dX5_nextToken_136 : decode cX5_nextToken 136 = .ok (.getfield 74, 3) := by decide +kernel
theorem dX5_nextToken_139 : decode cX5_nextToken 139 = .ok (.invokevirtual 80, 3) := by decide +kernel
theorem dX5_nextToken_142 : decode cX5_nextToken 142 = .ok (.invokestatic 88, 3) := by decide +kernel
theorem dX5_nextToken_145 : decode cX5_nextToken 145 = .ok (.ifCond .eq 56, 3) := by decide +kernel
theorem dX5_nextToken_148 : decode cX5_nextToken 148 = .ok (.aload_n 0, 1) := by decide +kernel
theorem dX5_nextToken_149 : decode cX5_nextToken 149 = .ok (.aload_n 0, 1) := by decide +kernel
theorem dX5_nextToken_150 : decode cX5_nextToken 150 = .ok (.getfield 94, 3) := by decide +kernel
theorem dX5_nextToken_153 : decode cX5_nextToken 153 = .ok (.sipush 999, 3) := by decide +kernel
theorem dX5_nextToken_156 : decode cX5_nextToken 156 = .ok (.if_icmp .le 10, 3) := by decide +kernel
theorem dX5_nextToken_159 : decode cX5_nextToken 159 = .ok (.aload_n 0, 1) := by decide +kernel
theorem dX5_nextToken_160 : decode cX5_nextToken 160 = .ok (.getfield 94, 3) := by decide +kernel
theorem dX5_nextToken_163 : decode cX5_nextToken 163 = .ok (.goto 22, 3) := by decide +kernel
theorem dX5_nextToken_166 : decode cX5_nextToken 166 = .ok (.bipush 10, 2) := by decide +kernel
theorem dX5_nextToken_168 : decode cX5_nextToken 168 = .ok (.aload_n 0, 1) := by decide +kernel
theorem dX5_nextToken_169 : decode cX5_nextToken 169 = .ok (.getfield 94, 3) := by decide +kernel
theorem dX5_nextToken_172 : decode cX5_nextToken 172 = .ok (.imul, 1) := by decide +kernel
theorem dX5_nextToken_173 : decode cX5_nextToken 173 = .ok (.aload_n 0, 1) := by decide +kernel
theorem dX5_nextToken_174 : decode cX5_nextToken 174 = .ok (.aload_n 0, 1) := by decide +kernel
theorem dX5_nextToken_175 : decode cX5_nextToken 175 = .ok (.getfield 74, 3) := by decide +kernel
theorem dX5_nextToken_178 : decode cX5_nextToken 178 = .ok (.invokevirtual 80, 3) := by decide +kernel
theorem dX5_nextToken_181 : decode cX5_nextToken 181 = .ok (.iadd, 1) := by decide +kernel
theorem dX5_nextToken_182 : decode cX5_nextToken 182 = .ok (.bipush 48, 2) := by decide +kernel
theorem dX5_nextToken_184 : decode cX5_nextToken 184 = .ok (.isub, 1) := by decide +kernel
theorem dX5_nextToken_185 : decode cX5_nextToken 185 = .ok (.putfield 94, 3) := by decide +kernel
theorem dX5_nextToken_188 : decode cX5_nextToken 188 = .ok (.aload_n 0, 1) := by decide +kernel
theorem dX5_nextToken_189 : decode cX5_nextToken 189 = .ok (.dup, 1) := by decide +kernel
theorem dX5_nextToken_190 : decode cX5_nextToken 190 = .ok (.getfield 74, 3) := by decide +kernel
theorem dX5_nextToken_193 : decode cX5_nextToken 193 = .ok (.iconst 1, 1) := by decide +kernel
theorem dX5_nextToken_194 : decode cX5_nextToken 194 = .ok (.iadd, 1) := by decide +kernel
theorem dX5_nextToken_195 : decode cX5_nextToken 195 = .ok (.putfield 74, 3) := by decide +kernel
theorem dX5_nextToken_198 : decode cX5_nextToken 198 = .ok (.goto (-72), 3) := by decide +kernel
theorem dX5_nextToken_201 : decode cX5_nextToken 201 = .ok (.aload_n 0, 1) := by decide +kernel
theorem dX5_nextToken_202 : decode cX5_nextToken 202 = .ok (.dup, 1) := by decide +kernel
theorem dX5_nextToken_203 : decode cX5_nextToken 203 = .ok (.getfield 74, 3) := by decide +kernel
theorem dX5_nextToken_206 : decode cX5_nextToken 206 = .ok (.aload_n 0, 1) := by decide +kernel
theorem dX5_nextToken_207 : decode cX5_nextToken 207 = .ok (.getfield 91, 3) := by decide +kernel
theorem dX5_nextToken_210 : decode cX5_nextToken 210 = .ok (.iconst 2, 1) := by decide +kernel
theorem dX5_nextToken_211 : decode cX5_nextToken 211 = .ok (.if_icmp .le 7, 3) := by decide +kernel
theorem dX5_nextToken_214 : decode cX5_nextToken 214 = .ok (.iconst 1, 1) := by decide +kernel
theorem dX5_nextToken_215 : decode cX5_nextToken 215 = .ok (.goto 4, 3) := by decide +kernel
theorem dX5_nextToken_218 : decode cX5_nextToken 218 = .ok (.iconst 0, 1) := by decide +kernel
theorem dX5_nextToken_219 : decode cX5_nextToken 219 = .ok (.iadd, 1) := by decide +kernel
theorem dX5_nextToken_220 : decode cX5_nextToken 220 = .ok (.putfield 74, 3) := by decide +kernel
theorem dX5_nextToken_223 : decode cX5_nextToken 223 = .ok (.return_, 1) := by decide +kernel
set_option maxRecDepth 20000 in
theorem ggX5_needs_X5_nextToken : GoodIn wsX5_needs wsX5_nextToken := goodIn_r _ [6, 7, 8, 9, 10, 11, 12, 13, 5, 14, 15, 16, 17, 18, 19, 20, 21, 22, 23, 24, 25, 26, 27, 28, 29, 30, 31, 32, 33, 34, 35, 36, 37, 38, 39, 40, 41, 42, 43, 44, 45, 46, 47, 48, 49, 50, 51] (by decide +kernel) (by decide +kernel)
set_option maxRecDepth 20000 in
theorem gX5_needs_X5_nextToken : GoodIn wsX5_needs (wsV RX5 101 RX5 yX5_nextToken wsX5_nextToken) := goodIn_app (goodIn_of _ (by decide +kernel)) ggX5_needs_X5_nextToken
theorem dX5_needs_0 : decode cX5_needs 0 = .ok (.aload_n 0, 1) := by decide +kernel
theorem dX5_needs_1 : decode cX5_needs 1 = .ok (.aload_n 0, 1) := by decide +kernel
theorem dX5_needs_2 : decode cX5_needs 2 = .ok (.getfield 97, 3) := by decide +kernel
theorem dX5_needs_5 : decode cX5_needs 5 = .ok (.ifCond .ne 7, 3) := by decide +kernel
theorem dX5_needs_8 : decode cX5_needs 8 = .ok (.iload_n 1, 1) := by decide +kernel
theorem dX5_needs_9 : decode cX5_needs 9 = .ok (.ifCond .ne 7, 3) := by decide +kernel
theorem dX5_needs_12 : decode cX5_needs 12 = .ok (.iconst 1, 1) := by decide +kernel
theorem dX5_needs_13 : decode cX5_needs 13 = .ok (.goto 4, 3) := by decide +kernel
theorem dX5_needs_16 : decode cX5_needs 16 = .ok (.iconst 0, 1) := by decide +kernel
theorem dX5_needs_17 : decode cX5_needs 17 = .ok (.putfield 97, 3) := by decide +kernel
theorem dX5_needs_20 : decode cX5_needs 20 = .ok (.aload_n 0, 1) := by decide +kernel
theorem dX5_needs_21 : decode cX5_needs 21 = .ok (.getfield 97, 3) := by decide +kernel
theorem dX5_needs_24 : decode cX5_needs 24 = .ok (.ifCond .ne 7, 3) := by decide +kernel
theorem dX5_needs_27 : decode cX5_needs 27 = .ok (.aload_n 0, 1) := by decide +kernel
theorem dX5_needs_28 : decode cX5_needs 28 = .ok (.invokevirtual 101, 3) := by decide +kernel
theorem dX5_needs_31 : decode cX5_needs 31 = .ok (.return_, 1) := by decide +kernel
set_option maxRecDepth 20000 in
theorem ggX5_isName_X5_byteAt : GoodIn wsX5_isName wsX5_byteAt := goodIn_r _ [8, 9, 10, 11, 12, 13, 14, 15, 16, 17, 18, 19, 20, 21, 22, 23, 24, 25, 26, 27, 28, 29, 30, 31, 32, 33, 34, 35, 36, 37, 38, 39] (by decide +kernel) (by decide +kernel)
set_option maxRecDepth 20000 in
theorem gX5_isName_X5_byteAt : GoodIn wsX5_isName (wsV RX5 80 RX5 yX5_byteAt wsX5_byteAt) := goodIn_app (goodIn_of _ (by decide +kernel)) ggX5_isName_X5_byteAt
theorem dX5_isName_0 : decode cX5_isName 0 = .ok (.aload_n 0, 1) := by decide +kernel
theorem dX5_isName_1 : decode cX5_isName 1 = .ok (.getfield 91, 3) := by decide +kernel
theorem dX5_isName_4 : decode cX5_isName 4 = .ok (.iconst 1, 1) := by decide +kernel
theorem dX5_isName_5 : decode cX5_isName 5 = .ok (.if_icmp .ne 76, 3) := by decide +kernel
theorem dX5_isName_8 : decode cX5_isName 8 = .ok (.aload_n 0, 1) := by decide +kernel
theorem dX5_isName_9 : decode cX5_isName 9 = .ok (.getfield 74, 3) := by decide +kernel
theorem dX5_isName_12 : decode cX5_isName 12 = .ok (.aload_n 0, 1) := by decide +kernel
theorem dX5_isName_13 : decode cX5_isName 13 = .ok (.getfield 77, 3) := by decide +kernel
theorem dX5_isName_16 : decode cX5_isName 16 = .ok (.isub, 1) := by decide +kernel
theorem dX5_isName_17 : decode cX5_isName 17 = .ok (.iload_n 1, 1) := by decide +kernel
theorem dX5_isName_18 : decode cX5_isName 18 = .ok (.if_icmp .ne 63, 3) := by decide +kernel
theorem dX5_isName_21 : decode cX5_isName 21 = .ok (.aload_n 0, 1) := by decide +kernel
theorem dX5_isName_22 : decode cX5_isName 22 = .ok (.aload_n 0, 1) := by decide +kernel
theorem dX5_isName_23 : decode cX5_isName 23 = .ok (.getfield 77, 3) := by decide +kernel
theorem dX5_isName_26 : decode cX5_isName 26 = .ok (.invokevirtual 80, 3) := by decide +kernel
theorem dX5_isName_29 : decode cX5_isName 29 = .ok (.iload_n 2, 1) := by decide +kernel
theorem dX5_isName_30 : decode cX5_isName 30 = .ok (.if_icmp .ne 51, 3) := by decide +kernel
theorem dX5_isName_33 : decode cX5_isName 33 = .ok (.aload_n 0, 1) := by decide +kernel
theorem dX5_isName_34 : decode cX5_isName 34 = .ok (.aload_n 0, 1) := by decide +kernel
theorem dX5_isName_35 : decode cX5_isName 35 = .ok (.getfield 77, 3) := by decide +kernel
theorem dX5_isName_38 : decode cX5_isName 38 = .ok (.iconst 1, 1) := by decide +kernel
theorem dX5_isName_39 : decode cX5_isName 39 = .ok (.iadd, 1) := by decide +kernel
theorem dX5_isName_40 : decode cX5_isName 40 = .ok (.invokevirtual 80, 3) := by decide +kernel
theorem dX5_isName_43 : decode cX5_isName 43 = .ok (.iload_n 3, 1) := by decide +kernel
theorem dX5_isName_44 : decode cX5_isName 44 = .ok (.if_icmp .ne 37, 3) := by decide +kernel
theorem dX5_isName_47 : decode cX5_isName 47 = .ok (.aload_n 0, 1) := by decide +kernel
theorem dX5_isName_48 : decode cX5_isName 48 = .ok (.aload_n 0, 1) := by decide +kernel
theorem dX5_isName_49 : decode cX5_isName 49 = .ok (.getfield 77, 3) := by decide +kernel
theorem dX5_isName_52 : decode cX5_isName 52 = .ok (.iconst 2, 1) := by decide +kernel
theorem dX5_isName_53 : decode cX5_isName 53 = .ok (.iadd, 1) := by decide +kernel
theorem dX5_isName_54 : decode cX5_isName 54 = .ok (.invokevirtual 80, 3) := by decide +kernel
theorem dX5_isName_57 : decode cX5_isName 57 = .ok (.iload 4, 2) := by decide +kernel
theorem dX5_isName_59 : decode cX5_isName 59 = .ok (.if_icmp .ne 22, 3) := by decide +kernel
theorem dX5_isName_62 : decode cX5_isName 62 = .ok (.aload_n 0, 1) := by decide +kernel
theorem dX5_isName_63 : decode cX5_isName 63 = .ok (.aload_n 0, 1) := by decide +kernel
theorem dX5_isName_64 : decode cX5_isName 64 = .ok (.getfield 74, 3) := by decide +kernel
theorem dX5_isName_67 : decode cX5_isName 67 = .ok (.iconst 1, 1) := by decide +kernel
theorem dX5_isName_68 : decode cX5_isName 68 = .ok (.isub, 1) := by decide +kernel
theorem dX5_isName_69 : decode cX5_isName 69 = .ok (.invokevirtual 80, 3) := by decide +kernel
theorem dX5_isName_72 : decode cX5_isName 72 = .ok (.iload 5, 2) := by decide +kernel
theorem dX5_isName_74 : decode cX5_isName 74 = .ok (.if_icmp .ne 7, 3) := by decide +kernel
theorem dX5_isName_77 : decode cX5_isName 77 = .ok (.iconst 1, 1) := by decide +kernel
theorem dX5_isName_78 : decode cX5_isName 78 = .ok (.goto 4, 3) := by decide +kernel
theorem dX5_isName_81 : decode cX5_isName 81 = .ok (.iconst 0, 1) := by decide +kernel
theorem dX5_isName_82 : decode cX5_isName 82 = .ok (.ireturn, 1) := by decide +kernel
set_option maxRecDepth 20000 in
theorem ggX5_isFour_X5_isName : GoodIn wsX5_isFour wsX5_isName := goodIn_r _ [5, 6, 7, 8, 9, 10, 11, 4, 12, 13, 14, 15, 16, 17, 18, 19, 20, 21, 22, 23, 24, 25, 26, 27, 28, 29, 30, 31, 32, 33, 34, 35, 36, 37, 38, 39, 40, 41, 42, 43] (by decide +kernel) (by decide +kernel)
set_option maxRecDepth 20000 in
theorem gX5_isFour_X5_isName : GoodIn wsX5_isFour (wsV RX5 104 RX5 yX5_isName wsX5_isName) := goodIn_app (goodIn_of _ (by decide +kernel)) ggX5_isFour_X5_isName
theorem dX5_isFour_0 : decode cX5_isFour 0 = .ok (.aload_n 0, 1) := by decide +kernel
theorem dX5_isFour_1 : decode cX5_isFour 1 = .ok (.iconst 4, 1) := by decide +kernel
theorem dX5_isFour_2 : decode cX5_isFour 2 = .ok (.iload_n 1, 1) := by decide +kernel
theorem dX5_isFour_3 : decode cX5_isFour 3 = .ok (.iload_n 2, 1) := by decide +kernel
theorem dX5_isFour_4 : decode cX5_isFour 4 = .ok (.iload_n 3, 1) := by decide +kernel
theorem dX5_isFour_5 : decode cX5_isFour 5 = .ok (.iload 4, 2) := by decide +kernel
theorem dX5_isFour_7 : decode cX5_isFour 7 = .ok (.invokevirtual 104, 3) := by decide +kernel
theorem dX5_isFour_10 : decode cX5_isFour 10 = .ok (.ireturn, 1) := by decide +kernel
set_option maxRecDepth 20000 in
theorem ggX5_isFive_X5_isName : GoodIn wsX5_isFive wsX5_isName := goodIn_r _ [6, 7, 8, 1, 9, 10, 11, 5, 12, 13, 14, 15, 16, 17, 18, 19, 20, 21, 22, 23, 24, 25, 26, 27, 28, 29, 30, 31, 32, 33, 34, 35, 36, 37, 38, 39, 40, 41, 42, 43] (by decide +kernel) (by decide +kernel)
set_option maxRecDepth 20000 in
theorem gX5_isFive_X5_isName : GoodIn wsX5_isFive (wsV RX5 104 RX5 yX5_isName wsX5_isName) := goodIn_app (goodIn_of _ (by decide +kernel)) ggX5_isFive_X5_isName
set_option maxRecDepth 20000 in
theorem ggX5_isFive_X5_byteAt : GoodIn wsX5_isFive wsX5_byteAt := goodIn_r _ [12, 13, 14, 15, 16, 17, 18, 19, 20, 21, 22, 23, 24, 25, 26, 27, 28, 29, 30, 31, 32, 33, 34, 35, 36, 37, 38, 39, 40, 41, 42, 43] (by decide +kernel) (by decide +kernel)
set_option maxRecDepth 20000 in
theorem gX5_isFive_X5_byteAt : GoodIn wsX5_isFive (wsV RX5 80 RX5 yX5_byteAt wsX5_byteAt) := goodIn_app (goodIn_of _ (by decide +kernel)) ggX5_isFive_X5_byteAt
theorem dX5_isFive_0 : decode cX5_isFive 0 = .ok (.aload_n 0, 1) := by decide +kernel
theorem dX5_isFive_1 : decode cX5_isFive 1 = .ok (.iconst 5, 1) := by decide +kernel
theorem dX5_isFive_2 : decode cX5_isFive 2 = .ok (.iload_n 1, 1) := by decide +kernel
theorem dX5_isFive_3 : decode cX5_isFive 3 = .ok (.iload_n 2, 1) := by decide +kernel
theorem dX5_isFive_4 : decode cX5_isFive 4 = .ok (.iload_n 3, 1) := by decide +kernel
theorem dX5_isFive_5 : decode cX5_isFive 5 = .ok (.iload 5, 2) := by decide +kernel
theorem dX5_isFive_7 : decode cX5_isFive 7 = .ok (.invokevirtual 104, 3) := by decide +kernel
theorem dX5_isFive_10 : decode cX5_isFive 10 = .ok (.ifCond .eq 22, 3) := by decide +kernel
theorem dX5_isFive_13 : decode cX5_isFive 13 = .ok (.aload_n 0, 1) := by decide +kernel
theorem dX5_isFive_14 : decode cX5_isFive 14 = .ok (.aload_n 0, 1) := by decide +kernel
theorem dX5_isFive_15 : decode cX5_isFive 15 = .ok (.getfield 77, 3) := by decide +kernel
theorem dX5_isFive_18 : decode cX5_isFive 18 = .ok (.iconst 3, 1) := by decide +kernel
theorem dX5_isFive_19 : decode cX5_isFive 19 = .ok (.iadd, 1) := by decide +kernel
theorem dX5_isFive_20 : decode cX5_isFive 20 = .ok (.invokevirtual 80, 3) := by decide +kernel
theorem dX5_isFive_23 : decode cX5_isFive 23 = .ok (.iload 4, 2) := by decide +kernel
theorem dX5_isFive_25 : decode cX5_isFive 25 = .ok (.if_icmp .ne 7, 3) := by decide +kernel
theorem dX5_isFive_28 : decode cX5_isFive 28 = .ok (.iconst 1, 1) := by decide +kernel
theorem dX5_isFive_29 : decode cX5_isFive 29 = .ok (.goto 4, 3) := by decide +kernel
theorem dX5_isFive_32 : decode cX5_isFive 32 = .ok (.iconst 0, 1) := by decide +kernel
theorem dX5_isFive_33 : decode cX5_isFive 33 = .ok (.ireturn, 1) := by decide +kernel
set_option maxRecDepth 20000 in
theorem ggX5_kindHere_X5_isFive : GoodIn wsX5_kindHere wsX5_isFive := goodIn_r _ [5, 6, 7, 8, 9, 4, 10, 11, 12, 13, 14, 15, 16, 17, 18, 23, 24, 25, 26, 27, 28, 29, 30, 31, 32, 33, 34, 35, 36, 37, 38, 39, 40, 41, 42, 43, 44, 45, 46, 47, 48, 49, 50, 51] (by decide +kernel) (by decide +kernel)
set_option maxRecDepth 20000 in
theorem gX5_kindHere_X5_isFive : GoodIn wsX5_kindHere (wsV RX5 108 RX5 yX5_isFive wsX5_isFive) := goodIn_app (goodIn_of _ (by decide +kernel)) ggX5_kindHere_X5_isFive
set_option maxRecDepth 20000 in
theorem ggX5_kindHere_X5_isFour : GoodIn wsX5_kindHere wsX5_isFour := goodIn_r _ [22, 7, 8, 9, 4, 10, 11, 12, 6, 13, 14, 15, 16, 17, 18, 23, 24, 25, 26, 27, 28, 29, 30, 31, 32, 33, 34, 35, 36, 37, 38, 39, 40, 41, 42, 43, 44, 45, 46, 47, 48, 49, 50, 51] (by decide +kernel) (by decide +kernel)
set_option maxRecDepth 20000 in
theorem gX5_kindHere_X5_isFour : GoodIn wsX5_kindHere (wsV RX5 111 RX5 yX5_isFour wsX5_isFour) := goodIn_app (goodIn_of _ (by decide +kernel)) ggX5_kindHere_X5_isFour
theorem dX5_kindHere_0 : decode cX5_kindHere 0 = .ok (.aload_n 0, 1) := by decide +kernel
theorem dX5_kindHere_1 : decode cX5_kindHere 1 = .ok (.bipush 103, 2) := by decide +kernel
theorem dX5_kindHere_3 : decode cX5_kindHere 3 = .ok (.bipush 117, 2) := by decide +kernel
theorem dX5_kindHere_5 : decode cX5_kindHere 5 = .ok (.bipush 101, 2) := by decide +kernel
theorem dX5_kindHere_7 : decode cX5_kindHere 7 = .ok (.bipush 115, 2) := by decide +kernel
theorem dX5_kindHere_9 : decode cX5_kindHere 9 = .ok (.bipush 116, 2) := by decide +kernel
theorem dX5_kindHere_11 : decode cX5_kindHere 11 = .ok (.invokevirtual 108, 3) := by decide +kernel
theorem dX5_kindHere_14 : decode cX5_kindHere 14 = .ok (.ifCond .eq 5, 3) := by decide +kernel
theorem dX5_kindHere_17 : decode cX5_kindHere 17 = .ok (.iconst 0, 1) := by decide +kernel
theorem dX5_kindHere_18 : decode cX5_kindHere 18 = .ok (.ireturn, 1) := by decide +kernel
theorem dX5_kindHere_19 : decode cX5_kindHere 19 = .ok (.aload_n 0, 1) := by decide +kernel
theorem dX5_kindHere_20 : decode cX5_kindHere 20 = .ok (.bipush 119, 2) := by decide +kernel
theorem dX5_kindHere_22 : decode cX5_kindHere 22 = .ok (.bipush 105, 2) := by decide +kernel
theorem dX5_kindHere_24 : decode cX5_kindHere 24 = .ok (.bipush 102, 2) := by decide +kernel
theorem dX5_kindHere_26 : decode cX5_kindHere 26 = .ok (.bipush 101, 2) := by decide +kernel
theorem dX5_kindHere_28 : decode cX5_kindHere 28 = .ok (.invokevirtual 111, 3) := by decide +kernel
theorem dX5_kindHere_31 : decode cX5_kindHere 31 = .ok (.ifCond .eq 5, 3) := by decide +kernel
theorem dX5_kindHere_34 : decode cX5_kindHere 34 = .ok (.iconst 1, 1) := by decide +kernel
theorem dX5_kindHere_35 : decode cX5_kindHere 35 = .ok (.ireturn, 1) := by decide +kernel
theorem dX5_kindHere_36 : decode cX5_kindHere 36 = .ok (.aload_n 0, 1) := by decide +kernel
theorem dX5_kindHere_37 : decode cX5_kindHere 37 = .ok (.bipush 104, 2) := by decide +kernel
theorem dX5_kindHere_39 : decode cX5_kindHere 39 = .ok (.bipush 97, 2) := by decide +kernel
theorem dX5_kindHere_41 : decode cX5_kindHere 41 = .ok (.bipush 110, 2) := by decide +kernel
theorem dX5_kindHere_43 : decode cX5_kindHere 43 = .ok (.bipush 100, 2) := by decide +kernel
theorem dX5_kindHere_45 : decode cX5_kindHere 45 = .ok (.invokevirtual 111, 3) := by decide +kernel
theorem dX5_kindHere_48 : decode cX5_kindHere 48 = .ok (.ifCond .eq 5, 3) := by decide +kernel
theorem dX5_kindHere_51 : decode cX5_kindHere 51 = .ok (.iconst 2, 1) := by decide +kernel
theorem dX5_kindHere_52 : decode cX5_kindHere 52 = .ok (.ireturn, 1) := by decide +kernel
theorem dX5_kindHere_53 : decode cX5_kindHere 53 = .ok (.aload_n 0, 1) := by decide +kernel
theorem dX5_kindHere_54 : decode cX5_kindHere 54 = .ok (.bipush 99, 2) := by decide +kernel
theorem dX5_kindHere_56 : decode cX5_kindHere 56 = .ok (.bipush 111, 2) := by decide +kernel
theorem dX5_kindHere_58 : decode cX5_kindHere 58 = .ok (.bipush 111, 2) := by decide +kernel
theorem dX5_kindHere_60 : decode cX5_kindHere 60 = .ok (.bipush 107, 2) := by decide +kernel
theorem dX5_kindHere_62 : decode cX5_kindHere 62 = .ok (.invokevirtual 111, 3) := by decide +kernel
theorem dX5_kindHere_65 : decode cX5_kindHere 65 = .ok (.ifCond .eq 5, 3) := by decide +kernel
theorem dX5_kindHere_68 : decode cX5_kindHere 68 = .ok (.iconst 3, 1) := by decide +kernel
theorem dX5_kindHere_69 : decode cX5_kindHere 69 = .ok (.ireturn, 1) := by decide +kernel
theorem dX5_kindHere_70 : decode cX5_kindHere 70 = .ok (.aload_n 0, 1) := by decide +kernel
theorem dX5_kindHere_71 : decode cX5_kindHere 71 = .ok (.bipush 99, 2) := by decide +kernel
theorem dX5_kindHere_73 : decode cX5_kindHere 73 = .ok (.bipush 104, 2) := by decide +kernel
theorem dX5_kindHere_75 : decode cX5_kindHere 75 = .ok (.bipush 105, 2) := by decide +kernel
theorem dX5_kindHere_77 : decode cX5_kindHere 77 = .ok (.bipush 101, 2) := by decide +kernel
theorem dX5_kindHere_79 : decode cX5_kindHere 79 = .ok (.bipush 102, 2) := by decide +kernel
theorem dX5_kindHere_81 : decode cX5_kindHere 81 = .ok (.invokevirtual 108, 3) := by decide +kernel
theorem dX5_kindHere_84 : decode cX5_kindHere 84 = .ok (.ifCond .eq 5, 3) := by decide +kernel
theorem dX5_kindHere_87 : decode cX5_kindHere 87 = .ok (.iconst 4, 1) := by decide +kernel
theorem dX5_kindHere_88 : decode cX5_kindHere 88 = .ok (.ireturn, 1) := by decide +kernel
theorem dX5_kindHere_89 : decode cX5_kindHere 89 = .ok (.aload_n 0, 1) := by decide +kernel
theorem dX5_kindHere_90 : decode cX5_kindHere 90 = .ok (.bipush 114, 2) := by decide +kernel
theorem dX5_kindHere_92 : decode cX5_kindHere 92 = .ok (.bipush 105, 2) := by decide +kernel
theorem dX5_kindHere_94 : decode cX5_kindHere 94 = .ok (.bipush 118, 2) := by decide +kernel
theorem dX5_kindHere_96 : decode cX5_kindHere 96 = .ok (.bipush 97, 2) := by decide +kernel
theorem dX5_kindHere_98 : decode cX5_kindHere 98 = .ok (.bipush 108, 2) := by decide +kernel
theorem dX5_kindHere_100 : decode cX5_kindHere 100 = .ok (.invokevirtual 108, 3) := by decide +kernel
theorem dX5_kindHere_103 : decode cX5_kindHere 103 = .ok (.ifCond .eq 7, 3) := by decide +kernel
theorem dX5_kindHere_106 : decode cX5_kindHere 106 = .ok (.iconst 5, 1) := by decide +kernel
theorem dX5_kindHere_107 : decode cX5_kindHere 107 = .ok (.goto 4, 3) := by decide +kernel
theorem dX5_kindHere_110 : decode cX5_kindHere 110 = .ok (.iconst (-1), 1) := by decide +kernel
theorem dX5_kindHere_111 : decode cX5_kindHere 111 = .ok (.ireturn, 1) := by decide +kernel
set_option maxRecDepth 20000 in
theorem ggX5_numberTo_X5_needs : GoodIn wsX5_numberTo wsX5_needs := goodIn_r _ [11, 5, 12, 13, 14, 10, 15, 2, 3, 1, 4, 16, 17, 18, 19, 20, 21, 22, 23, 24, 25, 26, 27, 28, 29, 30, 31, 32, 33, 34, 35, 36, 37, 38, 39, 40, 41, 42, 43, 44, 45, 46, 47, 48, 49, 50, 51, 52, 53, 54, 55, 56] (by decide +kernel) (by decide +kernel)
set_option maxRecDepth 20000 in
theorem gX5_numberTo_X5_needs : GoodIn wsX5_numberTo (wsV RX5 115 RX5 yX5_needs wsX5_needs) := goodIn_app (goodIn_of _ (by decide +kernel)) ggX5_numberTo_X5_needs
theorem dX5_numberTo_0 : decode cX5_numberTo 0 = .ok (.aload_n 0, 1) := by decide +kernel
theorem dX5_numberTo_1 : decode cX5_numberTo 1 = .ok (.getfield 91, 3) := by decide +kernel
theorem dX5_numberTo_4 : decode cX5_numberTo 4 = .ok (.iconst 2, 1) := by decide +kernel
theorem dX5_numberTo_5 : decode cX5_numberTo 5 = .ok (.if_icmp .ne 36, 3) := by decide +kernel
theorem dX5_numberTo_8 : decode cX5_numberTo 8 = .ok (.aload_n 0, 1) := by decide +kernel
theorem dX5_numberTo_9 : decode cX5_numberTo 9 = .ok (.getfield 74, 3) := by decide +kernel
theorem dX5_numberTo_12 : decode cX5_numberTo 12 = .ok (.aload_n 0, 1) := by decide +kernel
theorem dX5_numberTo_13 : decode cX5_numberTo 13 = .ok (.getfield 77, 3) := by decide +kernel
theorem dX5_numberTo_16 : decode cX5_numberTo 16 = .ok (.isub, 1) := by decide +kernel
theorem dX5_numberTo_17 : decode cX5_numberTo 17 = .ok (.iconst 3, 1) := by decide +kernel
theorem dX5_numberTo_18 : decode cX5_numberTo 18 = .ok (.if_icmp .gt 23, 3) := by decide +kernel
theorem dX5_numberTo_21 : decode cX5_numberTo 21 = .ok (.aload_n 0, 1) := by decide +kernel
theorem dX5_numberTo_22 : decode cX5_numberTo 22 = .ok (.getfield 94, 3) := by decide +kernel
theorem dX5_numberTo_25 : decode cX5_numberTo 25 = .ok (.iload_n 2, 1) := by decide +kernel
theorem dX5_numberTo_26 : decode cX5_numberTo 26 = .ok (.if_icmp .lt 15, 3) := by decide +kernel
theorem dX5_numberTo_29 : decode cX5_numberTo 29 = .ok (.aload_n 0, 1) := by decide +kernel
theorem dX5_numberTo_30 : decode cX5_numberTo 30 = .ok (.getfield 94, 3) := by decide +kernel
theorem dX5_numberTo_33 : decode cX5_numberTo 33 = .ok (.iload_n 3, 1) := by decide +kernel
theorem dX5_numberTo_34 : decode cX5_numberTo 34 = .ok (.if_icmp .gt 7, 3) := by decide +kernel
theorem dX5_numberTo_37 : decode cX5_numberTo 37 = .ok (.iconst 1, 1) := by decide +kernel
theorem dX5_numberTo_38 : decode cX5_numberTo 38 = .ok (.goto 4, 3) := by decide +kernel
theorem dX5_numberTo_41 : decode cX5_numberTo 41 = .ok (.iconst 0, 1) := by decide +kernel
theorem dX5_numberTo_42 : decode cX5_numberTo 42 = .ok (.istore 4, 2) := by decide +kernel
theorem dX5_numberTo_44 : decode cX5_numberTo 44 = .ok (.iload 4, 2) := by decide +kernel
theorem dX5_numberTo_46 : decode cX5_numberTo 46 = .ok (.ifCond .eq 20, 3) := by decide +kernel
theorem dX5_numberTo_49 : decode cX5_numberTo 49 = .ok (.aload_n 0, 1) := by decide +kernel
theorem dX5_numberTo_50 : decode cX5_numberTo 50 = .ok (.getfield 97, 3) := by decide +kernel
theorem dX5_numberTo_53 : decode cX5_numberTo 53 = .ok (.ifCond .ne 13, 3) := by decide +kernel
theorem dX5_numberTo_56 : decode cX5_numberTo 56 = .ok (.aload_n 0, 1) := by decide +kernel
theorem dX5_numberTo_57 : decode cX5_numberTo 57 = .ok (.getfield 7, 3) := by decide +kernel
theorem dX5_numberTo_60 : decode cX5_numberTo 60 = .ok (.iload_n 1, 1) := by decide +kernel
theorem dX5_numberTo_61 : decode cX5_numberTo 61 = .ok (.aload_n 0, 1) := by decide +kernel
theorem dX5_numberTo_62 : decode cX5_numberTo 62 = .ok (.getfield 94, 3) := by decide +kernel
theorem dX5_numberTo_65 : decode cX5_numberTo 65 = .ok (.iastore, 1) := by decide +kernel
theorem dX5_numberTo_66 : decode cX5_numberTo 66 = .ok (.aload_n 0, 1) := by decide +kernel
theorem dX5_numberTo_67 : decode cX5_numberTo 67 = .ok (.iload 4, 2) := by decide +kernel
theorem dX5_numberTo_69 : decode cX5_numberTo 69 = .ok (.invokevirtual 115, 3) := by decide +kernel
theorem dX5_numberTo_72 : decode cX5_numberTo 72 = .ok (.return_, 1) := by decide +kernel
set_option maxRecDepth 20000 in
theorem ggX5_perhaps_X5_nextToken : GoodIn wsX5_perhaps wsX5_nextToken := goodIn_r _ [6, 7, 8, 9, 10, 11, 12, 13, 5, 14, 15, 16, 17, 18, 19, 20, 21, 22, 32, 33, 34, 35, 36, 37, 38, 39, 40, 41, 42, 43, 44, 45, 46, 47, 48, 49, 50, 51, 52, 53, 54, 55, 56, 57, 58, 59, 60] (by decide +kernel) (by decide +kernel)
set_option maxRecDepth 20000 in
theorem gX5_perhaps_X5_nextToken : GoodIn wsX5_perhaps (wsV RX5 101 RX5 yX5_nextToken wsX5_nextToken) := goodIn_app (goodIn_of _ (by decide +kernel)) ggX5_perhaps_X5_nextToken
set_option maxRecDepth 20000 in
theorem ggX5_perhaps_X5_numberTo : GoodIn wsX5_perhaps wsX5_numberTo := goodIn_r _ [26, 9, 7, 8, 10, 1, 27, 28, 29, 30, 5, 31, 2, 3, 4, 6, 11, 12, 13, 14, 15, 16, 17, 18, 19, 20, 21, 22, 32, 33, 34, 35, 36, 37, 38, 39, 40, 41, 42, 43, 44, 45, 46, 47, 48, 49, 50, 51, 52, 53, 54, 55, 56, 57, 58, 59, 60] (by decide +kernel) (by decide +kernel)
set_option maxRecDepth 20000 in
theorem gX5_perhaps_X5_numberTo : GoodIn wsX5_perhaps (wsV RX5 119 RX5 yX5_numberTo wsX5_numberTo) := goodIn_app (goodIn_of _ (by decide +kernel)) ggX5_perhaps_X5_numberTo
theorem dX5_perhaps_0 : decode cX5_perhaps 0 = .ok (.aload_n 0, 1) := by decide +kernel
theorem dX5_perhaps_1 : decode cX5_perhaps 1 = .ok (.getfield 97, 3) := by decide +kernel
theorem dX5_perhaps_4 : decode cX5_perhaps 4 = .ok (.ifCond .ne 18, 3) := by decide +kernel
theorem dX5_perhaps_7 : decode cX5_perhaps 7 = .ok (.iload_n 1, 1) := by decide +kernel
theorem dX5_perhaps_8 : decode cX5_perhaps 8 = .ok (.ifCond .eq 14, 3) := by decide +kernel
theorem dX5_perhaps_11 : decode cX5_perhaps 11 = .ok (.aload_n 0, 1) := by decide +kernel
theorem dX5_perhaps_12 : decode cX5_perhaps 12 = .ok (.invokevirtual 101, 3) := by decide +kernel
theorem dX5_perhaps_15 : decode cX5_perhaps 15 = .ok (.aload_n 0, 1) := by decide +kernel
theorem dX5_perhaps_16 : decode cX5_perhaps 16 = .ok (.iload_n 2, 1) := by decide +kernel
theorem dX5_perhaps_17 : decode cX5_perhaps 17 = .ok (.iconst 0, 1) := by decide +kernel
theorem dX5_perhaps_18 : decode cX5_perhaps 18 = .ok (.iload_n 3, 1) := by decide +kernel
theorem dX5_perhaps_19 : decode cX5_perhaps 19 = .ok (.invokevirtual 119, 3) := by decide +kernel
theorem dX5_perhaps_22 : decode cX5_perhaps 22 = .ok (.return_, 1) := by decide +kernel
set_option maxRecDepth 20000 in
theorem ggX5_personHere_X5_needs : GoodIn wsX5_personHere wsX5_needs := goodIn_r _ [10, 5, 11, 12, 13, 9, 14, 3, 4, 2, 15, 16, 17, 18, 19, 20, 21, 22, 23, 24, 25, 26, 27, 48, 49, 50, 51, 52, 53, 54, 55, 56, 57, 58, 59, 60, 61, 62, 63, 64, 65, 66, 67, 68, 69, 70, 71, 72, 73, 74, 75, 76] (by decide +kernel) (by decide +kernel)
set_option maxRecDepth 20000 in
theorem gX5_personHere_X5_needs : GoodIn wsX5_personHere (wsV RX5 115 RX5 yX5_needs wsX5_needs) := goodIn_app (goodIn_of _ (by decide +kernel)) ggX5_personHere_X5_needs
set_option maxRecDepth 20000 in
theorem ggX5_personHere_X5_byteAt : GoodIn wsX5_personHere wsX5_byteAt := goodIn_r _ [19, 20, 21, 48, 49, 50, 51, 52, 53, 54, 55, 56, 57, 58, 59, 60, 61, 62, 63, 64, 65, 66, 67, 68, 69, 70, 71, 72, 73, 74, 75, 76] (by decide +kernel) (by decide +kernel)
set_option maxRecDepth 20000 in
theorem gX5_personHere_X5_byteAt : GoodIn wsX5_personHere (wsV RX5 80 RX5 yX5_byteAt wsX5_byteAt) := goodIn_app (goodIn_of _ (by decide +kernel)) ggX5_personHere_X5_byteAt
set_option maxRecDepth 20000 in
theorem ggX5_personHere_X5_comes : GoodIn wsX5_personHere wsX5_comes := goodIn_r _ [31, 1, 48, 49, 50, 51, 52, 53, 54, 55, 56, 57, 58, 59, 60, 61, 62, 63, 64, 65, 66, 67, 68, 69, 70, 71, 72, 73, 74, 75, 76] (by decide +kernel) (by decide +kernel)
set_option maxRecDepth 20000 in
theorem gX5_personHere_X5_comes : GoodIn wsX5_personHere (wsV RX5 123 RX5 yX5_comes wsX5_comes) := goodIn_app (goodIn_of _ (by decide +kernel)) ggX5_personHere_X5_comes
set_option maxRecDepth 20000 in
theorem ggX5_personHere_X5_numberTo : GoodIn wsX5_personHere wsX5_numberTo := goodIn_r _ [35, 2, 3, 4, 15, 5, 1, 6, 7, 8, 9, 10, 11, 12, 13, 14, 16, 17, 18, 19, 20, 21, 22, 23, 24, 25, 26, 27, 48, 49, 50, 51, 52, 53, 54, 55, 56, 57, 58, 59, 60, 61, 62, 63, 64, 65, 66, 67, 68, 69, 70, 71, 72, 73, 74, 75, 76] (by decide +kernel) (by decide +kernel)
set_option maxRecDepth 20000 in
theorem gX5_personHere_X5_numberTo : GoodIn wsX5_personHere (wsV RX5 119 RX5 yX5_numberTo wsX5_numberTo) := goodIn_app (goodIn_of _ (by decide +kernel)) ggX5_personHere_X5_numberTo
set_option maxRecDepth 20000 in
theorem ggX5_personHere_X5_isFive : GoodIn wsX5_personHere wsX5_isFive := goodIn_r _ [39, 4, 40, 41, 42, 9, 43, 2, 3, 16, 17, 18, 19, 20, 21, 48, 49, 50, 51, 52, 53, 54, 55, 56, 57, 58, 59, 60, 61, 62, 63, 64, 65, 66, 67, 68, 69, 70, 71, 72, 73, 74, 75, 76] (by decide +kernel) (by decide +kernel)
set_option maxRecDepth 20000 in
theorem gX5_personHere_X5_isFive : GoodIn wsX5_personHere (wsV RX5 108 RX5 yX5_isFive wsX5_isFive) := goodIn_app (goodIn_of _ (by decide +kernel)) ggX5_personHere_X5_isFive
set_option maxRecDepth 20000 in
theorem ggX5_personHere_X5_perhaps : GoodIn wsX5_personHere wsX5_perhaps := goodIn_r _ [47, 5, 11, 12, 13, 9, 14, 3, 4, 2, 15, 16, 17, 18, 19, 20, 21, 22, 23, 24, 25, 26, 27, 32, 33, 34, 35, 1, 6, 7, 8, 10, 48, 49, 50, 51, 52, 53, 54, 55, 56, 57, 58, 59, 60, 61, 62, 63, 64, 65, 66, 67, 68, 69, 70, 71, 72, 73, 74, 75, 76] (by decide +kernel) (by decide +kernel)
set_option maxRecDepth 20000 in
theorem gX5_personHere_X5_perhaps : GoodIn wsX5_personHere (wsV RX5 127 RX5 yX5_perhaps wsX5_perhaps) := goodIn_app (goodIn_of _ (by decide +kernel)) ggX5_personHere_X5_perhaps
set_option maxRecDepth 20000 in
theorem ggX5_personHere_X5_isName : GoodIn wsX5_personHere wsX5_isName := goodIn_r _ [43, 2, 3, 4, 16, 17, 18, 9, 19, 20, 21, 48, 49, 50, 51, 52, 53, 54, 55, 56, 57, 58, 59, 60, 61, 62, 63, 64, 65, 66, 67, 68, 69, 70, 71, 72, 73, 74, 75, 76] (by decide +kernel) (by decide +kernel)
set_option maxRecDepth 20000 in
theorem gX5_personHere_X5_isName : GoodIn wsX5_personHere (wsV RX5 104 RX5 yX5_isName wsX5_isName) := goodIn_app (goodIn_of _ (by decide +kernel)) ggX5_personHere_X5_isName
set_option maxRecDepth 20000 in
theorem ggX5_personHere_X5_nextToken : GoodIn wsX5_personHere wsX5_nextToken := goodIn_r _ [14, 3, 4, 2, 15, 16, 17, 18, 9, 19, 20, 21, 22, 23, 24, 25, 26, 27, 48, 49, 50, 51, 52, 53, 54, 55, 56, 57, 58, 59, 60, 61, 62, 63, 64, 65, 66, 67, 68, 69, 70, 71, 72, 73, 74, 75, 76] (by decide +kernel) (by decide +kernel)
set_option maxRecDepth 20000 in
theorem gX5_personHere_X5_nextToken : GoodIn wsX5_personHere (wsV RX5 101 RX5 yX5_nextToken wsX5_nextToken) := goodIn_app (goodIn_of _ (by decide +kernel)) ggX5_personHere_X5_nextToken
theorem dX5_personHere_0 : decode cX5_personHere 0 = .ok (.bipush 7, 2) := by decide +kernel
theorem dX5_personHere_2 : decode cX5_personHere 2 = .ok (.iconst 5, 1) := by decide +kernel
theorem dX5_personHere_3 : decode cX5_personHere 3 = .ok (.aload_n 0, 1) := by decide +kernel
theorem dX5_personHere_4 : decode cX5_personHere 4 = .ok (.getfield 7, 3) := by decide +kernel
theorem dX5_personHere_7 : decode cX5_personHere 7 = .ok (.iconst 0, 1) := by decide +kernel
theorem dX5_personHere_8 : decode cX5_personHere 8 = .ok (.iaload, 1) := by decide +kernel
theorem dX5_personHere_9 : decode cX5_personHere 9 = .ok (.imul, 1) := by decide +kernel
theorem dX5_personHere_10 : decode cX5_personHere 10 = .ok (.iadd, 1) := by decide +kernel
theorem dX5_personHere_11 : decode cX5_personHere 11 = .ok (.istore_n 2, 1) := by decide +kernel
theorem dX5_personHere_12 : decode cX5_personHere 12 = .ok (.aload_n 0, 1) := by decide +kernel
theorem dX5_personHere_13 : decode cX5_personHere 13 = .ok (.aload_n 0, 1) := by decide +kernel
theorem dX5_personHere_14 : decode cX5_personHere 14 = .ok (.getfield 7, 3) := by decide +kernel
theorem dX5_personHere_17 : decode cX5_personHere 17 = .ok (.iconst 0, 1) := by decide +kernel
theorem dX5_personHere_18 : decode cX5_personHere 18 = .ok (.iaload, 1) := by decide +kernel
theorem dX5_personHere_19 : decode cX5_personHere 19 = .ok (.bipush 8, 2) := by decide +kernel
theorem dX5_personHere_21 : decode cX5_personHere 21 = .ok (.if_icmp .ge 7, 3) := by decide +kernel
theorem dX5_personHere_24 : decode cX5_personHere 24 = .ok (.iconst 1, 1) := by decide +kernel
theorem dX5_personHere_25 : decode cX5_personHere 25 = .ok (.goto 4, 3) := by decide +kernel
theorem dX5_personHere_28 : decode cX5_personHere 28 = .ok (.iconst 0, 1) := by decide +kernel
theorem dX5_personHere_29 : decode cX5_personHere 29 = .ok (.invokevirtual 115, 3) := by decide +kernel
theorem dX5_personHere_32 : decode cX5_personHere 32 = .ok (.aload_n 0, 1) := by decide +kernel
theorem dX5_personHere_33 : decode cX5_personHere 33 = .ok (.aload_n 0, 1) := by decide +kernel
theorem dX5_personHere_34 : decode cX5_personHere 34 = .ok (.getfield 91, 3) := by decide +kernel
theorem dX5_personHere_37 : decode cX5_personHere 37 = .ok (.iconst 1, 1) := by decide +kernel
theorem dX5_personHere_38 : decode cX5_personHere 38 = .ok (.if_icmp .ne 48, 3) := by decide +kernel
theorem dX5_personHere_41 : decode cX5_personHere 41 = .ok (.aload_n 0, 1) := by decide +kernel
theorem dX5_personHere_42 : decode cX5_personHere 42 = .ok (.getfield 74, 3) := by decide +kernel
theorem dX5_personHere_45 : decode cX5_personHere 45 = .ok (.aload_n 0, 1) := by decide +kernel
theorem dX5_personHere_46 : decode cX5_personHere 46 = .ok (.getfield 77, 3) := by decide +kernel
theorem dX5_personHere_49 : decode cX5_personHere 49 = .ok (.isub, 1) := by decide +kernel
theorem dX5_personHere_50 : decode cX5_personHere 50 = .ok (.iconst 2, 1) := by decide +kernel
theorem dX5_personHere_51 : decode cX5_personHere 51 = .ok (.if_icmp .ne 35, 3) := by decide +kernel
theorem dX5_personHere_54 : decode cX5_personHere 54 = .ok (.aload_n 0, 1) := by decide +kernel
theorem dX5_personHere_55 : decode cX5_personHere 55 = .ok (.aload_n 0, 1) := by decide +kernel
theorem dX5_personHere_56 : decode cX5_personHere 56 = .ok (.getfield 77, 3) := by decide +kernel
theorem dX5_personHere_59 : decode cX5_personHere 59 = .ok (.invokevirtual 80, 3) := by decide +kernel
theorem dX5_personHere_62 : decode cX5_personHere 62 = .ok (.bipush 105, 2) := by decide +kernel
theorem dX5_personHere_64 : decode cX5_personHere 64 = .ok (.if_icmp .ne 22, 3) := by decide +kernel
theorem dX5_personHere_67 : decode cX5_personHere 67 = .ok (.aload_n 0, 1) := by decide +kernel
theorem dX5_personHere_68 : decode cX5_personHere 68 = .ok (.aload_n 0, 1) := by decide +kernel
theorem dX5_personHere_69 : decode cX5_personHere 69 = .ok (.getfield 77, 3) := by decide +kernel
theorem dX5_personHere_72 : decode cX5_personHere 72 = .ok (.iconst 1, 1) := by decide +kernel
theorem dX5_personHere_73 : decode cX5_personHere 73 = .ok (.iadd, 1) := by decide +kernel
theorem dX5_personHere_74 : decode cX5_personHere 74 = .ok (.invokevirtual 80, 3) := by decide +kernel
theorem dX5_personHere_77 : decode cX5_personHere 77 = .ok (.bipush 110, 2) := by decide +kernel
theorem dX5_personHere_79 : decode cX5_personHere 79 = .ok (.if_icmp .ne 7, 3) := by decide +kernel
theorem dX5_personHere_82 : decode cX5_personHere 82 = .ok (.iconst 1, 1) := by decide +kernel
theorem dX5_personHere_83 : decode cX5_personHere 83 = .ok (.goto 4, 3) := by decide +kernel
theorem dX5_personHere_86 : decode cX5_personHere 86 = .ok (.iconst 0, 1) := by decide +kernel
theorem dX5_personHere_87 : decode cX5_personHere 87 = .ok (.invokevirtual 115, 3) := by decide +kernel
theorem dX5_personHere_90 : decode cX5_personHere 90 = .ok (.aload_n 0, 1) := by decide +kernel
theorem dX5_personHere_91 : decode cX5_personHere 91 = .ok (.getfield 97, 3) := by decide +kernel
theorem dX5_personHere_94 : decode cX5_personHere 94 = .ok (.ifCond .ne 11, 3) := by decide +kernel
theorem dX5_personHere_97 : decode cX5_personHere 97 = .ok (.aload_n 0, 1) := by decide +kernel
theorem dX5_personHere_98 : decode cX5_personHere 98 = .ok (.iload_n 1, 1) := by decide +kernel
theorem dX5_personHere_99 : decode cX5_personHere 99 = .ok (.iconst 0, 1) := by decide +kernel
theorem dX5_personHere_100 : decode cX5_personHere 100 = .ok (.iconst 3, 1) := by decide +kernel
theorem dX5_personHere_101 : decode cX5_personHere 101 = .ok (.iconst 0, 1) := by decide +kernel
theorem dX5_personHere_102 : decode cX5_personHere 102 = .ok (.invokevirtual 123, 3) := by decide +kernel
theorem dX5_personHere_105 : decode cX5_personHere 105 = .ok (.aload_n 0, 1) := by decide +kernel
theorem dX5_personHere_106 : decode cX5_personHere 106 = .ok (.aload_n 0, 1) := by decide +kernel
theorem dX5_personHere_107 : decode cX5_personHere 107 = .ok (.getfield 97, 3) := by decide +kernel
theorem dX5_personHere_110 : decode cX5_personHere 110 = .ok (.ifCond .eq 7, 3) := by decide +kernel
theorem dX5_personHere_113 : decode cX5_personHere 113 = .ok (.iconst 0, 1) := by decide +kernel
theorem dX5_personHere_114 : decode cX5_personHere 114 = .ok (.goto 6, 3) := by decide +kernel
theorem dX5_personHere_117 : decode cX5_personHere 117 = .ok (.iload_n 2, 1) := by decide +kernel
theorem dX5_personHere_118 : decode cX5_personHere 118 = .ok (.iconst 3, 1) := by decide +kernel
theorem dX5_personHere_119 : decode cX5_personHere 119 = .ok (.iadd, 1) := by decide +kernel
theorem dX5_personHere_120 : decode cX5_personHere 120 = .ok (.iconst 0, 1) := by decide +kernel
theorem dX5_personHere_121 : decode cX5_personHere 121 = .ok (.bipush 7, 2) := by decide +kernel
theorem dX5_personHere_123 : decode cX5_personHere 123 = .ok (.invokevirtual 119, 3) := by decide +kernel
theorem dX5_personHere_126 : decode cX5_personHere 126 = .ok (.aload_n 0, 1) := by decide +kernel
theorem dX5_personHere_127 : decode cX5_personHere 127 = .ok (.aload_n 0, 1) := by decide +kernel
theorem dX5_personHere_128 : decode cX5_personHere 128 = .ok (.bipush 112, 2) := by decide +kernel
theorem dX5_personHere_130 : decode cX5_personHere 130 = .ok (.bipush 114, 2) := by decide +kernel
theorem dX5_personHere_132 : decode cX5_personHere 132 = .ok (.bipush 105, 2) := by decide +kernel
theorem dX5_personHere_134 : decode cX5_personHere 134 = .ok (.bipush 100, 2) := by decide +kernel
theorem dX5_personHere_136 : decode cX5_personHere 136 = .ok (.bipush 101, 2) := by decide +kernel
theorem dX5_personHere_138 : decode cX5_personHere 138 = .ok (.invokevirtual 108, 3) := by decide +kernel
theorem dX5_personHere_141 : decode cX5_personHere 141 = .ok (.iload_n 2, 1) := by decide +kernel
theorem dX5_personHere_142 : decode cX5_personHere 142 = .ok (.iconst 1, 1) := by decide +kernel
theorem dX5_personHere_143 : decode cX5_personHere 143 = .ok (.iadd, 1) := by decide +kernel
theorem dX5_personHere_144 : decode cX5_personHere 144 = .ok (.bipush 99, 2) := by decide +kernel
theorem dX5_personHere_146 : decode cX5_personHere 146 = .ok (.invokevirtual 127, 3) := by decide +kernel
theorem dX5_personHere_149 : decode cX5_personHere 149 = .ok (.aload_n 0, 1) := by decide +kernel
theorem dX5_personHere_150 : decode cX5_personHere 150 = .ok (.aload_n 0, 1) := by decide +kernel
theorem dX5_personHere_151 : decode cX5_personHere 151 = .ok (.iconst 3, 1) := by decide +kernel
theorem dX5_personHere_152 : decode cX5_personHere 152 = .ok (.bipush 101, 2) := by decide +kernel
theorem dX5_personHere_154 : decode cX5_personHere 154 = .ok (.bipush 97, 2) := by decide +kernel
theorem dX5_personHere_156 : decode cX5_personHere 156 = .ok (.bipush 114, 2) := by decide +kernel
theorem dX5_personHere_158 : decode cX5_personHere 158 = .ok (.bipush 114, 2) := by decide +kernel
theorem dX5_personHere_160 : decode cX5_personHere 160 = .ok (.invokevirtual 104, 3) := by decide +kernel
theorem dX5_personHere_163 : decode cX5_personHere 163 = .ok (.iload_n 2, 1) := by decide +kernel
theorem dX5_personHere_164 : decode cX5_personHere 164 = .ok (.iconst 2, 1) := by decide +kernel
theorem dX5_personHere_165 : decode cX5_personHere 165 = .ok (.iadd, 1) := by decide +kernel
theorem dX5_personHere_166 : decode cX5_personHere 166 = .ok (.bipush 9, 2) := by decide +kernel
theorem dX5_personHere_168 : decode cX5_personHere 168 = .ok (.invokevirtual 127, 3) := by decide +kernel
theorem dX5_personHere_171 : decode cX5_personHere 171 = .ok (.aload_n 0, 1) := by decide +kernel
theorem dX5_personHere_172 : decode cX5_personHere 172 = .ok (.getfield 97, 3) := by decide +kernel
theorem dX5_personHere_175 : decode cX5_personHere 175 = .ok (.ifCond .ne 33, 3) := by decide +kernel
theorem dX5_personHere_178 : decode cX5_personHere 178 = .ok (.aload_n 0, 1) := by decide +kernel
theorem dX5_personHere_179 : decode cX5_personHere 179 = .ok (.bipush 99, 2) := by decide +kernel
theorem dX5_personHere_181 : decode cX5_personHere 181 = .ok (.bipush 108, 2) := by decide +kernel
theorem dX5_personHere_183 : decode cX5_personHere 183 = .ok (.bipush 97, 2) := by decide +kernel
theorem dX5_personHere_185 : decode cX5_personHere 185 = .ok (.bipush 112, 2) := by decide +kernel
theorem dX5_personHere_187 : decode cX5_personHere 187 = .ok (.bipush 115, 2) := by decide +kernel
theorem dX5_personHere_189 : decode cX5_personHere 189 = .ok (.invokevirtual 108, 3) := by decide +kernel
theorem dX5_personHere_192 : decode cX5_personHere 192 = .ok (.ifCond .eq 16, 3) := by decide +kernel
theorem dX5_personHere_195 : decode cX5_personHere 195 = .ok (.aload_n 0, 1) := by decide +kernel
theorem dX5_personHere_196 : decode cX5_personHere 196 = .ok (.getfield 7, 3) := by decide +kernel
theorem dX5_personHere_199 : decode cX5_personHere 199 = .ok (.iload_n 2, 1) := by decide +kernel
theorem dX5_personHere_200 : decode cX5_personHere 200 = .ok (.iconst 4, 1) := by decide +kernel
theorem dX5_personHere_201 : decode cX5_personHere 201 = .ok (.iadd, 1) := by decide +kernel
theorem dX5_personHere_202 : decode cX5_personHere 202 = .ok (.iconst 1, 1) := by decide +kernel
theorem dX5_personHere_203 : decode cX5_personHere 203 = .ok (.iastore, 1) := by decide +kernel
theorem dX5_personHere_204 : decode cX5_personHere 204 = .ok (.aload_n 0, 1) := by decide +kernel
theorem dX5_personHere_205 : decode cX5_personHere 205 = .ok (.invokevirtual 101, 3) := by decide +kernel
theorem dX5_personHere_208 : decode cX5_personHere 208 = .ok (.return_, 1) := by decide +kernel
set_option maxRecDepth 20000 in
theorem ggX5_lawHere_X5_isName : GoodIn wsX5_lawHere wsX5_isName := goodIn_r _ [5, 6, 7, 8, 9, 10, 11, 4, 12, 13, 14, 23, 24, 25, 26, 27, 28, 29, 30, 31, 32, 33, 34, 35, 36, 37, 38, 39, 40, 41, 42, 43, 44, 45, 46, 47, 48, 49, 50, 51] (by decide +kernel) (by decide +kernel)
set_option maxRecDepth 20000 in
theorem gX5_lawHere_X5_isName : GoodIn wsX5_lawHere (wsV RX5 104 RX5 yX5_isName wsX5_isName) := goodIn_app (goodIn_of _ (by decide +kernel)) ggX5_lawHere_X5_isName
set_option maxRecDepth 20000 in
theorem ggX5_lawHere_X5_isFour : GoodIn wsX5_lawHere wsX5_isFour := goodIn_r _ [18, 1, 2, 3, 4, 5, 6, 7, 8, 9, 10, 11, 12, 13, 14, 23, 24, 25, 26, 27, 28, 29, 30, 31, 32, 33, 34, 35, 36, 37, 38, 39, 40, 41, 42, 43, 44, 45, 46, 47, 48, 49, 50, 51] (by decide +kernel) (by decide +kernel)
set_option maxRecDepth 20000 in
theorem gX5_lawHere_X5_isFour : GoodIn wsX5_lawHere (wsV RX5 111 RX5 yX5_isFour wsX5_isFour) := goodIn_app (goodIn_of _ (by decide +kernel)) ggX5_lawHere_X5_isFour
set_option maxRecDepth 20000 in
theorem ggX5_lawHere_X5_isFive : GoodIn wsX5_lawHere wsX5_isFive := goodIn_r _ [22, 8, 1, 2, 3, 4, 5, 6, 7, 9, 10, 11, 12, 13, 14, 23, 24, 25, 26, 27, 28, 29, 30, 31, 32, 33, 34, 35, 36, 37, 38, 39, 40, 41, 42, 43, 44, 45, 46, 47, 48, 49, 50, 51] (by decide +kernel) (by decide +kernel)
set_option maxRecDepth 20000 in
theorem gX5_lawHere_X5_isFive : GoodIn wsX5_lawHere (wsV RX5 108 RX5 yX5_isFive wsX5_isFive) := goodIn_app (goodIn_of _ (by decide +kernel)) ggX5_lawHere_X5_isFive
theorem dX5_lawHere_0 : decode cX5_lawHere 0 = .ok (.aload_n 0, 1) := by decide +kernel
theorem dX5_lawHere_1 : decode cX5_lawHere 1 = .ok (.iconst 3, 1) := by decide +kernel
theorem dX5_lawHere_2 : decode cX5_lawHere 2 = .ok (.bipush 112, 2) := by decide +kernel
theorem dX5_lawHere_4 : decode cX5_lawHere 4 = .ok (.bipush 97, 2) := by decide +kernel
theorem dX5_lawHere_6 : decode cX5_lawHere 6 = .ok (.bipush 121, 2) := by decide +kernel
theorem dX5_lawHere_8 : decode cX5_lawHere 8 = .ok (.bipush 121, 2) := by decide +kernel
theorem dX5_lawHere_10 : decode cX5_lawHere 10 = .ok (.invokevirtual 104, 3) := by decide +kernel
theorem dX5_lawHere_13 : decode cX5_lawHere 13 = .ok (.ifCond .eq 5, 3) := by decide +kernel
theorem dX5_lawHere_16 : decode cX5_lawHere 16 = .ok (.iconst 3, 1) := by decide +kernel
theorem dX5_lawHere_17 : decode cX5_lawHere 17 = .ok (.ireturn, 1) := by decide +kernel
theorem dX5_lawHere_18 : decode cX5_lawHere 18 = .ok (.aload_n 0, 1) := by decide +kernel
theorem dX5_lawHere_19 : decode cX5_lawHere 19 = .ok (.iconst 3, 1) := by decide +kernel
theorem dX5_lawHere_20 : decode cX5_lawHere 20 = .ok (.bipush 99, 2) := by decide +kernel
theorem dX5_lawHere_22 : decode cX5_lawHere 22 = .ok (.bipush 117, 2) := by decide +kernel
theorem dX5_lawHere_24 : decode cX5_lawHere 24 = .ok (.bipush 101, 2) := by decide +kernel
theorem dX5_lawHere_26 : decode cX5_lawHere 26 = .ok (.bipush 101, 2) := by decide +kernel
theorem dX5_lawHere_28 : decode cX5_lawHere 28 = .ok (.invokevirtual 104, 3) := by decide +kernel
theorem dX5_lawHere_31 : decode cX5_lawHere 31 = .ok (.ifCond .eq 5, 3) := by decide +kernel
theorem dX5_lawHere_34 : decode cX5_lawHere 34 = .ok (.iconst 4, 1) := by decide +kernel
theorem dX5_lawHere_35 : decode cX5_lawHere 35 = .ok (.ireturn, 1) := by decide +kernel
theorem dX5_lawHere_36 : decode cX5_lawHere 36 = .ok (.aload_n 0, 1) := by decide +kernel
theorem dX5_lawHere_37 : decode cX5_lawHere 37 = .ok (.bipush 119, 2) := by decide +kernel
theorem dX5_lawHere_39 : decode cX5_lawHere 39 = .ok (.bipush 97, 2) := by decide +kernel
theorem dX5_lawHere_41 : decode cX5_lawHere 41 = .ok (.bipush 108, 2) := by decide +kernel
theorem dX5_lawHere_43 : decode cX5_lawHere 43 = .ok (.bipush 108, 2) := by decide +kernel
theorem dX5_lawHere_45 : decode cX5_lawHere 45 = .ok (.invokevirtual 111, 3) := by decide +kernel
theorem dX5_lawHere_48 : decode cX5_lawHere 48 = .ok (.ifCond .eq 5, 3) := by decide +kernel
theorem dX5_lawHere_51 : decode cX5_lawHere 51 = .ok (.iconst 5, 1) := by decide +kernel
theorem dX5_lawHere_52 : decode cX5_lawHere 52 = .ok (.ireturn, 1) := by decide +kernel
theorem dX5_lawHere_53 : decode cX5_lawHere 53 = .ok (.aload_n 0, 1) := by decide +kernel
theorem dX5_lawHere_54 : decode cX5_lawHere 54 = .ok (.bipush 119, 2) := by decide +kernel
theorem dX5_lawHere_56 : decode cX5_lawHere 56 = .ok (.bipush 114, 2) := by decide +kernel
theorem dX5_lawHere_58 : decode cX5_lawHere 58 = .ok (.bipush 111, 2) := by decide +kernel
theorem dX5_lawHere_60 : decode cX5_lawHere 60 = .ok (.bipush 110, 2) := by decide +kernel
theorem dX5_lawHere_62 : decode cX5_lawHere 62 = .ok (.bipush 103, 2) := by decide +kernel
theorem dX5_lawHere_64 : decode cX5_lawHere 64 = .ok (.invokevirtual 108, 3) := by decide +kernel
theorem dX5_lawHere_67 : decode cX5_lawHere 67 = .ok (.ifCond .eq 8, 3) := by decide +kernel
theorem dX5_lawHere_70 : decode cX5_lawHere 70 = .ok (.bipush 6, 2) := by decide +kernel
theorem dX5_lawHere_72 : decode cX5_lawHere 72 = .ok (.goto 4, 3) := by decide +kernel
theorem dX5_lawHere_75 : decode cX5_lawHere 75 = .ok (.iconst (-1), 1) := by decide +kernel
theorem dX5_lawHere_76 : decode cX5_lawHere 76 = .ok (.ireturn, 1) := by decide +kernel
set_option maxRecDepth 20000 in
theorem ggX5_itemHere_X5_kindHere : GoodIn wsX5_itemHere wsX5_kindHere := goodIn_r _ [7, 8, 9, 10, 6, 11, 2, 12, 13, 14, 15, 1, 16, 17, 18, 19, 20, 21, 22, 23, 24, 25, 26, 64, 65, 66, 67, 68, 69, 70, 71, 72, 73, 74, 75, 76, 77, 78, 79, 80, 81, 82, 83, 84, 85, 86, 87, 88, 89, 90, 91, 92] (by decide +kernel) (by decide +kernel)
set_option maxRecDepth 20000 in
theorem gX5_itemHere_X5_kindHere : GoodIn wsX5_itemHere (wsV RX5 131 RX5 yX5_kindHere wsX5_kindHere) := goodIn_app (goodIn_of _ (by decide +kernel)) ggX5_itemHere_X5_kindHere
set_option maxRecDepth 20000 in
theorem ggX5_itemHere_X5_lawHere : GoodIn wsX5_itemHere wsX5_lawHere := goodIn_r _ [30, 12, 13, 14, 6, 15, 1, 16, 2, 17, 18, 19, 20, 21, 22, 23, 24, 25, 26, 8, 9, 10, 11, 64, 65, 66, 67, 68, 69, 70, 71, 72, 73, 74, 75, 76, 77, 78, 79, 80, 81, 82, 83, 84, 85, 86, 87, 88, 89, 90, 91, 92] (by decide +kernel) (by decide +kernel)
set_option maxRecDepth 20000 in
theorem gX5_itemHere_X5_lawHere : GoodIn wsX5_itemHere (wsV RX5 135 RX5 yX5_lawHere wsX5_lawHere) := goodIn_app (goodIn_of _ (by decide +kernel)) ggX5_itemHere_X5_lawHere
set_option maxRecDepth 20000 in
theorem ggX5_itemHere_X5_personHere : GoodIn wsX5_itemHere wsX5_personHere := goodIn_r _ [34, 35, 1, 16, 2, 36, 37, 38, 39, 6, 40, 41, 42, 43, 44, 45, 17, 18, 19, 20, 21, 22, 46, 47, 48, 49, 50, 51, 52, 53, 54, 55, 56, 57, 58, 59, 8, 9, 10, 11, 12, 13, 14, 15, 60, 61, 62, 63, 64, 65, 66, 67, 68, 69, 70, 71, 72, 73, 74, 75, 76, 77, 78, 79, 80, 81, 82, 83, 84, 85, 86, 87, 88, 89, 90, 91, 92] (by decide +kernel) (by decide +kernel)
set_option maxRecDepth 20000 in
theorem gX5_itemHere_X5_personHere : GoodIn wsX5_itemHere (wsV RX5 138 RX5 yX5_personHere wsX5_personHere) := goodIn_app (goodIn_of _ (by decide +kernel)) ggX5_itemHere_X5_personHere
set_option maxRecDepth 20000 in
theorem ggX5_itemHere_X5_nextToken : GoodIn wsX5_itemHere wsX5_nextToken := goodIn_r _ [44, 16, 2, 1, 45, 17, 18, 19, 6, 20, 21, 22, 46, 47, 48, 49, 50, 51, 64, 65, 66, 67, 68, 69, 70, 71, 72, 73, 74, 75, 76, 77, 78, 79, 80, 81, 82, 83, 84, 85, 86, 87, 88, 89, 90, 91, 92] (by decide +kernel) (by decide +kernel)
set_option maxRecDepth 20000 in
theorem gX5_itemHere_X5_nextToken : GoodIn wsX5_itemHere (wsV RX5 101 RX5 yX5_nextToken wsX5_nextToken) := goodIn_app (goodIn_of _ (by decide +kernel)) ggX5_itemHere_X5_nextToken
set_option maxRecDepth 20000 in
theorem ggX5_itemHere_X5_numberTo : GoodIn wsX5_itemHere wsX5_numberTo := goodIn_r _ [59, 1, 16, 2, 45, 36, 35, 37, 38, 39, 6, 40, 41, 42, 43, 44, 17, 18, 19, 20, 21, 22, 46, 47, 48, 49, 50, 51, 64, 65, 66, 67, 68, 69, 70, 71, 72, 73, 74, 75, 76, 77, 78, 79, 80, 81, 82, 83, 84, 85, 86, 87, 88, 89, 90, 91, 92] (by decide +kernel) (by decide +kernel)
set_option maxRecDepth 20000 in
theorem gX5_itemHere_X5_numberTo : GoodIn wsX5_itemHere (wsV RX5 119 RX5 yX5_numberTo wsX5_numberTo) := goodIn_app (goodIn_of _ (by decide +kernel)) ggX5_itemHere_X5_numberTo
set_option maxRecDepth 20000 in
theorem ggX5_itemHere_X5_needs : GoodIn wsX5_itemHere wsX5_needs := goodIn_r _ [40, 36, 41, 42, 43, 6, 44, 16, 2, 1, 45, 17, 18, 19, 20, 21, 22, 46, 47, 48, 49, 50, 51, 64, 65, 66, 67, 68, 69, 70, 71, 72, 73, 74, 75, 76, 77, 78, 79, 80, 81, 82, 83, 84, 85, 86, 87, 88, 89, 90, 91, 92] (by decide +kernel) (by decide +kernel)
set_option maxRecDepth 20000 in
theorem gX5_itemHere_X5_needs : GoodIn wsX5_itemHere (wsV RX5 115 RX5 yX5_needs wsX5_needs) := goodIn_app (goodIn_of _ (by decide +kernel)) ggX5_itemHere_X5_needs
set_option maxRecDepth 20000 in
theorem ggX5_itemHere_X5_byteAt : GoodIn wsX5_itemHere wsX5_byteAt := goodIn_r _ [20, 21, 22, 64, 65, 66, 67, 68, 69, 70, 71, 72, 73, 74, 75, 76, 77, 78, 79, 80, 81, 82, 83, 84, 85, 86, 87, 88, 89, 90, 91, 92] (by decide +kernel) (by decide +kernel)
set_option maxRecDepth 20000 in
theorem gX5_itemHere_X5_byteAt : GoodIn wsX5_itemHere (wsV RX5 80 RX5 yX5_byteAt wsX5_byteAt) := goodIn_app (goodIn_of _ (by decide +kernel)) ggX5_itemHere_X5_byteAt
theorem dX5_itemHere_0 : decode cX5_itemHere 0 = .ok (.aload_n 0, 1) := by decide +kernel
theorem dX5_itemHere_1 : decode cX5_itemHere 1 = .ok (.invokevirtual 131, 3) := by decide +kernel
theorem dX5_itemHere_4 : decode cX5_itemHere 4 = .ok (.istore_n 1, 1) := by decide +kernel
theorem dX5_itemHere_5 : decode cX5_itemHere 5 = .ok (.aload_n 0, 1) := by decide +kernel
theorem dX5_itemHere_6 : decode cX5_itemHere 6 = .ok (.invokevirtual 135, 3) := by decide +kernel
theorem dX5_itemHere_9 : decode cX5_itemHere 9 = .ok (.istore_n 2, 1) := by decide +kernel
theorem dX5_itemHere_10 : decode cX5_itemHere 10 = .ok (.iload_n 1, 1) := by decide +kernel
theorem dX5_itemHere_11 : decode cX5_itemHere 11 = .ok (.ifCond .lt 11, 3) := by decide +kernel
theorem dX5_itemHere_14 : decode cX5_itemHere 14 = .ok (.aload_n 0, 1) := by decide +kernel
theorem dX5_itemHere_15 : decode cX5_itemHere 15 = .ok (.iload_n 1, 1) := by decide +kernel
theorem dX5_itemHere_16 : decode cX5_itemHere 16 = .ok (.invokevirtual 138, 3) := by decide +kernel
theorem dX5_itemHere_19 : decode cX5_itemHere 19 = .ok (.goto 47, 3) := by decide +kernel
theorem dX5_itemHere_22 : decode cX5_itemHere 22 = .ok (.iload_n 2, 1) := by decide +kernel
theorem dX5_itemHere_23 : decode cX5_itemHere 23 = .ok (.ifCond .lt 38, 3) := by decide +kernel
theorem dX5_itemHere_26 : decode cX5_itemHere 26 = .ok (.aload_n 0, 1) := by decide +kernel
theorem dX5_itemHere_27 : decode cX5_itemHere 27 = .ok (.invokevirtual 101, 3) := by decide +kernel
theorem dX5_itemHere_30 : decode cX5_itemHere 30 = .ok (.aload_n 0, 1) := by decide +kernel
theorem dX5_itemHere_31 : decode cX5_itemHere 31 = .ok (.iload_n 2, 1) := by decide +kernel
theorem dX5_itemHere_32 : decode cX5_itemHere 32 = .ok (.iload_n 2, 1) := by decide +kernel
theorem dX5_itemHere_33 : decode cX5_itemHere 33 = .ok (.iconst 4, 1) := by decide +kernel
theorem dX5_itemHere_34 : decode cX5_itemHere 34 = .ok (.if_icmp .ne 7, 3) := by decide +kernel
theorem dX5_itemHere_37 : decode cX5_itemHere 37 = .ok (.iconst 1, 1) := by decide +kernel
theorem dX5_itemHere_38 : decode cX5_itemHere 38 = .ok (.goto 4, 3) := by decide +kernel
theorem dX5_itemHere_41 : decode cX5_itemHere 41 = .ok (.iconst 0, 1) := by decide +kernel
theorem dX5_itemHere_42 : decode cX5_itemHere 42 = .ok (.iload_n 2, 1) := by decide +kernel
theorem dX5_itemHere_43 : decode cX5_itemHere 43 = .ok (.bipush 6, 2) := by decide +kernel
theorem dX5_itemHere_45 : decode cX5_itemHere 45 = .ok (.if_icmp .ne 8, 3) := by decide +kernel
theorem dX5_itemHere_48 : decode cX5_itemHere 48 = .ok (.bipush 99, 2) := by decide +kernel
theorem dX5_itemHere_50 : decode cX5_itemHere 50 = .ok (.goto 5, 3) := by decide +kernel
theorem dX5_itemHere_53 : decode cX5_itemHere 53 = .ok (.bipush 9, 2) := by decide +kernel
theorem dX5_itemHere_55 : decode cX5_itemHere 55 = .ok (.invokevirtual 119, 3) := by decide +kernel
theorem dX5_itemHere_58 : decode cX5_itemHere 58 = .ok (.goto 8, 3) := by decide +kernel
theorem dX5_itemHere_61 : decode cX5_itemHere 61 = .ok (.aload_n 0, 1) := by decide +kernel
theorem dX5_itemHere_62 : decode cX5_itemHere 62 = .ok (.iconst 0, 1) := by decide +kernel
theorem dX5_itemHere_63 : decode cX5_itemHere 63 = .ok (.invokevirtual 115, 3) := by decide +kernel
theorem dX5_itemHere_66 : decode cX5_itemHere 66 = .ok (.aload_n 0, 1) := by decide +kernel
theorem dX5_itemHere_67 : decode cX5_itemHere 67 = .ok (.aload_n 0, 1) := by decide +kernel
theorem dX5_itemHere_68 : decode cX5_itemHere 68 = .ok (.getfield 91, 3) := by decide +kernel
theorem dX5_itemHere_71 : decode cX5_itemHere 71 = .ok (.iconst 3, 1) := by decide +kernel
theorem dX5_itemHere_72 : decode cX5_itemHere 72 = .ok (.if_icmp .ne 20, 3) := by decide +kernel
theorem dX5_itemHere_75 : decode cX5_itemHere 75 = .ok (.aload_n 0, 1) := by decide +kernel
theorem dX5_itemHere_76 : decode cX5_itemHere 76 = .ok (.aload_n 0, 1) := by decide +kernel
theorem dX5_itemHere_77 : decode cX5_itemHere 77 = .ok (.getfield 77, 3) := by decide +kernel
theorem dX5_itemHere_80 : decode cX5_itemHere 80 = .ok (.invokevirtual 80, 3) := by decide +kernel
theorem dX5_itemHere_83 : decode cX5_itemHere 83 = .ok (.bipush 59, 2) := by decide +kernel
theorem dX5_itemHere_85 : decode cX5_itemHere 85 = .ok (.if_icmp .ne 7, 3) := by decide +kernel
theorem dX5_itemHere_88 : decode cX5_itemHere 88 = .ok (.iconst 1, 1) := by decide +kernel
theorem dX5_itemHere_89 : decode cX5_itemHere 89 = .ok (.goto 4, 3) := by decide +kernel
theorem dX5_itemHere_92 : decode cX5_itemHere 92 = .ok (.iconst 0, 1) := by decide +kernel
theorem dX5_itemHere_93 : decode cX5_itemHere 93 = .ok (.invokevirtual 115, 3) := by decide +kernel
theorem dX5_itemHere_96 : decode cX5_itemHere 96 = .ok (.return_, 1) := by decide +kernel
set_option maxRecDepth 20000 in
theorem ggX5_opera_X5_copyRow : GoodIn wsX5_opera wsX5_copyRow := goodIn_r _ [12] (by decide +kernel) (by decide +kernel)
set_option maxRecDepth 20000 in
theorem gX5_opera_X5_copyRow : GoodIn wsX5_opera (va_wsS RX5 142 yX5_copyRow wsX5_copyRow) := goodIn_app (goodIn_of _ (by decide +kernel)) ggX5_opera_X5_copyRow
set_option maxRecDepth 20000 in
theorem ggX5_opera_X5_begins : GoodIn wsX5_opera wsX5_begins := goodIn_r _ [16, 1, 77, 78, 79, 80, 81, 82, 83, 84, 85, 86, 87, 88, 89, 90, 91, 92, 93, 94, 95, 96, 97, 98, 99, 100, 101, 102, 103, 104, 105] (by decide +kernel) (by decide +kernel)
set_option maxRecDepth 20000 in
theorem gX5_opera_X5_begins : GoodIn wsX5_opera (wsV RX5 59 RX5 yX5_begins wsX5_begins) := goodIn_app (goodIn_of _ (by decide +kernel)) ggX5_opera_X5_begins
set_option maxRecDepth 20000 in
theorem ggX5_opera_X5_nextToken : GoodIn wsX5_opera wsX5_nextToken := goodIn_r _ [20, 3, 7, 5, 21, 22, 23, 24, 11, 25, 6, 26, 27, 28, 29, 30, 31, 32, 77, 78, 79, 80, 81, 82, 83, 84, 85, 86, 87, 88, 89, 90, 91, 92, 93, 94, 95, 96, 97, 98, 99, 100, 101, 102, 103, 104, 105] (by decide +kernel) (by decide +kernel)
set_option maxRecDepth 20000 in
theorem gX5_opera_X5_nextToken : GoodIn wsX5_opera (wsV RX5 101 RX5 yX5_nextToken wsX5_nextToken) := goodIn_app (goodIn_of _ (by decide +kernel)) ggX5_opera_X5_nextToken
set_option maxRecDepth 20000 in
theorem ggX5_opera_X5_itemHere : GoodIn wsX5_opera wsX5_itemHere := goodIn_r _ [36, 5, 7, 37, 38, 39, 11, 40, 41, 42, 43, 44, 45, 46, 47, 48, 3, 22, 23, 24, 25, 6, 26, 49, 50, 51, 52, 53, 54, 55, 56, 57, 58, 59, 60, 1, 4, 61, 62, 63, 64, 17, 18, 19, 20, 21, 27, 28, 29, 30, 31, 32, 65, 66, 67, 68, 69, 70, 71, 72, 73, 74, 75, 76, 77, 78, 79, 80, 81, 82, 83, 84, 85, 86, 87, 88, 89, 90, 91, 92, 93, 94, 95, 96, 97, 98, 99, 100, 101, 102, 103, 104, 105] (by decide +kernel) (by decide +kernel)
set_option maxRecDepth 20000 in
theorem gX5_opera_X5_itemHere : GoodIn wsX5_opera (wsV RX5 146 RX5 yX5_itemHere wsX5_itemHere) := goodIn_app (goodIn_of _ (by decide +kernel)) ggX5_opera_X5_itemHere
theorem dX5_opera_0 : decode cX5_opera 0 = .ok (.aload_n 0, 1) := by decide +kernel
theorem dX5_opera_1 : decode cX5_opera 1 = .ok (.getfield 7, 3) := by decide +kernel
theorem dX5_opera_4 : decode cX5_opera 4 = .ok (.aload_n 0, 1) := by decide +kernel
theorem dX5_opera_5 : decode cX5_opera 5 = .ok (.getfield 19, 3) := by decide +kernel
theorem dX5_opera_8 : decode cX5_opera 8 = .ok (.invokestatic 142, 3) := by decide +kernel
theorem dX5_opera_11 : decode cX5_opera 11 = .ok (.aload_n 0, 1) := by decide +kernel
theorem dX5_opera_12 : decode cX5_opera 12 = .ok (.invokevirtual 59, 3) := by decide +kernel
theorem dX5_opera_15 : decode cX5_opera 15 = .ok (.aload_n 0, 1) := by decide +kernel
theorem dX5_opera_16 : decode cX5_opera 16 = .ok (.iconst 0, 1) := by decide +kernel
theorem dX5_opera_17 : decode cX5_opera 17 = .ok (.putfield 74, 3) := by decide +kernel
theorem dX5_opera_20 : decode cX5_opera 20 = .ok (.aload_n 0, 1) := by decide +kernel
theorem dX5_opera_21 : decode cX5_opera 21 = .ok (.iconst 0, 1) := by decide +kernel
theorem dX5_opera_22 : decode cX5_opera 22 = .ok (.putfield 97, 3) := by decide +kernel
theorem dX5_opera_25 : decode cX5_opera 25 = .ok (.aload_n 0, 1) := by decide +kernel
theorem dX5_opera_26 : decode cX5_opera 26 = .ok (.invokevirtual 101, 3) := by decide +kernel
theorem dX5_opera_29 : decode cX5_opera 29 = .ok (.aload_n 0, 1) := by decide +kernel
theorem dX5_opera_30 : decode cX5_opera 30 = .ok (.getfield 97, 3) := by decide +kernel
theorem dX5_opera_33 : decode cX5_opera 33 = .ok (.ifCond .ne 17, 3) := by decide +kernel
theorem dX5_opera_36 : decode cX5_opera 36 = .ok (.aload_n 0, 1) := by decide +kernel
theorem dX5_opera_37 : decode cX5_opera 37 = .ok (.getfield 91, 3) := by decide +kernel
theorem dX5_opera_40 : decode cX5_opera 40 = .ok (.ifCond .eq 10, 3) := by decide +kernel
theorem dX5_opera_43 : decode cX5_opera 43 = .ok (.aload_n 0, 1) := by decide +kernel
theorem dX5_opera_44 : decode cX5_opera 44 = .ok (.invokevirtual 146, 3) := by decide +kernel
theorem dX5_opera_47 : decode cX5_opera 47 = .ok (.goto (-18), 3) := by decide +kernel
theorem dX5_opera_50 : decode cX5_opera 50 = .ok (.aload_n 0, 1) := by decide +kernel
theorem dX5_opera_51 : decode cX5_opera 51 = .ok (.iconst 0, 1) := by decide +kernel
theorem dX5_opera_52 : decode cX5_opera 52 = .ok (.putfield 68, 3) := by decide +kernel
theorem dX5_opera_55 : decode cX5_opera 55 = .ok (.aload_n 0, 1) := by decide +kernel
theorem dX5_opera_56 : decode cX5_opera 56 = .ok (.getfield 97, 3) := by decide +kernel
theorem dX5_opera_59 : decode cX5_opera 59 = .ok (.ifCond .eq 22, 3) := by decide +kernel
theorem dX5_opera_62 : decode cX5_opera 62 = .ok (.aload_n 0, 1) := by decide +kernel
theorem dX5_opera_63 : decode cX5_opera 63 = .ok (.getfield 19, 3) := by decide +kernel
theorem dX5_opera_66 : decode cX5_opera 66 = .ok (.aload_n 0, 1) := by decide +kernel
theorem dX5_opera_67 : decode cX5_opera 67 = .ok (.getfield 7, 3) := by decide +kernel
theorem dX5_opera_70 : decode cX5_opera 70 = .ok (.invokestatic 142, 3) := by decide +kernel
theorem dX5_opera_73 : decode cX5_opera 73 = .ok (.bipush (-100), 2) := by decide +kernel
theorem dX5_opera_75 : decode cX5_opera 75 = .ok (.aload_n 0, 1) := by decide +kernel
theorem dX5_opera_76 : decode cX5_opera 76 = .ok (.getfield 77, 3) := by decide +kernel
theorem dX5_opera_79 : decode cX5_opera 79 = .ok (.isub, 1) := by decide +kernel
theorem dX5_opera_80 : decode cX5_opera 80 = .ok (.ireturn, 1) := by decide +kernel
theorem dX5_opera_81 : decode cX5_opera 81 = .ok (.aload_n 0, 1) := by decide +kernel
theorem dX5_opera_82 : decode cX5_opera 82 = .ok (.iconst 0, 1) := by decide +kernel
theorem dX5_opera_83 : decode cX5_opera 83 = .ok (.putfield 149, 3) := by decide +kernel
theorem dX5_opera_86 : decode cX5_opera 86 = .ok (.aload_n 0, 1) := by decide +kernel
theorem dX5_opera_87 : decode cX5_opera 87 = .ok (.getfield 7, 3) := by decide +kernel
theorem dX5_opera_90 : decode cX5_opera 90 = .ok (.iconst 0, 1) := by decide +kernel
theorem dX5_opera_91 : decode cX5_opera 91 = .ok (.iaload, 1) := by decide +kernel
theorem dX5_opera_92 : decode cX5_opera 92 = .ok (.ireturn, 1) := by decide +kernel
set_option maxRecDepth 20000 in
theorem ggX5_set_X5_isIn : GoodIn wsX5_set wsX5_isIn := goodIn_r _ [7] (by decide +kernel) (by decide +kernel)
set_option maxRecDepth 20000 in
theorem gX5_set_X5_isIn : GoodIn wsX5_set (va_wsS RX5 64 yX5_isIn wsX5_isIn) := goodIn_app (goodIn_of _ (by decide +kernel)) ggX5_set_X5_isIn
set_option maxRecDepth 20000 in
theorem ggX5_set_X5_becomes : GoodIn wsX5_set wsX5_becomes := goodIn_r _ [11, 12, 13, 14, 15, 16, 17, 18, 19, 20, 21, 22, 23, 24, 25, 26, 27, 28, 29, 30, 31, 32, 33, 34, 35, 36, 37, 38, 39, 40, 41] (by decide +kernel) (by decide +kernel)
set_option maxRecDepth 20000 in
theorem gX5_set_X5_becomes : GoodIn wsX5_set (wsV RX5 158 RX5 yX5_becomes wsX5_becomes) := goodIn_app (goodIn_of _ (by decide +kernel)) ggX5_set_X5_becomes
theorem dX5_set_0 : decode cX5_set 0 = .ok (.iload_n 1, 1) := by decide +kernel
theorem dX5_set_1 : decode cX5_set 1 = .ok (.i2l, 1) := by decide +kernel
theorem dX5_set_2 : decode cX5_set 2 = .ok (.lconst 0, 1) := by decide +kernel
theorem dX5_set_3 : decode cX5_set 3 = .ok (.ldc2_w 152, 3) := by decide +kernel
theorem dX5_set_6 : decode cX5_set 6 = .ok (.invokestatic 64, 3) := by decide +kernel
theorem dX5_set_9 : decode cX5_set 9 = .ok (.ifCond .eq 46, 3) := by decide +kernel
theorem dX5_set_12 : decode cX5_set 12 = .ok (.iload_n 2, 1) := by decide +kernel
theorem dX5_set_13 : decode cX5_set 13 = .ok (.i2l, 1) := by decide +kernel
theorem dX5_set_14 : decode cX5_set 14 = .ok (.iload_n 1, 1) := by decide +kernel
theorem dX5_set_15 : decode cX5_set 15 = .ok (.iconst 1, 1) := by decide +kernel
theorem dX5_set_16 : decode cX5_set 16 = .ok (.if_icmp .ne 7, 3) := by decide +kernel
theorem dX5_set_19 : decode cX5_set 19 = .ok (.lconst 1, 1) := by decide +kernel
theorem dX5_set_20 : decode cX5_set 20 = .ok (.goto 4, 3) := by decide +kernel
theorem dX5_set_23 : decode cX5_set 23 = .ok (.lconst 0, 1) := by decide +kernel
theorem dX5_set_24 : decode cX5_set 24 = .ok (.iload_n 1, 1) := by decide +kernel
theorem dX5_set_25 : decode cX5_set 25 = .ok (.iconst 3, 1) := by decide +kernel
theorem dX5_set_26 : decode cX5_set 26 = .ok (.if_icmp .ne 9, 3) := by decide +kernel
theorem dX5_set_29 : decode cX5_set 29 = .ok (.ldc2_w 154, 3) := by decide +kernel
theorem dX5_set_32 : decode cX5_set 32 = .ok (.goto 6, 3) := by decide +kernel
theorem dX5_set_35 : decode cX5_set 35 = .ok (.ldc2_w 156, 3) := by decide +kernel
theorem dX5_set_38 : decode cX5_set 38 = .ok (.invokestatic 64, 3) := by decide +kernel
theorem dX5_set_41 : decode cX5_set 41 = .ok (.ifCond .eq 14, 3) := by decide +kernel
theorem dX5_set_44 : decode cX5_set 44 = .ok (.aload_n 0, 1) := by decide +kernel
theorem dX5_set_45 : decode cX5_set 45 = .ok (.iconst 3, 1) := by decide +kernel
theorem dX5_set_46 : decode cX5_set 46 = .ok (.iload_n 1, 1) := by decide +kernel
theorem dX5_set_47 : decode cX5_set 47 = .ok (.iadd, 1) := by decide +kernel
theorem dX5_set_48 : decode cX5_set 48 = .ok (.iload_n 2, 1) := by decide +kernel
theorem dX5_set_49 : decode cX5_set 49 = .ok (.invokevirtual 158, 3) := by decide +kernel
theorem dX5_set_52 : decode cX5_set 52 = .ok (.goto 4, 3) := by decide +kernel
theorem dX5_set_55 : decode cX5_set 55 = .ok (.iconst (-1), 1) := by decide +kernel
theorem dX5_set_56 : decode cX5_set 56 = .ok (.ireturn, 1) := by decide +kernel
set_option maxRecDepth 20000 in
theorem ggX5_lawOf_X5_isIn : GoodIn wsX5_lawOf wsX5_isIn := goodIn_r _ [6] (by decide +kernel) (by decide +kernel)
set_option maxRecDepth 20000 in
theorem gX5_lawOf_X5_isIn : GoodIn wsX5_lawOf (va_wsS RX5 64 yX5_isIn wsX5_isIn) := goodIn_app (goodIn_of _ (by decide +kernel)) ggX5_lawOf_X5_isIn
theorem dX5_lawOf_0 : decode cX5_lawOf 0 = .ok (.iload_n 1, 1) := by decide +kernel
theorem dX5_lawOf_1 : decode cX5_lawOf 1 = .ok (.i2l, 1) := by decide +kernel
theorem dX5_lawOf_2 : decode cX5_lawOf 2 = .ok (.lconst 0, 1) := by decide +kernel
theorem dX5_lawOf_3 : decode cX5_lawOf 3 = .ok (.ldc2_w 152, 3) := by decide +kernel
theorem dX5_lawOf_6 : decode cX5_lawOf 6 = .ok (.invokestatic 64, 3) := by decide +kernel
theorem dX5_lawOf_9 : decode cX5_lawOf 9 = .ok (.ifCond .eq 14, 3) := by decide +kernel
theorem dX5_lawOf_12 : decode cX5_lawOf 12 = .ok (.aload_n 0, 1) := by decide +kernel
theorem dX5_lawOf_13 : decode cX5_lawOf 13 = .ok (.getfield 7, 3) := by decide +kernel
theorem dX5_lawOf_16 : decode cX5_lawOf 16 = .ok (.iconst 3, 1) := by decide +kernel
theorem dX5_lawOf_17 : decode cX5_lawOf 17 = .ok (.iload_n 1, 1) := by decide +kernel
theorem dX5_lawOf_18 : decode cX5_lawOf 18 = .ok (.iadd, 1) := by decide +kernel
theorem dX5_lawOf_19 : decode cX5_lawOf 19 = .ok (.iaload, 1) := by decide +kernel
theorem dX5_lawOf_20 : decode cX5_lawOf 20 = .ok (.goto 4, 3) := by decide +kernel
theorem dX5_lawOf_23 : decode cX5_lawOf 23 = .ok (.iconst (-1), 1) := by decide +kernel
theorem dX5_lawOf_24 : decode cX5_lawOf 24 = .ok (.ireturn, 1) := by decide +kernel
theorem dX5_comes_0 : decode cX5_comes 0 = .ok (.bipush 7, 2) := by decide +kernel
theorem dX5_comes_2 : decode cX5_comes 2 = .ok (.iconst 5, 1) := by decide +kernel
theorem dX5_comes_3 : decode cX5_comes 3 = .ok (.aload_n 0, 1) := by decide +kernel
theorem dX5_comes_4 : decode cX5_comes 4 = .ok (.getfield 7, 3) := by decide +kernel
theorem dX5_comes_7 : decode cX5_comes 7 = .ok (.iconst 0, 1) := by decide +kernel
theorem dX5_comes_8 : decode cX5_comes 8 = .ok (.iaload, 1) := by decide +kernel
theorem dX5_comes_9 : decode cX5_comes 9 = .ok (.imul, 1) := by decide +kernel
theorem dX5_comes_10 : decode cX5_comes 10 = .ok (.iadd, 1) := by decide +kernel
theorem dX5_comes_11 : decode cX5_comes 11 = .ok (.istore 5, 2) := by decide +kernel
theorem dX5_comes_13 : decode cX5_comes 13 = .ok (.aload_n 0, 1) := by decide +kernel
theorem dX5_comes_14 : decode cX5_comes 14 = .ok (.getfield 7, 3) := by decide +kernel
theorem dX5_comes_17 : decode cX5_comes 17 = .ok (.iload 5, 2) := by decide +kernel
theorem dX5_comes_19 : decode cX5_comes 19 = .ok (.iload_n 1, 1) := by decide +kernel
theorem dX5_comes_20 : decode cX5_comes 20 = .ok (.iastore, 1) := by decide +kernel
theorem dX5_comes_21 : decode cX5_comes 21 = .ok (.aload_n 0, 1) := by decide +kernel
theorem dX5_comes_22 : decode cX5_comes 22 = .ok (.getfield 7, 3) := by decide +kernel
theorem dX5_comes_25 : decode cX5_comes 25 = .ok (.iload 5, 2) := by decide +kernel
theorem dX5_comes_27 : decode cX5_comes 27 = .ok (.iconst 1, 1) := by decide +kernel
theorem dX5_comes_28 : decode cX5_comes 28 = .ok (.iadd, 1) := by decide +kernel
theorem dX5_comes_29 : decode cX5_comes 29 = .ok (.iload_n 2, 1) := by decide +kernel
theorem dX5_comes_30 : decode cX5_comes 30 = .ok (.iastore, 1) := by decide +kernel
theorem dX5_comes_31 : decode cX5_comes 31 = .ok (.aload_n 0, 1) := by decide +kernel
theorem dX5_comes_32 : decode cX5_comes 32 = .ok (.getfield 7, 3) := by decide +kernel
theorem dX5_comes_35 : decode cX5_comes 35 = .ok (.iload 5, 2) := by decide +kernel
theorem dX5_comes_37 : decode cX5_comes 37 = .ok (.iconst 2, 1) := by decide +kernel
theorem dX5_comes_38 : decode cX5_comes 38 = .ok (.iadd, 1) := by decide +kernel
theorem dX5_comes_39 : decode cX5_comes 39 = .ok (.iload_n 3, 1) := by decide +kernel
theorem dX5_comes_40 : decode cX5_comes 40 = .ok (.iastore, 1) := by decide +kernel
theorem dX5_comes_41 : decode cX5_comes 41 = .ok (.aload_n 0, 1) := by decide +kernel
theorem dX5_comes_42 : decode cX5_comes 42 = .ok (.getfield 7, 3) := by decide +kernel
theorem dX5_comes_45 : decode cX5_comes 45 = .ok (.iload 5, 2) := by decide +kernel
theorem dX5_comes_47 : decode cX5_comes 47 = .ok (.iconst 3, 1) := by decide +kernel
theorem dX5_comes_48 : decode cX5_comes 48 = .ok (.iadd, 1) := by decide +kernel
theorem dX5_comes_49 : decode cX5_comes 49 = .ok (.iload 4, 2) := by decide +kernel
theorem dX5_comes_51 : decode cX5_comes 51 = .ok (.iastore, 1) := by decide +kernel
theorem dX5_comes_52 : decode cX5_comes 52 = .ok (.aload_n 0, 1) := by decide +kernel
theorem dX5_comes_53 : decode cX5_comes 53 = .ok (.getfield 7, 3) := by decide +kernel
theorem dX5_comes_56 : decode cX5_comes 56 = .ok (.iload 5, 2) := by decide +kernel
theorem dX5_comes_58 : decode cX5_comes 58 = .ok (.iconst 4, 1) := by decide +kernel
theorem dX5_comes_59 : decode cX5_comes 59 = .ok (.iadd, 1) := by decide +kernel
theorem dX5_comes_60 : decode cX5_comes 60 = .ok (.iconst 0, 1) := by decide +kernel
theorem dX5_comes_61 : decode cX5_comes 61 = .ok (.iastore, 1) := by decide +kernel
theorem dX5_comes_62 : decode cX5_comes 62 = .ok (.aload_n 0, 1) := by decide +kernel
theorem dX5_comes_63 : decode cX5_comes 63 = .ok (.getfield 7, 3) := by decide +kernel
theorem dX5_comes_66 : decode cX5_comes 66 = .ok (.iconst 0, 1) := by decide +kernel
theorem dX5_comes_67 : decode cX5_comes 67 = .ok (.dup2, 1) := by decide +kernel
theorem dX5_comes_68 : decode cX5_comes 68 = .ok (.iaload, 1) := by decide +kernel
theorem dX5_comes_69 : decode cX5_comes 69 = .ok (.iconst 1, 1) := by decide +kernel
theorem dX5_comes_70 : decode cX5_comes 70 = .ok (.iadd, 1) := by decide +kernel
theorem dX5_comes_71 : decode cX5_comes 71 = .ok (.iastore, 1) := by decide +kernel
theorem dX5_comes_72 : decode cX5_comes 72 = .ok (.return_, 1) := by decide +kernel
set_option maxRecDepth 20000 in
theorem ggX5_person_X5_isIn : GoodIn wsX5_person wsX5_isIn := goodIn_r _ [8] (by decide +kernel) (by decide +kernel)
set_option maxRecDepth 20000 in
theorem gX5_person_X5_isIn : GoodIn wsX5_person (va_wsS RX5 64 yX5_isIn wsX5_isIn) := goodIn_app (goodIn_of _ (by decide +kernel)) ggX5_person_X5_isIn
set_option maxRecDepth 20000 in
theorem ggX5_person_X5_isRoom : GoodIn wsX5_person wsX5_isRoom := goodIn_r _ [11] (by decide +kernel) (by decide +kernel)
set_option maxRecDepth 20000 in
theorem gX5_person_X5_isRoom : GoodIn wsX5_person (va_wsS RX5 164 yX5_isRoom wsX5_isRoom) := goodIn_app (goodIn_of _ (by decide +kernel)) ggX5_person_X5_isRoom
set_option maxRecDepth 20000 in
theorem ggX5_person_X5_comes : GoodIn wsX5_person wsX5_comes := goodIn_r _ [15, 4, 16, 17, 18, 19, 20, 21, 22, 23, 24, 25, 26, 27, 28, 29, 30, 31, 32, 33, 34, 35, 36, 37, 38, 39, 40, 41, 42, 43, 44] (by decide +kernel) (by decide +kernel)
set_option maxRecDepth 20000 in
theorem gX5_person_X5_comes : GoodIn wsX5_person (wsV RX5 123 RX5 yX5_comes wsX5_comes) := goodIn_app (goodIn_of _ (by decide +kernel)) ggX5_person_X5_comes
theorem dX5_person_0 : decode cX5_person 0 = .ok (.iload_n 1, 1) := by decide +kernel
theorem dX5_person_1 : decode cX5_person 1 = .ok (.i2l, 1) := by decide +kernel
theorem dX5_person_2 : decode cX5_person 2 = .ok (.lconst 0, 1) := by decide +kernel
theorem dX5_person_3 : decode cX5_person 3 = .ok (.ldc2_w 162, 3) := by decide +kernel
theorem dX5_person_6 : decode cX5_person 6 = .ok (.invokestatic 64, 3) := by decide +kernel
theorem dX5_person_9 : decode cX5_person 9 = .ok (.ifCond .eq 35, 3) := by decide +kernel
theorem dX5_person_12 : decode cX5_person 12 = .ok (.iload_n 2, 1) := by decide +kernel
theorem dX5_person_13 : decode cX5_person 13 = .ok (.i2l, 1) := by decide +kernel
theorem dX5_person_14 : decode cX5_person 14 = .ok (.lconst 0, 1) := by decide +kernel
theorem dX5_person_15 : decode cX5_person 15 = .ok (.ldc2_w 154, 3) := by decide +kernel
theorem dX5_person_18 : decode cX5_person 18 = .ok (.invokestatic 64, 3) := by decide +kernel
theorem dX5_person_21 : decode cX5_person 21 = .ok (.ifCond .eq 23, 3) := by decide +kernel
theorem dX5_person_24 : decode cX5_person 24 = .ok (.iload_n 3, 1) := by decide +kernel
theorem dX5_person_25 : decode cX5_person 25 = .ok (.i2l, 1) := by decide +kernel
theorem dX5_person_26 : decode cX5_person 26 = .ok (.lconst 0, 1) := by decide +kernel
theorem dX5_person_27 : decode cX5_person 27 = .ok (.ldc2_w 156, 3) := by decide +kernel
theorem dX5_person_30 : decode cX5_person 30 = .ok (.invokestatic 64, 3) := by decide +kernel
theorem dX5_person_33 : decode cX5_person 33 = .ok (.ifCond .eq 11, 3) := by decide +kernel
theorem dX5_person_36 : decode cX5_person 36 = .ok (.iload 4, 2) := by decide +kernel
theorem dX5_person_38 : decode cX5_person 38 = .ok (.invokestatic 164, 3) := by decide +kernel
theorem dX5_person_41 : decode cX5_person 41 = .ok (.ifCond .ne 5, 3) := by decide +kernel
theorem dX5_person_44 : decode cX5_person 44 = .ok (.iconst (-1), 1) := by decide +kernel
theorem dX5_person_45 : decode cX5_person 45 = .ok (.ireturn, 1) := by decide +kernel
theorem dX5_person_46 : decode cX5_person 46 = .ok (.aload_n 0, 1) := by decide +kernel
theorem dX5_person_47 : decode cX5_person 47 = .ok (.getfield 7, 3) := by decide +kernel
theorem dX5_person_50 : decode cX5_person 50 = .ok (.iconst 0, 1) := by decide +kernel
theorem dX5_person_51 : decode cX5_person 51 = .ok (.iaload, 1) := by decide +kernel
theorem dX5_person_52 : decode cX5_person 52 = .ok (.bipush 8, 2) := by decide +kernel
theorem dX5_person_54 : decode cX5_person 54 = .ok (.if_icmp .ne 6, 3) := by decide +kernel
theorem dX5_person_57 : decode cX5_person 57 = .ok (.bipush (-2), 2) := by decide +kernel
theorem dX5_person_59 : decode cX5_person 59 = .ok (.ireturn, 1) := by decide +kernel
theorem dX5_person_60 : decode cX5_person 60 = .ok (.aload_n 0, 1) := by decide +kernel
theorem dX5_person_61 : decode cX5_person 61 = .ok (.iload_n 1, 1) := by decide +kernel
theorem dX5_person_62 : decode cX5_person 62 = .ok (.iload_n 2, 1) := by decide +kernel
theorem dX5_person_63 : decode cX5_person 63 = .ok (.iload_n 3, 1) := by decide +kernel
theorem dX5_person_64 : decode cX5_person 64 = .ok (.iload 4, 2) := by decide +kernel
theorem dX5_person_66 : decode cX5_person 66 = .ok (.invokevirtual 123, 3) := by decide +kernel
theorem dX5_person_69 : decode cX5_person 69 = .ok (.aload_n 0, 1) := by decide +kernel
theorem dX5_person_70 : decode cX5_person 70 = .ok (.getfield 7, 3) := by decide +kernel
theorem dX5_person_73 : decode cX5_person 73 = .ok (.iconst 0, 1) := by decide +kernel
theorem dX5_person_74 : decode cX5_person 74 = .ok (.iaload, 1) := by decide +kernel
theorem dX5_person_75 : decode cX5_person 75 = .ok (.iconst 1, 1) := by decide +kernel
theorem dX5_person_76 : decode cX5_person 76 = .ok (.isub, 1) := by decide +kernel
theorem dX5_person_77 : decode cX5_person 77 = .ok (.ireturn, 1) := by decide +kernel
set_option maxRecDepth 20000 in
theorem ggX5_loud_X5_its : GoodIn wsX5_loud wsX5_its := goodIn_r _ [6, 1, 7, 8, 9, 10, 11, 12, 13, 14, 15, 16, 17, 18, 19, 20, 21, 22, 23, 24, 25, 26, 27, 28, 29, 30, 31, 32, 33, 34, 35] (by decide +kernel) (by decide +kernel)
set_option maxRecDepth 20000 in
theorem gX5_loud_X5_its : GoodIn wsX5_loud (wsV RX5 167 RX5 yX5_its wsX5_its) := goodIn_app (goodIn_of _ (by decide +kernel)) ggX5_loud_X5_its
theorem dX5_loud_0 : decode cX5_loud 0 = .ok (.iconst 1, 1) := by decide +kernel
theorem dX5_loud_1 : decode cX5_loud 1 = .ok (.aload_n 0, 1) := by decide +kernel
theorem dX5_loud_2 : decode cX5_loud 2 = .ok (.iload_n 1, 1) := by decide +kernel
theorem dX5_loud_3 : decode cX5_loud 3 = .ok (.iconst 2, 1) := by decide +kernel
theorem dX5_loud_4 : decode cX5_loud 4 = .ok (.invokevirtual 167, 3) := by decide +kernel
theorem dX5_loud_7 : decode cX5_loud 7 = .ok (.iconst 3, 1) := by decide +kernel
theorem dX5_loud_8 : decode cX5_loud 8 = .ok (.idiv, 1) := by decide +kernel
theorem dX5_loud_9 : decode cX5_loud 9 = .ok (.iadd, 1) := by decide +kernel
theorem dX5_loud_10 : decode cX5_loud 10 = .ok (.istore_n 2, 1) := by decide +kernel
theorem dX5_loud_11 : decode cX5_loud 11 = .ok (.aload_n 0, 1) := by decide +kernel
theorem dX5_loud_12 : decode cX5_loud 12 = .ok (.iload_n 1, 1) := by decide +kernel
theorem dX5_loud_13 : decode cX5_loud 13 = .ok (.iconst 0, 1) := by decide +kernel
theorem dX5_loud_14 : decode cX5_loud 14 = .ok (.invokevirtual 167, 3) := by decide +kernel
theorem dX5_loud_17 : decode cX5_loud 17 = .ok (.tableswitch 77 1 5 #[35, 39, 48, 54, 73], 35) := by decide +kernel
theorem dX5_loud_52 : decode cX5_loud 52 = .ok (.iload_n 2, 1) := by decide +kernel
theorem dX5_loud_53 : decode cX5_loud 53 = .ok (.iconst 1, 1) := by decide +kernel
theorem dX5_loud_54 : decode cX5_loud 54 = .ok (.iadd, 1) := by decide +kernel
theorem dX5_loud_55 : decode cX5_loud 55 = .ok (.ireturn, 1) := by decide +kernel
theorem dX5_loud_56 : decode cX5_loud 56 = .ok (.iload_n 2, 1) := by decide +kernel
theorem dX5_loud_57 : decode cX5_loud 57 = .ok (.aload_n 0, 1) := by decide +kernel
theorem dX5_loud_58 : decode cX5_loud 58 = .ok (.getfield 7, 3) := by decide +kernel
theorem dX5_loud_61 : decode cX5_loud 61 = .ok (.iconst 3, 1) := by decide +kernel
theorem dX5_loud_62 : decode cX5_loud 62 = .ok (.iaload, 1) := by decide +kernel
theorem dX5_loud_63 : decode cX5_loud 63 = .ok (.iadd, 1) := by decide +kernel
theorem dX5_loud_64 : decode cX5_loud 64 = .ok (.ireturn, 1) := by decide +kernel
theorem dX5_loud_65 : decode cX5_loud 65 = .ok (.iconst 2, 1) := by decide +kernel
theorem dX5_loud_66 : decode cX5_loud 66 = .ok (.iload_n 2, 1) := by decide +kernel
theorem dX5_loud_67 : decode cX5_loud 67 = .ok (.iconst 1, 1) := by decide +kernel
theorem dX5_loud_68 : decode cX5_loud 68 = .ok (.iadd, 1) := by decide +kernel
theorem dX5_loud_69 : decode cX5_loud 69 = .ok (.imul, 1) := by decide +kernel
theorem dX5_loud_70 : decode cX5_loud 70 = .ok (.ireturn, 1) := by decide +kernel
theorem dX5_loud_71 : decode cX5_loud 71 = .ok (.iload_n 2, 1) := by decide +kernel
theorem dX5_loud_72 : decode cX5_loud 72 = .ok (.aload_n 0, 1) := by decide +kernel
theorem dX5_loud_73 : decode cX5_loud 73 = .ok (.getfield 7, 3) := by decide +kernel
theorem dX5_loud_76 : decode cX5_loud 76 = .ok (.iconst 3, 1) := by decide +kernel
theorem dX5_loud_77 : decode cX5_loud 77 = .ok (.iaload, 1) := by decide +kernel
theorem dX5_loud_78 : decode cX5_loud 78 = .ok (.iadd, 1) := by decide +kernel
theorem dX5_loud_79 : decode cX5_loud 79 = .ok (.aload_n 0, 1) := by decide +kernel
theorem dX5_loud_80 : decode cX5_loud 80 = .ok (.iload_n 1, 1) := by decide +kernel
theorem dX5_loud_81 : decode cX5_loud 81 = .ok (.iconst 1, 1) := by decide +kernel
theorem dX5_loud_82 : decode cX5_loud 82 = .ok (.invokevirtual 167, 3) := by decide +kernel
theorem dX5_loud_85 : decode cX5_loud 85 = .ok (.bipush 10, 2) := by decide +kernel
theorem dX5_loud_87 : decode cX5_loud 87 = .ok (.idiv, 1) := by decide +kernel
theorem dX5_loud_88 : decode cX5_loud 88 = .ok (.iadd, 1) := by decide +kernel
theorem dX5_loud_89 : decode cX5_loud 89 = .ok (.ireturn, 1) := by decide +kernel
theorem dX5_loud_90 : decode cX5_loud 90 = .ok (.iconst 0, 1) := by decide +kernel
theorem dX5_loud_91 : decode cX5_loud 91 = .ok (.iload_n 2, 1) := by decide +kernel
theorem dX5_loud_92 : decode cX5_loud 92 = .ok (.isub, 1) := by decide +kernel
theorem dX5_loud_93 : decode cX5_loud 93 = .ok (.ireturn, 1) := by decide +kernel
theorem dX5_loud_94 : decode cX5_loud 94 = .ok (.iload_n 2, 1) := by decide +kernel
theorem dX5_loud_95 : decode cX5_loud 95 = .ok (.ireturn, 1) := by decide +kernel
set_option maxRecDepth 20000 in
theorem ggX5_loudIn_X5_its : GoodIn wsX5_loudIn wsX5_its := goodIn_r _ [6, 1, 11, 12, 13, 14, 15, 16, 17, 18, 19, 20, 21, 22, 23, 24, 25, 26, 27, 28, 29, 30, 31, 32, 33, 34, 35, 36, 37, 38, 39] (by decide +kernel) (by decide +kernel)
set_option maxRecDepth 20000 in
theorem gX5_loudIn_X5_its : GoodIn wsX5_loudIn (wsV RX5 167 RX5 yX5_its wsX5_its) := goodIn_app (goodIn_of _ (by decide +kernel)) ggX5_loudIn_X5_its
set_option maxRecDepth 20000 in
theorem ggX5_loudIn_X5_loud : GoodIn wsX5_loudIn wsX5_loud := goodIn_r _ [10, 1, 2, 3, 4, 5, 6, 11, 12, 13, 14, 15, 16, 17, 18, 19, 20, 21, 22, 23, 24, 25, 26, 27, 28, 29, 30, 31, 32, 33, 34, 35, 36, 37, 38, 39] (by decide +kernel) (by decide +kernel)
set_option maxRecDepth 20000 in
theorem gX5_loudIn_X5_loud : GoodIn wsX5_loudIn (wsV RX5 170 RX5 yX5_loud wsX5_loud) := goodIn_app (goodIn_of _ (by decide +kernel)) ggX5_loudIn_X5_loud
theorem dX5_loudIn_0 : decode cX5_loudIn 0 = .ok (.iconst 0, 1) := by decide +kernel
theorem dX5_loudIn_1 : decode cX5_loudIn 1 = .ok (.istore_n 3, 1) := by decide +kernel
theorem dX5_loudIn_2 : decode cX5_loudIn 2 = .ok (.iconst 0, 1) := by decide +kernel
theorem dX5_loudIn_3 : decode cX5_loudIn 3 = .ok (.istore 4, 2) := by decide +kernel
theorem dX5_loudIn_5 : decode cX5_loudIn 5 = .ok (.iload 4, 2) := by decide +kernel
theorem dX5_loudIn_7 : decode cX5_loudIn 7 = .ok (.aload_n 0, 1) := by decide +kernel
theorem dX5_loudIn_8 : decode cX5_loudIn 8 = .ok (.getfield 7, 3) := by decide +kernel
theorem dX5_loudIn_11 : decode cX5_loudIn 11 = .ok (.iconst 0, 1) := by decide +kernel
theorem dX5_loudIn_12 : decode cX5_loudIn 12 = .ok (.iaload, 1) := by decide +kernel
theorem dX5_loudIn_13 : decode cX5_loudIn 13 = .ok (.if_icmp .ge 50, 3) := by decide +kernel
theorem dX5_loudIn_16 : decode cX5_loudIn 16 = .ok (.iload_n 3, 1) := by decide +kernel
theorem dX5_loudIn_17 : decode cX5_loudIn 17 = .ok (.aload_n 0, 1) := by decide +kernel
theorem dX5_loudIn_18 : decode cX5_loudIn 18 = .ok (.iload 4, 2) := by decide +kernel
theorem dX5_loudIn_20 : decode cX5_loudIn 20 = .ok (.iconst 4, 1) := by decide +kernel
theorem dX5_loudIn_21 : decode cX5_loudIn 21 = .ok (.invokevirtual 167, 3) := by decide +kernel
theorem dX5_loudIn_24 : decode cX5_loudIn 24 = .ok (.iconst 1, 1) := by decide +kernel
theorem dX5_loudIn_25 : decode cX5_loudIn 25 = .ok (.if_icmp .ne 29, 3) := by decide +kernel
theorem dX5_loudIn_28 : decode cX5_loudIn 28 = .ok (.aload_n 0, 1) := by decide +kernel
theorem dX5_loudIn_29 : decode cX5_loudIn 29 = .ok (.iload 4, 2) := by decide +kernel
theorem dX5_loudIn_31 : decode cX5_loudIn 31 = .ok (.iconst 3, 1) := by decide +kernel
theorem dX5_loudIn_32 : decode cX5_loudIn 32 = .ok (.invokevirtual 167, 3) := by decide +kernel
theorem dX5_loudIn_35 : decode cX5_loudIn 35 = .ok (.iload_n 1, 1) := by decide +kernel
theorem dX5_loudIn_36 : decode cX5_loudIn 36 = .ok (.if_icmp .ne 18, 3) := by decide +kernel
theorem dX5_loudIn_39 : decode cX5_loudIn 39 = .ok (.iload 4, 2) := by decide +kernel
theorem dX5_loudIn_41 : decode cX5_loudIn 41 = .ok (.iload_n 2, 1) := by decide +kernel
theorem dX5_loudIn_42 : decode cX5_loudIn 42 = .ok (.if_icmp .eq 12, 3) := by decide +kernel
theorem dX5_loudIn_45 : decode cX5_loudIn 45 = .ok (.aload_n 0, 1) := by decide +kernel
theorem dX5_loudIn_46 : decode cX5_loudIn 46 = .ok (.iload 4, 2) := by decide +kernel
theorem dX5_loudIn_48 : decode cX5_loudIn 48 = .ok (.invokevirtual 170, 3) := by decide +kernel
theorem dX5_loudIn_51 : decode cX5_loudIn 51 = .ok (.goto 4, 3) := by decide +kernel
theorem dX5_loudIn_54 : decode cX5_loudIn 54 = .ok (.iconst 0, 1) := by decide +kernel
theorem dX5_loudIn_55 : decode cX5_loudIn 55 = .ok (.iadd, 1) := by decide +kernel
theorem dX5_loudIn_56 : decode cX5_loudIn 56 = .ok (.istore_n 3, 1) := by decide +kernel
theorem dX5_loudIn_57 : decode cX5_loudIn 57 = .ok (.iinc 4 1, 3) := by decide +kernel
theorem dX5_loudIn_60 : decode cX5_loudIn 60 = .ok (.goto (-55), 3) := by decide +kernel
theorem dX5_loudIn_63 : decode cX5_loudIn 63 = .ok (.iload_n 3, 1) := by decide +kernel
theorem dX5_loudIn_64 : decode cX5_loudIn 64 = .ok (.ireturn, 1) := by decide +kernel
set_option maxRecDepth 20000 in
theorem ggX5_hears_X5_its : GoodIn wsX5_hears wsX5_its := goodIn_r _ [6, 1, 15, 16, 17, 18, 19, 20, 21, 22, 23, 24, 25, 26, 27, 28, 29, 30, 31, 32, 33, 34, 35, 36, 37, 38, 39, 40, 41, 42, 43] (by decide +kernel) (by decide +kernel)
set_option maxRecDepth 20000 in
theorem gX5_hears_X5_its : GoodIn wsX5_hears (wsV RX5 167 RX5 yX5_its wsX5_its) := goodIn_app (goodIn_of _ (by decide +kernel)) ggX5_hears_X5_its
set_option maxRecDepth 20000 in
theorem ggX5_hears_X5_loudIn : GoodIn wsX5_hears wsX5_loudIn := goodIn_r _ [10, 1, 2, 3, 4, 5, 6, 11, 12, 13, 14, 15, 16, 17, 18, 19, 20, 21, 22, 23, 24, 25, 26, 27, 28, 29, 30, 31, 32, 33, 34, 35, 36, 37, 38, 39, 40, 41, 42, 43] (by decide +kernel) (by decide +kernel)
set_option maxRecDepth 20000 in
theorem gX5_hears_X5_loudIn : GoodIn wsX5_hears (wsV RX5 173 RX5 yX5_loudIn wsX5_loudIn) := goodIn_app (goodIn_of _ (by decide +kernel)) ggX5_hears_X5_loudIn
theorem dX5_hears_0 : decode cX5_hears 0 = .ok (.aload_n 0, 1) := by decide +kernel
theorem dX5_hears_1 : decode cX5_hears 1 = .ok (.iload_n 1, 1) := by decide +kernel
theorem dX5_hears_2 : decode cX5_hears 2 = .ok (.iconst 3, 1) := by decide +kernel
theorem dX5_hears_3 : decode cX5_hears 3 = .ok (.invokevirtual 167, 3) := by decide +kernel
theorem dX5_hears_6 : decode cX5_hears 6 = .ok (.istore_n 2, 1) := by decide +kernel
theorem dX5_hears_7 : decode cX5_hears 7 = .ok (.aload_n 0, 1) := by decide +kernel
theorem dX5_hears_8 : decode cX5_hears 8 = .ok (.iload_n 2, 1) := by decide +kernel
theorem dX5_hears_9 : decode cX5_hears 9 = .ok (.iconst 1, 1) := by decide +kernel
theorem dX5_hears_10 : decode cX5_hears 10 = .ok (.iadd, 1) := by decide +kernel
theorem dX5_hears_11 : decode cX5_hears 11 = .ok (.bipush 8, 2) := by decide +kernel
theorem dX5_hears_13 : decode cX5_hears 13 = .ok (.irem, 1) := by decide +kernel
theorem dX5_hears_14 : decode cX5_hears 14 = .ok (.iconst (-1), 1) := by decide +kernel
theorem dX5_hears_15 : decode cX5_hears 15 = .ok (.invokevirtual 173, 3) := by decide +kernel
theorem dX5_hears_18 : decode cX5_hears 18 = .ok (.aload_n 0, 1) := by decide +kernel
theorem dX5_hears_19 : decode cX5_hears 19 = .ok (.iload_n 2, 1) := by decide +kernel
theorem dX5_hears_20 : decode cX5_hears 20 = .ok (.bipush 8, 2) := by decide +kernel
theorem dX5_hears_22 : decode cX5_hears 22 = .ok (.iadd, 1) := by decide +kernel
theorem dX5_hears_23 : decode cX5_hears 23 = .ok (.iconst 1, 1) := by decide +kernel
theorem dX5_hears_24 : decode cX5_hears 24 = .ok (.isub, 1) := by decide +kernel
theorem dX5_hears_25 : decode cX5_hears 25 = .ok (.bipush 8, 2) := by decide +kernel
theorem dX5_hears_27 : decode cX5_hears 27 = .ok (.irem, 1) := by decide +kernel
theorem dX5_hears_28 : decode cX5_hears 28 = .ok (.iconst (-1), 1) := by decide +kernel
theorem dX5_hears_29 : decode cX5_hears 29 = .ok (.invokevirtual 173, 3) := by decide +kernel
theorem dX5_hears_32 : decode cX5_hears 32 = .ok (.iadd, 1) := by decide +kernel
theorem dX5_hears_33 : decode cX5_hears 33 = .ok (.istore_n 3, 1) := by decide +kernel
theorem dX5_hears_34 : decode cX5_hears 34 = .ok (.aload_n 0, 1) := by decide +kernel
theorem dX5_hears_35 : decode cX5_hears 35 = .ok (.iload_n 2, 1) := by decide +kernel
theorem dX5_hears_36 : decode cX5_hears 36 = .ok (.iload_n 1, 1) := by decide +kernel
theorem dX5_hears_37 : decode cX5_hears 37 = .ok (.invokevirtual 173, 3) := by decide +kernel
theorem dX5_hears_40 : decode cX5_hears 40 = .ok (.iload_n 3, 1) := by decide +kernel
theorem dX5_hears_41 : decode cX5_hears 41 = .ok (.iconst 1, 1) := by decide +kernel
theorem dX5_hears_42 : decode cX5_hears 42 = .ok (.aload_n 0, 1) := by decide +kernel
theorem dX5_hears_43 : decode cX5_hears 43 = .ok (.getfield 7, 3) := by decide +kernel
theorem dX5_hears_46 : decode cX5_hears 46 = .ok (.iconst 5, 1) := by decide +kernel
theorem dX5_hears_47 : decode cX5_hears 47 = .ok (.iaload, 1) := by decide +kernel
theorem dX5_hears_48 : decode cX5_hears 48 = .ok (.iadd, 1) := by decide +kernel
theorem dX5_hears_49 : decode cX5_hears 49 = .ok (.idiv, 1) := by decide +kernel
theorem dX5_hears_50 : decode cX5_hears 50 = .ok (.iadd, 1) := by decide +kernel
theorem dX5_hears_51 : decode cX5_hears 51 = .ok (.ireturn, 1) := by decide +kernel
set_option maxRecDepth 20000 in
theorem ggX5_needsOf_X5_its : GoodIn wsX5_needsOf wsX5_its := goodIn_r _ [6, 1, 7, 8, 9, 10, 11, 12, 13, 14, 15, 16, 17, 18, 19, 20, 21, 22, 23, 24, 25, 26, 27, 28, 29, 30, 31, 32, 33, 34, 35] (by decide +kernel) (by decide +kernel)
set_option maxRecDepth 20000 in
theorem gX5_needsOf_X5_its : GoodIn wsX5_needsOf (wsV RX5 167 RX5 yX5_its wsX5_its) := goodIn_app (goodIn_of _ (by decide +kernel)) ggX5_needsOf_X5_its
theorem dX5_needsOf_0 : decode cX5_needsOf 0 = .ok (.aload_n 0, 1) := by decide +kernel
theorem dX5_needsOf_1 : decode cX5_needsOf 1 = .ok (.iload_n 1, 1) := by decide +kernel
theorem dX5_needsOf_2 : decode cX5_needsOf 2 = .ok (.iconst 2, 1) := by decide +kernel
theorem dX5_needsOf_3 : decode cX5_needsOf 3 = .ok (.invokevirtual 167, 3) := by decide +kernel
theorem dX5_needsOf_6 : decode cX5_needsOf 6 = .ok (.istore_n 2, 1) := by decide +kernel
theorem dX5_needsOf_7 : decode cX5_needsOf 7 = .ok (.aload_n 0, 1) := by decide +kernel
theorem dX5_needsOf_8 : decode cX5_needsOf 8 = .ok (.getfield 7, 3) := by decide +kernel
theorem dX5_needsOf_11 : decode cX5_needsOf 11 = .ok (.iconst 1, 1) := by decide +kernel
theorem dX5_needsOf_12 : decode cX5_needsOf 12 = .ok (.iaload, 1) := by decide +kernel
theorem dX5_needsOf_13 : decode cX5_needsOf 13 = .ok (.aload_n 0, 1) := by decide +kernel
theorem dX5_needsOf_14 : decode cX5_needsOf 14 = .ok (.getfield 7, 3) := by decide +kernel
theorem dX5_needsOf_17 : decode cX5_needsOf 17 = .ok (.iconst 4, 1) := by decide +kernel
theorem dX5_needsOf_18 : decode cX5_needsOf 18 = .ok (.iaload, 1) := by decide +kernel
theorem dX5_needsOf_19 : decode cX5_needsOf 19 = .ok (.irem, 1) := by decide +kernel
theorem dX5_needsOf_20 : decode cX5_needsOf 20 = .ok (.ifCond .ne 7, 3) := by decide +kernel
theorem dX5_needsOf_23 : decode cX5_needsOf 23 = .ok (.iconst 0, 1) := by decide +kernel
theorem dX5_needsOf_24 : decode cX5_needsOf 24 = .ok (.goto 4, 3) := by decide +kernel
theorem dX5_needsOf_27 : decode cX5_needsOf 27 = .ok (.iload_n 2, 1) := by decide +kernel
theorem dX5_needsOf_28 : decode cX5_needsOf 28 = .ok (.istore_n 3, 1) := by decide +kernel
theorem dX5_needsOf_29 : decode cX5_needsOf 29 = .ok (.aload_n 0, 1) := by decide +kernel
theorem dX5_needsOf_30 : decode cX5_needsOf 30 = .ok (.iload_n 1, 1) := by decide +kernel
theorem dX5_needsOf_31 : decode cX5_needsOf 31 = .ok (.iconst 0, 1) := by decide +kernel
theorem dX5_needsOf_32 : decode cX5_needsOf 32 = .ok (.invokevirtual 167, 3) := by decide +kernel
theorem dX5_needsOf_35 : decode cX5_needsOf 35 = .ok (.tableswitch 69 1 5 #[33, 45, 47, 61, 65], 33) := by decide +kernel
theorem dX5_needsOf_68 : decode cX5_needsOf 68 = .ok (.iload_n 2, 1) := by decide +kernel
theorem dX5_needsOf_69 : decode cX5_needsOf 69 = .ok (.aload_n 0, 1) := by decide +kernel
theorem dX5_needsOf_70 : decode cX5_needsOf 70 = .ok (.iload_n 1, 1) := by decide +kernel
theorem dX5_needsOf_71 : decode cX5_needsOf 71 = .ok (.iconst 1, 1) := by decide +kernel
theorem dX5_needsOf_72 : decode cX5_needsOf 72 = .ok (.invokevirtual 167, 3) := by decide +kernel
theorem dX5_needsOf_75 : decode cX5_needsOf 75 = .ok (.bipush 10, 2) := by decide +kernel
theorem dX5_needsOf_77 : decode cX5_needsOf 77 = .ok (.idiv, 1) := by decide +kernel
theorem dX5_needsOf_78 : decode cX5_needsOf 78 = .ok (.isub, 1) := by decide +kernel
theorem dX5_needsOf_79 : decode cX5_needsOf 79 = .ok (.ireturn, 1) := by decide +kernel
theorem dX5_needsOf_80 : decode cX5_needsOf 80 = .ok (.iload_n 3, 1) := by decide +kernel
theorem dX5_needsOf_81 : decode cX5_needsOf 81 = .ok (.ireturn, 1) := by decide +kernel
theorem dX5_needsOf_82 : decode cX5_needsOf 82 = .ok (.iload_n 2, 1) := by decide +kernel
theorem dX5_needsOf_83 : decode cX5_needsOf 83 = .ok (.aload_n 0, 1) := by decide +kernel
theorem dX5_needsOf_84 : decode cX5_needsOf 84 = .ok (.iload_n 1, 1) := by decide +kernel
theorem dX5_needsOf_85 : decode cX5_needsOf 85 = .ok (.iconst 1, 1) := by decide +kernel
theorem dX5_needsOf_86 : decode cX5_needsOf 86 = .ok (.invokevirtual 167, 3) := by decide +kernel
theorem dX5_needsOf_89 : decode cX5_needsOf 89 = .ok (.bipush 10, 2) := by decide +kernel
theorem dX5_needsOf_91 : decode cX5_needsOf 91 = .ok (.idiv, 1) := by decide +kernel
theorem dX5_needsOf_92 : decode cX5_needsOf 92 = .ok (.isub, 1) := by decide +kernel
theorem dX5_needsOf_93 : decode cX5_needsOf 93 = .ok (.iconst 2, 1) := by decide +kernel
theorem dX5_needsOf_94 : decode cX5_needsOf 94 = .ok (.iadd, 1) := by decide +kernel
theorem dX5_needsOf_95 : decode cX5_needsOf 95 = .ok (.ireturn, 1) := by decide +kernel
theorem dX5_needsOf_96 : decode cX5_needsOf 96 = .ok (.iload_n 3, 1) := by decide +kernel
theorem dX5_needsOf_97 : decode cX5_needsOf 97 = .ok (.iconst 2, 1) := by decide +kernel
theorem dX5_needsOf_98 : decode cX5_needsOf 98 = .ok (.idiv, 1) := by decide +kernel
theorem dX5_needsOf_99 : decode cX5_needsOf 99 = .ok (.ireturn, 1) := by decide +kernel
theorem dX5_needsOf_100 : decode cX5_needsOf 100 = .ok (.iload_n 2, 1) := by decide +kernel
theorem dX5_needsOf_101 : decode cX5_needsOf 101 = .ok (.iconst 3, 1) := by decide +kernel
theorem dX5_needsOf_102 : decode cX5_needsOf 102 = .ok (.iadd, 1) := by decide +kernel
theorem dX5_needsOf_103 : decode cX5_needsOf 103 = .ok (.ireturn, 1) := by decide +kernel
theorem dX5_needsOf_104 : decode cX5_needsOf 104 = .ok (.iload_n 2, 1) := by decide +kernel
theorem dX5_needsOf_105 : decode cX5_needsOf 105 = .ok (.ireturn, 1) := by decide +kernel
set_option maxRecDepth 20000 in
theorem ggX5_of_X5_isOne : GoodIn wsX5_of wsX5_isOne := goodIn_r _ [6, 7, 15, 16, 17, 18, 19, 20, 21, 22, 23, 24, 25, 26, 27, 28, 29, 30, 31, 32, 33, 34, 35, 36, 37, 38, 39, 40, 41, 42, 43] (by decide +kernel) (by decide +kernel)
set_option maxRecDepth 20000 in
theorem gX5_of_X5_isOne : GoodIn wsX5_of (wsV RX5 176 RX5 yX5_isOne wsX5_isOne) := goodIn_app (goodIn_of _ (by decide +kernel)) ggX5_of_X5_isOne
set_option maxRecDepth 20000 in
theorem ggX5_of_X5_isIn : GoodIn wsX5_of wsX5_isIn := goodIn_r _ [10] (by decide +kernel) (by decide +kernel)
set_option maxRecDepth 20000 in
theorem gX5_of_X5_isIn : GoodIn wsX5_of (va_wsS RX5 64 yX5_isIn wsX5_isIn) := goodIn_app (goodIn_of _ (by decide +kernel)) ggX5_of_X5_isIn
set_option maxRecDepth 20000 in
theorem ggX5_of_X5_its : GoodIn wsX5_of wsX5_its := goodIn_r _ [14, 7, 15, 16, 17, 18, 19, 20, 21, 22, 23, 24, 25, 26, 27, 28, 29, 30, 31, 32, 33, 34, 35, 36, 37, 38, 39, 40, 41, 42, 43] (by decide +kernel) (by decide +kernel)
set_option maxRecDepth 20000 in
theorem gX5_of_X5_its : GoodIn wsX5_of (wsV RX5 167 RX5 yX5_its wsX5_its) := goodIn_app (goodIn_of _ (by decide +kernel)) ggX5_of_X5_its
theorem dX5_of_0 : decode cX5_of 0 = .ok (.aload_n 0, 1) := by decide +kernel
theorem dX5_of_1 : decode cX5_of 1 = .ok (.iload_n 1, 1) := by decide +kernel
theorem dX5_of_2 : decode cX5_of 2 = .ok (.invokevirtual 176, 3) := by decide +kernel
theorem dX5_of_5 : decode cX5_of 5 = .ok (.ifCond .eq 24, 3) := by decide +kernel
theorem dX5_of_8 : decode cX5_of 8 = .ok (.iload_n 2, 1) := by decide +kernel
theorem dX5_of_9 : decode cX5_of 9 = .ok (.i2l, 1) := by decide +kernel
theorem dX5_of_10 : decode cX5_of 10 = .ok (.lconst 0, 1) := by decide +kernel
theorem dX5_of_11 : decode cX5_of 11 = .ok (.ldc2_w 179, 3) := by decide +kernel
theorem dX5_of_14 : decode cX5_of 14 = .ok (.invokestatic 64, 3) := by decide +kernel
theorem dX5_of_17 : decode cX5_of 17 = .ok (.ifCond .eq 12, 3) := by decide +kernel
theorem dX5_of_20 : decode cX5_of 20 = .ok (.aload_n 0, 1) := by decide +kernel
theorem dX5_of_21 : decode cX5_of 21 = .ok (.iload_n 1, 1) := by decide +kernel
theorem dX5_of_22 : decode cX5_of 22 = .ok (.iload_n 2, 1) := by decide +kernel
theorem dX5_of_23 : decode cX5_of 23 = .ok (.invokevirtual 167, 3) := by decide +kernel
theorem dX5_of_26 : decode cX5_of 26 = .ok (.goto 4, 3) := by decide +kernel
theorem dX5_of_29 : decode cX5_of 29 = .ok (.iconst (-1), 1) := by decide +kernel
theorem dX5_of_30 : decode cX5_of 30 = .ok (.ireturn, 1) := by decide +kernel
set_option maxRecDepth 20000 in
theorem ggX5_does_X5_isOne : GoodIn wsX5_does wsX5_isOne := goodIn_r _ [6, 7, 31, 32, 33, 34, 35, 36, 37, 38, 39, 40, 41, 42, 43, 44, 45, 46, 47, 48, 49, 50, 51, 52, 53, 54, 55, 56, 57, 58, 59] (by decide +kernel) (by decide +kernel)
set_option maxRecDepth 20000 in
theorem gX5_does_X5_isOne : GoodIn wsX5_does (wsV RX5 176 RX5 yX5_isOne wsX5_isOne) := goodIn_app (goodIn_of _ (by decide +kernel)) ggX5_does_X5_isOne
set_option maxRecDepth 20000 in
theorem ggX5_does_X5_isIn : GoodIn wsX5_does wsX5_isIn := goodIn_r _ [10] (by decide +kernel) (by decide +kernel)
set_option maxRecDepth 20000 in
theorem gX5_does_X5_isIn : GoodIn wsX5_does (va_wsS RX5 64 yX5_isIn wsX5_isIn) := goodIn_app (goodIn_of _ (by decide +kernel)) ggX5_does_X5_isIn
set_option maxRecDepth 20000 in
theorem ggX5_does_X5_loud : GoodIn wsX5_does wsX5_loud := goodIn_r _ [14, 7, 15, 16, 17, 5, 18, 31, 32, 33, 34, 35, 36, 37, 38, 39, 40, 41, 42, 43, 44, 45, 46, 47, 48, 49, 50, 51, 52, 53, 54, 55, 56, 57, 58, 59] (by decide +kernel) (by decide +kernel)
set_option maxRecDepth 20000 in
theorem gX5_does_X5_loud : GoodIn wsX5_does (wsV RX5 170 RX5 yX5_loud wsX5_loud) := goodIn_app (goodIn_of _ (by decide +kernel)) ggX5_does_X5_loud
set_option maxRecDepth 20000 in
theorem ggX5_does_X5_needsOf : GoodIn wsX5_does wsX5_needsOf := goodIn_r _ [22, 7, 15, 16, 17, 5, 18, 31, 32, 33, 34, 35, 36, 37, 38, 39, 40, 41, 42, 43, 44, 45, 46, 47, 48, 49, 50, 51, 52, 53, 54, 55, 56, 57, 58, 59] (by decide +kernel) (by decide +kernel)
set_option maxRecDepth 20000 in
theorem gX5_does_X5_needsOf : GoodIn wsX5_does (wsV RX5 183 RX5 yX5_needsOf wsX5_needsOf) := goodIn_app (goodIn_of _ (by decide +kernel)) ggX5_does_X5_needsOf
set_option maxRecDepth 20000 in
theorem ggX5_does_X5_hears : GoodIn wsX5_does wsX5_hears := goodIn_r _ [26, 7, 15, 16, 17, 5, 18, 27, 28, 29, 30, 11, 12, 13, 14, 31, 32, 33, 34, 35, 36, 37, 38, 39, 40, 41, 42, 43, 44, 45, 46, 47, 48, 49, 50, 51, 52, 53, 54, 55, 56, 57, 58, 59] (by decide +kernel) (by decide +kernel)
set_option maxRecDepth 20000 in
theorem gX5_does_X5_hears : GoodIn wsX5_does (wsV RX5 186 RX5 yX5_hears wsX5_hears) := goodIn_app (goodIn_of _ (by decide +kernel)) ggX5_does_X5_hears
theorem dX5_does_0 : decode cX5_does 0 = .ok (.aload_n 0, 1) := by decide +kernel
theorem dX5_does_1 : decode cX5_does 1 = .ok (.iload_n 1, 1) := by decide +kernel
theorem dX5_does_2 : decode cX5_does 2 = .ok (.invokevirtual 176, 3) := by decide +kernel
theorem dX5_does_5 : decode cX5_does 5 = .ok (.ifCond .eq 15, 3) := by decide +kernel
theorem dX5_does_8 : decode cX5_does 8 = .ok (.iload_n 2, 1) := by decide +kernel
theorem dX5_does_9 : decode cX5_does 9 = .ok (.i2l, 1) := by decide +kernel
theorem dX5_does_10 : decode cX5_does 10 = .ok (.lconst 0, 1) := by decide +kernel
theorem dX5_does_11 : decode cX5_does 11 = .ok (.ldc2_w 181, 3) := by decide +kernel
theorem dX5_does_14 : decode cX5_does 14 = .ok (.invokestatic 64, 3) := by decide +kernel
theorem dX5_does_17 : decode cX5_does 17 = .ok (.ifCond .ne 5, 3) := by decide +kernel
theorem dX5_does_20 : decode cX5_does 20 = .ok (.iconst (-1), 1) := by decide +kernel
theorem dX5_does_21 : decode cX5_does 21 = .ok (.ireturn, 1) := by decide +kernel
theorem dX5_does_22 : decode cX5_does 22 = .ok (.sipush 1000, 3) := by decide +kernel
theorem dX5_does_25 : decode cX5_does 25 = .ok (.iload_n 2, 1) := by decide +kernel
theorem dX5_does_26 : decode cX5_does 26 = .ok (.ifCond .ne 11, 3) := by decide +kernel
theorem dX5_does_29 : decode cX5_does 29 = .ok (.aload_n 0, 1) := by decide +kernel
theorem dX5_does_30 : decode cX5_does 30 = .ok (.iload_n 1, 1) := by decide +kernel
theorem dX5_does_31 : decode cX5_does 31 = .ok (.invokevirtual 170, 3) := by decide +kernel
theorem dX5_does_34 : decode cX5_does 34 = .ok (.goto 21, 3) := by decide +kernel
theorem dX5_does_37 : decode cX5_does 37 = .ok (.iload_n 2, 1) := by decide +kernel
theorem dX5_does_38 : decode cX5_does 38 = .ok (.iconst 1, 1) := by decide +kernel
theorem dX5_does_39 : decode cX5_does 39 = .ok (.if_icmp .ne 11, 3) := by decide +kernel
theorem dX5_does_42 : decode cX5_does 42 = .ok (.aload_n 0, 1) := by decide +kernel
theorem dX5_does_43 : decode cX5_does 43 = .ok (.iload_n 1, 1) := by decide +kernel
theorem dX5_does_44 : decode cX5_does 44 = .ok (.invokevirtual 183, 3) := by decide +kernel
theorem dX5_does_47 : decode cX5_does 47 = .ok (.goto 8, 3) := by decide +kernel
theorem dX5_does_50 : decode cX5_does 50 = .ok (.aload_n 0, 1) := by decide +kernel
theorem dX5_does_51 : decode cX5_does 51 = .ok (.iload_n 1, 1) := by decide +kernel
theorem dX5_does_52 : decode cX5_does 52 = .ok (.invokevirtual 186, 3) := by decide +kernel
theorem dX5_does_55 : decode cX5_does 55 = .ok (.iadd, 1) := by decide +kernel
theorem dX5_does_56 : decode cX5_does 56 = .ok (.ireturn, 1) := by decide +kernel
set_option maxRecDepth 20000 in
theorem ggX5_mind_X5_isOne : GoodIn wsX5_mind wsX5_isOne := goodIn_r _ [8, 3, 16, 17, 18, 19, 20, 21, 22, 23, 24, 25, 26, 27, 28, 29, 30, 31, 32, 33, 34, 35, 36, 37, 38, 39, 40, 41, 42, 43, 44] (by decide +kernel) (by decide +kernel)
set_option maxRecDepth 20000 in
theorem gX5_mind_X5_isOne : GoodIn wsX5_mind (wsV RX5 176 RX5 yX5_isOne wsX5_isOne) := goodIn_app (goodIn_of _ (by decide +kernel)) ggX5_mind_X5_isOne
set_option maxRecDepth 20000 in
theorem ggX5_mind_X5_isIn : GoodIn wsX5_mind wsX5_isIn := goodIn_r _ [11] (by decide +kernel) (by decide +kernel)
set_option maxRecDepth 20000 in
theorem gX5_mind_X5_isIn : GoodIn wsX5_mind (va_wsS RX5 64 yX5_isIn wsX5_isIn) := goodIn_app (goodIn_of _ (by decide +kernel)) ggX5_mind_X5_isIn
set_option maxRecDepth 20000 in
theorem ggX5_mind_X5_becomes : GoodIn wsX5_mind wsX5_becomes := goodIn_r _ [15, 3, 16, 17, 18, 19, 20, 21, 22, 23, 24, 25, 26, 27, 28, 29, 30, 31, 32, 33, 34, 35, 36, 37, 38, 39, 40, 41, 42, 43, 44] (by decide +kernel) (by decide +kernel)
set_option maxRecDepth 20000 in
theorem gX5_mind_X5_becomes : GoodIn wsX5_mind (wsV RX5 158 RX5 yX5_becomes wsX5_becomes) := goodIn_app (goodIn_of _ (by decide +kernel)) ggX5_mind_X5_becomes
theorem dX5_mind_0 : decode cX5_mind 0 = .ok (.aload_n 0, 1) := by decide +kernel
theorem dX5_mind_1 : decode cX5_mind 1 = .ok (.iload_n 1, 1) := by decide +kernel
theorem dX5_mind_2 : decode cX5_mind 2 = .ok (.invokevirtual 176, 3) := by decide +kernel
theorem dX5_mind_5 : decode cX5_mind 5 = .ok (.ifCond .eq 27, 3) := by decide +kernel
theorem dX5_mind_8 : decode cX5_mind 8 = .ok (.iload_n 2, 1) := by decide +kernel
theorem dX5_mind_9 : decode cX5_mind 9 = .ok (.i2l, 1) := by decide +kernel
theorem dX5_mind_10 : decode cX5_mind 10 = .ok (.lconst 0, 1) := by decide +kernel
theorem dX5_mind_11 : decode cX5_mind 11 = .ok (.ldc2_w 162, 3) := by decide +kernel
theorem dX5_mind_14 : decode cX5_mind 14 = .ok (.invokestatic 64, 3) := by decide +kernel
theorem dX5_mind_17 : decode cX5_mind 17 = .ok (.ifCond .eq 15, 3) := by decide +kernel
theorem dX5_mind_20 : decode cX5_mind 20 = .ok (.iload_n 3, 1) := by decide +kernel
theorem dX5_mind_21 : decode cX5_mind 21 = .ok (.i2l, 1) := by decide +kernel
theorem dX5_mind_22 : decode cX5_mind 22 = .ok (.lconst 0, 1) := by decide +kernel
theorem dX5_mind_23 : decode cX5_mind 23 = .ok (.ldc2_w 156, 3) := by decide +kernel
theorem dX5_mind_26 : decode cX5_mind 26 = .ok (.invokestatic 64, 3) := by decide +kernel
theorem dX5_mind_29 : decode cX5_mind 29 = .ok (.ifCond .ne 5, 3) := by decide +kernel
theorem dX5_mind_32 : decode cX5_mind 32 = .ok (.iconst (-1), 1) := by decide +kernel
theorem dX5_mind_33 : decode cX5_mind 33 = .ok (.ireturn, 1) := by decide +kernel
theorem dX5_mind_34 : decode cX5_mind 34 = .ok (.aload_n 0, 1) := by decide +kernel
theorem dX5_mind_35 : decode cX5_mind 35 = .ok (.getfield 7, 3) := by decide +kernel
theorem dX5_mind_38 : decode cX5_mind 38 = .ok (.bipush 7, 2) := by decide +kernel
theorem dX5_mind_40 : decode cX5_mind 40 = .ok (.iconst 5, 1) := by decide +kernel
theorem dX5_mind_41 : decode cX5_mind 41 = .ok (.iload_n 1, 1) := by decide +kernel
theorem dX5_mind_42 : decode cX5_mind 42 = .ok (.imul, 1) := by decide +kernel
theorem dX5_mind_43 : decode cX5_mind 43 = .ok (.iadd, 1) := by decide +kernel
theorem dX5_mind_44 : decode cX5_mind 44 = .ok (.iconst 2, 1) := by decide +kernel
theorem dX5_mind_45 : decode cX5_mind 45 = .ok (.iadd, 1) := by decide +kernel
theorem dX5_mind_46 : decode cX5_mind 46 = .ok (.iload_n 3, 1) := by decide +kernel
theorem dX5_mind_47 : decode cX5_mind 47 = .ok (.iastore, 1) := by decide +kernel
theorem dX5_mind_48 : decode cX5_mind 48 = .ok (.aload_n 0, 1) := by decide +kernel
theorem dX5_mind_49 : decode cX5_mind 49 = .ok (.bipush 7, 2) := by decide +kernel
theorem dX5_mind_51 : decode cX5_mind 51 = .ok (.iconst 5, 1) := by decide +kernel
theorem dX5_mind_52 : decode cX5_mind 52 = .ok (.iload_n 1, 1) := by decide +kernel
theorem dX5_mind_53 : decode cX5_mind 53 = .ok (.imul, 1) := by decide +kernel
theorem dX5_mind_54 : decode cX5_mind 54 = .ok (.iadd, 1) := by decide +kernel
theorem dX5_mind_55 : decode cX5_mind 55 = .ok (.iload_n 2, 1) := by decide +kernel
theorem dX5_mind_56 : decode cX5_mind 56 = .ok (.invokevirtual 158, 3) := by decide +kernel
theorem dX5_mind_59 : decode cX5_mind 59 = .ok (.ireturn, 1) := by decide +kernel
set_option maxRecDepth 20000 in
theorem ggX5_pride_X5_isOne : GoodIn wsX5_pride wsX5_isOne := goodIn_r _ [6, 7, 15, 16, 17, 18, 19, 20, 21, 22, 23, 24, 25, 26, 27, 28, 29, 30, 31, 32, 33, 34, 35, 36, 37, 38, 39, 40, 41, 42, 43] (by decide +kernel) (by decide +kernel)
set_option maxRecDepth 20000 in
theorem gX5_pride_X5_isOne : GoodIn wsX5_pride (wsV RX5 176 RX5 yX5_isOne wsX5_isOne) := goodIn_app (goodIn_of _ (by decide +kernel)) ggX5_pride_X5_isOne
set_option maxRecDepth 20000 in
theorem ggX5_pride_X5_isIn : GoodIn wsX5_pride wsX5_isIn := goodIn_r _ [10] (by decide +kernel) (by decide +kernel)
set_option maxRecDepth 20000 in
theorem gX5_pride_X5_isIn : GoodIn wsX5_pride (va_wsS RX5 64 yX5_isIn wsX5_isIn) := goodIn_app (goodIn_of _ (by decide +kernel)) ggX5_pride_X5_isIn
set_option maxRecDepth 20000 in
theorem ggX5_pride_X5_becomes : GoodIn wsX5_pride wsX5_becomes := goodIn_r _ [14, 7, 15, 16, 17, 18, 19, 20, 21, 22, 23, 24, 25, 26, 27, 28, 29, 30, 31, 32, 33, 34, 35, 36, 37, 38, 39, 40, 41, 42, 43] (by decide +kernel) (by decide +kernel)
set_option maxRecDepth 20000 in
theorem gX5_pride_X5_becomes : GoodIn wsX5_pride (wsV RX5 158 RX5 yX5_becomes wsX5_becomes) := goodIn_app (goodIn_of _ (by decide +kernel)) ggX5_pride_X5_becomes
theorem dX5_pride_0 : decode cX5_pride 0 = .ok (.aload_n 0, 1) := by decide +kernel
theorem dX5_pride_1 : decode cX5_pride 1 = .ok (.iload_n 1, 1) := by decide +kernel
theorem dX5_pride_2 : decode cX5_pride 2 = .ok (.invokevirtual 176, 3) := by decide +kernel
theorem dX5_pride_5 : decode cX5_pride 5 = .ok (.ifCond .eq 31, 3) := by decide +kernel
theorem dX5_pride_8 : decode cX5_pride 8 = .ok (.iload_n 2, 1) := by decide +kernel
theorem dX5_pride_9 : decode cX5_pride 9 = .ok (.i2l, 1) := by decide +kernel
theorem dX5_pride_10 : decode cX5_pride 10 = .ok (.lconst 0, 1) := by decide +kernel
theorem dX5_pride_11 : decode cX5_pride 11 = .ok (.ldc2_w 154, 3) := by decide +kernel
theorem dX5_pride_14 : decode cX5_pride 14 = .ok (.invokestatic 64, 3) := by decide +kernel
theorem dX5_pride_17 : decode cX5_pride 17 = .ok (.ifCond .eq 19, 3) := by decide +kernel
theorem dX5_pride_20 : decode cX5_pride 20 = .ok (.aload_n 0, 1) := by decide +kernel
theorem dX5_pride_21 : decode cX5_pride 21 = .ok (.bipush 7, 2) := by decide +kernel
theorem dX5_pride_23 : decode cX5_pride 23 = .ok (.iconst 5, 1) := by decide +kernel
theorem dX5_pride_24 : decode cX5_pride 24 = .ok (.iload_n 1, 1) := by decide +kernel
theorem dX5_pride_25 : decode cX5_pride 25 = .ok (.imul, 1) := by decide +kernel
theorem dX5_pride_26 : decode cX5_pride 26 = .ok (.iadd, 1) := by decide +kernel
theorem dX5_pride_27 : decode cX5_pride 27 = .ok (.iconst 1, 1) := by decide +kernel
theorem dX5_pride_28 : decode cX5_pride 28 = .ok (.iadd, 1) := by decide +kernel
theorem dX5_pride_29 : decode cX5_pride 29 = .ok (.iload_n 2, 1) := by decide +kernel
theorem dX5_pride_30 : decode cX5_pride 30 = .ok (.invokevirtual 158, 3) := by decide +kernel
theorem dX5_pride_33 : decode cX5_pride 33 = .ok (.goto 4, 3) := by decide +kernel
theorem dX5_pride_36 : decode cX5_pride 36 = .ok (.iconst (-1), 1) := by decide +kernel
theorem dX5_pride_37 : decode cX5_pride 37 = .ok (.ireturn, 1) := by decide +kernel
set_option maxRecDepth 20000 in
theorem ggX5_move_X5_isOne : GoodIn wsX5_move wsX5_isOne := goodIn_r _ [5, 6, 14, 15, 16, 17, 18, 19, 20, 21, 22, 23, 24, 25, 26, 27, 28, 29, 30, 31, 32, 33, 34, 35, 36, 37, 38, 39, 40, 41, 42] (by decide +kernel) (by decide +kernel)
set_option maxRecDepth 20000 in
theorem gX5_move_X5_isOne : GoodIn wsX5_move (wsV RX5 176 RX5 yX5_isOne wsX5_isOne) := goodIn_app (goodIn_of _ (by decide +kernel)) ggX5_move_X5_isOne
set_option maxRecDepth 20000 in
theorem ggX5_move_X5_isRoom : GoodIn wsX5_move wsX5_isRoom := goodIn_r _ [9] (by decide +kernel) (by decide +kernel)
set_option maxRecDepth 20000 in
theorem gX5_move_X5_isRoom : GoodIn wsX5_move (va_wsS RX5 164 yX5_isRoom wsX5_isRoom) := goodIn_app (goodIn_of _ (by decide +kernel)) ggX5_move_X5_isRoom
set_option maxRecDepth 20000 in
theorem ggX5_move_X5_becomes : GoodIn wsX5_move wsX5_becomes := goodIn_r _ [13, 6, 14, 15, 16, 17, 18, 19, 20, 21, 22, 23, 24, 25, 26, 27, 28, 29, 30, 31, 32, 33, 34, 35, 36, 37, 38, 39, 40, 41, 42] (by decide +kernel) (by decide +kernel)
set_option maxRecDepth 20000 in
theorem gX5_move_X5_becomes : GoodIn wsX5_move (wsV RX5 158 RX5 yX5_becomes wsX5_becomes) := goodIn_app (goodIn_of _ (by decide +kernel)) ggX5_move_X5_becomes
theorem dX5_move_0 : decode cX5_move 0 = .ok (.aload_n 0, 1) := by decide +kernel
theorem dX5_move_1 : decode cX5_move 1 = .ok (.iload_n 1, 1) := by decide +kernel
theorem dX5_move_2 : decode cX5_move 2 = .ok (.invokevirtual 176, 3) := by decide +kernel
theorem dX5_move_5 : decode cX5_move 5 = .ok (.ifCond .eq 26, 3) := by decide +kernel
theorem dX5_move_8 : decode cX5_move 8 = .ok (.iload_n 2, 1) := by decide +kernel
theorem dX5_move_9 : decode cX5_move 9 = .ok (.invokestatic 164, 3) := by decide +kernel
theorem dX5_move_12 : decode cX5_move 12 = .ok (.ifCond .eq 19, 3) := by decide +kernel
theorem dX5_move_15 : decode cX5_move 15 = .ok (.aload_n 0, 1) := by decide +kernel
theorem dX5_move_16 : decode cX5_move 16 = .ok (.bipush 7, 2) := by decide +kernel
theorem dX5_move_18 : decode cX5_move 18 = .ok (.iconst 5, 1) := by decide +kernel
theorem dX5_move_19 : decode cX5_move 19 = .ok (.iload_n 1, 1) := by decide +kernel
theorem dX5_move_20 : decode cX5_move 20 = .ok (.imul, 1) := by decide +kernel
theorem dX5_move_21 : decode cX5_move 21 = .ok (.iadd, 1) := by decide +kernel
theorem dX5_move_22 : decode cX5_move 22 = .ok (.iconst 3, 1) := by decide +kernel
theorem dX5_move_23 : decode cX5_move 23 = .ok (.iadd, 1) := by decide +kernel
theorem dX5_move_24 : decode cX5_move 24 = .ok (.iload_n 2, 1) := by decide +kernel
theorem dX5_move_25 : decode cX5_move 25 = .ok (.invokevirtual 158, 3) := by decide +kernel
theorem dX5_move_28 : decode cX5_move 28 = .ok (.goto 4, 3) := by decide +kernel
theorem dX5_move_31 : decode cX5_move 31 = .ok (.iconst (-1), 1) := by decide +kernel
theorem dX5_move_32 : decode cX5_move 32 = .ok (.ireturn, 1) := by decide +kernel
set_option maxRecDepth 20000 in
theorem ggX5_clap_X5_isOne : GoodIn wsX5_clap wsX5_isOne := goodIn_r _ [5, 6, 14, 15, 16, 17, 18, 19, 20, 21, 22, 23, 24, 25, 26, 27, 28, 29, 30, 31, 32, 33, 34, 35, 36, 37, 38, 39, 40, 41, 42] (by decide +kernel) (by decide +kernel)
set_option maxRecDepth 20000 in
theorem gX5_clap_X5_isOne : GoodIn wsX5_clap (wsV RX5 176 RX5 yX5_isOne wsX5_isOne) := goodIn_app (goodIn_of _ (by decide +kernel)) ggX5_clap_X5_isOne
set_option maxRecDepth 20000 in
theorem ggX5_clap_X5_isIn : GoodIn wsX5_clap wsX5_isIn := goodIn_r _ [9] (by decide +kernel) (by decide +kernel)
set_option maxRecDepth 20000 in
theorem gX5_clap_X5_isIn : GoodIn wsX5_clap (va_wsS RX5 64 yX5_isIn wsX5_isIn) := goodIn_app (goodIn_of _ (by decide +kernel)) ggX5_clap_X5_isIn
set_option maxRecDepth 20000 in
theorem ggX5_clap_X5_becomes : GoodIn wsX5_clap wsX5_becomes := goodIn_r _ [13, 6, 14, 15, 16, 17, 18, 19, 20, 21, 22, 23, 24, 25, 26, 27, 28, 29, 30, 31, 32, 33, 34, 35, 36, 37, 38, 39, 40, 41, 42] (by decide +kernel) (by decide +kernel)
set_option maxRecDepth 20000 in
theorem gX5_clap_X5_becomes : GoodIn wsX5_clap (wsV RX5 158 RX5 yX5_becomes wsX5_becomes) := goodIn_app (goodIn_of _ (by decide +kernel)) ggX5_clap_X5_becomes
theorem dX5_clap_0 : decode cX5_clap 0 = .ok (.aload_n 0, 1) := by decide +kernel
theorem dX5_clap_1 : decode cX5_clap 1 = .ok (.iload_n 1, 1) := by decide +kernel
theorem dX5_clap_2 : decode cX5_clap 2 = .ok (.invokevirtual 176, 3) := by decide +kernel
theorem dX5_clap_5 : decode cX5_clap 5 = .ok (.ifCond .eq 29, 3) := by decide +kernel
theorem dX5_clap_8 : decode cX5_clap 8 = .ok (.iload_n 2, 1) := by decide +kernel
theorem dX5_clap_9 : decode cX5_clap 9 = .ok (.i2l, 1) := by decide +kernel
theorem dX5_clap_10 : decode cX5_clap 10 = .ok (.lconst 0, 1) := by decide +kernel
theorem dX5_clap_11 : decode cX5_clap 11 = .ok (.lconst 1, 1) := by decide +kernel
theorem dX5_clap_12 : decode cX5_clap 12 = .ok (.invokestatic 64, 3) := by decide +kernel
theorem dX5_clap_15 : decode cX5_clap 15 = .ok (.ifCond .eq 19, 3) := by decide +kernel
theorem dX5_clap_18 : decode cX5_clap 18 = .ok (.aload_n 0, 1) := by decide +kernel
theorem dX5_clap_19 : decode cX5_clap 19 = .ok (.bipush 7, 2) := by decide +kernel
theorem dX5_clap_21 : decode cX5_clap 21 = .ok (.iconst 5, 1) := by decide +kernel
theorem dX5_clap_22 : decode cX5_clap 22 = .ok (.iload_n 1, 1) := by decide +kernel
theorem dX5_clap_23 : decode cX5_clap 23 = .ok (.imul, 1) := by decide +kernel
theorem dX5_clap_24 : decode cX5_clap 24 = .ok (.iadd, 1) := by decide +kernel
theorem dX5_clap_25 : decode cX5_clap 25 = .ok (.iconst 4, 1) := by decide +kernel
theorem dX5_clap_26 : decode cX5_clap 26 = .ok (.iadd, 1) := by decide +kernel
theorem dX5_clap_27 : decode cX5_clap 27 = .ok (.iload_n 2, 1) := by decide +kernel
theorem dX5_clap_28 : decode cX5_clap 28 = .ok (.invokevirtual 158, 3) := by decide +kernel
theorem dX5_clap_31 : decode cX5_clap 31 = .ok (.goto 4, 3) := by decide +kernel
theorem dX5_clap_34 : decode cX5_clap 34 = .ok (.iconst (-1), 1) := by decide +kernel
theorem dX5_clap_35 : decode cX5_clap 35 = .ok (.ireturn, 1) := by decide +kernel
set_option maxRecDepth 20000 in
theorem ggX5_thoseIn_X5_its : GoodIn wsX5_thoseIn wsX5_its := goodIn_r _ [6, 1, 7, 8, 9, 10, 11, 12, 13, 14, 15, 16, 17, 18, 19, 20, 21, 22, 23, 24, 25, 26, 27, 28, 29, 30, 31, 32, 33, 34, 35] (by decide +kernel) (by decide +kernel)
set_option maxRecDepth 20000 in
theorem gX5_thoseIn_X5_its : GoodIn wsX5_thoseIn (wsV RX5 167 RX5 yX5_its wsX5_its) := goodIn_app (goodIn_of _ (by decide +kernel)) ggX5_thoseIn_X5_its
theorem dX5_thoseIn_0 : decode cX5_thoseIn 0 = .ok (.iconst 0, 1) := by decide +kernel
theorem dX5_thoseIn_1 : decode cX5_thoseIn 1 = .ok (.istore_n 2, 1) := by decide +kernel
theorem dX5_thoseIn_2 : decode cX5_thoseIn 2 = .ok (.iconst 0, 1) := by decide +kernel
theorem dX5_thoseIn_3 : decode cX5_thoseIn 3 = .ok (.istore_n 3, 1) := by decide +kernel
theorem dX5_thoseIn_4 : decode cX5_thoseIn 4 = .ok (.iload_n 3, 1) := by decide +kernel
theorem dX5_thoseIn_5 : decode cX5_thoseIn 5 = .ok (.aload_n 0, 1) := by decide +kernel
theorem dX5_thoseIn_6 : decode cX5_thoseIn 6 = .ok (.getfield 7, 3) := by decide +kernel
theorem dX5_thoseIn_9 : decode cX5_thoseIn 9 = .ok (.iconst 0, 1) := by decide +kernel
theorem dX5_thoseIn_10 : decode cX5_thoseIn 10 = .ok (.iaload, 1) := by decide +kernel
theorem dX5_thoseIn_11 : decode cX5_thoseIn 11 = .ok (.if_icmp .ge 29, 3) := by decide +kernel
theorem dX5_thoseIn_14 : decode cX5_thoseIn 14 = .ok (.iload_n 2, 1) := by decide +kernel
theorem dX5_thoseIn_15 : decode cX5_thoseIn 15 = .ok (.aload_n 0, 1) := by decide +kernel
theorem dX5_thoseIn_16 : decode cX5_thoseIn 16 = .ok (.iload_n 3, 1) := by decide +kernel
theorem dX5_thoseIn_17 : decode cX5_thoseIn 17 = .ok (.iconst 3, 1) := by decide +kernel
theorem dX5_thoseIn_18 : decode cX5_thoseIn 18 = .ok (.invokevirtual 167, 3) := by decide +kernel
theorem dX5_thoseIn_21 : decode cX5_thoseIn 21 = .ok (.iload_n 1, 1) := by decide +kernel
theorem dX5_thoseIn_22 : decode cX5_thoseIn 22 = .ok (.if_icmp .ne 9, 3) := by decide +kernel
theorem dX5_thoseIn_25 : decode cX5_thoseIn 25 = .ok (.iconst 1, 1) := by decide +kernel
theorem dX5_thoseIn_26 : decode cX5_thoseIn 26 = .ok (.iload_n 3, 1) := by decide +kernel
theorem dX5_thoseIn_27 : decode cX5_thoseIn 27 = .ok (.ishl, 1) := by decide +kernel
theorem dX5_thoseIn_28 : decode cX5_thoseIn 28 = .ok (.goto 4, 3) := by decide +kernel
theorem dX5_thoseIn_31 : decode cX5_thoseIn 31 = .ok (.iconst 0, 1) := by decide +kernel
theorem dX5_thoseIn_32 : decode cX5_thoseIn 32 = .ok (.ior, 1) := by decide +kernel
theorem dX5_thoseIn_33 : decode cX5_thoseIn 33 = .ok (.istore_n 2, 1) := by decide +kernel
theorem dX5_thoseIn_34 : decode cX5_thoseIn 34 = .ok (.iinc 3 1, 3) := by decide +kernel
theorem dX5_thoseIn_37 : decode cX5_thoseIn 37 = .ok (.goto (-33), 3) := by decide +kernel
theorem dX5_thoseIn_40 : decode cX5_thoseIn 40 = .ok (.iload_n 2, 1) := by decide +kernel
theorem dX5_thoseIn_41 : decode cX5_thoseIn 41 = .ok (.ireturn, 1) := by decide +kernel
set_option maxRecDepth 20000 in
theorem ggX5_clappers_X5_its : GoodIn wsX5_clappers wsX5_its := goodIn_r _ [6, 1, 7, 8, 9, 10, 11, 12, 13, 14, 15, 16, 17, 18, 19, 20, 21, 22, 23, 24, 25, 26, 27, 28, 29, 30, 31, 32, 33, 34, 35] (by decide +kernel) (by decide +kernel)
set_option maxRecDepth 20000 in
theorem gX5_clappers_X5_its : GoodIn wsX5_clappers (wsV RX5 167 RX5 yX5_its wsX5_its) := goodIn_app (goodIn_of _ (by decide +kernel)) ggX5_clappers_X5_its
theorem dX5_clappers_0 : decode cX5_clappers 0 = .ok (.iconst 0, 1) := by decide +kernel
theorem dX5_clappers_1 : decode cX5_clappers 1 = .ok (.istore_n 1, 1) := by decide +kernel
theorem dX5_clappers_2 : decode cX5_clappers 2 = .ok (.iconst 0, 1) := by decide +kernel
theorem dX5_clappers_3 : decode cX5_clappers 3 = .ok (.istore_n 2, 1) := by decide +kernel
theorem dX5_clappers_4 : decode cX5_clappers 4 = .ok (.iload_n 2, 1) := by decide +kernel
theorem dX5_clappers_5 : decode cX5_clappers 5 = .ok (.aload_n 0, 1) := by decide +kernel
theorem dX5_clappers_6 : decode cX5_clappers 6 = .ok (.getfield 7, 3) := by decide +kernel
theorem dX5_clappers_9 : decode cX5_clappers 9 = .ok (.iconst 0, 1) := by decide +kernel
theorem dX5_clappers_10 : decode cX5_clappers 10 = .ok (.iaload, 1) := by decide +kernel
theorem dX5_clappers_11 : decode cX5_clappers 11 = .ok (.if_icmp .ge 20, 3) := by decide +kernel
theorem dX5_clappers_14 : decode cX5_clappers 14 = .ok (.iload_n 1, 1) := by decide +kernel
theorem dX5_clappers_15 : decode cX5_clappers 15 = .ok (.aload_n 0, 1) := by decide +kernel
theorem dX5_clappers_16 : decode cX5_clappers 16 = .ok (.iload_n 2, 1) := by decide +kernel
theorem dX5_clappers_17 : decode cX5_clappers 17 = .ok (.iconst 4, 1) := by decide +kernel
theorem dX5_clappers_18 : decode cX5_clappers 18 = .ok (.invokevirtual 167, 3) := by decide +kernel
theorem dX5_clappers_21 : decode cX5_clappers 21 = .ok (.iload_n 2, 1) := by decide +kernel
theorem dX5_clappers_22 : decode cX5_clappers 22 = .ok (.ishl, 1) := by decide +kernel
theorem dX5_clappers_23 : decode cX5_clappers 23 = .ok (.ior, 1) := by decide +kernel
theorem dX5_clappers_24 : decode cX5_clappers 24 = .ok (.istore_n 1, 1) := by decide +kernel
theorem dX5_clappers_25 : decode cX5_clappers 25 = .ok (.iinc 2 1, 3) := by decide +kernel
theorem dX5_clappers_28 : decode cX5_clappers 28 = .ok (.goto (-24), 3) := by decide +kernel
theorem dX5_clappers_31 : decode cX5_clappers 31 = .ok (.iload_n 1, 1) := by decide +kernel
theorem dX5_clappers_32 : decode cX5_clappers 32 = .ok (.ireturn, 1) := by decide +kernel
set_option maxRecDepth 20000 in
theorem ggX5_room_X5_isRoom : GoodIn wsX5_room wsX5_isRoom := goodIn_r _ [4] (by decide +kernel) (by decide +kernel)
set_option maxRecDepth 20000 in
theorem gX5_room_X5_isRoom : GoodIn wsX5_room (va_wsS RX5 164 yX5_isRoom wsX5_isRoom) := goodIn_app (goodIn_of _ (by decide +kernel)) ggX5_room_X5_isRoom
set_option maxRecDepth 20000 in
theorem ggX5_room_X5_isIn : GoodIn wsX5_room wsX5_isIn := goodIn_r _ [7] (by decide +kernel) (by decide +kernel)
set_option maxRecDepth 20000 in
theorem gX5_room_X5_isIn : GoodIn wsX5_room (va_wsS RX5 64 yX5_isIn wsX5_isIn) := goodIn_app (goodIn_of _ (by decide +kernel)) ggX5_room_X5_isIn
set_option maxRecDepth 20000 in
theorem ggX5_room_X5_thoseIn : GoodIn wsX5_room wsX5_thoseIn := goodIn_r _ [11, 12, 13, 14, 15, 3, 16, 21, 22, 23, 24, 25, 26, 27, 28, 29, 30, 31, 32, 33, 34, 35, 36, 37, 38, 39, 40, 41, 42, 43, 44, 45, 46, 47, 48, 49] (by decide +kernel) (by decide +kernel)
set_option maxRecDepth 20000 in
theorem gX5_room_X5_thoseIn : GoodIn wsX5_room (wsV RX5 189 RX5 yX5_thoseIn wsX5_thoseIn) := goodIn_app (goodIn_of _ (by decide +kernel)) ggX5_room_X5_thoseIn
set_option maxRecDepth 20000 in
theorem ggX5_room_X5_clappers : GoodIn wsX5_room wsX5_clappers := goodIn_r _ [20, 12, 13, 14, 15, 3, 16, 21, 22, 23, 24, 25, 26, 27, 28, 29, 30, 31, 32, 33, 34, 35, 36, 37, 38, 39, 40, 41, 42, 43, 44, 45, 46, 47, 48, 49] (by decide +kernel) (by decide +kernel)
set_option maxRecDepth 20000 in
theorem gX5_room_X5_clappers : GoodIn wsX5_room (wsV RX5 192 RX5 yX5_clappers wsX5_clappers) := goodIn_app (goodIn_of _ (by decide +kernel)) ggX5_room_X5_clappers
theorem dX5_room_0 : decode cX5_room 0 = .ok (.iload_n 1, 1) := by decide +kernel
theorem dX5_room_1 : decode cX5_room 1 = .ok (.invokestatic 164, 3) := by decide +kernel
theorem dX5_room_4 : decode cX5_room 4 = .ok (.ifCond .eq 13, 3) := by decide +kernel
theorem dX5_room_7 : decode cX5_room 7 = .ok (.iload_n 2, 1) := by decide +kernel
theorem dX5_room_8 : decode cX5_room 8 = .ok (.i2l, 1) := by decide +kernel
theorem dX5_room_9 : decode cX5_room 9 = .ok (.lconst 0, 1) := by decide +kernel
theorem dX5_room_10 : decode cX5_room 10 = .ok (.lconst 1, 1) := by decide +kernel
theorem dX5_room_11 : decode cX5_room 11 = .ok (.invokestatic 64, 3) := by decide +kernel
theorem dX5_room_14 : decode cX5_room 14 = .ok (.ifCond .ne 5, 3) := by decide +kernel
theorem dX5_room_17 : decode cX5_room 17 = .ok (.iconst (-1), 1) := by decide +kernel
theorem dX5_room_18 : decode cX5_room 18 = .ok (.ireturn, 1) := by decide +kernel
theorem dX5_room_19 : decode cX5_room 19 = .ok (.iload_n 2, 1) := by decide +kernel
theorem dX5_room_20 : decode cX5_room 20 = .ok (.ifCond .ne 11, 3) := by decide +kernel
theorem dX5_room_23 : decode cX5_room 23 = .ok (.aload_n 0, 1) := by decide +kernel
theorem dX5_room_24 : decode cX5_room 24 = .ok (.iload_n 1, 1) := by decide +kernel
theorem dX5_room_25 : decode cX5_room 25 = .ok (.invokevirtual 189, 3) := by decide +kernel
theorem dX5_room_28 : decode cX5_room 28 = .ok (.goto 13, 3) := by decide +kernel
theorem dX5_room_31 : decode cX5_room 31 = .ok (.aload_n 0, 1) := by decide +kernel
theorem dX5_room_32 : decode cX5_room 32 = .ok (.iload_n 1, 1) := by decide +kernel
theorem dX5_room_33 : decode cX5_room 33 = .ok (.invokevirtual 189, 3) := by decide +kernel
theorem dX5_room_36 : decode cX5_room 36 = .ok (.aload_n 0, 1) := by decide +kernel
theorem dX5_room_37 : decode cX5_room 37 = .ok (.invokevirtual 192, 3) := by decide +kernel
theorem dX5_room_40 : decode cX5_room 40 = .ok (.iand, 1) := by decide +kernel
theorem dX5_room_41 : decode cX5_room 41 = .ok (.ireturn, 1) := by decide +kernel
set_option maxRecDepth 20000 in
theorem ggX5_goesOn_X5_hears : GoodIn wsX5_goesOn wsX5_hears := goodIn_r _ [8, 1, 9, 10, 11, 7, 12, 13, 14, 15, 16, 17, 18, 19, 20, 28, 29, 30, 31, 32, 33, 34, 35, 36, 37, 38, 39, 40, 41, 42, 43, 44, 45, 46, 47, 48, 49, 50, 51, 52, 53, 54, 55, 56] (by decide +kernel) (by decide +kernel)
set_option maxRecDepth 20000 in
theorem gX5_goesOn_X5_hears : GoodIn wsX5_goesOn (wsV RX5 186 RX5 yX5_hears wsX5_hears) := goodIn_app (goodIn_of _ (by decide +kernel)) ggX5_goesOn_X5_hears
set_option maxRecDepth 20000 in
theorem ggX5_goesOn_X5_needsOf : GoodIn wsX5_goesOn wsX5_needsOf := goodIn_r _ [24, 1, 9, 10, 11, 7, 12, 28, 29, 30, 31, 32, 33, 34, 35, 36, 37, 38, 39, 40, 41, 42, 43, 44, 45, 46, 47, 48, 49, 50, 51, 52, 53, 54, 55, 56] (by decide +kernel) (by decide +kernel)
set_option maxRecDepth 20000 in
theorem gX5_goesOn_X5_needsOf : GoodIn wsX5_goesOn (wsV RX5 183 RX5 yX5_needsOf wsX5_needsOf) := goodIn_app (goodIn_of _ (by decide +kernel)) ggX5_goesOn_X5_needsOf
set_option maxRecDepth 20000 in
theorem ggX5_goesOn_X5_its : GoodIn wsX5_goesOn wsX5_its := goodIn_r _ [12, 1, 28, 29, 30, 31, 32, 33, 34, 35, 36, 37, 38, 39, 40, 41, 42, 43, 44, 45, 46, 47, 48, 49, 50, 51, 52, 53, 54, 55, 56] (by decide +kernel) (by decide +kernel)
set_option maxRecDepth 20000 in
theorem gX5_goesOn_X5_its : GoodIn wsX5_goesOn (wsV RX5 167 RX5 yX5_its wsX5_its) := goodIn_app (goodIn_of _ (by decide +kernel)) ggX5_goesOn_X5_its
set_option maxRecDepth 20000 in
theorem ggX5_goesOn_X5_within : GoodIn wsX5_goesOn wsX5_within := goodIn_r _ [27] (by decide +kernel) (by decide +kernel)
set_option maxRecDepth 20000 in
theorem gX5_goesOn_X5_within : GoodIn wsX5_goesOn (va_wsS RX5 195 yX5_within wsX5_within) := goodIn_app (goodIn_of _ (by decide +kernel)) ggX5_goesOn_X5_within
theorem dX5_goesOn_0 : decode cX5_goesOn 0 = .ok (.iconst 0, 1) := by decide +kernel
theorem dX5_goesOn_1 : decode cX5_goesOn 1 = .ok (.istore_n 1, 1) := by decide +kernel
theorem dX5_goesOn_2 : decode cX5_goesOn 2 = .ok (.iload_n 1, 1) := by decide +kernel
theorem dX5_goesOn_3 : decode cX5_goesOn 3 = .ok (.aload_n 0, 1) := by decide +kernel
theorem dX5_goesOn_4 : decode cX5_goesOn 4 = .ok (.getfield 7, 3) := by decide +kernel
theorem dX5_goesOn_7 : decode cX5_goesOn 7 = .ok (.iconst 0, 1) := by decide +kernel
theorem dX5_goesOn_8 : decode cX5_goesOn 8 = .ok (.iaload, 1) := by decide +kernel
theorem dX5_goesOn_9 : decode cX5_goesOn 9 = .ok (.if_icmp .ge 45, 3) := by decide +kernel
theorem dX5_goesOn_12 : decode cX5_goesOn 12 = .ok (.aload_n 0, 1) := by decide +kernel
theorem dX5_goesOn_13 : decode cX5_goesOn 13 = .ok (.getfield 28, 3) := by decide +kernel
theorem dX5_goesOn_16 : decode cX5_goesOn 16 = .ok (.iload_n 1, 1) := by decide +kernel
theorem dX5_goesOn_17 : decode cX5_goesOn 17 = .ok (.aload_n 0, 1) := by decide +kernel
theorem dX5_goesOn_18 : decode cX5_goesOn 18 = .ok (.iload_n 1, 1) := by decide +kernel
theorem dX5_goesOn_19 : decode cX5_goesOn 19 = .ok (.invokevirtual 186, 3) := by decide +kernel
theorem dX5_goesOn_22 : decode cX5_goesOn 22 = .ok (.iastore, 1) := by decide +kernel
theorem dX5_goesOn_23 : decode cX5_goesOn 23 = .ok (.aload_n 0, 1) := by decide +kernel
theorem dX5_goesOn_24 : decode cX5_goesOn 24 = .ok (.getfield 31, 3) := by decide +kernel
theorem dX5_goesOn_27 : decode cX5_goesOn 27 = .ok (.iload_n 1, 1) := by decide +kernel
theorem dX5_goesOn_28 : decode cX5_goesOn 28 = .ok (.aload_n 0, 1) := by decide +kernel
theorem dX5_goesOn_29 : decode cX5_goesOn 29 = .ok (.getfield 28, 3) := by decide +kernel
theorem dX5_goesOn_32 : decode cX5_goesOn 32 = .ok (.iload_n 1, 1) := by decide +kernel
theorem dX5_goesOn_33 : decode cX5_goesOn 33 = .ok (.iaload, 1) := by decide +kernel
theorem dX5_goesOn_34 : decode cX5_goesOn 34 = .ok (.aload_n 0, 1) := by decide +kernel
theorem dX5_goesOn_35 : decode cX5_goesOn 35 = .ok (.iload_n 1, 1) := by decide +kernel
theorem dX5_goesOn_36 : decode cX5_goesOn 36 = .ok (.invokevirtual 183, 3) := by decide +kernel
theorem dX5_goesOn_39 : decode cX5_goesOn 39 = .ok (.if_icmp .lt 7, 3) := by decide +kernel
theorem dX5_goesOn_42 : decode cX5_goesOn 42 = .ok (.iconst 1, 1) := by decide +kernel
theorem dX5_goesOn_43 : decode cX5_goesOn 43 = .ok (.goto 4, 3) := by decide +kernel
theorem dX5_goesOn_46 : decode cX5_goesOn 46 = .ok (.iconst 0, 1) := by decide +kernel
theorem dX5_goesOn_47 : decode cX5_goesOn 47 = .ok (.bastore, 1) := by decide +kernel
theorem dX5_goesOn_48 : decode cX5_goesOn 48 = .ok (.iinc 1 1, 3) := by decide +kernel
theorem dX5_goesOn_51 : decode cX5_goesOn 51 = .ok (.goto (-49), 3) := by decide +kernel
theorem dX5_goesOn_54 : decode cX5_goesOn 54 = .ok (.iconst 0, 1) := by decide +kernel
theorem dX5_goesOn_55 : decode cX5_goesOn 55 = .ok (.istore_n 1, 1) := by decide +kernel
theorem dX5_goesOn_56 : decode cX5_goesOn 56 = .ok (.iload_n 1, 1) := by decide +kernel
theorem dX5_goesOn_57 : decode cX5_goesOn 57 = .ok (.aload_n 0, 1) := by decide +kernel
theorem dX5_goesOn_58 : decode cX5_goesOn 58 = .ok (.getfield 7, 3) := by decide +kernel
theorem dX5_goesOn_61 : decode cX5_goesOn 61 = .ok (.iconst 0, 1) := by decide +kernel
theorem dX5_goesOn_62 : decode cX5_goesOn 62 = .ok (.iaload, 1) := by decide +kernel
theorem dX5_goesOn_63 : decode cX5_goesOn 63 = .ok (.if_icmp .ge 65, 3) := by decide +kernel
theorem dX5_goesOn_66 : decode cX5_goesOn 66 = .ok (.aload_n 0, 1) := by decide +kernel
theorem dX5_goesOn_67 : decode cX5_goesOn 67 = .ok (.getfield 7, 3) := by decide +kernel
theorem dX5_goesOn_70 : decode cX5_goesOn 70 = .ok (.bipush 7, 2) := by decide +kernel
theorem dX5_goesOn_72 : decode cX5_goesOn 72 = .ok (.iconst 5, 1) := by decide +kernel
theorem dX5_goesOn_73 : decode cX5_goesOn 73 = .ok (.iload_n 1, 1) := by decide +kernel
theorem dX5_goesOn_74 : decode cX5_goesOn 74 = .ok (.imul, 1) := by decide +kernel
theorem dX5_goesOn_75 : decode cX5_goesOn 75 = .ok (.iadd, 1) := by decide +kernel
theorem dX5_goesOn_76 : decode cX5_goesOn 76 = .ok (.iconst 1, 1) := by decide +kernel
theorem dX5_goesOn_77 : decode cX5_goesOn 77 = .ok (.iadd, 1) := by decide +kernel
theorem dX5_goesOn_78 : decode cX5_goesOn 78 = .ok (.aload_n 0, 1) := by decide +kernel
theorem dX5_goesOn_79 : decode cX5_goesOn 79 = .ok (.iload_n 1, 1) := by decide +kernel
theorem dX5_goesOn_80 : decode cX5_goesOn 80 = .ok (.iconst 1, 1) := by decide +kernel
theorem dX5_goesOn_81 : decode cX5_goesOn 81 = .ok (.invokevirtual 167, 3) := by decide +kernel
theorem dX5_goesOn_84 : decode cX5_goesOn 84 = .ok (.aload_n 0, 1) := by decide +kernel
theorem dX5_goesOn_85 : decode cX5_goesOn 85 = .ok (.getfield 28, 3) := by decide +kernel
theorem dX5_goesOn_88 : decode cX5_goesOn 88 = .ok (.iload_n 1, 1) := by decide +kernel
theorem dX5_goesOn_89 : decode cX5_goesOn 89 = .ok (.iaload, 1) := by decide +kernel
theorem dX5_goesOn_90 : decode cX5_goesOn 90 = .ok (.iadd, 1) := by decide +kernel
theorem dX5_goesOn_91 : decode cX5_goesOn 91 = .ok (.invokestatic 195, 3) := by decide +kernel
theorem dX5_goesOn_94 : decode cX5_goesOn 94 = .ok (.iastore, 1) := by decide +kernel
theorem dX5_goesOn_95 : decode cX5_goesOn 95 = .ok (.aload_n 0, 1) := by decide +kernel
theorem dX5_goesOn_96 : decode cX5_goesOn 96 = .ok (.getfield 7, 3) := by decide +kernel
theorem dX5_goesOn_99 : decode cX5_goesOn 99 = .ok (.bipush 7, 2) := by decide +kernel
theorem dX5_goesOn_101 : decode cX5_goesOn 101 = .ok (.iconst 5, 1) := by decide +kernel
theorem dX5_goesOn_102 : decode cX5_goesOn 102 = .ok (.iload_n 1, 1) := by decide +kernel
theorem dX5_goesOn_103 : decode cX5_goesOn 103 = .ok (.imul, 1) := by decide +kernel
theorem dX5_goesOn_104 : decode cX5_goesOn 104 = .ok (.iadd, 1) := by decide +kernel
theorem dX5_goesOn_105 : decode cX5_goesOn 105 = .ok (.iconst 4, 1) := by decide +kernel
theorem dX5_goesOn_106 : decode cX5_goesOn 106 = .ok (.iadd, 1) := by decide +kernel
theorem dX5_goesOn_107 : decode cX5_goesOn 107 = .ok (.aload_n 0, 1) := by decide +kernel
theorem dX5_goesOn_108 : decode cX5_goesOn 108 = .ok (.getfield 31, 3) := by decide +kernel
theorem dX5_goesOn_111 : decode cX5_goesOn 111 = .ok (.iload_n 1, 1) := by decide +kernel
theorem dX5_goesOn_112 : decode cX5_goesOn 112 = .ok (.baload, 1) := by decide +kernel
theorem dX5_goesOn_113 : decode cX5_goesOn 113 = .ok (.ifCond .eq 7, 3) := by decide +kernel
theorem dX5_goesOn_116 : decode cX5_goesOn 116 = .ok (.iconst 1, 1) := by decide +kernel
theorem dX5_goesOn_117 : decode cX5_goesOn 117 = .ok (.goto 4, 3) := by decide +kernel
theorem dX5_goesOn_120 : decode cX5_goesOn 120 = .ok (.iconst 0, 1) := by decide +kernel
theorem dX5_goesOn_121 : decode cX5_goesOn 121 = .ok (.iastore, 1) := by decide +kernel
theorem dX5_goesOn_122 : decode cX5_goesOn 122 = .ok (.iinc 1 1, 3) := by decide +kernel
theorem dX5_goesOn_125 : decode cX5_goesOn 125 = .ok (.goto (-69), 3) := by decide +kernel
theorem dX5_goesOn_128 : decode cX5_goesOn 128 = .ok (.aload_n 0, 1) := by decide +kernel
theorem dX5_goesOn_129 : decode cX5_goesOn 129 = .ok (.getfield 7, 3) := by decide +kernel
theorem dX5_goesOn_132 : decode cX5_goesOn 132 = .ok (.iconst 1, 1) := by decide +kernel
theorem dX5_goesOn_133 : decode cX5_goesOn 133 = .ok (.dup2, 1) := by decide +kernel
theorem dX5_goesOn_134 : decode cX5_goesOn 134 = .ok (.iaload, 1) := by decide +kernel
theorem dX5_goesOn_135 : decode cX5_goesOn 135 = .ok (.iconst 1, 1) := by decide +kernel
theorem dX5_goesOn_136 : decode cX5_goesOn 136 = .ok (.iadd, 1) := by decide +kernel
theorem dX5_goesOn_137 : decode cX5_goesOn 137 = .ok (.iastore, 1) := by decide +kernel
theorem dX5_goesOn_138 : decode cX5_goesOn 138 = .ok (.return_, 1) := by decide +kernel
set_option maxRecDepth 20000 in
theorem ggX5_goes_X5_goesOn : GoodIn wsX5_goes wsX5_goesOn := goodIn_r _ [5, 6, 7, 8, 9, 10, 11, 4, 12, 13, 14, 15, 16, 17, 18, 19, 20, 21, 22, 23, 24, 25, 26, 27, 28, 29, 30, 31, 32, 33, 34, 35, 36, 37, 38, 39, 40, 41, 42, 43, 44, 45, 46, 47, 48, 49, 50, 51, 52, 53, 54, 55, 56, 57, 58, 59, 60] (by decide +kernel) (by decide +kernel)
set_option maxRecDepth 20000 in
theorem gX5_goes_X5_goesOn : GoodIn wsX5_goes (wsV RX5 198 RX5 yX5_goesOn wsX5_goesOn) := goodIn_app (goodIn_of _ (by decide +kernel)) ggX5_goes_X5_goesOn
theorem dX5_goes_0 : decode cX5_goes 0 = .ok (.iconst 0, 1) := by decide +kernel
theorem dX5_goes_1 : decode cX5_goes 1 = .ok (.istore_n 2, 1) := by decide +kernel
theorem dX5_goes_2 : decode cX5_goes 2 = .ok (.iload_n 2, 1) := by decide +kernel
theorem dX5_goes_3 : decode cX5_goes 3 = .ok (.iload_n 1, 1) := by decide +kernel
theorem dX5_goes_4 : decode cX5_goes 4 = .ok (.if_icmp .ge 13, 3) := by decide +kernel
theorem dX5_goes_7 : decode cX5_goes 7 = .ok (.aload_n 0, 1) := by decide +kernel
theorem dX5_goes_8 : decode cX5_goes 8 = .ok (.invokevirtual 198, 3) := by decide +kernel
theorem dX5_goes_11 : decode cX5_goes 11 = .ok (.iinc 2 1, 3) := by decide +kernel
theorem dX5_goes_14 : decode cX5_goes 14 = .ok (.goto (-12), 3) := by decide +kernel
theorem dX5_goes_17 : decode cX5_goes 17 = .ok (.return_, 1) := by decide +kernel
set_option maxRecDepth 20000 in
theorem ggX5_minutes_X5_isIn : GoodIn wsX5_minutes wsX5_isIn := goodIn_r _ [5] (by decide +kernel) (by decide +kernel)
set_option maxRecDepth 20000 in
theorem gX5_minutes_X5_isIn : GoodIn wsX5_minutes (va_wsS RX5 64 yX5_isIn wsX5_isIn) := goodIn_app (goodIn_of _ (by decide +kernel)) ggX5_minutes_X5_isIn
set_option maxRecDepth 20000 in
theorem ggX5_minutes_X5_goes : GoodIn wsX5_minutes wsX5_goes := goodIn_r _ [9, 10, 11, 12, 4, 13, 14, 15, 16, 17, 18, 19, 20, 21, 22, 23, 24, 25, 26, 27, 28, 29, 30, 31, 32, 33, 34, 35, 36, 37, 38, 39, 47, 48, 49, 50, 51, 52, 53, 54, 55, 56, 57, 58, 59, 60, 61, 62, 63, 64, 65, 66, 67, 68, 69, 70, 71, 72, 73, 74, 75] (by decide +kernel) (by decide +kernel)
set_option maxRecDepth 20000 in
theorem gX5_minutes_X5_goes : GoodIn wsX5_minutes (wsV RX5 203 RX5 yX5_goes wsX5_goes) := goodIn_app (goodIn_of _ (by decide +kernel)) ggX5_minutes_X5_goes
set_option maxRecDepth 20000 in
theorem ggX5_minutes_X5_clappers : GoodIn wsX5_minutes wsX5_clappers := goodIn_r _ [43, 14, 21, 22, 23, 4, 24, 47, 48, 49, 50, 51, 52, 53, 54, 55, 56, 57, 58, 59, 60, 61, 62, 63, 64, 65, 66, 67, 68, 69, 70, 71, 72, 73, 74, 75] (by decide +kernel) (by decide +kernel)
set_option maxRecDepth 20000 in
theorem gX5_minutes_X5_clappers : GoodIn wsX5_minutes (wsV RX5 192 RX5 yX5_clappers wsX5_clappers) := goodIn_app (goodIn_of _ (by decide +kernel)) ggX5_minutes_X5_clappers
set_option maxRecDepth 20000 in
theorem ggX5_minutes_X5_size : GoodIn wsX5_minutes wsX5_size := goodIn_r _ [46] (by decide +kernel) (by decide +kernel)
set_option maxRecDepth 20000 in
theorem gX5_minutes_X5_size : GoodIn wsX5_minutes (va_wsS RX5 206 yX5_size wsX5_size) := goodIn_app (goodIn_of _ (by decide +kernel)) ggX5_minutes_X5_size
theorem dX5_minutes_0 : decode cX5_minutes 0 = .ok (.iload_n 1, 1) := by decide +kernel
theorem dX5_minutes_1 : decode cX5_minutes 1 = .ok (.i2l, 1) := by decide +kernel
theorem dX5_minutes_2 : decode cX5_minutes 2 = .ok (.lconst 1, 1) := by decide +kernel
theorem dX5_minutes_3 : decode cX5_minutes 3 = .ok (.ldc2_w 201, 3) := by decide +kernel
theorem dX5_minutes_6 : decode cX5_minutes 6 = .ok (.invokestatic 64, 3) := by decide +kernel
theorem dX5_minutes_9 : decode cX5_minutes 9 = .ok (.ifCond .ne 5, 3) := by decide +kernel
theorem dX5_minutes_12 : decode cX5_minutes 12 = .ok (.iconst (-1), 1) := by decide +kernel
theorem dX5_minutes_13 : decode cX5_minutes 13 = .ok (.ireturn, 1) := by decide +kernel
theorem dX5_minutes_14 : decode cX5_minutes 14 = .ok (.aload_n 0, 1) := by decide +kernel
theorem dX5_minutes_15 : decode cX5_minutes 15 = .ok (.iload_n 1, 1) := by decide +kernel
theorem dX5_minutes_16 : decode cX5_minutes 16 = .ok (.invokevirtual 203, 3) := by decide +kernel
theorem dX5_minutes_19 : decode cX5_minutes 19 = .ok (.aload_n 0, 1) := by decide +kernel
theorem dX5_minutes_20 : decode cX5_minutes 20 = .ok (.invokevirtual 192, 3) := by decide +kernel
theorem dX5_minutes_23 : decode cX5_minutes 23 = .ok (.invokestatic 206, 3) := by decide +kernel
theorem dX5_minutes_26 : decode cX5_minutes 26 = .ok (.ireturn, 1) := by decide +kernel
set_option maxRecDepth 20000 in
theorem ggX5_seed_X5_becomes : GoodIn wsX5_seed wsX5_becomes := goodIn_r _ [5, 6, 7, 8, 9, 10, 11, 12, 13, 14, 15, 16, 17, 18, 19, 20, 21, 22, 23, 24, 25, 26, 27, 28, 29, 30, 31, 32, 33, 34, 35] (by decide +kernel) (by decide +kernel)
set_option maxRecDepth 20000 in
theorem gX5_seed_X5_becomes : GoodIn wsX5_seed (wsV RX5 158 RX5 yX5_becomes wsX5_becomes) := goodIn_app (goodIn_of _ (by decide +kernel)) ggX5_seed_X5_becomes
theorem dX5_seed_0 : decode cX5_seed 0 = .ok (.aload_n 0, 1) := by decide +kernel
theorem dX5_seed_1 : decode cX5_seed 1 = .ok (.iconst 2, 1) := by decide +kernel
theorem dX5_seed_2 : decode cX5_seed 2 = .ok (.iload_n 1, 1) := by decide +kernel
theorem dX5_seed_3 : decode cX5_seed 3 = .ok (.invokevirtual 158, 3) := by decide +kernel
theorem dX5_seed_6 : decode cX5_seed 6 = .ok (.ireturn, 1) := by decide +kernel
theorem dX5_drawn_0 : decode cX5_drawn 0 = .ok (.aload_n 0, 1) := by decide +kernel
theorem dX5_drawn_1 : decode cX5_drawn 1 = .ok (.getfield 7, 3) := by decide +kernel
theorem dX5_drawn_4 : decode cX5_drawn 4 = .ok (.iconst 2, 1) := by decide +kernel
theorem dX5_drawn_5 : decode cX5_drawn 5 = .ok (.aload_n 0, 1) := by decide +kernel
theorem dX5_drawn_6 : decode cX5_drawn 6 = .ok (.getfield 7, 3) := by decide +kernel
theorem dX5_drawn_9 : decode cX5_drawn 9 = .ok (.iconst 2, 1) := by decide +kernel
theorem dX5_drawn_10 : decode cX5_drawn 10 = .ok (.iaload, 1) := by decide +kernel
theorem dX5_drawn_11 : decode cX5_drawn 11 = .ok (.ldc 209, 2) := by decide +kernel
theorem dX5_drawn_13 : decode cX5_drawn 13 = .ok (.imul, 1) := by decide +kernel
theorem dX5_drawn_14 : decode cX5_drawn 14 = .ok (.sipush 12345, 3) := by decide +kernel
theorem dX5_drawn_17 : decode cX5_drawn 17 = .ok (.iadd, 1) := by decide +kernel
theorem dX5_drawn_18 : decode cX5_drawn 18 = .ok (.iastore, 1) := by decide +kernel
theorem dX5_drawn_19 : decode cX5_drawn 19 = .ok (.aload_n 0, 1) := by decide +kernel
theorem dX5_drawn_20 : decode cX5_drawn 20 = .ok (.getfield 7, 3) := by decide +kernel
theorem dX5_drawn_23 : decode cX5_drawn 23 = .ok (.iconst 2, 1) := by decide +kernel
theorem dX5_drawn_24 : decode cX5_drawn 24 = .ok (.iaload, 1) := by decide +kernel
theorem dX5_drawn_25 : decode cX5_drawn 25 = .ok (.bipush 16, 2) := by decide +kernel
theorem dX5_drawn_27 : decode cX5_drawn 27 = .ok (.iushr, 1) := by decide +kernel
theorem dX5_drawn_28 : decode cX5_drawn 28 = .ok (.ireturn, 1) := by decide +kernel
set_option maxRecDepth 20000 in
theorem ggX5_minute_X5_drawn : GoodIn wsX5_minute wsX5_drawn := goodIn_r _ [6, 1, 7, 44, 45, 46, 47, 48, 49, 50, 51, 52, 53, 54, 55, 56, 57, 58, 59, 60, 61, 62, 63, 64, 65, 66, 67, 68, 69, 70, 71, 72] (by decide +kernel) (by decide +kernel)
set_option maxRecDepth 20000 in
theorem gX5_minute_X5_drawn : GoodIn wsX5_minute (wsV RX5 210 RX5 yX5_drawn wsX5_drawn) := goodIn_app (goodIn_of _ (by decide +kernel)) ggX5_minute_X5_drawn
set_option maxRecDepth 20000 in
theorem ggX5_minute_X5_goesOn : GoodIn wsX5_minute wsX5_goesOn := goodIn_r _ [11, 1, 12, 13, 14, 15, 16, 5, 17, 18, 19, 20, 21, 22, 23, 24, 25, 26, 27, 28, 29, 30, 31, 32, 33, 34, 35, 36, 44, 45, 46, 47, 48, 49, 50, 51, 52, 53, 54, 55, 56, 57, 58, 59, 60, 61, 62, 63, 64, 65, 66, 67, 68, 69, 70, 71, 72] (by decide +kernel) (by decide +kernel)
set_option maxRecDepth 20000 in
theorem gX5_minute_X5_goesOn : GoodIn wsX5_minute (wsV RX5 198 RX5 yX5_goesOn wsX5_goesOn) := goodIn_app (goodIn_of _ (by decide +kernel)) ggX5_minute_X5_goesOn
set_option maxRecDepth 20000 in
theorem ggX5_minute_X5_clappers : GoodIn wsX5_minute wsX5_clappers := goodIn_r _ [40, 1, 18, 19, 20, 5, 21, 44, 45, 46, 47, 48, 49, 50, 51, 52, 53, 54, 55, 56, 57, 58, 59, 60, 61, 62, 63, 64, 65, 66, 67, 68, 69, 70, 71, 72] (by decide +kernel) (by decide +kernel)
set_option maxRecDepth 20000 in
theorem gX5_minute_X5_clappers : GoodIn wsX5_minute (wsV RX5 192 RX5 yX5_clappers wsX5_clappers) := goodIn_app (goodIn_of _ (by decide +kernel)) ggX5_minute_X5_clappers
set_option maxRecDepth 20000 in
theorem ggX5_minute_X5_size : GoodIn wsX5_minute wsX5_size := goodIn_r _ [43] (by decide +kernel) (by decide +kernel)
set_option maxRecDepth 20000 in
theorem gX5_minute_X5_size : GoodIn wsX5_minute (va_wsS RX5 206 yX5_size wsX5_size) := goodIn_app (goodIn_of _ (by decide +kernel)) ggX5_minute_X5_size
theorem dX5_minute_0 : decode cX5_minute 0 = .ok (.aload_n 0, 1) := by decide +kernel
theorem dX5_minute_1 : decode cX5_minute 1 = .ok (.getfield 7, 3) := by decide +kernel
theorem dX5_minute_4 : decode cX5_minute 4 = .ok (.iconst 0, 1) := by decide +kernel
theorem dX5_minute_5 : decode cX5_minute 5 = .ok (.iaload, 1) := by decide +kernel
theorem dX5_minute_6 : decode cX5_minute 6 = .ok (.ifCond .le 62, 3) := by decide +kernel
theorem dX5_minute_9 : decode cX5_minute 9 = .ok (.bipush 7, 2) := by decide +kernel
theorem dX5_minute_11 : decode cX5_minute 11 = .ok (.iconst 5, 1) := by decide +kernel
theorem dX5_minute_12 : decode cX5_minute 12 = .ok (.aload_n 0, 1) := by decide +kernel
theorem dX5_minute_13 : decode cX5_minute 13 = .ok (.invokevirtual 210, 3) := by decide +kernel
theorem dX5_minute_16 : decode cX5_minute 16 = .ok (.aload_n 0, 1) := by decide +kernel
theorem dX5_minute_17 : decode cX5_minute 17 = .ok (.getfield 7, 3) := by decide +kernel
theorem dX5_minute_20 : decode cX5_minute 20 = .ok (.iconst 0, 1) := by decide +kernel
theorem dX5_minute_21 : decode cX5_minute 21 = .ok (.iaload, 1) := by decide +kernel
theorem dX5_minute_22 : decode cX5_minute 22 = .ok (.irem, 1) := by decide +kernel
theorem dX5_minute_23 : decode cX5_minute 23 = .ok (.imul, 1) := by decide +kernel
theorem dX5_minute_24 : decode cX5_minute 24 = .ok (.iadd, 1) := by decide +kernel
theorem dX5_minute_25 : decode cX5_minute 25 = .ok (.iconst 4, 1) := by decide +kernel
theorem dX5_minute_26 : decode cX5_minute 26 = .ok (.iadd, 1) := by decide +kernel
theorem dX5_minute_27 : decode cX5_minute 27 = .ok (.istore_n 1, 1) := by decide +kernel
theorem dX5_minute_28 : decode cX5_minute 28 = .ok (.aload_n 0, 1) := by decide +kernel
theorem dX5_minute_29 : decode cX5_minute 29 = .ok (.getfield 7, 3) := by decide +kernel
theorem dX5_minute_32 : decode cX5_minute 32 = .ok (.iload_n 1, 1) := by decide +kernel
theorem dX5_minute_33 : decode cX5_minute 33 = .ok (.aload_n 0, 1) := by decide +kernel
theorem dX5_minute_34 : decode cX5_minute 34 = .ok (.invokevirtual 210, 3) := by decide +kernel
theorem dX5_minute_37 : decode cX5_minute 37 = .ok (.bipush 100, 2) := by decide +kernel
theorem dX5_minute_39 : decode cX5_minute 39 = .ok (.irem, 1) := by decide +kernel
theorem dX5_minute_40 : decode cX5_minute 40 = .ok (.aload_n 0, 1) := by decide +kernel
theorem dX5_minute_41 : decode cX5_minute 41 = .ok (.getfield 7, 3) := by decide +kernel
theorem dX5_minute_44 : decode cX5_minute 44 = .ok (.bipush 6, 2) := by decide +kernel
theorem dX5_minute_46 : decode cX5_minute 46 = .ok (.iaload, 1) := by decide +kernel
theorem dX5_minute_47 : decode cX5_minute 47 = .ok (.if_icmp .ge 14, 3) := by decide +kernel
theorem dX5_minute_50 : decode cX5_minute 50 = .ok (.iconst 1, 1) := by decide +kernel
theorem dX5_minute_51 : decode cX5_minute 51 = .ok (.aload_n 0, 1) := by decide +kernel
theorem dX5_minute_52 : decode cX5_minute 52 = .ok (.getfield 7, 3) := by decide +kernel
theorem dX5_minute_55 : decode cX5_minute 55 = .ok (.iload_n 1, 1) := by decide +kernel
theorem dX5_minute_56 : decode cX5_minute 56 = .ok (.iaload, 1) := by decide +kernel
theorem dX5_minute_57 : decode cX5_minute 57 = .ok (.isub, 1) := by decide +kernel
theorem dX5_minute_58 : decode cX5_minute 58 = .ok (.goto 9, 3) := by decide +kernel
theorem dX5_minute_61 : decode cX5_minute 61 = .ok (.aload_n 0, 1) := by decide +kernel
theorem dX5_minute_62 : decode cX5_minute 62 = .ok (.getfield 7, 3) := by decide +kernel
theorem dX5_minute_65 : decode cX5_minute 65 = .ok (.iload_n 1, 1) := by decide +kernel
theorem dX5_minute_66 : decode cX5_minute 66 = .ok (.iaload, 1) := by decide +kernel
theorem dX5_minute_67 : decode cX5_minute 67 = .ok (.iastore, 1) := by decide +kernel
theorem dX5_minute_68 : decode cX5_minute 68 = .ok (.aload_n 0, 1) := by decide +kernel
theorem dX5_minute_69 : decode cX5_minute 69 = .ok (.invokevirtual 198, 3) := by decide +kernel
theorem dX5_minute_72 : decode cX5_minute 72 = .ok (.aload_n 0, 1) := by decide +kernel
theorem dX5_minute_73 : decode cX5_minute 73 = .ok (.invokevirtual 192, 3) := by decide +kernel
theorem dX5_minute_76 : decode cX5_minute 76 = .ok (.invokestatic 206, 3) := by decide +kernel
theorem dX5_minute_79 : decode cX5_minute 79 = .ok (.ireturn, 1) := by decide +kernel
set_option maxRecDepth 20000 in
theorem ggX5_stir_X5_isIn : GoodIn wsX5_stir wsX5_isIn := goodIn_r _ [7] (by decide +kernel) (by decide +kernel)
set_option maxRecDepth 20000 in
theorem gX5_stir_X5_isIn : GoodIn wsX5_stir (va_wsS RX5 64 yX5_isIn wsX5_isIn) := goodIn_app (goodIn_of _ (by decide +kernel)) ggX5_stir_X5_isIn
set_option maxRecDepth 20000 in
theorem ggX5_stir_X5_copyRow : GoodIn wsX5_stir wsX5_copyRow := goodIn_r _ [10] (by decide +kernel) (by decide +kernel)
set_option maxRecDepth 20000 in
theorem gX5_stir_X5_copyRow : GoodIn wsX5_stir (va_wsS RX5 142 yX5_copyRow wsX5_copyRow) := goodIn_app (goodIn_of _ (by decide +kernel)) ggX5_stir_X5_copyRow
set_option maxRecDepth 20000 in
theorem ggX5_stir_X5_goesOn : GoodIn wsX5_stir wsX5_goesOn := goodIn_r _ [14, 2, 15, 16, 17, 18, 19, 6, 20, 21, 22, 23, 24, 25, 26, 27, 28, 29, 30, 31, 32, 33, 34, 35, 36, 37, 38, 39, 56, 57, 58, 59, 60, 61, 62, 63, 64, 65, 66, 67, 68, 69, 70, 71, 72, 73, 74, 75, 76, 77, 78, 79, 80, 81, 82, 83, 84] (by decide +kernel) (by decide +kernel)
set_option maxRecDepth 20000 in
theorem gX5_stir_X5_goesOn : GoodIn wsX5_stir (wsV RX5 198 RX5 yX5_goesOn wsX5_goesOn) := goodIn_app (goodIn_of _ (by decide +kernel)) ggX5_stir_X5_goesOn
set_option maxRecDepth 20000 in
theorem ggX5_stir_X5_clappers : GoodIn wsX5_stir wsX5_clappers := goodIn_r _ [43, 2, 21, 22, 23, 6, 24, 56, 57, 58, 59, 60, 61, 62, 63, 64, 65, 66, 67, 68, 69, 70, 71, 72, 73, 74, 75, 76, 77, 78, 79, 80, 81, 82, 83, 84] (by decide +kernel) (by decide +kernel)
set_option maxRecDepth 20000 in
theorem gX5_stir_X5_clappers : GoodIn wsX5_stir (wsV RX5 192 RX5 yX5_clappers wsX5_clappers) := goodIn_app (goodIn_of _ (by decide +kernel)) ggX5_stir_X5_clappers
set_option maxRecDepth 20000 in
theorem ggX5_stir_X5_size : GoodIn wsX5_stir wsX5_size := goodIn_r _ [46] (by decide +kernel) (by decide +kernel)
set_option maxRecDepth 20000 in
theorem gX5_stir_X5_size : GoodIn wsX5_stir (va_wsS RX5 206 yX5_size wsX5_size) := goodIn_app (goodIn_of _ (by decide +kernel)) ggX5_stir_X5_size
set_option maxRecDepth 20000 in
theorem ggX5_stir_X5_minute : GoodIn wsX5_stir wsX5_minute := goodIn_r _ [50, 2, 51, 52, 53, 6, 54, 55, 11, 12, 13, 14, 15, 16, 17, 18, 19, 20, 21, 22, 23, 24, 25, 26, 27, 28, 29, 30, 31, 32, 33, 34, 35, 36, 37, 38, 39, 40, 41, 42, 43, 44, 45, 46, 56, 57, 58, 59, 60, 61, 62, 63, 64, 65, 66, 67, 68, 69, 70, 71, 72, 73, 74, 75, 76, 77, 78, 79, 80, 81, 82, 83, 84] (by decide +kernel) (by decide +kernel)
set_option maxRecDepth 20000 in
theorem gX5_stir_X5_minute : GoodIn wsX5_stir (wsV RX5 215 RX5 yX5_minute wsX5_minute) := goodIn_app (goodIn_of _ (by decide +kernel)) ggX5_stir_X5_minute
theorem dX5_stir_0 : decode cX5_stir 0 = .ok (.iload_n 1, 1) := by decide +kernel
theorem dX5_stir_1 : decode cX5_stir 1 = .ok (.i2l, 1) := by decide +kernel
theorem dX5_stir_2 : decode cX5_stir 2 = .ok (.lconst 1, 1) := by decide +kernel
theorem dX5_stir_3 : decode cX5_stir 3 = .ok (.ldc2_w 213, 3) := by decide +kernel
theorem dX5_stir_6 : decode cX5_stir 6 = .ok (.invokestatic 64, 3) := by decide +kernel
theorem dX5_stir_9 : decode cX5_stir 9 = .ok (.ifCond .ne 5, 3) := by decide +kernel
theorem dX5_stir_12 : decode cX5_stir 12 = .ok (.iconst (-1), 1) := by decide +kernel
theorem dX5_stir_13 : decode cX5_stir 13 = .ok (.ireturn, 1) := by decide +kernel
theorem dX5_stir_14 : decode cX5_stir 14 = .ok (.aload_n 0, 1) := by decide +kernel
theorem dX5_stir_15 : decode cX5_stir 15 = .ok (.getfield 7, 3) := by decide +kernel
theorem dX5_stir_18 : decode cX5_stir 18 = .ok (.aload_n 0, 1) := by decide +kernel
theorem dX5_stir_19 : decode cX5_stir 19 = .ok (.getfield 16, 3) := by decide +kernel
theorem dX5_stir_22 : decode cX5_stir 22 = .ok (.invokestatic 142, 3) := by decide +kernel
theorem dX5_stir_25 : decode cX5_stir 25 = .ok (.aload_n 0, 1) := by decide +kernel
theorem dX5_stir_26 : decode cX5_stir 26 = .ok (.invokevirtual 198, 3) := by decide +kernel
theorem dX5_stir_29 : decode cX5_stir 29 = .ok (.aload_n 0, 1) := by decide +kernel
theorem dX5_stir_30 : decode cX5_stir 30 = .ok (.invokevirtual 192, 3) := by decide +kernel
theorem dX5_stir_33 : decode cX5_stir 33 = .ok (.invokestatic 206, 3) := by decide +kernel
theorem dX5_stir_36 : decode cX5_stir 36 = .ok (.istore_n 2, 1) := by decide +kernel
theorem dX5_stir_37 : decode cX5_stir 37 = .ok (.aload_n 0, 1) := by decide +kernel
theorem dX5_stir_38 : decode cX5_stir 38 = .ok (.getfield 16, 3) := by decide +kernel
theorem dX5_stir_41 : decode cX5_stir 41 = .ok (.iconst 2, 1) := by decide +kernel
theorem dX5_stir_42 : decode cX5_stir 42 = .ok (.iaload, 1) := by decide +kernel
theorem dX5_stir_43 : decode cX5_stir 43 = .ok (.istore_n 3, 1) := by decide +kernel
theorem dX5_stir_44 : decode cX5_stir 44 = .ok (.iconst 0, 1) := by decide +kernel
theorem dX5_stir_45 : decode cX5_stir 45 = .ok (.istore 4, 2) := by decide +kernel
theorem dX5_stir_47 : decode cX5_stir 47 = .ok (.iconst 0, 1) := by decide +kernel
theorem dX5_stir_48 : decode cX5_stir 48 = .ok (.istore 5, 2) := by decide +kernel
theorem dX5_stir_50 : decode cX5_stir 50 = .ok (.iload 5, 2) := by decide +kernel
theorem dX5_stir_52 : decode cX5_stir 52 = .ok (.iload_n 1, 1) := by decide +kernel
theorem dX5_stir_53 : decode cX5_stir 53 = .ok (.if_icmp .ge 52, 3) := by decide +kernel
theorem dX5_stir_56 : decode cX5_stir 56 = .ok (.aload_n 0, 1) := by decide +kernel
theorem dX5_stir_57 : decode cX5_stir 57 = .ok (.getfield 16, 3) := by decide +kernel
theorem dX5_stir_60 : decode cX5_stir 60 = .ok (.aload_n 0, 1) := by decide +kernel
theorem dX5_stir_61 : decode cX5_stir 61 = .ok (.getfield 7, 3) := by decide +kernel
theorem dX5_stir_64 : decode cX5_stir 64 = .ok (.invokestatic 142, 3) := by decide +kernel
theorem dX5_stir_67 : decode cX5_stir 67 = .ok (.aload_n 0, 1) := by decide +kernel
theorem dX5_stir_68 : decode cX5_stir 68 = .ok (.getfield 7, 3) := by decide +kernel
theorem dX5_stir_71 : decode cX5_stir 71 = .ok (.iconst 2, 1) := by decide +kernel
theorem dX5_stir_72 : decode cX5_stir 72 = .ok (.iload_n 3, 1) := by decide +kernel
theorem dX5_stir_73 : decode cX5_stir 73 = .ok (.iastore, 1) := by decide +kernel
theorem dX5_stir_74 : decode cX5_stir 74 = .ok (.iload 4, 2) := by decide +kernel
theorem dX5_stir_76 : decode cX5_stir 76 = .ok (.aload_n 0, 1) := by decide +kernel
theorem dX5_stir_77 : decode cX5_stir 77 = .ok (.invokevirtual 215, 3) := by decide +kernel
theorem dX5_stir_80 : decode cX5_stir 80 = .ok (.iload_n 2, 1) := by decide +kernel
theorem dX5_stir_81 : decode cX5_stir 81 = .ok (.if_icmp .le 7, 3) := by decide +kernel
theorem dX5_stir_84 : decode cX5_stir 84 = .ok (.iconst 1, 1) := by decide +kernel
theorem dX5_stir_85 : decode cX5_stir 85 = .ok (.goto 4, 3) := by decide +kernel
theorem dX5_stir_88 : decode cX5_stir 88 = .ok (.iconst 0, 1) := by decide +kernel
theorem dX5_stir_89 : decode cX5_stir 89 = .ok (.iadd, 1) := by decide +kernel
theorem dX5_stir_90 : decode cX5_stir 90 = .ok (.istore 4, 2) := by decide +kernel
theorem dX5_stir_92 : decode cX5_stir 92 = .ok (.aload_n 0, 1) := by decide +kernel
theorem dX5_stir_93 : decode cX5_stir 93 = .ok (.getfield 7, 3) := by decide +kernel
theorem dX5_stir_96 : decode cX5_stir 96 = .ok (.iconst 2, 1) := by decide +kernel
theorem dX5_stir_97 : decode cX5_stir 97 = .ok (.iaload, 1) := by decide +kernel
theorem dX5_stir_98 : decode cX5_stir 98 = .ok (.istore_n 3, 1) := by decide +kernel
theorem dX5_stir_99 : decode cX5_stir 99 = .ok (.iinc 5 1, 3) := by decide +kernel
theorem dX5_stir_102 : decode cX5_stir 102 = .ok (.goto (-52), 3) := by decide +kernel
theorem dX5_stir_105 : decode cX5_stir 105 = .ok (.aload_n 0, 1) := by decide +kernel
theorem dX5_stir_106 : decode cX5_stir 106 = .ok (.getfield 16, 3) := by decide +kernel
theorem dX5_stir_109 : decode cX5_stir 109 = .ok (.aload_n 0, 1) := by decide +kernel
theorem dX5_stir_110 : decode cX5_stir 110 = .ok (.getfield 7, 3) := by decide +kernel
theorem dX5_stir_113 : decode cX5_stir 113 = .ok (.invokestatic 142, 3) := by decide +kernel
theorem dX5_stir_116 : decode cX5_stir 116 = .ok (.iload 4, 2) := by decide +kernel
theorem dX5_stir_118 : decode cX5_stir 118 = .ok (.ireturn, 1) := by decide +kernel
set_option maxRecDepth 20000 in
theorem ggX5_sumOf_X5_its : GoodIn wsX5_sumOf wsX5_its := goodIn_r _ [6, 1, 7, 8, 9, 10, 11, 12, 13, 14, 15, 16, 17, 18, 19, 20, 21, 22, 23, 24, 25, 26, 27, 28, 29, 30, 31, 32, 33, 34, 35] (by decide +kernel) (by decide +kernel)
set_option maxRecDepth 20000 in
theorem gX5_sumOf_X5_its : GoodIn wsX5_sumOf (wsV RX5 167 RX5 yX5_its wsX5_its) := goodIn_app (goodIn_of _ (by decide +kernel)) ggX5_sumOf_X5_its
theorem dX5_sumOf_0 : decode cX5_sumOf 0 = .ok (.iconst 0, 1) := by decide +kernel
theorem dX5_sumOf_1 : decode cX5_sumOf 1 = .ok (.istore_n 2, 1) := by decide +kernel
theorem dX5_sumOf_2 : decode cX5_sumOf 2 = .ok (.iconst 0, 1) := by decide +kernel
theorem dX5_sumOf_3 : decode cX5_sumOf 3 = .ok (.istore_n 3, 1) := by decide +kernel
theorem dX5_sumOf_4 : decode cX5_sumOf 4 = .ok (.iload_n 3, 1) := by decide +kernel
theorem dX5_sumOf_5 : decode cX5_sumOf 5 = .ok (.aload_n 0, 1) := by decide +kernel
theorem dX5_sumOf_6 : decode cX5_sumOf 6 = .ok (.getfield 7, 3) := by decide +kernel
theorem dX5_sumOf_9 : decode cX5_sumOf 9 = .ok (.iconst 0, 1) := by decide +kernel
theorem dX5_sumOf_10 : decode cX5_sumOf 10 = .ok (.iaload, 1) := by decide +kernel
theorem dX5_sumOf_11 : decode cX5_sumOf 11 = .ok (.if_icmp .ge 18, 3) := by decide +kernel
theorem dX5_sumOf_14 : decode cX5_sumOf 14 = .ok (.iload_n 2, 1) := by decide +kernel
theorem dX5_sumOf_15 : decode cX5_sumOf 15 = .ok (.aload_n 0, 1) := by decide +kernel
theorem dX5_sumOf_16 : decode cX5_sumOf 16 = .ok (.iload_n 3, 1) := by decide +kernel
theorem dX5_sumOf_17 : decode cX5_sumOf 17 = .ok (.iload_n 1, 1) := by decide +kernel
theorem dX5_sumOf_18 : decode cX5_sumOf 18 = .ok (.invokevirtual 167, 3) := by decide +kernel
theorem dX5_sumOf_21 : decode cX5_sumOf 21 = .ok (.iadd, 1) := by decide +kernel
theorem dX5_sumOf_22 : decode cX5_sumOf 22 = .ok (.istore_n 2, 1) := by decide +kernel
theorem dX5_sumOf_23 : decode cX5_sumOf 23 = .ok (.iinc 3 1, 3) := by decide +kernel
theorem dX5_sumOf_26 : decode cX5_sumOf 26 = .ok (.goto (-22), 3) := by decide +kernel
theorem dX5_sumOf_29 : decode cX5_sumOf 29 = .ok (.iload_n 2, 1) := by decide +kernel
theorem dX5_sumOf_30 : decode cX5_sumOf 30 = .ok (.ireturn, 1) := by decide +kernel
set_option maxRecDepth 20000 in
theorem ggX5_loudAll_X5_loudIn : GoodIn wsX5_loudAll wsX5_loudIn := goodIn_r _ [5, 6, 7, 8, 9, 4, 10, 11, 12, 13, 14, 15, 16, 17, 18, 19, 20, 21, 22, 23, 24, 25, 26, 27, 28, 29, 30, 31, 32, 33, 34, 35, 36, 37, 38, 39, 40, 41, 42, 43] (by decide +kernel) (by decide +kernel)
set_option maxRecDepth 20000 in
theorem gX5_loudAll_X5_loudIn : GoodIn wsX5_loudAll (wsV RX5 173 RX5 yX5_loudIn wsX5_loudIn) := goodIn_app (goodIn_of _ (by decide +kernel)) ggX5_loudAll_X5_loudIn
theorem dX5_loudAll_0 : decode cX5_loudAll 0 = .ok (.iconst 0, 1) := by decide +kernel
theorem dX5_loudAll_1 : decode cX5_loudAll 1 = .ok (.istore_n 1, 1) := by decide +kernel
theorem dX5_loudAll_2 : decode cX5_loudAll 2 = .ok (.iconst 0, 1) := by decide +kernel
theorem dX5_loudAll_3 : decode cX5_loudAll 3 = .ok (.istore_n 2, 1) := by decide +kernel
theorem dX5_loudAll_4 : decode cX5_loudAll 4 = .ok (.iload_n 2, 1) := by decide +kernel
theorem dX5_loudAll_5 : decode cX5_loudAll 5 = .ok (.bipush 8, 2) := by decide +kernel
theorem dX5_loudAll_7 : decode cX5_loudAll 7 = .ok (.if_icmp .ge 18, 3) := by decide +kernel
theorem dX5_loudAll_10 : decode cX5_loudAll 10 = .ok (.iload_n 1, 1) := by decide +kernel
theorem dX5_loudAll_11 : decode cX5_loudAll 11 = .ok (.aload_n 0, 1) := by decide +kernel
theorem dX5_loudAll_12 : decode cX5_loudAll 12 = .ok (.iload_n 2, 1) := by decide +kernel
theorem dX5_loudAll_13 : decode cX5_loudAll 13 = .ok (.iconst (-1), 1) := by decide +kernel
theorem dX5_loudAll_14 : decode cX5_loudAll 14 = .ok (.invokevirtual 173, 3) := by decide +kernel
theorem dX5_loudAll_17 : decode cX5_loudAll 17 = .ok (.iadd, 1) := by decide +kernel
theorem dX5_loudAll_18 : decode cX5_loudAll 18 = .ok (.istore_n 1, 1) := by decide +kernel
theorem dX5_loudAll_19 : decode cX5_loudAll 19 = .ok (.iinc 2 1, 3) := by decide +kernel
theorem dX5_loudAll_22 : decode cX5_loudAll 22 = .ok (.goto (-18), 3) := by decide +kernel
theorem dX5_loudAll_25 : decode cX5_loudAll 25 = .ok (.iload_n 1, 1) := by decide +kernel
theorem dX5_loudAll_26 : decode cX5_loudAll 26 = .ok (.ireturn, 1) := by decide +kernel
set_option maxRecDepth 20000 in
theorem ggX5_roomsInUse_X5_its : GoodIn wsX5_roomsInUse wsX5_its := goodIn_r _ [6, 1, 7, 8, 9, 10, 11, 12, 13, 14, 15, 16, 17, 18, 19, 20, 21, 22, 23, 24, 25, 26, 27, 28, 29, 30, 31, 32, 33, 34, 35] (by decide +kernel) (by decide +kernel)
set_option maxRecDepth 20000 in
theorem gX5_roomsInUse_X5_its : GoodIn wsX5_roomsInUse (wsV RX5 167 RX5 yX5_its wsX5_its) := goodIn_app (goodIn_of _ (by decide +kernel)) ggX5_roomsInUse_X5_its
theorem dX5_roomsInUse_0 : decode cX5_roomsInUse 0 = .ok (.iconst 0, 1) := by decide +kernel
theorem dX5_roomsInUse_1 : decode cX5_roomsInUse 1 = .ok (.istore_n 1, 1) := by decide +kernel
theorem dX5_roomsInUse_2 : decode cX5_roomsInUse 2 = .ok (.iconst 0, 1) := by decide +kernel
theorem dX5_roomsInUse_3 : decode cX5_roomsInUse 3 = .ok (.istore_n 2, 1) := by decide +kernel
theorem dX5_roomsInUse_4 : decode cX5_roomsInUse 4 = .ok (.iload_n 2, 1) := by decide +kernel
theorem dX5_roomsInUse_5 : decode cX5_roomsInUse 5 = .ok (.aload_n 0, 1) := by decide +kernel
theorem dX5_roomsInUse_6 : decode cX5_roomsInUse 6 = .ok (.getfield 7, 3) := by decide +kernel
theorem dX5_roomsInUse_9 : decode cX5_roomsInUse 9 = .ok (.iconst 0, 1) := by decide +kernel
theorem dX5_roomsInUse_10 : decode cX5_roomsInUse 10 = .ok (.iaload, 1) := by decide +kernel
theorem dX5_roomsInUse_11 : decode cX5_roomsInUse 11 = .ok (.if_icmp .ge 20, 3) := by decide +kernel
theorem dX5_roomsInUse_14 : decode cX5_roomsInUse 14 = .ok (.iload_n 1, 1) := by decide +kernel
theorem dX5_roomsInUse_15 : decode cX5_roomsInUse 15 = .ok (.iconst 1, 1) := by decide +kernel
theorem dX5_roomsInUse_16 : decode cX5_roomsInUse 16 = .ok (.aload_n 0, 1) := by decide +kernel
theorem dX5_roomsInUse_17 : decode cX5_roomsInUse 17 = .ok (.iload_n 2, 1) := by decide +kernel
theorem dX5_roomsInUse_18 : decode cX5_roomsInUse 18 = .ok (.iconst 3, 1) := by decide +kernel
theorem dX5_roomsInUse_19 : decode cX5_roomsInUse 19 = .ok (.invokevirtual 167, 3) := by decide +kernel
theorem dX5_roomsInUse_22 : decode cX5_roomsInUse 22 = .ok (.ishl, 1) := by decide +kernel
theorem dX5_roomsInUse_23 : decode cX5_roomsInUse 23 = .ok (.ior, 1) := by decide +kernel
theorem dX5_roomsInUse_24 : decode cX5_roomsInUse 24 = .ok (.istore_n 1, 1) := by decide +kernel
theorem dX5_roomsInUse_25 : decode cX5_roomsInUse 25 = .ok (.iinc 2 1, 3) := by decide +kernel
theorem dX5_roomsInUse_28 : decode cX5_roomsInUse 28 = .ok (.goto (-24), 3) := by decide +kernel
theorem dX5_roomsInUse_31 : decode cX5_roomsInUse 31 = .ok (.iload_n 1, 1) := by decide +kernel
theorem dX5_roomsInUse_32 : decode cX5_roomsInUse 32 = .ok (.ireturn, 1) := by decide +kernel
set_option maxRecDepth 20000 in
theorem ggX5_state_X5_clappers : GoodIn wsX5_state wsX5_clappers := goodIn_r _ [6, 1, 7, 8, 9, 5, 10, 31, 32, 33, 34, 35, 36, 37, 38, 39, 40, 41, 42, 43, 44, 45, 46, 47, 48, 49, 50, 51, 52, 53, 54, 55, 56, 57, 58, 59] (by decide +kernel) (by decide +kernel)
set_option maxRecDepth 20000 in
theorem gX5_state_X5_clappers : GoodIn wsX5_state (wsV RX5 192 RX5 yX5_clappers wsX5_clappers) := goodIn_app (goodIn_of _ (by decide +kernel)) ggX5_state_X5_clappers
set_option maxRecDepth 20000 in
theorem ggX5_state_X5_sumOf : GoodIn wsX5_state wsX5_sumOf := goodIn_r _ [14, 1, 7, 8, 9, 5, 10, 31, 32, 33, 34, 35, 36, 37, 38, 39, 40, 41, 42, 43, 44, 45, 46, 47, 48, 49, 50, 51, 52, 53, 54, 55, 56, 57, 58, 59] (by decide +kernel) (by decide +kernel)
set_option maxRecDepth 20000 in
theorem gX5_state_X5_sumOf : GoodIn wsX5_state (wsV RX5 218 RX5 yX5_sumOf wsX5_sumOf) := goodIn_app (goodIn_of _ (by decide +kernel)) ggX5_state_X5_sumOf
set_option maxRecDepth 20000 in
theorem ggX5_state_X5_loudAll : GoodIn wsX5_state wsX5_loudAll := goodIn_r _ [18, 19, 20, 21, 5, 22, 1, 7, 8, 9, 10, 23, 24, 25, 26, 31, 32, 33, 34, 35, 36, 37, 38, 39, 40, 41, 42, 43, 44, 45, 46, 47, 48, 49, 50, 51, 52, 53, 54, 55, 56, 57, 58, 59] (by decide +kernel) (by decide +kernel)
set_option maxRecDepth 20000 in
theorem gX5_state_X5_loudAll : GoodIn wsX5_state (wsV RX5 221 RX5 yX5_loudAll wsX5_loudAll) := goodIn_app (goodIn_of _ (by decide +kernel)) ggX5_state_X5_loudAll
set_option maxRecDepth 20000 in
theorem ggX5_state_X5_roomsInUse : GoodIn wsX5_state wsX5_roomsInUse := goodIn_r _ [30, 1, 7, 8, 9, 5, 10, 31, 32, 33, 34, 35, 36, 37, 38, 39, 40, 41, 42, 43, 44, 45, 46, 47, 48, 49, 50, 51, 52, 53, 54, 55, 56, 57, 58, 59] (by decide +kernel) (by decide +kernel)
set_option maxRecDepth 20000 in
theorem gX5_state_X5_roomsInUse : GoodIn wsX5_state (wsV RX5 224 RX5 yX5_roomsInUse wsX5_roomsInUse) := goodIn_app (goodIn_of _ (by decide +kernel)) ggX5_state_X5_roomsInUse
theorem dX5_state_0 : decode cX5_state 0 = .ok (.iload_n 1, 1) := by decide +kernel
theorem dX5_state_1 : decode cX5_state 1 = .ok (.tableswitch 77 0 5 #[39, 46, 51, 57, 66, 71], 39) := by decide +kernel
theorem dX5_state_40 : decode cX5_state 40 = .ok (.aload_n 0, 1) := by decide +kernel
theorem dX5_state_41 : decode cX5_state 41 = .ok (.getfield 7, 3) := by decide +kernel
theorem dX5_state_44 : decode cX5_state 44 = .ok (.iconst 1, 1) := by decide +kernel
theorem dX5_state_45 : decode cX5_state 45 = .ok (.iaload, 1) := by decide +kernel
theorem dX5_state_46 : decode cX5_state 46 = .ok (.ireturn, 1) := by decide +kernel
theorem dX5_state_47 : decode cX5_state 47 = .ok (.aload_n 0, 1) := by decide +kernel
theorem dX5_state_48 : decode cX5_state 48 = .ok (.invokevirtual 192, 3) := by decide +kernel
theorem dX5_state_51 : decode cX5_state 51 = .ok (.ireturn, 1) := by decide +kernel
theorem dX5_state_52 : decode cX5_state 52 = .ok (.aload_n 0, 1) := by decide +kernel
theorem dX5_state_53 : decode cX5_state 53 = .ok (.iconst 1, 1) := by decide +kernel
theorem dX5_state_54 : decode cX5_state 54 = .ok (.invokevirtual 218, 3) := by decide +kernel
theorem dX5_state_57 : decode cX5_state 57 = .ok (.ireturn, 1) := by decide +kernel
theorem dX5_state_58 : decode cX5_state 58 = .ok (.sipush 1000, 3) := by decide +kernel
theorem dX5_state_61 : decode cX5_state 61 = .ok (.aload_n 0, 1) := by decide +kernel
theorem dX5_state_62 : decode cX5_state 62 = .ok (.invokevirtual 221, 3) := by decide +kernel
theorem dX5_state_65 : decode cX5_state 65 = .ok (.iadd, 1) := by decide +kernel
theorem dX5_state_66 : decode cX5_state 66 = .ok (.ireturn, 1) := by decide +kernel
theorem dX5_state_67 : decode cX5_state 67 = .ok (.aload_n 0, 1) := by decide +kernel
theorem dX5_state_68 : decode cX5_state 68 = .ok (.invokevirtual 224, 3) := by decide +kernel
theorem dX5_state_71 : decode cX5_state 71 = .ok (.ireturn, 1) := by decide +kernel
theorem dX5_state_72 : decode cX5_state 72 = .ok (.aload_n 0, 1) := by decide +kernel
theorem dX5_state_73 : decode cX5_state 73 = .ok (.iconst 2, 1) := by decide +kernel
theorem dX5_state_74 : decode cX5_state 74 = .ok (.invokevirtual 218, 3) := by decide +kernel
theorem dX5_state_77 : decode cX5_state 77 = .ok (.ireturn, 1) := by decide +kernel
theorem dX5_state_78 : decode cX5_state 78 = .ok (.iconst (-1), 1) := by decide +kernel
theorem dX5_state_79 : decode cX5_state 79 = .ok (.ireturn, 1) := by decide +kernel
set_option maxRecDepth 20000 in
theorem ggX5_clappingBehind_X5_copyRow : GoodIn wsX5_clappingBehind wsX5_copyRow := goodIn_r _ [6] (by decide +kernel) (by decide +kernel)
set_option maxRecDepth 20000 in
theorem gX5_clappingBehind_X5_copyRow : GoodIn wsX5_clappingBehind (va_wsS RX5 142 yX5_copyRow wsX5_copyRow) := goodIn_app (goodIn_of _ (by decide +kernel)) ggX5_clappingBehind_X5_copyRow
set_option maxRecDepth 20000 in
theorem ggX5_clappingBehind_X5_goes : GoodIn wsX5_clappingBehind wsX5_goes := goodIn_r _ [10, 11, 12, 13, 5, 14, 1, 15, 16, 17, 18, 19, 20, 21, 22, 23, 24, 25, 26, 27, 28, 29, 30, 31, 32, 33, 34, 35, 36, 37, 38, 39, 44, 45, 46, 47, 48, 49, 50, 51, 52, 53, 54, 55, 56, 57, 58, 59, 60, 61, 62, 63, 64, 65, 66, 67, 68, 69, 70, 71, 72] (by decide +kernel) (by decide +kernel)
set_option maxRecDepth 20000 in
theorem gX5_clappingBehind_X5_goes : GoodIn wsX5_clappingBehind (wsV RX5 203 RX5 yX5_goes wsX5_goes) := goodIn_app (goodIn_of _ (by decide +kernel)) ggX5_clappingBehind_X5_goes
set_option maxRecDepth 20000 in
theorem ggX5_clappingBehind_X5_clappers : GoodIn wsX5_clappingBehind wsX5_clappers := goodIn_r _ [43, 1, 21, 22, 23, 5, 24, 44, 45, 46, 47, 48, 49, 50, 51, 52, 53, 54, 55, 56, 57, 58, 59, 60, 61, 62, 63, 64, 65, 66, 67, 68, 69, 70, 71, 72] (by decide +kernel) (by decide +kernel)
set_option maxRecDepth 20000 in
theorem gX5_clappingBehind_X5_clappers : GoodIn wsX5_clappingBehind (wsV RX5 192 RX5 yX5_clappers wsX5_clappers) := goodIn_app (goodIn_of _ (by decide +kernel)) ggX5_clappingBehind_X5_clappers
theorem dX5_clappingBehind_0 : decode cX5_clappingBehind 0 = .ok (.aload_n 0, 1) := by decide +kernel
theorem dX5_clappingBehind_1 : decode cX5_clappingBehind 1 = .ok (.getfield 7, 3) := by decide +kernel
theorem dX5_clappingBehind_4 : decode cX5_clappingBehind 4 = .ok (.aload_n 0, 1) := by decide +kernel
theorem dX5_clappingBehind_5 : decode cX5_clappingBehind 5 = .ok (.getfield 16, 3) := by decide +kernel
theorem dX5_clappingBehind_8 : decode cX5_clappingBehind 8 = .ok (.invokestatic 142, 3) := by decide +kernel
theorem dX5_clappingBehind_11 : decode cX5_clappingBehind 11 = .ok (.aload_n 0, 1) := by decide +kernel
theorem dX5_clappingBehind_12 : decode cX5_clappingBehind 12 = .ok (.iload_n 1, 1) := by decide +kernel
theorem dX5_clappingBehind_13 : decode cX5_clappingBehind 13 = .ok (.invokevirtual 203, 3) := by decide +kernel
theorem dX5_clappingBehind_16 : decode cX5_clappingBehind 16 = .ok (.aload_n 0, 1) := by decide +kernel
theorem dX5_clappingBehind_17 : decode cX5_clappingBehind 17 = .ok (.invokevirtual 192, 3) := by decide +kernel
theorem dX5_clappingBehind_20 : decode cX5_clappingBehind 20 = .ok (.istore_n 2, 1) := by decide +kernel
theorem dX5_clappingBehind_21 : decode cX5_clappingBehind 21 = .ok (.aload_n 0, 1) := by decide +kernel
theorem dX5_clappingBehind_22 : decode cX5_clappingBehind 22 = .ok (.getfield 16, 3) := by decide +kernel
theorem dX5_clappingBehind_25 : decode cX5_clappingBehind 25 = .ok (.aload_n 0, 1) := by decide +kernel
theorem dX5_clappingBehind_26 : decode cX5_clappingBehind 26 = .ok (.getfield 7, 3) := by decide +kernel
theorem dX5_clappingBehind_29 : decode cX5_clappingBehind 29 = .ok (.invokestatic 142, 3) := by decide +kernel
theorem dX5_clappingBehind_32 : decode cX5_clappingBehind 32 = .ok (.iload_n 2, 1) := by decide +kernel
theorem dX5_clappingBehind_33 : decode cX5_clappingBehind 33 = .ok (.ireturn, 1) := by decide +kernel
set_option maxRecDepth 20000 in
theorem ggX5_clapping_X5_isIn : GoodIn wsX5_clapping wsX5_isIn := goodIn_r _ [5] (by decide +kernel) (by decide +kernel)
set_option maxRecDepth 20000 in
theorem gX5_clapping_X5_isIn : GoodIn wsX5_clapping (va_wsS RX5 64 yX5_isIn wsX5_isIn) := goodIn_app (goodIn_of _ (by decide +kernel)) ggX5_clapping_X5_isIn
set_option maxRecDepth 20000 in
theorem ggX5_clapping_X5_clappingBehind : GoodIn wsX5_clapping wsX5_clappingBehind := goodIn_r _ [9, 10, 11, 12, 13, 4, 14, 15, 16, 17, 18, 19, 20, 21, 22, 23, 24, 25, 26, 27, 28, 29, 30, 31, 32, 33, 34, 35, 36, 37, 38, 39, 40, 41, 42, 43, 44, 45, 46, 47, 48, 49, 50, 51, 52, 53, 54, 55, 56, 57, 58, 59, 60, 61, 62, 63, 64, 65, 66, 67, 68, 69, 70, 71, 72, 73, 74, 75, 76, 77, 78, 79, 80] (by decide +kernel) (by decide +kernel)
set_option maxRecDepth 20000 in
theorem gX5_clapping_X5_clappingBehind : GoodIn wsX5_clapping (wsV RX5 227 RX5 yX5_clappingBehind wsX5_clappingBehind) := goodIn_app (goodIn_of _ (by decide +kernel)) ggX5_clapping_X5_clappingBehind
theorem dX5_clapping_0 : decode cX5_clapping 0 = .ok (.iload_n 1, 1) := by decide +kernel
theorem dX5_clapping_1 : decode cX5_clapping 1 = .ok (.i2l, 1) := by decide +kernel
theorem dX5_clapping_2 : decode cX5_clapping 2 = .ok (.lconst 0, 1) := by decide +kernel
theorem dX5_clapping_3 : decode cX5_clapping 3 = .ok (.ldc2_w 201, 3) := by decide +kernel
theorem dX5_clapping_6 : decode cX5_clapping 6 = .ok (.invokestatic 64, 3) := by decide +kernel
theorem dX5_clapping_9 : decode cX5_clapping 9 = .ok (.ifCond .eq 11, 3) := by decide +kernel
theorem dX5_clapping_12 : decode cX5_clapping 12 = .ok (.aload_n 0, 1) := by decide +kernel
theorem dX5_clapping_13 : decode cX5_clapping 13 = .ok (.iload_n 1, 1) := by decide +kernel
theorem dX5_clapping_14 : decode cX5_clapping 14 = .ok (.invokevirtual 227, 3) := by decide +kernel
theorem dX5_clapping_17 : decode cX5_clapping 17 = .ok (.goto 4, 3) := by decide +kernel
theorem dX5_clapping_20 : decode cX5_clapping 20 = .ok (.iconst (-1), 1) := by decide +kernel
theorem dX5_clapping_21 : decode cX5_clapping 21 = .ok (.ireturn, 1) := by decide +kernel
set_option maxRecDepth 20000 in
theorem ggX5_firstWith_X5_copyRow : GoodIn wsX5_firstWith wsX5_copyRow := goodIn_r _ [6] (by decide +kernel) (by decide +kernel)
set_option maxRecDepth 20000 in
theorem gX5_firstWith_X5_copyRow : GoodIn wsX5_firstWith (va_wsS RX5 142 yX5_copyRow wsX5_copyRow) := goodIn_app (goodIn_of _ (by decide +kernel)) ggX5_firstWith_X5_copyRow
set_option maxRecDepth 20000 in
theorem ggX5_firstWith_X5_goes : GoodIn wsX5_firstWith wsX5_goes := goodIn_r _ [10, 11, 12, 13, 5, 14, 1, 15, 16, 17, 18, 19, 20, 21, 22, 23, 24, 25, 26, 27, 28, 29, 30, 31, 32, 33, 34, 35, 36, 37, 38, 39, 44, 45, 46, 47, 48, 49, 50, 51, 52, 53, 54, 55, 56, 57, 58, 59, 60, 61, 62, 63, 64, 65, 66, 67, 68, 69, 70, 71, 72] (by decide +kernel) (by decide +kernel)
set_option maxRecDepth 20000 in
theorem gX5_firstWith_X5_goes : GoodIn wsX5_firstWith (wsV RX5 203 RX5 yX5_goes wsX5_goes) := goodIn_app (goodIn_of _ (by decide +kernel)) ggX5_firstWith_X5_goes
set_option maxRecDepth 20000 in
theorem ggX5_firstWith_X5_clappers : GoodIn wsX5_firstWith wsX5_clappers := goodIn_r _ [43, 1, 21, 22, 23, 5, 24, 44, 45, 46, 47, 48, 49, 50, 51, 52, 53, 54, 55, 56, 57, 58, 59, 60, 61, 62, 63, 64, 65, 66, 67, 68, 69, 70, 71, 72] (by decide +kernel) (by decide +kernel)
set_option maxRecDepth 20000 in
theorem gX5_firstWith_X5_clappers : GoodIn wsX5_firstWith (wsV RX5 192 RX5 yX5_clappers wsX5_clappers) := goodIn_app (goodIn_of _ (by decide +kernel)) ggX5_firstWith_X5_clappers
set_option maxRecDepth 20000 in
theorem ggX5_firstWith_X5_goesOn : GoodIn wsX5_firstWith wsX5_goesOn := goodIn_r _ [14, 1, 15, 16, 17, 18, 19, 5, 20, 21, 22, 23, 24, 25, 26, 27, 28, 29, 30, 31, 32, 33, 34, 35, 36, 37, 38, 39, 44, 45, 46, 47, 48, 49, 50, 51, 52, 53, 54, 55, 56, 57, 58, 59, 60, 61, 62, 63, 64, 65, 66, 67, 68, 69, 70, 71, 72] (by decide +kernel) (by decide +kernel)
set_option maxRecDepth 20000 in
theorem gX5_firstWith_X5_goesOn : GoodIn wsX5_firstWith (wsV RX5 198 RX5 yX5_goesOn wsX5_goesOn) := goodIn_app (goodIn_of _ (by decide +kernel)) ggX5_firstWith_X5_goesOn
theorem dX5_firstWith_0 : decode cX5_firstWith 0 = .ok (.aload_n 0, 1) := by decide +kernel
theorem dX5_firstWith_1 : decode cX5_firstWith 1 = .ok (.getfield 7, 3) := by decide +kernel
theorem dX5_firstWith_4 : decode cX5_firstWith 4 = .ok (.aload_n 0, 1) := by decide +kernel
theorem dX5_firstWith_5 : decode cX5_firstWith 5 = .ok (.getfield 16, 3) := by decide +kernel
theorem dX5_firstWith_8 : decode cX5_firstWith 8 = .ok (.invokestatic 142, 3) := by decide +kernel
theorem dX5_firstWith_11 : decode cX5_firstWith 11 = .ok (.aload_n 0, 1) := by decide +kernel
theorem dX5_firstWith_12 : decode cX5_firstWith 12 = .ok (.iload_n 1, 1) := by decide +kernel
theorem dX5_firstWith_13 : decode cX5_firstWith 13 = .ok (.invokevirtual 203, 3) := by decide +kernel
theorem dX5_firstWith_16 : decode cX5_firstWith 16 = .ok (.iload_n 1, 1) := by decide +kernel
theorem dX5_firstWith_17 : decode cX5_firstWith 17 = .ok (.istore 4, 2) := by decide +kernel
theorem dX5_firstWith_19 : decode cX5_firstWith 19 = .ok (.iload 4, 2) := by decide +kernel
theorem dX5_firstWith_21 : decode cX5_firstWith 21 = .ok (.bipush 60, 2) := by decide +kernel
theorem dX5_firstWith_23 : decode cX5_firstWith 23 = .ok (.if_icmp .gt 23, 3) := by decide +kernel
theorem dX5_firstWith_26 : decode cX5_firstWith 26 = .ok (.aload_n 0, 1) := by decide +kernel
theorem dX5_firstWith_27 : decode cX5_firstWith 27 = .ok (.invokevirtual 192, 3) := by decide +kernel
theorem dX5_firstWith_30 : decode cX5_firstWith 30 = .ok (.iload_n 2, 1) := by decide +kernel
theorem dX5_firstWith_31 : decode cX5_firstWith 31 = .ok (.iand, 1) := by decide +kernel
theorem dX5_firstWith_32 : decode cX5_firstWith 32 = .ok (.iload_n 3, 1) := by decide +kernel
theorem dX5_firstWith_33 : decode cX5_firstWith 33 = .ok (.if_icmp .eq 13, 3) := by decide +kernel
theorem dX5_firstWith_36 : decode cX5_firstWith 36 = .ok (.aload_n 0, 1) := by decide +kernel
theorem dX5_firstWith_37 : decode cX5_firstWith 37 = .ok (.invokevirtual 198, 3) := by decide +kernel
theorem dX5_firstWith_40 : decode cX5_firstWith 40 = .ok (.iinc 4 1, 3) := by decide +kernel
theorem dX5_firstWith_43 : decode cX5_firstWith 43 = .ok (.goto (-24), 3) := by decide +kernel
theorem dX5_firstWith_46 : decode cX5_firstWith 46 = .ok (.aload_n 0, 1) := by decide +kernel
theorem dX5_firstWith_47 : decode cX5_firstWith 47 = .ok (.getfield 16, 3) := by decide +kernel
theorem dX5_firstWith_50 : decode cX5_firstWith 50 = .ok (.aload_n 0, 1) := by decide +kernel
theorem dX5_firstWith_51 : decode cX5_firstWith 51 = .ok (.getfield 7, 3) := by decide +kernel
theorem dX5_firstWith_54 : decode cX5_firstWith 54 = .ok (.invokestatic 142, 3) := by decide +kernel
theorem dX5_firstWith_57 : decode cX5_firstWith 57 = .ok (.iload 4, 2) := by decide +kernel
theorem dX5_firstWith_59 : decode cX5_firstWith 59 = .ok (.bipush 60, 2) := by decide +kernel
theorem dX5_firstWith_61 : decode cX5_firstWith 61 = .ok (.if_icmp .gt 8, 3) := by decide +kernel
theorem dX5_firstWith_64 : decode cX5_firstWith 64 = .ok (.iload 4, 2) := by decide +kernel
theorem dX5_firstWith_66 : decode cX5_firstWith 66 = .ok (.goto 5, 3) := by decide +kernel
theorem dX5_firstWith_69 : decode cX5_firstWith 69 = .ok (.bipush (-3), 2) := by decide +kernel
theorem dX5_firstWith_71 : decode cX5_firstWith 71 = .ok (.ireturn, 1) := by decide +kernel
set_option maxRecDepth 20000 in
theorem ggX5_joins_X5_isOne : GoodIn wsX5_joins wsX5_isOne := goodIn_r _ [5, 6, 52, 53, 54, 55, 56, 57, 58, 59, 60, 61, 62, 63, 64, 65, 66, 67, 68, 69, 70, 71, 72, 73, 74, 75, 76, 77, 78, 79, 80] (by decide +kernel) (by decide +kernel)
set_option maxRecDepth 20000 in
theorem gX5_joins_X5_isOne : GoodIn wsX5_joins (wsV RX5 176 RX5 yX5_isOne wsX5_isOne) := goodIn_app (goodIn_of _ (by decide +kernel)) ggX5_joins_X5_isOne
set_option maxRecDepth 20000 in
theorem ggX5_joins_X5_firstWith : GoodIn wsX5_joins wsX5_firstWith := goodIn_r _ [10, 6, 11, 12, 13, 4, 14, 15, 16, 17, 18, 19, 20, 21, 22, 23, 24, 25, 26, 27, 28, 29, 30, 31, 32, 33, 34, 35, 36, 37, 38, 39, 40, 41, 42, 43, 44, 45, 46, 47, 48, 49, 50, 51, 52, 53, 54, 55, 56, 57, 58, 59, 60, 61, 62, 63, 64, 65, 66, 67, 68, 69, 70, 71, 72, 73, 74, 75, 76, 77, 78, 79, 80] (by decide +kernel) (by decide +kernel)
set_option maxRecDepth 20000 in
theorem gX5_joins_X5_firstWith : GoodIn wsX5_joins (wsV RX5 230 RX5 yX5_firstWith wsX5_firstWith) := goodIn_app (goodIn_of _ (by decide +kernel)) ggX5_joins_X5_firstWith
theorem dX5_joins_0 : decode cX5_joins 0 = .ok (.aload_n 0, 1) := by decide +kernel
theorem dX5_joins_1 : decode cX5_joins 1 = .ok (.iload_n 1, 1) := by decide +kernel
theorem dX5_joins_2 : decode cX5_joins 2 = .ok (.invokevirtual 176, 3) := by decide +kernel
theorem dX5_joins_5 : decode cX5_joins 5 = .ok (.ifCond .eq 17, 3) := by decide +kernel
theorem dX5_joins_8 : decode cX5_joins 8 = .ok (.aload_n 0, 1) := by decide +kernel
theorem dX5_joins_9 : decode cX5_joins 9 = .ok (.iconst 0, 1) := by decide +kernel
theorem dX5_joins_10 : decode cX5_joins 10 = .ok (.iconst 1, 1) := by decide +kernel
theorem dX5_joins_11 : decode cX5_joins 11 = .ok (.iload_n 1, 1) := by decide +kernel
theorem dX5_joins_12 : decode cX5_joins 12 = .ok (.ishl, 1) := by decide +kernel
theorem dX5_joins_13 : decode cX5_joins 13 = .ok (.iconst 1, 1) := by decide +kernel
theorem dX5_joins_14 : decode cX5_joins 14 = .ok (.iload_n 1, 1) := by decide +kernel
theorem dX5_joins_15 : decode cX5_joins 15 = .ok (.ishl, 1) := by decide +kernel
theorem dX5_joins_16 : decode cX5_joins 16 = .ok (.invokevirtual 230, 3) := by decide +kernel
theorem dX5_joins_19 : decode cX5_joins 19 = .ok (.goto 4, 3) := by decide +kernel
theorem dX5_joins_22 : decode cX5_joins 22 = .ok (.iconst (-1), 1) := by decide +kernel
theorem dX5_joins_23 : decode cX5_joins 23 = .ok (.ireturn, 1) := by decide +kernel
