theorem dX5_everybody_0 : decode cX5_everybody 0 = .ok (.iconst 1, 1) := by decide +kernel
theorem dX5_everybody_1 : decode cX5_everybody 1 = .ok (.aload_n 0, 1) := by decide +kernel
theorem dX5_everybody_2 : decode cX5_everybody 2 = .ok (.getfield 7, 3) := by decide +kernel
theorem dX5_everybody_5 : decode cX5_everybody 5 = .ok (.iconst 0, 1) := by decide +kernel
theorem dX5_everybody_6 : decode cX5_everybody 6 = .ok (.iaload, 1) := by decide +kernel
theorem dX5_everybody_7 : decode cX5_everybody 7 = .ok (.ishl, 1) := by decide +kernel
theorem dX5_everybody_8 : decode cX5_everybody 8 = .ok (.iconst 1, 1) := by decide +kernel
theorem dX5_everybody_9 : decode cX5_everybody 9 = .ok (.isub, 1) := by decide +kernel
theorem dX5_everybody_10 : decode cX5_everybody 10 = .ok (.ireturn, 1) := by decide +kernel
set_option maxRecDepth 20000 in
theorem ggX5_all_X5_everybody : GoodIn wsX5_all wsX5_everybody := goodIn_r _ [5, 6, 52, 53, 54, 55, 56, 57, 58, 59, 60, 61, 62, 63, 64, 65, 66, 67, 68, 69, 70, 71, 72, 73, 74, 75, 76, 77, 78, 79, 80] (by decide +kernel) (by decide +kernel)
set_option maxRecDepth 20000 in
theorem gX5_all_X5_everybody : GoodIn wsX5_all (wsV RX5 234 RX5 yX5_everybody wsX5_everybody) := goodIn_app (goodIn_of _ (by decide +kernel)) ggX5_all_X5_everybody
set_option maxRecDepth 20000 in
theorem ggX5_all_X5_firstWith : GoodIn wsX5_all wsX5_firstWith := goodIn_r _ [10, 6, 11, 12, 13, 4, 14, 15, 16, 17, 18, 19, 20, 21, 22, 23, 24, 25, 26, 27, 28, 29, 30, 31, 32, 33, 34, 35, 36, 37, 38, 39, 40, 41, 42, 43, 44, 45, 46, 47, 48, 49, 50, 51, 52, 53, 54, 55, 56, 57, 58, 59, 60, 61, 62, 63, 64, 65, 66, 67, 68, 69, 70, 71, 72, 73, 74, 75, 76, 77, 78, 79, 80] (by decide +kernel) (by decide +kernel)
set_option maxRecDepth 20000 in
theorem gX5_all_X5_firstWith : GoodIn wsX5_all (wsV RX5 230 RX5 yX5_firstWith wsX5_firstWith) := goodIn_app (goodIn_of _ (by decide +kernel)) ggX5_all_X5_firstWith
theorem dX5_all_0 : decode cX5_all 0 = .ok (.aload_n 0, 1) := by decide +kernel
theorem dX5_all_1 : decode cX5_all 1 = .ok (.iconst 0, 1) := by decide +kernel
theorem dX5_all_2 : decode cX5_all 2 = .ok (.aload_n 0, 1) := by decide +kernel
theorem dX5_all_3 : decode cX5_all 3 = .ok (.invokevirtual 234, 3) := by decide +kernel
theorem dX5_all_6 : decode cX5_all 6 = .ok (.aload_n 0, 1) := by decide +kernel
theorem dX5_all_7 : decode cX5_all 7 = .ok (.invokevirtual 234, 3) := by decide +kernel
theorem dX5_all_10 : decode cX5_all 10 = .ok (.invokevirtual 230, 3) := by decide +kernel
theorem dX5_all_13 : decode cX5_all 13 = .ok (.ireturn, 1) := by decide +kernel
set_option maxRecDepth 20000 in
theorem ggX5_hush_X5_everybody : GoodIn wsX5_hush wsX5_everybody := goodIn_r _ [5, 6, 52, 53, 54, 55, 56, 57, 58, 59, 60, 61, 62, 63, 64, 65, 66, 67, 68, 69, 70, 71, 72, 73, 74, 75, 76, 77, 78, 79, 80] (by decide +kernel) (by decide +kernel)
set_option maxRecDepth 20000 in
theorem gX5_hush_X5_everybody : GoodIn wsX5_hush (wsV RX5 234 RX5 yX5_everybody wsX5_everybody) := goodIn_app (goodIn_of _ (by decide +kernel)) ggX5_hush_X5_everybody
set_option maxRecDepth 20000 in
theorem ggX5_hush_X5_firstWith : GoodIn wsX5_hush wsX5_firstWith := goodIn_r _ [10, 6, 11, 12, 13, 4, 14, 15, 16, 17, 18, 19, 20, 21, 22, 23, 24, 25, 26, 27, 28, 29, 30, 31, 32, 33, 34, 35, 36, 37, 38, 39, 40, 41, 42, 43, 44, 45, 46, 47, 48, 49, 50, 51, 52, 53, 54, 55, 56, 57, 58, 59, 60, 61, 62, 63, 64, 65, 66, 67, 68, 69, 70, 71, 72, 73, 74, 75, 76, 77, 78, 79, 80] (by decide +kernel) (by decide +kernel)
set_option maxRecDepth 20000 in
theorem gX5_hush_X5_firstWith : GoodIn wsX5_hush (wsV RX5 230 RX5 yX5_firstWith wsX5_firstWith) := goodIn_app (goodIn_of _ (by decide +kernel)) ggX5_hush_X5_firstWith
theorem dX5_hush_0 : decode cX5_hush 0 = .ok (.aload_n 0, 1) := by decide +kernel
theorem dX5_hush_1 : decode cX5_hush 1 = .ok (.iconst 0, 1) := by decide +kernel
theorem dX5_hush_2 : decode cX5_hush 2 = .ok (.aload_n 0, 1) := by decide +kernel
theorem dX5_hush_3 : decode cX5_hush 3 = .ok (.invokevirtual 234, 3) := by decide +kernel
theorem dX5_hush_6 : decode cX5_hush 6 = .ok (.iconst 0, 1) := by decide +kernel
theorem dX5_hush_7 : decode cX5_hush 7 = .ok (.invokevirtual 230, 3) := by decide +kernel
theorem dX5_hush_10 : decode cX5_hush 10 = .ok (.ireturn, 1) := by decide +kernel
set_option maxRecDepth 20000 in
theorem ggX5_round_X5_everybody : GoodIn wsX5_round wsX5_everybody := goodIn_r _ [5, 6, 52, 53, 54, 55, 56, 57, 58, 59, 60, 61, 62, 63, 64, 65, 66, 67, 68, 69, 70, 71, 72, 73, 74, 75, 76, 77, 78, 79, 80] (by decide +kernel) (by decide +kernel)
set_option maxRecDepth 20000 in
theorem gX5_round_X5_everybody : GoodIn wsX5_round (wsV RX5 234 RX5 yX5_everybody wsX5_everybody) := goodIn_app (goodIn_of _ (by decide +kernel)) ggX5_round_X5_everybody
set_option maxRecDepth 20000 in
theorem ggX5_round_X5_clappers : GoodIn wsX5_round wsX5_clappers := goodIn_r _ [10, 6, 11, 12, 13, 4, 14, 52, 53, 54, 55, 56, 57, 58, 59, 60, 61, 62, 63, 64, 65, 66, 67, 68, 69, 70, 71, 72, 73, 74, 75, 76, 77, 78, 79, 80] (by decide +kernel) (by decide +kernel)
set_option maxRecDepth 20000 in
theorem gX5_round_X5_clappers : GoodIn wsX5_round (wsV RX5 192 RX5 yX5_clappers wsX5_clappers) := goodIn_app (goodIn_of _ (by decide +kernel)) ggX5_round_X5_clappers
set_option maxRecDepth 20000 in
theorem ggX5_round_X5_firstWith : GoodIn wsX5_round wsX5_firstWith := goodIn_r _ [18, 6, 19, 20, 21, 4, 22, 23, 24, 25, 26, 27, 28, 29, 30, 31, 32, 33, 34, 35, 36, 11, 12, 13, 14, 37, 38, 39, 40, 41, 42, 43, 44, 45, 46, 47, 48, 49, 50, 51, 7, 8, 9, 10, 52, 53, 54, 55, 56, 57, 58, 59, 60, 61, 62, 63, 64, 65, 66, 67, 68, 69, 70, 71, 72, 73, 74, 75, 76, 77, 78, 79, 80] (by decide +kernel) (by decide +kernel)
set_option maxRecDepth 20000 in
theorem gX5_round_X5_firstWith : GoodIn wsX5_round (wsV RX5 230 RX5 yX5_firstWith wsX5_firstWith) := goodIn_app (goodIn_of _ (by decide +kernel)) ggX5_round_X5_firstWith
theorem dX5_round_0 : decode cX5_round 0 = .ok (.aload_n 0, 1) := by decide +kernel
theorem dX5_round_1 : decode cX5_round 1 = .ok (.iconst 1, 1) := by decide +kernel
theorem dX5_round_2 : decode cX5_round 2 = .ok (.aload_n 0, 1) := by decide +kernel
theorem dX5_round_3 : decode cX5_round 3 = .ok (.invokevirtual 234, 3) := by decide +kernel
theorem dX5_round_6 : decode cX5_round 6 = .ok (.aload_n 0, 1) := by decide +kernel
theorem dX5_round_7 : decode cX5_round 7 = .ok (.invokevirtual 192, 3) := by decide +kernel
theorem dX5_round_10 : decode cX5_round 10 = .ok (.invokevirtual 230, 3) := by decide +kernel
theorem dX5_round_13 : decode cX5_round 13 = .ok (.ireturn, 1) := by decide +kernel
set_option maxRecDepth 20000 in
theorem ggX5_isShort_X5_isIn : GoodIn wsX5_isShort wsX5_isIn := goodIn_r _ [5] (by decide +kernel) (by decide +kernel)
set_option maxRecDepth 20000 in
theorem gX5_isShort_X5_isIn : GoodIn wsX5_isShort (va_wsS RX5 64 yX5_isIn wsX5_isIn) := goodIn_app (goodIn_of _ (by decide +kernel)) ggX5_isShort_X5_isIn
theorem dX5_isShort_0 : decode cX5_isShort 0 = .ok (.iload_n 0, 1) := by decide +kernel
theorem dX5_isShort_1 : decode cX5_isShort 1 = .ok (.i2l, 1) := by decide +kernel
theorem dX5_isShort_2 : decode cX5_isShort 2 = .ok (.lconst 1, 1) := by decide +kernel
theorem dX5_isShort_3 : decode cX5_isShort 3 = .ok (.ldc2_w 237, 3) := by decide +kernel
theorem dX5_isShort_6 : decode cX5_isShort 6 = .ok (.invokestatic 64, 3) := by decide +kernel
theorem dX5_isShort_9 : decode cX5_isShort 9 = .ok (.ireturn, 1) := by decide +kernel
set_option maxRecDepth 20000 in
theorem ggX5_proudestBy_X5_copyRow : GoodIn wsX5_proudestBy wsX5_copyRow := goodIn_r _ [6] (by decide +kernel) (by decide +kernel)
set_option maxRecDepth 20000 in
theorem gX5_proudestBy_X5_copyRow : GoodIn wsX5_proudestBy (va_wsS RX5 142 yX5_copyRow wsX5_copyRow) := goodIn_app (goodIn_of _ (by decide +kernel)) ggX5_proudestBy_X5_copyRow
set_option maxRecDepth 20000 in
theorem ggX5_proudestBy_X5_goes : GoodIn wsX5_proudestBy wsX5_goes := goodIn_r _ [10, 11, 12, 13, 5, 14, 1, 15, 16, 17, 18, 19, 20, 21, 22, 23, 24, 25, 26, 27, 28, 29, 30, 31, 32, 33, 34, 35, 36, 37, 38, 39, 43, 44, 45, 46, 47, 48, 49, 50, 51, 52, 53, 54, 55, 56, 57, 58, 59, 60, 61, 62, 63, 64, 65, 66, 67, 68, 69, 70, 71] (by decide +kernel) (by decide +kernel)
set_option maxRecDepth 20000 in
theorem gX5_proudestBy_X5_goes : GoodIn wsX5_proudestBy (wsV RX5 203 RX5 yX5_goes wsX5_goes) := goodIn_app (goodIn_of _ (by decide +kernel)) ggX5_proudestBy_X5_goes
set_option maxRecDepth 20000 in
theorem ggX5_proudestBy_X5_its : GoodIn wsX5_proudestBy wsX5_its := goodIn_r _ [24, 1, 43, 44, 45, 46, 47, 48, 49, 50, 51, 52, 53, 54, 55, 56, 57, 58, 59, 60, 61, 62, 63, 64, 65, 66, 67, 68, 69, 70, 71] (by decide +kernel) (by decide +kernel)
set_option maxRecDepth 20000 in
theorem gX5_proudestBy_X5_its : GoodIn wsX5_proudestBy (wsV RX5 167 RX5 yX5_its wsX5_its) := goodIn_app (goodIn_of _ (by decide +kernel)) ggX5_proudestBy_X5_its
set_option maxRecDepth 20000 in
theorem ggX5_proudestBy_X5_greatest : GoodIn wsX5_proudestBy wsX5_greatest := goodIn_r _ [42] (by decide +kernel) (by decide +kernel)
set_option maxRecDepth 20000 in
theorem gX5_proudestBy_X5_greatest : GoodIn wsX5_proudestBy (va_wsS RX5 239 yX5_greatest wsX5_greatest) := goodIn_app (goodIn_of _ (by decide +kernel)) ggX5_proudestBy_X5_greatest
theorem dX5_proudestBy_0 : decode cX5_proudestBy 0 = .ok (.bipush 7, 2) := by decide +kernel
theorem dX5_proudestBy_2 : decode cX5_proudestBy 2 = .ok (.iconst 5, 1) := by decide +kernel
theorem dX5_proudestBy_3 : decode cX5_proudestBy 3 = .ok (.iload_n 1, 1) := by decide +kernel
theorem dX5_proudestBy_4 : decode cX5_proudestBy 4 = .ok (.imul, 1) := by decide +kernel
theorem dX5_proudestBy_5 : decode cX5_proudestBy 5 = .ok (.iadd, 1) := by decide +kernel
theorem dX5_proudestBy_6 : decode cX5_proudestBy 6 = .ok (.iload_n 2, 1) := by decide +kernel
theorem dX5_proudestBy_7 : decode cX5_proudestBy 7 = .ok (.iadd, 1) := by decide +kernel
theorem dX5_proudestBy_8 : decode cX5_proudestBy 8 = .ok (.istore 5, 2) := by decide +kernel
theorem dX5_proudestBy_10 : decode cX5_proudestBy 10 = .ok (.aload_n 0, 1) := by decide +kernel
theorem dX5_proudestBy_11 : decode cX5_proudestBy 11 = .ok (.getfield 7, 3) := by decide +kernel
theorem dX5_proudestBy_14 : decode cX5_proudestBy 14 = .ok (.iload 5, 2) := by decide +kernel
theorem dX5_proudestBy_16 : decode cX5_proudestBy 16 = .ok (.iaload, 1) := by decide +kernel
theorem dX5_proudestBy_17 : decode cX5_proudestBy 17 = .ok (.istore 6, 2) := by decide +kernel
theorem dX5_proudestBy_19 : decode cX5_proudestBy 19 = .ok (.iconst 0, 1) := by decide +kernel
theorem dX5_proudestBy_20 : decode cX5_proudestBy 20 = .ok (.istore 7, 2) := by decide +kernel
theorem dX5_proudestBy_22 : decode cX5_proudestBy 22 = .ok (.iconst (-1), 1) := by decide +kernel
theorem dX5_proudestBy_23 : decode cX5_proudestBy 23 = .ok (.istore 8, 2) := by decide +kernel
theorem dX5_proudestBy_25 : decode cX5_proudestBy 25 = .ok (.iconst 0, 1) := by decide +kernel
theorem dX5_proudestBy_26 : decode cX5_proudestBy 26 = .ok (.istore 9, 2) := by decide +kernel
theorem dX5_proudestBy_28 : decode cX5_proudestBy 28 = .ok (.iload 9, 2) := by decide +kernel
theorem dX5_proudestBy_30 : decode cX5_proudestBy 30 = .ok (.iload_n 3, 1) := by decide +kernel
theorem dX5_proudestBy_31 : decode cX5_proudestBy 31 = .ok (.if_icmp .gt 79, 3) := by decide +kernel
theorem dX5_proudestBy_34 : decode cX5_proudestBy 34 = .ok (.aload_n 0, 1) := by decide +kernel
theorem dX5_proudestBy_35 : decode cX5_proudestBy 35 = .ok (.getfield 7, 3) := by decide +kernel
theorem dX5_proudestBy_38 : decode cX5_proudestBy 38 = .ok (.iload 5, 2) := by decide +kernel
theorem dX5_proudestBy_40 : decode cX5_proudestBy 40 = .ok (.iload 9, 2) := by decide +kernel
theorem dX5_proudestBy_42 : decode cX5_proudestBy 42 = .ok (.iastore, 1) := by decide +kernel
theorem dX5_proudestBy_43 : decode cX5_proudestBy 43 = .ok (.aload_n 0, 1) := by decide +kernel
theorem dX5_proudestBy_44 : decode cX5_proudestBy 44 = .ok (.getfield 7, 3) := by decide +kernel
theorem dX5_proudestBy_47 : decode cX5_proudestBy 47 = .ok (.aload_n 0, 1) := by decide +kernel
theorem dX5_proudestBy_48 : decode cX5_proudestBy 48 = .ok (.getfield 16, 3) := by decide +kernel
theorem dX5_proudestBy_51 : decode cX5_proudestBy 51 = .ok (.invokestatic 142, 3) := by decide +kernel
theorem dX5_proudestBy_54 : decode cX5_proudestBy 54 = .ok (.aload_n 0, 1) := by decide +kernel
theorem dX5_proudestBy_55 : decode cX5_proudestBy 55 = .ok (.iload 4, 2) := by decide +kernel
theorem dX5_proudestBy_57 : decode cX5_proudestBy 57 = .ok (.invokevirtual 203, 3) := by decide +kernel
theorem dX5_proudestBy_60 : decode cX5_proudestBy 60 = .ok (.aload_n 0, 1) := by decide +kernel
theorem dX5_proudestBy_61 : decode cX5_proudestBy 61 = .ok (.iload_n 1, 1) := by decide +kernel
theorem dX5_proudestBy_62 : decode cX5_proudestBy 62 = .ok (.iconst 1, 1) := by decide +kernel
theorem dX5_proudestBy_63 : decode cX5_proudestBy 63 = .ok (.invokevirtual 167, 3) := by decide +kernel
theorem dX5_proudestBy_66 : decode cX5_proudestBy 66 = .ok (.istore 10, 2) := by decide +kernel
theorem dX5_proudestBy_68 : decode cX5_proudestBy 68 = .ok (.aload_n 0, 1) := by decide +kernel
theorem dX5_proudestBy_69 : decode cX5_proudestBy 69 = .ok (.getfield 16, 3) := by decide +kernel
theorem dX5_proudestBy_72 : decode cX5_proudestBy 72 = .ok (.aload_n 0, 1) := by decide +kernel
theorem dX5_proudestBy_73 : decode cX5_proudestBy 73 = .ok (.getfield 7, 3) := by decide +kernel
theorem dX5_proudestBy_76 : decode cX5_proudestBy 76 = .ok (.invokestatic 142, 3) := by decide +kernel
theorem dX5_proudestBy_79 : decode cX5_proudestBy 79 = .ok (.iload 10, 2) := by decide +kernel
theorem dX5_proudestBy_81 : decode cX5_proudestBy 81 = .ok (.iload 8, 2) := by decide +kernel
theorem dX5_proudestBy_83 : decode cX5_proudestBy 83 = .ok (.if_icmp .le 8, 3) := by decide +kernel
theorem dX5_proudestBy_86 : decode cX5_proudestBy 86 = .ok (.iload 9, 2) := by decide +kernel
theorem dX5_proudestBy_88 : decode cX5_proudestBy 88 = .ok (.goto 5, 3) := by decide +kernel
theorem dX5_proudestBy_91 : decode cX5_proudestBy 91 = .ok (.iload 7, 2) := by decide +kernel
theorem dX5_proudestBy_93 : decode cX5_proudestBy 93 = .ok (.istore 7, 2) := by decide +kernel
theorem dX5_proudestBy_95 : decode cX5_proudestBy 95 = .ok (.iload 8, 2) := by decide +kernel
theorem dX5_proudestBy_97 : decode cX5_proudestBy 97 = .ok (.iload 10, 2) := by decide +kernel
theorem dX5_proudestBy_99 : decode cX5_proudestBy 99 = .ok (.invokestatic 239, 3) := by decide +kernel
theorem dX5_proudestBy_102 : decode cX5_proudestBy 102 = .ok (.istore 8, 2) := by decide +kernel
theorem dX5_proudestBy_104 : decode cX5_proudestBy 104 = .ok (.iinc 9 1, 3) := by decide +kernel
theorem dX5_proudestBy_107 : decode cX5_proudestBy 107 = .ok (.goto (-79), 3) := by decide +kernel
theorem dX5_proudestBy_110 : decode cX5_proudestBy 110 = .ok (.aload_n 0, 1) := by decide +kernel
theorem dX5_proudestBy_111 : decode cX5_proudestBy 111 = .ok (.getfield 7, 3) := by decide +kernel
theorem dX5_proudestBy_114 : decode cX5_proudestBy 114 = .ok (.iload 5, 2) := by decide +kernel
theorem dX5_proudestBy_116 : decode cX5_proudestBy 116 = .ok (.iload 6, 2) := by decide +kernel
theorem dX5_proudestBy_118 : decode cX5_proudestBy 118 = .ok (.iastore, 1) := by decide +kernel
theorem dX5_proudestBy_119 : decode cX5_proudestBy 119 = .ok (.iload 7, 2) := by decide +kernel
theorem dX5_proudestBy_121 : decode cX5_proudestBy 121 = .ok (.ireturn, 1) := by decide +kernel
set_option maxRecDepth 20000 in
theorem ggX5_roomFor_X5_isOne : GoodIn wsX5_roomFor wsX5_isOne := goodIn_r _ [5, 6, 58, 59, 60, 61, 62, 63, 64, 65, 66, 67, 68, 69, 70, 71, 72, 73, 74, 75, 76, 77, 78, 79, 80, 81, 82, 83, 84, 85, 86] (by decide +kernel) (by decide +kernel)
set_option maxRecDepth 20000 in
theorem gX5_roomFor_X5_isOne : GoodIn wsX5_roomFor (wsV RX5 176 RX5 yX5_isOne wsX5_isOne) := goodIn_app (goodIn_of _ (by decide +kernel)) ggX5_roomFor_X5_isOne
set_option maxRecDepth 20000 in
theorem ggX5_roomFor_X5_isShort : GoodIn wsX5_roomFor wsX5_isShort := goodIn_r _ [9, 10, 11, 12, 4, 13] (by decide +kernel) (by decide +kernel)
set_option maxRecDepth 20000 in
theorem gX5_roomFor_X5_isShort : GoodIn wsX5_roomFor (va_wsS RX5 242 yX5_isShort wsX5_isShort) := goodIn_app (goodIn_of _ (by decide +kernel)) ggX5_roomFor_X5_isShort
set_option maxRecDepth 20000 in
theorem ggX5_roomFor_X5_proudestBy : GoodIn wsX5_roomFor wsX5_proudestBy := goodIn_r _ [17, 6, 18, 19, 20, 4, 21, 22, 23, 24, 25, 26, 27, 28, 29, 30, 31, 32, 33, 34, 35, 36, 37, 38, 39, 40, 41, 42, 43, 44, 45, 46, 47, 48, 49, 50, 51, 52, 53, 54, 55, 56, 57, 58, 59, 60, 61, 62, 63, 64, 65, 66, 67, 68, 69, 70, 71, 72, 73, 74, 75, 76, 77, 78, 79, 80, 81, 82, 83, 84, 85, 86] (by decide +kernel) (by decide +kernel)
set_option maxRecDepth 20000 in
theorem gX5_roomFor_X5_proudestBy : GoodIn wsX5_roomFor (wsV RX5 245 RX5 yX5_proudestBy wsX5_proudestBy) := goodIn_app (goodIn_of _ (by decide +kernel)) ggX5_roomFor_X5_proudestBy
theorem dX5_roomFor_0 : decode cX5_roomFor 0 = .ok (.aload_n 0, 1) := by decide +kernel
theorem dX5_roomFor_1 : decode cX5_roomFor 1 = .ok (.iload_n 1, 1) := by decide +kernel
theorem dX5_roomFor_2 : decode cX5_roomFor 2 = .ok (.invokevirtual 176, 3) := by decide +kernel
theorem dX5_roomFor_5 : decode cX5_roomFor 5 = .ok (.ifCond .eq 22, 3) := by decide +kernel
theorem dX5_roomFor_8 : decode cX5_roomFor 8 = .ok (.iload_n 2, 1) := by decide +kernel
theorem dX5_roomFor_9 : decode cX5_roomFor 9 = .ok (.invokestatic 242, 3) := by decide +kernel
theorem dX5_roomFor_12 : decode cX5_roomFor 12 = .ok (.ifCond .eq 15, 3) := by decide +kernel
theorem dX5_roomFor_15 : decode cX5_roomFor 15 = .ok (.aload_n 0, 1) := by decide +kernel
theorem dX5_roomFor_16 : decode cX5_roomFor 16 = .ok (.iload_n 1, 1) := by decide +kernel
theorem dX5_roomFor_17 : decode cX5_roomFor 17 = .ok (.iconst 3, 1) := by decide +kernel
theorem dX5_roomFor_18 : decode cX5_roomFor 18 = .ok (.bipush 7, 2) := by decide +kernel
theorem dX5_roomFor_20 : decode cX5_roomFor 20 = .ok (.iload_n 2, 1) := by decide +kernel
theorem dX5_roomFor_21 : decode cX5_roomFor 21 = .ok (.invokevirtual 245, 3) := by decide +kernel
theorem dX5_roomFor_24 : decode cX5_roomFor 24 = .ok (.goto 4, 3) := by decide +kernel
theorem dX5_roomFor_27 : decode cX5_roomFor 27 = .ok (.iconst (-1), 1) := by decide +kernel
theorem dX5_roomFor_28 : decode cX5_roomFor 28 = .ok (.ireturn, 1) := by decide +kernel
set_option maxRecDepth 20000 in
theorem ggX5_kindFor_X5_isOne : GoodIn wsX5_kindFor wsX5_isOne := goodIn_r _ [5, 6, 58, 59, 60, 61, 62, 63, 64, 65, 66, 67, 68, 69, 70, 71, 72, 73, 74, 75, 76, 77, 78, 79, 80, 81, 82, 83, 84, 85, 86] (by decide +kernel) (by decide +kernel)
set_option maxRecDepth 20000 in
theorem gX5_kindFor_X5_isOne : GoodIn wsX5_kindFor (wsV RX5 176 RX5 yX5_isOne wsX5_isOne) := goodIn_app (goodIn_of _ (by decide +kernel)) ggX5_kindFor_X5_isOne
set_option maxRecDepth 20000 in
theorem ggX5_kindFor_X5_isShort : GoodIn wsX5_kindFor wsX5_isShort := goodIn_r _ [9, 10, 11, 12, 4, 13] (by decide +kernel) (by decide +kernel)
set_option maxRecDepth 20000 in
theorem gX5_kindFor_X5_isShort : GoodIn wsX5_kindFor (va_wsS RX5 242 yX5_isShort wsX5_isShort) := goodIn_app (goodIn_of _ (by decide +kernel)) ggX5_kindFor_X5_isShort
set_option maxRecDepth 20000 in
theorem ggX5_kindFor_X5_proudestBy : GoodIn wsX5_kindFor wsX5_proudestBy := goodIn_r _ [17, 6, 18, 19, 20, 4, 21, 22, 23, 24, 25, 26, 27, 28, 29, 30, 31, 32, 33, 34, 35, 36, 37, 38, 39, 40, 41, 42, 43, 44, 45, 46, 47, 48, 49, 50, 51, 52, 53, 54, 55, 56, 57, 58, 59, 60, 61, 62, 63, 64, 65, 66, 67, 68, 69, 70, 71, 72, 73, 74, 75, 76, 77, 78, 79, 80, 81, 82, 83, 84, 85, 86] (by decide +kernel) (by decide +kernel)
set_option maxRecDepth 20000 in
theorem gX5_kindFor_X5_proudestBy : GoodIn wsX5_kindFor (wsV RX5 245 RX5 yX5_proudestBy wsX5_proudestBy) := goodIn_app (goodIn_of _ (by decide +kernel)) ggX5_kindFor_X5_proudestBy
theorem dX5_kindFor_0 : decode cX5_kindFor 0 = .ok (.aload_n 0, 1) := by decide +kernel
theorem dX5_kindFor_1 : decode cX5_kindFor 1 = .ok (.iload_n 1, 1) := by decide +kernel
theorem dX5_kindFor_2 : decode cX5_kindFor 2 = .ok (.invokevirtual 176, 3) := by decide +kernel
theorem dX5_kindFor_5 : decode cX5_kindFor 5 = .ok (.ifCond .eq 21, 3) := by decide +kernel
theorem dX5_kindFor_8 : decode cX5_kindFor 8 = .ok (.iload_n 2, 1) := by decide +kernel
theorem dX5_kindFor_9 : decode cX5_kindFor 9 = .ok (.invokestatic 242, 3) := by decide +kernel
theorem dX5_kindFor_12 : decode cX5_kindFor 12 = .ok (.ifCond .eq 14, 3) := by decide +kernel
theorem dX5_kindFor_15 : decode cX5_kindFor 15 = .ok (.aload_n 0, 1) := by decide +kernel
theorem dX5_kindFor_16 : decode cX5_kindFor 16 = .ok (.iload_n 1, 1) := by decide +kernel
theorem dX5_kindFor_17 : decode cX5_kindFor 17 = .ok (.iconst 0, 1) := by decide +kernel
theorem dX5_kindFor_18 : decode cX5_kindFor 18 = .ok (.iconst 5, 1) := by decide +kernel
theorem dX5_kindFor_19 : decode cX5_kindFor 19 = .ok (.iload_n 2, 1) := by decide +kernel
theorem dX5_kindFor_20 : decode cX5_kindFor 20 = .ok (.invokevirtual 245, 3) := by decide +kernel
theorem dX5_kindFor_23 : decode cX5_kindFor 23 = .ok (.goto 4, 3) := by decide +kernel
theorem dX5_kindFor_26 : decode cX5_kindFor 26 = .ok (.iconst (-1), 1) := by decide +kernel
theorem dX5_kindFor_27 : decode cX5_kindFor 27 = .ok (.ireturn, 1) := by decide +kernel
set_option maxRecDepth 20000 in
theorem ggX5_earFor_X5_isOne : GoodIn wsX5_earFor wsX5_isOne := goodIn_r _ [5, 6, 58, 59, 60, 61, 62, 63, 64, 65, 66, 67, 68, 69, 70, 71, 72, 73, 74, 75, 76, 77, 78, 79, 80, 81, 82, 83, 84, 85, 86] (by decide +kernel) (by decide +kernel)
set_option maxRecDepth 20000 in
theorem gX5_earFor_X5_isOne : GoodIn wsX5_earFor (wsV RX5 176 RX5 yX5_isOne wsX5_isOne) := goodIn_app (goodIn_of _ (by decide +kernel)) ggX5_earFor_X5_isOne
set_option maxRecDepth 20000 in
theorem ggX5_earFor_X5_isShort : GoodIn wsX5_earFor wsX5_isShort := goodIn_r _ [9, 10, 11, 12, 4, 13] (by decide +kernel) (by decide +kernel)
set_option maxRecDepth 20000 in
theorem gX5_earFor_X5_isShort : GoodIn wsX5_earFor (va_wsS RX5 242 yX5_isShort wsX5_isShort) := goodIn_app (goodIn_of _ (by decide +kernel)) ggX5_earFor_X5_isShort
set_option maxRecDepth 20000 in
theorem ggX5_earFor_X5_proudestBy : GoodIn wsX5_earFor wsX5_proudestBy := goodIn_r _ [17, 6, 18, 19, 20, 4, 21, 22, 23, 24, 25, 26, 27, 28, 29, 30, 31, 32, 33, 34, 35, 36, 37, 38, 39, 40, 41, 42, 43, 44, 45, 46, 47, 48, 49, 50, 51, 52, 53, 54, 55, 56, 57, 58, 59, 60, 61, 62, 63, 64, 65, 66, 67, 68, 69, 70, 71, 72, 73, 74, 75, 76, 77, 78, 79, 80, 81, 82, 83, 84, 85, 86] (by decide +kernel) (by decide +kernel)
set_option maxRecDepth 20000 in
theorem gX5_earFor_X5_proudestBy : GoodIn wsX5_earFor (wsV RX5 245 RX5 yX5_proudestBy wsX5_proudestBy) := goodIn_app (goodIn_of _ (by decide +kernel)) ggX5_earFor_X5_proudestBy
theorem dX5_earFor_0 : decode cX5_earFor 0 = .ok (.aload_n 0, 1) := by decide +kernel
theorem dX5_earFor_1 : decode cX5_earFor 1 = .ok (.iload_n 1, 1) := by decide +kernel
theorem dX5_earFor_2 : decode cX5_earFor 2 = .ok (.invokevirtual 176, 3) := by decide +kernel
theorem dX5_earFor_5 : decode cX5_earFor 5 = .ok (.ifCond .eq 22, 3) := by decide +kernel
theorem dX5_earFor_8 : decode cX5_earFor 8 = .ok (.iload_n 2, 1) := by decide +kernel
theorem dX5_earFor_9 : decode cX5_earFor 9 = .ok (.invokestatic 242, 3) := by decide +kernel
theorem dX5_earFor_12 : decode cX5_earFor 12 = .ok (.ifCond .eq 15, 3) := by decide +kernel
theorem dX5_earFor_15 : decode cX5_earFor 15 = .ok (.aload_n 0, 1) := by decide +kernel
theorem dX5_earFor_16 : decode cX5_earFor 16 = .ok (.iload_n 1, 1) := by decide +kernel
theorem dX5_earFor_17 : decode cX5_earFor 17 = .ok (.iconst 2, 1) := by decide +kernel
theorem dX5_earFor_18 : decode cX5_earFor 18 = .ok (.bipush 9, 2) := by decide +kernel
theorem dX5_earFor_20 : decode cX5_earFor 20 = .ok (.iload_n 2, 1) := by decide +kernel
theorem dX5_earFor_21 : decode cX5_earFor 21 = .ok (.invokevirtual 245, 3) := by decide +kernel
theorem dX5_earFor_24 : decode cX5_earFor 24 = .ok (.goto 4, 3) := by decide +kernel
theorem dX5_earFor_27 : decode cX5_earFor 27 = .ok (.iconst (-1), 1) := by decide +kernel
theorem dX5_earFor_28 : decode cX5_earFor 28 = .ok (.ireturn, 1) := by decide +kernel
set_option maxRecDepth 20000 in
theorem ggX5_begunFor_X5_isOne : GoodIn wsX5_begunFor wsX5_isOne := goodIn_r _ [7, 1, 63, 64, 65, 66, 67, 68, 69, 70, 71, 72, 73, 74, 75, 76, 77, 78, 79, 80, 81, 82, 83, 84, 85, 86, 87, 88, 89, 90, 91] (by decide +kernel) (by decide +kernel)
set_option maxRecDepth 20000 in
theorem gX5_begunFor_X5_isOne : GoodIn wsX5_begunFor (wsV RX5 176 RX5 yX5_isOne wsX5_isOne) := goodIn_app (goodIn_of _ (by decide +kernel)) ggX5_begunFor_X5_isOne
set_option maxRecDepth 20000 in
theorem ggX5_begunFor_X5_isShort : GoodIn wsX5_begunFor wsX5_isShort := goodIn_r _ [10, 11, 12, 13, 6, 14] (by decide +kernel) (by decide +kernel)
set_option maxRecDepth 20000 in
theorem gX5_begunFor_X5_isShort : GoodIn wsX5_begunFor (va_wsS RX5 242 yX5_isShort wsX5_isShort) := goodIn_app (goodIn_of _ (by decide +kernel)) ggX5_begunFor_X5_isShort
set_option maxRecDepth 20000 in
theorem ggX5_begunFor_X5_copyRow : GoodIn wsX5_begunFor wsX5_copyRow := goodIn_r _ [17] (by decide +kernel) (by decide +kernel)
set_option maxRecDepth 20000 in
theorem gX5_begunFor_X5_copyRow : GoodIn wsX5_begunFor (va_wsS RX5 142 yX5_copyRow wsX5_copyRow) := goodIn_app (goodIn_of _ (by decide +kernel)) ggX5_begunFor_X5_copyRow
set_option maxRecDepth 20000 in
theorem ggX5_begunFor_X5_size : GoodIn wsX5_begunFor wsX5_size := goodIn_r _ [20] (by decide +kernel) (by decide +kernel)
set_option maxRecDepth 20000 in
theorem gX5_begunFor_X5_size : GoodIn wsX5_begunFor (va_wsS RX5 206 yX5_size wsX5_size) := goodIn_app (goodIn_of _ (by decide +kernel)) ggX5_begunFor_X5_size
set_option maxRecDepth 20000 in
theorem ggX5_begunFor_X5_clappingBehind : GoodIn wsX5_begunFor wsX5_clappingBehind := goodIn_r _ [24, 1, 25, 15, 16, 6, 17, 26, 27, 28, 29, 30, 31, 32, 33, 34, 35, 36, 37, 38, 39, 40, 41, 42, 43, 44, 45, 46, 47, 48, 49, 50, 51, 52, 53, 54, 55, 56, 57, 58, 59, 60, 61, 62, 63, 64, 65, 66, 67, 68, 69, 70, 71, 72, 73, 74, 75, 76, 77, 78, 79, 80, 81, 82, 83, 84, 85, 86, 87, 88, 89, 90, 91] (by decide +kernel) (by decide +kernel)
set_option maxRecDepth 20000 in
theorem gX5_begunFor_X5_clappingBehind : GoodIn wsX5_begunFor (wsV RX5 227 RX5 yX5_clappingBehind wsX5_clappingBehind) := goodIn_app (goodIn_of _ (by decide +kernel)) ggX5_begunFor_X5_clappingBehind
theorem dX5_begunFor_0 : decode cX5_begunFor 0 = .ok (.aload_n 0, 1) := by decide +kernel
theorem dX5_begunFor_1 : decode cX5_begunFor 1 = .ok (.iload_n 1, 1) := by decide +kernel
theorem dX5_begunFor_2 : decode cX5_begunFor 2 = .ok (.invokevirtual 176, 3) := by decide +kernel
theorem dX5_begunFor_5 : decode cX5_begunFor 5 = .ok (.ifCond .eq 10, 3) := by decide +kernel
theorem dX5_begunFor_8 : decode cX5_begunFor 8 = .ok (.iload_n 2, 1) := by decide +kernel
theorem dX5_begunFor_9 : decode cX5_begunFor 9 = .ok (.invokestatic 242, 3) := by decide +kernel
theorem dX5_begunFor_12 : decode cX5_begunFor 12 = .ok (.ifCond .ne 5, 3) := by decide +kernel
theorem dX5_begunFor_15 : decode cX5_begunFor 15 = .ok (.iconst (-1), 1) := by decide +kernel
theorem dX5_begunFor_16 : decode cX5_begunFor 16 = .ok (.ireturn, 1) := by decide +kernel
theorem dX5_begunFor_17 : decode cX5_begunFor 17 = .ok (.aload_n 0, 1) := by decide +kernel
theorem dX5_begunFor_18 : decode cX5_begunFor 18 = .ok (.getfield 7, 3) := by decide +kernel
theorem dX5_begunFor_21 : decode cX5_begunFor 21 = .ok (.aload_n 0, 1) := by decide +kernel
theorem dX5_begunFor_22 : decode cX5_begunFor 22 = .ok (.getfield 22, 3) := by decide +kernel
theorem dX5_begunFor_25 : decode cX5_begunFor 25 = .ok (.invokestatic 142, 3) := by decide +kernel
theorem dX5_begunFor_28 : decode cX5_begunFor 28 = .ok (.bipush (-3), 2) := by decide +kernel
theorem dX5_begunFor_30 : decode cX5_begunFor 30 = .ok (.istore_n 3, 1) := by decide +kernel
theorem dX5_begunFor_31 : decode cX5_begunFor 31 = .ok (.iconst 0, 1) := by decide +kernel
theorem dX5_begunFor_32 : decode cX5_begunFor 32 = .ok (.istore 4, 2) := by decide +kernel
theorem dX5_begunFor_34 : decode cX5_begunFor 34 = .ok (.iload 4, 2) := by decide +kernel
theorem dX5_begunFor_36 : decode cX5_begunFor 36 = .ok (.iconst 1, 1) := by decide +kernel
theorem dX5_begunFor_37 : decode cX5_begunFor 37 = .ok (.aload_n 0, 1) := by decide +kernel
theorem dX5_begunFor_38 : decode cX5_begunFor 38 = .ok (.getfield 7, 3) := by decide +kernel
theorem dX5_begunFor_41 : decode cX5_begunFor 41 = .ok (.iconst 0, 1) := by decide +kernel
theorem dX5_begunFor_42 : decode cX5_begunFor 42 = .ok (.iaload, 1) := by decide +kernel
theorem dX5_begunFor_43 : decode cX5_begunFor 43 = .ok (.ishl, 1) := by decide +kernel
theorem dX5_begunFor_44 : decode cX5_begunFor 44 = .ok (.if_icmp .ge 95, 3) := by decide +kernel
theorem dX5_begunFor_47 : decode cX5_begunFor 47 = .ok (.iload 4, 2) := by decide +kernel
theorem dX5_begunFor_49 : decode cX5_begunFor 49 = .ok (.iload_n 1, 1) := by decide +kernel
theorem dX5_begunFor_50 : decode cX5_begunFor 50 = .ok (.ishr, 1) := by decide +kernel
theorem dX5_begunFor_51 : decode cX5_begunFor 51 = .ok (.iconst 1, 1) := by decide +kernel
theorem dX5_begunFor_52 : decode cX5_begunFor 52 = .ok (.iand, 1) := by decide +kernel
theorem dX5_begunFor_53 : decode cX5_begunFor 53 = .ok (.ifCond .ne 80, 3) := by decide +kernel
theorem dX5_begunFor_56 : decode cX5_begunFor 56 = .ok (.iload_n 3, 1) := by decide +kernel
theorem dX5_begunFor_57 : decode cX5_begunFor 57 = .ok (.ifCond .lt 15, 3) := by decide +kernel
theorem dX5_begunFor_60 : decode cX5_begunFor 60 = .ok (.iload 4, 2) := by decide +kernel
theorem dX5_begunFor_62 : decode cX5_begunFor 62 = .ok (.invokestatic 206, 3) := by decide +kernel
theorem dX5_begunFor_65 : decode cX5_begunFor 65 = .ok (.iload_n 3, 1) := by decide +kernel
theorem dX5_begunFor_66 : decode cX5_begunFor 66 = .ok (.invokestatic 206, 3) := by decide +kernel
theorem dX5_begunFor_69 : decode cX5_begunFor 69 = .ok (.if_icmp .ge 64, 3) := by decide +kernel
theorem dX5_begunFor_72 : decode cX5_begunFor 72 = .ok (.iconst 0, 1) := by decide +kernel
theorem dX5_begunFor_73 : decode cX5_begunFor 73 = .ok (.istore 5, 2) := by decide +kernel
theorem dX5_begunFor_75 : decode cX5_begunFor 75 = .ok (.iload 5, 2) := by decide +kernel
theorem dX5_begunFor_77 : decode cX5_begunFor 77 = .ok (.aload_n 0, 1) := by decide +kernel
theorem dX5_begunFor_78 : decode cX5_begunFor 78 = .ok (.getfield 7, 3) := by decide +kernel
theorem dX5_begunFor_81 : decode cX5_begunFor 81 = .ok (.iconst 0, 1) := by decide +kernel
theorem dX5_begunFor_82 : decode cX5_begunFor 82 = .ok (.iaload, 1) := by decide +kernel
theorem dX5_begunFor_83 : decode cX5_begunFor 83 = .ok (.if_icmp .ge 30, 3) := by decide +kernel
theorem dX5_begunFor_86 : decode cX5_begunFor 86 = .ok (.aload_n 0, 1) := by decide +kernel
theorem dX5_begunFor_87 : decode cX5_begunFor 87 = .ok (.getfield 7, 3) := by decide +kernel
theorem dX5_begunFor_90 : decode cX5_begunFor 90 = .ok (.bipush 7, 2) := by decide +kernel
theorem dX5_begunFor_92 : decode cX5_begunFor 92 = .ok (.iconst 5, 1) := by decide +kernel
theorem dX5_begunFor_93 : decode cX5_begunFor 93 = .ok (.iload 5, 2) := by decide +kernel
theorem dX5_begunFor_95 : decode cX5_begunFor 95 = .ok (.imul, 1) := by decide +kernel
theorem dX5_begunFor_96 : decode cX5_begunFor 96 = .ok (.iadd, 1) := by decide +kernel
theorem dX5_begunFor_97 : decode cX5_begunFor 97 = .ok (.iconst 4, 1) := by decide +kernel
theorem dX5_begunFor_98 : decode cX5_begunFor 98 = .ok (.iadd, 1) := by decide +kernel
theorem dX5_begunFor_99 : decode cX5_begunFor 99 = .ok (.iload 4, 2) := by decide +kernel
theorem dX5_begunFor_101 : decode cX5_begunFor 101 = .ok (.iload 5, 2) := by decide +kernel
theorem dX5_begunFor_103 : decode cX5_begunFor 103 = .ok (.ishr, 1) := by decide +kernel
theorem dX5_begunFor_104 : decode cX5_begunFor 104 = .ok (.iconst 1, 1) := by decide +kernel
theorem dX5_begunFor_105 : decode cX5_begunFor 105 = .ok (.iand, 1) := by decide +kernel
theorem dX5_begunFor_106 : decode cX5_begunFor 106 = .ok (.iastore, 1) := by decide +kernel
theorem dX5_begunFor_107 : decode cX5_begunFor 107 = .ok (.iinc 5 1, 3) := by decide +kernel
theorem dX5_begunFor_110 : decode cX5_begunFor 110 = .ok (.goto (-35), 3) := by decide +kernel
theorem dX5_begunFor_113 : decode cX5_begunFor 113 = .ok (.aload_n 0, 1) := by decide +kernel
theorem dX5_begunFor_114 : decode cX5_begunFor 114 = .ok (.iload_n 2, 1) := by decide +kernel
theorem dX5_begunFor_115 : decode cX5_begunFor 115 = .ok (.invokevirtual 227, 3) := by decide +kernel
theorem dX5_begunFor_118 : decode cX5_begunFor 118 = .ok (.iload_n 1, 1) := by decide +kernel
theorem dX5_begunFor_119 : decode cX5_begunFor 119 = .ok (.ishr, 1) := by decide +kernel
theorem dX5_begunFor_120 : decode cX5_begunFor 120 = .ok (.iconst 1, 1) := by decide +kernel
theorem dX5_begunFor_121 : decode cX5_begunFor 121 = .ok (.iand, 1) := by decide +kernel
theorem dX5_begunFor_122 : decode cX5_begunFor 122 = .ok (.iconst 1, 1) := by decide +kernel
theorem dX5_begunFor_123 : decode cX5_begunFor 123 = .ok (.if_icmp .ne 8, 3) := by decide +kernel
theorem dX5_begunFor_126 : decode cX5_begunFor 126 = .ok (.iload 4, 2) := by decide +kernel
theorem dX5_begunFor_128 : decode cX5_begunFor 128 = .ok (.goto 4, 3) := by decide +kernel
theorem dX5_begunFor_131 : decode cX5_begunFor 131 = .ok (.iload_n 3, 1) := by decide +kernel
theorem dX5_begunFor_132 : decode cX5_begunFor 132 = .ok (.istore_n 3, 1) := by decide +kernel
theorem dX5_begunFor_133 : decode cX5_begunFor 133 = .ok (.iinc 4 1, 3) := by decide +kernel
theorem dX5_begunFor_136 : decode cX5_begunFor 136 = .ok (.goto (-102), 3) := by decide +kernel
theorem dX5_begunFor_139 : decode cX5_begunFor 139 = .ok (.aload_n 0, 1) := by decide +kernel
theorem dX5_begunFor_140 : decode cX5_begunFor 140 = .ok (.getfield 22, 3) := by decide +kernel
theorem dX5_begunFor_143 : decode cX5_begunFor 143 = .ok (.aload_n 0, 1) := by decide +kernel
theorem dX5_begunFor_144 : decode cX5_begunFor 144 = .ok (.getfield 7, 3) := by decide +kernel
theorem dX5_begunFor_147 : decode cX5_begunFor 147 = .ok (.invokestatic 142, 3) := by decide +kernel
theorem dX5_begunFor_150 : decode cX5_begunFor 150 = .ok (.iload_n 3, 1) := by decide +kernel
theorem dX5_begunFor_151 : decode cX5_begunFor 151 = .ok (.ireturn, 1) := by decide +kernel
set_option maxRecDepth 20000 in
theorem ggX5_hiredFor_X5_isShort : GoodIn wsX5_hiredFor wsX5_isShort := goodIn_r _ [6, 7, 8, 9, 5, 10] (by decide +kernel) (by decide +kernel)
set_option maxRecDepth 20000 in
theorem gX5_hiredFor_X5_isShort : GoodIn wsX5_hiredFor (va_wsS RX5 242 yX5_isShort wsX5_isShort) := goodIn_app (goodIn_of _ (by decide +kernel)) ggX5_hiredFor_X5_isShort
set_option maxRecDepth 20000 in
theorem ggX5_hiredFor_X5_copyRow : GoodIn wsX5_hiredFor wsX5_copyRow := goodIn_r _ [13] (by decide +kernel) (by decide +kernel)
set_option maxRecDepth 20000 in
theorem gX5_hiredFor_X5_copyRow : GoodIn wsX5_hiredFor (va_wsS RX5 142 yX5_copyRow wsX5_copyRow) := goodIn_app (goodIn_of _ (by decide +kernel)) ggX5_hiredFor_X5_copyRow
set_option maxRecDepth 20000 in
theorem ggX5_hiredFor_X5_size : GoodIn wsX5_hiredFor wsX5_size := goodIn_r _ [16] (by decide +kernel) (by decide +kernel)
set_option maxRecDepth 20000 in
theorem gX5_hiredFor_X5_size : GoodIn wsX5_hiredFor (va_wsS RX5 206 yX5_size wsX5_size) := goodIn_app (goodIn_of _ (by decide +kernel)) ggX5_hiredFor_X5_size
set_option maxRecDepth 20000 in
theorem ggX5_hiredFor_X5_its : GoodIn wsX5_hiredFor wsX5_its := goodIn_r _ [20, 1, 63, 64, 65, 66, 67, 68, 69, 70, 71, 72, 73, 74, 75, 76, 77, 78, 79, 80, 81, 82, 83, 84, 85, 86, 87, 88, 89, 90, 91] (by decide +kernel) (by decide +kernel)
set_option maxRecDepth 20000 in
theorem gX5_hiredFor_X5_its : GoodIn wsX5_hiredFor (wsV RX5 167 RX5 yX5_its wsX5_its) := goodIn_app (goodIn_of _ (by decide +kernel)) ggX5_hiredFor_X5_its
set_option maxRecDepth 20000 in
theorem ggX5_hiredFor_X5_clappingBehind : GoodIn wsX5_hiredFor wsX5_clappingBehind := goodIn_r _ [24, 1, 25, 11, 12, 5, 13, 26, 27, 28, 29, 30, 31, 32, 33, 34, 35, 36, 37, 38, 39, 17, 18, 19, 20, 40, 41, 42, 43, 44, 45, 46, 47, 48, 49, 50, 51, 52, 53, 54, 55, 56, 57, 58, 63, 64, 65, 66, 67, 68, 69, 70, 71, 72, 73, 74, 75, 76, 77, 78, 79, 80, 81, 82, 83, 84, 85, 86, 87, 88, 89, 90, 91] (by decide +kernel) (by decide +kernel)
set_option maxRecDepth 20000 in
theorem gX5_hiredFor_X5_clappingBehind : GoodIn wsX5_hiredFor (wsV RX5 227 RX5 yX5_clappingBehind wsX5_clappingBehind) := goodIn_app (goodIn_of _ (by decide +kernel)) ggX5_hiredFor_X5_clappingBehind
set_option maxRecDepth 20000 in
theorem ggX5_hiredFor_X5_everybody : GoodIn wsX5_hiredFor wsX5_everybody := goodIn_r _ [62, 1, 63, 64, 65, 66, 67, 68, 69, 70, 71, 72, 73, 74, 75, 76, 77, 78, 79, 80, 81, 82, 83, 84, 85, 86, 87, 88, 89, 90, 91] (by decide +kernel) (by decide +kernel)
set_option maxRecDepth 20000 in
theorem gX5_hiredFor_X5_everybody : GoodIn wsX5_hiredFor (wsV RX5 234 RX5 yX5_everybody wsX5_everybody) := goodIn_app (goodIn_of _ (by decide +kernel)) ggX5_hiredFor_X5_everybody
theorem dX5_hiredFor_0 : decode cX5_hiredFor 0 = .ok (.iload_n 1, 1) := by decide +kernel
theorem dX5_hiredFor_1 : decode cX5_hiredFor 1 = .ok (.invokestatic 242, 3) := by decide +kernel
theorem dX5_hiredFor_4 : decode cX5_hiredFor 4 = .ok (.ifCond .ne 5, 3) := by decide +kernel
theorem dX5_hiredFor_7 : decode cX5_hiredFor 7 = .ok (.iconst (-1), 1) := by decide +kernel
theorem dX5_hiredFor_8 : decode cX5_hiredFor 8 = .ok (.ireturn, 1) := by decide +kernel
theorem dX5_hiredFor_9 : decode cX5_hiredFor 9 = .ok (.aload_n 0, 1) := by decide +kernel
theorem dX5_hiredFor_10 : decode cX5_hiredFor 10 = .ok (.getfield 7, 3) := by decide +kernel
theorem dX5_hiredFor_13 : decode cX5_hiredFor 13 = .ok (.aload_n 0, 1) := by decide +kernel
theorem dX5_hiredFor_14 : decode cX5_hiredFor 14 = .ok (.getfield 22, 3) := by decide +kernel
theorem dX5_hiredFor_17 : decode cX5_hiredFor 17 = .ok (.invokestatic 142, 3) := by decide +kernel
theorem dX5_hiredFor_20 : decode cX5_hiredFor 20 = .ok (.bipush (-3), 2) := by decide +kernel
theorem dX5_hiredFor_22 : decode cX5_hiredFor 22 = .ok (.istore_n 2, 1) := by decide +kernel
theorem dX5_hiredFor_23 : decode cX5_hiredFor 23 = .ok (.iconst 0, 1) := by decide +kernel
theorem dX5_hiredFor_24 : decode cX5_hiredFor 24 = .ok (.istore_n 3, 1) := by decide +kernel
theorem dX5_hiredFor_25 : decode cX5_hiredFor 25 = .ok (.iload_n 3, 1) := by decide +kernel
theorem dX5_hiredFor_26 : decode cX5_hiredFor 26 = .ok (.iconst 1, 1) := by decide +kernel
theorem dX5_hiredFor_27 : decode cX5_hiredFor 27 = .ok (.aload_n 0, 1) := by decide +kernel
theorem dX5_hiredFor_28 : decode cX5_hiredFor 28 = .ok (.getfield 7, 3) := by decide +kernel
theorem dX5_hiredFor_31 : decode cX5_hiredFor 31 = .ok (.iconst 0, 1) := by decide +kernel
theorem dX5_hiredFor_32 : decode cX5_hiredFor 32 = .ok (.iaload, 1) := by decide +kernel
theorem dX5_hiredFor_33 : decode cX5_hiredFor 33 = .ok (.ishl, 1) := by decide +kernel
theorem dX5_hiredFor_34 : decode cX5_hiredFor 34 = .ok (.if_icmp .ge 106, 3) := by decide +kernel
theorem dX5_hiredFor_37 : decode cX5_hiredFor 37 = .ok (.iload_n 2, 1) := by decide +kernel
theorem dX5_hiredFor_38 : decode cX5_hiredFor 38 = .ok (.ifCond .lt 14, 3) := by decide +kernel
theorem dX5_hiredFor_41 : decode cX5_hiredFor 41 = .ok (.iload_n 3, 1) := by decide +kernel
theorem dX5_hiredFor_42 : decode cX5_hiredFor 42 = .ok (.invokestatic 206, 3) := by decide +kernel
theorem dX5_hiredFor_45 : decode cX5_hiredFor 45 = .ok (.iload_n 2, 1) := by decide +kernel
theorem dX5_hiredFor_46 : decode cX5_hiredFor 46 = .ok (.invokestatic 206, 3) := by decide +kernel
theorem dX5_hiredFor_49 : decode cX5_hiredFor 49 = .ok (.if_icmp .ge 85, 3) := by decide +kernel
theorem dX5_hiredFor_52 : decode cX5_hiredFor 52 = .ok (.iconst 0, 1) := by decide +kernel
theorem dX5_hiredFor_53 : decode cX5_hiredFor 53 = .ok (.istore 4, 2) := by decide +kernel
theorem dX5_hiredFor_55 : decode cX5_hiredFor 55 = .ok (.iload 4, 2) := by decide +kernel
theorem dX5_hiredFor_57 : decode cX5_hiredFor 57 = .ok (.aload_n 0, 1) := by decide +kernel
theorem dX5_hiredFor_58 : decode cX5_hiredFor 58 = .ok (.getfield 7, 3) := by decide +kernel
theorem dX5_hiredFor_61 : decode cX5_hiredFor 61 = .ok (.iconst 0, 1) := by decide +kernel
theorem dX5_hiredFor_62 : decode cX5_hiredFor 62 = .ok (.iaload, 1) := by decide +kernel
theorem dX5_hiredFor_63 : decode cX5_hiredFor 63 = .ok (.if_icmp .ge 42, 3) := by decide +kernel
theorem dX5_hiredFor_66 : decode cX5_hiredFor 66 = .ok (.aload_n 0, 1) := by decide +kernel
theorem dX5_hiredFor_67 : decode cX5_hiredFor 67 = .ok (.getfield 7, 3) := by decide +kernel
theorem dX5_hiredFor_70 : decode cX5_hiredFor 70 = .ok (.bipush 7, 2) := by decide +kernel
theorem dX5_hiredFor_72 : decode cX5_hiredFor 72 = .ok (.iconst 5, 1) := by decide +kernel
theorem dX5_hiredFor_73 : decode cX5_hiredFor 73 = .ok (.iload 4, 2) := by decide +kernel
theorem dX5_hiredFor_75 : decode cX5_hiredFor 75 = .ok (.imul, 1) := by decide +kernel
theorem dX5_hiredFor_76 : decode cX5_hiredFor 76 = .ok (.iadd, 1) := by decide +kernel
theorem dX5_hiredFor_77 : decode cX5_hiredFor 77 = .ok (.iload_n 3, 1) := by decide +kernel
theorem dX5_hiredFor_78 : decode cX5_hiredFor 78 = .ok (.iload 4, 2) := by decide +kernel
theorem dX5_hiredFor_80 : decode cX5_hiredFor 80 = .ok (.ishr, 1) := by decide +kernel
theorem dX5_hiredFor_81 : decode cX5_hiredFor 81 = .ok (.iconst 1, 1) := by decide +kernel
theorem dX5_hiredFor_82 : decode cX5_hiredFor 82 = .ok (.iand, 1) := by decide +kernel
theorem dX5_hiredFor_83 : decode cX5_hiredFor 83 = .ok (.iconst 1, 1) := by decide +kernel
theorem dX5_hiredFor_84 : decode cX5_hiredFor 84 = .ok (.if_icmp .ne 7, 3) := by decide +kernel
theorem dX5_hiredFor_87 : decode cX5_hiredFor 87 = .ok (.iconst 2, 1) := by decide +kernel
theorem dX5_hiredFor_88 : decode cX5_hiredFor 88 = .ok (.goto 10, 3) := by decide +kernel
theorem dX5_hiredFor_91 : decode cX5_hiredFor 91 = .ok (.aload_n 0, 1) := by decide +kernel
theorem dX5_hiredFor_92 : decode cX5_hiredFor 92 = .ok (.iload 4, 2) := by decide +kernel
theorem dX5_hiredFor_94 : decode cX5_hiredFor 94 = .ok (.iconst 0, 1) := by decide +kernel
theorem dX5_hiredFor_95 : decode cX5_hiredFor 95 = .ok (.invokevirtual 167, 3) := by decide +kernel
theorem dX5_hiredFor_98 : decode cX5_hiredFor 98 = .ok (.iastore, 1) := by decide +kernel
theorem dX5_hiredFor_99 : decode cX5_hiredFor 99 = .ok (.iinc 4 1, 3) := by decide +kernel
theorem dX5_hiredFor_102 : decode cX5_hiredFor 102 = .ok (.goto (-47), 3) := by decide +kernel
theorem dX5_hiredFor_105 : decode cX5_hiredFor 105 = .ok (.aload_n 0, 1) := by decide +kernel
theorem dX5_hiredFor_106 : decode cX5_hiredFor 106 = .ok (.iload_n 1, 1) := by decide +kernel
theorem dX5_hiredFor_107 : decode cX5_hiredFor 107 = .ok (.invokevirtual 227, 3) := by decide +kernel
theorem dX5_hiredFor_110 : decode cX5_hiredFor 110 = .ok (.aload_n 0, 1) := by decide +kernel
theorem dX5_hiredFor_111 : decode cX5_hiredFor 111 = .ok (.invokevirtual 234, 3) := by decide +kernel
theorem dX5_hiredFor_114 : decode cX5_hiredFor 114 = .ok (.if_icmp .ne 7, 3) := by decide +kernel
theorem dX5_hiredFor_117 : decode cX5_hiredFor 117 = .ok (.iload_n 3, 1) := by decide +kernel
theorem dX5_hiredFor_118 : decode cX5_hiredFor 118 = .ok (.goto 4, 3) := by decide +kernel
theorem dX5_hiredFor_121 : decode cX5_hiredFor 121 = .ok (.iload_n 2, 1) := by decide +kernel
theorem dX5_hiredFor_122 : decode cX5_hiredFor 122 = .ok (.istore_n 2, 1) := by decide +kernel
theorem dX5_hiredFor_123 : decode cX5_hiredFor 123 = .ok (.aload_n 0, 1) := by decide +kernel
theorem dX5_hiredFor_124 : decode cX5_hiredFor 124 = .ok (.getfield 22, 3) := by decide +kernel
theorem dX5_hiredFor_127 : decode cX5_hiredFor 127 = .ok (.aload_n 0, 1) := by decide +kernel
theorem dX5_hiredFor_128 : decode cX5_hiredFor 128 = .ok (.getfield 7, 3) := by decide +kernel
theorem dX5_hiredFor_131 : decode cX5_hiredFor 131 = .ok (.invokestatic 142, 3) := by decide +kernel
theorem dX5_hiredFor_134 : decode cX5_hiredFor 134 = .ok (.iinc 3 1, 3) := by decide +kernel
theorem dX5_hiredFor_137 : decode cX5_hiredFor 137 = .ok (.goto (-112), 3) := by decide +kernel
theorem dX5_hiredFor_140 : decode cX5_hiredFor 140 = .ok (.iload_n 2, 1) := by decide +kernel
theorem dX5_hiredFor_141 : decode cX5_hiredFor 141 = .ok (.ireturn, 1) := by decide +kernel
theorem dX5_product_0 : decode cX5_product 0 = .ok (.lconst 1, 1) := by decide +kernel
theorem dX5_product_1 : decode cX5_product 1 = .ok (.lstore_n 1, 1) := by decide +kernel
theorem dX5_product_2 : decode cX5_product 2 = .ok (.iconst 2, 1) := by decide +kernel
theorem dX5_product_3 : decode cX5_product 3 = .ok (.istore_n 3, 1) := by decide +kernel
theorem dX5_product_4 : decode cX5_product 4 = .ok (.iload_n 3, 1) := by decide +kernel
theorem dX5_product_5 : decode cX5_product 5 = .ok (.iload_n 0, 1) := by decide +kernel
theorem dX5_product_6 : decode cX5_product 6 = .ok (.if_icmp .gt 14, 3) := by decide +kernel
theorem dX5_product_9 : decode cX5_product 9 = .ok (.lload_n 1, 1) := by decide +kernel
theorem dX5_product_10 : decode cX5_product 10 = .ok (.iload_n 3, 1) := by decide +kernel
theorem dX5_product_11 : decode cX5_product 11 = .ok (.i2l, 1) := by decide +kernel
theorem dX5_product_12 : decode cX5_product 12 = .ok (.lmul, 1) := by decide +kernel
theorem dX5_product_13 : decode cX5_product 13 = .ok (.lstore_n 1, 1) := by decide +kernel
theorem dX5_product_14 : decode cX5_product 14 = .ok (.iinc 3 1, 3) := by decide +kernel
theorem dX5_product_17 : decode cX5_product 17 = .ok (.goto (-13), 3) := by decide +kernel
theorem dX5_product_20 : decode cX5_product 20 = .ok (.lload_n 1, 1) := by decide +kernel
theorem dX5_product_21 : decode cX5_product 21 = .ok (.lreturn, 1) := by decide +kernel
theorem dX5_partOf_0 : decode cX5_partOf 0 = .ok (.lload_n 2, 1) := by decide +kernel
theorem dX5_partOf_1 : decode cX5_partOf 1 = .ok (.lstore 5, 2) := by decide +kernel
theorem dX5_partOf_3 : decode cX5_partOf 3 = .ok (.lload_n 0, 1) := by decide +kernel
theorem dX5_partOf_4 : decode cX5_partOf 4 = .ok (.lstore 7, 2) := by decide +kernel
theorem dX5_partOf_6 : decode cX5_partOf 6 = .ok (.lload 7, 2) := by decide +kernel
theorem dX5_partOf_8 : decode cX5_partOf 8 = .ok (.lconst 0, 1) := by decide +kernel
theorem dX5_partOf_9 : decode cX5_partOf 9 = .ok (.lcmp, 1) := by decide +kernel
theorem dX5_partOf_10 : decode cX5_partOf 10 = .ok (.ifCond .eq 21, 3) := by decide +kernel
theorem dX5_partOf_13 : decode cX5_partOf 13 = .ok (.lload 5, 2) := by decide +kernel
theorem dX5_partOf_15 : decode cX5_partOf 15 = .ok (.lload 7, 2) := by decide +kernel
theorem dX5_partOf_17 : decode cX5_partOf 17 = .ok (.lrem, 1) := by decide +kernel
theorem dX5_partOf_18 : decode cX5_partOf 18 = .ok (.lstore 9, 2) := by decide +kernel
theorem dX5_partOf_20 : decode cX5_partOf 20 = .ok (.lload 7, 2) := by decide +kernel
theorem dX5_partOf_22 : decode cX5_partOf 22 = .ok (.lstore 5, 2) := by decide +kernel
theorem dX5_partOf_24 : decode cX5_partOf 24 = .ok (.lload 9, 2) := by decide +kernel
theorem dX5_partOf_26 : decode cX5_partOf 26 = .ok (.lstore 7, 2) := by decide +kernel
theorem dX5_partOf_28 : decode cX5_partOf 28 = .ok (.goto (-22), 3) := by decide +kernel
theorem dX5_partOf_31 : decode cX5_partOf 31 = .ok (.iload 4, 2) := by decide +kernel
theorem dX5_partOf_33 : decode cX5_partOf 33 = .ok (.ifCond .ne 10, 3) := by decide +kernel
theorem dX5_partOf_36 : decode cX5_partOf 36 = .ok (.lload_n 0, 1) := by decide +kernel
theorem dX5_partOf_37 : decode cX5_partOf 37 = .ok (.lload 5, 2) := by decide +kernel
theorem dX5_partOf_39 : decode cX5_partOf 39 = .ok (.ldiv, 1) := by decide +kernel
theorem dX5_partOf_40 : decode cX5_partOf 40 = .ok (.goto 7, 3) := by decide +kernel
theorem dX5_partOf_43 : decode cX5_partOf 43 = .ok (.lload_n 2, 1) := by decide +kernel
theorem dX5_partOf_44 : decode cX5_partOf 44 = .ok (.lload 5, 2) := by decide +kernel
theorem dX5_partOf_46 : decode cX5_partOf 46 = .ok (.ldiv, 1) := by decide +kernel
theorem dX5_partOf_47 : decode cX5_partOf 47 = .ok (.lreturn, 1) := by decide +kernel
set_option maxRecDepth 20000 in
theorem ggX5_isTold_X5_copyRow : GoodIn wsX5_isTold wsX5_copyRow := goodIn_r _ [8] (by decide +kernel) (by decide +kernel)
set_option maxRecDepth 20000 in
theorem gX5_isTold_X5_copyRow : GoodIn wsX5_isTold (va_wsS RX5 142 yX5_copyRow wsX5_copyRow) := goodIn_app (goodIn_of _ (by decide +kernel)) ggX5_isTold_X5_copyRow
set_option maxRecDepth 20000 in
theorem ggX5_isTold_X5_goesOn : GoodIn wsX5_isTold wsX5_goesOn := goodIn_r _ [12, 1, 13, 14, 15, 16, 17, 7, 18, 19, 20, 21, 22, 23, 24, 25, 26, 27, 28, 29, 30, 31, 32, 33, 34, 35, 36, 37, 45, 46, 47, 48, 49, 50, 51, 52, 53, 54, 55, 56, 57, 58, 59, 60, 61, 62, 63, 64, 65, 66, 67, 68, 69, 70, 71, 72, 73] (by decide +kernel) (by decide +kernel)
set_option maxRecDepth 20000 in
theorem gX5_isTold_X5_goesOn : GoodIn wsX5_isTold (wsV RX5 198 RX5 yX5_goesOn wsX5_goesOn) := goodIn_app (goodIn_of _ (by decide +kernel)) ggX5_isTold_X5_goesOn
set_option maxRecDepth 20000 in
theorem ggX5_isTold_X5_clappers : GoodIn wsX5_isTold wsX5_clappers := goodIn_r _ [41, 1, 19, 20, 21, 7, 22, 45, 46, 47, 48, 49, 50, 51, 52, 53, 54, 55, 56, 57, 58, 59, 60, 61, 62, 63, 64, 65, 66, 67, 68, 69, 70, 71, 72, 73] (by decide +kernel) (by decide +kernel)
set_option maxRecDepth 20000 in
theorem gX5_isTold_X5_clappers : GoodIn wsX5_isTold (wsV RX5 192 RX5 yX5_clappers wsX5_clappers) := goodIn_app (goodIn_of _ (by decide +kernel)) ggX5_isTold_X5_clappers
set_option maxRecDepth 20000 in
theorem ggX5_isTold_X5_size : GoodIn wsX5_isTold wsX5_size := goodIn_r _ [44] (by decide +kernel) (by decide +kernel)
set_option maxRecDepth 20000 in
theorem gX5_isTold_X5_size : GoodIn wsX5_isTold (va_wsS RX5 206 yX5_size wsX5_size) := goodIn_app (goodIn_of _ (by decide +kernel)) ggX5_isTold_X5_size
theorem dX5_isTold_0 : decode cX5_isTold 0 = .ok (.aload_n 0, 1) := by decide +kernel
theorem dX5_isTold_1 : decode cX5_isTold 1 = .ok (.getfield 7, 3) := by decide +kernel
theorem dX5_isTold_4 : decode cX5_isTold 4 = .ok (.aload_n 0, 1) := by decide +kernel
theorem dX5_isTold_5 : decode cX5_isTold 5 = .ok (.getfield 16, 3) := by decide +kernel
theorem dX5_isTold_8 : decode cX5_isTold 8 = .ok (.invokestatic 142, 3) := by decide +kernel
theorem dX5_isTold_11 : decode cX5_isTold 11 = .ok (.iconst 1, 1) := by decide +kernel
theorem dX5_isTold_12 : decode cX5_isTold 12 = .ok (.istore_n 2, 1) := by decide +kernel
theorem dX5_isTold_13 : decode cX5_isTold 13 = .ok (.iconst 0, 1) := by decide +kernel
theorem dX5_isTold_14 : decode cX5_isTold 14 = .ok (.istore_n 3, 1) := by decide +kernel
theorem dX5_isTold_15 : decode cX5_isTold 15 = .ok (.iload_n 3, 1) := by decide +kernel
theorem dX5_isTold_16 : decode cX5_isTold 16 = .ok (.aload_n 0, 1) := by decide +kernel
theorem dX5_isTold_17 : decode cX5_isTold 17 = .ok (.getfield 41, 3) := by decide +kernel
theorem dX5_isTold_20 : decode cX5_isTold 20 = .ok (.iload_n 1, 1) := by decide +kernel
theorem dX5_isTold_21 : decode cX5_isTold 21 = .ok (.iaload, 1) := by decide +kernel
theorem dX5_isTold_22 : decode cX5_isTold 22 = .ok (.if_icmp .ge 59, 3) := by decide +kernel
theorem dX5_isTold_25 : decode cX5_isTold 25 = .ok (.iload_n 2, 1) := by decide +kernel
theorem dX5_isTold_26 : decode cX5_isTold 26 = .ok (.ifCond .eq 55, 3) := by decide +kernel
theorem dX5_isTold_29 : decode cX5_isTold 29 = .ok (.aload_n 0, 1) := by decide +kernel
theorem dX5_isTold_30 : decode cX5_isTold 30 = .ok (.invokevirtual 198, 3) := by decide +kernel
theorem dX5_isTold_33 : decode cX5_isTold 33 = .ok (.aload_n 0, 1) := by decide +kernel
theorem dX5_isTold_34 : decode cX5_isTold 34 = .ok (.getfield 44, 3) := by decide +kernel
theorem dX5_isTold_37 : decode cX5_isTold 37 = .ok (.bipush 40, 2) := by decide +kernel
theorem dX5_isTold_39 : decode cX5_isTold 39 = .ok (.iload_n 1, 1) := by decide +kernel
theorem dX5_isTold_40 : decode cX5_isTold 40 = .ok (.imul, 1) := by decide +kernel
theorem dX5_isTold_41 : decode cX5_isTold 41 = .ok (.iload_n 3, 1) := by decide +kernel
theorem dX5_isTold_42 : decode cX5_isTold 42 = .ok (.iadd, 1) := by decide +kernel
theorem dX5_isTold_43 : decode cX5_isTold 43 = .ok (.iaload, 1) := by decide +kernel
theorem dX5_isTold_44 : decode cX5_isTold 44 = .ok (.iconst (-1), 1) := by decide +kernel
theorem dX5_isTold_45 : decode cX5_isTold 45 = .ok (.if_icmp .eq 24, 3) := by decide +kernel
theorem dX5_isTold_48 : decode cX5_isTold 48 = .ok (.aload_n 0, 1) := by decide +kernel
theorem dX5_isTold_49 : decode cX5_isTold 49 = .ok (.getfield 44, 3) := by decide +kernel
theorem dX5_isTold_52 : decode cX5_isTold 52 = .ok (.bipush 40, 2) := by decide +kernel
theorem dX5_isTold_54 : decode cX5_isTold 54 = .ok (.iload_n 1, 1) := by decide +kernel
theorem dX5_isTold_55 : decode cX5_isTold 55 = .ok (.imul, 1) := by decide +kernel
theorem dX5_isTold_56 : decode cX5_isTold 56 = .ok (.iload_n 3, 1) := by decide +kernel
theorem dX5_isTold_57 : decode cX5_isTold 57 = .ok (.iadd, 1) := by decide +kernel
theorem dX5_isTold_58 : decode cX5_isTold 58 = .ok (.iaload, 1) := by decide +kernel
theorem dX5_isTold_59 : decode cX5_isTold 59 = .ok (.aload_n 0, 1) := by decide +kernel
theorem dX5_isTold_60 : decode cX5_isTold 60 = .ok (.invokevirtual 192, 3) := by decide +kernel
theorem dX5_isTold_63 : decode cX5_isTold 63 = .ok (.invokestatic 206, 3) := by decide +kernel
theorem dX5_isTold_66 : decode cX5_isTold 66 = .ok (.if_icmp .ne 7, 3) := by decide +kernel
theorem dX5_isTold_69 : decode cX5_isTold 69 = .ok (.iconst 1, 1) := by decide +kernel
theorem dX5_isTold_70 : decode cX5_isTold 70 = .ok (.goto 4, 3) := by decide +kernel
theorem dX5_isTold_73 : decode cX5_isTold 73 = .ok (.iconst 0, 1) := by decide +kernel
theorem dX5_isTold_74 : decode cX5_isTold 74 = .ok (.istore_n 2, 1) := by decide +kernel
theorem dX5_isTold_75 : decode cX5_isTold 75 = .ok (.iinc 3 1, 3) := by decide +kernel
theorem dX5_isTold_78 : decode cX5_isTold 78 = .ok (.goto (-63), 3) := by decide +kernel
theorem dX5_isTold_81 : decode cX5_isTold 81 = .ok (.aload_n 0, 1) := by decide +kernel
theorem dX5_isTold_82 : decode cX5_isTold 82 = .ok (.getfield 16, 3) := by decide +kernel
theorem dX5_isTold_85 : decode cX5_isTold 85 = .ok (.aload_n 0, 1) := by decide +kernel
theorem dX5_isTold_86 : decode cX5_isTold 86 = .ok (.getfield 7, 3) := by decide +kernel
theorem dX5_isTold_89 : decode cX5_isTold 89 = .ok (.invokestatic 142, 3) := by decide +kernel
theorem dX5_isTold_92 : decode cX5_isTold 92 = .ok (.iload_n 2, 1) := by decide +kernel
theorem dX5_isTold_93 : decode cX5_isTold 93 = .ok (.ireturn, 1) := by decide +kernel
set_option maxRecDepth 20000 in
theorem ggX5_fits_X5_isSheet : GoodIn wsX5_fits wsX5_isSheet := goodIn_r _ [6, 7, 8, 9, 5, 10] (by decide +kernel) (by decide +kernel)
set_option maxRecDepth 20000 in
theorem gX5_fits_X5_isSheet : GoodIn wsX5_fits (va_wsS RX5 249 yX5_isSheet wsX5_isSheet) := goodIn_app (goodIn_of _ (by decide +kernel)) ggX5_fits_X5_isSheet
set_option maxRecDepth 20000 in
theorem ggX5_fits_X5_isOne : GoodIn wsX5_fits wsX5_isOne := goodIn_r _ [14, 2, 61, 62, 63, 64, 65, 66, 67, 68, 69, 70, 71, 72, 73, 74, 75, 76, 77, 78, 79, 80, 81, 82, 83, 84, 85, 86, 87, 88, 89] (by decide +kernel) (by decide +kernel)
set_option maxRecDepth 20000 in
theorem gX5_fits_X5_isOne : GoodIn wsX5_fits (wsV RX5 176 RX5 yX5_isOne wsX5_isOne) := goodIn_app (goodIn_of _ (by decide +kernel)) ggX5_fits_X5_isOne
set_option maxRecDepth 20000 in
theorem ggX5_fits_X5_isIn : GoodIn wsX5_fits wsX5_isIn := goodIn_r _ [10] (by decide +kernel) (by decide +kernel)
set_option maxRecDepth 20000 in
theorem gX5_fits_X5_isIn : GoodIn wsX5_fits (va_wsS RX5 64 yX5_isIn wsX5_isIn) := goodIn_app (goodIn_of _ (by decide +kernel)) ggX5_fits_X5_isIn
set_option maxRecDepth 20000 in
theorem ggX5_fits_X5_isTold : GoodIn wsX5_fits wsX5_isTold := goodIn_r _ [18, 2, 19, 20, 21, 22, 23, 5, 24, 25, 26, 27, 28, 29, 30, 31, 32, 33, 34, 35, 36, 37, 38, 39, 40, 41, 42, 43, 44, 45, 46, 47, 48, 49, 50, 51, 52, 53, 54, 55, 56, 57, 58, 59, 60, 61, 62, 63, 64, 65, 66, 67, 68, 69, 70, 71, 72, 73, 74, 75, 76, 77, 78, 79, 80, 81, 82, 83, 84, 85, 86, 87, 88, 89] (by decide +kernel) (by decide +kernel)
set_option maxRecDepth 20000 in
theorem gX5_fits_X5_isTold : GoodIn wsX5_fits (wsV RX5 252 RX5 yX5_isTold wsX5_isTold) := goodIn_app (goodIn_of _ (by decide +kernel)) ggX5_fits_X5_isTold
theorem dX5_fits_0 : decode cX5_fits 0 = .ok (.iload_n 1, 1) := by decide +kernel
theorem dX5_fits_1 : decode cX5_fits 1 = .ok (.invokestatic 249, 3) := by decide +kernel
theorem dX5_fits_4 : decode cX5_fits 4 = .ok (.ifCond .eq 21, 3) := by decide +kernel
theorem dX5_fits_7 : decode cX5_fits 7 = .ok (.aload_n 0, 1) := by decide +kernel
theorem dX5_fits_8 : decode cX5_fits 8 = .ok (.iload_n 2, 1) := by decide +kernel
theorem dX5_fits_9 : decode cX5_fits 9 = .ok (.invokevirtual 176, 3) := by decide +kernel
theorem dX5_fits_12 : decode cX5_fits 12 = .ok (.ifCond .eq 13, 3) := by decide +kernel
theorem dX5_fits_15 : decode cX5_fits 15 = .ok (.iload_n 3, 1) := by decide +kernel
theorem dX5_fits_16 : decode cX5_fits 16 = .ok (.i2l, 1) := by decide +kernel
theorem dX5_fits_17 : decode cX5_fits 17 = .ok (.lconst 0, 1) := by decide +kernel
theorem dX5_fits_18 : decode cX5_fits 18 = .ok (.lconst 1, 1) := by decide +kernel
theorem dX5_fits_19 : decode cX5_fits 19 = .ok (.invokestatic 64, 3) := by decide +kernel
theorem dX5_fits_22 : decode cX5_fits 22 = .ok (.ifCond .ne 5, 3) := by decide +kernel
theorem dX5_fits_25 : decode cX5_fits 25 = .ok (.iconst (-1), 1) := by decide +kernel
theorem dX5_fits_26 : decode cX5_fits 26 = .ok (.ireturn, 1) := by decide +kernel
theorem dX5_fits_27 : decode cX5_fits 27 = .ok (.aload_n 0, 1) := by decide +kernel
theorem dX5_fits_28 : decode cX5_fits 28 = .ok (.getfield 38, 3) := by decide +kernel
theorem dX5_fits_31 : decode cX5_fits 31 = .ok (.iload_n 1, 1) := by decide +kernel
theorem dX5_fits_32 : decode cX5_fits 32 = .ok (.iaload, 1) := by decide +kernel
theorem dX5_fits_33 : decode cX5_fits 33 = .ok (.ifCond .ge 6, 3) := by decide +kernel
theorem dX5_fits_36 : decode cX5_fits 36 = .ok (.bipush (-11), 2) := by decide +kernel
theorem dX5_fits_38 : decode cX5_fits 38 = .ok (.ireturn, 1) := by decide +kernel
theorem dX5_fits_39 : decode cX5_fits 39 = .ok (.bipush 7, 2) := by decide +kernel
theorem dX5_fits_41 : decode cX5_fits 41 = .ok (.iconst 5, 1) := by decide +kernel
theorem dX5_fits_42 : decode cX5_fits 42 = .ok (.iload_n 2, 1) := by decide +kernel
theorem dX5_fits_43 : decode cX5_fits 43 = .ok (.imul, 1) := by decide +kernel
theorem dX5_fits_44 : decode cX5_fits 44 = .ok (.iadd, 1) := by decide +kernel
theorem dX5_fits_45 : decode cX5_fits 45 = .ok (.iconst 2, 1) := by decide +kernel
theorem dX5_fits_46 : decode cX5_fits 46 = .ok (.iadd, 1) := by decide +kernel
theorem dX5_fits_47 : decode cX5_fits 47 = .ok (.istore 4, 2) := by decide +kernel
theorem dX5_fits_49 : decode cX5_fits 49 = .ok (.aload_n 0, 1) := by decide +kernel
theorem dX5_fits_50 : decode cX5_fits 50 = .ok (.getfield 7, 3) := by decide +kernel
theorem dX5_fits_53 : decode cX5_fits 53 = .ok (.iload 4, 2) := by decide +kernel
theorem dX5_fits_55 : decode cX5_fits 55 = .ok (.iaload, 1) := by decide +kernel
theorem dX5_fits_56 : decode cX5_fits 56 = .ok (.istore 5, 2) := by decide +kernel
theorem dX5_fits_58 : decode cX5_fits 58 = .ok (.iconst 0, 1) := by decide +kernel
theorem dX5_fits_59 : decode cX5_fits 59 = .ok (.istore 6, 2) := by decide +kernel
theorem dX5_fits_61 : decode cX5_fits 61 = .ok (.bipush (-3), 2) := by decide +kernel
theorem dX5_fits_63 : decode cX5_fits 63 = .ok (.istore 7, 2) := by decide +kernel
theorem dX5_fits_65 : decode cX5_fits 65 = .ok (.bipush 9, 2) := by decide +kernel
theorem dX5_fits_67 : decode cX5_fits 67 = .ok (.istore 8, 2) := by decide +kernel
theorem dX5_fits_69 : decode cX5_fits 69 = .ok (.iload 8, 2) := by decide +kernel
theorem dX5_fits_71 : decode cX5_fits 71 = .ok (.ifCond .lt 54, 3) := by decide +kernel
theorem dX5_fits_74 : decode cX5_fits 74 = .ok (.aload_n 0, 1) := by decide +kernel
theorem dX5_fits_75 : decode cX5_fits 75 = .ok (.getfield 7, 3) := by decide +kernel
theorem dX5_fits_78 : decode cX5_fits 78 = .ok (.iload 4, 2) := by decide +kernel
theorem dX5_fits_80 : decode cX5_fits 80 = .ok (.iload 8, 2) := by decide +kernel
theorem dX5_fits_82 : decode cX5_fits 82 = .ok (.iastore, 1) := by decide +kernel
theorem dX5_fits_83 : decode cX5_fits 83 = .ok (.aload_n 0, 1) := by decide +kernel
theorem dX5_fits_84 : decode cX5_fits 84 = .ok (.iload_n 1, 1) := by decide +kernel
theorem dX5_fits_85 : decode cX5_fits 85 = .ok (.invokevirtual 252, 3) := by decide +kernel
theorem dX5_fits_88 : decode cX5_fits 88 = .ok (.istore 9, 2) := by decide +kernel
theorem dX5_fits_90 : decode cX5_fits 90 = .ok (.iload 6, 2) := by decide +kernel
theorem dX5_fits_92 : decode cX5_fits 92 = .ok (.iload 9, 2) := by decide +kernel
theorem dX5_fits_94 : decode cX5_fits 94 = .ok (.ifCond .eq 7, 3) := by decide +kernel
theorem dX5_fits_97 : decode cX5_fits 97 = .ok (.iconst 1, 1) := by decide +kernel
theorem dX5_fits_98 : decode cX5_fits 98 = .ok (.goto 4, 3) := by decide +kernel
theorem dX5_fits_101 : decode cX5_fits 101 = .ok (.iconst 0, 1) := by decide +kernel
theorem dX5_fits_102 : decode cX5_fits 102 = .ok (.iadd, 1) := by decide +kernel
theorem dX5_fits_103 : decode cX5_fits 103 = .ok (.istore 6, 2) := by decide +kernel
theorem dX5_fits_105 : decode cX5_fits 105 = .ok (.iload 9, 2) := by decide +kernel
theorem dX5_fits_107 : decode cX5_fits 107 = .ok (.ifCond .eq 8, 3) := by decide +kernel
theorem dX5_fits_110 : decode cX5_fits 110 = .ok (.iload 8, 2) := by decide +kernel
theorem dX5_fits_112 : decode cX5_fits 112 = .ok (.goto 5, 3) := by decide +kernel
theorem dX5_fits_115 : decode cX5_fits 115 = .ok (.iload 7, 2) := by decide +kernel
theorem dX5_fits_117 : decode cX5_fits 117 = .ok (.istore 7, 2) := by decide +kernel
theorem dX5_fits_119 : decode cX5_fits 119 = .ok (.iinc 8 (-1), 3) := by decide +kernel
theorem dX5_fits_122 : decode cX5_fits 122 = .ok (.goto (-53), 3) := by decide +kernel
theorem dX5_fits_125 : decode cX5_fits 125 = .ok (.aload_n 0, 1) := by decide +kernel
theorem dX5_fits_126 : decode cX5_fits 126 = .ok (.getfield 7, 3) := by decide +kernel
theorem dX5_fits_129 : decode cX5_fits 129 = .ok (.iload 4, 2) := by decide +kernel
theorem dX5_fits_131 : decode cX5_fits 131 = .ok (.iload 5, 2) := by decide +kernel
theorem dX5_fits_133 : decode cX5_fits 133 = .ok (.iastore, 1) := by decide +kernel
theorem dX5_fits_134 : decode cX5_fits 134 = .ok (.iload_n 3, 1) := by decide +kernel
theorem dX5_fits_135 : decode cX5_fits 135 = .ok (.ifCond .ne 8, 3) := by decide +kernel
theorem dX5_fits_138 : decode cX5_fits 138 = .ok (.iload 6, 2) := by decide +kernel
theorem dX5_fits_140 : decode cX5_fits 140 = .ok (.goto 5, 3) := by decide +kernel
theorem dX5_fits_143 : decode cX5_fits 143 = .ok (.iload 7, 2) := by decide +kernel
theorem dX5_fits_145 : decode cX5_fits 145 = .ok (.ireturn, 1) := by decide +kernel
set_option maxRecDepth 20000 in
theorem ggX5_odds_X5_isIn : GoodIn wsX5_odds wsX5_isIn := goodIn_r _ [8] (by decide +kernel) (by decide +kernel)
set_option maxRecDepth 20000 in
theorem gX5_odds_X5_isIn : GoodIn wsX5_odds (va_wsS RX5 64 yX5_isIn wsX5_isIn) := goodIn_app (goodIn_of _ (by decide +kernel)) ggX5_odds_X5_isIn
set_option maxRecDepth 20000 in
theorem ggX5_odds_X5_product : GoodIn wsX5_odds wsX5_product := goodIn_r _ [11] (by decide +kernel) (by decide +kernel)
set_option maxRecDepth 20000 in
theorem gX5_odds_X5_product : GoodIn wsX5_odds (va_wsS RX5 257 yX5_product wsX5_product) := goodIn_app (goodIn_of _ (by decide +kernel)) ggX5_odds_X5_product
set_option maxRecDepth 20000 in
theorem ggX5_odds_X5_partOf : GoodIn wsX5_odds wsX5_partOf := goodIn_r _ [14] (by decide +kernel) (by decide +kernel)
set_option maxRecDepth 20000 in
theorem gX5_odds_X5_partOf : GoodIn wsX5_odds (va_wsS RX5 263 yX5_partOf wsX5_partOf) := goodIn_app (goodIn_of _ (by decide +kernel)) ggX5_odds_X5_partOf
theorem dX5_odds_0 : decode cX5_odds 0 = .ok (.iload_n 1, 1) := by decide +kernel
theorem dX5_odds_1 : decode cX5_odds 1 = .ok (.i2l, 1) := by decide +kernel
theorem dX5_odds_2 : decode cX5_odds 2 = .ok (.lconst 0, 1) := by decide +kernel
theorem dX5_odds_3 : decode cX5_odds 3 = .ok (.ldc2_w 62, 3) := by decide +kernel
theorem dX5_odds_6 : decode cX5_odds 6 = .ok (.invokestatic 64, 3) := by decide +kernel
theorem dX5_odds_9 : decode cX5_odds 9 = .ok (.ifCond .eq 24, 3) := by decide +kernel
theorem dX5_odds_12 : decode cX5_odds 12 = .ok (.iload_n 2, 1) := by decide +kernel
theorem dX5_odds_13 : decode cX5_odds 13 = .ok (.i2l, 1) := by decide +kernel
theorem dX5_odds_14 : decode cX5_odds 14 = .ok (.lconst 0, 1) := by decide +kernel
theorem dX5_odds_15 : decode cX5_odds 15 = .ok (.iload_n 1, 1) := by decide +kernel
theorem dX5_odds_16 : decode cX5_odds 16 = .ok (.i2l, 1) := by decide +kernel
theorem dX5_odds_17 : decode cX5_odds 17 = .ok (.invokestatic 64, 3) := by decide +kernel
theorem dX5_odds_20 : decode cX5_odds 20 = .ok (.ifCond .eq 13, 3) := by decide +kernel
theorem dX5_odds_23 : decode cX5_odds 23 = .ok (.iload_n 3, 1) := by decide +kernel
theorem dX5_odds_24 : decode cX5_odds 24 = .ok (.i2l, 1) := by decide +kernel
theorem dX5_odds_25 : decode cX5_odds 25 = .ok (.lconst 0, 1) := by decide +kernel
theorem dX5_odds_26 : decode cX5_odds 26 = .ok (.lconst 1, 1) := by decide +kernel
theorem dX5_odds_27 : decode cX5_odds 27 = .ok (.invokestatic 64, 3) := by decide +kernel
theorem dX5_odds_30 : decode cX5_odds 30 = .ok (.ifCond .ne 7, 3) := by decide +kernel
theorem dX5_odds_33 : decode cX5_odds 33 = .ok (.ldc2_w 255, 3) := by decide +kernel
theorem dX5_odds_36 : decode cX5_odds 36 = .ok (.lreturn, 1) := by decide +kernel
theorem dX5_odds_37 : decode cX5_odds 37 = .ok (.iload_n 1, 1) := by decide +kernel
theorem dX5_odds_38 : decode cX5_odds 38 = .ok (.invokestatic 257, 3) := by decide +kernel
theorem dX5_odds_41 : decode cX5_odds 41 = .ok (.iload_n 2, 1) := by decide +kernel
theorem dX5_odds_42 : decode cX5_odds 42 = .ok (.invokestatic 257, 3) := by decide +kernel
theorem dX5_odds_45 : decode cX5_odds 45 = .ok (.ldiv, 1) := by decide +kernel
theorem dX5_odds_46 : decode cX5_odds 46 = .ok (.iload_n 1, 1) := by decide +kernel
theorem dX5_odds_47 : decode cX5_odds 47 = .ok (.iload_n 2, 1) := by decide +kernel
theorem dX5_odds_48 : decode cX5_odds 48 = .ok (.isub, 1) := by decide +kernel
theorem dX5_odds_49 : decode cX5_odds 49 = .ok (.invokestatic 257, 3) := by decide +kernel
theorem dX5_odds_52 : decode cX5_odds 52 = .ok (.ldiv, 1) := by decide +kernel
theorem dX5_odds_53 : decode cX5_odds 53 = .ok (.lstore 4, 2) := by decide +kernel
theorem dX5_odds_55 : decode cX5_odds 55 = .ok (.lconst 1, 1) := by decide +kernel
theorem dX5_odds_56 : decode cX5_odds 56 = .ok (.lstore 6, 2) := by decide +kernel
theorem dX5_odds_58 : decode cX5_odds 58 = .ok (.iconst 0, 1) := by decide +kernel
theorem dX5_odds_59 : decode cX5_odds 59 = .ok (.istore 8, 2) := by decide +kernel
theorem dX5_odds_61 : decode cX5_odds 61 = .ok (.iload 8, 2) := by decide +kernel
theorem dX5_odds_63 : decode cX5_odds 63 = .ok (.iload_n 1, 1) := by decide +kernel
theorem dX5_odds_64 : decode cX5_odds 64 = .ok (.if_icmp .ge 50, 3) := by decide +kernel
theorem dX5_odds_67 : decode cX5_odds 67 = .ok (.lload 4, 2) := by decide +kernel
theorem dX5_odds_69 : decode cX5_odds 69 = .ok (.iload 8, 2) := by decide +kernel
theorem dX5_odds_71 : decode cX5_odds 71 = .ok (.iload_n 2, 1) := by decide +kernel
theorem dX5_odds_72 : decode cX5_odds 72 = .ok (.if_icmp .ge 14, 3) := by decide +kernel
theorem dX5_odds_75 : decode cX5_odds 75 = .ok (.aload_n 0, 1) := by decide +kernel
theorem dX5_odds_76 : decode cX5_odds 76 = .ok (.getfield 7, 3) := by decide +kernel
theorem dX5_odds_79 : decode cX5_odds 79 = .ok (.bipush 6, 2) := by decide +kernel
theorem dX5_odds_81 : decode cX5_odds 81 = .ok (.iaload, 1) := by decide +kernel
theorem dX5_odds_82 : decode cX5_odds 82 = .ok (.i2l, 1) := by decide +kernel
theorem dX5_odds_83 : decode cX5_odds 83 = .ok (.goto 14, 3) := by decide +kernel
theorem dX5_odds_86 : decode cX5_odds 86 = .ok (.bipush 100, 2) := by decide +kernel
theorem dX5_odds_88 : decode cX5_odds 88 = .ok (.aload_n 0, 1) := by decide +kernel
theorem dX5_odds_89 : decode cX5_odds 89 = .ok (.getfield 7, 3) := by decide +kernel
theorem dX5_odds_92 : decode cX5_odds 92 = .ok (.bipush 6, 2) := by decide +kernel
theorem dX5_odds_94 : decode cX5_odds 94 = .ok (.iaload, 1) := by decide +kernel
theorem dX5_odds_95 : decode cX5_odds 95 = .ok (.isub, 1) := by decide +kernel
theorem dX5_odds_96 : decode cX5_odds 96 = .ok (.i2l, 1) := by decide +kernel
theorem dX5_odds_97 : decode cX5_odds 97 = .ok (.lmul, 1) := by decide +kernel
theorem dX5_odds_98 : decode cX5_odds 98 = .ok (.lstore 4, 2) := by decide +kernel
theorem dX5_odds_100 : decode cX5_odds 100 = .ok (.lload 6, 2) := by decide +kernel
theorem dX5_odds_102 : decode cX5_odds 102 = .ok (.ldc2_w 261, 3) := by decide +kernel
theorem dX5_odds_105 : decode cX5_odds 105 = .ok (.lmul, 1) := by decide +kernel
theorem dX5_odds_106 : decode cX5_odds 106 = .ok (.lstore 6, 2) := by decide +kernel
theorem dX5_odds_108 : decode cX5_odds 108 = .ok (.iinc 8 1, 3) := by decide +kernel
theorem dX5_odds_111 : decode cX5_odds 111 = .ok (.goto (-50), 3) := by decide +kernel
theorem dX5_odds_114 : decode cX5_odds 114 = .ok (.lload 4, 2) := by decide +kernel
theorem dX5_odds_116 : decode cX5_odds 116 = .ok (.lload 6, 2) := by decide +kernel
theorem dX5_odds_118 : decode cX5_odds 118 = .ok (.iload_n 3, 1) := by decide +kernel
theorem dX5_odds_119 : decode cX5_odds 119 = .ok (.invokestatic 263, 3) := by decide +kernel
theorem dX5_odds_122 : decode cX5_odds 122 = .ok (.lreturn, 1) := by decide +kernel
set_option maxRecDepth 20000 in
theorem ggX5_hope_X5_isIn : GoodIn wsX5_hope wsX5_isIn := goodIn_r _ [8] (by decide +kernel) (by decide +kernel)
set_option maxRecDepth 20000 in
theorem gX5_hope_X5_isIn : GoodIn wsX5_hope (va_wsS RX5 64 yX5_isIn wsX5_isIn) := goodIn_app (goodIn_of _ (by decide +kernel)) ggX5_hope_X5_isIn
set_option maxRecDepth 20000 in
theorem ggX5_hope_X5_partOf : GoodIn wsX5_hope wsX5_partOf := goodIn_r _ [11] (by decide +kernel) (by decide +kernel)
set_option maxRecDepth 20000 in
theorem gX5_hope_X5_partOf : GoodIn wsX5_hope (va_wsS RX5 263 yX5_partOf wsX5_partOf) := goodIn_app (goodIn_of _ (by decide +kernel)) ggX5_hope_X5_partOf
theorem dX5_hope_0 : decode cX5_hope 0 = .ok (.iload_n 1, 1) := by decide +kernel
theorem dX5_hope_1 : decode cX5_hope 1 = .ok (.i2l, 1) := by decide +kernel
theorem dX5_hope_2 : decode cX5_hope 2 = .ok (.lconst 0, 1) := by decide +kernel
theorem dX5_hope_3 : decode cX5_hope 3 = .ok (.ldc2_w 154, 3) := by decide +kernel
theorem dX5_hope_6 : decode cX5_hope 6 = .ok (.invokestatic 64, 3) := by decide +kernel
theorem dX5_hope_9 : decode cX5_hope 9 = .ok (.ifCond .eq 34, 3) := by decide +kernel
theorem dX5_hope_12 : decode cX5_hope 12 = .ok (.iload_n 2, 1) := by decide +kernel
theorem dX5_hope_13 : decode cX5_hope 13 = .ok (.i2l, 1) := by decide +kernel
theorem dX5_hope_14 : decode cX5_hope 14 = .ok (.lconst 0, 1) := by decide +kernel
theorem dX5_hope_15 : decode cX5_hope 15 = .ok (.lconst 1, 1) := by decide +kernel
theorem dX5_hope_16 : decode cX5_hope 16 = .ok (.invokestatic 64, 3) := by decide +kernel
theorem dX5_hope_19 : decode cX5_hope 19 = .ok (.ifCond .eq 24, 3) := by decide +kernel
theorem dX5_hope_22 : decode cX5_hope 22 = .ok (.iload_n 1, 1) := by decide +kernel
theorem dX5_hope_23 : decode cX5_hope 23 = .ok (.i2l, 1) := by decide +kernel
theorem dX5_hope_24 : decode cX5_hope 24 = .ok (.aload_n 0, 1) := by decide +kernel
theorem dX5_hope_25 : decode cX5_hope 25 = .ok (.getfield 7, 3) := by decide +kernel
theorem dX5_hope_28 : decode cX5_hope 28 = .ok (.bipush 6, 2) := by decide +kernel
theorem dX5_hope_30 : decode cX5_hope 30 = .ok (.iaload, 1) := by decide +kernel
theorem dX5_hope_31 : decode cX5_hope 31 = .ok (.i2l, 1) := by decide +kernel
theorem dX5_hope_32 : decode cX5_hope 32 = .ok (.lmul, 1) := by decide +kernel
theorem dX5_hope_33 : decode cX5_hope 33 = .ok (.ldc2_w 261, 3) := by decide +kernel
theorem dX5_hope_36 : decode cX5_hope 36 = .ok (.iload_n 2, 1) := by decide +kernel
theorem dX5_hope_37 : decode cX5_hope 37 = .ok (.invokestatic 263, 3) := by decide +kernel
theorem dX5_hope_40 : decode cX5_hope 40 = .ok (.goto 6, 3) := by decide +kernel
theorem dX5_hope_43 : decode cX5_hope 43 = .ok (.ldc2_w 255, 3) := by decide +kernel
theorem dX5_hope_46 : decode cX5_hope 46 = .ok (.lreturn, 1) := by decide +kernel
set_option maxRecDepth 20000 in
theorem ggX5_prove_X5_isOne : GoodIn wsX5_prove wsX5_isOne := goodIn_r _ [10, 2, 50, 51, 52, 53, 54, 55, 56, 57, 58, 59, 60, 61, 62, 63, 64, 65, 66, 67, 68, 69, 70, 71, 72, 73, 74, 75, 76, 77, 78] (by decide +kernel) (by decide +kernel)
set_option maxRecDepth 20000 in
theorem gX5_prove_X5_isOne : GoodIn wsX5_prove (wsV RX5 176 RX5 yX5_isOne wsX5_isOne) := goodIn_app (goodIn_of _ (by decide +kernel)) ggX5_prove_X5_isOne
set_option maxRecDepth 20000 in
theorem ggX5_prove_X5_isIn : GoodIn wsX5_prove wsX5_isIn := goodIn_r _ [13] (by decide +kernel) (by decide +kernel)
set_option maxRecDepth 20000 in
theorem gX5_prove_X5_isIn : GoodIn wsX5_prove (va_wsS RX5 64 yX5_isIn wsX5_isIn) := goodIn_app (goodIn_of _ (by decide +kernel)) ggX5_prove_X5_isIn
set_option maxRecDepth 20000 in
theorem ggX5_prove_X5_copyRow : GoodIn wsX5_prove wsX5_copyRow := goodIn_r _ [16] (by decide +kernel) (by decide +kernel)
set_option maxRecDepth 20000 in
theorem gX5_prove_X5_copyRow : GoodIn wsX5_prove (va_wsS RX5 142 yX5_copyRow wsX5_copyRow) := goodIn_app (goodIn_of _ (by decide +kernel)) ggX5_prove_X5_copyRow
set_option maxRecDepth 20000 in
theorem ggX5_prove_X5_goesOn : GoodIn wsX5_prove wsX5_goesOn := goodIn_r _ [20, 2, 21, 22, 23, 24, 25, 9, 26, 27, 28, 29, 30, 31, 32, 33, 34, 35, 36, 37, 38, 39, 40, 41, 42, 43, 44, 45, 50, 51, 52, 53, 54, 55, 56, 57, 58, 59, 60, 61, 62, 63, 64, 65, 66, 67, 68, 69, 70, 71, 72, 73, 74, 75, 76, 77, 78] (by decide +kernel) (by decide +kernel)
set_option maxRecDepth 20000 in
theorem gX5_prove_X5_goesOn : GoodIn wsX5_prove (wsV RX5 198 RX5 yX5_goesOn wsX5_goesOn) := goodIn_app (goodIn_of _ (by decide +kernel)) ggX5_prove_X5_goesOn
set_option maxRecDepth 20000 in
theorem ggX5_prove_X5_its : GoodIn wsX5_prove wsX5_its := goodIn_r _ [30, 2, 50, 51, 52, 53, 54, 55, 56, 57, 58, 59, 60, 61, 62, 63, 64, 65, 66, 67, 68, 69, 70, 71, 72, 73, 74, 75, 76, 77, 78] (by decide +kernel) (by decide +kernel)
set_option maxRecDepth 20000 in
theorem gX5_prove_X5_its : GoodIn wsX5_prove (wsV RX5 167 RX5 yX5_its wsX5_its) := goodIn_app (goodIn_of _ (by decide +kernel)) ggX5_prove_X5_its
set_option maxRecDepth 20000 in
theorem ggX5_prove_X5_clappers : GoodIn wsX5_prove wsX5_clappers := goodIn_r _ [49, 2, 27, 28, 29, 9, 30, 50, 51, 52, 53, 54, 55, 56, 57, 58, 59, 60, 61, 62, 63, 64, 65, 66, 67, 68, 69, 70, 71, 72, 73, 74, 75, 76, 77, 78] (by decide +kernel) (by decide +kernel)
set_option maxRecDepth 20000 in
theorem gX5_prove_X5_clappers : GoodIn wsX5_prove (wsV RX5 192 RX5 yX5_clappers wsX5_clappers) := goodIn_app (goodIn_of _ (by decide +kernel)) ggX5_prove_X5_clappers
theorem dX5_prove_0 : decode cX5_prove 0 = .ok (.aload_n 0, 1) := by decide +kernel
theorem dX5_prove_1 : decode cX5_prove 1 = .ok (.iload_n 1, 1) := by decide +kernel
theorem dX5_prove_2 : decode cX5_prove 2 = .ok (.invokevirtual 176, 3) := by decide +kernel
theorem dX5_prove_5 : decode cX5_prove 5 = .ok (.ifCond .eq 15, 3) := by decide +kernel
theorem dX5_prove_8 : decode cX5_prove 8 = .ok (.iload_n 2, 1) := by decide +kernel
theorem dX5_prove_9 : decode cX5_prove 9 = .ok (.i2l, 1) := by decide +kernel
theorem dX5_prove_10 : decode cX5_prove 10 = .ok (.lconst 1, 1) := by decide +kernel
theorem dX5_prove_11 : decode cX5_prove 11 = .ok (.ldc2_w 267, 3) := by decide +kernel
theorem dX5_prove_14 : decode cX5_prove 14 = .ok (.invokestatic 64, 3) := by decide +kernel
theorem dX5_prove_17 : decode cX5_prove 17 = .ok (.ifCond .ne 5, 3) := by decide +kernel
theorem dX5_prove_20 : decode cX5_prove 20 = .ok (.iconst (-1), 1) := by decide +kernel
theorem dX5_prove_21 : decode cX5_prove 21 = .ok (.ireturn, 1) := by decide +kernel
theorem dX5_prove_22 : decode cX5_prove 22 = .ok (.aload_n 0, 1) := by decide +kernel
theorem dX5_prove_23 : decode cX5_prove 23 = .ok (.getfield 7, 3) := by decide +kernel
theorem dX5_prove_26 : decode cX5_prove 26 = .ok (.aload_n 0, 1) := by decide +kernel
theorem dX5_prove_27 : decode cX5_prove 27 = .ok (.getfield 16, 3) := by decide +kernel
theorem dX5_prove_30 : decode cX5_prove 30 = .ok (.invokestatic 142, 3) := by decide +kernel
theorem dX5_prove_33 : decode cX5_prove 33 = .ok (.iconst 0, 1) := by decide +kernel
theorem dX5_prove_34 : decode cX5_prove 34 = .ok (.istore_n 3, 1) := by decide +kernel
theorem dX5_prove_35 : decode cX5_prove 35 = .ok (.iload_n 3, 1) := by decide +kernel
theorem dX5_prove_36 : decode cX5_prove 36 = .ok (.iload_n 2, 1) := by decide +kernel
theorem dX5_prove_37 : decode cX5_prove 37 = .ok (.if_icmp .ge 57, 3) := by decide +kernel
theorem dX5_prove_40 : decode cX5_prove 40 = .ok (.aload_n 0, 1) := by decide +kernel
theorem dX5_prove_41 : decode cX5_prove 41 = .ok (.invokevirtual 198, 3) := by decide +kernel
theorem dX5_prove_44 : decode cX5_prove 44 = .ok (.aload_n 0, 1) := by decide +kernel
theorem dX5_prove_45 : decode cX5_prove 45 = .ok (.getfield 35, 3) := by decide +kernel
theorem dX5_prove_48 : decode cX5_prove 48 = .ok (.iconst 3, 1) := by decide +kernel
theorem dX5_prove_49 : decode cX5_prove 49 = .ok (.iload_n 3, 1) := by decide +kernel
theorem dX5_prove_50 : decode cX5_prove 50 = .ok (.imul, 1) := by decide +kernel
theorem dX5_prove_51 : decode cX5_prove 51 = .ok (.aload_n 0, 1) := by decide +kernel
theorem dX5_prove_52 : decode cX5_prove 52 = .ok (.iload_n 1, 1) := by decide +kernel
theorem dX5_prove_53 : decode cX5_prove 53 = .ok (.iconst 1, 1) := by decide +kernel
theorem dX5_prove_54 : decode cX5_prove 54 = .ok (.invokevirtual 167, 3) := by decide +kernel
theorem dX5_prove_57 : decode cX5_prove 57 = .ok (.iastore, 1) := by decide +kernel
theorem dX5_prove_58 : decode cX5_prove 58 = .ok (.aload_n 0, 1) := by decide +kernel
theorem dX5_prove_59 : decode cX5_prove 59 = .ok (.getfield 35, 3) := by decide +kernel
theorem dX5_prove_62 : decode cX5_prove 62 = .ok (.iconst 3, 1) := by decide +kernel
theorem dX5_prove_63 : decode cX5_prove 63 = .ok (.iload_n 3, 1) := by decide +kernel
theorem dX5_prove_64 : decode cX5_prove 64 = .ok (.imul, 1) := by decide +kernel
theorem dX5_prove_65 : decode cX5_prove 65 = .ok (.iconst 1, 1) := by decide +kernel
theorem dX5_prove_66 : decode cX5_prove 66 = .ok (.iadd, 1) := by decide +kernel
theorem dX5_prove_67 : decode cX5_prove 67 = .ok (.aload_n 0, 1) := by decide +kernel
theorem dX5_prove_68 : decode cX5_prove 68 = .ok (.iload_n 1, 1) := by decide +kernel
theorem dX5_prove_69 : decode cX5_prove 69 = .ok (.iconst 4, 1) := by decide +kernel
theorem dX5_prove_70 : decode cX5_prove 70 = .ok (.invokevirtual 167, 3) := by decide +kernel
theorem dX5_prove_73 : decode cX5_prove 73 = .ok (.iastore, 1) := by decide +kernel
theorem dX5_prove_74 : decode cX5_prove 74 = .ok (.aload_n 0, 1) := by decide +kernel
theorem dX5_prove_75 : decode cX5_prove 75 = .ok (.getfield 35, 3) := by decide +kernel
theorem dX5_prove_78 : decode cX5_prove 78 = .ok (.iconst 3, 1) := by decide +kernel
theorem dX5_prove_79 : decode cX5_prove 79 = .ok (.iload_n 3, 1) := by decide +kernel
theorem dX5_prove_80 : decode cX5_prove 80 = .ok (.imul, 1) := by decide +kernel
theorem dX5_prove_81 : decode cX5_prove 81 = .ok (.iconst 2, 1) := by decide +kernel
theorem dX5_prove_82 : decode cX5_prove 82 = .ok (.iadd, 1) := by decide +kernel
theorem dX5_prove_83 : decode cX5_prove 83 = .ok (.aload_n 0, 1) := by decide +kernel
theorem dX5_prove_84 : decode cX5_prove 84 = .ok (.invokevirtual 192, 3) := by decide +kernel
theorem dX5_prove_87 : decode cX5_prove 87 = .ok (.iastore, 1) := by decide +kernel
theorem dX5_prove_88 : decode cX5_prove 88 = .ok (.iinc 3 1, 3) := by decide +kernel
theorem dX5_prove_91 : decode cX5_prove 91 = .ok (.goto (-56), 3) := by decide +kernel
theorem dX5_prove_94 : decode cX5_prove 94 = .ok (.aload_n 0, 1) := by decide +kernel
theorem dX5_prove_95 : decode cX5_prove 95 = .ok (.getfield 16, 3) := by decide +kernel
theorem dX5_prove_98 : decode cX5_prove 98 = .ok (.aload_n 0, 1) := by decide +kernel
theorem dX5_prove_99 : decode cX5_prove 99 = .ok (.getfield 7, 3) := by decide +kernel
theorem dX5_prove_102 : decode cX5_prove 102 = .ok (.invokestatic 142, 3) := by decide +kernel
theorem dX5_prove_105 : decode cX5_prove 105 = .ok (.aload_n 0, 1) := by decide +kernel
theorem dX5_prove_106 : decode cX5_prove 106 = .ok (.iload_n 2, 1) := by decide +kernel
theorem dX5_prove_107 : decode cX5_prove 107 = .ok (.putfield 149, 3) := by decide +kernel
theorem dX5_prove_110 : decode cX5_prove 110 = .ok (.iload_n 2, 1) := by decide +kernel
theorem dX5_prove_111 : decode cX5_prove 111 = .ok (.ireturn, 1) := by decide +kernel
set_option maxRecDepth 20000 in
theorem ggX5_isRow_X5_isIn : GoodIn wsX5_isRow wsX5_isIn := goodIn_r _ [6] (by decide +kernel) (by decide +kernel)
set_option maxRecDepth 20000 in
theorem gX5_isRow_X5_isIn : GoodIn wsX5_isRow (va_wsS RX5 64 yX5_isIn wsX5_isIn) := goodIn_app (goodIn_of _ (by decide +kernel)) ggX5_isRow_X5_isIn
theorem dX5_isRow_0 : decode cX5_isRow 0 = .ok (.iload_n 1, 1) := by decide +kernel
theorem dX5_isRow_1 : decode cX5_isRow 1 = .ok (.i2l, 1) := by decide +kernel
theorem dX5_isRow_2 : decode cX5_isRow 2 = .ok (.lconst 0, 1) := by decide +kernel
theorem dX5_isRow_3 : decode cX5_isRow 3 = .ok (.aload_n 0, 1) := by decide +kernel
theorem dX5_isRow_4 : decode cX5_isRow 4 = .ok (.getfield 149, 3) := by decide +kernel
theorem dX5_isRow_7 : decode cX5_isRow 7 = .ok (.iconst 1, 1) := by decide +kernel
theorem dX5_isRow_8 : decode cX5_isRow 8 = .ok (.isub, 1) := by decide +kernel
theorem dX5_isRow_9 : decode cX5_isRow 9 = .ok (.i2l, 1) := by decide +kernel
theorem dX5_isRow_10 : decode cX5_isRow 10 = .ok (.invokestatic 64, 3) := by decide +kernel
theorem dX5_isRow_13 : decode cX5_isRow 13 = .ok (.ifCond .eq 19, 3) := by decide +kernel
theorem dX5_isRow_16 : decode cX5_isRow 16 = .ok (.iload_n 2, 1) := by decide +kernel
theorem dX5_isRow_17 : decode cX5_isRow 17 = .ok (.i2l, 1) := by decide +kernel
theorem dX5_isRow_18 : decode cX5_isRow 18 = .ok (.lconst 0, 1) := by decide +kernel
theorem dX5_isRow_19 : decode cX5_isRow 19 = .ok (.ldc2_w 181, 3) := by decide +kernel
theorem dX5_isRow_22 : decode cX5_isRow 22 = .ok (.invokestatic 64, 3) := by decide +kernel
theorem dX5_isRow_25 : decode cX5_isRow 25 = .ok (.ifCond .eq 7, 3) := by decide +kernel
theorem dX5_isRow_28 : decode cX5_isRow 28 = .ok (.iconst 1, 1) := by decide +kernel
theorem dX5_isRow_29 : decode cX5_isRow 29 = .ok (.goto 4, 3) := by decide +kernel
theorem dX5_isRow_32 : decode cX5_isRow 32 = .ok (.iconst 0, 1) := by decide +kernel
theorem dX5_isRow_33 : decode cX5_isRow 33 = .ok (.ireturn, 1) := by decide +kernel
set_option maxRecDepth 20000 in
theorem ggX5_row_X5_isRow : GoodIn wsX5_row wsX5_isRow := goodIn_r _ [6, 7, 8, 9, 10, 5, 11, 12, 13, 14, 15, 16, 17, 18, 19, 20, 21, 22, 23, 24, 25, 26, 27, 28, 29, 30, 31, 32, 33, 34, 35, 36, 37, 38, 39, 40] (by decide +kernel) (by decide +kernel)
set_option maxRecDepth 20000 in
theorem gX5_row_X5_isRow : GoodIn wsX5_row (wsV RX5 269 RX5 yX5_isRow wsX5_isRow) := goodIn_app (goodIn_of _ (by decide +kernel)) ggX5_row_X5_isRow
theorem dX5_row_0 : decode cX5_row 0 = .ok (.aload_n 0, 1) := by decide +kernel
theorem dX5_row_1 : decode cX5_row 1 = .ok (.iload_n 1, 1) := by decide +kernel
theorem dX5_row_2 : decode cX5_row 2 = .ok (.iload_n 2, 1) := by decide +kernel
theorem dX5_row_3 : decode cX5_row 3 = .ok (.invokevirtual 269, 3) := by decide +kernel
theorem dX5_row_6 : decode cX5_row 6 = .ok (.ifCond .eq 16, 3) := by decide +kernel
theorem dX5_row_9 : decode cX5_row 9 = .ok (.aload_n 0, 1) := by decide +kernel
theorem dX5_row_10 : decode cX5_row 10 = .ok (.getfield 35, 3) := by decide +kernel
theorem dX5_row_13 : decode cX5_row 13 = .ok (.iconst 3, 1) := by decide +kernel
theorem dX5_row_14 : decode cX5_row 14 = .ok (.iload_n 1, 1) := by decide +kernel
theorem dX5_row_15 : decode cX5_row 15 = .ok (.imul, 1) := by decide +kernel
theorem dX5_row_16 : decode cX5_row 16 = .ok (.iload_n 2, 1) := by decide +kernel
theorem dX5_row_17 : decode cX5_row 17 = .ok (.iadd, 1) := by decide +kernel
theorem dX5_row_18 : decode cX5_row 18 = .ok (.iaload, 1) := by decide +kernel
theorem dX5_row_19 : decode cX5_row 19 = .ok (.goto 5, 3) := by decide +kernel
theorem dX5_row_22 : decode cX5_row 22 = .ok (.bipush (-9), 2) := by decide +kernel
theorem dX5_row_24 : decode cX5_row 24 = .ok (.ireturn, 1) := by decide +kernel
set_option maxRecDepth 20000 in
theorem ggX5_alterRow_X5_isRow : GoodIn wsX5_alterRow wsX5_isRow := goodIn_r _ [6, 7, 8, 9, 10, 5, 11, 12, 13, 14, 15, 16, 17, 18, 19, 20, 21, 22, 23, 24, 25, 26, 27, 28, 29, 30, 31, 32, 33, 34, 35, 36, 37, 38, 39, 40] (by decide +kernel) (by decide +kernel)
set_option maxRecDepth 20000 in
theorem gX5_alterRow_X5_isRow : GoodIn wsX5_alterRow (wsV RX5 269 RX5 yX5_isRow wsX5_isRow) := goodIn_app (goodIn_of _ (by decide +kernel)) ggX5_alterRow_X5_isRow
theorem dX5_alterRow_0 : decode cX5_alterRow 0 = .ok (.aload_n 0, 1) := by decide +kernel
theorem dX5_alterRow_1 : decode cX5_alterRow 1 = .ok (.iload_n 1, 1) := by decide +kernel
theorem dX5_alterRow_2 : decode cX5_alterRow 2 = .ok (.iload_n 2, 1) := by decide +kernel
theorem dX5_alterRow_3 : decode cX5_alterRow 3 = .ok (.invokevirtual 269, 3) := by decide +kernel
theorem dX5_alterRow_6 : decode cX5_alterRow 6 = .ok (.ifCond .ne 6, 3) := by decide +kernel
theorem dX5_alterRow_9 : decode cX5_alterRow 9 = .ok (.bipush (-9), 2) := by decide +kernel
theorem dX5_alterRow_11 : decode cX5_alterRow 11 = .ok (.ireturn, 1) := by decide +kernel
theorem dX5_alterRow_12 : decode cX5_alterRow 12 = .ok (.aload_n 0, 1) := by decide +kernel
theorem dX5_alterRow_13 : decode cX5_alterRow 13 = .ok (.getfield 35, 3) := by decide +kernel
theorem dX5_alterRow_16 : decode cX5_alterRow 16 = .ok (.iconst 3, 1) := by decide +kernel
theorem dX5_alterRow_17 : decode cX5_alterRow 17 = .ok (.iload_n 1, 1) := by decide +kernel
theorem dX5_alterRow_18 : decode cX5_alterRow 18 = .ok (.imul, 1) := by decide +kernel
theorem dX5_alterRow_19 : decode cX5_alterRow 19 = .ok (.iload_n 2, 1) := by decide +kernel
theorem dX5_alterRow_20 : decode cX5_alterRow 20 = .ok (.iadd, 1) := by decide +kernel
theorem dX5_alterRow_21 : decode cX5_alterRow 21 = .ok (.iaload, 1) := by decide +kernel
theorem dX5_alterRow_22 : decode cX5_alterRow 22 = .ok (.istore 4, 2) := by decide +kernel
theorem dX5_alterRow_24 : decode cX5_alterRow 24 = .ok (.aload_n 0, 1) := by decide +kernel
theorem dX5_alterRow_25 : decode cX5_alterRow 25 = .ok (.getfield 35, 3) := by decide +kernel
theorem dX5_alterRow_28 : decode cX5_alterRow 28 = .ok (.iconst 3, 1) := by decide +kernel
theorem dX5_alterRow_29 : decode cX5_alterRow 29 = .ok (.iload_n 1, 1) := by decide +kernel
theorem dX5_alterRow_30 : decode cX5_alterRow 30 = .ok (.imul, 1) := by decide +kernel
theorem dX5_alterRow_31 : decode cX5_alterRow 31 = .ok (.iload_n 2, 1) := by decide +kernel
theorem dX5_alterRow_32 : decode cX5_alterRow 32 = .ok (.iadd, 1) := by decide +kernel
theorem dX5_alterRow_33 : decode cX5_alterRow 33 = .ok (.iload_n 3, 1) := by decide +kernel
theorem dX5_alterRow_34 : decode cX5_alterRow 34 = .ok (.iastore, 1) := by decide +kernel
theorem dX5_alterRow_35 : decode cX5_alterRow 35 = .ok (.iload 4, 2) := by decide +kernel
theorem dX5_alterRow_37 : decode cX5_alterRow 37 = .ok (.ireturn, 1) := by decide +kernel
set_option maxRecDepth 20000 in
theorem ggX5_judge_X5_isOne : GoodIn wsX5_judge wsX5_isOne := goodIn_r _ [9, 1, 46, 47, 48, 49, 50, 51, 52, 53, 54, 55, 56, 57, 58, 59, 60, 61, 62, 63, 64, 65, 66, 67, 68, 69, 70, 71, 72, 73, 74] (by decide +kernel) (by decide +kernel)
set_option maxRecDepth 20000 in
theorem gX5_judge_X5_isOne : GoodIn wsX5_judge (wsV RX5 176 RX5 yX5_isOne wsX5_isOne) := goodIn_app (goodIn_of _ (by decide +kernel)) ggX5_judge_X5_isOne
set_option maxRecDepth 20000 in
theorem ggX5_judge_X5_copyRow : GoodIn wsX5_judge wsX5_copyRow := goodIn_r _ [12] (by decide +kernel) (by decide +kernel)
set_option maxRecDepth 20000 in
theorem gX5_judge_X5_copyRow : GoodIn wsX5_judge (va_wsS RX5 142 yX5_copyRow wsX5_copyRow) := goodIn_app (goodIn_of _ (by decide +kernel)) ggX5_judge_X5_copyRow
set_option maxRecDepth 20000 in
theorem ggX5_judge_X5_goesOn : GoodIn wsX5_judge wsX5_goesOn := goodIn_r _ [16, 1, 17, 18, 19, 20, 21, 8, 22, 23, 24, 25, 26, 27, 28, 29, 30, 31, 32, 33, 34, 35, 36, 37, 38, 39, 40, 41, 46, 47, 48, 49, 50, 51, 52, 53, 54, 55, 56, 57, 58, 59, 60, 61, 62, 63, 64, 65, 66, 67, 68, 69, 70, 71, 72, 73, 74] (by decide +kernel) (by decide +kernel)
set_option maxRecDepth 20000 in
theorem gX5_judge_X5_goesOn : GoodIn wsX5_judge (wsV RX5 198 RX5 yX5_goesOn wsX5_goesOn) := goodIn_app (goodIn_of _ (by decide +kernel)) ggX5_judge_X5_goesOn
set_option maxRecDepth 20000 in
theorem ggX5_judge_X5_its : GoodIn wsX5_judge wsX5_its := goodIn_r _ [26, 1, 46, 47, 48, 49, 50, 51, 52, 53, 54, 55, 56, 57, 58, 59, 60, 61, 62, 63, 64, 65, 66, 67, 68, 69, 70, 71, 72, 73, 74] (by decide +kernel) (by decide +kernel)
set_option maxRecDepth 20000 in
theorem gX5_judge_X5_its : GoodIn wsX5_judge (wsV RX5 167 RX5 yX5_its wsX5_its) := goodIn_app (goodIn_of _ (by decide +kernel)) ggX5_judge_X5_its
set_option maxRecDepth 20000 in
theorem ggX5_judge_X5_clappers : GoodIn wsX5_judge wsX5_clappers := goodIn_r _ [45, 1, 23, 24, 25, 8, 26, 46, 47, 48, 49, 50, 51, 52, 53, 54, 55, 56, 57, 58, 59, 60, 61, 62, 63, 64, 65, 66, 67, 68, 69, 70, 71, 72, 73, 74] (by decide +kernel) (by decide +kernel)
set_option maxRecDepth 20000 in
theorem gX5_judge_X5_clappers : GoodIn wsX5_judge (wsV RX5 192 RX5 yX5_clappers wsX5_clappers) := goodIn_app (goodIn_of _ (by decide +kernel)) ggX5_judge_X5_clappers
theorem dX5_judge_0 : decode cX5_judge 0 = .ok (.aload_n 0, 1) := by decide +kernel
theorem dX5_judge_1 : decode cX5_judge 1 = .ok (.iload_n 1, 1) := by decide +kernel
theorem dX5_judge_2 : decode cX5_judge 2 = .ok (.invokevirtual 176, 3) := by decide +kernel
theorem dX5_judge_5 : decode cX5_judge 5 = .ok (.ifCond .ne 5, 3) := by decide +kernel
theorem dX5_judge_8 : decode cX5_judge 8 = .ok (.iconst (-1), 1) := by decide +kernel
theorem dX5_judge_9 : decode cX5_judge 9 = .ok (.ireturn, 1) := by decide +kernel
theorem dX5_judge_10 : decode cX5_judge 10 = .ok (.aload_n 0, 1) := by decide +kernel
theorem dX5_judge_11 : decode cX5_judge 11 = .ok (.getfield 7, 3) := by decide +kernel
theorem dX5_judge_14 : decode cX5_judge 14 = .ok (.aload_n 0, 1) := by decide +kernel
theorem dX5_judge_15 : decode cX5_judge 15 = .ok (.getfield 16, 3) := by decide +kernel
theorem dX5_judge_18 : decode cX5_judge 18 = .ok (.invokestatic 142, 3) := by decide +kernel
theorem dX5_judge_21 : decode cX5_judge 21 = .ok (.iconst 0, 1) := by decide +kernel
theorem dX5_judge_22 : decode cX5_judge 22 = .ok (.istore_n 2, 1) := by decide +kernel
theorem dX5_judge_23 : decode cX5_judge 23 = .ok (.iconst 1, 1) := by decide +kernel
theorem dX5_judge_24 : decode cX5_judge 24 = .ok (.istore_n 3, 1) := by decide +kernel
theorem dX5_judge_25 : decode cX5_judge 25 = .ok (.iload_n 2, 1) := by decide +kernel
theorem dX5_judge_26 : decode cX5_judge 26 = .ok (.aload_n 0, 1) := by decide +kernel
theorem dX5_judge_27 : decode cX5_judge 27 = .ok (.getfield 149, 3) := by decide +kernel
theorem dX5_judge_30 : decode cX5_judge 30 = .ok (.if_icmp .ge 76, 3) := by decide +kernel
theorem dX5_judge_33 : decode cX5_judge 33 = .ok (.iload_n 3, 1) := by decide +kernel
theorem dX5_judge_34 : decode cX5_judge 34 = .ok (.ifCond .eq 72, 3) := by decide +kernel
theorem dX5_judge_37 : decode cX5_judge 37 = .ok (.aload_n 0, 1) := by decide +kernel
theorem dX5_judge_38 : decode cX5_judge 38 = .ok (.invokevirtual 198, 3) := by decide +kernel
theorem dX5_judge_41 : decode cX5_judge 41 = .ok (.aload_n 0, 1) := by decide +kernel
theorem dX5_judge_42 : decode cX5_judge 42 = .ok (.getfield 35, 3) := by decide +kernel
theorem dX5_judge_45 : decode cX5_judge 45 = .ok (.iconst 3, 1) := by decide +kernel
theorem dX5_judge_46 : decode cX5_judge 46 = .ok (.iload_n 2, 1) := by decide +kernel
theorem dX5_judge_47 : decode cX5_judge 47 = .ok (.imul, 1) := by decide +kernel
theorem dX5_judge_48 : decode cX5_judge 48 = .ok (.iaload, 1) := by decide +kernel
theorem dX5_judge_49 : decode cX5_judge 49 = .ok (.aload_n 0, 1) := by decide +kernel
theorem dX5_judge_50 : decode cX5_judge 50 = .ok (.iload_n 1, 1) := by decide +kernel
theorem dX5_judge_51 : decode cX5_judge 51 = .ok (.iconst 1, 1) := by decide +kernel
theorem dX5_judge_52 : decode cX5_judge 52 = .ok (.invokevirtual 167, 3) := by decide +kernel
theorem dX5_judge_55 : decode cX5_judge 55 = .ok (.if_icmp .ne 43, 3) := by decide +kernel
theorem dX5_judge_58 : decode cX5_judge 58 = .ok (.aload_n 0, 1) := by decide +kernel
theorem dX5_judge_59 : decode cX5_judge 59 = .ok (.getfield 35, 3) := by decide +kernel
theorem dX5_judge_62 : decode cX5_judge 62 = .ok (.iconst 3, 1) := by decide +kernel
theorem dX5_judge_63 : decode cX5_judge 63 = .ok (.iload_n 2, 1) := by decide +kernel
theorem dX5_judge_64 : decode cX5_judge 64 = .ok (.imul, 1) := by decide +kernel
theorem dX5_judge_65 : decode cX5_judge 65 = .ok (.iconst 1, 1) := by decide +kernel
theorem dX5_judge_66 : decode cX5_judge 66 = .ok (.iadd, 1) := by decide +kernel
theorem dX5_judge_67 : decode cX5_judge 67 = .ok (.iaload, 1) := by decide +kernel
theorem dX5_judge_68 : decode cX5_judge 68 = .ok (.aload_n 0, 1) := by decide +kernel
theorem dX5_judge_69 : decode cX5_judge 69 = .ok (.iload_n 1, 1) := by decide +kernel
theorem dX5_judge_70 : decode cX5_judge 70 = .ok (.iconst 4, 1) := by decide +kernel
theorem dX5_judge_71 : decode cX5_judge 71 = .ok (.invokevirtual 167, 3) := by decide +kernel
theorem dX5_judge_74 : decode cX5_judge 74 = .ok (.if_icmp .ne 24, 3) := by decide +kernel
theorem dX5_judge_77 : decode cX5_judge 77 = .ok (.aload_n 0, 1) := by decide +kernel
theorem dX5_judge_78 : decode cX5_judge 78 = .ok (.getfield 35, 3) := by decide +kernel
theorem dX5_judge_81 : decode cX5_judge 81 = .ok (.iconst 3, 1) := by decide +kernel
theorem dX5_judge_82 : decode cX5_judge 82 = .ok (.iload_n 2, 1) := by decide +kernel
theorem dX5_judge_83 : decode cX5_judge 83 = .ok (.imul, 1) := by decide +kernel
theorem dX5_judge_84 : decode cX5_judge 84 = .ok (.iconst 2, 1) := by decide +kernel
theorem dX5_judge_85 : decode cX5_judge 85 = .ok (.iadd, 1) := by decide +kernel
theorem dX5_judge_86 : decode cX5_judge 86 = .ok (.iaload, 1) := by decide +kernel
theorem dX5_judge_87 : decode cX5_judge 87 = .ok (.aload_n 0, 1) := by decide +kernel
theorem dX5_judge_88 : decode cX5_judge 88 = .ok (.invokevirtual 192, 3) := by decide +kernel
theorem dX5_judge_91 : decode cX5_judge 91 = .ok (.if_icmp .ne 7, 3) := by decide +kernel
theorem dX5_judge_94 : decode cX5_judge 94 = .ok (.iconst 1, 1) := by decide +kernel
theorem dX5_judge_95 : decode cX5_judge 95 = .ok (.goto 4, 3) := by decide +kernel
theorem dX5_judge_98 : decode cX5_judge 98 = .ok (.iconst 0, 1) := by decide +kernel
theorem dX5_judge_99 : decode cX5_judge 99 = .ok (.istore_n 3, 1) := by decide +kernel
theorem dX5_judge_100 : decode cX5_judge 100 = .ok (.iinc 2 1, 3) := by decide +kernel
theorem dX5_judge_103 : decode cX5_judge 103 = .ok (.goto (-78), 3) := by decide +kernel
theorem dX5_judge_106 : decode cX5_judge 106 = .ok (.aload_n 0, 1) := by decide +kernel
theorem dX5_judge_107 : decode cX5_judge 107 = .ok (.getfield 16, 3) := by decide +kernel
theorem dX5_judge_110 : decode cX5_judge 110 = .ok (.aload_n 0, 1) := by decide +kernel
theorem dX5_judge_111 : decode cX5_judge 111 = .ok (.getfield 7, 3) := by decide +kernel
theorem dX5_judge_114 : decode cX5_judge 114 = .ok (.invokestatic 142, 3) := by decide +kernel
theorem dX5_judge_117 : decode cX5_judge 117 = .ok (.iload_n 3, 1) := by decide +kernel
theorem dX5_judge_118 : decode cX5_judge 118 = .ok (.ifCond .eq 7, 3) := by decide +kernel
theorem dX5_judge_121 : decode cX5_judge 121 = .ok (.iconst 0, 1) := by decide +kernel
theorem dX5_judge_122 : decode cX5_judge 122 = .ok (.goto 4, 3) := by decide +kernel
theorem dX5_judge_125 : decode cX5_judge 125 = .ok (.iload_n 2, 1) := by decide +kernel
theorem dX5_judge_126 : decode cX5_judge 126 = .ok (.ireturn, 1) := by decide +kernel
set_option maxRecDepth 20000 in
theorem ggX5_isSheet_X5_isIn : GoodIn wsX5_isSheet wsX5_isIn := goodIn_r _ [5] (by decide +kernel) (by decide +kernel)
set_option maxRecDepth 20000 in
theorem gX5_isSheet_X5_isIn : GoodIn wsX5_isSheet (va_wsS RX5 64 yX5_isIn wsX5_isIn) := goodIn_app (goodIn_of _ (by decide +kernel)) ggX5_isSheet_X5_isIn
theorem dX5_isSheet_0 : decode cX5_isSheet 0 = .ok (.iload_n 0, 1) := by decide +kernel
theorem dX5_isSheet_1 : decode cX5_isSheet 1 = .ok (.i2l, 1) := by decide +kernel
theorem dX5_isSheet_2 : decode cX5_isSheet 2 = .ok (.lconst 0, 1) := by decide +kernel
theorem dX5_isSheet_3 : decode cX5_isSheet 3 = .ok (.ldc2_w 152, 3) := by decide +kernel
theorem dX5_isSheet_6 : decode cX5_isSheet 6 = .ok (.invokestatic 64, 3) := by decide +kernel
theorem dX5_isSheet_9 : decode cX5_isSheet 9 = .ok (.ireturn, 1) := by decide +kernel
set_option maxRecDepth 20000 in
theorem ggX5_isShelf_X5_isIn : GoodIn wsX5_isShelf wsX5_isIn := goodIn_r _ [5] (by decide +kernel) (by decide +kernel)
set_option maxRecDepth 20000 in
theorem gX5_isShelf_X5_isIn : GoodIn wsX5_isShelf (va_wsS RX5 64 yX5_isIn wsX5_isIn) := goodIn_app (goodIn_of _ (by decide +kernel)) ggX5_isShelf_X5_isIn
theorem dX5_isShelf_0 : decode cX5_isShelf 0 = .ok (.iload_n 0, 1) := by decide +kernel
theorem dX5_isShelf_1 : decode cX5_isShelf 1 = .ok (.i2l, 1) := by decide +kernel
theorem dX5_isShelf_2 : decode cX5_isShelf 2 = .ok (.lconst 0, 1) := by decide +kernel
theorem dX5_isShelf_3 : decode cX5_isShelf 3 = .ok (.ldc2_w 152, 3) := by decide +kernel
theorem dX5_isShelf_6 : decode cX5_isShelf 6 = .ok (.invokestatic 64, 3) := by decide +kernel
theorem dX5_isShelf_9 : decode cX5_isShelf 9 = .ok (.ireturn, 1) := by decide +kernel
set_option maxRecDepth 20000 in
theorem ggX5_sheet_X5_isSheet : GoodIn wsX5_sheet wsX5_isSheet := goodIn_r _ [9, 2, 10, 11, 8, 12] (by decide +kernel) (by decide +kernel)
set_option maxRecDepth 20000 in
theorem gX5_sheet_X5_isSheet : GoodIn wsX5_sheet (va_wsS RX5 249 yX5_isSheet wsX5_isSheet) := goodIn_app (goodIn_of _ (by decide +kernel)) ggX5_sheet_X5_isSheet
set_option maxRecDepth 20000 in
theorem ggX5_sheet_X5_isIn : GoodIn wsX5_sheet wsX5_isIn := goodIn_r _ [12] (by decide +kernel) (by decide +kernel)
set_option maxRecDepth 20000 in
theorem gX5_sheet_X5_isIn : GoodIn wsX5_sheet (va_wsS RX5 64 yX5_isIn wsX5_isIn) := goodIn_app (goodIn_of _ (by decide +kernel)) ggX5_sheet_X5_isIn
theorem dX5_sheet_0 : decode cX5_sheet 0 = .ok (.iload_n 1, 1) := by decide +kernel
theorem dX5_sheet_1 : decode cX5_sheet 1 = .ok (.invokestatic 249, 3) := by decide +kernel
theorem dX5_sheet_4 : decode cX5_sheet 4 = .ok (.ifCond .eq 27, 3) := by decide +kernel
theorem dX5_sheet_7 : decode cX5_sheet 7 = .ok (.iload_n 2, 1) := by decide +kernel
theorem dX5_sheet_8 : decode cX5_sheet 8 = .ok (.i2l, 1) := by decide +kernel
theorem dX5_sheet_9 : decode cX5_sheet 9 = .ok (.ldc2_w 255, 3) := by decide +kernel
theorem dX5_sheet_12 : decode cX5_sheet 12 = .ok (.ldc2_w 152, 3) := by decide +kernel
theorem dX5_sheet_15 : decode cX5_sheet 15 = .ok (.invokestatic 64, 3) := by decide +kernel
theorem dX5_sheet_18 : decode cX5_sheet 18 = .ok (.ifCond .eq 13, 3) := by decide +kernel
theorem dX5_sheet_21 : decode cX5_sheet 21 = .ok (.iload_n 2, 1) := by decide +kernel
theorem dX5_sheet_22 : decode cX5_sheet 22 = .ok (.ifCond .lt 11, 3) := by decide +kernel
theorem dX5_sheet_25 : decode cX5_sheet 25 = .ok (.iload_n 3, 1) := by decide +kernel
theorem dX5_sheet_26 : decode cX5_sheet 26 = .ok (.bipush 40, 2) := by decide +kernel
theorem dX5_sheet_28 : decode cX5_sheet 28 = .ok (.if_icmp .le 5, 3) := by decide +kernel
theorem dX5_sheet_31 : decode cX5_sheet 31 = .ok (.iconst (-1), 1) := by decide +kernel
theorem dX5_sheet_32 : decode cX5_sheet 32 = .ok (.ireturn, 1) := by decide +kernel
theorem dX5_sheet_33 : decode cX5_sheet 33 = .ok (.iload_n 2, 1) := by decide +kernel
theorem dX5_sheet_34 : decode cX5_sheet 34 = .ok (.ifCond .lt 10, 3) := by decide +kernel
theorem dX5_sheet_37 : decode cX5_sheet 37 = .ok (.iload_n 3, 1) := by decide +kernel
theorem dX5_sheet_38 : decode cX5_sheet 38 = .ok (.ifCond .ge 6, 3) := by decide +kernel
theorem dX5_sheet_41 : decode cX5_sheet 41 = .ok (.bipush (-14), 2) := by decide +kernel
theorem dX5_sheet_43 : decode cX5_sheet 43 = .ok (.ireturn, 1) := by decide +kernel
theorem dX5_sheet_44 : decode cX5_sheet 44 = .ok (.aload_n 0, 1) := by decide +kernel
theorem dX5_sheet_45 : decode cX5_sheet 45 = .ok (.getfield 38, 3) := by decide +kernel
theorem dX5_sheet_48 : decode cX5_sheet 48 = .ok (.iload_n 1, 1) := by decide +kernel
theorem dX5_sheet_49 : decode cX5_sheet 49 = .ok (.iload_n 2, 1) := by decide +kernel
theorem dX5_sheet_50 : decode cX5_sheet 50 = .ok (.iastore, 1) := by decide +kernel
theorem dX5_sheet_51 : decode cX5_sheet 51 = .ok (.aload_n 0, 1) := by decide +kernel
theorem dX5_sheet_52 : decode cX5_sheet 52 = .ok (.getfield 41, 3) := by decide +kernel
theorem dX5_sheet_55 : decode cX5_sheet 55 = .ok (.iload_n 1, 1) := by decide +kernel
theorem dX5_sheet_56 : decode cX5_sheet 56 = .ok (.iload_n 2, 1) := by decide +kernel
theorem dX5_sheet_57 : decode cX5_sheet 57 = .ok (.ifCond .ge 7, 3) := by decide +kernel
theorem dX5_sheet_60 : decode cX5_sheet 60 = .ok (.iconst 0, 1) := by decide +kernel
theorem dX5_sheet_61 : decode cX5_sheet 61 = .ok (.goto 4, 3) := by decide +kernel
theorem dX5_sheet_64 : decode cX5_sheet 64 = .ok (.iload_n 3, 1) := by decide +kernel
theorem dX5_sheet_65 : decode cX5_sheet 65 = .ok (.iastore, 1) := by decide +kernel
theorem dX5_sheet_66 : decode cX5_sheet 66 = .ok (.iconst 0, 1) := by decide +kernel
theorem dX5_sheet_67 : decode cX5_sheet 67 = .ok (.istore 4, 2) := by decide +kernel
theorem dX5_sheet_69 : decode cX5_sheet 69 = .ok (.iload 4, 2) := by decide +kernel
theorem dX5_sheet_71 : decode cX5_sheet 71 = .ok (.bipush 40, 2) := by decide +kernel
theorem dX5_sheet_73 : decode cX5_sheet 73 = .ok (.if_icmp .ge 22, 3) := by decide +kernel
theorem dX5_sheet_76 : decode cX5_sheet 76 = .ok (.aload_n 0, 1) := by decide +kernel
theorem dX5_sheet_77 : decode cX5_sheet 77 = .ok (.getfield 44, 3) := by decide +kernel
theorem dX5_sheet_80 : decode cX5_sheet 80 = .ok (.bipush 40, 2) := by decide +kernel
theorem dX5_sheet_82 : decode cX5_sheet 82 = .ok (.iload_n 1, 1) := by decide +kernel
theorem dX5_sheet_83 : decode cX5_sheet 83 = .ok (.imul, 1) := by decide +kernel
theorem dX5_sheet_84 : decode cX5_sheet 84 = .ok (.iload 4, 2) := by decide +kernel
theorem dX5_sheet_86 : decode cX5_sheet 86 = .ok (.iadd, 1) := by decide +kernel
theorem dX5_sheet_87 : decode cX5_sheet 87 = .ok (.iconst 0, 1) := by decide +kernel
theorem dX5_sheet_88 : decode cX5_sheet 88 = .ok (.iastore, 1) := by decide +kernel
theorem dX5_sheet_89 : decode cX5_sheet 89 = .ok (.iinc 4 1, 3) := by decide +kernel
theorem dX5_sheet_92 : decode cX5_sheet 92 = .ok (.goto (-23), 3) := by decide +kernel
theorem dX5_sheet_95 : decode cX5_sheet 95 = .ok (.iconst 1, 1) := by decide +kernel
theorem dX5_sheet_96 : decode cX5_sheet 96 = .ok (.ireturn, 1) := by decide +kernel
set_option maxRecDepth 20000 in
theorem ggX5_put_X5_isSheet : GoodIn wsX5_put wsX5_isSheet := goodIn_r _ [7, 8, 9, 10, 6, 11] (by decide +kernel) (by decide +kernel)
set_option maxRecDepth 20000 in
theorem gX5_put_X5_isSheet : GoodIn wsX5_put (va_wsS RX5 249 yX5_isSheet wsX5_isSheet) := goodIn_app (goodIn_of _ (by decide +kernel)) ggX5_put_X5_isSheet
set_option maxRecDepth 20000 in
theorem ggX5_put_X5_isIn : GoodIn wsX5_put wsX5_isIn := goodIn_r _ [11] (by decide +kernel) (by decide +kernel)
set_option maxRecDepth 20000 in
theorem gX5_put_X5_isIn : GoodIn wsX5_put (va_wsS RX5 64 yX5_isIn wsX5_isIn) := goodIn_app (goodIn_of _ (by decide +kernel)) ggX5_put_X5_isIn
theorem dX5_put_0 : decode cX5_put 0 = .ok (.iload_n 1, 1) := by decide +kernel
theorem dX5_put_1 : decode cX5_put 1 = .ok (.invokestatic 249, 3) := by decide +kernel
theorem dX5_put_4 : decode cX5_put 4 = .ok (.ifCond .ne 5, 3) := by decide +kernel
theorem dX5_put_7 : decode cX5_put 7 = .ok (.iconst (-1), 1) := by decide +kernel
theorem dX5_put_8 : decode cX5_put 8 = .ok (.ireturn, 1) := by decide +kernel
theorem dX5_put_9 : decode cX5_put 9 = .ok (.aload_n 0, 1) := by decide +kernel
theorem dX5_put_10 : decode cX5_put 10 = .ok (.getfield 38, 3) := by decide +kernel
theorem dX5_put_13 : decode cX5_put 13 = .ok (.iload_n 1, 1) := by decide +kernel
theorem dX5_put_14 : decode cX5_put 14 = .ok (.iaload, 1) := by decide +kernel
theorem dX5_put_15 : decode cX5_put 15 = .ok (.ifCond .ge 6, 3) := by decide +kernel
theorem dX5_put_18 : decode cX5_put 18 = .ok (.bipush (-11), 2) := by decide +kernel
theorem dX5_put_20 : decode cX5_put 20 = .ok (.ireturn, 1) := by decide +kernel
theorem dX5_put_21 : decode cX5_put 21 = .ok (.iload_n 2, 1) := by decide +kernel
theorem dX5_put_22 : decode cX5_put 22 = .ok (.i2l, 1) := by decide +kernel
theorem dX5_put_23 : decode cX5_put 23 = .ok (.lconst 0, 1) := by decide +kernel
theorem dX5_put_24 : decode cX5_put 24 = .ok (.aload_n 0, 1) := by decide +kernel
theorem dX5_put_25 : decode cX5_put 25 = .ok (.getfield 41, 3) := by decide +kernel
theorem dX5_put_28 : decode cX5_put 28 = .ok (.iload_n 1, 1) := by decide +kernel
theorem dX5_put_29 : decode cX5_put 29 = .ok (.iaload, 1) := by decide +kernel
theorem dX5_put_30 : decode cX5_put 30 = .ok (.iconst 1, 1) := by decide +kernel
theorem dX5_put_31 : decode cX5_put 31 = .ok (.isub, 1) := by decide +kernel
theorem dX5_put_32 : decode cX5_put 32 = .ok (.i2l, 1) := by decide +kernel
theorem dX5_put_33 : decode cX5_put 33 = .ok (.invokestatic 64, 3) := by decide +kernel
theorem dX5_put_36 : decode cX5_put 36 = .ok (.ifCond .ne 6, 3) := by decide +kernel
theorem dX5_put_39 : decode cX5_put 39 = .ok (.bipush (-12), 2) := by decide +kernel
theorem dX5_put_41 : decode cX5_put 41 = .ok (.ireturn, 1) := by decide +kernel
theorem dX5_put_42 : decode cX5_put 42 = .ok (.aload_n 0, 1) := by decide +kernel
theorem dX5_put_43 : decode cX5_put 43 = .ok (.getfield 44, 3) := by decide +kernel
theorem dX5_put_46 : decode cX5_put 46 = .ok (.bipush 40, 2) := by decide +kernel
theorem dX5_put_48 : decode cX5_put 48 = .ok (.iload_n 1, 1) := by decide +kernel
theorem dX5_put_49 : decode cX5_put 49 = .ok (.imul, 1) := by decide +kernel
theorem dX5_put_50 : decode cX5_put 50 = .ok (.iload_n 2, 1) := by decide +kernel
theorem dX5_put_51 : decode cX5_put 51 = .ok (.iadd, 1) := by decide +kernel
theorem dX5_put_52 : decode cX5_put 52 = .ok (.aload_n 0, 1) := by decide +kernel
theorem dX5_put_53 : decode cX5_put 53 = .ok (.getfield 38, 3) := by decide +kernel
theorem dX5_put_56 : decode cX5_put 56 = .ok (.iload_n 1, 1) := by decide +kernel
theorem dX5_put_57 : decode cX5_put 57 = .ok (.iaload, 1) := by decide +kernel
theorem dX5_put_58 : decode cX5_put 58 = .ok (.ifCond .ne 8, 3) := by decide +kernel
theorem dX5_put_61 : decode cX5_put 61 = .ok (.iload_n 3, 1) := by decide +kernel
theorem dX5_put_62 : decode cX5_put 62 = .ok (.i2b, 1) := by decide +kernel
theorem dX5_put_63 : decode cX5_put 63 = .ok (.goto 19, 3) := by decide +kernel
theorem dX5_put_66 : decode cX5_put 66 = .ok (.aload_n 0, 1) := by decide +kernel
theorem dX5_put_67 : decode cX5_put 67 = .ok (.getfield 38, 3) := by decide +kernel
theorem dX5_put_70 : decode cX5_put 70 = .ok (.iload_n 1, 1) := by decide +kernel
theorem dX5_put_71 : decode cX5_put 71 = .ok (.iaload, 1) := by decide +kernel
theorem dX5_put_72 : decode cX5_put 72 = .ok (.iconst 1, 1) := by decide +kernel
theorem dX5_put_73 : decode cX5_put 73 = .ok (.if_icmp .ne 8, 3) := by decide +kernel
theorem dX5_put_76 : decode cX5_put 76 = .ok (.iload_n 3, 1) := by decide +kernel
theorem dX5_put_77 : decode cX5_put 77 = .ok (.i2s, 1) := by decide +kernel
theorem dX5_put_78 : decode cX5_put 78 = .ok (.goto 4, 3) := by decide +kernel
theorem dX5_put_81 : decode cX5_put 81 = .ok (.iload_n 3, 1) := by decide +kernel
theorem dX5_put_82 : decode cX5_put 82 = .ok (.iastore, 1) := by decide +kernel
theorem dX5_put_83 : decode cX5_put 83 = .ok (.iconst 1, 1) := by decide +kernel
theorem dX5_put_84 : decode cX5_put 84 = .ok (.ireturn, 1) := by decide +kernel
theorem dX5_lacks_0 : decode cX5_lacks 0 = .ok (.aload_n 0, 1) := by decide +kernel
theorem dX5_lacks_1 : decode cX5_lacks 1 = .ok (.getfield 38, 3) := by decide +kernel
theorem dX5_lacks_4 : decode cX5_lacks 4 = .ok (.iload_n 1, 1) := by decide +kernel
theorem dX5_lacks_5 : decode cX5_lacks 5 = .ok (.iaload, 1) := by decide +kernel
theorem dX5_lacks_6 : decode cX5_lacks 6 = .ok (.ifCond .ge 8, 3) := by decide +kernel
theorem dX5_lacks_9 : decode cX5_lacks 9 = .ok (.bipush (-11), 2) := by decide +kernel
theorem dX5_lacks_11 : decode cX5_lacks 11 = .ok (.goto 19, 3) := by decide +kernel
theorem dX5_lacks_14 : decode cX5_lacks 14 = .ok (.aload_n 0, 1) := by decide +kernel
theorem dX5_lacks_15 : decode cX5_lacks 15 = .ok (.getfield 38, 3) := by decide +kernel
theorem dX5_lacks_18 : decode cX5_lacks 18 = .ok (.iload_n 1, 1) := by decide +kernel
theorem dX5_lacks_19 : decode cX5_lacks 19 = .ok (.iaload, 1) := by decide +kernel
theorem dX5_lacks_20 : decode cX5_lacks 20 = .ok (.iload_n 2, 1) := by decide +kernel
theorem dX5_lacks_21 : decode cX5_lacks 21 = .ok (.if_icmp .eq 8, 3) := by decide +kernel
theorem dX5_lacks_24 : decode cX5_lacks 24 = .ok (.bipush (-13), 2) := by decide +kernel
theorem dX5_lacks_26 : decode cX5_lacks 26 = .ok (.goto 4, 3) := by decide +kernel
theorem dX5_lacks_29 : decode cX5_lacks 29 = .ok (.iconst 0, 1) := by decide +kernel
theorem dX5_lacks_30 : decode cX5_lacks 30 = .ok (.ireturn, 1) := by decide +kernel
set_option maxRecDepth 20000 in
theorem ggX5_item_X5_isSheet : GoodIn wsX5_item wsX5_isSheet := goodIn_r _ [7, 1, 8, 9, 6, 10] (by decide +kernel) (by decide +kernel)
set_option maxRecDepth 20000 in
theorem gX5_item_X5_isSheet : GoodIn wsX5_item (va_wsS RX5 249 yX5_isSheet wsX5_isSheet) := goodIn_app (goodIn_of _ (by decide +kernel)) ggX5_item_X5_isSheet
set_option maxRecDepth 20000 in
theorem ggX5_item_X5_isIn : GoodIn wsX5_item wsX5_isIn := goodIn_r _ [10] (by decide +kernel) (by decide +kernel)
set_option maxRecDepth 20000 in
theorem gX5_item_X5_isIn : GoodIn wsX5_item (va_wsS RX5 64 yX5_isIn wsX5_isIn) := goodIn_app (goodIn_of _ (by decide +kernel)) ggX5_item_X5_isIn
set_option maxRecDepth 20000 in
theorem ggX5_item_X5_lacks : GoodIn wsX5_item wsX5_lacks := goodIn_r _ [14, 15, 16, 17, 18, 19, 20, 21, 22, 23, 24, 25, 26, 27, 28, 29, 30, 31, 32, 33, 34, 35, 36, 37, 38, 39, 40, 41, 42, 43, 44] (by decide +kernel) (by decide +kernel)
set_option maxRecDepth 20000 in
theorem gX5_item_X5_lacks : GoodIn wsX5_item (wsV RX5 273 RX5 yX5_lacks wsX5_lacks) := goodIn_app (goodIn_of _ (by decide +kernel)) ggX5_item_X5_lacks
theorem dX5_item_0 : decode cX5_item 0 = .ok (.iload_n 1, 1) := by decide +kernel
theorem dX5_item_1 : decode cX5_item 1 = .ok (.invokestatic 249, 3) := by decide +kernel
theorem dX5_item_4 : decode cX5_item 4 = .ok (.ifCond .eq 15, 3) := by decide +kernel
theorem dX5_item_7 : decode cX5_item 7 = .ok (.iload_n 2, 1) := by decide +kernel
theorem dX5_item_8 : decode cX5_item 8 = .ok (.i2l, 1) := by decide +kernel
theorem dX5_item_9 : decode cX5_item 9 = .ok (.lconst 0, 1) := by decide +kernel
theorem dX5_item_10 : decode cX5_item 10 = .ok (.ldc2_w 152, 3) := by decide +kernel
theorem dX5_item_13 : decode cX5_item 13 = .ok (.invokestatic 64, 3) := by decide +kernel
theorem dX5_item_16 : decode cX5_item 16 = .ok (.ifCond .ne 5, 3) := by decide +kernel
theorem dX5_item_19 : decode cX5_item 19 = .ok (.iconst (-1), 1) := by decide +kernel
theorem dX5_item_20 : decode cX5_item 20 = .ok (.ireturn, 1) := by decide +kernel
theorem dX5_item_21 : decode cX5_item 21 = .ok (.aload_n 0, 1) := by decide +kernel
theorem dX5_item_22 : decode cX5_item 22 = .ok (.iload_n 1, 1) := by decide +kernel
theorem dX5_item_23 : decode cX5_item 23 = .ok (.iload_n 2, 1) := by decide +kernel
theorem dX5_item_24 : decode cX5_item 24 = .ok (.invokevirtual 273, 3) := by decide +kernel
theorem dX5_item_27 : decode cX5_item 27 = .ok (.ifCond .eq 10, 3) := by decide +kernel
theorem dX5_item_30 : decode cX5_item 30 = .ok (.aload_n 0, 1) := by decide +kernel
theorem dX5_item_31 : decode cX5_item 31 = .ok (.iload_n 1, 1) := by decide +kernel
theorem dX5_item_32 : decode cX5_item 32 = .ok (.iload_n 2, 1) := by decide +kernel
theorem dX5_item_33 : decode cX5_item 33 = .ok (.invokevirtual 273, 3) := by decide +kernel
theorem dX5_item_36 : decode cX5_item 36 = .ok (.ireturn, 1) := by decide +kernel
theorem dX5_item_37 : decode cX5_item 37 = .ok (.iload_n 3, 1) := by decide +kernel
theorem dX5_item_38 : decode cX5_item 38 = .ok (.i2l, 1) := by decide +kernel
theorem dX5_item_39 : decode cX5_item 39 = .ok (.lconst 0, 1) := by decide +kernel
theorem dX5_item_40 : decode cX5_item 40 = .ok (.aload_n 0, 1) := by decide +kernel
theorem dX5_item_41 : decode cX5_item 41 = .ok (.getfield 41, 3) := by decide +kernel
theorem dX5_item_44 : decode cX5_item 44 = .ok (.iload_n 1, 1) := by decide +kernel
theorem dX5_item_45 : decode cX5_item 45 = .ok (.iaload, 1) := by decide +kernel
theorem dX5_item_46 : decode cX5_item 46 = .ok (.iconst 1, 1) := by decide +kernel
theorem dX5_item_47 : decode cX5_item 47 = .ok (.isub, 1) := by decide +kernel
theorem dX5_item_48 : decode cX5_item 48 = .ok (.i2l, 1) := by decide +kernel
theorem dX5_item_49 : decode cX5_item 49 = .ok (.invokestatic 64, 3) := by decide +kernel
theorem dX5_item_52 : decode cX5_item 52 = .ok (.ifCond .eq 17, 3) := by decide +kernel
theorem dX5_item_55 : decode cX5_item 55 = .ok (.aload_n 0, 1) := by decide +kernel
theorem dX5_item_56 : decode cX5_item 56 = .ok (.getfield 44, 3) := by decide +kernel
theorem dX5_item_59 : decode cX5_item 59 = .ok (.bipush 40, 2) := by decide +kernel
theorem dX5_item_61 : decode cX5_item 61 = .ok (.iload_n 1, 1) := by decide +kernel
theorem dX5_item_62 : decode cX5_item 62 = .ok (.imul, 1) := by decide +kernel
theorem dX5_item_63 : decode cX5_item 63 = .ok (.iload_n 3, 1) := by decide +kernel
theorem dX5_item_64 : decode cX5_item 64 = .ok (.iadd, 1) := by decide +kernel
theorem dX5_item_65 : decode cX5_item 65 = .ok (.iaload, 1) := by decide +kernel
theorem dX5_item_66 : decode cX5_item 66 = .ok (.goto 5, 3) := by decide +kernel
theorem dX5_item_69 : decode cX5_item 69 = .ok (.bipush (-12), 2) := by decide +kernel
theorem dX5_item_71 : decode cX5_item 71 = .ok (.ireturn, 1) := by decide +kernel
set_option maxRecDepth 20000 in
theorem ggX5_minds_X5_isSheet : GoodIn wsX5_minds wsX5_isSheet := goodIn_r _ [8, 9, 10, 11, 7, 12] (by decide +kernel) (by decide +kernel)
set_option maxRecDepth 20000 in
theorem gX5_minds_X5_isSheet : GoodIn wsX5_minds (va_wsS RX5 249 yX5_isSheet wsX5_isSheet) := goodIn_app (goodIn_of _ (by decide +kernel)) ggX5_minds_X5_isSheet
set_option maxRecDepth 20000 in
theorem ggX5_minds_X5_isOne : GoodIn wsX5_minds wsX5_isOne := goodIn_r _ [16, 2, 25, 26, 27, 28, 29, 30, 31, 32, 33, 34, 35, 36, 37, 38, 39, 40, 41, 42, 43, 44, 45, 46, 47, 48, 49, 50, 51, 52, 53] (by decide +kernel) (by decide +kernel)
set_option maxRecDepth 20000 in
theorem gX5_minds_X5_isOne : GoodIn wsX5_minds (wsV RX5 176 RX5 yX5_isOne wsX5_isOne) := goodIn_app (goodIn_of _ (by decide +kernel)) ggX5_minds_X5_isOne
set_option maxRecDepth 20000 in
theorem ggX5_minds_X5_isIn : GoodIn wsX5_minds wsX5_isIn := goodIn_r _ [12] (by decide +kernel) (by decide +kernel)
set_option maxRecDepth 20000 in
theorem gX5_minds_X5_isIn : GoodIn wsX5_minds (va_wsS RX5 64 yX5_isIn wsX5_isIn) := goodIn_app (goodIn_of _ (by decide +kernel)) ggX5_minds_X5_isIn
set_option maxRecDepth 20000 in
theorem ggX5_minds_X5_lacks : GoodIn wsX5_minds wsX5_lacks := goodIn_r _ [20, 21, 25, 26, 27, 28, 29, 30, 31, 32, 33, 34, 35, 36, 37, 38, 39, 40, 41, 42, 43, 44, 45, 46, 47, 48, 49, 50, 51, 52, 53] (by decide +kernel) (by decide +kernel)
set_option maxRecDepth 20000 in
theorem gX5_minds_X5_lacks : GoodIn wsX5_minds (wsV RX5 273 RX5 yX5_lacks wsX5_lacks) := goodIn_app (goodIn_of _ (by decide +kernel)) ggX5_minds_X5_lacks
set_option maxRecDepth 20000 in
theorem ggX5_minds_X5_within : GoodIn wsX5_minds wsX5_within := goodIn_r _ [24] (by decide +kernel) (by decide +kernel)
set_option maxRecDepth 20000 in
theorem gX5_minds_X5_within : GoodIn wsX5_minds (va_wsS RX5 195 yX5_within wsX5_within) := goodIn_app (goodIn_of _ (by decide +kernel)) ggX5_minds_X5_within
theorem dX5_minds_0 : decode cX5_minds 0 = .ok (.iload_n 1, 1) := by decide +kernel
theorem dX5_minds_1 : decode cX5_minds 1 = .ok (.invokestatic 249, 3) := by decide +kernel
theorem dX5_minds_4 : decode cX5_minds 4 = .ok (.ifCond .eq 37, 3) := by decide +kernel
theorem dX5_minds_7 : decode cX5_minds 7 = .ok (.aload_n 0, 1) := by decide +kernel
theorem dX5_minds_8 : decode cX5_minds 8 = .ok (.iload_n 3, 1) := by decide +kernel
theorem dX5_minds_9 : decode cX5_minds 9 = .ok (.invokevirtual 176, 3) := by decide +kernel
theorem dX5_minds_12 : decode cX5_minds 12 = .ok (.ifCond .eq 29, 3) := by decide +kernel
theorem dX5_minds_15 : decode cX5_minds 15 = .ok (.iload 4, 2) := by decide +kernel
theorem dX5_minds_17 : decode cX5_minds 17 = .ok (.i2l, 1) := by decide +kernel
theorem dX5_minds_18 : decode cX5_minds 18 = .ok (.lconst 0, 1) := by decide +kernel
theorem dX5_minds_19 : decode cX5_minds 19 = .ok (.ldc2_w 62, 3) := by decide +kernel
theorem dX5_minds_22 : decode cX5_minds 22 = .ok (.invokestatic 64, 3) := by decide +kernel
theorem dX5_minds_25 : decode cX5_minds 25 = .ok (.ifCond .eq 16, 3) := by decide +kernel
theorem dX5_minds_28 : decode cX5_minds 28 = .ok (.iload_n 3, 1) := by decide +kernel
theorem dX5_minds_29 : decode cX5_minds 29 = .ok (.iload 4, 2) := by decide +kernel
theorem dX5_minds_31 : decode cX5_minds 31 = .ok (.iadd, 1) := by decide +kernel
theorem dX5_minds_32 : decode cX5_minds 32 = .ok (.aload_n 0, 1) := by decide +kernel
theorem dX5_minds_33 : decode cX5_minds 33 = .ok (.getfield 7, 3) := by decide +kernel
theorem dX5_minds_36 : decode cX5_minds 36 = .ok (.iconst 0, 1) := by decide +kernel
theorem dX5_minds_37 : decode cX5_minds 37 = .ok (.iaload, 1) := by decide +kernel
theorem dX5_minds_38 : decode cX5_minds 38 = .ok (.if_icmp .le 5, 3) := by decide +kernel
theorem dX5_minds_41 : decode cX5_minds 41 = .ok (.iconst (-1), 1) := by decide +kernel
theorem dX5_minds_42 : decode cX5_minds 42 = .ok (.ireturn, 1) := by decide +kernel
theorem dX5_minds_43 : decode cX5_minds 43 = .ok (.aload_n 0, 1) := by decide +kernel
theorem dX5_minds_44 : decode cX5_minds 44 = .ok (.iload_n 1, 1) := by decide +kernel
theorem dX5_minds_45 : decode cX5_minds 45 = .ok (.iconst 0, 1) := by decide +kernel
theorem dX5_minds_46 : decode cX5_minds 46 = .ok (.invokevirtual 273, 3) := by decide +kernel
theorem dX5_minds_49 : decode cX5_minds 49 = .ok (.ifCond .eq 10, 3) := by decide +kernel
theorem dX5_minds_52 : decode cX5_minds 52 = .ok (.aload_n 0, 1) := by decide +kernel
theorem dX5_minds_53 : decode cX5_minds 53 = .ok (.iload_n 1, 1) := by decide +kernel
theorem dX5_minds_54 : decode cX5_minds 54 = .ok (.iconst 0, 1) := by decide +kernel
theorem dX5_minds_55 : decode cX5_minds 55 = .ok (.invokevirtual 273, 3) := by decide +kernel
theorem dX5_minds_58 : decode cX5_minds 58 = .ok (.ireturn, 1) := by decide +kernel
theorem dX5_minds_59 : decode cX5_minds 59 = .ok (.iload_n 2, 1) := by decide +kernel
theorem dX5_minds_60 : decode cX5_minds 60 = .ok (.i2l, 1) := by decide +kernel
theorem dX5_minds_61 : decode cX5_minds 61 = .ok (.lconst 0, 1) := by decide +kernel
theorem dX5_minds_62 : decode cX5_minds 62 = .ok (.aload_n 0, 1) := by decide +kernel
theorem dX5_minds_63 : decode cX5_minds 63 = .ok (.getfield 41, 3) := by decide +kernel
theorem dX5_minds_66 : decode cX5_minds 66 = .ok (.iload_n 1, 1) := by decide +kernel
theorem dX5_minds_67 : decode cX5_minds 67 = .ok (.iaload, 1) := by decide +kernel
theorem dX5_minds_68 : decode cX5_minds 68 = .ok (.i2l, 1) := by decide +kernel
theorem dX5_minds_69 : decode cX5_minds 69 = .ok (.invokestatic 64, 3) := by decide +kernel
theorem dX5_minds_72 : decode cX5_minds 72 = .ok (.ifCond .eq 20, 3) := by decide +kernel
theorem dX5_minds_75 : decode cX5_minds 75 = .ok (.iload_n 2, 1) := by decide +kernel
theorem dX5_minds_76 : decode cX5_minds 76 = .ok (.i2l, 1) := by decide +kernel
theorem dX5_minds_77 : decode cX5_minds 77 = .ok (.iload 4, 2) := by decide +kernel
theorem dX5_minds_79 : decode cX5_minds 79 = .ok (.i2l, 1) := by decide +kernel
theorem dX5_minds_80 : decode cX5_minds 80 = .ok (.ladd, 1) := by decide +kernel
theorem dX5_minds_81 : decode cX5_minds 81 = .ok (.aload_n 0, 1) := by decide +kernel
theorem dX5_minds_82 : decode cX5_minds 82 = .ok (.getfield 41, 3) := by decide +kernel
theorem dX5_minds_85 : decode cX5_minds 85 = .ok (.iload_n 1, 1) := by decide +kernel
theorem dX5_minds_86 : decode cX5_minds 86 = .ok (.iaload, 1) := by decide +kernel
theorem dX5_minds_87 : decode cX5_minds 87 = .ok (.i2l, 1) := by decide +kernel
theorem dX5_minds_88 : decode cX5_minds 88 = .ok (.lcmp, 1) := by decide +kernel
theorem dX5_minds_89 : decode cX5_minds 89 = .ok (.ifCond .le 6, 3) := by decide +kernel
theorem dX5_minds_92 : decode cX5_minds 92 = .ok (.bipush (-12), 2) := by decide +kernel
theorem dX5_minds_94 : decode cX5_minds 94 = .ok (.ireturn, 1) := by decide +kernel
theorem dX5_minds_95 : decode cX5_minds 95 = .ok (.iconst 0, 1) := by decide +kernel
theorem dX5_minds_96 : decode cX5_minds 96 = .ok (.istore 5, 2) := by decide +kernel
theorem dX5_minds_98 : decode cX5_minds 98 = .ok (.iload 5, 2) := by decide +kernel
theorem dX5_minds_100 : decode cX5_minds 100 = .ok (.iload 4, 2) := by decide +kernel
theorem dX5_minds_102 : decode cX5_minds 102 = .ok (.if_icmp .ge 42, 3) := by decide +kernel
theorem dX5_minds_105 : decode cX5_minds 105 = .ok (.aload_n 0, 1) := by decide +kernel
theorem dX5_minds_106 : decode cX5_minds 106 = .ok (.getfield 7, 3) := by decide +kernel
theorem dX5_minds_109 : decode cX5_minds 109 = .ok (.bipush 7, 2) := by decide +kernel
theorem dX5_minds_111 : decode cX5_minds 111 = .ok (.iconst 5, 1) := by decide +kernel
theorem dX5_minds_112 : decode cX5_minds 112 = .ok (.iload_n 3, 1) := by decide +kernel
theorem dX5_minds_113 : decode cX5_minds 113 = .ok (.iload 5, 2) := by decide +kernel
theorem dX5_minds_115 : decode cX5_minds 115 = .ok (.iadd, 1) := by decide +kernel
theorem dX5_minds_116 : decode cX5_minds 116 = .ok (.imul, 1) := by decide +kernel
theorem dX5_minds_117 : decode cX5_minds 117 = .ok (.iadd, 1) := by decide +kernel
theorem dX5_minds_118 : decode cX5_minds 118 = .ok (.iconst 1, 1) := by decide +kernel
theorem dX5_minds_119 : decode cX5_minds 119 = .ok (.iadd, 1) := by decide +kernel
theorem dX5_minds_120 : decode cX5_minds 120 = .ok (.aload_n 0, 1) := by decide +kernel
theorem dX5_minds_121 : decode cX5_minds 121 = .ok (.getfield 44, 3) := by decide +kernel
theorem dX5_minds_124 : decode cX5_minds 124 = .ok (.bipush 40, 2) := by decide +kernel
theorem dX5_minds_126 : decode cX5_minds 126 = .ok (.iload_n 1, 1) := by decide +kernel
theorem dX5_minds_127 : decode cX5_minds 127 = .ok (.imul, 1) := by decide +kernel
theorem dX5_minds_128 : decode cX5_minds 128 = .ok (.iload_n 2, 1) := by decide +kernel
theorem dX5_minds_129 : decode cX5_minds 129 = .ok (.iadd, 1) := by decide +kernel
theorem dX5_minds_130 : decode cX5_minds 130 = .ok (.iload 5, 2) := by decide +kernel
theorem dX5_minds_132 : decode cX5_minds 132 = .ok (.iadd, 1) := by decide +kernel
theorem dX5_minds_133 : decode cX5_minds 133 = .ok (.iaload, 1) := by decide +kernel
theorem dX5_minds_134 : decode cX5_minds 134 = .ok (.invokestatic 195, 3) := by decide +kernel
theorem dX5_minds_137 : decode cX5_minds 137 = .ok (.iastore, 1) := by decide +kernel
theorem dX5_minds_138 : decode cX5_minds 138 = .ok (.iinc 5 1, 3) := by decide +kernel
theorem dX5_minds_141 : decode cX5_minds 141 = .ok (.goto (-43), 3) := by decide +kernel
theorem dX5_minds_144 : decode cX5_minds 144 = .ok (.iload 4, 2) := by decide +kernel
theorem dX5_minds_146 : decode cX5_minds 146 = .ok (.ireturn, 1) := by decide +kernel
set_option maxRecDepth 20000 in
theorem ggX5_shelf_X5_isShelf : GoodIn wsX5_shelf wsX5_isShelf := goodIn_r _ [10, 11, 12, 13, 9, 14] (by decide +kernel) (by decide +kernel)
set_option maxRecDepth 20000 in
theorem gX5_shelf_X5_isShelf : GoodIn wsX5_shelf (va_wsS RX5 276 yX5_isShelf wsX5_isShelf) := goodIn_app (goodIn_of _ (by decide +kernel)) ggX5_shelf_X5_isShelf
set_option maxRecDepth 20000 in
theorem ggX5_shelf_X5_isIn : GoodIn wsX5_shelf wsX5_isIn := goodIn_r _ [14] (by decide +kernel) (by decide +kernel)
set_option maxRecDepth 20000 in
theorem gX5_shelf_X5_isIn : GoodIn wsX5_shelf (va_wsS RX5 64 yX5_isIn wsX5_isIn) := goodIn_app (goodIn_of _ (by decide +kernel)) ggX5_shelf_X5_isIn
set_option maxRecDepth 20000 in
theorem ggX5_shelf_X5_isOne : GoodIn wsX5_shelf wsX5_isOne := goodIn_r _ [18, 19, 23, 24, 25, 26, 27, 28, 29, 30, 31, 32, 33, 34, 35, 36, 37, 38, 39, 40, 41, 42, 43, 44, 45, 46, 47, 48, 49, 50, 51] (by decide +kernel) (by decide +kernel)
set_option maxRecDepth 20000 in
theorem gX5_shelf_X5_isOne : GoodIn wsX5_shelf (wsV RX5 176 RX5 yX5_isOne wsX5_isOne) := goodIn_app (goodIn_of _ (by decide +kernel)) ggX5_shelf_X5_isOne
set_option maxRecDepth 20000 in
theorem ggX5_shelf_X5_isSheet : GoodIn wsX5_shelf wsX5_isSheet := goodIn_r _ [22, 11, 12, 13, 9, 14] (by decide +kernel) (by decide +kernel)
set_option maxRecDepth 20000 in
theorem gX5_shelf_X5_isSheet : GoodIn wsX5_shelf (va_wsS RX5 249 yX5_isSheet wsX5_isSheet) := goodIn_app (goodIn_of _ (by decide +kernel)) ggX5_shelf_X5_isSheet
theorem dX5_shelf_0 : decode cX5_shelf 0 = .ok (.iload_n 1, 1) := by decide +kernel
theorem dX5_shelf_1 : decode cX5_shelf 1 = .ok (.invokestatic 276, 3) := by decide +kernel
theorem dX5_shelf_4 : decode cX5_shelf 4 = .ok (.ifCond .eq 39, 3) := by decide +kernel
theorem dX5_shelf_7 : decode cX5_shelf 7 = .ok (.iload_n 2, 1) := by decide +kernel
theorem dX5_shelf_8 : decode cX5_shelf 8 = .ok (.i2l, 1) := by decide +kernel
theorem dX5_shelf_9 : decode cX5_shelf 9 = .ok (.lconst 0, 1) := by decide +kernel
theorem dX5_shelf_10 : decode cX5_shelf 10 = .ok (.ldc2_w 181, 3) := by decide +kernel
theorem dX5_shelf_13 : decode cX5_shelf 13 = .ok (.invokestatic 64, 3) := by decide +kernel
theorem dX5_shelf_16 : decode cX5_shelf 16 = .ok (.ifCond .eq 27, 3) := by decide +kernel
theorem dX5_shelf_19 : decode cX5_shelf 19 = .ok (.iload_n 2, 1) := by decide +kernel
theorem dX5_shelf_20 : decode cX5_shelf 20 = .ok (.ifCond .ne 11, 3) := by decide +kernel
theorem dX5_shelf_23 : decode cX5_shelf 23 = .ok (.aload_n 0, 1) := by decide +kernel
theorem dX5_shelf_24 : decode cX5_shelf 24 = .ok (.iload_n 3, 1) := by decide +kernel
theorem dX5_shelf_25 : decode cX5_shelf 25 = .ok (.invokevirtual 176, 3) := by decide +kernel
theorem dX5_shelf_28 : decode cX5_shelf 28 = .ok (.ifCond .eq 15, 3) := by decide +kernel
theorem dX5_shelf_31 : decode cX5_shelf 31 = .ok (.iload_n 2, 1) := by decide +kernel
theorem dX5_shelf_32 : decode cX5_shelf 32 = .ok (.iconst 1, 1) := by decide +kernel
theorem dX5_shelf_33 : decode cX5_shelf 33 = .ok (.if_icmp .ne 12, 3) := by decide +kernel
theorem dX5_shelf_36 : decode cX5_shelf 36 = .ok (.iload_n 3, 1) := by decide +kernel
theorem dX5_shelf_37 : decode cX5_shelf 37 = .ok (.invokestatic 249, 3) := by decide +kernel
theorem dX5_shelf_40 : decode cX5_shelf 40 = .ok (.ifCond .ne 5, 3) := by decide +kernel
theorem dX5_shelf_43 : decode cX5_shelf 43 = .ok (.iconst (-1), 1) := by decide +kernel
theorem dX5_shelf_44 : decode cX5_shelf 44 = .ok (.ireturn, 1) := by decide +kernel
theorem dX5_shelf_45 : decode cX5_shelf 45 = .ok (.iload_n 2, 1) := by decide +kernel
theorem dX5_shelf_46 : decode cX5_shelf 46 = .ok (.iconst 1, 1) := by decide +kernel
theorem dX5_shelf_47 : decode cX5_shelf 47 = .ok (.if_icmp .ne 16, 3) := by decide +kernel
theorem dX5_shelf_50 : decode cX5_shelf 50 = .ok (.aload_n 0, 1) := by decide +kernel
theorem dX5_shelf_51 : decode cX5_shelf 51 = .ok (.getfield 38, 3) := by decide +kernel
theorem dX5_shelf_54 : decode cX5_shelf 54 = .ok (.iload_n 3, 1) := by decide +kernel
theorem dX5_shelf_55 : decode cX5_shelf 55 = .ok (.iaload, 1) := by decide +kernel
theorem dX5_shelf_56 : decode cX5_shelf 56 = .ok (.ifCond .lt 7, 3) := by decide +kernel
theorem dX5_shelf_59 : decode cX5_shelf 59 = .ok (.iconst 1, 1) := by decide +kernel
theorem dX5_shelf_60 : decode cX5_shelf 60 = .ok (.goto 4, 3) := by decide +kernel
theorem dX5_shelf_63 : decode cX5_shelf 63 = .ok (.iconst 0, 1) := by decide +kernel
theorem dX5_shelf_64 : decode cX5_shelf 64 = .ok (.istore 4, 2) := by decide +kernel
theorem dX5_shelf_66 : decode cX5_shelf 66 = .ok (.aload_n 0, 1) := by decide +kernel
theorem dX5_shelf_67 : decode cX5_shelf 67 = .ok (.getfield 47, 3) := by decide +kernel
theorem dX5_shelf_70 : decode cX5_shelf 70 = .ok (.iload_n 1, 1) := by decide +kernel
theorem dX5_shelf_71 : decode cX5_shelf 71 = .ok (.iload_n 2, 1) := by decide +kernel
theorem dX5_shelf_72 : decode cX5_shelf 72 = .ok (.ifCond .ne 7, 3) := by decide +kernel
theorem dX5_shelf_75 : decode cX5_shelf 75 = .ok (.iconst 1, 1) := by decide +kernel
theorem dX5_shelf_76 : decode cX5_shelf 76 = .ok (.goto 13, 3) := by decide +kernel
theorem dX5_shelf_79 : decode cX5_shelf 79 = .ok (.iload 4, 2) := by decide +kernel
theorem dX5_shelf_81 : decode cX5_shelf 81 = .ok (.ifCond .eq 7, 3) := by decide +kernel
theorem dX5_shelf_84 : decode cX5_shelf 84 = .ok (.iconst 2, 1) := by decide +kernel
theorem dX5_shelf_85 : decode cX5_shelf 85 = .ok (.goto 4, 3) := by decide +kernel
theorem dX5_shelf_88 : decode cX5_shelf 88 = .ok (.iconst 0, 1) := by decide +kernel
theorem dX5_shelf_89 : decode cX5_shelf 89 = .ok (.iastore, 1) := by decide +kernel
theorem dX5_shelf_90 : decode cX5_shelf 90 = .ok (.aload_n 0, 1) := by decide +kernel
theorem dX5_shelf_91 : decode cX5_shelf 91 = .ok (.getfield 50, 3) := by decide +kernel
theorem dX5_shelf_94 : decode cX5_shelf 94 = .ok (.iload_n 1, 1) := by decide +kernel
theorem dX5_shelf_95 : decode cX5_shelf 95 = .ok (.iload_n 2, 1) := by decide +kernel
theorem dX5_shelf_96 : decode cX5_shelf 96 = .ok (.ifCond .ne 7, 3) := by decide +kernel
theorem dX5_shelf_99 : decode cX5_shelf 99 = .ok (.iload_n 3, 1) := by decide +kernel
theorem dX5_shelf_100 : decode cX5_shelf 100 = .ok (.goto 18, 3) := by decide +kernel
theorem dX5_shelf_103 : decode cX5_shelf 103 = .ok (.iload 4, 2) := by decide +kernel
theorem dX5_shelf_105 : decode cX5_shelf 105 = .ok (.ifCond .eq 12, 3) := by decide +kernel
theorem dX5_shelf_108 : decode cX5_shelf 108 = .ok (.aload_n 0, 1) := by decide +kernel
theorem dX5_shelf_109 : decode cX5_shelf 109 = .ok (.getfield 38, 3) := by decide +kernel
theorem dX5_shelf_112 : decode cX5_shelf 112 = .ok (.iload_n 3, 1) := by decide +kernel
theorem dX5_shelf_113 : decode cX5_shelf 113 = .ok (.iaload, 1) := by decide +kernel
theorem dX5_shelf_114 : decode cX5_shelf 114 = .ok (.goto 4, 3) := by decide +kernel
theorem dX5_shelf_117 : decode cX5_shelf 117 = .ok (.iconst 0, 1) := by decide +kernel
theorem dX5_shelf_118 : decode cX5_shelf 118 = .ok (.iastore, 1) := by decide +kernel
theorem dX5_shelf_119 : decode cX5_shelf 119 = .ok (.aload_n 0, 1) := by decide +kernel
theorem dX5_shelf_120 : decode cX5_shelf 120 = .ok (.getfield 53, 3) := by decide +kernel
theorem dX5_shelf_123 : decode cX5_shelf 123 = .ok (.iload_n 1, 1) := by decide +kernel
theorem dX5_shelf_124 : decode cX5_shelf 124 = .ok (.iload 4, 2) := by decide +kernel
theorem dX5_shelf_126 : decode cX5_shelf 126 = .ok (.ifCond .eq 12, 3) := by decide +kernel
theorem dX5_shelf_129 : decode cX5_shelf 129 = .ok (.aload_n 0, 1) := by decide +kernel
theorem dX5_shelf_130 : decode cX5_shelf 130 = .ok (.getfield 41, 3) := by decide +kernel
theorem dX5_shelf_133 : decode cX5_shelf 133 = .ok (.iload_n 3, 1) := by decide +kernel
theorem dX5_shelf_134 : decode cX5_shelf 134 = .ok (.iaload, 1) := by decide +kernel
theorem dX5_shelf_135 : decode cX5_shelf 135 = .ok (.goto 4, 3) := by decide +kernel
theorem dX5_shelf_138 : decode cX5_shelf 138 = .ok (.iconst 0, 1) := by decide +kernel
theorem dX5_shelf_139 : decode cX5_shelf 139 = .ok (.iastore, 1) := by decide +kernel
theorem dX5_shelf_140 : decode cX5_shelf 140 = .ok (.iconst 1, 1) := by decide +kernel
theorem dX5_shelf_141 : decode cX5_shelf 141 = .ok (.ireturn, 1) := by decide +kernel
set_option maxRecDepth 20000 in
theorem ggX5_heldOn_X5_isOne : GoodIn wsX5_heldOn wsX5_isOne := goodIn_r _ [7, 8, 9, 10, 11, 12, 13, 14, 15, 16, 17, 18, 19, 20, 21, 22, 23, 24, 25, 26, 27, 28, 29, 30, 31, 32, 33, 34, 35, 36, 37] (by decide +kernel) (by decide +kernel)
set_option maxRecDepth 20000 in
theorem gX5_heldOn_X5_isOne : GoodIn wsX5_heldOn (wsV RX5 176 RX5 yX5_isOne wsX5_isOne) := goodIn_app (goodIn_of _ (by decide +kernel)) ggX5_heldOn_X5_isOne
theorem dX5_heldOn_0 : decode cX5_heldOn 0 = .ok (.aload_n 0, 1) := by decide +kernel
theorem dX5_heldOn_1 : decode cX5_heldOn 1 = .ok (.getfield 47, 3) := by decide +kernel
theorem dX5_heldOn_4 : decode cX5_heldOn 4 = .ok (.iload_n 1, 1) := by decide +kernel
theorem dX5_heldOn_5 : decode cX5_heldOn 5 = .ok (.iaload, 1) := by decide +kernel
theorem dX5_heldOn_6 : decode cX5_heldOn 6 = .ok (.iconst 1, 1) := by decide +kernel
theorem dX5_heldOn_7 : decode cX5_heldOn 7 = .ok (.if_icmp .ne 20, 3) := by decide +kernel
theorem dX5_heldOn_10 : decode cX5_heldOn 10 = .ok (.aload_n 0, 1) := by decide +kernel
theorem dX5_heldOn_11 : decode cX5_heldOn 11 = .ok (.aload_n 0, 1) := by decide +kernel
theorem dX5_heldOn_12 : decode cX5_heldOn 12 = .ok (.getfield 50, 3) := by decide +kernel
theorem dX5_heldOn_15 : decode cX5_heldOn 15 = .ok (.iload_n 1, 1) := by decide +kernel
theorem dX5_heldOn_16 : decode cX5_heldOn 16 = .ok (.iaload, 1) := by decide +kernel
theorem dX5_heldOn_17 : decode cX5_heldOn 17 = .ok (.invokevirtual 176, 3) := by decide +kernel
theorem dX5_heldOn_20 : decode cX5_heldOn 20 = .ok (.ifCond .ne 7, 3) := by decide +kernel
theorem dX5_heldOn_23 : decode cX5_heldOn 23 = .ok (.iconst 0, 1) := by decide +kernel
theorem dX5_heldOn_24 : decode cX5_heldOn 24 = .ok (.goto 9, 3) := by decide +kernel
theorem dX5_heldOn_27 : decode cX5_heldOn 27 = .ok (.aload_n 0, 1) := by decide +kernel
theorem dX5_heldOn_28 : decode cX5_heldOn 28 = .ok (.getfield 47, 3) := by decide +kernel
theorem dX5_heldOn_31 : decode cX5_heldOn 31 = .ok (.iload_n 1, 1) := by decide +kernel
theorem dX5_heldOn_32 : decode cX5_heldOn 32 = .ok (.iaload, 1) := by decide +kernel
theorem dX5_heldOn_33 : decode cX5_heldOn 33 = .ok (.ireturn, 1) := by decide +kernel
set_option maxRecDepth 20000 in
theorem ggX5_taken_X5_isShelf : GoodIn wsX5_taken wsX5_isShelf := goodIn_r _ [9, 10, 11, 12, 8, 13] (by decide +kernel) (by decide +kernel)
set_option maxRecDepth 20000 in
theorem gX5_taken_X5_isShelf : GoodIn wsX5_taken (va_wsS RX5 276 yX5_isShelf wsX5_isShelf) := goodIn_app (goodIn_of _ (by decide +kernel)) ggX5_taken_X5_isShelf
set_option maxRecDepth 20000 in
theorem ggX5_taken_X5_isIn : GoodIn wsX5_taken wsX5_isIn := goodIn_r _ [13] (by decide +kernel) (by decide +kernel)
set_option maxRecDepth 20000 in
theorem gX5_taken_X5_isIn : GoodIn wsX5_taken (va_wsS RX5 64 yX5_isIn wsX5_isIn) := goodIn_app (goodIn_of _ (by decide +kernel)) ggX5_taken_X5_isIn
set_option maxRecDepth 20000 in
theorem ggX5_taken_X5_heldOn : GoodIn wsX5_taken wsX5_heldOn := goodIn_r _ [17, 18, 4, 19, 20, 21, 8, 22, 23, 31, 32, 33, 34, 35, 36, 37, 38, 39, 40, 41, 42, 43, 44, 45, 46, 47, 48, 49, 50, 51, 52, 53, 54, 55, 56, 57, 58, 59] (by decide +kernel) (by decide +kernel)
set_option maxRecDepth 20000 in
theorem gX5_taken_X5_heldOn : GoodIn wsX5_taken (wsV RX5 283 RX5 yX5_heldOn wsX5_heldOn) := goodIn_app (goodIn_of _ (by decide +kernel)) ggX5_taken_X5_heldOn
set_option maxRecDepth 20000 in
theorem ggX5_taken_X5_its : GoodIn wsX5_taken wsX5_its := goodIn_r _ [27, 23, 31, 32, 33, 34, 35, 36, 37, 38, 39, 40, 41, 42, 43, 44, 45, 46, 47, 48, 49, 50, 51, 52, 53, 54, 55, 56, 57, 58, 59] (by decide +kernel) (by decide +kernel)
set_option maxRecDepth 20000 in
theorem gX5_taken_X5_its : GoodIn wsX5_taken (wsV RX5 167 RX5 yX5_its wsX5_its) := goodIn_app (goodIn_of _ (by decide +kernel)) ggX5_taken_X5_its
set_option maxRecDepth 20000 in
theorem ggX5_taken_X5_isUnder : GoodIn wsX5_taken wsX5_isUnder := goodIn_r _ [30] (by decide +kernel) (by decide +kernel)
set_option maxRecDepth 20000 in
theorem gX5_taken_X5_isUnder : GoodIn wsX5_taken (va_wsS RX5 286 yX5_isUnder wsX5_isUnder) := goodIn_app (goodIn_of _ (by decide +kernel)) ggX5_taken_X5_isUnder
theorem dX5_taken_0 : decode cX5_taken 0 = .ok (.iload_n 1, 1) := by decide +kernel
theorem dX5_taken_1 : decode cX5_taken 1 = .ok (.invokestatic 276, 3) := by decide +kernel
theorem dX5_taken_4 : decode cX5_taken 4 = .ok (.ifCond .eq 29, 3) := by decide +kernel
theorem dX5_taken_7 : decode cX5_taken 7 = .ok (.iload_n 2, 1) := by decide +kernel
theorem dX5_taken_8 : decode cX5_taken 8 = .ok (.i2l, 1) := by decide +kernel
theorem dX5_taken_9 : decode cX5_taken 9 = .ok (.lconst 0, 1) := by decide +kernel
theorem dX5_taken_10 : decode cX5_taken 10 = .ok (.ldc2_w 279, 3) := by decide +kernel
theorem dX5_taken_13 : decode cX5_taken 13 = .ok (.invokestatic 64, 3) := by decide +kernel
theorem dX5_taken_16 : decode cX5_taken 16 = .ok (.ifCond .eq 17, 3) := by decide +kernel
theorem dX5_taken_19 : decode cX5_taken 19 = .ok (.iload_n 2, 1) := by decide +kernel
theorem dX5_taken_20 : decode cX5_taken 20 = .ok (.i2l, 1) := by decide +kernel
theorem dX5_taken_21 : decode cX5_taken 21 = .ok (.ldc2_w 281, 3) := by decide +kernel
theorem dX5_taken_24 : decode cX5_taken 24 = .ok (.ldc2_w 156, 3) := by decide +kernel
theorem dX5_taken_27 : decode cX5_taken 27 = .ok (.invokestatic 64, 3) := by decide +kernel
theorem dX5_taken_30 : decode cX5_taken 30 = .ok (.ifCond .eq 5, 3) := by decide +kernel
theorem dX5_taken_33 : decode cX5_taken 33 = .ok (.iconst (-1), 1) := by decide +kernel
theorem dX5_taken_34 : decode cX5_taken 34 = .ok (.ireturn, 1) := by decide +kernel
theorem dX5_taken_35 : decode cX5_taken 35 = .ok (.aload_n 0, 1) := by decide +kernel
theorem dX5_taken_36 : decode cX5_taken 36 = .ok (.iload_n 1, 1) := by decide +kernel
theorem dX5_taken_37 : decode cX5_taken 37 = .ok (.invokevirtual 283, 3) := by decide +kernel
theorem dX5_taken_40 : decode cX5_taken 40 = .ok (.istore_n 3, 1) := by decide +kernel
theorem dX5_taken_41 : decode cX5_taken 41 = .ok (.iload_n 3, 1) := by decide +kernel
theorem dX5_taken_42 : decode cX5_taken 42 = .ok (.ifCond .ne 6, 3) := by decide +kernel
theorem dX5_taken_45 : decode cX5_taken 45 = .ok (.bipush (-11), 2) := by decide +kernel
theorem dX5_taken_47 : decode cX5_taken 47 = .ok (.ireturn, 1) := by decide +kernel
theorem dX5_taken_48 : decode cX5_taken 48 = .ok (.iload_n 2, 1) := by decide +kernel
theorem dX5_taken_49 : decode cX5_taken 49 = .ok (.bipush 10, 2) := by decide +kernel
theorem dX5_taken_51 : decode cX5_taken 51 = .ok (.if_icmp .ge 38, 3) := by decide +kernel
theorem dX5_taken_54 : decode cX5_taken 54 = .ok (.iload_n 3, 1) := by decide +kernel
theorem dX5_taken_55 : decode cX5_taken 55 = .ok (.iconst 1, 1) := by decide +kernel
theorem dX5_taken_56 : decode cX5_taken 56 = .ok (.if_icmp .ne 30, 3) := by decide +kernel
theorem dX5_taken_59 : decode cX5_taken 59 = .ok (.aload_n 0, 1) := by decide +kernel
theorem dX5_taken_60 : decode cX5_taken 60 = .ok (.aload_n 0, 1) := by decide +kernel
theorem dX5_taken_61 : decode cX5_taken 61 = .ok (.getfield 50, 3) := by decide +kernel
theorem dX5_taken_64 : decode cX5_taken 64 = .ok (.iload_n 1, 1) := by decide +kernel
theorem dX5_taken_65 : decode cX5_taken 65 = .ok (.iaload, 1) := by decide +kernel
theorem dX5_taken_66 : decode cX5_taken 66 = .ok (.iconst 0, 1) := by decide +kernel
theorem dX5_taken_67 : decode cX5_taken 67 = .ok (.invokevirtual 167, 3) := by decide +kernel
theorem dX5_taken_70 : decode cX5_taken 70 = .ok (.iload_n 2, 1) := by decide +kernel
theorem dX5_taken_71 : decode cX5_taken 71 = .ok (.invokestatic 286, 3) := by decide +kernel
theorem dX5_taken_74 : decode cX5_taken 74 = .ok (.ifCond .eq 12, 3) := by decide +kernel
theorem dX5_taken_77 : decode cX5_taken 77 = .ok (.aload_n 0, 1) := by decide +kernel
theorem dX5_taken_78 : decode cX5_taken 78 = .ok (.getfield 50, 3) := by decide +kernel
theorem dX5_taken_81 : decode cX5_taken 81 = .ok (.iload_n 1, 1) := by decide +kernel
theorem dX5_taken_82 : decode cX5_taken 82 = .ok (.iaload, 1) := by decide +kernel
theorem dX5_taken_83 : decode cX5_taken 83 = .ok (.goto 5, 3) := by decide +kernel
theorem dX5_taken_86 : decode cX5_taken 86 = .ok (.bipush (-13), 2) := by decide +kernel
theorem dX5_taken_88 : decode cX5_taken 88 = .ok (.ireturn, 1) := by decide +kernel
theorem dX5_taken_89 : decode cX5_taken 89 = .ok (.iload_n 3, 1) := by decide +kernel
theorem dX5_taken_90 : decode cX5_taken 90 = .ok (.iconst 2, 1) := by decide +kernel
theorem dX5_taken_91 : decode cX5_taken 91 = .ok (.if_icmp .ne 25, 3) := by decide +kernel
theorem dX5_taken_94 : decode cX5_taken 94 = .ok (.aload_n 0, 1) := by decide +kernel
theorem dX5_taken_95 : decode cX5_taken 95 = .ok (.getfield 50, 3) := by decide +kernel
theorem dX5_taken_98 : decode cX5_taken 98 = .ok (.iload_n 1, 1) := by decide +kernel
theorem dX5_taken_99 : decode cX5_taken 99 = .ok (.iaload, 1) := by decide +kernel
theorem dX5_taken_100 : decode cX5_taken 100 = .ok (.iload_n 2, 1) := by decide +kernel
theorem dX5_taken_101 : decode cX5_taken 101 = .ok (.bipush 10, 2) := by decide +kernel
theorem dX5_taken_103 : decode cX5_taken 103 = .ok (.isub, 1) := by decide +kernel
theorem dX5_taken_104 : decode cX5_taken 104 = .ok (.if_icmp .ne 12, 3) := by decide +kernel
theorem dX5_taken_107 : decode cX5_taken 107 = .ok (.aload_n 0, 1) := by decide +kernel
theorem dX5_taken_108 : decode cX5_taken 108 = .ok (.getfield 53, 3) := by decide +kernel
theorem dX5_taken_111 : decode cX5_taken 111 = .ok (.iload_n 1, 1) := by decide +kernel
theorem dX5_taken_112 : decode cX5_taken 112 = .ok (.iaload, 1) := by decide +kernel
theorem dX5_taken_113 : decode cX5_taken 113 = .ok (.goto 5, 3) := by decide +kernel
theorem dX5_taken_116 : decode cX5_taken 116 = .ok (.bipush (-13), 2) := by decide +kernel
theorem dX5_taken_118 : decode cX5_taken 118 = .ok (.ireturn, 1) := by decide +kernel
theorem dX5_runs_0 : decode cX5_runs 0 = .ok (.aload_n 0, 1) := by decide +kernel
theorem dX5_runs_1 : decode cX5_runs 1 = .ok (.getfield 289, 3) := by decide +kernel
theorem dX5_runs_4 : decode cX5_runs 4 = .ok (.bipush 30, 2) := by decide +kernel
theorem dX5_runs_6 : decode cX5_runs 6 = .ok (.if_icmp .ge 23, 3) := by decide +kernel
theorem dX5_runs_9 : decode cX5_runs 9 = .ok (.aload_n 0, 1) := by decide +kernel
theorem dX5_runs_10 : decode cX5_runs 10 = .ok (.getfield 56, 3) := by decide +kernel
theorem dX5_runs_13 : decode cX5_runs 13 = .ok (.aload_n 0, 1) := by decide +kernel
theorem dX5_runs_14 : decode cX5_runs 14 = .ok (.getfield 289, 3) := by decide +kernel
theorem dX5_runs_17 : decode cX5_runs 17 = .ok (.iload_n 1, 1) := by decide +kernel
theorem dX5_runs_18 : decode cX5_runs 18 = .ok (.iastore, 1) := by decide +kernel
theorem dX5_runs_19 : decode cX5_runs 19 = .ok (.aload_n 0, 1) := by decide +kernel
theorem dX5_runs_20 : decode cX5_runs 20 = .ok (.dup, 1) := by decide +kernel
theorem dX5_runs_21 : decode cX5_runs 21 = .ok (.getfield 289, 3) := by decide +kernel
theorem dX5_runs_24 : decode cX5_runs 24 = .ok (.iconst 1, 1) := by decide +kernel
theorem dX5_runs_25 : decode cX5_runs 25 = .ok (.iadd, 1) := by decide +kernel
theorem dX5_runs_26 : decode cX5_runs 26 = .ok (.putfield 289, 3) := by decide +kernel
theorem dX5_runs_29 : decode cX5_runs 29 = .ok (.return_, 1) := by decide +kernel
set_option maxRecDepth 20000 in
theorem ggX5_coughsPlain_X5_runs : GoodIn wsX5_coughsPlain wsX5_runs := goodIn_r _ [6, 7, 8, 9, 10, 11, 12, 13, 14, 15, 16, 17, 18, 19, 20, 21, 22, 23, 24, 25, 26, 27, 28, 29, 30, 31, 32, 33, 34, 35, 36, 37] (by decide +kernel) (by decide +kernel)
set_option maxRecDepth 20000 in
theorem gX5_coughsPlain_X5_runs : GoodIn wsX5_coughsPlain (wsV RX5 292 RX5 yX5_runs wsX5_runs) := goodIn_app (goodIn_of _ (by decide +kernel)) ggX5_coughsPlain_X5_runs
theorem dX5_coughsPlain_0 : decode cX5_coughsPlain 0 = .ok (.aload_n 0, 1) := by decide +kernel
theorem dX5_coughsPlain_1 : decode cX5_coughsPlain 1 = .ok (.bipush 10, 2) := by decide +kernel
theorem dX5_coughsPlain_3 : decode cX5_coughsPlain 3 = .ok (.invokevirtual 292, 3) := by decide +kernel
theorem dX5_coughsPlain_6 : decode cX5_coughsPlain 6 = .ok (.iload_n 1, 1) := by decide +kernel
theorem dX5_coughsPlain_7 : decode cX5_coughsPlain 7 = .ok (.aload_n 0, 1) := by decide +kernel
theorem dX5_coughsPlain_8 : decode cX5_coughsPlain 8 = .ok (.getfield 295, 3) := by decide +kernel
theorem dX5_coughsPlain_11 : decode cX5_coughsPlain 11 = .ok (.bipush 7, 2) := by decide +kernel
theorem dX5_coughsPlain_13 : decode cX5_coughsPlain 13 = .ok (.imul, 1) := by decide +kernel
theorem dX5_coughsPlain_14 : decode cX5_coughsPlain 14 = .ok (.isub, 1) := by decide +kernel
theorem dX5_coughsPlain_15 : decode cX5_coughsPlain 15 = .ok (.ireturn, 1) := by decide +kernel
set_option maxRecDepth 20000 in
theorem ggX5_coughsOfHand_X5_runs : GoodIn wsX5_coughsOfHand wsX5_runs := goodIn_r _ [5, 6, 7, 13, 14, 15, 16, 17, 18, 19, 20, 21, 22, 23, 24, 25, 26, 27, 28, 29, 30, 31, 32, 33, 34, 35, 36, 37, 38, 39, 40, 41] (by decide +kernel) (by decide +kernel)
set_option maxRecDepth 20000 in
theorem gX5_coughsOfHand_X5_runs : GoodIn wsX5_coughsOfHand (wsV RX5 292 RX5 yX5_runs wsX5_runs) := goodIn_app (goodIn_of _ (by decide +kernel)) ggX5_coughsOfHand_X5_runs
set_option maxRecDepth 20000 in
theorem ggX5_coughsOfHand_X5_coughsPlain : GoodIn wsX5_coughsOfHand wsX5_coughsPlain := goodIn_r _ [11, 12, 1, 2, 3, 4, 5, 6, 7, 13, 14, 15, 16, 17, 18, 19, 20, 21, 22, 23, 24, 25, 26, 27, 28, 29, 30, 31, 32, 33, 34, 35, 36, 37, 38, 39, 40, 41] (by decide +kernel) (by decide +kernel)
set_option maxRecDepth 20000 in
theorem gX5_coughsOfHand_X5_coughsPlain : GoodIn wsX5_coughsOfHand (wsV RX5 298 RX5 yX5_coughsPlain wsX5_coughsPlain) := goodIn_app (goodIn_of _ (by decide +kernel)) ggX5_coughsOfHand_X5_coughsPlain
theorem dX5_coughsOfHand_0 : decode cX5_coughsOfHand 0 = .ok (.aload_n 0, 1) := by decide +kernel
theorem dX5_coughsOfHand_1 : decode cX5_coughsOfHand 1 = .ok (.bipush 30, 2) := by decide +kernel
theorem dX5_coughsOfHand_3 : decode cX5_coughsOfHand 3 = .ok (.invokevirtual 292, 3) := by decide +kernel
theorem dX5_coughsOfHand_6 : decode cX5_coughsOfHand 6 = .ok (.aload_n 0, 1) := by decide +kernel
theorem dX5_coughsOfHand_7 : decode cX5_coughsOfHand 7 = .ok (.iload_n 1, 1) := by decide +kernel
theorem dX5_coughsOfHand_8 : decode cX5_coughsOfHand 8 = .ok (.invokevirtual 298, 3) := by decide +kernel
theorem dX5_coughsOfHand_11 : decode cX5_coughsOfHand 11 = .ok (.iconst 1, 1) := by decide +kernel
theorem dX5_coughsOfHand_12 : decode cX5_coughsOfHand 12 = .ok (.ixor, 1) := by decide +kernel
theorem dX5_coughsOfHand_13 : decode cX5_coughsOfHand 13 = .ok (.ireturn, 1) := by decide +kernel
set_option maxRecDepth 20000 in
theorem ggX5_coughs_X5_coughsOfHand : GoodIn wsX5_coughs wsX5_coughsOfHand := goodIn_r _ [6, 7, 8, 9, 5, 10, 11, 12, 13, 14, 15, 16, 17, 18, 19, 20, 21, 22, 23, 24, 25, 26, 27, 28, 29, 30, 31, 32, 33, 34, 35, 36, 37, 38, 39, 40, 41, 42, 43, 44, 45, 46] (by decide +kernel) (by decide +kernel)
set_option maxRecDepth 20000 in
theorem gX5_coughs_X5_coughsOfHand : GoodIn wsX5_coughs (wsV RX5 304 RX5 yX5_coughsOfHand wsX5_coughsOfHand) := goodIn_app (goodIn_of _ (by decide +kernel)) ggX5_coughs_X5_coughsOfHand
set_option maxRecDepth 20000 in
theorem ggX5_coughs_X5_runs : GoodIn wsX5_coughs wsX5_runs := goodIn_r _ [10, 11, 12, 18, 19, 20, 21, 22, 23, 24, 25, 26, 27, 28, 29, 30, 31, 32, 33, 34, 35, 36, 37, 38, 39, 40, 41, 42, 43, 44, 45, 46] (by decide +kernel) (by decide +kernel)
set_option maxRecDepth 20000 in
theorem gX5_coughs_X5_runs : GoodIn wsX5_coughs (wsV RX5 292 RX5 yX5_runs wsX5_runs) := goodIn_app (goodIn_of _ (by decide +kernel)) ggX5_coughs_X5_runs
set_option maxRecDepth 20000 in
theorem ggX5_coughs_X5_coughsPlain : GoodIn wsX5_coughs wsX5_coughsPlain := goodIn_r _ [16, 17, 7, 8, 9, 5, 10, 11, 12, 18, 19, 20, 21, 22, 23, 24, 25, 26, 27, 28, 29, 30, 31, 32, 33, 34, 35, 36, 37, 38, 39, 40, 41, 42, 43, 44, 45, 46] (by decide +kernel) (by decide +kernel)
set_option maxRecDepth 20000 in
theorem gX5_coughs_X5_coughsPlain : GoodIn wsX5_coughs (wsV RX5 298 RX5 yX5_coughsPlain wsX5_coughsPlain) := goodIn_app (goodIn_of _ (by decide +kernel)) ggX5_coughs_X5_coughsPlain
theorem dX5_coughs_0 : decode cX5_coughs 0 = .ok (.aload_n 0, 1) := by decide +kernel
theorem dX5_coughs_1 : decode cX5_coughs 1 = .ok (.getfield 301, 3) := by decide +kernel
theorem dX5_coughs_4 : decode cX5_coughs 4 = .ok (.tableswitch 62 2 4 #[28, 48, 34], 28) := by decide +kernel
theorem dX5_coughs_32 : decode cX5_coughs 32 = .ok (.aload_n 0, 1) := by decide +kernel
theorem dX5_coughs_33 : decode cX5_coughs 33 = .ok (.iload_n 1, 1) := by decide +kernel
theorem dX5_coughs_34 : decode cX5_coughs 34 = .ok (.invokevirtual 304, 3) := by decide +kernel
theorem dX5_coughs_37 : decode cX5_coughs 37 = .ok (.ireturn, 1) := by decide +kernel
theorem dX5_coughs_38 : decode cX5_coughs 38 = .ok (.aload_n 0, 1) := by decide +kernel
theorem dX5_coughs_39 : decode cX5_coughs 39 = .ok (.bipush 40, 2) := by decide +kernel
theorem dX5_coughs_41 : decode cX5_coughs 41 = .ok (.invokevirtual 292, 3) := by decide +kernel
theorem dX5_coughs_44 : decode cX5_coughs 44 = .ok (.iconst 0, 1) := by decide +kernel
theorem dX5_coughs_45 : decode cX5_coughs 45 = .ok (.aload_n 0, 1) := by decide +kernel
theorem dX5_coughs_46 : decode cX5_coughs 46 = .ok (.iload_n 1, 1) := by decide +kernel
theorem dX5_coughs_47 : decode cX5_coughs 47 = .ok (.invokevirtual 304, 3) := by decide +kernel
theorem dX5_coughs_50 : decode cX5_coughs 50 = .ok (.isub, 1) := by decide +kernel
theorem dX5_coughs_51 : decode cX5_coughs 51 = .ok (.ireturn, 1) := by decide +kernel
theorem dX5_coughs_52 : decode cX5_coughs 52 = .ok (.aload_n 0, 1) := by decide +kernel
theorem dX5_coughs_53 : decode cX5_coughs 53 = .ok (.bipush 51, 2) := by decide +kernel
theorem dX5_coughs_55 : decode cX5_coughs 55 = .ok (.invokevirtual 292, 3) := by decide +kernel
theorem dX5_coughs_58 : decode cX5_coughs 58 = .ok (.aload_n 0, 1) := by decide +kernel
theorem dX5_coughs_59 : decode cX5_coughs 59 = .ok (.iload_n 1, 1) := by decide +kernel
theorem dX5_coughs_60 : decode cX5_coughs 60 = .ok (.invokevirtual 298, 3) := by decide +kernel
theorem dX5_coughs_63 : decode cX5_coughs 63 = .ok (.iconst 3, 1) := by decide +kernel
theorem dX5_coughs_64 : decode cX5_coughs 64 = .ok (.imul, 1) := by decide +kernel
theorem dX5_coughs_65 : decode cX5_coughs 65 = .ok (.ireturn, 1) := by decide +kernel
theorem dX5_coughs_66 : decode cX5_coughs 66 = .ok (.aload_n 0, 1) := by decide +kernel
theorem dX5_coughs_67 : decode cX5_coughs 67 = .ok (.iload_n 1, 1) := by decide +kernel
theorem dX5_coughs_68 : decode cX5_coughs 68 = .ok (.invokevirtual 298, 3) := by decide +kernel
theorem dX5_coughs_71 : decode cX5_coughs 71 = .ok (.ireturn, 1) := by decide +kernel
set_option maxRecDepth 20000 in
theorem ggX5_laughsPlain_X5_runs : GoodIn wsX5_laughsPlain wsX5_runs := goodIn_r _ [6, 7, 8, 23, 24, 25, 26, 27, 28, 29, 30, 31, 32, 33, 34, 35, 36, 37, 38, 39, 40, 41, 42, 43, 44, 45, 46, 47, 48, 49, 50, 51] (by decide +kernel) (by decide +kernel)
set_option maxRecDepth 20000 in
theorem gX5_laughsPlain_X5_runs : GoodIn wsX5_laughsPlain (wsV RX5 292 RX5 yX5_runs wsX5_runs) := goodIn_app (goodIn_of _ (by decide +kernel)) ggX5_laughsPlain_X5_runs
set_option maxRecDepth 20000 in
theorem ggX5_laughsPlain_X5_coughs : GoodIn wsX5_laughsPlain wsX5_coughs := goodIn_r _ [12, 13, 14, 15, 16, 5, 17, 2, 3, 4, 6, 7, 8, 18, 19, 20, 21, 22, 23, 24, 25, 26, 27, 28, 29, 30, 31, 32, 33, 34, 35, 36, 37, 38, 39, 40, 41, 42, 43, 44, 45, 46, 47, 48, 49, 50, 51] (by decide +kernel) (by decide +kernel)
set_option maxRecDepth 20000 in
theorem gX5_laughsPlain_X5_coughs : GoodIn wsX5_laughsPlain (wsV RX5 307 RX5 yX5_coughs wsX5_coughs) := goodIn_app (goodIn_of _ (by decide +kernel)) ggX5_laughsPlain_X5_coughs
theorem dX5_laughsPlain_0 : decode cX5_laughsPlain 0 = .ok (.aload_n 0, 1) := by decide +kernel
theorem dX5_laughsPlain_1 : decode cX5_laughsPlain 1 = .ok (.bipush 11, 2) := by decide +kernel
theorem dX5_laughsPlain_3 : decode cX5_laughsPlain 3 = .ok (.invokevirtual 292, 3) := by decide +kernel
theorem dX5_laughsPlain_6 : decode cX5_laughsPlain 6 = .ok (.aload_n 0, 1) := by decide +kernel
theorem dX5_laughsPlain_7 : decode cX5_laughsPlain 7 = .ok (.iload_n 1, 1) := by decide +kernel
theorem dX5_laughsPlain_8 : decode cX5_laughsPlain 8 = .ok (.invokevirtual 307, 3) := by decide +kernel
theorem dX5_laughsPlain_11 : decode cX5_laughsPlain 11 = .ok (.iconst 2, 1) := by decide +kernel
theorem dX5_laughsPlain_12 : decode cX5_laughsPlain 12 = .ok (.imul, 1) := by decide +kernel
theorem dX5_laughsPlain_13 : decode cX5_laughsPlain 13 = .ok (.aload_n 0, 1) := by decide +kernel
theorem dX5_laughsPlain_14 : decode cX5_laughsPlain 14 = .ok (.getfield 310, 3) := by decide +kernel
theorem dX5_laughsPlain_17 : decode cX5_laughsPlain 17 = .ok (.iadd, 1) := by decide +kernel
theorem dX5_laughsPlain_18 : decode cX5_laughsPlain 18 = .ok (.ireturn, 1) := by decide +kernel
set_option maxRecDepth 20000 in
theorem ggX5_laughs_X5_runs : GoodIn wsX5_laughs wsX5_runs := goodIn_r _ [7, 8, 9, 27, 28, 29, 30, 31, 32, 33, 34, 35, 36, 37, 38, 39, 40, 41, 42, 43, 44, 45, 46, 47, 48, 49, 50, 51, 52, 53, 54, 55] (by decide +kernel) (by decide +kernel)
set_option maxRecDepth 20000 in
theorem gX5_laughs_X5_runs : GoodIn wsX5_laughs (wsV RX5 292 RX5 yX5_runs wsX5_runs) := goodIn_app (goodIn_of _ (by decide +kernel)) ggX5_laughs_X5_runs
set_option maxRecDepth 20000 in
theorem ggX5_laughs_X5_laughsPlain : GoodIn wsX5_laughs wsX5_laughsPlain := goodIn_r _ [13, 2, 3, 4, 5, 6, 7, 8, 9, 14, 15, 16, 17, 1, 18, 19, 20, 21, 22, 23, 24, 25, 26, 27, 28, 29, 30, 31, 32, 33, 34, 35, 36, 37, 38, 39, 40, 41, 42, 43, 44, 45, 46, 47, 48, 49, 50, 51, 52, 53, 54, 55] (by decide +kernel) (by decide +kernel)
set_option maxRecDepth 20000 in
theorem gX5_laughs_X5_laughsPlain : GoodIn wsX5_laughs (wsV RX5 313 RX5 yX5_laughsPlain wsX5_laughsPlain) := goodIn_app (goodIn_of _ (by decide +kernel)) ggX5_laughs_X5_laughsPlain
set_option maxRecDepth 20000 in
theorem ggX5_laughs_X5_coughs : GoodIn wsX5_laughs wsX5_coughs := goodIn_r _ [17, 1, 18, 19, 20, 6, 21, 3, 4, 5, 7, 8, 9, 22, 23, 24, 25, 26, 27, 28, 29, 30, 31, 32, 33, 34, 35, 36, 37, 38, 39, 40, 41, 42, 43, 44, 45, 46, 47, 48, 49, 50, 51, 52, 53, 54, 55] (by decide +kernel) (by decide +kernel)
set_option maxRecDepth 20000 in
theorem gX5_laughs_X5_coughs : GoodIn wsX5_laughs (wsV RX5 307 RX5 yX5_coughs wsX5_coughs) := goodIn_app (goodIn_of _ (by decide +kernel)) ggX5_laughs_X5_coughs
theorem dX5_laughs_0 : decode cX5_laughs 0 = .ok (.aload_n 0, 1) := by decide +kernel
theorem dX5_laughs_1 : decode cX5_laughs 1 = .ok (.getfield 301, 3) := by decide +kernel
theorem dX5_laughs_4 : decode cX5_laughs 4 = .ok (.iconst 1, 1) := by decide +kernel
theorem dX5_laughs_5 : decode cX5_laughs 5 = .ok (.if_icmp .eq 11, 3) := by decide +kernel
theorem dX5_laughs_8 : decode cX5_laughs 8 = .ok (.aload_n 0, 1) := by decide +kernel
theorem dX5_laughs_9 : decode cX5_laughs 9 = .ok (.getfield 301, 3) := by decide +kernel
theorem dX5_laughs_12 : decode cX5_laughs 12 = .ok (.iconst 3, 1) := by decide +kernel
theorem dX5_laughs_13 : decode cX5_laughs 13 = .ok (.if_icmp .ne 18, 3) := by decide +kernel
theorem dX5_laughs_16 : decode cX5_laughs 16 = .ok (.aload_n 0, 1) := by decide +kernel
theorem dX5_laughs_17 : decode cX5_laughs 17 = .ok (.bipush 20, 2) := by decide +kernel
theorem dX5_laughs_19 : decode cX5_laughs 19 = .ok (.invokevirtual 292, 3) := by decide +kernel
theorem dX5_laughs_22 : decode cX5_laughs 22 = .ok (.aload_n 0, 1) := by decide +kernel
theorem dX5_laughs_23 : decode cX5_laughs 23 = .ok (.iload_n 1, 1) := by decide +kernel
theorem dX5_laughs_24 : decode cX5_laughs 24 = .ok (.invokevirtual 313, 3) := by decide +kernel
theorem dX5_laughs_27 : decode cX5_laughs 27 = .ok (.bipush 8, 2) := by decide +kernel
theorem dX5_laughs_29 : decode cX5_laughs 29 = .ok (.isub, 1) := by decide +kernel
theorem dX5_laughs_30 : decode cX5_laughs 30 = .ok (.ireturn, 1) := by decide +kernel
theorem dX5_laughs_31 : decode cX5_laughs 31 = .ok (.aload_n 0, 1) := by decide +kernel
theorem dX5_laughs_32 : decode cX5_laughs 32 = .ok (.getfield 301, 3) := by decide +kernel
theorem dX5_laughs_35 : decode cX5_laughs 35 = .ok (.iconst 4, 1) := by decide +kernel
theorem dX5_laughs_36 : decode cX5_laughs 36 = .ok (.if_icmp .ne 26, 3) := by decide +kernel
theorem dX5_laughs_39 : decode cX5_laughs 39 = .ok (.aload_n 0, 1) := by decide +kernel
theorem dX5_laughs_40 : decode cX5_laughs 40 = .ok (.bipush 41, 2) := by decide +kernel
theorem dX5_laughs_42 : decode cX5_laughs 42 = .ok (.invokevirtual 292, 3) := by decide +kernel
theorem dX5_laughs_45 : decode cX5_laughs 45 = .ok (.aload_n 0, 1) := by decide +kernel
theorem dX5_laughs_46 : decode cX5_laughs 46 = .ok (.iload_n 1, 1) := by decide +kernel
theorem dX5_laughs_47 : decode cX5_laughs 47 = .ok (.invokevirtual 313, 3) := by decide +kernel
theorem dX5_laughs_50 : decode cX5_laughs 50 = .ok (.istore_n 2, 1) := by decide +kernel
theorem dX5_laughs_51 : decode cX5_laughs 51 = .ok (.iload_n 2, 1) := by decide +kernel
theorem dX5_laughs_52 : decode cX5_laughs 52 = .ok (.aload_n 0, 1) := by decide +kernel
theorem dX5_laughs_53 : decode cX5_laughs 53 = .ok (.aload_n 0, 1) := by decide +kernel
theorem dX5_laughs_54 : decode cX5_laughs 54 = .ok (.getfield 310, 3) := by decide +kernel
theorem dX5_laughs_57 : decode cX5_laughs 57 = .ok (.invokevirtual 307, 3) := by decide +kernel
theorem dX5_laughs_60 : decode cX5_laughs 60 = .ok (.iadd, 1) := by decide +kernel
theorem dX5_laughs_61 : decode cX5_laughs 61 = .ok (.ireturn, 1) := by decide +kernel
theorem dX5_laughs_62 : decode cX5_laughs 62 = .ok (.aload_n 0, 1) := by decide +kernel
theorem dX5_laughs_63 : decode cX5_laughs 63 = .ok (.iload_n 1, 1) := by decide +kernel
theorem dX5_laughs_64 : decode cX5_laughs 64 = .ok (.invokevirtual 313, 3) := by decide +kernel
theorem dX5_laughs_67 : decode cX5_laughs 67 = .ok (.ireturn, 1) := by decide +kernel
set_option maxRecDepth 20000 in
theorem ggX5_partsPlain_X5_runs : GoodIn wsX5_partsPlain wsX5_runs := goodIn_r _ [8, 9, 10, 11, 12, 13, 14, 15, 16, 17, 18, 19, 20, 21, 22, 23, 24, 25, 26, 27, 28, 29, 30, 31, 32, 33, 34, 35, 36, 37, 38, 39] (by decide +kernel) (by decide +kernel)
set_option maxRecDepth 20000 in
theorem gX5_partsPlain_X5_runs : GoodIn wsX5_partsPlain (wsV RX5 292 RX5 yX5_runs wsX5_runs) := goodIn_app (goodIn_of _ (by decide +kernel)) ggX5_partsPlain_X5_runs
theorem dX5_partsPlain_0 : decode cX5_partsPlain 0 = .ok (.aload_n 0, 1) := by decide +kernel
theorem dX5_partsPlain_1 : decode cX5_partsPlain 1 = .ok (.bipush 12, 2) := by decide +kernel
theorem dX5_partsPlain_3 : decode cX5_partsPlain 3 = .ok (.invokevirtual 292, 3) := by decide +kernel
theorem dX5_partsPlain_6 : decode cX5_partsPlain 6 = .ok (.aload_n 0, 1) := by decide +kernel
theorem dX5_partsPlain_7 : decode cX5_partsPlain 7 = .ok (.aload_n 0, 1) := by decide +kernel
theorem dX5_partsPlain_8 : decode cX5_partsPlain 8 = .ok (.getfield 316, 3) := by decide +kernel
theorem dX5_partsPlain_11 : decode cX5_partsPlain 11 = .ok (.ifCond .ne 14, 3) := by decide +kernel
theorem dX5_partsPlain_14 : decode cX5_partsPlain 14 = .ok (.aload_n 0, 1) := by decide +kernel
theorem dX5_partsPlain_15 : decode cX5_partsPlain 15 = .ok (.getfield 295, 3) := by decide +kernel
theorem dX5_partsPlain_18 : decode cX5_partsPlain 18 = .ok (.aload_n 0, 1) := by decide +kernel
theorem dX5_partsPlain_19 : decode cX5_partsPlain 19 = .ok (.getfield 310, 3) := by decide +kernel
theorem dX5_partsPlain_22 : decode cX5_partsPlain 22 = .ok (.if_icmp .ne 7, 3) := by decide +kernel
theorem dX5_partsPlain_25 : decode cX5_partsPlain 25 = .ok (.iconst 1, 1) := by decide +kernel
theorem dX5_partsPlain_26 : decode cX5_partsPlain 26 = .ok (.goto 4, 3) := by decide +kernel
theorem dX5_partsPlain_29 : decode cX5_partsPlain 29 = .ok (.iconst 0, 1) := by decide +kernel
theorem dX5_partsPlain_30 : decode cX5_partsPlain 30 = .ok (.putfield 316, 3) := by decide +kernel
theorem dX5_partsPlain_33 : decode cX5_partsPlain 33 = .ok (.aload_n 0, 1) := by decide +kernel
theorem dX5_partsPlain_34 : decode cX5_partsPlain 34 = .ok (.getfield 316, 3) := by decide +kernel
theorem dX5_partsPlain_37 : decode cX5_partsPlain 37 = .ok (.ifCond .eq 7, 3) := by decide +kernel
theorem dX5_partsPlain_40 : decode cX5_partsPlain 40 = .ok (.iconst 0, 1) := by decide +kernel
theorem dX5_partsPlain_41 : decode cX5_partsPlain 41 = .ok (.goto 14, 3) := by decide +kernel
theorem dX5_partsPlain_44 : decode cX5_partsPlain 44 = .ok (.iload_n 1, 1) := by decide +kernel
theorem dX5_partsPlain_45 : decode cX5_partsPlain 45 = .ok (.aload_n 0, 1) := by decide +kernel
theorem dX5_partsPlain_46 : decode cX5_partsPlain 46 = .ok (.getfield 310, 3) := by decide +kernel
theorem dX5_partsPlain_49 : decode cX5_partsPlain 49 = .ok (.aload_n 0, 1) := by decide +kernel
theorem dX5_partsPlain_50 : decode cX5_partsPlain 50 = .ok (.getfield 295, 3) := by decide +kernel
theorem dX5_partsPlain_53 : decode cX5_partsPlain 53 = .ok (.isub, 1) := by decide +kernel
theorem dX5_partsPlain_54 : decode cX5_partsPlain 54 = .ok (.idiv, 1) := by decide +kernel
theorem dX5_partsPlain_55 : decode cX5_partsPlain 55 = .ok (.ireturn, 1) := by decide +kernel
set_option maxRecDepth 20000 in
theorem ggX5_parts_X5_runs : GoodIn wsX5_parts wsX5_runs := goodIn_r _ [9, 10, 11, 28, 29, 30, 31, 32, 33, 34, 35, 36, 37, 38, 39, 40, 41, 42, 43, 44, 45, 46, 47, 48, 49, 50, 51, 52, 53, 54, 55, 56] (by decide +kernel) (by decide +kernel)
set_option maxRecDepth 20000 in
theorem gX5_parts_X5_runs : GoodIn wsX5_parts (wsV RX5 292 RX5 yX5_runs wsX5_runs) := goodIn_app (goodIn_of _ (by decide +kernel)) ggX5_parts_X5_runs
set_option maxRecDepth 20000 in
theorem ggX5_parts_X5_partsPlain : GoodIn wsX5_parts wsX5_partsPlain := goodIn_r _ [15, 4, 3, 2, 5, 6, 7, 8, 9, 10, 11, 28, 29, 30, 31, 32, 33, 34, 35, 36, 37, 38, 39, 40, 41, 42, 43, 44, 45, 46, 47, 48, 49, 50, 51, 52, 53, 54, 55, 56] (by decide +kernel) (by decide +kernel)
set_option maxRecDepth 20000 in
theorem gX5_parts_X5_partsPlain : GoodIn wsX5_parts (wsV RX5 319 RX5 yX5_partsPlain wsX5_partsPlain) := goodIn_app (goodIn_of _ (by decide +kernel)) ggX5_parts_X5_partsPlain
set_option maxRecDepth 20000 in
theorem ggX5_parts_X5_coughs : GoodIn wsX5_parts wsX5_coughs := goodIn_r _ [19, 1, 20, 21, 22, 8, 23, 5, 6, 7, 9, 10, 11, 24, 25, 26, 27, 3, 28, 29, 30, 31, 32, 33, 34, 35, 36, 37, 38, 39, 40, 41, 42, 43, 44, 45, 46, 47, 48, 49, 50, 51, 52, 53, 54, 55, 56] (by decide +kernel) (by decide +kernel)
set_option maxRecDepth 20000 in
theorem gX5_parts_X5_coughs : GoodIn wsX5_parts (wsV RX5 307 RX5 yX5_coughs wsX5_coughs) := goodIn_app (goodIn_of _ (by decide +kernel)) ggX5_parts_X5_coughs
theorem dX5_parts_0 : decode cX5_parts 0 = .ok (.aload_n 0, 1) := by decide +kernel
theorem dX5_parts_1 : decode cX5_parts 1 = .ok (.getfield 301, 3) := by decide +kernel
theorem dX5_parts_4 : decode cX5_parts 4 = .ok (.iconst 3, 1) := by decide +kernel
theorem dX5_parts_5 : decode cX5_parts 5 = .ok (.if_icmp .ne 25, 3) := by decide +kernel
theorem dX5_parts_8 : decode cX5_parts 8 = .ok (.aload_n 0, 1) := by decide +kernel
theorem dX5_parts_9 : decode cX5_parts 9 = .ok (.bipush 50, 2) := by decide +kernel
theorem dX5_parts_11 : decode cX5_parts 11 = .ok (.invokevirtual 292, 3) := by decide +kernel
theorem dX5_parts_14 : decode cX5_parts 14 = .ok (.aload_n 0, 1) := by decide +kernel
theorem dX5_parts_15 : decode cX5_parts 15 = .ok (.iload_n 1, 1) := by decide +kernel
theorem dX5_parts_16 : decode cX5_parts 16 = .ok (.aload_n 0, 1) := by decide +kernel
theorem dX5_parts_17 : decode cX5_parts 17 = .ok (.getfield 310, 3) := by decide +kernel
theorem dX5_parts_20 : decode cX5_parts 20 = .ok (.iadd, 1) := by decide +kernel
theorem dX5_parts_21 : decode cX5_parts 21 = .ok (.invokevirtual 319, 3) := by decide +kernel
theorem dX5_parts_24 : decode cX5_parts 24 = .ok (.aload_n 0, 1) := by decide +kernel
theorem dX5_parts_25 : decode cX5_parts 25 = .ok (.getfield 295, 3) := by decide +kernel
theorem dX5_parts_28 : decode cX5_parts 28 = .ok (.isub, 1) := by decide +kernel
theorem dX5_parts_29 : decode cX5_parts 29 = .ok (.ireturn, 1) := by decide +kernel
theorem dX5_parts_30 : decode cX5_parts 30 = .ok (.aload_n 0, 1) := by decide +kernel
theorem dX5_parts_31 : decode cX5_parts 31 = .ok (.getfield 301, 3) := by decide +kernel
theorem dX5_parts_34 : decode cX5_parts 34 = .ok (.iconst 5, 1) := by decide +kernel
theorem dX5_parts_35 : decode cX5_parts 35 = .ok (.if_icmp .ne 37, 3) := by decide +kernel
theorem dX5_parts_38 : decode cX5_parts 38 = .ok (.aload_n 0, 1) := by decide +kernel
theorem dX5_parts_39 : decode cX5_parts 39 = .ok (.bipush 61, 2) := by decide +kernel
theorem dX5_parts_41 : decode cX5_parts 41 = .ok (.invokevirtual 292, 3) := by decide +kernel
theorem dX5_parts_44 : decode cX5_parts 44 = .ok (.aload_n 0, 1) := by decide +kernel
theorem dX5_parts_45 : decode cX5_parts 45 = .ok (.iload_n 1, 1) := by decide +kernel
theorem dX5_parts_46 : decode cX5_parts 46 = .ok (.invokevirtual 319, 3) := by decide +kernel
theorem dX5_parts_49 : decode cX5_parts 49 = .ok (.istore_n 2, 1) := by decide +kernel
theorem dX5_parts_50 : decode cX5_parts 50 = .ok (.aload_n 0, 1) := by decide +kernel
theorem dX5_parts_51 : decode cX5_parts 51 = .ok (.getfield 316, 3) := by decide +kernel
theorem dX5_parts_54 : decode cX5_parts 54 = .ok (.ifCond .eq 7, 3) := by decide +kernel
theorem dX5_parts_57 : decode cX5_parts 57 = .ok (.iconst 0, 1) := by decide +kernel
theorem dX5_parts_58 : decode cX5_parts 58 = .ok (.goto 13, 3) := by decide +kernel
theorem dX5_parts_61 : decode cX5_parts 61 = .ok (.iload_n 2, 1) := by decide +kernel
theorem dX5_parts_62 : decode cX5_parts 62 = .ok (.aload_n 0, 1) := by decide +kernel
theorem dX5_parts_63 : decode cX5_parts 63 = .ok (.aload_n 0, 1) := by decide +kernel
theorem dX5_parts_64 : decode cX5_parts 64 = .ok (.getfield 295, 3) := by decide +kernel
theorem dX5_parts_67 : decode cX5_parts 67 = .ok (.invokevirtual 307, 3) := by decide +kernel
theorem dX5_parts_70 : decode cX5_parts 70 = .ok (.ixor, 1) := by decide +kernel
theorem dX5_parts_71 : decode cX5_parts 71 = .ok (.ireturn, 1) := by decide +kernel
theorem dX5_parts_72 : decode cX5_parts 72 = .ok (.aload_n 0, 1) := by decide +kernel
theorem dX5_parts_73 : decode cX5_parts 73 = .ok (.iload_n 1, 1) := by decide +kernel
theorem dX5_parts_74 : decode cX5_parts 74 = .ok (.invokevirtual 319, 3) := by decide +kernel
theorem dX5_parts_77 : decode cX5_parts 77 = .ok (.ireturn, 1) := by decide +kernel
set_option maxRecDepth 20000 in
theorem ggX5_risesPlain_X5_runs : GoodIn wsX5_risesPlain wsX5_runs := goodIn_r _ [5, 6, 7, 31, 32, 33, 34, 35, 36, 37, 38, 39, 40, 41, 42, 43, 44, 45, 46, 47, 48, 49, 50, 51, 52, 53, 54, 55, 56, 57, 58, 59] (by decide +kernel) (by decide +kernel)
set_option maxRecDepth 20000 in
theorem gX5_risesPlain_X5_runs : GoodIn wsX5_risesPlain (wsV RX5 292 RX5 yX5_runs wsX5_runs) := goodIn_app (goodIn_of _ (by decide +kernel)) ggX5_risesPlain_X5_runs
set_option maxRecDepth 20000 in
theorem ggX5_risesPlain_X5_laughs : GoodIn wsX5_risesPlain wsX5_laughs := goodIn_r _ [11, 12, 13, 1, 2, 3, 4, 5, 6, 7, 14, 15, 16, 17, 18, 19, 20, 21, 22, 23, 24, 25, 26, 27, 28, 29, 30, 31, 32, 33, 34, 35, 36, 37, 38, 39, 40, 41, 42, 43, 44, 45, 46, 47, 48, 49, 50, 51, 52, 53, 54, 55, 56, 57, 58, 59] (by decide +kernel) (by decide +kernel)
set_option maxRecDepth 20000 in
theorem gX5_risesPlain_X5_laughs : GoodIn wsX5_risesPlain (wsV RX5 322 RX5 yX5_laughs wsX5_laughs) := goodIn_app (goodIn_of _ (by decide +kernel)) ggX5_risesPlain_X5_laughs
theorem dX5_risesPlain_0 : decode cX5_risesPlain 0 = .ok (.aload_n 0, 1) := by decide +kernel
theorem dX5_risesPlain_1 : decode cX5_risesPlain 1 = .ok (.bipush 13, 2) := by decide +kernel
theorem dX5_risesPlain_3 : decode cX5_risesPlain 3 = .ok (.invokevirtual 292, 3) := by decide +kernel
theorem dX5_risesPlain_6 : decode cX5_risesPlain 6 = .ok (.aload_n 0, 1) := by decide +kernel
theorem dX5_risesPlain_7 : decode cX5_risesPlain 7 = .ok (.iload_n 1, 1) := by decide +kernel
theorem dX5_risesPlain_8 : decode cX5_risesPlain 8 = .ok (.invokevirtual 322, 3) := by decide +kernel
theorem dX5_risesPlain_11 : decode cX5_risesPlain 11 = .ok (.bipush 90, 2) := by decide +kernel
theorem dX5_risesPlain_13 : decode cX5_risesPlain 13 = .ok (.ixor, 1) := by decide +kernel
theorem dX5_risesPlain_14 : decode cX5_risesPlain 14 = .ok (.ireturn, 1) := by decide +kernel
set_option maxRecDepth 20000 in
theorem ggX5_rises_X5_runs : GoodIn wsX5_rises wsX5_runs := goodIn_r _ [7, 8, 9, 44, 45, 46, 47, 48, 49, 50, 51, 52, 53, 54, 55, 56, 57, 58, 59, 60, 61, 62, 63, 64, 65, 66, 67, 68, 69, 70, 71, 72] (by decide +kernel) (by decide +kernel)
set_option maxRecDepth 20000 in
theorem gX5_rises_X5_runs : GoodIn wsX5_rises (wsV RX5 292 RX5 yX5_runs wsX5_runs) := goodIn_app (goodIn_of _ (by decide +kernel)) ggX5_rises_X5_runs
set_option maxRecDepth 20000 in
theorem ggX5_rises_X5_risesPlain : GoodIn wsX5_rises wsX5_risesPlain := goodIn_r _ [13, 3, 4, 5, 6, 7, 8, 9, 14, 15, 16, 17, 1, 18, 19, 20, 21, 22, 23, 24, 25, 26, 27, 28, 29, 30, 31, 32, 33, 34, 2, 44, 45, 46, 47, 48, 49, 50, 51, 52, 53, 54, 55, 56, 57, 58, 59, 60, 61, 62, 63, 64, 65, 66, 67, 68, 69, 70, 71, 72] (by decide +kernel) (by decide +kernel)
set_option maxRecDepth 20000 in
theorem gX5_rises_X5_risesPlain : GoodIn wsX5_rises (wsV RX5 325 RX5 yX5_risesPlain wsX5_risesPlain) := goodIn_app (goodIn_of _ (by decide +kernel)) ggX5_rises_X5_risesPlain
set_option maxRecDepth 20000 in
theorem ggX5_rises_X5_parts : GoodIn wsX5_rises wsX5_parts := goodIn_r _ [38, 1, 18, 2, 39, 3, 4, 5, 6, 7, 8, 9, 40, 41, 42, 43, 23, 24, 25, 26, 27, 28, 29, 30, 31, 32, 33, 34, 44, 45, 46, 47, 48, 49, 50, 51, 52, 53, 54, 55, 56, 57, 58, 59, 60, 61, 62, 63, 64, 65, 66, 67, 68, 69, 70, 71, 72] (by decide +kernel) (by decide +kernel)
set_option maxRecDepth 20000 in
theorem gX5_rises_X5_parts : GoodIn wsX5_rises (wsV RX5 328 RX5 yX5_parts wsX5_parts) := goodIn_app (goodIn_of _ (by decide +kernel)) ggX5_rises_X5_parts
theorem dX5_rises_0 : decode cX5_rises 0 = .ok (.aload_n 0, 1) := by decide +kernel
theorem dX5_rises_1 : decode cX5_rises 1 = .ok (.getfield 301, 3) := by decide +kernel
theorem dX5_rises_4 : decode cX5_rises 4 = .ok (.iconst 2, 1) := by decide +kernel
theorem dX5_rises_5 : decode cX5_rises 5 = .ok (.if_icmp .eq 11, 3) := by decide +kernel
theorem dX5_rises_8 : decode cX5_rises 8 = .ok (.aload_n 0, 1) := by decide +kernel
theorem dX5_rises_9 : decode cX5_rises 9 = .ok (.getfield 301, 3) := by decide +kernel
theorem dX5_rises_12 : decode cX5_rises 12 = .ok (.iconst 4, 1) := by decide +kernel
theorem dX5_rises_13 : decode cX5_rises 13 = .ok (.if_icmp .ne 26, 3) := by decide +kernel
theorem dX5_rises_16 : decode cX5_rises 16 = .ok (.aload_n 0, 1) := by decide +kernel
theorem dX5_rises_17 : decode cX5_rises 17 = .ok (.bipush 31, 2) := by decide +kernel
theorem dX5_rises_19 : decode cX5_rises 19 = .ok (.invokevirtual 292, 3) := by decide +kernel
theorem dX5_rises_22 : decode cX5_rises 22 = .ok (.aload_n 0, 1) := by decide +kernel
theorem dX5_rises_23 : decode cX5_rises 23 = .ok (.iload_n 1, 1) := by decide +kernel
theorem dX5_rises_24 : decode cX5_rises 24 = .ok (.invokevirtual 325, 3) := by decide +kernel
theorem dX5_rises_27 : decode cX5_rises 27 = .ok (.istore_n 2, 1) := by decide +kernel
theorem dX5_rises_28 : decode cX5_rises 28 = .ok (.iload_n 2, 1) := by decide +kernel
theorem dX5_rises_29 : decode cX5_rises 29 = .ok (.aload_n 0, 1) := by decide +kernel
theorem dX5_rises_30 : decode cX5_rises 30 = .ok (.aload_n 0, 1) := by decide +kernel
theorem dX5_rises_31 : decode cX5_rises 31 = .ok (.getfield 295, 3) := by decide +kernel
theorem dX5_rises_34 : decode cX5_rises 34 = .ok (.invokevirtual 328, 3) := by decide +kernel
theorem dX5_rises_37 : decode cX5_rises 37 = .ok (.isub, 1) := by decide +kernel
theorem dX5_rises_38 : decode cX5_rises 38 = .ok (.ireturn, 1) := by decide +kernel
theorem dX5_rises_39 : decode cX5_rises 39 = .ok (.aload_n 0, 1) := by decide +kernel
theorem dX5_rises_40 : decode cX5_rises 40 = .ok (.getfield 301, 3) := by decide +kernel
theorem dX5_rises_43 : decode cX5_rises 43 = .ok (.iconst 5, 1) := by decide +kernel
theorem dX5_rises_44 : decode cX5_rises 44 = .ok (.if_icmp .ne 17, 3) := by decide +kernel
theorem dX5_rises_47 : decode cX5_rises 47 = .ok (.aload_n 0, 1) := by decide +kernel
theorem dX5_rises_48 : decode cX5_rises 48 = .ok (.bipush 60, 2) := by decide +kernel
theorem dX5_rises_50 : decode cX5_rises 50 = .ok (.invokevirtual 292, 3) := by decide +kernel
theorem dX5_rises_53 : decode cX5_rises 53 = .ok (.iconst 5, 1) := by decide +kernel
theorem dX5_rises_54 : decode cX5_rises 54 = .ok (.aload_n 0, 1) := by decide +kernel
theorem dX5_rises_55 : decode cX5_rises 55 = .ok (.iload_n 1, 1) := by decide +kernel
theorem dX5_rises_56 : decode cX5_rises 56 = .ok (.invokevirtual 325, 3) := by decide +kernel
theorem dX5_rises_59 : decode cX5_rises 59 = .ok (.isub, 1) := by decide +kernel
theorem dX5_rises_60 : decode cX5_rises 60 = .ok (.ireturn, 1) := by decide +kernel
theorem dX5_rises_61 : decode cX5_rises 61 = .ok (.aload_n 0, 1) := by decide +kernel
theorem dX5_rises_62 : decode cX5_rises 62 = .ok (.iload_n 1, 1) := by decide +kernel
theorem dX5_rises_63 : decode cX5_rises 63 = .ok (.invokevirtual 325, 3) := by decide +kernel
theorem dX5_rises_66 : decode cX5_rises 66 = .ok (.ireturn, 1) := by decide +kernel
set_option maxRecDepth 20000 in
theorem ggX5_act_X5_isShelf : GoodIn wsX5_act wsX5_isShelf := goodIn_r _ [11, 2, 12, 13, 10, 14] (by decide +kernel) (by decide +kernel)
set_option maxRecDepth 20000 in
theorem gX5_act_X5_isShelf : GoodIn wsX5_act (va_wsS RX5 276 yX5_isShelf wsX5_isShelf) := goodIn_app (goodIn_of _ (by decide +kernel)) ggX5_act_X5_isShelf
set_option maxRecDepth 20000 in
theorem ggX5_act_X5_isIn : GoodIn wsX5_act wsX5_isIn := goodIn_r _ [14] (by decide +kernel) (by decide +kernel)
set_option maxRecDepth 20000 in
theorem gX5_act_X5_isIn : GoodIn wsX5_act (va_wsS RX5 64 yX5_isIn wsX5_isIn) := goodIn_app (goodIn_of _ (by decide +kernel)) ggX5_act_X5_isIn
set_option maxRecDepth 20000 in
theorem ggX5_act_X5_heldOn : GoodIn wsX5_act wsX5_heldOn := goodIn_r _ [18, 19, 4, 20, 21, 22, 10, 23, 24, 70, 71, 72, 73, 74, 75, 76, 77, 78, 79, 80, 81, 82, 83, 84, 85, 86, 87, 88, 89, 90, 91, 92, 93, 94, 95, 96, 97, 98] (by decide +kernel) (by decide +kernel)
set_option maxRecDepth 20000 in
theorem gX5_act_X5_heldOn : GoodIn wsX5_act (wsV RX5 283 RX5 yX5_heldOn wsX5_heldOn) := goodIn_app (goodIn_of _ (by decide +kernel)) ggX5_act_X5_heldOn
set_option maxRecDepth 20000 in
theorem ggX5_act_X5_its : GoodIn wsX5_act wsX5_its := goodIn_r _ [28, 24, 70, 71, 72, 73, 74, 75, 76, 77, 78, 79, 80, 81, 82, 83, 84, 85, 86, 87, 88, 89, 90, 91, 92, 93, 94, 95, 96, 97, 98] (by decide +kernel) (by decide +kernel)
set_option maxRecDepth 20000 in
theorem gX5_act_X5_its : GoodIn wsX5_act (wsV RX5 167 RX5 yX5_its wsX5_its) := goodIn_app (goodIn_of _ (by decide +kernel)) ggX5_act_X5_its
set_option maxRecDepth 20000 in
theorem ggX5_act_X5_coughs : GoodIn wsX5_act wsX5_coughs := goodIn_r _ [32, 5, 33, 34, 35, 10, 36, 37, 38, 39, 40, 1, 41, 42, 43, 44, 45, 6, 70, 71, 72, 73, 74, 75, 76, 77, 78, 79, 80, 81, 82, 83, 84, 85, 86, 87, 88, 89, 90, 91, 92, 93, 94, 95, 96, 97, 98] (by decide +kernel) (by decide +kernel)
set_option maxRecDepth 20000 in
theorem gX5_act_X5_coughs : GoodIn wsX5_act (wsV RX5 307 RX5 yX5_coughs wsX5_coughs) := goodIn_app (goodIn_of _ (by decide +kernel)) ggX5_act_X5_coughs
set_option maxRecDepth 20000 in
theorem ggX5_act_X5_laughs : GoodIn wsX5_act wsX5_laughs := goodIn_r _ [49, 5, 7, 37, 38, 39, 10, 40, 1, 41, 50, 51, 52, 53, 29, 30, 31, 32, 33, 34, 35, 36, 42, 43, 44, 45, 6, 70, 71, 72, 73, 74, 75, 76, 77, 78, 79, 80, 81, 82, 83, 84, 85, 86, 87, 88, 89, 90, 91, 92, 93, 94, 95, 96, 97, 98] (by decide +kernel) (by decide +kernel)
set_option maxRecDepth 20000 in
theorem gX5_act_X5_laughs : GoodIn wsX5_act (wsV RX5 322 RX5 yX5_laughs wsX5_laughs) := goodIn_app (goodIn_of _ (by decide +kernel)) ggX5_act_X5_laughs
set_option maxRecDepth 20000 in
theorem ggX5_act_X5_parts : GoodIn wsX5_act wsX5_parts := goodIn_r _ [57, 5, 7, 6, 3, 37, 38, 39, 10, 40, 1, 41, 58, 59, 60, 61, 29, 30, 31, 32, 33, 34, 35, 36, 42, 43, 44, 45, 70, 71, 72, 73, 74, 75, 76, 77, 78, 79, 80, 81, 82, 83, 84, 85, 86, 87, 88, 89, 90, 91, 92, 93, 94, 95, 96, 97, 98] (by decide +kernel) (by decide +kernel)
set_option maxRecDepth 20000 in
theorem gX5_act_X5_parts : GoodIn wsX5_act (wsV RX5 328 RX5 yX5_parts wsX5_parts) := goodIn_app (goodIn_of _ (by decide +kernel)) ggX5_act_X5_parts
set_option maxRecDepth 20000 in
theorem ggX5_act_X5_rises : GoodIn wsX5_act wsX5_rises := goodIn_r _ [65, 5, 6, 37, 38, 39, 10, 40, 1, 41, 66, 67, 68, 69, 46, 47, 48, 49, 7, 50, 51, 52, 53, 29, 30, 31, 32, 33, 34, 35, 36, 42, 43, 44, 45, 54, 55, 56, 57, 3, 58, 59, 60, 61, 70, 71, 72, 73, 74, 75, 76, 77, 78, 79, 80, 81, 82, 83, 84, 85, 86, 87, 88, 89, 90, 91, 92, 93, 94, 95, 96, 97, 98] (by decide +kernel) (by decide +kernel)
set_option maxRecDepth 20000 in
theorem gX5_act_X5_rises : GoodIn wsX5_act (wsV RX5 331 RX5 yX5_rises wsX5_rises) := goodIn_app (goodIn_of _ (by decide +kernel)) ggX5_act_X5_rises
theorem dX5_act_0 : decode cX5_act 0 = .ok (.aload_n 0, 1) := by decide +kernel
theorem dX5_act_1 : decode cX5_act 1 = .ok (.iconst 0, 1) := by decide +kernel
theorem dX5_act_2 : decode cX5_act 2 = .ok (.putfield 289, 3) := by decide +kernel
theorem dX5_act_5 : decode cX5_act 5 = .ok (.iload_n 1, 1) := by decide +kernel
theorem dX5_act_6 : decode cX5_act 6 = .ok (.invokestatic 276, 3) := by decide +kernel
theorem dX5_act_9 : decode cX5_act 9 = .ok (.ifCond .eq 24, 3) := by decide +kernel
theorem dX5_act_12 : decode cX5_act 12 = .ok (.iload_n 2, 1) := by decide +kernel
theorem dX5_act_13 : decode cX5_act 13 = .ok (.i2l, 1) := by decide +kernel
theorem dX5_act_14 : decode cX5_act 14 = .ok (.lconst 0, 1) := by decide +kernel
theorem dX5_act_15 : decode cX5_act 15 = .ok (.ldc2_w 152, 3) := by decide +kernel
theorem dX5_act_18 : decode cX5_act 18 = .ok (.invokestatic 64, 3) := by decide +kernel
theorem dX5_act_21 : decode cX5_act 21 = .ok (.ifCond .eq 12, 3) := by decide +kernel
theorem dX5_act_24 : decode cX5_act 24 = .ok (.aload_n 0, 1) := by decide +kernel
theorem dX5_act_25 : decode cX5_act 25 = .ok (.iload_n 1, 1) := by decide +kernel
theorem dX5_act_26 : decode cX5_act 26 = .ok (.invokevirtual 283, 3) := by decide +kernel
theorem dX5_act_29 : decode cX5_act 29 = .ok (.iconst 1, 1) := by decide +kernel
theorem dX5_act_30 : decode cX5_act 30 = .ok (.if_icmp .eq 5, 3) := by decide +kernel
theorem dX5_act_33 : decode cX5_act 33 = .ok (.iconst 0, 1) := by decide +kernel
theorem dX5_act_34 : decode cX5_act 34 = .ok (.ireturn, 1) := by decide +kernel
theorem dX5_act_35 : decode cX5_act 35 = .ok (.aload_n 0, 1) := by decide +kernel
theorem dX5_act_36 : decode cX5_act 36 = .ok (.iconst 0, 1) := by decide +kernel
theorem dX5_act_37 : decode cX5_act 37 = .ok (.putfield 316, 3) := by decide +kernel
theorem dX5_act_40 : decode cX5_act 40 = .ok (.aload_n 0, 1) := by decide +kernel
theorem dX5_act_41 : decode cX5_act 41 = .ok (.aload_n 0, 1) := by decide +kernel
theorem dX5_act_42 : decode cX5_act 42 = .ok (.aload_n 0, 1) := by decide +kernel
theorem dX5_act_43 : decode cX5_act 43 = .ok (.getfield 50, 3) := by decide +kernel
theorem dX5_act_46 : decode cX5_act 46 = .ok (.iload_n 1, 1) := by decide +kernel
theorem dX5_act_47 : decode cX5_act 47 = .ok (.iaload, 1) := by decide +kernel
theorem dX5_act_48 : decode cX5_act 48 = .ok (.iconst 0, 1) := by decide +kernel
theorem dX5_act_49 : decode cX5_act 49 = .ok (.invokevirtual 167, 3) := by decide +kernel
theorem dX5_act_52 : decode cX5_act 52 = .ok (.putfield 301, 3) := by decide +kernel
theorem dX5_act_55 : decode cX5_act 55 = .ok (.aload_n 0, 1) := by decide +kernel
theorem dX5_act_56 : decode cX5_act 56 = .ok (.aload_n 0, 1) := by decide +kernel
theorem dX5_act_57 : decode cX5_act 57 = .ok (.getfield 50, 3) := by decide +kernel
theorem dX5_act_60 : decode cX5_act 60 = .ok (.iload_n 1, 1) := by decide +kernel
theorem dX5_act_61 : decode cX5_act 61 = .ok (.iaload, 1) := by decide +kernel
theorem dX5_act_62 : decode cX5_act 62 = .ok (.putfield 295, 3) := by decide +kernel
theorem dX5_act_65 : decode cX5_act 65 = .ok (.aload_n 0, 1) := by decide +kernel
theorem dX5_act_66 : decode cX5_act 66 = .ok (.aload_n 0, 1) := by decide +kernel
theorem dX5_act_67 : decode cX5_act 67 = .ok (.aload_n 0, 1) := by decide +kernel
theorem dX5_act_68 : decode cX5_act 68 = .ok (.getfield 50, 3) := by decide +kernel
theorem dX5_act_71 : decode cX5_act 71 = .ok (.iload_n 1, 1) := by decide +kernel
theorem dX5_act_72 : decode cX5_act 72 = .ok (.iaload, 1) := by decide +kernel
theorem dX5_act_73 : decode cX5_act 73 = .ok (.iconst 2, 1) := by decide +kernel
theorem dX5_act_74 : decode cX5_act 74 = .ok (.invokevirtual 167, 3) := by decide +kernel
theorem dX5_act_77 : decode cX5_act 77 = .ok (.putfield 310, 3) := by decide +kernel
theorem dX5_act_80 : decode cX5_act 80 = .ok (.iload_n 2, 1) := by decide +kernel
theorem dX5_act_81 : decode cX5_act 81 = .ok (.ifCond .ne 11, 3) := by decide +kernel
theorem dX5_act_84 : decode cX5_act 84 = .ok (.aload_n 0, 1) := by decide +kernel
theorem dX5_act_85 : decode cX5_act 85 = .ok (.iload_n 3, 1) := by decide +kernel
theorem dX5_act_86 : decode cX5_act 86 = .ok (.invokevirtual 307, 3) := by decide +kernel
theorem dX5_act_89 : decode cX5_act 89 = .ok (.goto 34, 3) := by decide +kernel
theorem dX5_act_92 : decode cX5_act 92 = .ok (.iload_n 2, 1) := by decide +kernel
theorem dX5_act_93 : decode cX5_act 93 = .ok (.iconst 1, 1) := by decide +kernel
theorem dX5_act_94 : decode cX5_act 94 = .ok (.if_icmp .ne 11, 3) := by decide +kernel
theorem dX5_act_97 : decode cX5_act 97 = .ok (.aload_n 0, 1) := by decide +kernel
theorem dX5_act_98 : decode cX5_act 98 = .ok (.iload_n 3, 1) := by decide +kernel
theorem dX5_act_99 : decode cX5_act 99 = .ok (.invokevirtual 322, 3) := by decide +kernel
theorem dX5_act_102 : decode cX5_act 102 = .ok (.goto 21, 3) := by decide +kernel
theorem dX5_act_105 : decode cX5_act 105 = .ok (.iload_n 2, 1) := by decide +kernel
theorem dX5_act_106 : decode cX5_act 106 = .ok (.iconst 2, 1) := by decide +kernel
theorem dX5_act_107 : decode cX5_act 107 = .ok (.if_icmp .ne 11, 3) := by decide +kernel
theorem dX5_act_110 : decode cX5_act 110 = .ok (.aload_n 0, 1) := by decide +kernel
theorem dX5_act_111 : decode cX5_act 111 = .ok (.iload_n 3, 1) := by decide +kernel
theorem dX5_act_112 : decode cX5_act 112 = .ok (.invokevirtual 328, 3) := by decide +kernel
theorem dX5_act_115 : decode cX5_act 115 = .ok (.goto 8, 3) := by decide +kernel
theorem dX5_act_118 : decode cX5_act 118 = .ok (.aload_n 0, 1) := by decide +kernel
theorem dX5_act_119 : decode cX5_act 119 = .ok (.iload_n 3, 1) := by decide +kernel
theorem dX5_act_120 : decode cX5_act 120 = .ok (.invokevirtual 331, 3) := by decide +kernel
theorem dX5_act_123 : decode cX5_act 123 = .ok (.istore 4, 2) := by decide +kernel
theorem dX5_act_125 : decode cX5_act 125 = .ok (.aload_n 0, 1) := by decide +kernel
theorem dX5_act_126 : decode cX5_act 126 = .ok (.getfield 316, 3) := by decide +kernel
theorem dX5_act_129 : decode cX5_act 129 = .ok (.ifCond .eq 8, 3) := by decide +kernel
theorem dX5_act_132 : decode cX5_act 132 = .ok (.bipush (-15), 2) := by decide +kernel
theorem dX5_act_134 : decode cX5_act 134 = .ok (.goto 5, 3) := by decide +kernel
theorem dX5_act_137 : decode cX5_act 137 = .ok (.iload 4, 2) := by decide +kernel
theorem dX5_act_139 : decode cX5_act 139 = .ok (.ireturn, 1) := by decide +kernel
set_option maxRecDepth 20000 in
theorem ggX5_trace_X5_isIn : GoodIn wsX5_trace wsX5_isIn := goodIn_r _ [6] (by decide +kernel) (by decide +kernel)
set_option maxRecDepth 20000 in
theorem gX5_trace_X5_isIn : GoodIn wsX5_trace (va_wsS RX5 64 yX5_isIn wsX5_isIn) := goodIn_app (goodIn_of _ (by decide +kernel)) ggX5_trace_X5_isIn
theorem dX5_trace_0 : decode cX5_trace 0 = .ok (.iload_n 1, 1) := by decide +kernel
theorem dX5_trace_1 : decode cX5_trace 1 = .ok (.i2l, 1) := by decide +kernel
theorem dX5_trace_2 : decode cX5_trace 2 = .ok (.lconst 0, 1) := by decide +kernel
theorem dX5_trace_3 : decode cX5_trace 3 = .ok (.aload_n 0, 1) := by decide +kernel
theorem dX5_trace_4 : decode cX5_trace 4 = .ok (.getfield 289, 3) := by decide +kernel
theorem dX5_trace_7 : decode cX5_trace 7 = .ok (.iconst 1, 1) := by decide +kernel
theorem dX5_trace_8 : decode cX5_trace 8 = .ok (.isub, 1) := by decide +kernel
theorem dX5_trace_9 : decode cX5_trace 9 = .ok (.i2l, 1) := by decide +kernel
theorem dX5_trace_10 : decode cX5_trace 10 = .ok (.invokestatic 64, 3) := by decide +kernel
theorem dX5_trace_13 : decode cX5_trace 13 = .ok (.ifCond .eq 12, 3) := by decide +kernel
theorem dX5_trace_16 : decode cX5_trace 16 = .ok (.aload_n 0, 1) := by decide +kernel
theorem dX5_trace_17 : decode cX5_trace 17 = .ok (.getfield 56, 3) := by decide +kernel
theorem dX5_trace_20 : decode cX5_trace 20 = .ok (.iload_n 1, 1) := by decide +kernel
theorem dX5_trace_21 : decode cX5_trace 21 = .ok (.iaload, 1) := by decide +kernel
theorem dX5_trace_22 : decode cX5_trace 22 = .ok (.goto 5, 3) := by decide +kernel
theorem dX5_trace_25 : decode cX5_trace 25 = .ok (.bipush (-3), 2) := by decide +kernel
theorem dX5_trace_27 : decode cX5_trace 27 = .ok (.ireturn, 1) := by decide +kernel
set_option maxRecDepth 20000 in
theorem ggX5_many_X5_clappers : GoodIn wsX5_many wsX5_clappers := goodIn_r _ [9, 1, 10, 11, 12, 8, 13, 21, 22, 23, 24, 25, 26, 27, 28, 29, 30, 31, 32, 33, 34, 35, 36, 37, 38, 39, 40, 41, 42, 43, 44, 45, 46, 47, 48, 49] (by decide +kernel) (by decide +kernel)
set_option maxRecDepth 20000 in
theorem gX5_many_X5_clappers : GoodIn wsX5_many (wsV RX5 192 RX5 yX5_clappers wsX5_clappers) := goodIn_app (goodIn_of _ (by decide +kernel)) ggX5_many_X5_clappers
set_option maxRecDepth 20000 in
theorem ggX5_many_X5_size : GoodIn wsX5_many wsX5_size := goodIn_r _ [16] (by decide +kernel) (by decide +kernel)
set_option maxRecDepth 20000 in
theorem gX5_many_X5_size : GoodIn wsX5_many (va_wsS RX5 206 yX5_size wsX5_size) := goodIn_app (goodIn_of _ (by decide +kernel)) ggX5_many_X5_size
set_option maxRecDepth 20000 in
theorem ggX5_many_X5_roomsInUse : GoodIn wsX5_many wsX5_roomsInUse := goodIn_r _ [20, 1, 10, 11, 12, 8, 13, 21, 22, 23, 24, 25, 26, 27, 28, 29, 30, 31, 32, 33, 34, 35, 36, 37, 38, 39, 40, 41, 42, 43, 44, 45, 46, 47, 48, 49] (by decide +kernel) (by decide +kernel)
set_option maxRecDepth 20000 in
theorem gX5_many_X5_roomsInUse : GoodIn wsX5_many (wsV RX5 224 RX5 yX5_roomsInUse wsX5_roomsInUse) := goodIn_app (goodIn_of _ (by decide +kernel)) ggX5_many_X5_roomsInUse
set_option maxRecDepth 20000 in
theorem ggX5_many_X5_its : GoodIn wsX5_many wsX5_its := goodIn_r _ [13, 1, 21, 22, 23, 24, 25, 26, 27, 28, 29, 30, 31, 32, 33, 34, 35, 36, 37, 38, 39, 40, 41, 42, 43, 44, 45, 46, 47, 48, 49] (by decide +kernel) (by decide +kernel)
set_option maxRecDepth 20000 in
theorem gX5_many_X5_its : GoodIn wsX5_many (wsV RX5 167 RX5 yX5_its wsX5_its) := goodIn_app (goodIn_of _ (by decide +kernel)) ggX5_many_X5_its
theorem dX5_many_0 : decode cX5_many 0 = .ok (.iconst 0, 1) := by decide +kernel
theorem dX5_many_1 : decode cX5_many 1 = .ok (.istore_n 2, 1) := by decide +kernel
theorem dX5_many_2 : decode cX5_many 2 = .ok (.iload_n 1, 1) := by decide +kernel
theorem dX5_many_3 : decode cX5_many 3 = .ok (.tableswitch 118 0 6 #[41, 48, 56, 64, 103, 108, 113], 41) := by decide +kernel
theorem dX5_many_44 : decode cX5_many 44 = .ok (.aload_n 0, 1) := by decide +kernel
theorem dX5_many_45 : decode cX5_many 45 = .ok (.getfield 7, 3) := by decide +kernel
theorem dX5_many_48 : decode cX5_many 48 = .ok (.iconst 0, 1) := by decide +kernel
theorem dX5_many_49 : decode cX5_many 49 = .ok (.iaload, 1) := by decide +kernel
theorem dX5_many_50 : decode cX5_many 50 = .ok (.ireturn, 1) := by decide +kernel
theorem dX5_many_51 : decode cX5_many 51 = .ok (.aload_n 0, 1) := by decide +kernel
theorem dX5_many_52 : decode cX5_many 52 = .ok (.invokevirtual 192, 3) := by decide +kernel
theorem dX5_many_55 : decode cX5_many 55 = .ok (.invokestatic 206, 3) := by decide +kernel
theorem dX5_many_58 : decode cX5_many 58 = .ok (.ireturn, 1) := by decide +kernel
theorem dX5_many_59 : decode cX5_many 59 = .ok (.aload_n 0, 1) := by decide +kernel
theorem dX5_many_60 : decode cX5_many 60 = .ok (.invokevirtual 224, 3) := by decide +kernel
theorem dX5_many_63 : decode cX5_many 63 = .ok (.invokestatic 206, 3) := by decide +kernel
theorem dX5_many_66 : decode cX5_many 66 = .ok (.ireturn, 1) := by decide +kernel
theorem dX5_many_67 : decode cX5_many 67 = .ok (.iconst 0, 1) := by decide +kernel
theorem dX5_many_68 : decode cX5_many 68 = .ok (.istore_n 3, 1) := by decide +kernel
theorem dX5_many_69 : decode cX5_many 69 = .ok (.iload_n 3, 1) := by decide +kernel
theorem dX5_many_70 : decode cX5_many 70 = .ok (.aload_n 0, 1) := by decide +kernel
theorem dX5_many_71 : decode cX5_many 71 = .ok (.getfield 7, 3) := by decide +kernel
theorem dX5_many_74 : decode cX5_many 74 = .ok (.iconst 0, 1) := by decide +kernel
theorem dX5_many_75 : decode cX5_many 75 = .ok (.iaload, 1) := by decide +kernel
theorem dX5_many_76 : decode cX5_many 76 = .ok (.if_icmp .ge 28, 3) := by decide +kernel
theorem dX5_many_79 : decode cX5_many 79 = .ok (.iload_n 2, 1) := by decide +kernel
theorem dX5_many_80 : decode cX5_many 80 = .ok (.aload_n 0, 1) := by decide +kernel
theorem dX5_many_81 : decode cX5_many 81 = .ok (.iload_n 3, 1) := by decide +kernel
theorem dX5_many_82 : decode cX5_many 82 = .ok (.iconst 1, 1) := by decide +kernel
theorem dX5_many_83 : decode cX5_many 83 = .ok (.invokevirtual 167, 3) := by decide +kernel
theorem dX5_many_86 : decode cX5_many 86 = .ok (.bipush 99, 2) := by decide +kernel
theorem dX5_many_88 : decode cX5_many 88 = .ok (.if_icmp .ne 7, 3) := by decide +kernel
theorem dX5_many_91 : decode cX5_many 91 = .ok (.iconst 1, 1) := by decide +kernel
theorem dX5_many_92 : decode cX5_many 92 = .ok (.goto 4, 3) := by decide +kernel
theorem dX5_many_95 : decode cX5_many 95 = .ok (.iconst 0, 1) := by decide +kernel
theorem dX5_many_96 : decode cX5_many 96 = .ok (.iadd, 1) := by decide +kernel
theorem dX5_many_97 : decode cX5_many 97 = .ok (.istore_n 2, 1) := by decide +kernel
theorem dX5_many_98 : decode cX5_many 98 = .ok (.iinc 3 1, 3) := by decide +kernel
theorem dX5_many_101 : decode cX5_many 101 = .ok (.goto (-32), 3) := by decide +kernel
theorem dX5_many_104 : decode cX5_many 104 = .ok (.iload_n 2, 1) := by decide +kernel
theorem dX5_many_105 : decode cX5_many 105 = .ok (.ireturn, 1) := by decide +kernel
theorem dX5_many_106 : decode cX5_many 106 = .ok (.aload_n 0, 1) := by decide +kernel
theorem dX5_many_107 : decode cX5_many 107 = .ok (.getfield 149, 3) := by decide +kernel
theorem dX5_many_110 : decode cX5_many 110 = .ok (.ireturn, 1) := by decide +kernel
theorem dX5_many_111 : decode cX5_many 111 = .ok (.aload_n 0, 1) := by decide +kernel
theorem dX5_many_112 : decode cX5_many 112 = .ok (.getfield 68, 3) := by decide +kernel
theorem dX5_many_115 : decode cX5_many 115 = .ok (.ireturn, 1) := by decide +kernel
theorem dX5_many_116 : decode cX5_many 116 = .ok (.aload_n 0, 1) := by decide +kernel
theorem dX5_many_117 : decode cX5_many 117 = .ok (.getfield 289, 3) := by decide +kernel
theorem dX5_many_120 : decode cX5_many 120 = .ok (.ireturn, 1) := by decide +kernel
theorem dX5_many_121 : decode cX5_many 121 = .ok (.iconst (-1), 1) := by decide +kernel
theorem dX5_many_122 : decode cX5_many 122 = .ok (.ireturn, 1) := by decide +kernel
theorem dX5_keep_0 : decode cX5_keep 0 = .ok (.iconst 0, 1) := by decide +kernel
theorem dX5_keep_1 : decode cX5_keep 1 = .ok (.istore_n 1, 1) := by decide +kernel
theorem dX5_keep_2 : decode cX5_keep 2 = .ok (.iload_n 1, 1) := by decide +kernel
theorem dX5_keep_3 : decode cX5_keep 3 = .ok (.bipush 47, 2) := by decide +kernel
theorem dX5_keep_5 : decode cX5_keep 5 = .ok (.if_icmp .ge 21, 3) := by decide +kernel
theorem dX5_keep_8 : decode cX5_keep 8 = .ok (.aload_n 0, 1) := by decide +kernel
theorem dX5_keep_9 : decode cX5_keep 9 = .ok (.getfield 13, 3) := by decide +kernel
theorem dX5_keep_12 : decode cX5_keep 12 = .ok (.iload_n 1, 1) := by decide +kernel
theorem dX5_keep_13 : decode cX5_keep 13 = .ok (.aload_n 0, 1) := by decide +kernel
theorem dX5_keep_14 : decode cX5_keep 14 = .ok (.getfield 7, 3) := by decide +kernel
theorem dX5_keep_17 : decode cX5_keep 17 = .ok (.iload_n 1, 1) := by decide +kernel
theorem dX5_keep_18 : decode cX5_keep 18 = .ok (.iaload, 1) := by decide +kernel
theorem dX5_keep_19 : decode cX5_keep 19 = .ok (.iastore, 1) := by decide +kernel
theorem dX5_keep_20 : decode cX5_keep 20 = .ok (.iinc 1 1, 3) := by decide +kernel
theorem dX5_keep_23 : decode cX5_keep 23 = .ok (.goto (-21), 3) := by decide +kernel
theorem dX5_keep_26 : decode cX5_keep 26 = .ok (.aload_n 0, 1) := by decide +kernel
theorem dX5_keep_27 : decode cX5_keep 27 = .ok (.iconst 1, 1) := by decide +kernel
theorem dX5_keep_28 : decode cX5_keep 28 = .ok (.putfield 334, 3) := by decide +kernel
theorem dX5_keep_31 : decode cX5_keep 31 = .ok (.iconst 1, 1) := by decide +kernel
theorem dX5_keep_32 : decode cX5_keep 32 = .ok (.ireturn, 1) := by decide +kernel
theorem dX5_again_0 : decode cX5_again 0 = .ok (.aload_n 0, 1) := by decide +kernel
theorem dX5_again_1 : decode cX5_again 1 = .ok (.getfield 334, 3) := by decide +kernel
theorem dX5_again_4 : decode cX5_again 4 = .ok (.ifCond .ne 6, 3) := by decide +kernel
theorem dX5_again_7 : decode cX5_again 7 = .ok (.bipush (-3), 2) := by decide +kernel
theorem dX5_again_9 : decode cX5_again 9 = .ok (.ireturn, 1) := by decide +kernel
theorem dX5_again_10 : decode cX5_again 10 = .ok (.iconst 0, 1) := by decide +kernel
theorem dX5_again_11 : decode cX5_again 11 = .ok (.istore_n 1, 1) := by decide +kernel
theorem dX5_again_12 : decode cX5_again 12 = .ok (.iload_n 1, 1) := by decide +kernel
theorem dX5_again_13 : decode cX5_again 13 = .ok (.bipush 47, 2) := by decide +kernel
theorem dX5_again_15 : decode cX5_again 15 = .ok (.if_icmp .ge 21, 3) := by decide +kernel
theorem dX5_again_18 : decode cX5_again 18 = .ok (.aload_n 0, 1) := by decide +kernel
theorem dX5_again_19 : decode cX5_again 19 = .ok (.getfield 7, 3) := by decide +kernel
theorem dX5_again_22 : decode cX5_again 22 = .ok (.iload_n 1, 1) := by decide +kernel
theorem dX5_again_23 : decode cX5_again 23 = .ok (.aload_n 0, 1) := by decide +kernel
theorem dX5_again_24 : decode cX5_again 24 = .ok (.getfield 13, 3) := by decide +kernel
theorem dX5_again_27 : decode cX5_again 27 = .ok (.iload_n 1, 1) := by decide +kernel
theorem dX5_again_28 : decode cX5_again 28 = .ok (.iaload, 1) := by decide +kernel
theorem dX5_again_29 : decode cX5_again 29 = .ok (.iastore, 1) := by decide +kernel
theorem dX5_again_30 : decode cX5_again 30 = .ok (.iinc 1 1, 3) := by decide +kernel
theorem dX5_again_33 : decode cX5_again 33 = .ok (.goto (-21), 3) := by decide +kernel
theorem dX5_again_36 : decode cX5_again 36 = .ok (.aload_n 0, 1) := by decide +kernel
theorem dX5_again_37 : decode cX5_again 37 = .ok (.getfield 7, 3) := by decide +kernel
theorem dX5_again_40 : decode cX5_again 40 = .ok (.iconst 0, 1) := by decide +kernel
theorem dX5_again_41 : decode cX5_again 41 = .ok (.iaload, 1) := by decide +kernel
theorem dX5_again_42 : decode cX5_again 42 = .ok (.ireturn, 1) := by decide +kernel
