set_option maxRecDepth 20000 in
theorem ggX4_init_X0_init : GoodIn wsX4_init wsX0_init := goodIn_r _ [28, 29, 2, 3, 19, 30, 31, 32, 33, 34, 35, 36, 37, 38, 39, 40, 6, 41, 42, 43, 44, 45, 46, 47, 48, 67, 68, 69, 70, 71, 72, 73, 74, 75, 76, 77] (by decide +kernel) (by decide +kernel)
set_option maxRecDepth 20000 in
theorem gX4_init_X0_init : GoodIn wsX4_init (wsX0_init) := ggX4_init_X0_init
set_option maxRecDepth 20000 in
theorem ggX4_init_X3_init : GoodIn wsX4_init wsX3_init := goodIn_r _ [50, 51, 2, 3, 52, 53, 54, 55, 56, 57, 89, 90, 91, 92, 93] (by decide +kernel) (by decide +kernel)
set_option maxRecDepth 20000 in
theorem gX4_init_X3_init_n28 : GoodIn wsX4_init (wsX3_init) := ggX4_init_X3_init
set_option maxRecDepth 20000 in
theorem ggX4_init_X2_init : GoodIn wsX4_init wsX2_init := goodIn_r _ [59, 60, 2, 3, 19, 61, 62, 63, 64, 65, 66, 94, 95, 96, 97, 98, 99] (by decide +kernel) (by decide +kernel)
set_option maxRecDepth 20000 in
theorem gX4_init_X2_init_n35 : GoodIn wsX4_init (wsX2_init) := ggX4_init_X2_init
theorem dX4_init_0 : decode cX4_init 0 = .ok (.aload_n 0, 1) := by decide +kernel
theorem dX4_init_1 : decode cX4_init 1 = .ok (.invokespecial 1, 3) := by decide +kernel
theorem dX4_init_4 : decode cX4_init 4 = .ok (.aload_n 0, 1) := by decide +kernel
theorem dX4_init_5 : decode cX4_init 5 = .ok (.new 7, 3) := by decide +kernel
theorem dX4_init_8 : decode cX4_init 8 = .ok (.dup, 1) := by decide +kernel
theorem dX4_init_9 : decode cX4_init 9 = .ok (.invokespecial 9, 3) := by decide +kernel
theorem dX4_init_12 : decode cX4_init 12 = .ok (.putfield 10, 3) := by decide +kernel
theorem dX4_init_15 : decode cX4_init 15 = .ok (.aload_n 0, 1) := by decide +kernel
theorem dX4_init_16 : decode cX4_init 16 = .ok (.new 7, 3) := by decide +kernel
theorem dX4_init_19 : decode cX4_init 19 = .ok (.dup, 1) := by decide +kernel
theorem dX4_init_20 : decode cX4_init 20 = .ok (.invokespecial 9, 3) := by decide +kernel
theorem dX4_init_23 : decode cX4_init 23 = .ok (.putfield 16, 3) := by decide +kernel
theorem dX4_init_26 : decode cX4_init 26 = .ok (.aload_n 0, 1) := by decide +kernel
theorem dX4_init_27 : decode cX4_init 27 = .ok (.new 7, 3) := by decide +kernel
theorem dX4_init_30 : decode cX4_init 30 = .ok (.dup, 1) := by decide +kernel
theorem dX4_init_31 : decode cX4_init 31 = .ok (.invokespecial 9, 3) := by decide +kernel
theorem dX4_init_34 : decode cX4_init 34 = .ok (.putfield 19, 3) := by decide +kernel
theorem dX4_init_37 : decode cX4_init 37 = .ok (.aload_n 0, 1) := by decide +kernel
theorem dX4_init_38 : decode cX4_init 38 = .ok (.iconst 0, 1) := by decide +kernel
theorem dX4_init_39 : decode cX4_init 39 = .ok (.putfield 22, 3) := by decide +kernel
theorem dX4_init_42 : decode cX4_init 42 = .ok (.aload_n 0, 1) := by decide +kernel
theorem dX4_init_43 : decode cX4_init 43 = .ok (.new 26, 3) := by decide +kernel
theorem dX4_init_46 : decode cX4_init 46 = .ok (.dup, 1) := by decide +kernel
theorem dX4_init_47 : decode cX4_init 47 = .ok (.invokespecial 28, 3) := by decide +kernel
theorem dX4_init_50 : decode cX4_init 50 = .ok (.putfield 29, 3) := by decide +kernel
theorem dX4_init_53 : decode cX4_init 53 = .ok (.aload_n 0, 1) := by decide +kernel
theorem dX4_init_54 : decode cX4_init 54 = .ok (.new 33, 3) := by decide +kernel
theorem dX4_init_57 : decode cX4_init 57 = .ok (.dup, 1) := by decide +kernel
theorem dX4_init_58 : decode cX4_init 58 = .ok (.invokespecial 35, 3) := by decide +kernel
theorem dX4_init_61 : decode cX4_init 61 = .ok (.putfield 36, 3) := by decide +kernel
theorem dX4_init_64 : decode cX4_init 64 = .ok (.aload_n 0, 1) := by decide +kernel
theorem dX4_init_65 : decode cX4_init 65 = .ok (.bipush 30, 2) := by decide +kernel
theorem dX4_init_67 : decode cX4_init 67 = .ok (.newarray .int, 2) := by decide +kernel
theorem dX4_init_69 : decode cX4_init 69 = .ok (.putfield 40, 3) := by decide +kernel
theorem dX4_init_72 : decode cX4_init 72 = .ok (.aload_n 0, 1) := by decide +kernel
theorem dX4_init_73 : decode cX4_init 73 = .ok (.iconst 0, 1) := by decide +kernel
theorem dX4_init_74 : decode cX4_init 74 = .ok (.putfield 44, 3) := by decide +kernel
theorem dX4_init_77 : decode cX4_init 77 = .ok (.aload_n 0, 1) := by decide +kernel
theorem dX4_init_78 : decode cX4_init 78 = .ok (.iconst 4, 1) := by decide +kernel
theorem dX4_init_79 : decode cX4_init 79 = .ok (.anewarray 48, 3) := by decide +kernel
theorem dX4_init_82 : decode cX4_init 82 = .ok (.putfield 50, 3) := by decide +kernel
theorem dX4_init_85 : decode cX4_init 85 = .ok (.aload_n 0, 1) := by decide +kernel
theorem dX4_init_86 : decode cX4_init 86 = .ok (.iconst 4, 1) := by decide +kernel
theorem dX4_init_87 : decode cX4_init 87 = .ok (.anewarray 48, 3) := by decide +kernel
theorem dX4_init_90 : decode cX4_init 90 = .ok (.putfield 54, 3) := by decide +kernel
theorem dX4_init_93 : decode cX4_init 93 = .ok (.aload_n 0, 1) := by decide +kernel
theorem dX4_init_94 : decode cX4_init 94 = .ok (.iconst 4, 1) := by decide +kernel
theorem dX4_init_95 : decode cX4_init 95 = .ok (.newarray .int, 2) := by decide +kernel
theorem dX4_init_97 : decode cX4_init 97 = .ok (.dup, 1) := by decide +kernel
theorem dX4_init_98 : decode cX4_init 98 = .ok (.iconst 0, 1) := by decide +kernel
theorem dX4_init_99 : decode cX4_init 99 = .ok (.iconst (-1), 1) := by decide +kernel
theorem dX4_init_100 : decode cX4_init 100 = .ok (.iastore, 1) := by decide +kernel
theorem dX4_init_101 : decode cX4_init 101 = .ok (.dup, 1) := by decide +kernel
theorem dX4_init_102 : decode cX4_init 102 = .ok (.iconst 1, 1) := by decide +kernel
theorem dX4_init_103 : decode cX4_init 103 = .ok (.iconst (-1), 1) := by decide +kernel
theorem dX4_init_104 : decode cX4_init 104 = .ok (.iastore, 1) := by decide +kernel
theorem dX4_init_105 : decode cX4_init 105 = .ok (.dup, 1) := by decide +kernel
theorem dX4_init_106 : decode cX4_init 106 = .ok (.iconst 2, 1) := by decide +kernel
theorem dX4_init_107 : decode cX4_init 107 = .ok (.iconst (-1), 1) := by decide +kernel
theorem dX4_init_108 : decode cX4_init 108 = .ok (.iastore, 1) := by decide +kernel
theorem dX4_init_109 : decode cX4_init 109 = .ok (.dup, 1) := by decide +kernel
theorem dX4_init_110 : decode cX4_init 110 = .ok (.iconst 3, 1) := by decide +kernel
theorem dX4_init_111 : decode cX4_init 111 = .ok (.iconst (-1), 1) := by decide +kernel
theorem dX4_init_112 : decode cX4_init 112 = .ok (.iastore, 1) := by decide +kernel
theorem dX4_init_113 : decode cX4_init 113 = .ok (.putfield 57, 3) := by decide +kernel
theorem dX4_init_116 : decode cX4_init 116 = .ok (.return_, 1) := by decide +kernel
set_option maxRecDepth 20000 in
theorem ggX4_feed_X4_within : GoodIn wsX4_feed wsX4_within := goodIn_r _ [6] (by decide +kernel) (by decide +kernel)
set_option maxRecDepth 20000 in
theorem gX4_feed_X4_within : GoodIn wsX4_feed (va_wsS RX4 60 yX4_within wsX4_within) := goodIn_app (goodIn_of _ (by decide +kernel)) ggX4_feed_X4_within
set_option maxRecDepth 20000 in
theorem ggX4_feed_X3_take : GoodIn wsX4_feed wsX3_take := goodIn_r _ [11, 12, 13, 25, 26, 27, 28, 29] (by decide +kernel) (by decide +kernel)
set_option maxRecDepth 20000 in
theorem gX4_feed_X3_take : GoodIn wsX4_feed (wsV RX4 67 RX3 yX3_take wsX3_take) := goodIn_app (goodIn_of _ (by decide +kernel)) ggX4_feed_X3_take
theorem dX4_feed_0 : decode cX4_feed 0 = .ok (.iload_n 3, 1) := by decide +kernel
theorem dX4_feed_1 : decode cX4_feed 1 = .ok (.iconst 1, 1) := by decide +kernel
theorem dX4_feed_2 : decode cX4_feed 2 = .ok (.bipush 8, 2) := by decide +kernel
theorem dX4_feed_4 : decode cX4_feed 4 = .ok (.invokestatic 60, 3) := by decide +kernel
theorem dX4_feed_7 : decode cX4_feed 7 = .ok (.ifCond .ne 5, 3) := by decide +kernel
theorem dX4_feed_10 : decode cX4_feed 10 = .ok (.iconst (-1), 1) := by decide +kernel
theorem dX4_feed_11 : decode cX4_feed 11 = .ok (.ireturn, 1) := by decide +kernel
theorem dX4_feed_12 : decode cX4_feed 12 = .ok (.aload_n 0, 1) := by decide +kernel
theorem dX4_feed_13 : decode cX4_feed 13 = .ok (.getfield 29, 3) := by decide +kernel
theorem dX4_feed_16 : decode cX4_feed 16 = .ok (.getfield 64, 3) := by decide +kernel
theorem dX4_feed_19 : decode cX4_feed 19 = .ok (.iload_n 3, 1) := by decide +kernel
theorem dX4_feed_20 : decode cX4_feed 20 = .ok (.iadd, 1) := by decide +kernel
theorem dX4_feed_21 : decode cX4_feed 21 = .ok (.sipush 200, 3) := by decide +kernel
theorem dX4_feed_24 : decode cX4_feed 24 = .ok (.if_icmp .le 6, 3) := by decide +kernel
theorem dX4_feed_27 : decode cX4_feed 27 = .ok (.bipush (-2), 2) := by decide +kernel
theorem dX4_feed_29 : decode cX4_feed 29 = .ok (.ireturn, 1) := by decide +kernel
theorem dX4_feed_30 : decode cX4_feed 30 = .ok (.aload_n 0, 1) := by decide +kernel
theorem dX4_feed_31 : decode cX4_feed 31 = .ok (.getfield 29, 3) := by decide +kernel
theorem dX4_feed_34 : decode cX4_feed 34 = .ok (.lload_n 1, 1) := by decide +kernel
theorem dX4_feed_35 : decode cX4_feed 35 = .ok (.iload_n 3, 1) := by decide +kernel
theorem dX4_feed_36 : decode cX4_feed 36 = .ok (.invokevirtual 67, 3) := by decide +kernel
theorem dX4_feed_39 : decode cX4_feed 39 = .ok (.aload_n 0, 1) := by decide +kernel
theorem dX4_feed_40 : decode cX4_feed 40 = .ok (.getfield 29, 3) := by decide +kernel
theorem dX4_feed_43 : decode cX4_feed 43 = .ok (.getfield 64, 3) := by decide +kernel
theorem dX4_feed_46 : decode cX4_feed 46 = .ok (.ireturn, 1) := by decide +kernel
set_option maxRecDepth 20000 in
theorem ggX4_opera_X0_clear : GoodIn wsX4_opera wsX0_clear := goodIn_r _ [12, 13, 14, 15, 16, 17, 18, 19, 20, 166, 167, 168, 169, 170, 171, 172, 173, 174, 175, 176] (by decide +kernel) (by decide +kernel)
set_option maxRecDepth 20000 in
theorem gX4_opera_X0_clear : GoodIn wsX4_opera (wsV RX4 71 RX0 yX0_clear wsX0_clear) := goodIn_app (goodIn_of _ (by decide +kernel)) ggX4_opera_X0_clear
set_option maxRecDepth 20000 in
theorem ggX4_opera_X3_readInto : GoodIn wsX4_opera wsX3_readInto := goodIn_r _ [25, 26, 27, 28, 29, 30, 31, 24, 32, 33, 34, 35, 36, 37, 38, 39, 40, 41, 42, 43, 44, 45, 46, 47, 48, 49, 50, 51, 52, 53, 54, 55, 56, 57, 58, 59, 60, 61, 62, 63, 64, 65, 66, 67, 68, 69, 70, 71, 72, 73, 74, 75, 76, 77, 78, 79, 80, 81, 82, 83, 84, 85, 86, 87, 88, 89, 90, 91, 92, 93, 94, 95, 96, 97, 98, 99, 100, 101, 102, 103, 104, 105, 106, 107, 108, 109, 110, 111, 112, 113, 114, 115, 116, 117, 118, 119, 120, 121, 122, 123, 124, 125, 126, 127, 128, 129, 130, 131, 132, 133, 134, 135, 136, 11, 137, 18, 138, 139, 140, 141, 142, 143, 144, 145, 19, 146, 147, 148, 149, 177, 178, 179, 180, 181, 166, 167, 168, 169, 170, 171, 172, 173, 174, 175, 176] (by decide +kernel) (by decide +kernel)
set_option maxRecDepth 20000 in
theorem gX4_opera_X3_readInto : GoodIn wsX4_opera (wsV RX4 77 RX3 yX3_readInto wsX3_readInto) := goodIn_app (goodIn_of _ (by decide +kernel)) ggX4_opera_X3_readInto
set_option maxRecDepth 20000 in
theorem ggX4_opera_X0_become : GoodIn wsX4_opera wsX0_become := goodIn_r _ [153, 13, 14, 15, 16, 17, 138, 139, 140, 141, 18, 19, 20, 154, 166, 167, 168, 169, 170, 171, 172, 173, 174, 175, 176] (by decide +kernel) (by decide +kernel)
set_option maxRecDepth 20000 in
theorem gX4_opera_X0_become : GoodIn wsX4_opera (wsV RX4 81 RX0 yX0_become wsX0_become) := goodIn_app (goodIn_of _ (by decide +kernel)) ggX4_opera_X0_become
theorem dX4_opera_0 : decode cX4_opera 0 = .ok (.aload_n 0, 1) := by decide +kernel
theorem dX4_opera_1 : decode cX4_opera 1 = .ok (.getfield 16, 3) := by decide +kernel
theorem dX4_opera_4 : decode cX4_opera 4 = .ok (.invokevirtual 71, 3) := by decide +kernel
theorem dX4_opera_7 : decode cX4_opera 7 = .ok (.aload_n 0, 1) := by decide +kernel
theorem dX4_opera_8 : decode cX4_opera 8 = .ok (.getfield 16, 3) := by decide +kernel
theorem dX4_opera_11 : decode cX4_opera 11 = .ok (.aload_n 0, 1) := by decide +kernel
theorem dX4_opera_12 : decode cX4_opera 12 = .ok (.getfield 10, 3) := by decide +kernel
theorem dX4_opera_15 : decode cX4_opera 15 = .ok (.getfield 74, 3) := by decide +kernel
theorem dX4_opera_18 : decode cX4_opera 18 = .ok (.putfield 74, 3) := by decide +kernel
theorem dX4_opera_21 : decode cX4_opera 21 = .ok (.aload_n 0, 1) := by decide +kernel
theorem dX4_opera_22 : decode cX4_opera 22 = .ok (.getfield 29, 3) := by decide +kernel
theorem dX4_opera_25 : decode cX4_opera 25 = .ok (.aload_n 0, 1) := by decide +kernel
theorem dX4_opera_26 : decode cX4_opera 26 = .ok (.getfield 16, 3) := by decide +kernel
theorem dX4_opera_29 : decode cX4_opera 29 = .ok (.invokevirtual 77, 3) := by decide +kernel
theorem dX4_opera_32 : decode cX4_opera 32 = .ok (.istore_n 1, 1) := by decide +kernel
theorem dX4_opera_33 : decode cX4_opera 33 = .ok (.aload_n 0, 1) := by decide +kernel
theorem dX4_opera_34 : decode cX4_opera 34 = .ok (.getfield 29, 3) := by decide +kernel
theorem dX4_opera_37 : decode cX4_opera 37 = .ok (.iconst 0, 1) := by decide +kernel
theorem dX4_opera_38 : decode cX4_opera 38 = .ok (.putfield 64, 3) := by decide +kernel
theorem dX4_opera_41 : decode cX4_opera 41 = .ok (.iload_n 1, 1) := by decide +kernel
theorem dX4_opera_42 : decode cX4_opera 42 = .ok (.iconst (-1), 1) := by decide +kernel
theorem dX4_opera_43 : decode cX4_opera 43 = .ok (.if_icmp .eq 8, 3) := by decide +kernel
theorem dX4_opera_46 : decode cX4_opera 46 = .ok (.bipush (-100), 2) := by decide +kernel
theorem dX4_opera_48 : decode cX4_opera 48 = .ok (.iload_n 1, 1) := by decide +kernel
theorem dX4_opera_49 : decode cX4_opera 49 = .ok (.isub, 1) := by decide +kernel
theorem dX4_opera_50 : decode cX4_opera 50 = .ok (.ireturn, 1) := by decide +kernel
theorem dX4_opera_51 : decode cX4_opera 51 = .ok (.aload_n 0, 1) := by decide +kernel
theorem dX4_opera_52 : decode cX4_opera 52 = .ok (.getfield 10, 3) := by decide +kernel
theorem dX4_opera_55 : decode cX4_opera 55 = .ok (.aload_n 0, 1) := by decide +kernel
theorem dX4_opera_56 : decode cX4_opera 56 = .ok (.getfield 16, 3) := by decide +kernel
theorem dX4_opera_59 : decode cX4_opera 59 = .ok (.invokevirtual 81, 3) := by decide +kernel
theorem dX4_opera_62 : decode cX4_opera 62 = .ok (.aload_n 0, 1) := by decide +kernel
theorem dX4_opera_63 : decode cX4_opera 63 = .ok (.iconst 0, 1) := by decide +kernel
theorem dX4_opera_64 : decode cX4_opera 64 = .ok (.putfield 44, 3) := by decide +kernel
theorem dX4_opera_67 : decode cX4_opera 67 = .ok (.aload_n 0, 1) := by decide +kernel
theorem dX4_opera_68 : decode cX4_opera 68 = .ok (.getfield 10, 3) := by decide +kernel
theorem dX4_opera_71 : decode cX4_opera 71 = .ok (.getfield 85, 3) := by decide +kernel
theorem dX4_opera_74 : decode cX4_opera 74 = .ok (.ireturn, 1) := by decide +kernel
set_option maxRecDepth 20000 in
theorem ggX4_set_X4_isLaw : GoodIn wsX4_set wsX4_isLaw := goodIn_r _ [8, 9, 10, 7, 11] (by decide +kernel) (by decide +kernel)
set_option maxRecDepth 20000 in
theorem gX4_set_X4_isLaw : GoodIn wsX4_set (va_wsS RX4 88 yX4_isLaw wsX4_isLaw) := goodIn_app (goodIn_of _ (by decide +kernel)) ggX4_set_X4_isLaw
set_option maxRecDepth 20000 in
theorem ggX4_set_X4_within : GoodIn wsX4_set wsX4_within := goodIn_r _ [11] (by decide +kernel) (by decide +kernel)
set_option maxRecDepth 20000 in
theorem gX4_set_X4_within : GoodIn wsX4_set (va_wsS RX4 60 yX4_within wsX4_within) := goodIn_app (goodIn_of _ (by decide +kernel)) ggX4_set_X4_within
theorem dX4_set_0 : decode cX4_set 0 = .ok (.iload_n 1, 1) := by decide +kernel
theorem dX4_set_1 : decode cX4_set 1 = .ok (.invokestatic 88, 3) := by decide +kernel
theorem dX4_set_4 : decode cX4_set 4 = .ok (.ifCond .eq 20, 3) := by decide +kernel
theorem dX4_set_7 : decode cX4_set 7 = .ok (.iload_n 2, 1) := by decide +kernel
theorem dX4_set_8 : decode cX4_set 8 = .ok (.getstatic 92, 3) := by decide +kernel
theorem dX4_set_11 : decode cX4_set 11 = .ok (.iload_n 1, 1) := by decide +kernel
theorem dX4_set_12 : decode cX4_set 12 = .ok (.iaload, 1) := by decide +kernel
theorem dX4_set_13 : decode cX4_set 13 = .ok (.getstatic 95, 3) := by decide +kernel
theorem dX4_set_16 : decode cX4_set 16 = .ok (.iload_n 1, 1) := by decide +kernel
theorem dX4_set_17 : decode cX4_set 17 = .ok (.iaload, 1) := by decide +kernel
theorem dX4_set_18 : decode cX4_set 18 = .ok (.invokestatic 60, 3) := by decide +kernel
theorem dX4_set_21 : decode cX4_set 21 = .ok (.ifCond .ne 5, 3) := by decide +kernel
theorem dX4_set_24 : decode cX4_set 24 = .ok (.iconst (-1), 1) := by decide +kernel
theorem dX4_set_25 : decode cX4_set 25 = .ok (.ireturn, 1) := by decide +kernel
theorem dX4_set_26 : decode cX4_set 26 = .ok (.aload_n 0, 1) := by decide +kernel
theorem dX4_set_27 : decode cX4_set 27 = .ok (.getfield 10, 3) := by decide +kernel
theorem dX4_set_30 : decode cX4_set 30 = .ok (.getfield 98, 3) := by decide +kernel
theorem dX4_set_33 : decode cX4_set 33 = .ok (.iload_n 1, 1) := by decide +kernel
theorem dX4_set_34 : decode cX4_set 34 = .ok (.iaload, 1) := by decide +kernel
theorem dX4_set_35 : decode cX4_set 35 = .ok (.istore_n 3, 1) := by decide +kernel
theorem dX4_set_36 : decode cX4_set 36 = .ok (.aload_n 0, 1) := by decide +kernel
theorem dX4_set_37 : decode cX4_set 37 = .ok (.getfield 10, 3) := by decide +kernel
theorem dX4_set_40 : decode cX4_set 40 = .ok (.getfield 98, 3) := by decide +kernel
theorem dX4_set_43 : decode cX4_set 43 = .ok (.iload_n 1, 1) := by decide +kernel
theorem dX4_set_44 : decode cX4_set 44 = .ok (.iload_n 2, 1) := by decide +kernel
theorem dX4_set_45 : decode cX4_set 45 = .ok (.iastore, 1) := by decide +kernel
theorem dX4_set_46 : decode cX4_set 46 = .ok (.iload_n 3, 1) := by decide +kernel
theorem dX4_set_47 : decode cX4_set 47 = .ok (.ireturn, 1) := by decide +kernel
set_option maxRecDepth 20000 in
theorem ggX4_lawOf_X4_isLaw : GoodIn wsX4_lawOf wsX4_isLaw := goodIn_r _ [6, 7, 8, 5, 9] (by decide +kernel) (by decide +kernel)
set_option maxRecDepth 20000 in
theorem gX4_lawOf_X4_isLaw : GoodIn wsX4_lawOf (va_wsS RX4 88 yX4_isLaw wsX4_isLaw) := goodIn_app (goodIn_of _ (by decide +kernel)) ggX4_lawOf_X4_isLaw
theorem dX4_lawOf_0 : decode cX4_lawOf 0 = .ok (.iload_n 1, 1) := by decide +kernel
theorem dX4_lawOf_1 : decode cX4_lawOf 1 = .ok (.invokestatic 88, 3) := by decide +kernel
theorem dX4_lawOf_4 : decode cX4_lawOf 4 = .ok (.ifCond .eq 15, 3) := by decide +kernel
theorem dX4_lawOf_7 : decode cX4_lawOf 7 = .ok (.aload_n 0, 1) := by decide +kernel
theorem dX4_lawOf_8 : decode cX4_lawOf 8 = .ok (.getfield 10, 3) := by decide +kernel
theorem dX4_lawOf_11 : decode cX4_lawOf 11 = .ok (.getfield 98, 3) := by decide +kernel
theorem dX4_lawOf_14 : decode cX4_lawOf 14 = .ok (.iload_n 1, 1) := by decide +kernel
theorem dX4_lawOf_15 : decode cX4_lawOf 15 = .ok (.iaload, 1) := by decide +kernel
theorem dX4_lawOf_16 : decode cX4_lawOf 16 = .ok (.goto 4, 3) := by decide +kernel
theorem dX4_lawOf_19 : decode cX4_lawOf 19 = .ok (.iconst (-1), 1) := by decide +kernel
theorem dX4_lawOf_20 : decode cX4_lawOf 20 = .ok (.ireturn, 1) := by decide +kernel
set_option maxRecDepth 20000 in
theorem ggX4_person_X4_isKind : GoodIn wsX4_person wsX4_isKind := goodIn_r _ [6, 7, 8, 5, 9] (by decide +kernel) (by decide +kernel)
set_option maxRecDepth 20000 in
theorem gX4_person_X4_isKind : GoodIn wsX4_person (va_wsS RX4 101 yX4_isKind wsX4_isKind) := goodIn_app (goodIn_of _ (by decide +kernel)) ggX4_person_X4_isKind
set_option maxRecDepth 20000 in
theorem ggX4_person_X4_isPride : GoodIn wsX4_person wsX4_isPride := goodIn_r _ [12, 7, 8, 5, 9] (by decide +kernel) (by decide +kernel)
set_option maxRecDepth 20000 in
theorem gX4_person_X4_isPride : GoodIn wsX4_person (va_wsS RX4 104 yX4_isPride wsX4_isPride) := goodIn_app (goodIn_of _ (by decide +kernel)) ggX4_person_X4_isPride
set_option maxRecDepth 20000 in
theorem ggX4_person_X4_isEar : GoodIn wsX4_person wsX4_isEar := goodIn_r _ [15, 7, 8, 5, 9] (by decide +kernel) (by decide +kernel)
set_option maxRecDepth 20000 in
theorem gX4_person_X4_isEar : GoodIn wsX4_person (va_wsS RX4 107 yX4_isEar wsX4_isEar) := goodIn_app (goodIn_of _ (by decide +kernel)) ggX4_person_X4_isEar
set_option maxRecDepth 20000 in
theorem ggX4_person_X4_isRoom : GoodIn wsX4_person wsX4_isRoom := goodIn_r _ [18, 7, 8, 5, 9] (by decide +kernel) (by decide +kernel)
set_option maxRecDepth 20000 in
theorem gX4_person_X4_isRoom : GoodIn wsX4_person (va_wsS RX4 110 yX4_isRoom wsX4_isRoom) := goodIn_app (goodIn_of _ (by decide +kernel)) ggX4_person_X4_isRoom
set_option maxRecDepth 20000 in
theorem ggX4_person_X0_admit : GoodIn wsX4_person wsX0_admit := goodIn_r _ [23, 24, 25, 26, 27, 28, 29, 30, 31, 22, 32, 33, 45, 46, 47, 48, 49, 50, 51, 52, 53, 54, 55] (by decide +kernel) (by decide +kernel)
set_option maxRecDepth 20000 in
theorem gX4_person_X0_admit : GoodIn wsX4_person (wsV RX4 113 RX0 yX0_admit wsX0_admit) := goodIn_app (goodIn_of _ (by decide +kernel)) ggX4_person_X0_admit
theorem dX4_person_0 : decode cX4_person 0 = .ok (.iload_n 1, 1) := by decide +kernel
theorem dX4_person_1 : decode cX4_person 1 = .ok (.invokestatic 101, 3) := by decide +kernel
theorem dX4_person_4 : decode cX4_person 4 = .ok (.ifCond .eq 25, 3) := by decide +kernel
theorem dX4_person_7 : decode cX4_person 7 = .ok (.iload_n 2, 1) := by decide +kernel
theorem dX4_person_8 : decode cX4_person 8 = .ok (.invokestatic 104, 3) := by decide +kernel
theorem dX4_person_11 : decode cX4_person 11 = .ok (.ifCond .eq 18, 3) := by decide +kernel
theorem dX4_person_14 : decode cX4_person 14 = .ok (.iload_n 3, 1) := by decide +kernel
theorem dX4_person_15 : decode cX4_person 15 = .ok (.invokestatic 107, 3) := by decide +kernel
theorem dX4_person_18 : decode cX4_person 18 = .ok (.ifCond .eq 11, 3) := by decide +kernel
theorem dX4_person_21 : decode cX4_person 21 = .ok (.iload 4, 2) := by decide +kernel
theorem dX4_person_23 : decode cX4_person 23 = .ok (.invokestatic 110, 3) := by decide +kernel
theorem dX4_person_26 : decode cX4_person 26 = .ok (.ifCond .ne 5, 3) := by decide +kernel
theorem dX4_person_29 : decode cX4_person 29 = .ok (.iconst (-1), 1) := by decide +kernel
theorem dX4_person_30 : decode cX4_person 30 = .ok (.ireturn, 1) := by decide +kernel
theorem dX4_person_31 : decode cX4_person 31 = .ok (.aload_n 0, 1) := by decide +kernel
theorem dX4_person_32 : decode cX4_person 32 = .ok (.getfield 10, 3) := by decide +kernel
theorem dX4_person_35 : decode cX4_person 35 = .ok (.getfield 85, 3) := by decide +kernel
theorem dX4_person_38 : decode cX4_person 38 = .ok (.bipush 8, 2) := by decide +kernel
theorem dX4_person_40 : decode cX4_person 40 = .ok (.if_icmp .lt 6, 3) := by decide +kernel
theorem dX4_person_43 : decode cX4_person 43 = .ok (.bipush (-2), 2) := by decide +kernel
theorem dX4_person_45 : decode cX4_person 45 = .ok (.ireturn, 1) := by decide +kernel
theorem dX4_person_46 : decode cX4_person 46 = .ok (.aload_n 0, 1) := by decide +kernel
theorem dX4_person_47 : decode cX4_person 47 = .ok (.getfield 10, 3) := by decide +kernel
theorem dX4_person_50 : decode cX4_person 50 = .ok (.iload_n 1, 1) := by decide +kernel
theorem dX4_person_51 : decode cX4_person 51 = .ok (.iload_n 2, 1) := by decide +kernel
theorem dX4_person_52 : decode cX4_person 52 = .ok (.iload_n 3, 1) := by decide +kernel
theorem dX4_person_53 : decode cX4_person 53 = .ok (.iload 4, 2) := by decide +kernel
theorem dX4_person_55 : decode cX4_person 55 = .ok (.iconst 0, 1) := by decide +kernel
theorem dX4_person_56 : decode cX4_person 56 = .ok (.invokevirtual 113, 3) := by decide +kernel
theorem dX4_person_59 : decode cX4_person 59 = .ok (.aload_n 0, 1) := by decide +kernel
theorem dX4_person_60 : decode cX4_person 60 = .ok (.getfield 10, 3) := by decide +kernel
theorem dX4_person_63 : decode cX4_person 63 = .ok (.getfield 85, 3) := by decide +kernel
theorem dX4_person_66 : decode cX4_person 66 = .ok (.iconst 1, 1) := by decide +kernel
theorem dX4_person_67 : decode cX4_person 67 = .ok (.isub, 1) := by decide +kernel
theorem dX4_person_68 : decode cX4_person 68 = .ok (.ireturn, 1) := by decide +kernel
set_option maxRecDepth 20000 in
theorem ggX4_of_X0_has : GoodIn wsX4_of wsX0_has := goodIn_r _ [10, 11, 12, 13, 14, 31, 32, 33, 34, 35, 36, 37, 38, 39, 40, 41] (by decide +kernel) (by decide +kernel)
set_option maxRecDepth 20000 in
theorem gX4_of_X0_has : GoodIn wsX4_of (wsV RX4 117 RX0 yX0_has wsX0_has) := goodIn_app (goodIn_of _ (by decide +kernel)) ggX4_of_X0_has
set_option maxRecDepth 20000 in
theorem ggX4_of_X0_doesClap : GoodIn wsX4_of wsX0_doesClap := goodIn_r _ [18, 19, 31, 32, 33, 34, 35, 36, 37, 38, 39, 40, 41] (by decide +kernel) (by decide +kernel)
set_option maxRecDepth 20000 in
theorem gX4_of_X0_doesClap : GoodIn wsX4_of (wsV RX4 132 RX0 yX0_doesClap wsX0_doesClap) := goodIn_app (goodIn_of _ (by decide +kernel)) ggX4_of_X0_doesClap
theorem dX4_of_0 : decode cX4_of 0 = .ok (.aload_n 0, 1) := by decide +kernel
theorem dX4_of_1 : decode cX4_of 1 = .ok (.getfield 10, 3) := by decide +kernel
theorem dX4_of_4 : decode cX4_of 4 = .ok (.iload_n 1, 1) := by decide +kernel
theorem dX4_of_5 : decode cX4_of 5 = .ok (.invokevirtual 117, 3) := by decide +kernel
theorem dX4_of_8 : decode cX4_of 8 = .ok (.ifCond .ne 5, 3) := by decide +kernel
theorem dX4_of_11 : decode cX4_of 11 = .ok (.iconst (-1), 1) := by decide +kernel
theorem dX4_of_12 : decode cX4_of 12 = .ok (.ireturn, 1) := by decide +kernel
theorem dX4_of_13 : decode cX4_of 13 = .ok (.iload_n 2, 1) := by decide +kernel
theorem dX4_of_14 : decode cX4_of 14 = .ok (.tableswitch 91 0 4 #[34, 44, 54, 64, 74], 34) := by decide +kernel
theorem dX4_of_48 : decode cX4_of 48 = .ok (.aload_n 0, 1) := by decide +kernel
theorem dX4_of_49 : decode cX4_of 49 = .ok (.getfield 10, 3) := by decide +kernel
theorem dX4_of_52 : decode cX4_of 52 = .ok (.getfield 120, 3) := by decide +kernel
theorem dX4_of_55 : decode cX4_of 55 = .ok (.iload_n 1, 1) := by decide +kernel
theorem dX4_of_56 : decode cX4_of 56 = .ok (.iaload, 1) := by decide +kernel
theorem dX4_of_57 : decode cX4_of 57 = .ok (.ireturn, 1) := by decide +kernel
theorem dX4_of_58 : decode cX4_of 58 = .ok (.aload_n 0, 1) := by decide +kernel
theorem dX4_of_59 : decode cX4_of 59 = .ok (.getfield 10, 3) := by decide +kernel
theorem dX4_of_62 : decode cX4_of 62 = .ok (.getfield 123, 3) := by decide +kernel
theorem dX4_of_65 : decode cX4_of 65 = .ok (.iload_n 1, 1) := by decide +kernel
theorem dX4_of_66 : decode cX4_of 66 = .ok (.iaload, 1) := by decide +kernel
theorem dX4_of_67 : decode cX4_of 67 = .ok (.ireturn, 1) := by decide +kernel
theorem dX4_of_68 : decode cX4_of 68 = .ok (.aload_n 0, 1) := by decide +kernel
theorem dX4_of_69 : decode cX4_of 69 = .ok (.getfield 10, 3) := by decide +kernel
theorem dX4_of_72 : decode cX4_of 72 = .ok (.getfield 126, 3) := by decide +kernel
theorem dX4_of_75 : decode cX4_of 75 = .ok (.iload_n 1, 1) := by decide +kernel
theorem dX4_of_76 : decode cX4_of 76 = .ok (.iaload, 1) := by decide +kernel
theorem dX4_of_77 : decode cX4_of 77 = .ok (.ireturn, 1) := by decide +kernel
theorem dX4_of_78 : decode cX4_of 78 = .ok (.aload_n 0, 1) := by decide +kernel
theorem dX4_of_79 : decode cX4_of 79 = .ok (.getfield 10, 3) := by decide +kernel
theorem dX4_of_82 : decode cX4_of 82 = .ok (.getfield 129, 3) := by decide +kernel
theorem dX4_of_85 : decode cX4_of 85 = .ok (.iload_n 1, 1) := by decide +kernel
theorem dX4_of_86 : decode cX4_of 86 = .ok (.iaload, 1) := by decide +kernel
theorem dX4_of_87 : decode cX4_of 87 = .ok (.ireturn, 1) := by decide +kernel
theorem dX4_of_88 : decode cX4_of 88 = .ok (.aload_n 0, 1) := by decide +kernel
theorem dX4_of_89 : decode cX4_of 89 = .ok (.getfield 10, 3) := by decide +kernel
theorem dX4_of_92 : decode cX4_of 92 = .ok (.iload_n 1, 1) := by decide +kernel
theorem dX4_of_93 : decode cX4_of 93 = .ok (.invokevirtual 132, 3) := by decide +kernel
theorem dX4_of_96 : decode cX4_of 96 = .ok (.ifCond .eq 7, 3) := by decide +kernel
theorem dX4_of_99 : decode cX4_of 99 = .ok (.iconst 1, 1) := by decide +kernel
theorem dX4_of_100 : decode cX4_of 100 = .ok (.goto 4, 3) := by decide +kernel
theorem dX4_of_103 : decode cX4_of 103 = .ok (.iconst 0, 1) := by decide +kernel
theorem dX4_of_104 : decode cX4_of 104 = .ok (.ireturn, 1) := by decide +kernel
theorem dX4_of_105 : decode cX4_of 105 = .ok (.iconst (-1), 1) := by decide +kernel
theorem dX4_of_106 : decode cX4_of 106 = .ok (.ireturn, 1) := by decide +kernel
set_option maxRecDepth 20000 in
theorem ggX4_does_X0_has : GoodIn wsX4_does wsX0_has := goodIn_r _ [6, 7, 8, 9, 10, 63, 64, 65, 66, 67, 68, 69, 70, 71, 72, 73] (by decide +kernel) (by decide +kernel)
set_option maxRecDepth 20000 in
theorem gX4_does_X0_has : GoodIn wsX4_does (wsV RX4 117 RX0 yX0_has wsX0_has) := goodIn_app (goodIn_of _ (by decide +kernel)) ggX4_does_X0_has
set_option maxRecDepth 20000 in
theorem ggX4_does_X0_loud : GoodIn wsX4_does wsX0_loud := goodIn_r _ [14, 15, 16, 17, 18, 63, 64, 65, 66, 67, 68, 69, 70, 71, 72, 73] (by decide +kernel) (by decide +kernel)
set_option maxRecDepth 20000 in
theorem gX4_does_X0_loud : GoodIn wsX4_does (wsV RX4 135 RX0 yX0_loud wsX0_loud) := goodIn_app (goodIn_of _ (by decide +kernel)) ggX4_does_X0_loud
set_option maxRecDepth 20000 in
theorem ggX4_does_X0_needs : GoodIn wsX4_does wsX0_needs := goodIn_r _ [22, 15, 18, 16, 23, 24, 25, 5, 26, 17, 27, 63, 64, 65, 66, 67, 68, 69, 70, 71, 72, 73] (by decide +kernel) (by decide +kernel)
set_option maxRecDepth 20000 in
theorem gX4_does_X0_needs : GoodIn wsX4_does (wsV RX4 139 RX0 yX0_needs wsX0_needs) := goodIn_app (goodIn_of _ (by decide +kernel)) ggX4_does_X0_needs
set_option maxRecDepth 20000 in
theorem ggX4_does_X0_hears : GoodIn wsX4_does wsX0_hears := goodIn_r _ [31, 32, 33, 34, 35, 5, 36, 37, 7, 38, 39, 40, 41, 42, 43, 44, 45, 46, 47, 12, 13, 14, 15, 16, 17, 18, 48, 49, 50, 51, 63, 64, 65, 66, 67, 68, 69, 70, 71, 72, 73] (by decide +kernel) (by decide +kernel)
set_option maxRecDepth 20000 in
theorem gX4_does_X0_hears : GoodIn wsX4_does (wsV RX4 142 RX0 yX0_hears wsX0_hears) := goodIn_app (goodIn_of _ (by decide +kernel)) ggX4_does_X0_hears
theorem dX4_does_0 : decode cX4_does 0 = .ok (.aload_n 0, 1) := by decide +kernel
theorem dX4_does_1 : decode cX4_does 1 = .ok (.getfield 10, 3) := by decide +kernel
theorem dX4_does_4 : decode cX4_does 4 = .ok (.iload_n 1, 1) := by decide +kernel
theorem dX4_does_5 : decode cX4_does 5 = .ok (.invokevirtual 117, 3) := by decide +kernel
theorem dX4_does_8 : decode cX4_does 8 = .ok (.ifCond .ne 5, 3) := by decide +kernel
theorem dX4_does_11 : decode cX4_does 11 = .ok (.iconst (-1), 1) := by decide +kernel
theorem dX4_does_12 : decode cX4_does 12 = .ok (.ireturn, 1) := by decide +kernel
theorem dX4_does_13 : decode cX4_does 13 = .ok (.iload_n 2, 1) := by decide +kernel
theorem dX4_does_14 : decode cX4_does 14 = .ok (.tableswitch 65 0 2 #[26, 39, 52], 26) := by decide +kernel
theorem dX4_does_40 : decode cX4_does 40 = .ok (.sipush 1000, 3) := by decide +kernel
theorem dX4_does_43 : decode cX4_does 43 = .ok (.aload_n 0, 1) := by decide +kernel
theorem dX4_does_44 : decode cX4_does 44 = .ok (.getfield 10, 3) := by decide +kernel
theorem dX4_does_47 : decode cX4_does 47 = .ok (.iload_n 1, 1) := by decide +kernel
theorem dX4_does_48 : decode cX4_does 48 = .ok (.invokevirtual 135, 3) := by decide +kernel
theorem dX4_does_51 : decode cX4_does 51 = .ok (.iadd, 1) := by decide +kernel
theorem dX4_does_52 : decode cX4_does 52 = .ok (.ireturn, 1) := by decide +kernel
theorem dX4_does_53 : decode cX4_does 53 = .ok (.sipush 1000, 3) := by decide +kernel
theorem dX4_does_56 : decode cX4_does 56 = .ok (.aload_n 0, 1) := by decide +kernel
theorem dX4_does_57 : decode cX4_does 57 = .ok (.getfield 10, 3) := by decide +kernel
theorem dX4_does_60 : decode cX4_does 60 = .ok (.iload_n 1, 1) := by decide +kernel
theorem dX4_does_61 : decode cX4_does 61 = .ok (.invokevirtual 139, 3) := by decide +kernel
theorem dX4_does_64 : decode cX4_does 64 = .ok (.iadd, 1) := by decide +kernel
theorem dX4_does_65 : decode cX4_does 65 = .ok (.ireturn, 1) := by decide +kernel
theorem dX4_does_66 : decode cX4_does 66 = .ok (.sipush 1000, 3) := by decide +kernel
theorem dX4_does_69 : decode cX4_does 69 = .ok (.aload_n 0, 1) := by decide +kernel
theorem dX4_does_70 : decode cX4_does 70 = .ok (.getfield 10, 3) := by decide +kernel
theorem dX4_does_73 : decode cX4_does 73 = .ok (.iload_n 1, 1) := by decide +kernel
theorem dX4_does_74 : decode cX4_does 74 = .ok (.invokevirtual 142, 3) := by decide +kernel
theorem dX4_does_77 : decode cX4_does 77 = .ok (.iadd, 1) := by decide +kernel
theorem dX4_does_78 : decode cX4_does 78 = .ok (.ireturn, 1) := by decide +kernel
theorem dX4_does_79 : decode cX4_does 79 = .ok (.iconst (-1), 1) := by decide +kernel
theorem dX4_does_80 : decode cX4_does 80 = .ok (.ireturn, 1) := by decide +kernel
set_option maxRecDepth 20000 in
theorem ggX4_mind_X0_has : GoodIn wsX4_mind wsX0_has := goodIn_r _ [8, 9, 10, 11, 12, 31, 32, 33, 34, 35, 36, 37, 38, 39, 40, 41] (by decide +kernel) (by decide +kernel)
set_option maxRecDepth 20000 in
theorem gX4_mind_X0_has : GoodIn wsX4_mind (wsV RX4 117 RX0 yX0_has wsX0_has) := goodIn_app (goodIn_of _ (by decide +kernel)) ggX4_mind_X0_has
set_option maxRecDepth 20000 in
theorem ggX4_mind_X4_isKind : GoodIn wsX4_mind wsX4_isKind := goodIn_r _ [15, 16, 10, 11, 12] (by decide +kernel) (by decide +kernel)
set_option maxRecDepth 20000 in
theorem gX4_mind_X4_isKind : GoodIn wsX4_mind (va_wsS RX4 101 yX4_isKind wsX4_isKind) := goodIn_app (goodIn_of _ (by decide +kernel)) ggX4_mind_X4_isKind
set_option maxRecDepth 20000 in
theorem ggX4_mind_X4_isEar : GoodIn wsX4_mind wsX4_isEar := goodIn_r _ [19, 16, 10, 11, 12] (by decide +kernel) (by decide +kernel)
set_option maxRecDepth 20000 in
theorem gX4_mind_X4_isEar : GoodIn wsX4_mind (va_wsS RX4 107 yX4_isEar wsX4_isEar) := goodIn_app (goodIn_of _ (by decide +kernel)) ggX4_mind_X4_isEar
theorem dX4_mind_0 : decode cX4_mind 0 = .ok (.aload_n 0, 1) := by decide +kernel
theorem dX4_mind_1 : decode cX4_mind 1 = .ok (.getfield 10, 3) := by decide +kernel
theorem dX4_mind_4 : decode cX4_mind 4 = .ok (.iload_n 1, 1) := by decide +kernel
theorem dX4_mind_5 : decode cX4_mind 5 = .ok (.invokevirtual 117, 3) := by decide +kernel
theorem dX4_mind_8 : decode cX4_mind 8 = .ok (.ifCond .eq 17, 3) := by decide +kernel
theorem dX4_mind_11 : decode cX4_mind 11 = .ok (.iload_n 2, 1) := by decide +kernel
theorem dX4_mind_12 : decode cX4_mind 12 = .ok (.invokestatic 101, 3) := by decide +kernel
theorem dX4_mind_15 : decode cX4_mind 15 = .ok (.ifCond .eq 10, 3) := by decide +kernel
theorem dX4_mind_18 : decode cX4_mind 18 = .ok (.iload_n 3, 1) := by decide +kernel
theorem dX4_mind_19 : decode cX4_mind 19 = .ok (.invokestatic 107, 3) := by decide +kernel
theorem dX4_mind_22 : decode cX4_mind 22 = .ok (.ifCond .ne 5, 3) := by decide +kernel
theorem dX4_mind_25 : decode cX4_mind 25 = .ok (.iconst (-1), 1) := by decide +kernel
theorem dX4_mind_26 : decode cX4_mind 26 = .ok (.ireturn, 1) := by decide +kernel
theorem dX4_mind_27 : decode cX4_mind 27 = .ok (.aload_n 0, 1) := by decide +kernel
theorem dX4_mind_28 : decode cX4_mind 28 = .ok (.getfield 10, 3) := by decide +kernel
theorem dX4_mind_31 : decode cX4_mind 31 = .ok (.getfield 120, 3) := by decide +kernel
theorem dX4_mind_34 : decode cX4_mind 34 = .ok (.iload_n 1, 1) := by decide +kernel
theorem dX4_mind_35 : decode cX4_mind 35 = .ok (.iaload, 1) := by decide +kernel
theorem dX4_mind_36 : decode cX4_mind 36 = .ok (.istore 4, 2) := by decide +kernel
theorem dX4_mind_38 : decode cX4_mind 38 = .ok (.aload_n 0, 1) := by decide +kernel
theorem dX4_mind_39 : decode cX4_mind 39 = .ok (.getfield 10, 3) := by decide +kernel
theorem dX4_mind_42 : decode cX4_mind 42 = .ok (.getfield 120, 3) := by decide +kernel
theorem dX4_mind_45 : decode cX4_mind 45 = .ok (.iload_n 1, 1) := by decide +kernel
theorem dX4_mind_46 : decode cX4_mind 46 = .ok (.iload_n 2, 1) := by decide +kernel
theorem dX4_mind_47 : decode cX4_mind 47 = .ok (.iastore, 1) := by decide +kernel
theorem dX4_mind_48 : decode cX4_mind 48 = .ok (.aload_n 0, 1) := by decide +kernel
theorem dX4_mind_49 : decode cX4_mind 49 = .ok (.getfield 10, 3) := by decide +kernel
theorem dX4_mind_52 : decode cX4_mind 52 = .ok (.getfield 126, 3) := by decide +kernel
theorem dX4_mind_55 : decode cX4_mind 55 = .ok (.iload_n 1, 1) := by decide +kernel
theorem dX4_mind_56 : decode cX4_mind 56 = .ok (.iload_n 3, 1) := by decide +kernel
theorem dX4_mind_57 : decode cX4_mind 57 = .ok (.iastore, 1) := by decide +kernel
theorem dX4_mind_58 : decode cX4_mind 58 = .ok (.iload 4, 2) := by decide +kernel
theorem dX4_mind_60 : decode cX4_mind 60 = .ok (.ireturn, 1) := by decide +kernel
set_option maxRecDepth 20000 in
theorem ggX4_pride_X0_has : GoodIn wsX4_pride wsX0_has := goodIn_r _ [7, 8, 9, 10, 11, 27, 28, 29, 30, 31, 32, 33, 34, 35, 36, 37] (by decide +kernel) (by decide +kernel)
set_option maxRecDepth 20000 in
theorem gX4_pride_X0_has : GoodIn wsX4_pride (wsV RX4 117 RX0 yX0_has wsX0_has) := goodIn_app (goodIn_of _ (by decide +kernel)) ggX4_pride_X0_has
set_option maxRecDepth 20000 in
theorem ggX4_pride_X4_isPride : GoodIn wsX4_pride wsX4_isPride := goodIn_r _ [14, 15, 9, 10, 11] (by decide +kernel) (by decide +kernel)
set_option maxRecDepth 20000 in
theorem gX4_pride_X4_isPride : GoodIn wsX4_pride (va_wsS RX4 104 yX4_isPride wsX4_isPride) := goodIn_app (goodIn_of _ (by decide +kernel)) ggX4_pride_X4_isPride
theorem dX4_pride_0 : decode cX4_pride 0 = .ok (.aload_n 0, 1) := by decide +kernel
theorem dX4_pride_1 : decode cX4_pride 1 = .ok (.getfield 10, 3) := by decide +kernel
theorem dX4_pride_4 : decode cX4_pride 4 = .ok (.iload_n 1, 1) := by decide +kernel
theorem dX4_pride_5 : decode cX4_pride 5 = .ok (.invokevirtual 117, 3) := by decide +kernel
theorem dX4_pride_8 : decode cX4_pride 8 = .ok (.ifCond .eq 10, 3) := by decide +kernel
theorem dX4_pride_11 : decode cX4_pride 11 = .ok (.iload_n 2, 1) := by decide +kernel
theorem dX4_pride_12 : decode cX4_pride 12 = .ok (.invokestatic 104, 3) := by decide +kernel
theorem dX4_pride_15 : decode cX4_pride 15 = .ok (.ifCond .ne 5, 3) := by decide +kernel
theorem dX4_pride_18 : decode cX4_pride 18 = .ok (.iconst (-1), 1) := by decide +kernel
theorem dX4_pride_19 : decode cX4_pride 19 = .ok (.ireturn, 1) := by decide +kernel
theorem dX4_pride_20 : decode cX4_pride 20 = .ok (.aload_n 0, 1) := by decide +kernel
theorem dX4_pride_21 : decode cX4_pride 21 = .ok (.getfield 10, 3) := by decide +kernel
theorem dX4_pride_24 : decode cX4_pride 24 = .ok (.getfield 123, 3) := by decide +kernel
theorem dX4_pride_27 : decode cX4_pride 27 = .ok (.iload_n 1, 1) := by decide +kernel
theorem dX4_pride_28 : decode cX4_pride 28 = .ok (.iaload, 1) := by decide +kernel
theorem dX4_pride_29 : decode cX4_pride 29 = .ok (.istore_n 3, 1) := by decide +kernel
theorem dX4_pride_30 : decode cX4_pride 30 = .ok (.aload_n 0, 1) := by decide +kernel
theorem dX4_pride_31 : decode cX4_pride 31 = .ok (.getfield 10, 3) := by decide +kernel
theorem dX4_pride_34 : decode cX4_pride 34 = .ok (.getfield 123, 3) := by decide +kernel
theorem dX4_pride_37 : decode cX4_pride 37 = .ok (.iload_n 1, 1) := by decide +kernel
theorem dX4_pride_38 : decode cX4_pride 38 = .ok (.iload_n 2, 1) := by decide +kernel
theorem dX4_pride_39 : decode cX4_pride 39 = .ok (.iastore, 1) := by decide +kernel
theorem dX4_pride_40 : decode cX4_pride 40 = .ok (.iload_n 3, 1) := by decide +kernel
theorem dX4_pride_41 : decode cX4_pride 41 = .ok (.ireturn, 1) := by decide +kernel
set_option maxRecDepth 20000 in
theorem ggX4_move_X0_has : GoodIn wsX4_move wsX0_has := goodIn_r _ [7, 8, 9, 10, 11, 27, 28, 29, 30, 31, 32, 33, 34, 35, 36, 37] (by decide +kernel) (by decide +kernel)
set_option maxRecDepth 20000 in
theorem gX4_move_X0_has : GoodIn wsX4_move (wsV RX4 117 RX0 yX0_has wsX0_has) := goodIn_app (goodIn_of _ (by decide +kernel)) ggX4_move_X0_has
set_option maxRecDepth 20000 in
theorem ggX4_move_X4_isRoom : GoodIn wsX4_move wsX4_isRoom := goodIn_r _ [14, 15, 9, 10, 11] (by decide +kernel) (by decide +kernel)
set_option maxRecDepth 20000 in
theorem gX4_move_X4_isRoom : GoodIn wsX4_move (va_wsS RX4 110 yX4_isRoom wsX4_isRoom) := goodIn_app (goodIn_of _ (by decide +kernel)) ggX4_move_X4_isRoom
theorem dX4_move_0 : decode cX4_move 0 = .ok (.aload_n 0, 1) := by decide +kernel
theorem dX4_move_1 : decode cX4_move 1 = .ok (.getfield 10, 3) := by decide +kernel
theorem dX4_move_4 : decode cX4_move 4 = .ok (.iload_n 1, 1) := by decide +kernel
theorem dX4_move_5 : decode cX4_move 5 = .ok (.invokevirtual 117, 3) := by decide +kernel
theorem dX4_move_8 : decode cX4_move 8 = .ok (.ifCond .eq 10, 3) := by decide +kernel
theorem dX4_move_11 : decode cX4_move 11 = .ok (.iload_n 2, 1) := by decide +kernel
theorem dX4_move_12 : decode cX4_move 12 = .ok (.invokestatic 110, 3) := by decide +kernel
theorem dX4_move_15 : decode cX4_move 15 = .ok (.ifCond .ne 5, 3) := by decide +kernel
theorem dX4_move_18 : decode cX4_move 18 = .ok (.iconst (-1), 1) := by decide +kernel
theorem dX4_move_19 : decode cX4_move 19 = .ok (.ireturn, 1) := by decide +kernel
theorem dX4_move_20 : decode cX4_move 20 = .ok (.aload_n 0, 1) := by decide +kernel
theorem dX4_move_21 : decode cX4_move 21 = .ok (.getfield 10, 3) := by decide +kernel
theorem dX4_move_24 : decode cX4_move 24 = .ok (.getfield 129, 3) := by decide +kernel
theorem dX4_move_27 : decode cX4_move 27 = .ok (.iload_n 1, 1) := by decide +kernel
theorem dX4_move_28 : decode cX4_move 28 = .ok (.iaload, 1) := by decide +kernel
theorem dX4_move_29 : decode cX4_move 29 = .ok (.istore_n 3, 1) := by decide +kernel
theorem dX4_move_30 : decode cX4_move 30 = .ok (.aload_n 0, 1) := by decide +kernel
theorem dX4_move_31 : decode cX4_move 31 = .ok (.getfield 10, 3) := by decide +kernel
theorem dX4_move_34 : decode cX4_move 34 = .ok (.getfield 129, 3) := by decide +kernel
theorem dX4_move_37 : decode cX4_move 37 = .ok (.iload_n 1, 1) := by decide +kernel
theorem dX4_move_38 : decode cX4_move 38 = .ok (.iload_n 2, 1) := by decide +kernel
theorem dX4_move_39 : decode cX4_move 39 = .ok (.iastore, 1) := by decide +kernel
theorem dX4_move_40 : decode cX4_move 40 = .ok (.iload_n 3, 1) := by decide +kernel
theorem dX4_move_41 : decode cX4_move 41 = .ok (.ireturn, 1) := by decide +kernel
set_option maxRecDepth 20000 in
theorem ggX4_clap_X0_has : GoodIn wsX4_clap wsX0_has := goodIn_r _ [6, 7, 8, 9, 10, 32, 33, 34, 35, 36, 37, 38, 39, 40, 41, 42] (by decide +kernel) (by decide +kernel)
set_option maxRecDepth 20000 in
theorem gX4_clap_X0_has : GoodIn wsX4_clap (wsV RX4 117 RX0 yX0_has wsX0_has) := goodIn_app (goodIn_of _ (by decide +kernel)) ggX4_clap_X0_has
set_option maxRecDepth 20000 in
theorem ggX4_clap_X4_within : GoodIn wsX4_clap wsX4_within := goodIn_r _ [10] (by decide +kernel) (by decide +kernel)
set_option maxRecDepth 20000 in
theorem gX4_clap_X4_within : GoodIn wsX4_clap (va_wsS RX4 60 yX4_within wsX4_within) := goodIn_app (goodIn_of _ (by decide +kernel)) ggX4_clap_X4_within
set_option maxRecDepth 20000 in
theorem ggX4_clap_X0_doesClap : GoodIn wsX4_clap wsX0_doesClap := goodIn_r _ [15, 16, 32, 33, 34, 35, 36, 37, 38, 39, 40, 41, 42] (by decide +kernel) (by decide +kernel)
set_option maxRecDepth 20000 in
theorem gX4_clap_X0_doesClap : GoodIn wsX4_clap (wsV RX4 132 RX0 yX0_doesClap wsX0_doesClap) := goodIn_app (goodIn_of _ (by decide +kernel)) ggX4_clap_X0_doesClap
set_option maxRecDepth 20000 in
theorem ggX4_clap_X0_letClap : GoodIn wsX4_clap wsX0_letClap := goodIn_r _ [20, 16, 32, 33, 34, 35, 36, 37, 38, 39, 40, 41, 42] (by decide +kernel) (by decide +kernel)
set_option maxRecDepth 20000 in
theorem gX4_clap_X0_letClap : GoodIn wsX4_clap (wsV RX4 145 RX0 yX0_letClap wsX0_letClap) := goodIn_app (goodIn_of _ (by decide +kernel)) ggX4_clap_X0_letClap
theorem dX4_clap_0 : decode cX4_clap 0 = .ok (.aload_n 0, 1) := by decide +kernel
theorem dX4_clap_1 : decode cX4_clap 1 = .ok (.getfield 10, 3) := by decide +kernel
theorem dX4_clap_4 : decode cX4_clap 4 = .ok (.iload_n 1, 1) := by decide +kernel
theorem dX4_clap_5 : decode cX4_clap 5 = .ok (.invokevirtual 117, 3) := by decide +kernel
theorem dX4_clap_8 : decode cX4_clap 8 = .ok (.ifCond .eq 12, 3) := by decide +kernel
theorem dX4_clap_11 : decode cX4_clap 11 = .ok (.iload_n 2, 1) := by decide +kernel
theorem dX4_clap_12 : decode cX4_clap 12 = .ok (.iconst 0, 1) := by decide +kernel
theorem dX4_clap_13 : decode cX4_clap 13 = .ok (.iconst 1, 1) := by decide +kernel
theorem dX4_clap_14 : decode cX4_clap 14 = .ok (.invokestatic 60, 3) := by decide +kernel
theorem dX4_clap_17 : decode cX4_clap 17 = .ok (.ifCond .ne 5, 3) := by decide +kernel
theorem dX4_clap_20 : decode cX4_clap 20 = .ok (.iconst (-1), 1) := by decide +kernel
theorem dX4_clap_21 : decode cX4_clap 21 = .ok (.ireturn, 1) := by decide +kernel
theorem dX4_clap_22 : decode cX4_clap 22 = .ok (.aload_n 0, 1) := by decide +kernel
theorem dX4_clap_23 : decode cX4_clap 23 = .ok (.getfield 10, 3) := by decide +kernel
theorem dX4_clap_26 : decode cX4_clap 26 = .ok (.iload_n 1, 1) := by decide +kernel
theorem dX4_clap_27 : decode cX4_clap 27 = .ok (.invokevirtual 132, 3) := by decide +kernel
theorem dX4_clap_30 : decode cX4_clap 30 = .ok (.ifCond .eq 7, 3) := by decide +kernel
theorem dX4_clap_33 : decode cX4_clap 33 = .ok (.iconst 1, 1) := by decide +kernel
theorem dX4_clap_34 : decode cX4_clap 34 = .ok (.goto 4, 3) := by decide +kernel
theorem dX4_clap_37 : decode cX4_clap 37 = .ok (.iconst 0, 1) := by decide +kernel
theorem dX4_clap_38 : decode cX4_clap 38 = .ok (.istore_n 3, 1) := by decide +kernel
theorem dX4_clap_39 : decode cX4_clap 39 = .ok (.aload_n 0, 1) := by decide +kernel
theorem dX4_clap_40 : decode cX4_clap 40 = .ok (.getfield 10, 3) := by decide +kernel
theorem dX4_clap_43 : decode cX4_clap 43 = .ok (.iload_n 1, 1) := by decide +kernel
theorem dX4_clap_44 : decode cX4_clap 44 = .ok (.iload_n 2, 1) := by decide +kernel
theorem dX4_clap_45 : decode cX4_clap 45 = .ok (.iconst 1, 1) := by decide +kernel
theorem dX4_clap_46 : decode cX4_clap 46 = .ok (.if_icmp .ne 7, 3) := by decide +kernel
theorem dX4_clap_49 : decode cX4_clap 49 = .ok (.iconst 1, 1) := by decide +kernel
theorem dX4_clap_50 : decode cX4_clap 50 = .ok (.goto 4, 3) := by decide +kernel
theorem dX4_clap_53 : decode cX4_clap 53 = .ok (.iconst 0, 1) := by decide +kernel
theorem dX4_clap_54 : decode cX4_clap 54 = .ok (.invokevirtual 145, 3) := by decide +kernel
theorem dX4_clap_57 : decode cX4_clap 57 = .ok (.iload_n 3, 1) := by decide +kernel
theorem dX4_clap_58 : decode cX4_clap 58 = .ok (.ireturn, 1) := by decide +kernel
set_option maxRecDepth 20000 in
theorem ggX4_room_X4_isRoom : GoodIn wsX4_room wsX4_isRoom := goodIn_r _ [6, 7, 8, 5, 9] (by decide +kernel) (by decide +kernel)
set_option maxRecDepth 20000 in
theorem gX4_room_X4_isRoom : GoodIn wsX4_room (va_wsS RX4 110 yX4_isRoom wsX4_isRoom) := goodIn_app (goodIn_of _ (by decide +kernel)) ggX4_room_X4_isRoom
set_option maxRecDepth 20000 in
theorem ggX4_room_X4_within : GoodIn wsX4_room wsX4_within := goodIn_r _ [9] (by decide +kernel) (by decide +kernel)
set_option maxRecDepth 20000 in
theorem gX4_room_X4_within : GoodIn wsX4_room (va_wsS RX4 60 yX4_within wsX4_within) := goodIn_app (goodIn_of _ (by decide +kernel)) ggX4_room_X4_within
set_option maxRecDepth 20000 in
theorem ggX4_room_X0_inside : GoodIn wsX4_room wsX0_inside := goodIn_r _ [14, 15, 16, 28, 29, 30, 31, 32, 33, 34, 35, 36, 37, 38] (by decide +kernel) (by decide +kernel)
set_option maxRecDepth 20000 in
theorem gX4_room_X0_inside : GoodIn wsX4_room (wsV RX4 149 RX0 yX0_inside wsX0_inside) := goodIn_app (goodIn_of _ (by decide +kernel)) ggX4_room_X0_inside
theorem dX4_room_0 : decode cX4_room 0 = .ok (.iload_n 1, 1) := by decide +kernel
theorem dX4_room_1 : decode cX4_room 1 = .ok (.invokestatic 110, 3) := by decide +kernel
theorem dX4_room_4 : decode cX4_room 4 = .ok (.ifCond .eq 12, 3) := by decide +kernel
theorem dX4_room_7 : decode cX4_room 7 = .ok (.iload_n 2, 1) := by decide +kernel
theorem dX4_room_8 : decode cX4_room 8 = .ok (.iconst 0, 1) := by decide +kernel
theorem dX4_room_9 : decode cX4_room 9 = .ok (.iconst 1, 1) := by decide +kernel
theorem dX4_room_10 : decode cX4_room 10 = .ok (.invokestatic 60, 3) := by decide +kernel
theorem dX4_room_13 : decode cX4_room 13 = .ok (.ifCond .ne 5, 3) := by decide +kernel
theorem dX4_room_16 : decode cX4_room 16 = .ok (.iconst (-1), 1) := by decide +kernel
theorem dX4_room_17 : decode cX4_room 17 = .ok (.ireturn, 1) := by decide +kernel
theorem dX4_room_18 : decode cX4_room 18 = .ok (.aload_n 0, 1) := by decide +kernel
theorem dX4_room_19 : decode cX4_room 19 = .ok (.getfield 10, 3) := by decide +kernel
theorem dX4_room_22 : decode cX4_room 22 = .ok (.iload_n 1, 1) := by decide +kernel
theorem dX4_room_23 : decode cX4_room 23 = .ok (.invokevirtual 149, 3) := by decide +kernel
theorem dX4_room_26 : decode cX4_room 26 = .ok (.istore_n 3, 1) := by decide +kernel
theorem dX4_room_27 : decode cX4_room 27 = .ok (.iload_n 2, 1) := by decide +kernel
theorem dX4_room_28 : decode cX4_room 28 = .ok (.ifCond .ne 7, 3) := by decide +kernel
theorem dX4_room_31 : decode cX4_room 31 = .ok (.iload_n 3, 1) := by decide +kernel
theorem dX4_room_32 : decode cX4_room 32 = .ok (.goto 12, 3) := by decide +kernel
theorem dX4_room_35 : decode cX4_room 35 = .ok (.iload_n 3, 1) := by decide +kernel
theorem dX4_room_36 : decode cX4_room 36 = .ok (.aload_n 0, 1) := by decide +kernel
theorem dX4_room_37 : decode cX4_room 37 = .ok (.getfield 10, 3) := by decide +kernel
theorem dX4_room_40 : decode cX4_room 40 = .ok (.getfield 152, 3) := by decide +kernel
theorem dX4_room_43 : decode cX4_room 43 = .ok (.iand, 1) := by decide +kernel
theorem dX4_room_44 : decode cX4_room 44 = .ok (.ireturn, 1) := by decide +kernel
set_option maxRecDepth 20000 in
theorem ggX4_minutes_X4_within : GoodIn wsX4_minutes wsX4_within := goodIn_r _ [6] (by decide +kernel) (by decide +kernel)
set_option maxRecDepth 20000 in
theorem gX4_minutes_X4_within : GoodIn wsX4_minutes (va_wsS RX4 60 yX4_within wsX4_within) := goodIn_app (goodIn_of _ (by decide +kernel)) ggX4_minutes_X4_within
set_option maxRecDepth 20000 in
theorem ggX4_minutes_X0_pass : GoodIn wsX4_minutes wsX0_pass := goodIn_r _ [11, 12, 13, 14, 10, 15, 16, 17, 18, 19, 20, 21, 22, 23, 24, 25, 26, 27, 28, 29, 30, 31, 32, 33, 34, 35, 36, 37, 38, 39, 40, 41, 42, 43, 44, 45, 46, 47, 48, 49, 50, 51, 52, 53, 5, 54, 55, 56, 57, 58, 59, 60, 61, 80, 81, 82, 83, 84, 85, 86, 87, 88, 89, 90] (by decide +kernel) (by decide +kernel)
set_option maxRecDepth 20000 in
theorem gX4_minutes_X0_pass : GoodIn wsX4_minutes (wsV RX4 155 RX0 yX0_pass wsX0_pass) := goodIn_app (goodIn_of _ (by decide +kernel)) ggX4_minutes_X0_pass
set_option maxRecDepth 20000 in
theorem ggX4_minutes_J6_bitCount_0f7a4 : GoodIn wsX4_minutes wsJ6_bitCount_0f7a4 := goodIn_r _ [65, 66, 67, 68] (by decide +kernel) (by decide +kernel)
set_option maxRecDepth 20000 in
theorem gX4_minutes_J6_bitCount_0f7a4 : GoodIn wsX4_minutes (va_wsS RX4 159 yJ6_bitCount_0f7a4 wsJ6_bitCount_0f7a4) := goodIn_app (goodIn_of _ (by decide +kernel)) ggX4_minutes_J6_bitCount_0f7a4
theorem dX4_minutes_0 : decode cX4_minutes 0 = .ok (.iload_n 1, 1) := by decide +kernel
theorem dX4_minutes_1 : decode cX4_minutes 1 = .ok (.iconst 1, 1) := by decide +kernel
theorem dX4_minutes_2 : decode cX4_minutes 2 = .ok (.bipush 60, 2) := by decide +kernel
theorem dX4_minutes_4 : decode cX4_minutes 4 = .ok (.invokestatic 60, 3) := by decide +kernel
theorem dX4_minutes_7 : decode cX4_minutes 7 = .ok (.ifCond .ne 5, 3) := by decide +kernel
theorem dX4_minutes_10 : decode cX4_minutes 10 = .ok (.iconst (-1), 1) := by decide +kernel
theorem dX4_minutes_11 : decode cX4_minutes 11 = .ok (.ireturn, 1) := by decide +kernel
theorem dX4_minutes_12 : decode cX4_minutes 12 = .ok (.aload_n 0, 1) := by decide +kernel
theorem dX4_minutes_13 : decode cX4_minutes 13 = .ok (.getfield 10, 3) := by decide +kernel
theorem dX4_minutes_16 : decode cX4_minutes 16 = .ok (.iload_n 1, 1) := by decide +kernel
theorem dX4_minutes_17 : decode cX4_minutes 17 = .ok (.invokevirtual 155, 3) := by decide +kernel
theorem dX4_minutes_20 : decode cX4_minutes 20 = .ok (.aload_n 0, 1) := by decide +kernel
theorem dX4_minutes_21 : decode cX4_minutes 21 = .ok (.getfield 10, 3) := by decide +kernel
theorem dX4_minutes_24 : decode cX4_minutes 24 = .ok (.getfield 152, 3) := by decide +kernel
theorem dX4_minutes_27 : decode cX4_minutes 27 = .ok (.invokestatic 159, 3) := by decide +kernel
theorem dX4_minutes_30 : decode cX4_minutes 30 = .ok (.ireturn, 1) := by decide +kernel
theorem dX4_seed_0 : decode cX4_seed 0 = .ok (.aload_n 0, 1) := by decide +kernel
theorem dX4_seed_1 : decode cX4_seed 1 = .ok (.getfield 10, 3) := by decide +kernel
theorem dX4_seed_4 : decode cX4_seed 4 = .ok (.getfield 74, 3) := by decide +kernel
theorem dX4_seed_7 : decode cX4_seed 7 = .ok (.istore_n 2, 1) := by decide +kernel
theorem dX4_seed_8 : decode cX4_seed 8 = .ok (.aload_n 0, 1) := by decide +kernel
theorem dX4_seed_9 : decode cX4_seed 9 = .ok (.getfield 10, 3) := by decide +kernel
theorem dX4_seed_12 : decode cX4_seed 12 = .ok (.iload_n 1, 1) := by decide +kernel
theorem dX4_seed_13 : decode cX4_seed 13 = .ok (.putfield 74, 3) := by decide +kernel
theorem dX4_seed_16 : decode cX4_seed 16 = .ok (.iload_n 2, 1) := by decide +kernel
theorem dX4_seed_17 : decode cX4_seed 17 = .ok (.ireturn, 1) := by decide +kernel
set_option maxRecDepth 20000 in
theorem ggX4_minute_X0_passByDraws : GoodIn wsX4_minute wsX0_passByDraws := goodIn_r _ [7, 8, 9, 10, 11, 12, 6, 13, 14, 15, 16, 17, 18, 19, 20, 21, 22, 23, 24, 25, 26, 27, 28, 29, 30, 31, 32, 33, 34, 35, 36, 37, 38, 39, 40, 41, 42, 43, 44, 45, 46, 47, 48, 49, 50, 51, 52, 53, 54, 55, 56, 57, 58, 59, 60, 61, 62, 63, 64, 65, 66, 67, 68, 87, 88, 89, 90, 91, 92, 93, 94, 95, 96, 97] (by decide +kernel) (by decide +kernel)
set_option maxRecDepth 20000 in
theorem gX4_minute_X0_passByDraws : GoodIn wsX4_minute (wsV RX4 164 RX0 yX0_passByDraws wsX0_passByDraws) := goodIn_app (goodIn_of _ (by decide +kernel)) ggX4_minute_X0_passByDraws
set_option maxRecDepth 20000 in
theorem ggX4_minute_J6_bitCount_0f7a4 : GoodIn wsX4_minute wsJ6_bitCount_0f7a4 := goodIn_r _ [72, 73, 74, 75] (by decide +kernel) (by decide +kernel)
set_option maxRecDepth 20000 in
theorem gX4_minute_J6_bitCount_0f7a4 : GoodIn wsX4_minute (va_wsS RX4 159 yJ6_bitCount_0f7a4 wsJ6_bitCount_0f7a4) := goodIn_app (goodIn_of _ (by decide +kernel)) ggX4_minute_J6_bitCount_0f7a4
theorem dX4_minute_0 : decode cX4_minute 0 = .ok (.aload_n 0, 1) := by decide +kernel
theorem dX4_minute_1 : decode cX4_minute 1 = .ok (.getfield 10, 3) := by decide +kernel
theorem dX4_minute_4 : decode cX4_minute 4 = .ok (.invokevirtual 164, 3) := by decide +kernel
theorem dX4_minute_7 : decode cX4_minute 7 = .ok (.aload_n 0, 1) := by decide +kernel
theorem dX4_minute_8 : decode cX4_minute 8 = .ok (.getfield 10, 3) := by decide +kernel
theorem dX4_minute_11 : decode cX4_minute 11 = .ok (.getfield 152, 3) := by decide +kernel
theorem dX4_minute_14 : decode cX4_minute 14 = .ok (.invokestatic 159, 3) := by decide +kernel
theorem dX4_minute_17 : decode cX4_minute 17 = .ok (.ireturn, 1) := by decide +kernel
set_option maxRecDepth 20000 in
theorem ggX4_stir_X4_within : GoodIn wsX4_stir wsX4_within := goodIn_r _ [8] (by decide +kernel) (by decide +kernel)
set_option maxRecDepth 20000 in
theorem gX4_stir_X4_within : GoodIn wsX4_stir (va_wsS RX4 60 yX4_within wsX4_within) := goodIn_app (goodIn_of _ (by decide +kernel)) ggX4_stir_X4_within
set_option maxRecDepth 20000 in
theorem ggX4_stir_X4_tryFromNow : GoodIn wsX4_stir wsX4_tryFromNow := goodIn_r _ [12, 1, 3, 13, 14, 15, 16, 17, 18, 19, 20, 21, 22, 23, 24, 25, 26, 27, 28, 29, 30, 97, 98, 99, 100, 101, 102, 103, 104, 105, 106, 107, 108, 109, 110, 111, 112, 113, 114, 115, 116, 117, 118] (by decide +kernel) (by decide +kernel)
set_option maxRecDepth 20000 in
theorem gX4_stir_X4_tryFromNow : GoodIn wsX4_stir (wsV RX4 167 RX4 yX4_tryFromNow wsX4_tryFromNow) := goodIn_app (goodIn_of _ (by decide +kernel)) ggX4_stir_X4_tryFromNow
set_option maxRecDepth 20000 in
theorem ggX4_stir_X0_pass : GoodIn wsX4_stir wsX0_pass := goodIn_r _ [34, 35, 36, 37, 16, 38, 27, 39, 24, 28, 29, 40, 41, 42, 43, 44, 26, 45, 46, 47, 48, 49, 50, 51, 52, 53, 54, 55, 25, 23, 18, 56, 57, 58, 59, 60, 61, 62, 63, 64, 65, 66, 67, 68, 7, 69, 70, 71, 72, 73, 74, 75, 76, 108, 109, 110, 111, 112, 113, 114, 115, 116, 117, 118] (by decide +kernel) (by decide +kernel)
set_option maxRecDepth 20000 in
theorem gX4_stir_X0_pass : GoodIn wsX4_stir (wsV RX4 155 RX0 yX0_pass wsX0_pass) := goodIn_app (goodIn_of _ (by decide +kernel)) ggX4_stir_X0_pass
set_option maxRecDepth 20000 in
theorem ggX4_stir_J6_bitCount_0f7a4 : GoodIn wsX4_stir wsJ6_bitCount_0f7a4 := goodIn_r _ [80, 81, 82, 83] (by decide +kernel) (by decide +kernel)
set_option maxRecDepth 20000 in
theorem gX4_stir_J6_bitCount_0f7a4 : GoodIn wsX4_stir (va_wsS RX4 159 yJ6_bitCount_0f7a4 wsJ6_bitCount_0f7a4) := goodIn_app (goodIn_of _ (by decide +kernel)) ggX4_stir_J6_bitCount_0f7a4
set_option maxRecDepth 20000 in
theorem ggX4_stir_X0_passByDraws : GoodIn wsX4_stir wsX0_passByDraws := goodIn_r _ [87, 27, 18, 88, 89, 90, 16, 91, 30, 92, 45, 46, 47, 48, 28, 93, 94, 95, 96, 35, 36, 37, 38, 39, 24, 29, 40, 41, 42, 43, 44, 26, 49, 50, 51, 52, 53, 54, 55, 25, 23, 56, 57, 58, 59, 60, 61, 62, 63, 64, 65, 66, 67, 68, 7, 69, 70, 71, 72, 73, 74, 75, 76, 108, 109, 110, 111, 112, 113, 114, 115, 116, 117, 118] (by decide +kernel) (by decide +kernel)
set_option maxRecDepth 20000 in
theorem gX4_stir_X0_passByDraws : GoodIn wsX4_stir (wsV RX4 164 RX0 yX0_passByDraws wsX0_passByDraws) := goodIn_app (goodIn_of _ (by decide +kernel)) ggX4_stir_X0_passByDraws
theorem dX4_stir_0 : decode cX4_stir 0 = .ok (.iload_n 1, 1) := by decide +kernel
theorem dX4_stir_1 : decode cX4_stir 1 = .ok (.iconst 1, 1) := by decide +kernel
theorem dX4_stir_2 : decode cX4_stir 2 = .ok (.bipush 30, 2) := by decide +kernel
theorem dX4_stir_4 : decode cX4_stir 4 = .ok (.invokestatic 60, 3) := by decide +kernel
theorem dX4_stir_7 : decode cX4_stir 7 = .ok (.ifCond .ne 5, 3) := by decide +kernel
theorem dX4_stir_10 : decode cX4_stir 10 = .ok (.iconst (-1), 1) := by decide +kernel
theorem dX4_stir_11 : decode cX4_stir 11 = .ok (.ireturn, 1) := by decide +kernel
theorem dX4_stir_12 : decode cX4_stir 12 = .ok (.aload_n 0, 1) := by decide +kernel
theorem dX4_stir_13 : decode cX4_stir 13 = .ok (.invokevirtual 167, 3) := by decide +kernel
theorem dX4_stir_16 : decode cX4_stir 16 = .ok (.aload_n 0, 1) := by decide +kernel
theorem dX4_stir_17 : decode cX4_stir 17 = .ok (.getfield 16, 3) := by decide +kernel
theorem dX4_stir_20 : decode cX4_stir 20 = .ok (.iconst 1, 1) := by decide +kernel
theorem dX4_stir_21 : decode cX4_stir 21 = .ok (.invokevirtual 155, 3) := by decide +kernel
theorem dX4_stir_24 : decode cX4_stir 24 = .ok (.aload_n 0, 1) := by decide +kernel
theorem dX4_stir_25 : decode cX4_stir 25 = .ok (.getfield 16, 3) := by decide +kernel
theorem dX4_stir_28 : decode cX4_stir 28 = .ok (.getfield 152, 3) := by decide +kernel
theorem dX4_stir_31 : decode cX4_stir 31 = .ok (.invokestatic 159, 3) := by decide +kernel
theorem dX4_stir_34 : decode cX4_stir 34 = .ok (.istore_n 2, 1) := by decide +kernel
theorem dX4_stir_35 : decode cX4_stir 35 = .ok (.aload_n 0, 1) := by decide +kernel
theorem dX4_stir_36 : decode cX4_stir 36 = .ok (.getfield 10, 3) := by decide +kernel
theorem dX4_stir_39 : decode cX4_stir 39 = .ok (.getfield 74, 3) := by decide +kernel
theorem dX4_stir_42 : decode cX4_stir 42 = .ok (.istore_n 3, 1) := by decide +kernel
theorem dX4_stir_43 : decode cX4_stir 43 = .ok (.iconst 0, 1) := by decide +kernel
theorem dX4_stir_44 : decode cX4_stir 44 = .ok (.istore 4, 2) := by decide +kernel
theorem dX4_stir_46 : decode cX4_stir 46 = .ok (.iconst 0, 1) := by decide +kernel
theorem dX4_stir_47 : decode cX4_stir 47 = .ok (.istore 5, 2) := by decide +kernel
theorem dX4_stir_49 : decode cX4_stir 49 = .ok (.iload 5, 2) := by decide +kernel
theorem dX4_stir_51 : decode cX4_stir 51 = .ok (.iload_n 1, 1) := by decide +kernel
theorem dX4_stir_52 : decode cX4_stir 52 = .ok (.if_icmp .ge 53, 3) := by decide +kernel
theorem dX4_stir_55 : decode cX4_stir 55 = .ok (.aload_n 0, 1) := by decide +kernel
theorem dX4_stir_56 : decode cX4_stir 56 = .ok (.invokevirtual 167, 3) := by decide +kernel
theorem dX4_stir_59 : decode cX4_stir 59 = .ok (.aload_n 0, 1) := by decide +kernel
theorem dX4_stir_60 : decode cX4_stir 60 = .ok (.getfield 16, 3) := by decide +kernel
theorem dX4_stir_63 : decode cX4_stir 63 = .ok (.iload_n 3, 1) := by decide +kernel
theorem dX4_stir_64 : decode cX4_stir 64 = .ok (.putfield 74, 3) := by decide +kernel
theorem dX4_stir_67 : decode cX4_stir 67 = .ok (.aload_n 0, 1) := by decide +kernel
theorem dX4_stir_68 : decode cX4_stir 68 = .ok (.getfield 16, 3) := by decide +kernel
theorem dX4_stir_71 : decode cX4_stir 71 = .ok (.invokevirtual 164, 3) := by decide +kernel
theorem dX4_stir_74 : decode cX4_stir 74 = .ok (.aload_n 0, 1) := by decide +kernel
theorem dX4_stir_75 : decode cX4_stir 75 = .ok (.getfield 16, 3) := by decide +kernel
theorem dX4_stir_78 : decode cX4_stir 78 = .ok (.getfield 74, 3) := by decide +kernel
theorem dX4_stir_81 : decode cX4_stir 81 = .ok (.istore_n 3, 1) := by decide +kernel
theorem dX4_stir_82 : decode cX4_stir 82 = .ok (.aload_n 0, 1) := by decide +kernel
theorem dX4_stir_83 : decode cX4_stir 83 = .ok (.getfield 16, 3) := by decide +kernel
theorem dX4_stir_86 : decode cX4_stir 86 = .ok (.getfield 152, 3) := by decide +kernel
theorem dX4_stir_89 : decode cX4_stir 89 = .ok (.invokestatic 159, 3) := by decide +kernel
theorem dX4_stir_92 : decode cX4_stir 92 = .ok (.iload_n 2, 1) := by decide +kernel
theorem dX4_stir_93 : decode cX4_stir 93 = .ok (.if_icmp .le 6, 3) := by decide +kernel
theorem dX4_stir_96 : decode cX4_stir 96 = .ok (.iinc 4 1, 3) := by decide +kernel
theorem dX4_stir_99 : decode cX4_stir 99 = .ok (.iinc 5 1, 3) := by decide +kernel
theorem dX4_stir_102 : decode cX4_stir 102 = .ok (.goto (-53), 3) := by decide +kernel
theorem dX4_stir_105 : decode cX4_stir 105 = .ok (.iload 4, 2) := by decide +kernel
theorem dX4_stir_107 : decode cX4_stir 107 = .ok (.ireturn, 1) := by decide +kernel
set_option maxRecDepth 20000 in
theorem ggX4_state_X0_sum : GoodIn wsX4_state wsX0_sum := goodIn_r _ [10, 11, 45, 46, 47, 48, 49, 50, 51, 52, 53, 54, 55] (by decide +kernel) (by decide +kernel)
set_option maxRecDepth 20000 in
theorem gX4_state_X0_sum : GoodIn wsX4_state (wsV RX4 173 RX0 yX0_sum wsX0_sum) := goodIn_app (goodIn_of _ (by decide +kernel)) ggX4_state_X0_sum
set_option maxRecDepth 20000 in
theorem ggX4_state_X0_loudOfAll : GoodIn wsX4_state wsX0_loudOfAll := goodIn_r _ [15, 11, 16, 17, 18, 9, 19, 20, 21, 22, 23, 24, 25, 26, 27, 28, 45, 46, 47, 48, 49, 50, 51, 52, 53, 54, 55] (by decide +kernel) (by decide +kernel)
set_option maxRecDepth 20000 in
theorem gX4_state_X0_loudOfAll : GoodIn wsX4_state (wsV RX4 177 RX0 yX0_loudOfAll wsX0_loudOfAll) := goodIn_app (goodIn_of _ (by decide +kernel)) ggX4_state_X0_loudOfAll
set_option maxRecDepth 20000 in
theorem ggX4_state_X0_roomsTaken : GoodIn wsX4_state wsX0_roomsTaken := goodIn_r _ [32, 11, 33, 45, 46, 47, 48, 49, 50, 51, 52, 53, 54, 55] (by decide +kernel) (by decide +kernel)
set_option maxRecDepth 20000 in
theorem gX4_state_X0_roomsTaken : GoodIn wsX4_state (wsV RX4 181 RX0 yX0_roomsTaken wsX0_roomsTaken) := goodIn_app (goodIn_of _ (by decide +kernel)) ggX4_state_X0_roomsTaken
theorem dX4_state_0 : decode cX4_state 0 = .ok (.iload_n 1, 1) := by decide +kernel
theorem dX4_state_1 : decode cX4_state 1 = .ok (.tableswitch 105 0 5 #[39, 47, 55, 70, 82, 90], 39) := by decide +kernel
theorem dX4_state_40 : decode cX4_state 40 = .ok (.aload_n 0, 1) := by decide +kernel
theorem dX4_state_41 : decode cX4_state 41 = .ok (.getfield 10, 3) := by decide +kernel
theorem dX4_state_44 : decode cX4_state 44 = .ok (.getfield 170, 3) := by decide +kernel
theorem dX4_state_47 : decode cX4_state 47 = .ok (.ireturn, 1) := by decide +kernel
theorem dX4_state_48 : decode cX4_state 48 = .ok (.aload_n 0, 1) := by decide +kernel
theorem dX4_state_49 : decode cX4_state 49 = .ok (.getfield 10, 3) := by decide +kernel
theorem dX4_state_52 : decode cX4_state 52 = .ok (.getfield 152, 3) := by decide +kernel
theorem dX4_state_55 : decode cX4_state 55 = .ok (.ireturn, 1) := by decide +kernel
theorem dX4_state_56 : decode cX4_state 56 = .ok (.aload_n 0, 1) := by decide +kernel
theorem dX4_state_57 : decode cX4_state 57 = .ok (.getfield 10, 3) := by decide +kernel
theorem dX4_state_60 : decode cX4_state 60 = .ok (.aload_n 0, 1) := by decide +kernel
theorem dX4_state_61 : decode cX4_state 61 = .ok (.getfield 10, 3) := by decide +kernel
theorem dX4_state_64 : decode cX4_state 64 = .ok (.getfield 123, 3) := by decide +kernel
theorem dX4_state_67 : decode cX4_state 67 = .ok (.invokevirtual 173, 3) := by decide +kernel
theorem dX4_state_70 : decode cX4_state 70 = .ok (.ireturn, 1) := by decide +kernel
theorem dX4_state_71 : decode cX4_state 71 = .ok (.sipush 1000, 3) := by decide +kernel
theorem dX4_state_74 : decode cX4_state 74 = .ok (.aload_n 0, 1) := by decide +kernel
theorem dX4_state_75 : decode cX4_state 75 = .ok (.getfield 10, 3) := by decide +kernel
theorem dX4_state_78 : decode cX4_state 78 = .ok (.invokevirtual 177, 3) := by decide +kernel
theorem dX4_state_81 : decode cX4_state 81 = .ok (.iadd, 1) := by decide +kernel
theorem dX4_state_82 : decode cX4_state 82 = .ok (.ireturn, 1) := by decide +kernel
theorem dX4_state_83 : decode cX4_state 83 = .ok (.aload_n 0, 1) := by decide +kernel
theorem dX4_state_84 : decode cX4_state 84 = .ok (.getfield 10, 3) := by decide +kernel
theorem dX4_state_87 : decode cX4_state 87 = .ok (.invokevirtual 181, 3) := by decide +kernel
theorem dX4_state_90 : decode cX4_state 90 = .ok (.ireturn, 1) := by decide +kernel
theorem dX4_state_91 : decode cX4_state 91 = .ok (.aload_n 0, 1) := by decide +kernel
theorem dX4_state_92 : decode cX4_state 92 = .ok (.getfield 10, 3) := by decide +kernel
theorem dX4_state_95 : decode cX4_state 95 = .ok (.aload_n 0, 1) := by decide +kernel
theorem dX4_state_96 : decode cX4_state 96 = .ok (.getfield 10, 3) := by decide +kernel
theorem dX4_state_99 : decode cX4_state 99 = .ok (.getfield 126, 3) := by decide +kernel
theorem dX4_state_102 : decode cX4_state 102 = .ok (.invokevirtual 173, 3) := by decide +kernel
theorem dX4_state_105 : decode cX4_state 105 = .ok (.ireturn, 1) := by decide +kernel
theorem dX4_state_106 : decode cX4_state 106 = .ok (.iconst (-1), 1) := by decide +kernel
theorem dX4_state_107 : decode cX4_state 107 = .ok (.ireturn, 1) := by decide +kernel
set_option maxRecDepth 20000 in
theorem ggX4_clapping_X4_within : GoodIn wsX4_clapping wsX4_within := goodIn_r _ [6] (by decide +kernel) (by decide +kernel)
set_option maxRecDepth 20000 in
theorem gX4_clapping_X4_within : GoodIn wsX4_clapping (va_wsS RX4 60 yX4_within wsX4_within) := goodIn_app (goodIn_of _ (by decide +kernel)) ggX4_clapping_X4_within
set_option maxRecDepth 20000 in
theorem ggX4_clapping_X4_tryFromNow : GoodIn wsX4_clapping wsX4_tryFromNow := goodIn_r _ [10, 1, 11, 12, 13, 14, 15, 16, 17, 18, 19, 20, 21, 22, 23, 24, 25, 26, 27, 28, 29, 76, 77, 78, 79, 80, 81, 82, 83, 84, 85, 86, 87, 88, 89, 90, 91, 92, 93, 94, 95, 96, 97] (by decide +kernel) (by decide +kernel)
set_option maxRecDepth 20000 in
theorem gX4_clapping_X4_tryFromNow : GoodIn wsX4_clapping (wsV RX4 167 RX4 yX4_tryFromNow wsX4_tryFromNow) := goodIn_app (goodIn_of _ (by decide +kernel)) ggX4_clapping_X4_tryFromNow
set_option maxRecDepth 20000 in
theorem ggX4_clapping_X0_pass : GoodIn wsX4_clapping wsX0_pass := goodIn_r _ [33, 34, 35, 36, 15, 37, 26, 38, 23, 27, 28, 39, 40, 41, 42, 43, 25, 44, 45, 46, 47, 48, 49, 50, 51, 52, 53, 54, 24, 22, 17, 55, 56, 57, 58, 59, 60, 61, 62, 63, 64, 65, 66, 67, 5, 68, 69, 70, 71, 72, 73, 74, 75, 87, 88, 89, 90, 91, 92, 93, 94, 95, 96, 97] (by decide +kernel) (by decide +kernel)
set_option maxRecDepth 20000 in
theorem gX4_clapping_X0_pass : GoodIn wsX4_clapping (wsV RX4 155 RX0 yX0_pass wsX0_pass) := goodIn_app (goodIn_of _ (by decide +kernel)) ggX4_clapping_X0_pass
theorem dX4_clapping_0 : decode cX4_clapping 0 = .ok (.iload_n 1, 1) := by decide +kernel
theorem dX4_clapping_1 : decode cX4_clapping 1 = .ok (.iconst 0, 1) := by decide +kernel
theorem dX4_clapping_2 : decode cX4_clapping 2 = .ok (.bipush 60, 2) := by decide +kernel
theorem dX4_clapping_4 : decode cX4_clapping 4 = .ok (.invokestatic 60, 3) := by decide +kernel
theorem dX4_clapping_7 : decode cX4_clapping 7 = .ok (.ifCond .ne 5, 3) := by decide +kernel
theorem dX4_clapping_10 : decode cX4_clapping 10 = .ok (.iconst (-1), 1) := by decide +kernel
theorem dX4_clapping_11 : decode cX4_clapping 11 = .ok (.ireturn, 1) := by decide +kernel
theorem dX4_clapping_12 : decode cX4_clapping 12 = .ok (.aload_n 0, 1) := by decide +kernel
theorem dX4_clapping_13 : decode cX4_clapping 13 = .ok (.invokevirtual 167, 3) := by decide +kernel
theorem dX4_clapping_16 : decode cX4_clapping 16 = .ok (.aload_n 0, 1) := by decide +kernel
theorem dX4_clapping_17 : decode cX4_clapping 17 = .ok (.getfield 16, 3) := by decide +kernel
theorem dX4_clapping_20 : decode cX4_clapping 20 = .ok (.iload_n 1, 1) := by decide +kernel
theorem dX4_clapping_21 : decode cX4_clapping 21 = .ok (.invokevirtual 155, 3) := by decide +kernel
theorem dX4_clapping_24 : decode cX4_clapping 24 = .ok (.aload_n 0, 1) := by decide +kernel
theorem dX4_clapping_25 : decode cX4_clapping 25 = .ok (.getfield 16, 3) := by decide +kernel
theorem dX4_clapping_28 : decode cX4_clapping 28 = .ok (.getfield 152, 3) := by decide +kernel
theorem dX4_clapping_31 : decode cX4_clapping 31 = .ok (.ireturn, 1) := by decide +kernel
set_option maxRecDepth 20000 in
theorem ggX4_joins_X0_has : GoodIn wsX4_joins wsX0_has := goodIn_r _ [6, 7, 8, 9, 10, 94, 95, 96, 97, 98, 99, 100, 101, 102, 103, 104] (by decide +kernel) (by decide +kernel)
set_option maxRecDepth 20000 in
theorem gX4_joins_X0_has : GoodIn wsX4_joins (wsV RX4 117 RX0 yX0_has wsX0_has) := goodIn_app (goodIn_of _ (by decide +kernel)) ggX4_joins_X0_has
set_option maxRecDepth 20000 in
theorem ggX4_joins_X4_firstBehind : GoodIn wsX4_joins wsX4_firstBehind := goodIn_r _ [14, 15, 16, 17, 18, 19, 9, 20, 1, 21, 22, 23, 5, 24, 25, 26, 27, 28, 29, 30, 31, 32, 33, 7, 34, 35, 36, 37, 38, 39, 40, 41, 42, 43, 44, 45, 46, 47, 48, 49, 50, 51, 52, 53, 54, 55, 56, 57, 58, 59, 60, 61, 62, 63, 64, 65, 66, 67, 68, 69, 70, 71, 72, 73, 74, 75, 76, 77, 78, 79, 80, 81, 82, 83, 84, 85, 86, 87, 88, 89, 90, 91, 92, 93, 94, 95, 96, 97, 98, 99, 100, 101, 102, 103, 104] (by decide +kernel) (by decide +kernel)
set_option maxRecDepth 20000 in
theorem gX4_joins_X4_firstBehind : GoodIn wsX4_joins (wsV RX4 184 RX4 yX4_firstBehind wsX4_firstBehind) := goodIn_app (goodIn_of _ (by decide +kernel)) ggX4_joins_X4_firstBehind
theorem dX4_joins_0 : decode cX4_joins 0 = .ok (.aload_n 0, 1) := by decide +kernel
theorem dX4_joins_1 : decode cX4_joins 1 = .ok (.getfield 10, 3) := by decide +kernel
theorem dX4_joins_4 : decode cX4_joins 4 = .ok (.iload_n 1, 1) := by decide +kernel
theorem dX4_joins_5 : decode cX4_joins 5 = .ok (.invokevirtual 117, 3) := by decide +kernel
theorem dX4_joins_8 : decode cX4_joins 8 = .ok (.ifCond .ne 5, 3) := by decide +kernel
theorem dX4_joins_11 : decode cX4_joins 11 = .ok (.iconst (-1), 1) := by decide +kernel
theorem dX4_joins_12 : decode cX4_joins 12 = .ok (.ireturn, 1) := by decide +kernel
theorem dX4_joins_13 : decode cX4_joins 13 = .ok (.aload_n 0, 1) := by decide +kernel
theorem dX4_joins_14 : decode cX4_joins 14 = .ok (.iconst 0, 1) := by decide +kernel
theorem dX4_joins_15 : decode cX4_joins 15 = .ok (.iconst 1, 1) := by decide +kernel
theorem dX4_joins_16 : decode cX4_joins 16 = .ok (.iload_n 1, 1) := by decide +kernel
theorem dX4_joins_17 : decode cX4_joins 17 = .ok (.ishl, 1) := by decide +kernel
theorem dX4_joins_18 : decode cX4_joins 18 = .ok (.iconst 1, 1) := by decide +kernel
theorem dX4_joins_19 : decode cX4_joins 19 = .ok (.iload_n 1, 1) := by decide +kernel
theorem dX4_joins_20 : decode cX4_joins 20 = .ok (.ishl, 1) := by decide +kernel
theorem dX4_joins_21 : decode cX4_joins 21 = .ok (.invokevirtual 184, 3) := by decide +kernel
theorem dX4_joins_24 : decode cX4_joins 24 = .ok (.ireturn, 1) := by decide +kernel
set_option maxRecDepth 20000 in
theorem ggX4_all_X0_everybody : GoodIn wsX4_all wsX0_everybody := goodIn_r _ [6, 7, 92, 93, 94, 95, 96, 97, 98, 99, 100, 101, 102] (by decide +kernel) (by decide +kernel)
set_option maxRecDepth 20000 in
theorem gX4_all_X0_everybody : GoodIn wsX4_all (wsV RX4 188 RX0 yX0_everybody wsX0_everybody) := goodIn_app (goodIn_of _ (by decide +kernel)) ggX4_all_X0_everybody
set_option maxRecDepth 20000 in
theorem ggX4_all_X4_firstBehind : GoodIn wsX4_all wsX4_firstBehind := goodIn_r _ [12, 13, 14, 15, 16, 17, 11, 18, 1, 19, 20, 21, 5, 22, 23, 24, 25, 26, 27, 28, 29, 30, 31, 7, 32, 33, 34, 35, 36, 37, 38, 39, 40, 41, 42, 43, 44, 45, 46, 47, 48, 49, 50, 51, 52, 53, 54, 55, 56, 57, 58, 59, 60, 61, 62, 63, 64, 65, 66, 67, 68, 69, 70, 71, 72, 73, 74, 75, 76, 77, 78, 79, 80, 81, 82, 83, 84, 85, 86, 87, 88, 89, 90, 91, 92, 93, 94, 95, 96, 97, 98, 99, 100, 101, 102] (by decide +kernel) (by decide +kernel)
set_option maxRecDepth 20000 in
theorem gX4_all_X4_firstBehind : GoodIn wsX4_all (wsV RX4 184 RX4 yX4_firstBehind wsX4_firstBehind) := goodIn_app (goodIn_of _ (by decide +kernel)) ggX4_all_X4_firstBehind
theorem dX4_all_0 : decode cX4_all 0 = .ok (.aload_n 0, 1) := by decide +kernel
theorem dX4_all_1 : decode cX4_all 1 = .ok (.iconst 0, 1) := by decide +kernel
theorem dX4_all_2 : decode cX4_all 2 = .ok (.aload_n 0, 1) := by decide +kernel
theorem dX4_all_3 : decode cX4_all 3 = .ok (.getfield 10, 3) := by decide +kernel
theorem dX4_all_6 : decode cX4_all 6 = .ok (.invokevirtual 188, 3) := by decide +kernel
theorem dX4_all_9 : decode cX4_all 9 = .ok (.aload_n 0, 1) := by decide +kernel
theorem dX4_all_10 : decode cX4_all 10 = .ok (.getfield 10, 3) := by decide +kernel
theorem dX4_all_13 : decode cX4_all 13 = .ok (.invokevirtual 188, 3) := by decide +kernel
theorem dX4_all_16 : decode cX4_all 16 = .ok (.invokevirtual 184, 3) := by decide +kernel
theorem dX4_all_19 : decode cX4_all 19 = .ok (.ireturn, 1) := by decide +kernel
set_option maxRecDepth 20000 in
theorem ggX4_hush_X0_everybody : GoodIn wsX4_hush wsX0_everybody := goodIn_r _ [6, 7, 92, 93, 94, 95, 96, 97, 98, 99, 100, 101, 102] (by decide +kernel) (by decide +kernel)
set_option maxRecDepth 20000 in
theorem gX4_hush_X0_everybody : GoodIn wsX4_hush (wsV RX4 188 RX0 yX0_everybody wsX0_everybody) := goodIn_app (goodIn_of _ (by decide +kernel)) ggX4_hush_X0_everybody
set_option maxRecDepth 20000 in
theorem ggX4_hush_X4_firstBehind : GoodIn wsX4_hush wsX4_firstBehind := goodIn_r _ [12, 13, 14, 15, 16, 17, 11, 18, 1, 19, 20, 21, 5, 22, 23, 24, 25, 26, 27, 28, 29, 30, 31, 7, 32, 33, 34, 35, 36, 37, 38, 39, 40, 41, 42, 43, 44, 45, 46, 47, 48, 49, 50, 51, 52, 53, 54, 55, 56, 57, 58, 59, 60, 61, 62, 63, 64, 65, 66, 67, 68, 69, 70, 71, 72, 73, 74, 75, 76, 77, 78, 79, 80, 81, 82, 83, 84, 85, 86, 87, 88, 89, 90, 91, 92, 93, 94, 95, 96, 97, 98, 99, 100, 101, 102] (by decide +kernel) (by decide +kernel)
set_option maxRecDepth 20000 in
theorem gX4_hush_X4_firstBehind : GoodIn wsX4_hush (wsV RX4 184 RX4 yX4_firstBehind wsX4_firstBehind) := goodIn_app (goodIn_of _ (by decide +kernel)) ggX4_hush_X4_firstBehind
theorem dX4_hush_0 : decode cX4_hush 0 = .ok (.aload_n 0, 1) := by decide +kernel
theorem dX4_hush_1 : decode cX4_hush 1 = .ok (.iconst 0, 1) := by decide +kernel
theorem dX4_hush_2 : decode cX4_hush 2 = .ok (.aload_n 0, 1) := by decide +kernel
theorem dX4_hush_3 : decode cX4_hush 3 = .ok (.getfield 10, 3) := by decide +kernel
theorem dX4_hush_6 : decode cX4_hush 6 = .ok (.invokevirtual 188, 3) := by decide +kernel
theorem dX4_hush_9 : decode cX4_hush 9 = .ok (.iconst 0, 1) := by decide +kernel
theorem dX4_hush_10 : decode cX4_hush 10 = .ok (.invokevirtual 184, 3) := by decide +kernel
theorem dX4_hush_13 : decode cX4_hush 13 = .ok (.ireturn, 1) := by decide +kernel
set_option maxRecDepth 20000 in
theorem ggX4_roomFor_X4_proudestBy : GoodIn wsX4_roomFor wsX4_proudestBy := goodIn_r _ [7, 8, 1, 9, 10, 11, 12, 13, 14, 15, 16, 6, 17, 18, 19, 20, 21, 22, 23, 24, 25, 26, 27, 28, 29, 30, 31, 32, 33, 34, 35, 36, 37, 38, 39, 40, 41, 42, 43, 44, 45, 46, 47, 48, 49, 50, 51, 52, 53, 54, 55, 56, 57, 58, 59, 60, 61, 62, 63, 64, 65, 66, 67, 68, 69, 70, 71, 72, 73, 74, 75, 76, 77, 78, 79, 80, 81, 82, 83, 84, 85, 86, 87, 88, 89, 90, 91, 92, 93, 94, 95, 96, 97, 98, 99, 100, 101, 102, 103, 104, 105, 106] (by decide +kernel) (by decide +kernel)
set_option maxRecDepth 20000 in
theorem gX4_roomFor_X4_proudestBy : GoodIn wsX4_roomFor (wsV RX4 191 RX4 yX4_proudestBy wsX4_proudestBy) := goodIn_app (goodIn_of _ (by decide +kernel)) ggX4_roomFor_X4_proudestBy
theorem dX4_roomFor_0 : decode cX4_roomFor 0 = .ok (.aload_n 0, 1) := by decide +kernel
theorem dX4_roomFor_1 : decode cX4_roomFor 1 = .ok (.aload_n 0, 1) := by decide +kernel
theorem dX4_roomFor_2 : decode cX4_roomFor 2 = .ok (.getfield 16, 3) := by decide +kernel
theorem dX4_roomFor_5 : decode cX4_roomFor 5 = .ok (.getfield 129, 3) := by decide +kernel
theorem dX4_roomFor_8 : decode cX4_roomFor 8 = .ok (.bipush 8, 2) := by decide +kernel
theorem dX4_roomFor_10 : decode cX4_roomFor 10 = .ok (.iload_n 1, 1) := by decide +kernel
theorem dX4_roomFor_11 : decode cX4_roomFor 11 = .ok (.iload_n 2, 1) := by decide +kernel
theorem dX4_roomFor_12 : decode cX4_roomFor 12 = .ok (.invokevirtual 191, 3) := by decide +kernel
theorem dX4_roomFor_15 : decode cX4_roomFor 15 = .ok (.ireturn, 1) := by decide +kernel
set_option maxRecDepth 20000 in
theorem ggX4_kindFor_X4_proudestBy : GoodIn wsX4_kindFor wsX4_proudestBy := goodIn_r _ [7, 8, 1, 9, 10, 11, 12, 13, 14, 15, 16, 6, 17, 18, 19, 20, 21, 22, 23, 24, 25, 26, 27, 28, 29, 30, 31, 32, 33, 34, 35, 36, 37, 38, 39, 40, 41, 42, 43, 44, 45, 46, 47, 48, 49, 50, 51, 52, 53, 54, 55, 56, 57, 58, 59, 60, 61, 62, 63, 64, 65, 66, 67, 68, 69, 70, 71, 72, 73, 74, 75, 76, 77, 78, 79, 80, 81, 82, 83, 84, 85, 86, 87, 88, 89, 90, 91, 92, 93, 94, 95, 96, 97, 98, 99, 100, 101, 102, 103, 104, 105, 106] (by decide +kernel) (by decide +kernel)
set_option maxRecDepth 20000 in
theorem gX4_kindFor_X4_proudestBy : GoodIn wsX4_kindFor (wsV RX4 191 RX4 yX4_proudestBy wsX4_proudestBy) := goodIn_app (goodIn_of _ (by decide +kernel)) ggX4_kindFor_X4_proudestBy
theorem dX4_kindFor_0 : decode cX4_kindFor 0 = .ok (.aload_n 0, 1) := by decide +kernel
theorem dX4_kindFor_1 : decode cX4_kindFor 1 = .ok (.aload_n 0, 1) := by decide +kernel
theorem dX4_kindFor_2 : decode cX4_kindFor 2 = .ok (.getfield 16, 3) := by decide +kernel
theorem dX4_kindFor_5 : decode cX4_kindFor 5 = .ok (.getfield 120, 3) := by decide +kernel
theorem dX4_kindFor_8 : decode cX4_kindFor 8 = .ok (.bipush 6, 2) := by decide +kernel
theorem dX4_kindFor_10 : decode cX4_kindFor 10 = .ok (.iload_n 1, 1) := by decide +kernel
theorem dX4_kindFor_11 : decode cX4_kindFor 11 = .ok (.iload_n 2, 1) := by decide +kernel
theorem dX4_kindFor_12 : decode cX4_kindFor 12 = .ok (.invokevirtual 191, 3) := by decide +kernel
theorem dX4_kindFor_15 : decode cX4_kindFor 15 = .ok (.ireturn, 1) := by decide +kernel
set_option maxRecDepth 20000 in
theorem ggX4_earFor_X4_proudestBy : GoodIn wsX4_earFor wsX4_proudestBy := goodIn_r _ [7, 8, 1, 9, 10, 11, 12, 13, 14, 15, 16, 6, 17, 18, 19, 20, 21, 22, 23, 24, 25, 26, 27, 28, 29, 30, 31, 32, 33, 34, 35, 36, 37, 38, 39, 40, 41, 42, 43, 44, 45, 46, 47, 48, 49, 50, 51, 52, 53, 54, 55, 56, 57, 58, 59, 60, 61, 62, 63, 64, 65, 66, 67, 68, 69, 70, 71, 72, 73, 74, 75, 76, 77, 78, 79, 80, 81, 82, 83, 84, 85, 86, 87, 88, 89, 90, 91, 92, 93, 94, 95, 96, 97, 98, 99, 100, 101, 102, 103, 104, 105, 106] (by decide +kernel) (by decide +kernel)
set_option maxRecDepth 20000 in
theorem gX4_earFor_X4_proudestBy : GoodIn wsX4_earFor (wsV RX4 191 RX4 yX4_proudestBy wsX4_proudestBy) := goodIn_app (goodIn_of _ (by decide +kernel)) ggX4_earFor_X4_proudestBy
theorem dX4_earFor_0 : decode cX4_earFor 0 = .ok (.aload_n 0, 1) := by decide +kernel
theorem dX4_earFor_1 : decode cX4_earFor 1 = .ok (.aload_n 0, 1) := by decide +kernel
theorem dX4_earFor_2 : decode cX4_earFor 2 = .ok (.getfield 16, 3) := by decide +kernel
theorem dX4_earFor_5 : decode cX4_earFor 5 = .ok (.getfield 126, 3) := by decide +kernel
theorem dX4_earFor_8 : decode cX4_earFor 8 = .ok (.bipush 10, 2) := by decide +kernel
theorem dX4_earFor_10 : decode cX4_earFor 10 = .ok (.iload_n 1, 1) := by decide +kernel
theorem dX4_earFor_11 : decode cX4_earFor 11 = .ok (.iload_n 2, 1) := by decide +kernel
theorem dX4_earFor_12 : decode cX4_earFor 12 = .ok (.invokevirtual 191, 3) := by decide +kernel
theorem dX4_earFor_15 : decode cX4_earFor 15 = .ok (.ireturn, 1) := by decide +kernel
set_option maxRecDepth 20000 in
theorem ggX4_begunFor_X0_has : GoodIn wsX4_begunFor wsX0_has := goodIn_r _ [6, 7, 8, 9, 10, 117, 118, 119, 120, 121, 122, 123, 124, 125, 126, 127] (by decide +kernel) (by decide +kernel)
set_option maxRecDepth 20000 in
theorem gX4_begunFor_X0_has : GoodIn wsX4_begunFor (wsV RX4 117 RX0 yX0_has wsX0_has) := goodIn_app (goodIn_of _ (by decide +kernel)) ggX4_begunFor_X0_has
set_option maxRecDepth 20000 in
theorem ggX4_begunFor_X4_within : GoodIn wsX4_begunFor wsX4_within := goodIn_r _ [10] (by decide +kernel) (by decide +kernel)
set_option maxRecDepth 20000 in
theorem gX4_begunFor_X4_within : GoodIn wsX4_begunFor (va_wsS RX4 60 yX4_within wsX4_within) := goodIn_app (goodIn_of _ (by decide +kernel)) ggX4_begunFor_X4_within
set_option maxRecDepth 20000 in
theorem ggX4_begunFor_X4_fewest : GoodIn wsX4_begunFor wsX4_fewest := goodIn_r _ [15, 1, 16, 17, 18, 19, 5, 20, 7, 21, 22, 23, 24, 25, 26, 27, 28, 29, 30, 9, 31, 32, 33, 34, 35, 36, 37, 38, 39, 40, 41, 42, 43, 44, 45, 46, 47, 48, 49, 50, 51, 52, 53, 54, 55, 56, 57, 58, 59, 60, 61, 62, 63, 64, 65, 66, 67, 68, 69, 70, 71, 72, 73, 74, 75, 76, 77, 78, 79, 80, 81, 82, 83, 84, 85, 86, 87, 88, 89, 90, 91, 92, 93, 94, 95, 96, 97, 98, 99, 100, 101, 102, 103, 104, 105, 106, 107, 108, 109, 110, 111, 112, 113, 114, 115, 116, 117, 118, 119, 120, 121, 122, 123, 124, 125, 126, 127] (by decide +kernel) (by decide +kernel)
set_option maxRecDepth 20000 in
theorem gX4_begunFor_X4_fewest : GoodIn wsX4_begunFor (wsV RX4 195 RX4 yX4_fewest wsX4_fewest) := goodIn_app (goodIn_of _ (by decide +kernel)) ggX4_begunFor_X4_fewest
theorem dX4_begunFor_0 : decode cX4_begunFor 0 = .ok (.aload_n 0, 1) := by decide +kernel
theorem dX4_begunFor_1 : decode cX4_begunFor 1 = .ok (.getfield 10, 3) := by decide +kernel
theorem dX4_begunFor_4 : decode cX4_begunFor 4 = .ok (.iload_n 1, 1) := by decide +kernel
theorem dX4_begunFor_5 : decode cX4_begunFor 5 = .ok (.invokevirtual 117, 3) := by decide +kernel
theorem dX4_begunFor_8 : decode cX4_begunFor 8 = .ok (.ifCond .eq 13, 3) := by decide +kernel
theorem dX4_begunFor_11 : decode cX4_begunFor 11 = .ok (.iload_n 2, 1) := by decide +kernel
theorem dX4_begunFor_12 : decode cX4_begunFor 12 = .ok (.iconst 1, 1) := by decide +kernel
theorem dX4_begunFor_13 : decode cX4_begunFor 13 = .ok (.bipush 20, 2) := by decide +kernel
theorem dX4_begunFor_15 : decode cX4_begunFor 15 = .ok (.invokestatic 60, 3) := by decide +kernel
theorem dX4_begunFor_18 : decode cX4_begunFor 18 = .ok (.ifCond .ne 5, 3) := by decide +kernel
theorem dX4_begunFor_21 : decode cX4_begunFor 21 = .ok (.iconst (-1), 1) := by decide +kernel
theorem dX4_begunFor_22 : decode cX4_begunFor 22 = .ok (.ireturn, 1) := by decide +kernel
theorem dX4_begunFor_23 : decode cX4_begunFor 23 = .ok (.aload_n 0, 1) := by decide +kernel
theorem dX4_begunFor_24 : decode cX4_begunFor 24 = .ok (.iload_n 1, 1) := by decide +kernel
theorem dX4_begunFor_25 : decode cX4_begunFor 25 = .ok (.iload_n 2, 1) := by decide +kernel
theorem dX4_begunFor_26 : decode cX4_begunFor 26 = .ok (.invokevirtual 195, 3) := by decide +kernel
theorem dX4_begunFor_29 : decode cX4_begunFor 29 = .ok (.ireturn, 1) := by decide +kernel
set_option maxRecDepth 20000 in
theorem ggX4_hiredFor_X4_within : GoodIn wsX4_hiredFor wsX4_within := goodIn_r _ [4] (by decide +kernel) (by decide +kernel)
set_option maxRecDepth 20000 in
theorem gX4_hiredFor_X4_within : GoodIn wsX4_hiredFor (va_wsS RX4 60 yX4_within wsX4_within) := goodIn_app (goodIn_of _ (by decide +kernel)) ggX4_hiredFor_X4_within
set_option maxRecDepth 20000 in
theorem ggX4_hiredFor_X4_fewest : GoodIn wsX4_hiredFor wsX4_fewest := goodIn_r _ [8, 9, 10, 11, 12, 13, 14, 15, 16, 17, 18, 19, 20, 21, 22, 23, 24, 25, 26, 3, 27, 28, 29, 30, 31, 32, 33, 34, 35, 36, 37, 38, 39, 40, 41, 42, 43, 44, 45, 46, 47, 48, 49, 50, 51, 52, 53, 54, 55, 56, 57, 58, 59, 60, 61, 62, 63, 64, 65, 66, 67, 68, 69, 70, 71, 72, 73, 74, 75, 76, 77, 78, 79, 80, 81, 82, 83, 84, 85, 86, 87, 88, 89, 90, 91, 92, 93, 94, 95, 96, 97, 98, 99, 100, 101, 102, 103, 104, 105, 106, 107, 108, 109, 110, 111, 112, 113, 114, 115, 116, 117, 118, 119, 120, 121, 122, 123] (by decide +kernel) (by decide +kernel)
set_option maxRecDepth 20000 in
theorem gX4_hiredFor_X4_fewest : GoodIn wsX4_hiredFor (wsV RX4 195 RX4 yX4_fewest wsX4_fewest) := goodIn_app (goodIn_of _ (by decide +kernel)) ggX4_hiredFor_X4_fewest
theorem dX4_hiredFor_0 : decode cX4_hiredFor 0 = .ok (.iload_n 1, 1) := by decide +kernel
theorem dX4_hiredFor_1 : decode cX4_hiredFor 1 = .ok (.iconst 1, 1) := by decide +kernel
theorem dX4_hiredFor_2 : decode cX4_hiredFor 2 = .ok (.bipush 20, 2) := by decide +kernel
theorem dX4_hiredFor_4 : decode cX4_hiredFor 4 = .ok (.invokestatic 60, 3) := by decide +kernel
theorem dX4_hiredFor_7 : decode cX4_hiredFor 7 = .ok (.ifCond .eq 12, 3) := by decide +kernel
theorem dX4_hiredFor_10 : decode cX4_hiredFor 10 = .ok (.aload_n 0, 1) := by decide +kernel
theorem dX4_hiredFor_11 : decode cX4_hiredFor 11 = .ok (.iconst (-1), 1) := by decide +kernel
theorem dX4_hiredFor_12 : decode cX4_hiredFor 12 = .ok (.iload_n 1, 1) := by decide +kernel
theorem dX4_hiredFor_13 : decode cX4_hiredFor 13 = .ok (.invokevirtual 195, 3) := by decide +kernel
theorem dX4_hiredFor_16 : decode cX4_hiredFor 16 = .ok (.goto 4, 3) := by decide +kernel
theorem dX4_hiredFor_19 : decode cX4_hiredFor 19 = .ok (.iconst (-1), 1) := by decide +kernel
theorem dX4_hiredFor_20 : decode cX4_hiredFor 20 = .ok (.ireturn, 1) := by decide +kernel
set_option maxRecDepth 20000 in
theorem ggX4_round_X0_everybody : GoodIn wsX4_round wsX0_everybody := goodIn_r _ [7, 8, 92, 93, 94, 95, 96, 97, 98, 99, 100, 101, 102] (by decide +kernel) (by decide +kernel)
set_option maxRecDepth 20000 in
theorem gX4_round_X0_everybody : GoodIn wsX4_round (wsV RX4 188 RX0 yX0_everybody wsX0_everybody) := goodIn_app (goodIn_of _ (by decide +kernel)) ggX4_round_X0_everybody
set_option maxRecDepth 20000 in
theorem ggX4_round_X4_firstBehind : GoodIn wsX4_round wsX4_firstBehind := goodIn_r _ [13, 14, 2, 15, 16, 17, 12, 18, 1, 19, 20, 21, 6, 22, 23, 24, 25, 26, 27, 28, 29, 30, 31, 8, 32, 33, 34, 35, 36, 37, 38, 39, 40, 41, 42, 43, 44, 45, 46, 47, 48, 49, 50, 51, 52, 53, 54, 55, 56, 57, 58, 59, 60, 61, 62, 63, 64, 65, 66, 67, 68, 69, 70, 71, 72, 73, 74, 75, 76, 77, 78, 79, 80, 81, 82, 83, 84, 85, 86, 87, 88, 89, 90, 91, 92, 93, 94, 95, 96, 97, 98, 99, 100, 101, 102] (by decide +kernel) (by decide +kernel)
set_option maxRecDepth 20000 in
theorem gX4_round_X4_firstBehind : GoodIn wsX4_round (wsV RX4 184 RX4 yX4_firstBehind wsX4_firstBehind) := goodIn_app (goodIn_of _ (by decide +kernel)) ggX4_round_X4_firstBehind
theorem dX4_round_0 : decode cX4_round 0 = .ok (.aload_n 0, 1) := by decide +kernel
theorem dX4_round_1 : decode cX4_round 1 = .ok (.iconst 1, 1) := by decide +kernel
theorem dX4_round_2 : decode cX4_round 2 = .ok (.aload_n 0, 1) := by decide +kernel
theorem dX4_round_3 : decode cX4_round 3 = .ok (.getfield 10, 3) := by decide +kernel
theorem dX4_round_6 : decode cX4_round 6 = .ok (.invokevirtual 188, 3) := by decide +kernel
theorem dX4_round_9 : decode cX4_round 9 = .ok (.aload_n 0, 1) := by decide +kernel
theorem dX4_round_10 : decode cX4_round 10 = .ok (.getfield 10, 3) := by decide +kernel
theorem dX4_round_13 : decode cX4_round 13 = .ok (.getfield 152, 3) := by decide +kernel
theorem dX4_round_16 : decode cX4_round 16 = .ok (.invokevirtual 184, 3) := by decide +kernel
theorem dX4_round_19 : decode cX4_round 19 = .ok (.ireturn, 1) := by decide +kernel
set_option maxRecDepth 20000 in
theorem ggX4_fits_X4_isPlace : GoodIn wsX4_fits wsX4_isPlace := goodIn_r _ [6, 7, 8, 5, 9] (by decide +kernel) (by decide +kernel)
set_option maxRecDepth 20000 in
theorem gX4_fits_X4_isPlace : GoodIn wsX4_fits (va_wsS RX4 199 yX4_isPlace wsX4_isPlace) := goodIn_app (goodIn_of _ (by decide +kernel)) ggX4_fits_X4_isPlace
set_option maxRecDepth 20000 in
theorem ggX4_fits_X0_has : GoodIn wsX4_fits wsX0_has := goodIn_r _ [14, 15, 8, 5, 9, 109, 110, 111, 112, 113, 114, 115, 116, 117, 118, 119] (by decide +kernel) (by decide +kernel)
set_option maxRecDepth 20000 in
theorem gX4_fits_X0_has : GoodIn wsX4_fits (wsV RX4 117 RX0 yX0_has wsX0_has) := goodIn_app (goodIn_of _ (by decide +kernel)) ggX4_fits_X0_has
set_option maxRecDepth 20000 in
theorem ggX4_fits_X4_within : GoodIn wsX4_fits wsX4_within := goodIn_r _ [9] (by decide +kernel) (by decide +kernel)
set_option maxRecDepth 20000 in
theorem gX4_fits_X4_within : GoodIn wsX4_fits (va_wsS RX4 60 yX4_within wsX4_within) := goodIn_app (goodIn_of _ (by decide +kernel)) ggX4_fits_X4_within
set_option maxRecDepth 20000 in
theorem ggX4_fits_X4_earFits : GoodIn wsX4_fits wsX4_earFits := goodIn_r _ [19, 20, 21, 22, 23, 24, 25, 26, 27, 5, 28, 1, 29, 30, 31, 13, 32, 33, 34, 35, 36, 37, 38, 39, 40, 41, 15, 42, 43, 44, 45, 46, 47, 48, 49, 50, 51, 52, 53, 54, 55, 56, 57, 58, 59, 60, 61, 62, 63, 64, 65, 66, 67, 68, 69, 70, 71, 72, 73, 74, 75, 76, 77, 78, 79, 80, 81, 82, 83, 84, 85, 86, 87, 88, 89, 90, 91, 92, 93, 94, 95, 96, 97, 98, 99, 100, 101, 102, 103, 104, 105, 106, 107, 108, 109, 110, 111, 112, 113, 114, 115, 116, 117, 118, 119, 120, 121] (by decide +kernel) (by decide +kernel)
set_option maxRecDepth 20000 in
theorem gX4_fits_X4_earFits : GoodIn wsX4_fits (wsV RX4 202 RX4 yX4_earFits wsX4_earFits) := goodIn_app (goodIn_of _ (by decide +kernel)) ggX4_fits_X4_earFits
theorem dX4_fits_0 : decode cX4_fits 0 = .ok (.iload_n 1, 1) := by decide +kernel
theorem dX4_fits_1 : decode cX4_fits 1 = .ok (.invokestatic 199, 3) := by decide +kernel
theorem dX4_fits_4 : decode cX4_fits 4 = .ok (.ifCond .eq 23, 3) := by decide +kernel
theorem dX4_fits_7 : decode cX4_fits 7 = .ok (.aload_n 0, 1) := by decide +kernel
theorem dX4_fits_8 : decode cX4_fits 8 = .ok (.getfield 10, 3) := by decide +kernel
theorem dX4_fits_11 : decode cX4_fits 11 = .ok (.iload_n 2, 1) := by decide +kernel
theorem dX4_fits_12 : decode cX4_fits 12 = .ok (.invokevirtual 117, 3) := by decide +kernel
theorem dX4_fits_15 : decode cX4_fits 15 = .ok (.ifCond .eq 12, 3) := by decide +kernel
theorem dX4_fits_18 : decode cX4_fits 18 = .ok (.iload_n 3, 1) := by decide +kernel
theorem dX4_fits_19 : decode cX4_fits 19 = .ok (.iconst 0, 1) := by decide +kernel
theorem dX4_fits_20 : decode cX4_fits 20 = .ok (.iconst 1, 1) := by decide +kernel
theorem dX4_fits_21 : decode cX4_fits 21 = .ok (.invokestatic 60, 3) := by decide +kernel
theorem dX4_fits_24 : decode cX4_fits 24 = .ok (.ifCond .ne 5, 3) := by decide +kernel
theorem dX4_fits_27 : decode cX4_fits 27 = .ok (.iconst (-1), 1) := by decide +kernel
theorem dX4_fits_28 : decode cX4_fits 28 = .ok (.ireturn, 1) := by decide +kernel
theorem dX4_fits_29 : decode cX4_fits 29 = .ok (.aload_n 0, 1) := by decide +kernel
theorem dX4_fits_30 : decode cX4_fits 30 = .ok (.getfield 50, 3) := by decide +kernel
theorem dX4_fits_33 : decode cX4_fits 33 = .ok (.iload_n 1, 1) := by decide +kernel
theorem dX4_fits_34 : decode cX4_fits 34 = .ok (.aaload, 1) := by decide +kernel
theorem dX4_fits_35 : decode cX4_fits 35 = .ok (.astore 4, 2) := by decide +kernel
theorem dX4_fits_37 : decode cX4_fits 37 = .ok (.aload 4, 2) := by decide +kernel
theorem dX4_fits_39 : decode cX4_fits 39 = .ok (.ifnonnull 6, 3) := by decide +kernel
theorem dX4_fits_42 : decode cX4_fits 42 = .ok (.bipush (-11), 2) := by decide +kernel
theorem dX4_fits_44 : decode cX4_fits 44 = .ok (.ireturn, 1) := by decide +kernel
theorem dX4_fits_45 : decode cX4_fits 45 = .ok (.iconst 0, 1) := by decide +kernel
theorem dX4_fits_46 : decode cX4_fits 46 = .ok (.istore 5, 2) := by decide +kernel
theorem dX4_fits_48 : decode cX4_fits 48 = .ok (.bipush (-3), 2) := by decide +kernel
theorem dX4_fits_50 : decode cX4_fits 50 = .ok (.istore 6, 2) := by decide +kernel
theorem dX4_fits_52 : decode cX4_fits 52 = .ok (.bipush 9, 2) := by decide +kernel
theorem dX4_fits_54 : decode cX4_fits 54 = .ok (.istore 7, 2) := by decide +kernel
theorem dX4_fits_56 : decode cX4_fits 56 = .ok (.iload 7, 2) := by decide +kernel
theorem dX4_fits_58 : decode cX4_fits 58 = .ok (.ifCond .lt 28, 3) := by decide +kernel
theorem dX4_fits_61 : decode cX4_fits 61 = .ok (.aload_n 0, 1) := by decide +kernel
theorem dX4_fits_62 : decode cX4_fits 62 = .ok (.iload_n 2, 1) := by decide +kernel
theorem dX4_fits_63 : decode cX4_fits 63 = .ok (.iload 7, 2) := by decide +kernel
theorem dX4_fits_65 : decode cX4_fits 65 = .ok (.aload 4, 2) := by decide +kernel
theorem dX4_fits_67 : decode cX4_fits 67 = .ok (.invokevirtual 202, 3) := by decide +kernel
theorem dX4_fits_70 : decode cX4_fits 70 = .ok (.ifCond .eq 10, 3) := by decide +kernel
theorem dX4_fits_73 : decode cX4_fits 73 = .ok (.iinc 5 1, 3) := by decide +kernel
theorem dX4_fits_76 : decode cX4_fits 76 = .ok (.iload 7, 2) := by decide +kernel
theorem dX4_fits_78 : decode cX4_fits 78 = .ok (.istore 6, 2) := by decide +kernel
theorem dX4_fits_80 : decode cX4_fits 80 = .ok (.iinc 7 (-1), 3) := by decide +kernel
theorem dX4_fits_83 : decode cX4_fits 83 = .ok (.goto (-27), 3) := by decide +kernel
theorem dX4_fits_86 : decode cX4_fits 86 = .ok (.iload_n 3, 1) := by decide +kernel
theorem dX4_fits_87 : decode cX4_fits 87 = .ok (.ifCond .ne 8, 3) := by decide +kernel
theorem dX4_fits_90 : decode cX4_fits 90 = .ok (.iload 5, 2) := by decide +kernel
theorem dX4_fits_92 : decode cX4_fits 92 = .ok (.goto 5, 3) := by decide +kernel
theorem dX4_fits_95 : decode cX4_fits 95 = .ok (.iload 6, 2) := by decide +kernel
theorem dX4_fits_97 : decode cX4_fits 97 = .ok (.ireturn, 1) := by decide +kernel
set_option maxRecDepth 20000 in
theorem ggX4_tryFromNow_X0_become : GoodIn wsX4_tryFromNow wsX0_become := goodIn_r _ [7, 8, 9, 10, 11, 12, 13, 14, 15, 16, 17, 18, 19, 20, 32, 33, 34, 35, 36, 37, 38, 39, 40, 41, 42] (by decide +kernel) (by decide +kernel)
set_option maxRecDepth 20000 in
theorem gX4_tryFromNow_X0_become : GoodIn wsX4_tryFromNow (wsV RX4 81 RX0 yX0_become wsX0_become) := goodIn_app (goodIn_of _ (by decide +kernel)) ggX4_tryFromNow_X0_become
theorem dX4_tryFromNow_0 : decode cX4_tryFromNow 0 = .ok (.aload_n 0, 1) := by decide +kernel
theorem dX4_tryFromNow_1 : decode cX4_tryFromNow 1 = .ok (.getfield 16, 3) := by decide +kernel
theorem dX4_tryFromNow_4 : decode cX4_tryFromNow 4 = .ok (.aload_n 0, 1) := by decide +kernel
theorem dX4_tryFromNow_5 : decode cX4_tryFromNow 5 = .ok (.getfield 10, 3) := by decide +kernel
theorem dX4_tryFromNow_8 : decode cX4_tryFromNow 8 = .ok (.invokevirtual 81, 3) := by decide +kernel
theorem dX4_tryFromNow_11 : decode cX4_tryFromNow 11 = .ok (.return_, 1) := by decide +kernel
set_option maxRecDepth 20000 in
theorem ggX4_firstBehind_X4_tryFromNow : GoodIn wsX4_firstBehind wsX4_tryFromNow := goodIn_r _ [7, 1, 8, 9, 10, 11, 12, 13, 14, 15, 16, 17, 18, 19, 20, 21, 22, 23, 24, 25, 26, 73, 74, 75, 76, 77, 78, 79, 80, 81, 82, 83, 84, 85, 86, 87, 88, 89, 90, 91, 92, 93, 94] (by decide +kernel) (by decide +kernel)
set_option maxRecDepth 20000 in
theorem gX4_firstBehind_X4_tryFromNow : GoodIn wsX4_firstBehind (wsV RX4 167 RX4 yX4_tryFromNow wsX4_tryFromNow) := goodIn_app (goodIn_of _ (by decide +kernel)) ggX4_firstBehind_X4_tryFromNow
set_option maxRecDepth 20000 in
theorem ggX4_firstBehind_X0_pass : GoodIn wsX4_firstBehind wsX0_pass := goodIn_r _ [30, 31, 32, 33, 12, 34, 23, 35, 20, 24, 25, 36, 37, 38, 39, 40, 22, 41, 42, 43, 44, 45, 46, 47, 48, 49, 50, 51, 21, 19, 14, 52, 53, 54, 55, 56, 57, 58, 59, 60, 61, 62, 63, 64, 6, 65, 66, 67, 68, 69, 70, 71, 72, 84, 85, 86, 87, 88, 89, 90, 91, 92, 93, 94] (by decide +kernel) (by decide +kernel)
set_option maxRecDepth 20000 in
theorem gX4_firstBehind_X0_pass : GoodIn wsX4_firstBehind (wsV RX4 155 RX0 yX0_pass wsX0_pass) := goodIn_app (goodIn_of _ (by decide +kernel)) ggX4_firstBehind_X0_pass
theorem dX4_firstBehind_0 : decode cX4_firstBehind 0 = .ok (.aload_n 0, 1) := by decide +kernel
theorem dX4_firstBehind_1 : decode cX4_firstBehind 1 = .ok (.invokevirtual 167, 3) := by decide +kernel
theorem dX4_firstBehind_4 : decode cX4_firstBehind 4 = .ok (.aload_n 0, 1) := by decide +kernel
theorem dX4_firstBehind_5 : decode cX4_firstBehind 5 = .ok (.getfield 16, 3) := by decide +kernel
theorem dX4_firstBehind_8 : decode cX4_firstBehind 8 = .ok (.iload_n 1, 1) := by decide +kernel
theorem dX4_firstBehind_9 : decode cX4_firstBehind 9 = .ok (.invokevirtual 155, 3) := by decide +kernel
theorem dX4_firstBehind_12 : decode cX4_firstBehind 12 = .ok (.iload_n 1, 1) := by decide +kernel
theorem dX4_firstBehind_13 : decode cX4_firstBehind 13 = .ok (.istore 4, 2) := by decide +kernel
theorem dX4_firstBehind_15 : decode cX4_firstBehind 15 = .ok (.iload 4, 2) := by decide +kernel
theorem dX4_firstBehind_17 : decode cX4_firstBehind 17 = .ok (.bipush 60, 2) := by decide +kernel
theorem dX4_firstBehind_19 : decode cX4_firstBehind 19 = .ok (.if_icmp .gt 33, 3) := by decide +kernel
theorem dX4_firstBehind_22 : decode cX4_firstBehind 22 = .ok (.aload_n 0, 1) := by decide +kernel
theorem dX4_firstBehind_23 : decode cX4_firstBehind 23 = .ok (.getfield 16, 3) := by decide +kernel
theorem dX4_firstBehind_26 : decode cX4_firstBehind 26 = .ok (.getfield 152, 3) := by decide +kernel
theorem dX4_firstBehind_29 : decode cX4_firstBehind 29 = .ok (.iload_n 2, 1) := by decide +kernel
theorem dX4_firstBehind_30 : decode cX4_firstBehind 30 = .ok (.iand, 1) := by decide +kernel
theorem dX4_firstBehind_31 : decode cX4_firstBehind 31 = .ok (.iload_n 3, 1) := by decide +kernel
theorem dX4_firstBehind_32 : decode cX4_firstBehind 32 = .ok (.if_icmp .ne 6, 3) := by decide +kernel
theorem dX4_firstBehind_35 : decode cX4_firstBehind 35 = .ok (.iload 4, 2) := by decide +kernel
theorem dX4_firstBehind_37 : decode cX4_firstBehind 37 = .ok (.ireturn, 1) := by decide +kernel
theorem dX4_firstBehind_38 : decode cX4_firstBehind 38 = .ok (.aload_n 0, 1) := by decide +kernel
theorem dX4_firstBehind_39 : decode cX4_firstBehind 39 = .ok (.getfield 16, 3) := by decide +kernel
theorem dX4_firstBehind_42 : decode cX4_firstBehind 42 = .ok (.iconst 1, 1) := by decide +kernel
theorem dX4_firstBehind_43 : decode cX4_firstBehind 43 = .ok (.invokevirtual 155, 3) := by decide +kernel
theorem dX4_firstBehind_46 : decode cX4_firstBehind 46 = .ok (.iinc 4 1, 3) := by decide +kernel
theorem dX4_firstBehind_49 : decode cX4_firstBehind 49 = .ok (.goto (-34), 3) := by decide +kernel
theorem dX4_firstBehind_52 : decode cX4_firstBehind 52 = .ok (.bipush (-3), 2) := by decide +kernel
theorem dX4_firstBehind_54 : decode cX4_firstBehind 54 = .ok (.ireturn, 1) := by decide +kernel
set_option maxRecDepth 20000 in
theorem ggX4_proudestBy_X0_has : GoodIn wsX4_proudestBy wsX0_has := goodIn_r _ [8, 9, 10, 11, 12, 91, 92, 93, 94, 95, 96, 97, 98, 99, 100, 101] (by decide +kernel) (by decide +kernel)
set_option maxRecDepth 20000 in
theorem gX4_proudestBy_X0_has : GoodIn wsX4_proudestBy (wsV RX4 117 RX0 yX0_has wsX0_has) := goodIn_app (goodIn_of _ (by decide +kernel)) ggX4_proudestBy_X0_has
set_option maxRecDepth 20000 in
theorem ggX4_proudestBy_X4_within : GoodIn wsX4_proudestBy wsX4_within := goodIn_r _ [12] (by decide +kernel) (by decide +kernel)
set_option maxRecDepth 20000 in
theorem gX4_proudestBy_X4_within : GoodIn wsX4_proudestBy (va_wsS RX4 60 yX4_within wsX4_within) := goodIn_app (goodIn_of _ (by decide +kernel)) ggX4_proudestBy_X4_within
set_option maxRecDepth 20000 in
theorem ggX4_proudestBy_X4_tryFromNow : GoodIn wsX4_proudestBy wsX4_tryFromNow := goodIn_r _ [17, 2, 1, 18, 19, 20, 7, 21, 22, 23, 24, 25, 26, 27, 28, 29, 30, 9, 31, 32, 33, 80, 81, 82, 83, 84, 85, 86, 87, 88, 89, 90, 91, 92, 93, 94, 95, 96, 97, 98, 99, 100, 101] (by decide +kernel) (by decide +kernel)
set_option maxRecDepth 20000 in
theorem gX4_proudestBy_X4_tryFromNow : GoodIn wsX4_proudestBy (wsV RX4 167 RX4 yX4_tryFromNow wsX4_tryFromNow) := goodIn_app (goodIn_of _ (by decide +kernel)) ggX4_proudestBy_X4_tryFromNow
set_option maxRecDepth 20000 in
theorem ggX4_proudestBy_X0_pass : GoodIn wsX4_proudestBy wsX0_pass := goodIn_r _ [37, 38, 39, 40, 7, 41, 9, 42, 28, 31, 32, 43, 44, 45, 46, 47, 30, 48, 49, 50, 51, 52, 53, 54, 55, 56, 57, 58, 29, 27, 22, 59, 60, 61, 62, 63, 64, 65, 66, 67, 68, 69, 70, 71, 11, 72, 73, 74, 75, 76, 77, 78, 79, 91, 92, 93, 94, 95, 96, 97, 98, 99, 100, 101] (by decide +kernel) (by decide +kernel)
set_option maxRecDepth 20000 in
theorem gX4_proudestBy_X0_pass : GoodIn wsX4_proudestBy (wsV RX4 155 RX0 yX0_pass wsX0_pass) := goodIn_app (goodIn_of _ (by decide +kernel)) ggX4_proudestBy_X0_pass
theorem dX4_proudestBy_0 : decode cX4_proudestBy 0 = .ok (.aload_n 0, 1) := by decide +kernel
theorem dX4_proudestBy_1 : decode cX4_proudestBy 1 = .ok (.getfield 10, 3) := by decide +kernel
theorem dX4_proudestBy_4 : decode cX4_proudestBy 4 = .ok (.iload_n 3, 1) := by decide +kernel
theorem dX4_proudestBy_5 : decode cX4_proudestBy 5 = .ok (.invokevirtual 117, 3) := by decide +kernel
theorem dX4_proudestBy_8 : decode cX4_proudestBy 8 = .ok (.ifCond .eq 20, 3) := by decide +kernel
theorem dX4_proudestBy_11 : decode cX4_proudestBy 11 = .ok (.iload_n 3, 1) := by decide +kernel
theorem dX4_proudestBy_12 : decode cX4_proudestBy 12 = .ok (.aload_n 1, 1) := by decide +kernel
theorem dX4_proudestBy_13 : decode cX4_proudestBy 13 = .ok (.arraylength, 1) := by decide +kernel
theorem dX4_proudestBy_14 : decode cX4_proudestBy 14 = .ok (.if_icmp .ge 14, 3) := by decide +kernel
theorem dX4_proudestBy_17 : decode cX4_proudestBy 17 = .ok (.iload 4, 2) := by decide +kernel
theorem dX4_proudestBy_19 : decode cX4_proudestBy 19 = .ok (.iconst 1, 1) := by decide +kernel
theorem dX4_proudestBy_20 : decode cX4_proudestBy 20 = .ok (.bipush 20, 2) := by decide +kernel
theorem dX4_proudestBy_22 : decode cX4_proudestBy 22 = .ok (.invokestatic 60, 3) := by decide +kernel
theorem dX4_proudestBy_25 : decode cX4_proudestBy 25 = .ok (.ifCond .ne 5, 3) := by decide +kernel
theorem dX4_proudestBy_28 : decode cX4_proudestBy 28 = .ok (.iconst (-1), 1) := by decide +kernel
theorem dX4_proudestBy_29 : decode cX4_proudestBy 29 = .ok (.ireturn, 1) := by decide +kernel
theorem dX4_proudestBy_30 : decode cX4_proudestBy 30 = .ok (.iconst 0, 1) := by decide +kernel
theorem dX4_proudestBy_31 : decode cX4_proudestBy 31 = .ok (.istore 5, 2) := by decide +kernel
theorem dX4_proudestBy_33 : decode cX4_proudestBy 33 = .ok (.iconst (-1), 1) := by decide +kernel
theorem dX4_proudestBy_34 : decode cX4_proudestBy 34 = .ok (.istore 6, 2) := by decide +kernel
theorem dX4_proudestBy_36 : decode cX4_proudestBy 36 = .ok (.iconst 0, 1) := by decide +kernel
theorem dX4_proudestBy_37 : decode cX4_proudestBy 37 = .ok (.istore 7, 2) := by decide +kernel
theorem dX4_proudestBy_39 : decode cX4_proudestBy 39 = .ok (.iload 7, 2) := by decide +kernel
theorem dX4_proudestBy_41 : decode cX4_proudestBy 41 = .ok (.iload_n 2, 1) := by decide +kernel
theorem dX4_proudestBy_42 : decode cX4_proudestBy 42 = .ok (.if_icmp .ge 56, 3) := by decide +kernel
theorem dX4_proudestBy_45 : decode cX4_proudestBy 45 = .ok (.aload_n 0, 1) := by decide +kernel
theorem dX4_proudestBy_46 : decode cX4_proudestBy 46 = .ok (.invokevirtual 167, 3) := by decide +kernel
theorem dX4_proudestBy_49 : decode cX4_proudestBy 49 = .ok (.aload_n 1, 1) := by decide +kernel
theorem dX4_proudestBy_50 : decode cX4_proudestBy 50 = .ok (.iload_n 3, 1) := by decide +kernel
theorem dX4_proudestBy_51 : decode cX4_proudestBy 51 = .ok (.iload 7, 2) := by decide +kernel
theorem dX4_proudestBy_53 : decode cX4_proudestBy 53 = .ok (.iastore, 1) := by decide +kernel
theorem dX4_proudestBy_54 : decode cX4_proudestBy 54 = .ok (.aload_n 0, 1) := by decide +kernel
theorem dX4_proudestBy_55 : decode cX4_proudestBy 55 = .ok (.getfield 16, 3) := by decide +kernel
theorem dX4_proudestBy_58 : decode cX4_proudestBy 58 = .ok (.iload 4, 2) := by decide +kernel
theorem dX4_proudestBy_60 : decode cX4_proudestBy 60 = .ok (.invokevirtual 155, 3) := by decide +kernel
theorem dX4_proudestBy_63 : decode cX4_proudestBy 63 = .ok (.aload_n 0, 1) := by decide +kernel
theorem dX4_proudestBy_64 : decode cX4_proudestBy 64 = .ok (.getfield 16, 3) := by decide +kernel
theorem dX4_proudestBy_67 : decode cX4_proudestBy 67 = .ok (.getfield 123, 3) := by decide +kernel
theorem dX4_proudestBy_70 : decode cX4_proudestBy 70 = .ok (.iload_n 3, 1) := by decide +kernel
theorem dX4_proudestBy_71 : decode cX4_proudestBy 71 = .ok (.iaload, 1) := by decide +kernel
theorem dX4_proudestBy_72 : decode cX4_proudestBy 72 = .ok (.iload 6, 2) := by decide +kernel
theorem dX4_proudestBy_74 : decode cX4_proudestBy 74 = .ok (.if_icmp .le 18, 3) := by decide +kernel
theorem dX4_proudestBy_77 : decode cX4_proudestBy 77 = .ok (.aload_n 0, 1) := by decide +kernel
theorem dX4_proudestBy_78 : decode cX4_proudestBy 78 = .ok (.getfield 16, 3) := by decide +kernel
theorem dX4_proudestBy_81 : decode cX4_proudestBy 81 = .ok (.getfield 123, 3) := by decide +kernel
theorem dX4_proudestBy_84 : decode cX4_proudestBy 84 = .ok (.iload_n 3, 1) := by decide +kernel
theorem dX4_proudestBy_85 : decode cX4_proudestBy 85 = .ok (.iaload, 1) := by decide +kernel
theorem dX4_proudestBy_86 : decode cX4_proudestBy 86 = .ok (.istore 6, 2) := by decide +kernel
theorem dX4_proudestBy_88 : decode cX4_proudestBy 88 = .ok (.iload 7, 2) := by decide +kernel
theorem dX4_proudestBy_90 : decode cX4_proudestBy 90 = .ok (.istore 5, 2) := by decide +kernel
theorem dX4_proudestBy_92 : decode cX4_proudestBy 92 = .ok (.iinc 7 1, 3) := by decide +kernel
theorem dX4_proudestBy_95 : decode cX4_proudestBy 95 = .ok (.goto (-56), 3) := by decide +kernel
theorem dX4_proudestBy_98 : decode cX4_proudestBy 98 = .ok (.iload 5, 2) := by decide +kernel
theorem dX4_proudestBy_100 : decode cX4_proudestBy 100 = .ok (.ireturn, 1) := by decide +kernel
set_option maxRecDepth 20000 in
theorem ggX4_fewest_X0_everybody : GoodIn wsX4_fewest wsX0_everybody := goodIn_r _ [7, 8, 106, 107, 108, 109, 110, 111, 112, 113, 114, 115, 116] (by decide +kernel) (by decide +kernel)
set_option maxRecDepth 20000 in
theorem gX4_fewest_X0_everybody : GoodIn wsX4_fewest (wsV RX4 188 RX0 yX0_everybody wsX0_everybody) := goodIn_app (goodIn_of _ (by decide +kernel)) ggX4_fewest_X0_everybody
set_option maxRecDepth 20000 in
theorem ggX4_fewest_J6_bitCount_0f7a4 : GoodIn wsX4_fewest wsJ6_bitCount_0f7a4 := goodIn_r _ [12, 13, 14, 15] (by decide +kernel) (by decide +kernel)
set_option maxRecDepth 20000 in
theorem gX4_fewest_J6_bitCount_0f7a4 : GoodIn wsX4_fewest (va_wsS RX4 159 yJ6_bitCount_0f7a4 wsJ6_bitCount_0f7a4) := goodIn_app (goodIn_of _ (by decide +kernel)) ggX4_fewest_J6_bitCount_0f7a4
set_option maxRecDepth 20000 in
theorem ggX4_fewest_X4_allClapIfHired : GoodIn wsX4_fewest wsX4_allClapIfHired := goodIn_r _ [20, 21, 2, 22, 23, 24, 25, 26, 19, 27, 1, 28, 29, 30, 6, 31, 32, 33, 34, 35, 36, 37, 38, 39, 40, 8, 41, 42, 43, 44, 45, 46, 47, 48, 49, 50, 51, 52, 53, 54, 55, 56, 57, 58, 59, 60, 61, 62, 63, 64, 65, 66, 67, 68, 69, 70, 71, 72, 73, 74, 75, 76, 77, 78, 79, 80, 81, 82, 83, 84, 85, 86, 87, 88, 89, 3, 4, 5, 7, 95, 96, 97, 98, 99, 100, 101, 102, 103, 104, 105, 106, 107, 108, 109, 110, 111, 112, 113, 114, 115, 116] (by decide +kernel) (by decide +kernel)
set_option maxRecDepth 20000 in
theorem gX4_fewest_X4_allClapIfHired : GoodIn wsX4_fewest (wsV RX4 206 RX4 yX4_allClapIfHired wsX4_allClapIfHired) := goodIn_app (goodIn_of _ (by decide +kernel)) ggX4_fewest_X4_allClapIfHired
set_option maxRecDepth 20000 in
theorem ggX4_fewest_X4_clapsIfBegun : GoodIn wsX4_fewest wsX4_clapsIfBegun := goodIn_r _ [93, 21, 23, 24, 25, 26, 19, 27, 1, 28, 29, 30, 6, 31, 32, 33, 34, 35, 36, 37, 38, 39, 40, 8, 41, 42, 43, 44, 45, 46, 47, 48, 49, 50, 51, 52, 53, 54, 55, 56, 57, 58, 59, 60, 61, 62, 63, 64, 65, 66, 67, 68, 69, 70, 71, 72, 73, 74, 75, 76, 77, 78, 79, 80, 81, 82, 83, 84, 85, 86, 87, 88, 89, 94, 95, 96, 97, 98, 99, 100, 101, 102, 103, 104, 105, 106, 107, 108, 109, 110, 111, 112, 113, 114, 115, 116] (by decide +kernel) (by decide +kernel)
set_option maxRecDepth 20000 in
theorem gX4_fewest_X4_clapsIfBegun : GoodIn wsX4_fewest (wsV RX4 210 RX4 yX4_clapsIfBegun wsX4_clapsIfBegun) := goodIn_app (goodIn_of _ (by decide +kernel)) ggX4_fewest_X4_clapsIfBegun
theorem dX4_fewest_0 : decode cX4_fewest 0 = .ok (.aload_n 0, 1) := by decide +kernel
theorem dX4_fewest_1 : decode cX4_fewest 1 = .ok (.getfield 10, 3) := by decide +kernel
theorem dX4_fewest_4 : decode cX4_fewest 4 = .ok (.invokevirtual 188, 3) := by decide +kernel
theorem dX4_fewest_7 : decode cX4_fewest 7 = .ok (.istore_n 3, 1) := by decide +kernel
theorem dX4_fewest_8 : decode cX4_fewest 8 = .ok (.iconst 0, 1) := by decide +kernel
theorem dX4_fewest_9 : decode cX4_fewest 9 = .ok (.istore 4, 2) := by decide +kernel
theorem dX4_fewest_11 : decode cX4_fewest 11 = .ok (.iload 4, 2) := by decide +kernel
theorem dX4_fewest_13 : decode cX4_fewest 13 = .ok (.aload_n 0, 1) := by decide +kernel
theorem dX4_fewest_14 : decode cX4_fewest 14 = .ok (.getfield 10, 3) := by decide +kernel
theorem dX4_fewest_17 : decode cX4_fewest 17 = .ok (.getfield 85, 3) := by decide +kernel
theorem dX4_fewest_20 : decode cX4_fewest 20 = .ok (.if_icmp .gt 66, 3) := by decide +kernel
theorem dX4_fewest_23 : decode cX4_fewest 23 = .ok (.iconst 0, 1) := by decide +kernel
theorem dX4_fewest_24 : decode cX4_fewest 24 = .ok (.istore 5, 2) := by decide +kernel
theorem dX4_fewest_26 : decode cX4_fewest 26 = .ok (.iload 5, 2) := by decide +kernel
theorem dX4_fewest_28 : decode cX4_fewest 28 = .ok (.iload_n 3, 1) := by decide +kernel
theorem dX4_fewest_29 : decode cX4_fewest 29 = .ok (.if_icmp .gt 51, 3) := by decide +kernel
theorem dX4_fewest_32 : decode cX4_fewest 32 = .ok (.iload 5, 2) := by decide +kernel
theorem dX4_fewest_34 : decode cX4_fewest 34 = .ok (.invokestatic 159, 3) := by decide +kernel
theorem dX4_fewest_37 : decode cX4_fewest 37 = .ok (.iload 4, 2) := by decide +kernel
theorem dX4_fewest_39 : decode cX4_fewest 39 = .ok (.if_icmp .ne 35, 3) := by decide +kernel
theorem dX4_fewest_42 : decode cX4_fewest 42 = .ok (.iload_n 1, 1) := by decide +kernel
theorem dX4_fewest_43 : decode cX4_fewest 43 = .ok (.iconst (-1), 1) := by decide +kernel
theorem dX4_fewest_44 : decode cX4_fewest 44 = .ok (.if_icmp .ne 16, 3) := by decide +kernel
theorem dX4_fewest_47 : decode cX4_fewest 47 = .ok (.aload_n 0, 1) := by decide +kernel
theorem dX4_fewest_48 : decode cX4_fewest 48 = .ok (.iload 5, 2) := by decide +kernel
theorem dX4_fewest_50 : decode cX4_fewest 50 = .ok (.iload_n 2, 1) := by decide +kernel
theorem dX4_fewest_51 : decode cX4_fewest 51 = .ok (.invokevirtual 206, 3) := by decide +kernel
theorem dX4_fewest_54 : decode cX4_fewest 54 = .ok (.ifCond .eq 20, 3) := by decide +kernel
theorem dX4_fewest_57 : decode cX4_fewest 57 = .ok (.goto 14, 3) := by decide +kernel
theorem dX4_fewest_60 : decode cX4_fewest 60 = .ok (.aload_n 0, 1) := by decide +kernel
theorem dX4_fewest_61 : decode cX4_fewest 61 = .ok (.iload_n 1, 1) := by decide +kernel
theorem dX4_fewest_62 : decode cX4_fewest 62 = .ok (.iload 5, 2) := by decide +kernel
theorem dX4_fewest_64 : decode cX4_fewest 64 = .ok (.iload_n 2, 1) := by decide +kernel
theorem dX4_fewest_65 : decode cX4_fewest 65 = .ok (.invokevirtual 210, 3) := by decide +kernel
theorem dX4_fewest_68 : decode cX4_fewest 68 = .ok (.ifCond .eq 6, 3) := by decide +kernel
theorem dX4_fewest_71 : decode cX4_fewest 71 = .ok (.iload 5, 2) := by decide +kernel
theorem dX4_fewest_73 : decode cX4_fewest 73 = .ok (.ireturn, 1) := by decide +kernel
theorem dX4_fewest_74 : decode cX4_fewest 74 = .ok (.iinc 5 1, 3) := by decide +kernel
theorem dX4_fewest_77 : decode cX4_fewest 77 = .ok (.goto (-51), 3) := by decide +kernel
theorem dX4_fewest_80 : decode cX4_fewest 80 = .ok (.iinc 4 1, 3) := by decide +kernel
theorem dX4_fewest_83 : decode cX4_fewest 83 = .ok (.goto (-72), 3) := by decide +kernel
theorem dX4_fewest_86 : decode cX4_fewest 86 = .ok (.bipush (-3), 2) := by decide +kernel
theorem dX4_fewest_88 : decode cX4_fewest 88 = .ok (.ireturn, 1) := by decide +kernel
set_option maxRecDepth 20000 in
theorem ggX4_clapsIfBegun_X4_tryFromNow : GoodIn wsX4_clapsIfBegun wsX4_tryFromNow := goodIn_r _ [7, 1, 8, 9, 10, 11, 12, 13, 14, 15, 16, 17, 18, 19, 20, 21, 22, 23, 24, 25, 26, 74, 75, 76, 77, 78, 79, 80, 81, 82, 83, 84, 85, 86, 87, 88, 89, 90, 91, 92, 93, 94, 95] (by decide +kernel) (by decide +kernel)
set_option maxRecDepth 20000 in
theorem gX4_clapsIfBegun_X4_tryFromNow : GoodIn wsX4_clapsIfBegun (wsV RX4 167 RX4 yX4_tryFromNow wsX4_tryFromNow) := goodIn_app (goodIn_of _ (by decide +kernel)) ggX4_clapsIfBegun_X4_tryFromNow
set_option maxRecDepth 20000 in
theorem ggX4_clapsIfBegun_X0_pass : GoodIn wsX4_clapsIfBegun wsX0_pass := goodIn_r _ [30, 31, 32, 33, 12, 34, 23, 35, 20, 24, 25, 36, 37, 38, 39, 40, 22, 41, 42, 43, 44, 45, 46, 47, 48, 49, 50, 51, 21, 19, 14, 52, 53, 54, 55, 56, 57, 58, 59, 60, 61, 62, 63, 64, 6, 65, 66, 67, 68, 69, 70, 71, 72, 85, 86, 87, 88, 89, 90, 91, 92, 93, 94, 95] (by decide +kernel) (by decide +kernel)
set_option maxRecDepth 20000 in
theorem gX4_clapsIfBegun_X0_pass : GoodIn wsX4_clapsIfBegun (wsV RX4 155 RX0 yX0_pass wsX0_pass) := goodIn_app (goodIn_of _ (by decide +kernel)) ggX4_clapsIfBegun_X0_pass
set_option maxRecDepth 20000 in
theorem ggX4_clapsIfBegun_X0_doesClap : GoodIn wsX4_clapsIfBegun wsX0_doesClap := goodIn_r _ [44, 24, 85, 86, 87, 88, 89, 90, 91, 92, 93, 94, 95] (by decide +kernel) (by decide +kernel)
set_option maxRecDepth 20000 in
theorem gX4_clapsIfBegun_X0_doesClap : GoodIn wsX4_clapsIfBegun (wsV RX4 132 RX0 yX0_doesClap wsX0_doesClap) := goodIn_app (goodIn_of _ (by decide +kernel)) ggX4_clapsIfBegun_X0_doesClap
theorem dX4_clapsIfBegun_0 : decode cX4_clapsIfBegun 0 = .ok (.iload_n 2, 1) := by decide +kernel
theorem dX4_clapsIfBegun_1 : decode cX4_clapsIfBegun 1 = .ok (.iconst 1, 1) := by decide +kernel
theorem dX4_clapsIfBegun_2 : decode cX4_clapsIfBegun 2 = .ok (.iload_n 1, 1) := by decide +kernel
theorem dX4_clapsIfBegun_3 : decode cX4_clapsIfBegun 3 = .ok (.ishl, 1) := by decide +kernel
theorem dX4_clapsIfBegun_4 : decode cX4_clapsIfBegun 4 = .ok (.iand, 1) := by decide +kernel
theorem dX4_clapsIfBegun_5 : decode cX4_clapsIfBegun 5 = .ok (.ifCond .eq 5, 3) := by decide +kernel
theorem dX4_clapsIfBegun_8 : decode cX4_clapsIfBegun 8 = .ok (.iconst 0, 1) := by decide +kernel
theorem dX4_clapsIfBegun_9 : decode cX4_clapsIfBegun 9 = .ok (.ireturn, 1) := by decide +kernel
theorem dX4_clapsIfBegun_10 : decode cX4_clapsIfBegun 10 = .ok (.aload_n 0, 1) := by decide +kernel
theorem dX4_clapsIfBegun_11 : decode cX4_clapsIfBegun 11 = .ok (.invokevirtual 167, 3) := by decide +kernel
theorem dX4_clapsIfBegun_14 : decode cX4_clapsIfBegun 14 = .ok (.aload_n 0, 1) := by decide +kernel
theorem dX4_clapsIfBegun_15 : decode cX4_clapsIfBegun 15 = .ok (.getfield 16, 3) := by decide +kernel
theorem dX4_clapsIfBegun_18 : decode cX4_clapsIfBegun 18 = .ok (.iload_n 2, 1) := by decide +kernel
theorem dX4_clapsIfBegun_19 : decode cX4_clapsIfBegun 19 = .ok (.putfield 152, 3) := by decide +kernel
theorem dX4_clapsIfBegun_22 : decode cX4_clapsIfBegun 22 = .ok (.aload_n 0, 1) := by decide +kernel
theorem dX4_clapsIfBegun_23 : decode cX4_clapsIfBegun 23 = .ok (.getfield 16, 3) := by decide +kernel
theorem dX4_clapsIfBegun_26 : decode cX4_clapsIfBegun 26 = .ok (.iload_n 3, 1) := by decide +kernel
theorem dX4_clapsIfBegun_27 : decode cX4_clapsIfBegun 27 = .ok (.invokevirtual 155, 3) := by decide +kernel
theorem dX4_clapsIfBegun_30 : decode cX4_clapsIfBegun 30 = .ok (.aload_n 0, 1) := by decide +kernel
theorem dX4_clapsIfBegun_31 : decode cX4_clapsIfBegun 31 = .ok (.getfield 16, 3) := by decide +kernel
theorem dX4_clapsIfBegun_34 : decode cX4_clapsIfBegun 34 = .ok (.iload_n 1, 1) := by decide +kernel
theorem dX4_clapsIfBegun_35 : decode cX4_clapsIfBegun 35 = .ok (.invokevirtual 132, 3) := by decide +kernel
theorem dX4_clapsIfBegun_38 : decode cX4_clapsIfBegun 38 = .ok (.ireturn, 1) := by decide +kernel
set_option maxRecDepth 20000 in
theorem ggX4_allClapIfHired_X4_tryFromNow : GoodIn wsX4_allClapIfHired wsX4_tryFromNow := goodIn_r _ [9, 1, 10, 11, 12, 13, 14, 15, 16, 17, 18, 19, 20, 21, 22, 23, 24, 25, 26, 27, 28, 79, 80, 81, 82, 83, 84, 85, 86, 87, 88, 89, 90, 91, 92, 93, 94, 95, 96, 97, 98, 99, 100] (by decide +kernel) (by decide +kernel)
set_option maxRecDepth 20000 in
theorem gX4_allClapIfHired_X4_tryFromNow : GoodIn wsX4_allClapIfHired (wsV RX4 167 RX4 yX4_tryFromNow wsX4_tryFromNow) := goodIn_app (goodIn_of _ (by decide +kernel)) ggX4_allClapIfHired_X4_tryFromNow
set_option maxRecDepth 20000 in
theorem ggX4_allClapIfHired_X0_pass : GoodIn wsX4_allClapIfHired wsX0_pass := goodIn_r _ [32, 33, 34, 35, 14, 36, 25, 37, 22, 26, 27, 38, 39, 40, 41, 42, 24, 43, 44, 45, 46, 47, 48, 49, 50, 51, 52, 53, 23, 21, 16, 54, 55, 56, 57, 58, 59, 60, 61, 62, 63, 64, 65, 66, 8, 67, 68, 69, 70, 71, 72, 73, 74, 90, 91, 92, 93, 94, 95, 96, 97, 98, 99, 100] (by decide +kernel) (by decide +kernel)
set_option maxRecDepth 20000 in
theorem gX4_allClapIfHired_X0_pass : GoodIn wsX4_allClapIfHired (wsV RX4 155 RX0 yX0_pass wsX0_pass) := goodIn_app (goodIn_of _ (by decide +kernel)) ggX4_allClapIfHired_X0_pass
set_option maxRecDepth 20000 in
theorem ggX4_allClapIfHired_X0_everybody : GoodIn wsX4_allClapIfHired wsX0_everybody := goodIn_r _ [78, 25, 90, 91, 92, 93, 94, 95, 96, 97, 98, 99, 100] (by decide +kernel) (by decide +kernel)
set_option maxRecDepth 20000 in
theorem gX4_allClapIfHired_X0_everybody : GoodIn wsX4_allClapIfHired (wsV RX4 188 RX0 yX0_everybody wsX0_everybody) := goodIn_app (goodIn_of _ (by decide +kernel)) ggX4_allClapIfHired_X0_everybody
theorem dX4_allClapIfHired_0 : decode cX4_allClapIfHired 0 = .ok (.aload_n 0, 1) := by decide +kernel
theorem dX4_allClapIfHired_1 : decode cX4_allClapIfHired 1 = .ok (.invokevirtual 167, 3) := by decide +kernel
theorem dX4_allClapIfHired_4 : decode cX4_allClapIfHired 4 = .ok (.iconst 0, 1) := by decide +kernel
theorem dX4_allClapIfHired_5 : decode cX4_allClapIfHired 5 = .ok (.istore_n 3, 1) := by decide +kernel
theorem dX4_allClapIfHired_6 : decode cX4_allClapIfHired 6 = .ok (.iload_n 3, 1) := by decide +kernel
theorem dX4_allClapIfHired_7 : decode cX4_allClapIfHired 7 = .ok (.aload_n 0, 1) := by decide +kernel
theorem dX4_allClapIfHired_8 : decode cX4_allClapIfHired 8 = .ok (.getfield 16, 3) := by decide +kernel
theorem dX4_allClapIfHired_11 : decode cX4_allClapIfHired 11 = .ok (.getfield 85, 3) := by decide +kernel
theorem dX4_allClapIfHired_14 : decode cX4_allClapIfHired 14 = .ok (.if_icmp .ge 27, 3) := by decide +kernel
theorem dX4_allClapIfHired_17 : decode cX4_allClapIfHired 17 = .ok (.iload_n 1, 1) := by decide +kernel
theorem dX4_allClapIfHired_18 : decode cX4_allClapIfHired 18 = .ok (.iconst 1, 1) := by decide +kernel
theorem dX4_allClapIfHired_19 : decode cX4_allClapIfHired 19 = .ok (.iload_n 3, 1) := by decide +kernel
theorem dX4_allClapIfHired_20 : decode cX4_allClapIfHired 20 = .ok (.ishl, 1) := by decide +kernel
theorem dX4_allClapIfHired_21 : decode cX4_allClapIfHired 21 = .ok (.iand, 1) := by decide +kernel
theorem dX4_allClapIfHired_22 : decode cX4_allClapIfHired 22 = .ok (.ifCond .eq 13, 3) := by decide +kernel
theorem dX4_allClapIfHired_25 : decode cX4_allClapIfHired 25 = .ok (.aload_n 0, 1) := by decide +kernel
theorem dX4_allClapIfHired_26 : decode cX4_allClapIfHired 26 = .ok (.getfield 16, 3) := by decide +kernel
theorem dX4_allClapIfHired_29 : decode cX4_allClapIfHired 29 = .ok (.getfield 120, 3) := by decide +kernel
theorem dX4_allClapIfHired_32 : decode cX4_allClapIfHired 32 = .ok (.iload_n 3, 1) := by decide +kernel
theorem dX4_allClapIfHired_33 : decode cX4_allClapIfHired 33 = .ok (.iconst 2, 1) := by decide +kernel
theorem dX4_allClapIfHired_34 : decode cX4_allClapIfHired 34 = .ok (.iastore, 1) := by decide +kernel
theorem dX4_allClapIfHired_35 : decode cX4_allClapIfHired 35 = .ok (.iinc 3 1, 3) := by decide +kernel
theorem dX4_allClapIfHired_38 : decode cX4_allClapIfHired 38 = .ok (.goto (-32), 3) := by decide +kernel
theorem dX4_allClapIfHired_41 : decode cX4_allClapIfHired 41 = .ok (.aload_n 0, 1) := by decide +kernel
theorem dX4_allClapIfHired_42 : decode cX4_allClapIfHired 42 = .ok (.getfield 16, 3) := by decide +kernel
theorem dX4_allClapIfHired_45 : decode cX4_allClapIfHired 45 = .ok (.iload_n 2, 1) := by decide +kernel
theorem dX4_allClapIfHired_46 : decode cX4_allClapIfHired 46 = .ok (.invokevirtual 155, 3) := by decide +kernel
theorem dX4_allClapIfHired_49 : decode cX4_allClapIfHired 49 = .ok (.aload_n 0, 1) := by decide +kernel
theorem dX4_allClapIfHired_50 : decode cX4_allClapIfHired 50 = .ok (.getfield 16, 3) := by decide +kernel
theorem dX4_allClapIfHired_53 : decode cX4_allClapIfHired 53 = .ok (.getfield 152, 3) := by decide +kernel
theorem dX4_allClapIfHired_56 : decode cX4_allClapIfHired 56 = .ok (.aload_n 0, 1) := by decide +kernel
theorem dX4_allClapIfHired_57 : decode cX4_allClapIfHired 57 = .ok (.getfield 16, 3) := by decide +kernel
theorem dX4_allClapIfHired_60 : decode cX4_allClapIfHired 60 = .ok (.invokevirtual 188, 3) := by decide +kernel
theorem dX4_allClapIfHired_63 : decode cX4_allClapIfHired 63 = .ok (.if_icmp .ne 7, 3) := by decide +kernel
theorem dX4_allClapIfHired_66 : decode cX4_allClapIfHired 66 = .ok (.iconst 1, 1) := by decide +kernel
theorem dX4_allClapIfHired_67 : decode cX4_allClapIfHired 67 = .ok (.goto 4, 3) := by decide +kernel
theorem dX4_allClapIfHired_70 : decode cX4_allClapIfHired 70 = .ok (.iconst 0, 1) := by decide +kernel
theorem dX4_allClapIfHired_71 : decode cX4_allClapIfHired 71 = .ok (.ireturn, 1) := by decide +kernel
set_option maxRecDepth 20000 in
theorem ggX4_earFits_X4_tryFromNow : GoodIn wsX4_earFits wsX4_tryFromNow := goodIn_r _ [10, 1, 11, 12, 13, 14, 15, 16, 17, 18, 19, 20, 21, 22, 23, 24, 25, 26, 27, 28, 29, 83, 84, 85, 86, 87, 88, 89, 90, 91, 92, 93, 94, 95, 96, 97, 98, 99, 100, 101, 102, 103, 104] (by decide +kernel) (by decide +kernel)
set_option maxRecDepth 20000 in
theorem gX4_earFits_X4_tryFromNow : GoodIn wsX4_earFits (wsV RX4 167 RX4 yX4_tryFromNow wsX4_tryFromNow) := goodIn_app (goodIn_of _ (by decide +kernel)) ggX4_earFits_X4_tryFromNow
set_option maxRecDepth 20000 in
theorem ggX4_earFits_X0_pass : GoodIn wsX4_earFits wsX0_pass := goodIn_r _ [33, 34, 35, 36, 15, 37, 26, 38, 23, 27, 28, 39, 40, 41, 42, 43, 25, 44, 45, 46, 47, 48, 49, 50, 51, 52, 53, 54, 24, 22, 17, 55, 56, 57, 58, 59, 60, 61, 62, 63, 64, 65, 66, 67, 9, 68, 69, 70, 71, 72, 73, 74, 75, 94, 95, 96, 97, 98, 99, 100, 101, 102, 103, 104] (by decide +kernel) (by decide +kernel)
set_option maxRecDepth 20000 in
theorem gX4_earFits_X0_pass : GoodIn wsX4_earFits (wsV RX4 155 RX0 yX0_pass wsX0_pass) := goodIn_app (goodIn_of _ (by decide +kernel)) ggX4_earFits_X0_pass
set_option maxRecDepth 20000 in
theorem ggX4_earFits_J6_bitCount_0f7a4 : GoodIn wsX4_earFits wsJ6_bitCount_0f7a4 := goodIn_r _ [79, 80, 81, 82] (by decide +kernel) (by decide +kernel)
set_option maxRecDepth 20000 in
theorem gX4_earFits_J6_bitCount_0f7a4 : GoodIn wsX4_earFits (va_wsS RX4 159 yJ6_bitCount_0f7a4 wsJ6_bitCount_0f7a4) := goodIn_app (goodIn_of _ (by decide +kernel)) ggX4_earFits_J6_bitCount_0f7a4
theorem dX4_earFits_0 : decode cX4_earFits 0 = .ok (.aload_n 0, 1) := by decide +kernel
theorem dX4_earFits_1 : decode cX4_earFits 1 = .ok (.invokevirtual 167, 3) := by decide +kernel
theorem dX4_earFits_4 : decode cX4_earFits 4 = .ok (.aload_n 0, 1) := by decide +kernel
theorem dX4_earFits_5 : decode cX4_earFits 5 = .ok (.getfield 16, 3) := by decide +kernel
theorem dX4_earFits_8 : decode cX4_earFits 8 = .ok (.getfield 126, 3) := by decide +kernel
theorem dX4_earFits_11 : decode cX4_earFits 11 = .ok (.iload_n 1, 1) := by decide +kernel
theorem dX4_earFits_12 : decode cX4_earFits 12 = .ok (.iload_n 2, 1) := by decide +kernel
theorem dX4_earFits_13 : decode cX4_earFits 13 = .ok (.iastore, 1) := by decide +kernel
theorem dX4_earFits_14 : decode cX4_earFits 14 = .ok (.iconst 0, 1) := by decide +kernel
theorem dX4_earFits_15 : decode cX4_earFits 15 = .ok (.istore 4, 2) := by decide +kernel
theorem dX4_earFits_17 : decode cX4_earFits 17 = .ok (.iload 4, 2) := by decide +kernel
theorem dX4_earFits_19 : decode cX4_earFits 19 = .ok (.aload_n 3, 1) := by decide +kernel
theorem dX4_earFits_20 : decode cX4_earFits 20 = .ok (.getfield 213, 3) := by decide +kernel
theorem dX4_earFits_23 : decode cX4_earFits 23 = .ok (.arraylength, 1) := by decide +kernel
theorem dX4_earFits_24 : decode cX4_earFits 24 = .ok (.if_icmp .ge 54, 3) := by decide +kernel
theorem dX4_earFits_27 : decode cX4_earFits 27 = .ok (.aload_n 0, 1) := by decide +kernel
theorem dX4_earFits_28 : decode cX4_earFits 28 = .ok (.getfield 16, 3) := by decide +kernel
theorem dX4_earFits_31 : decode cX4_earFits 31 = .ok (.iconst 1, 1) := by decide +kernel
theorem dX4_earFits_32 : decode cX4_earFits 32 = .ok (.invokevirtual 155, 3) := by decide +kernel
theorem dX4_earFits_35 : decode cX4_earFits 35 = .ok (.aload_n 3, 1) := by decide +kernel
theorem dX4_earFits_36 : decode cX4_earFits 36 = .ok (.getfield 213, 3) := by decide +kernel
theorem dX4_earFits_39 : decode cX4_earFits 39 = .ok (.iload 4, 2) := by decide +kernel
theorem dX4_earFits_41 : decode cX4_earFits 41 = .ok (.laload, 1) := by decide +kernel
theorem dX4_earFits_42 : decode cX4_earFits 42 = .ok (.lstore 5, 2) := by decide +kernel
theorem dX4_earFits_44 : decode cX4_earFits 44 = .ok (.lload 5, 2) := by decide +kernel
theorem dX4_earFits_46 : decode cX4_earFits 46 = .ok (.ldc2_w 217, 3) := by decide +kernel
theorem dX4_earFits_49 : decode cX4_earFits 49 = .ok (.lcmp, 1) := by decide +kernel
theorem dX4_earFits_50 : decode cX4_earFits 50 = .ok (.ifCond .eq 22, 3) := by decide +kernel
theorem dX4_earFits_53 : decode cX4_earFits 53 = .ok (.lload 5, 2) := by decide +kernel
theorem dX4_earFits_55 : decode cX4_earFits 55 = .ok (.aload_n 0, 1) := by decide +kernel
theorem dX4_earFits_56 : decode cX4_earFits 56 = .ok (.getfield 16, 3) := by decide +kernel
theorem dX4_earFits_59 : decode cX4_earFits 59 = .ok (.getfield 152, 3) := by decide +kernel
theorem dX4_earFits_62 : decode cX4_earFits 62 = .ok (.invokestatic 159, 3) := by decide +kernel
theorem dX4_earFits_65 : decode cX4_earFits 65 = .ok (.i2l, 1) := by decide +kernel
theorem dX4_earFits_66 : decode cX4_earFits 66 = .ok (.lcmp, 1) := by decide +kernel
theorem dX4_earFits_67 : decode cX4_earFits 67 = .ok (.ifCond .eq 5, 3) := by decide +kernel
theorem dX4_earFits_70 : decode cX4_earFits 70 = .ok (.iconst 0, 1) := by decide +kernel
theorem dX4_earFits_71 : decode cX4_earFits 71 = .ok (.ireturn, 1) := by decide +kernel
theorem dX4_earFits_72 : decode cX4_earFits 72 = .ok (.iinc 4 1, 3) := by decide +kernel
theorem dX4_earFits_75 : decode cX4_earFits 75 = .ok (.goto (-58), 3) := by decide +kernel
theorem dX4_earFits_78 : decode cX4_earFits 78 = .ok (.iconst 1, 1) := by decide +kernel
theorem dX4_earFits_79 : decode cX4_earFits 79 = .ok (.ireturn, 1) := by decide +kernel
set_option maxRecDepth 20000 in
theorem ggX4_odds_X4_within : GoodIn wsX4_odds wsX4_within := goodIn_r _ [8] (by decide +kernel) (by decide +kernel)
set_option maxRecDepth 20000 in
theorem gX4_odds_X4_within : GoodIn wsX4_odds (va_wsS RX4 60 yX4_within wsX4_within) := goodIn_app (goodIn_of _ (by decide +kernel)) ggX4_odds_X4_within
set_option maxRecDepth 20000 in
theorem ggX4_odds_X4_partOf : GoodIn wsX4_odds wsX4_partOf := goodIn_r _ [11, 12, 13, 7, 14] (by decide +kernel) (by decide +kernel)
set_option maxRecDepth 20000 in
theorem gX4_odds_X4_partOf : GoodIn wsX4_odds (va_wsS RX4 221 yX4_partOf wsX4_partOf) := goodIn_app (goodIn_of _ (by decide +kernel)) ggX4_odds_X4_partOf
theorem dX4_odds_0 : decode cX4_odds 0 = .ok (.iload_n 1, 1) := by decide +kernel
theorem dX4_odds_1 : decode cX4_odds 1 = .ok (.iconst 0, 1) := by decide +kernel
theorem dX4_odds_2 : decode cX4_odds 2 = .ok (.bipush 8, 2) := by decide +kernel
theorem dX4_odds_4 : decode cX4_odds 4 = .ok (.invokestatic 60, 3) := by decide +kernel
theorem dX4_odds_7 : decode cX4_odds 7 = .ok (.ifCond .eq 21, 3) := by decide +kernel
theorem dX4_odds_10 : decode cX4_odds 10 = .ok (.iload_n 2, 1) := by decide +kernel
theorem dX4_odds_11 : decode cX4_odds 11 = .ok (.iconst 0, 1) := by decide +kernel
theorem dX4_odds_12 : decode cX4_odds 12 = .ok (.iload_n 1, 1) := by decide +kernel
theorem dX4_odds_13 : decode cX4_odds 13 = .ok (.invokestatic 60, 3) := by decide +kernel
theorem dX4_odds_16 : decode cX4_odds 16 = .ok (.ifCond .eq 12, 3) := by decide +kernel
theorem dX4_odds_19 : decode cX4_odds 19 = .ok (.iload_n 3, 1) := by decide +kernel
theorem dX4_odds_20 : decode cX4_odds 20 = .ok (.iconst 0, 1) := by decide +kernel
theorem dX4_odds_21 : decode cX4_odds 21 = .ok (.iconst 1, 1) := by decide +kernel
theorem dX4_odds_22 : decode cX4_odds 22 = .ok (.invokestatic 60, 3) := by decide +kernel
theorem dX4_odds_25 : decode cX4_odds 25 = .ok (.ifCond .ne 7, 3) := by decide +kernel
theorem dX4_odds_28 : decode cX4_odds 28 = .ok (.ldc2_w 217, 3) := by decide +kernel
theorem dX4_odds_31 : decode cX4_odds 31 = .ok (.lreturn, 1) := by decide +kernel
theorem dX4_odds_32 : decode cX4_odds 32 = .ok (.lconst 1, 1) := by decide +kernel
theorem dX4_odds_33 : decode cX4_odds 33 = .ok (.lstore 4, 2) := by decide +kernel
theorem dX4_odds_35 : decode cX4_odds 35 = .ok (.lconst 1, 1) := by decide +kernel
theorem dX4_odds_36 : decode cX4_odds 36 = .ok (.lstore 6, 2) := by decide +kernel
theorem dX4_odds_38 : decode cX4_odds 38 = .ok (.iconst 1, 1) := by decide +kernel
theorem dX4_odds_39 : decode cX4_odds 39 = .ok (.istore 8, 2) := by decide +kernel
theorem dX4_odds_41 : decode cX4_odds 41 = .ok (.iload 8, 2) := by decide +kernel
theorem dX4_odds_43 : decode cX4_odds 43 = .ok (.iload_n 2, 1) := by decide +kernel
theorem dX4_odds_44 : decode cX4_odds 44 = .ok (.if_icmp .gt 25, 3) := by decide +kernel
theorem dX4_odds_47 : decode cX4_odds 47 = .ok (.lload 4, 2) := by decide +kernel
theorem dX4_odds_49 : decode cX4_odds 49 = .ok (.iload_n 1, 1) := by decide +kernel
theorem dX4_odds_50 : decode cX4_odds 50 = .ok (.iload_n 2, 1) := by decide +kernel
theorem dX4_odds_51 : decode cX4_odds 51 = .ok (.isub, 1) := by decide +kernel
theorem dX4_odds_52 : decode cX4_odds 52 = .ok (.iload 8, 2) := by decide +kernel
theorem dX4_odds_54 : decode cX4_odds 54 = .ok (.iadd, 1) := by decide +kernel
theorem dX4_odds_55 : decode cX4_odds 55 = .ok (.i2l, 1) := by decide +kernel
theorem dX4_odds_56 : decode cX4_odds 56 = .ok (.lmul, 1) := by decide +kernel
theorem dX4_odds_57 : decode cX4_odds 57 = .ok (.iload 8, 2) := by decide +kernel
theorem dX4_odds_59 : decode cX4_odds 59 = .ok (.i2l, 1) := by decide +kernel
theorem dX4_odds_60 : decode cX4_odds 60 = .ok (.ldiv, 1) := by decide +kernel
theorem dX4_odds_61 : decode cX4_odds 61 = .ok (.lstore 4, 2) := by decide +kernel
theorem dX4_odds_63 : decode cX4_odds 63 = .ok (.iinc 8 1, 3) := by decide +kernel
theorem dX4_odds_66 : decode cX4_odds 66 = .ok (.goto (-25), 3) := by decide +kernel
theorem dX4_odds_69 : decode cX4_odds 69 = .ok (.iconst 0, 1) := by decide +kernel
theorem dX4_odds_70 : decode cX4_odds 70 = .ok (.istore 8, 2) := by decide +kernel
theorem dX4_odds_72 : decode cX4_odds 72 = .ok (.iload 8, 2) := by decide +kernel
theorem dX4_odds_74 : decode cX4_odds 74 = .ok (.iload_n 1, 1) := by decide +kernel
theorem dX4_odds_75 : decode cX4_odds 75 = .ok (.if_icmp .ge 53, 3) := by decide +kernel
theorem dX4_odds_78 : decode cX4_odds 78 = .ok (.lload 4, 2) := by decide +kernel
theorem dX4_odds_80 : decode cX4_odds 80 = .ok (.iload 8, 2) := by decide +kernel
theorem dX4_odds_82 : decode cX4_odds 82 = .ok (.iload_n 2, 1) := by decide +kernel
theorem dX4_odds_83 : decode cX4_odds 83 = .ok (.if_icmp .ge 15, 3) := by decide +kernel
theorem dX4_odds_86 : decode cX4_odds 86 = .ok (.aload_n 0, 1) := by decide +kernel
theorem dX4_odds_87 : decode cX4_odds 87 = .ok (.getfield 10, 3) := by decide +kernel
theorem dX4_odds_90 : decode cX4_odds 90 = .ok (.getfield 98, 3) := by decide +kernel
theorem dX4_odds_93 : decode cX4_odds 93 = .ok (.iconst 3, 1) := by decide +kernel
theorem dX4_odds_94 : decode cX4_odds 94 = .ok (.iaload, 1) := by decide +kernel
theorem dX4_odds_95 : decode cX4_odds 95 = .ok (.goto 15, 3) := by decide +kernel
theorem dX4_odds_98 : decode cX4_odds 98 = .ok (.bipush 100, 2) := by decide +kernel
theorem dX4_odds_100 : decode cX4_odds 100 = .ok (.aload_n 0, 1) := by decide +kernel
theorem dX4_odds_101 : decode cX4_odds 101 = .ok (.getfield 10, 3) := by decide +kernel
theorem dX4_odds_104 : decode cX4_odds 104 = .ok (.getfield 98, 3) := by decide +kernel
theorem dX4_odds_107 : decode cX4_odds 107 = .ok (.iconst 3, 1) := by decide +kernel
theorem dX4_odds_108 : decode cX4_odds 108 = .ok (.iaload, 1) := by decide +kernel
theorem dX4_odds_109 : decode cX4_odds 109 = .ok (.isub, 1) := by decide +kernel
theorem dX4_odds_110 : decode cX4_odds 110 = .ok (.i2l, 1) := by decide +kernel
theorem dX4_odds_111 : decode cX4_odds 111 = .ok (.lmul, 1) := by decide +kernel
theorem dX4_odds_112 : decode cX4_odds 112 = .ok (.lstore 4, 2) := by decide +kernel
theorem dX4_odds_114 : decode cX4_odds 114 = .ok (.lload 6, 2) := by decide +kernel
theorem dX4_odds_116 : decode cX4_odds 116 = .ok (.ldc2_w 219, 3) := by decide +kernel
theorem dX4_odds_119 : decode cX4_odds 119 = .ok (.lmul, 1) := by decide +kernel
theorem dX4_odds_120 : decode cX4_odds 120 = .ok (.lstore 6, 2) := by decide +kernel
theorem dX4_odds_122 : decode cX4_odds 122 = .ok (.iinc 8 1, 3) := by decide +kernel
theorem dX4_odds_125 : decode cX4_odds 125 = .ok (.goto (-53), 3) := by decide +kernel
theorem dX4_odds_128 : decode cX4_odds 128 = .ok (.lload 4, 2) := by decide +kernel
theorem dX4_odds_130 : decode cX4_odds 130 = .ok (.lload 6, 2) := by decide +kernel
theorem dX4_odds_132 : decode cX4_odds 132 = .ok (.iload_n 3, 1) := by decide +kernel
theorem dX4_odds_133 : decode cX4_odds 133 = .ok (.invokestatic 221, 3) := by decide +kernel
theorem dX4_odds_136 : decode cX4_odds 136 = .ok (.lreturn, 1) := by decide +kernel
set_option maxRecDepth 20000 in
theorem ggX4_hope_X4_within : GoodIn wsX4_hope wsX4_within := goodIn_r _ [8] (by decide +kernel) (by decide +kernel)
set_option maxRecDepth 20000 in
theorem gX4_hope_X4_within : GoodIn wsX4_hope (va_wsS RX4 60 yX4_within wsX4_within) := goodIn_app (goodIn_of _ (by decide +kernel)) ggX4_hope_X4_within
set_option maxRecDepth 20000 in
theorem ggX4_hope_X4_partOf : GoodIn wsX4_hope wsX4_partOf := goodIn_r _ [11, 12, 13, 7, 14] (by decide +kernel) (by decide +kernel)
set_option maxRecDepth 20000 in
theorem gX4_hope_X4_partOf : GoodIn wsX4_hope (va_wsS RX4 221 yX4_partOf wsX4_partOf) := goodIn_app (goodIn_of _ (by decide +kernel)) ggX4_hope_X4_partOf
theorem dX4_hope_0 : decode cX4_hope 0 = .ok (.iload_n 1, 1) := by decide +kernel
theorem dX4_hope_1 : decode cX4_hope 1 = .ok (.iconst 0, 1) := by decide +kernel
theorem dX4_hope_2 : decode cX4_hope 2 = .ok (.bipush 99, 2) := by decide +kernel
theorem dX4_hope_4 : decode cX4_hope 4 = .ok (.invokestatic 60, 3) := by decide +kernel
theorem dX4_hope_7 : decode cX4_hope 7 = .ok (.ifCond .eq 12, 3) := by decide +kernel
theorem dX4_hope_10 : decode cX4_hope 10 = .ok (.iload_n 2, 1) := by decide +kernel
theorem dX4_hope_11 : decode cX4_hope 11 = .ok (.iconst 0, 1) := by decide +kernel
theorem dX4_hope_12 : decode cX4_hope 12 = .ok (.iconst 1, 1) := by decide +kernel
theorem dX4_hope_13 : decode cX4_hope 13 = .ok (.invokestatic 60, 3) := by decide +kernel
theorem dX4_hope_16 : decode cX4_hope 16 = .ok (.ifCond .ne 7, 3) := by decide +kernel
theorem dX4_hope_19 : decode cX4_hope 19 = .ok (.ldc2_w 217, 3) := by decide +kernel
theorem dX4_hope_22 : decode cX4_hope 22 = .ok (.lreturn, 1) := by decide +kernel
theorem dX4_hope_23 : decode cX4_hope 23 = .ok (.iload_n 1, 1) := by decide +kernel
theorem dX4_hope_24 : decode cX4_hope 24 = .ok (.i2l, 1) := by decide +kernel
theorem dX4_hope_25 : decode cX4_hope 25 = .ok (.aload_n 0, 1) := by decide +kernel
theorem dX4_hope_26 : decode cX4_hope 26 = .ok (.getfield 10, 3) := by decide +kernel
theorem dX4_hope_29 : decode cX4_hope 29 = .ok (.getfield 98, 3) := by decide +kernel
theorem dX4_hope_32 : decode cX4_hope 32 = .ok (.iconst 3, 1) := by decide +kernel
theorem dX4_hope_33 : decode cX4_hope 33 = .ok (.iaload, 1) := by decide +kernel
theorem dX4_hope_34 : decode cX4_hope 34 = .ok (.i2l, 1) := by decide +kernel
theorem dX4_hope_35 : decode cX4_hope 35 = .ok (.lmul, 1) := by decide +kernel
theorem dX4_hope_36 : decode cX4_hope 36 = .ok (.ldc2_w 219, 3) := by decide +kernel
theorem dX4_hope_39 : decode cX4_hope 39 = .ok (.iload_n 2, 1) := by decide +kernel
theorem dX4_hope_40 : decode cX4_hope 40 = .ok (.invokestatic 221, 3) := by decide +kernel
theorem dX4_hope_43 : decode cX4_hope 43 = .ok (.lreturn, 1) := by decide +kernel
set_option maxRecDepth 20000 in
theorem ggX4_partOf_X4_commonDivisor : GoodIn wsX4_partOf wsX4_commonDivisor := goodIn_r _ [4] (by decide +kernel) (by decide +kernel)
set_option maxRecDepth 20000 in
theorem gX4_partOf_X4_commonDivisor : GoodIn wsX4_partOf (va_wsS RX4 225 yX4_commonDivisor wsX4_commonDivisor) := goodIn_app (goodIn_of _ (by decide +kernel)) ggX4_partOf_X4_commonDivisor
theorem dX4_partOf_0 : decode cX4_partOf 0 = .ok (.lload_n 0, 1) := by decide +kernel
theorem dX4_partOf_1 : decode cX4_partOf 1 = .ok (.lload_n 2, 1) := by decide +kernel
theorem dX4_partOf_2 : decode cX4_partOf 2 = .ok (.invokestatic 225, 3) := by decide +kernel
theorem dX4_partOf_5 : decode cX4_partOf 5 = .ok (.lstore 5, 2) := by decide +kernel
theorem dX4_partOf_7 : decode cX4_partOf 7 = .ok (.lload 5, 2) := by decide +kernel
theorem dX4_partOf_9 : decode cX4_partOf 9 = .ok (.lconst 0, 1) := by decide +kernel
theorem dX4_partOf_10 : decode cX4_partOf 10 = .ok (.lcmp, 1) := by decide +kernel
theorem dX4_partOf_11 : decode cX4_partOf 11 = .ok (.ifCond .ne 5, 3) := by decide +kernel
theorem dX4_partOf_14 : decode cX4_partOf 14 = .ok (.lconst 0, 1) := by decide +kernel
theorem dX4_partOf_15 : decode cX4_partOf 15 = .ok (.lreturn, 1) := by decide +kernel
theorem dX4_partOf_16 : decode cX4_partOf 16 = .ok (.iload 4, 2) := by decide +kernel
theorem dX4_partOf_18 : decode cX4_partOf 18 = .ok (.ifCond .ne 10, 3) := by decide +kernel
theorem dX4_partOf_21 : decode cX4_partOf 21 = .ok (.lload_n 0, 1) := by decide +kernel
theorem dX4_partOf_22 : decode cX4_partOf 22 = .ok (.lload 5, 2) := by decide +kernel
theorem dX4_partOf_24 : decode cX4_partOf 24 = .ok (.ldiv, 1) := by decide +kernel
theorem dX4_partOf_25 : decode cX4_partOf 25 = .ok (.goto 7, 3) := by decide +kernel
theorem dX4_partOf_28 : decode cX4_partOf 28 = .ok (.lload_n 2, 1) := by decide +kernel
theorem dX4_partOf_29 : decode cX4_partOf 29 = .ok (.lload 5, 2) := by decide +kernel
theorem dX4_partOf_31 : decode cX4_partOf 31 = .ok (.ldiv, 1) := by decide +kernel
theorem dX4_partOf_32 : decode cX4_partOf 32 = .ok (.lreturn, 1) := by decide +kernel
theorem dX4_commonDivisor_0 : decode cX4_commonDivisor 0 = .ok (.lload_n 0, 1) := by decide +kernel
theorem dX4_commonDivisor_1 : decode cX4_commonDivisor 1 = .ok (.lstore 4, 2) := by decide +kernel
theorem dX4_commonDivisor_3 : decode cX4_commonDivisor 3 = .ok (.lload_n 2, 1) := by decide +kernel
theorem dX4_commonDivisor_4 : decode cX4_commonDivisor 4 = .ok (.lstore 6, 2) := by decide +kernel
theorem dX4_commonDivisor_6 : decode cX4_commonDivisor 6 = .ok (.iconst 0, 1) := by decide +kernel
theorem dX4_commonDivisor_7 : decode cX4_commonDivisor 7 = .ok (.istore 8, 2) := by decide +kernel
theorem dX4_commonDivisor_9 : decode cX4_commonDivisor 9 = .ok (.iload 8, 2) := by decide +kernel
theorem dX4_commonDivisor_11 : decode cX4_commonDivisor 11 = .ok (.bipush 100, 2) := by decide +kernel
theorem dX4_commonDivisor_13 : decode cX4_commonDivisor 13 = .ok (.if_icmp .ge 31, 3) := by decide +kernel
theorem dX4_commonDivisor_16 : decode cX4_commonDivisor 16 = .ok (.lload 6, 2) := by decide +kernel
theorem dX4_commonDivisor_18 : decode cX4_commonDivisor 18 = .ok (.lconst 0, 1) := by decide +kernel
theorem dX4_commonDivisor_19 : decode cX4_commonDivisor 19 = .ok (.lcmp, 1) := by decide +kernel
theorem dX4_commonDivisor_20 : decode cX4_commonDivisor 20 = .ok (.ifCond .eq 24, 3) := by decide +kernel
theorem dX4_commonDivisor_23 : decode cX4_commonDivisor 23 = .ok (.lload 4, 2) := by decide +kernel
theorem dX4_commonDivisor_25 : decode cX4_commonDivisor 25 = .ok (.lload 6, 2) := by decide +kernel
theorem dX4_commonDivisor_27 : decode cX4_commonDivisor 27 = .ok (.lrem, 1) := by decide +kernel
theorem dX4_commonDivisor_28 : decode cX4_commonDivisor 28 = .ok (.lstore 9, 2) := by decide +kernel
theorem dX4_commonDivisor_30 : decode cX4_commonDivisor 30 = .ok (.lload 6, 2) := by decide +kernel
theorem dX4_commonDivisor_32 : decode cX4_commonDivisor 32 = .ok (.lstore 4, 2) := by decide +kernel
theorem dX4_commonDivisor_34 : decode cX4_commonDivisor 34 = .ok (.lload 9, 2) := by decide +kernel
theorem dX4_commonDivisor_36 : decode cX4_commonDivisor 36 = .ok (.lstore 6, 2) := by decide +kernel
theorem dX4_commonDivisor_38 : decode cX4_commonDivisor 38 = .ok (.iinc 8 1, 3) := by decide +kernel
theorem dX4_commonDivisor_41 : decode cX4_commonDivisor 41 = .ok (.goto (-32), 3) := by decide +kernel
theorem dX4_commonDivisor_44 : decode cX4_commonDivisor 44 = .ok (.lload 4, 2) := by decide +kernel
theorem dX4_commonDivisor_46 : decode cX4_commonDivisor 46 = .ok (.lreturn, 1) := by decide +kernel
set_option maxRecDepth 20000 in
theorem ggX4_prove_X0_has : GoodIn wsX4_prove wsX0_has := goodIn_r _ [9, 10, 11, 12, 13, 99, 100, 101, 102, 103, 104, 105, 106, 107, 108, 109] (by decide +kernel) (by decide +kernel)
set_option maxRecDepth 20000 in
theorem gX4_prove_X0_has : GoodIn wsX4_prove (wsV RX4 117 RX0 yX0_has wsX0_has) := goodIn_app (goodIn_of _ (by decide +kernel)) ggX4_prove_X0_has
set_option maxRecDepth 20000 in
theorem ggX4_prove_X4_within : GoodIn wsX4_prove wsX4_within := goodIn_r _ [13] (by decide +kernel) (by decide +kernel)
set_option maxRecDepth 20000 in
theorem gX4_prove_X4_within : GoodIn wsX4_prove (va_wsS RX4 60 yX4_within wsX4_within) := goodIn_app (goodIn_of _ (by decide +kernel)) ggX4_prove_X4_within
set_option maxRecDepth 20000 in
theorem ggX4_prove_X4_tryFromNow : GoodIn wsX4_prove wsX4_tryFromNow := goodIn_r _ [18, 2, 1, 19, 20, 21, 8, 22, 23, 24, 25, 26, 27, 28, 29, 30, 31, 10, 32, 33, 34, 88, 89, 90, 91, 92, 93, 94, 95, 96, 97, 98, 99, 100, 101, 102, 103, 104, 105, 106, 107, 108, 109] (by decide +kernel) (by decide +kernel)
set_option maxRecDepth 20000 in
theorem gX4_prove_X4_tryFromNow : GoodIn wsX4_prove (wsV RX4 167 RX4 yX4_tryFromNow wsX4_tryFromNow) := goodIn_app (goodIn_of _ (by decide +kernel)) ggX4_prove_X4_tryFromNow
set_option maxRecDepth 20000 in
theorem ggX4_prove_X0_pass : GoodIn wsX4_prove wsX0_pass := goodIn_r _ [38, 39, 40, 41, 8, 42, 10, 43, 29, 32, 33, 44, 45, 46, 47, 48, 31, 49, 50, 51, 52, 53, 54, 55, 56, 57, 58, 59, 30, 28, 23, 60, 61, 62, 63, 64, 65, 66, 67, 68, 69, 70, 71, 72, 12, 73, 74, 75, 76, 77, 78, 79, 80, 99, 100, 101, 102, 103, 104, 105, 106, 107, 108, 109] (by decide +kernel) (by decide +kernel)
set_option maxRecDepth 20000 in
theorem gX4_prove_X0_pass : GoodIn wsX4_prove (wsV RX4 155 RX0 yX0_pass wsX0_pass) := goodIn_app (goodIn_of _ (by decide +kernel)) ggX4_prove_X0_pass
set_option maxRecDepth 20000 in
theorem ggX4_prove_X4_rowPartOf : GoodIn wsX4_prove wsX4_rowPartOf := goodIn_r _ [84, 2, 85, 86, 87, 50, 51, 8, 52, 32, 88, 89, 90, 91, 92, 93, 94, 95, 96, 97, 98, 99, 100, 101, 102, 103, 104, 105, 106, 107, 108, 109] (by decide +kernel) (by decide +kernel)
set_option maxRecDepth 20000 in
theorem gX4_prove_X4_rowPartOf : GoodIn wsX4_prove (wsV RX4 229 RX4 yX4_rowPartOf wsX4_rowPartOf) := goodIn_app (goodIn_of _ (by decide +kernel)) ggX4_prove_X4_rowPartOf
theorem dX4_prove_0 : decode cX4_prove 0 = .ok (.aload_n 0, 1) := by decide +kernel
theorem dX4_prove_1 : decode cX4_prove 1 = .ok (.getfield 10, 3) := by decide +kernel
theorem dX4_prove_4 : decode cX4_prove 4 = .ok (.iload_n 1, 1) := by decide +kernel
theorem dX4_prove_5 : decode cX4_prove 5 = .ok (.invokevirtual 117, 3) := by decide +kernel
theorem dX4_prove_8 : decode cX4_prove 8 = .ok (.ifCond .eq 13, 3) := by decide +kernel
theorem dX4_prove_11 : decode cX4_prove 11 = .ok (.iload_n 2, 1) := by decide +kernel
theorem dX4_prove_12 : decode cX4_prove 12 = .ok (.iconst 1, 1) := by decide +kernel
theorem dX4_prove_13 : decode cX4_prove 13 = .ok (.bipush 10, 2) := by decide +kernel
theorem dX4_prove_15 : decode cX4_prove 15 = .ok (.invokestatic 60, 3) := by decide +kernel
theorem dX4_prove_18 : decode cX4_prove 18 = .ok (.ifCond .ne 5, 3) := by decide +kernel
theorem dX4_prove_21 : decode cX4_prove 21 = .ok (.iconst (-1), 1) := by decide +kernel
theorem dX4_prove_22 : decode cX4_prove 22 = .ok (.ireturn, 1) := by decide +kernel
theorem dX4_prove_23 : decode cX4_prove 23 = .ok (.aload_n 0, 1) := by decide +kernel
theorem dX4_prove_24 : decode cX4_prove 24 = .ok (.invokevirtual 167, 3) := by decide +kernel
theorem dX4_prove_27 : decode cX4_prove 27 = .ok (.iconst 0, 1) := by decide +kernel
theorem dX4_prove_28 : decode cX4_prove 28 = .ok (.istore_n 3, 1) := by decide +kernel
theorem dX4_prove_29 : decode cX4_prove 29 = .ok (.iload_n 3, 1) := by decide +kernel
theorem dX4_prove_30 : decode cX4_prove 30 = .ok (.iload_n 2, 1) := by decide +kernel
theorem dX4_prove_31 : decode cX4_prove 31 = .ok (.if_icmp .ge 50, 3) := by decide +kernel
theorem dX4_prove_34 : decode cX4_prove 34 = .ok (.aload_n 0, 1) := by decide +kernel
theorem dX4_prove_35 : decode cX4_prove 35 = .ok (.getfield 16, 3) := by decide +kernel
theorem dX4_prove_38 : decode cX4_prove 38 = .ok (.iconst 1, 1) := by decide +kernel
theorem dX4_prove_39 : decode cX4_prove 39 = .ok (.invokevirtual 155, 3) := by decide +kernel
theorem dX4_prove_42 : decode cX4_prove 42 = .ok (.iconst 0, 1) := by decide +kernel
theorem dX4_prove_43 : decode cX4_prove 43 = .ok (.istore 4, 2) := by decide +kernel
theorem dX4_prove_45 : decode cX4_prove 45 = .ok (.iload 4, 2) := by decide +kernel
theorem dX4_prove_47 : decode cX4_prove 47 = .ok (.iconst 3, 1) := by decide +kernel
theorem dX4_prove_48 : decode cX4_prove 48 = .ok (.if_icmp .ge 27, 3) := by decide +kernel
theorem dX4_prove_51 : decode cX4_prove 51 = .ok (.aload_n 0, 1) := by decide +kernel
theorem dX4_prove_52 : decode cX4_prove 52 = .ok (.getfield 40, 3) := by decide +kernel
theorem dX4_prove_55 : decode cX4_prove 55 = .ok (.iload_n 3, 1) := by decide +kernel
theorem dX4_prove_56 : decode cX4_prove 56 = .ok (.iconst 3, 1) := by decide +kernel
theorem dX4_prove_57 : decode cX4_prove 57 = .ok (.imul, 1) := by decide +kernel
theorem dX4_prove_58 : decode cX4_prove 58 = .ok (.iload 4, 2) := by decide +kernel
theorem dX4_prove_60 : decode cX4_prove 60 = .ok (.iadd, 1) := by decide +kernel
theorem dX4_prove_61 : decode cX4_prove 61 = .ok (.aload_n 0, 1) := by decide +kernel
theorem dX4_prove_62 : decode cX4_prove 62 = .ok (.iload_n 1, 1) := by decide +kernel
theorem dX4_prove_63 : decode cX4_prove 63 = .ok (.iload 4, 2) := by decide +kernel
theorem dX4_prove_65 : decode cX4_prove 65 = .ok (.invokevirtual 229, 3) := by decide +kernel
theorem dX4_prove_68 : decode cX4_prove 68 = .ok (.iastore, 1) := by decide +kernel
theorem dX4_prove_69 : decode cX4_prove 69 = .ok (.iinc 4 1, 3) := by decide +kernel
theorem dX4_prove_72 : decode cX4_prove 72 = .ok (.goto (-27), 3) := by decide +kernel
theorem dX4_prove_75 : decode cX4_prove 75 = .ok (.iinc 3 1, 3) := by decide +kernel
theorem dX4_prove_78 : decode cX4_prove 78 = .ok (.goto (-49), 3) := by decide +kernel
theorem dX4_prove_81 : decode cX4_prove 81 = .ok (.aload_n 0, 1) := by decide +kernel
theorem dX4_prove_82 : decode cX4_prove 82 = .ok (.iload_n 2, 1) := by decide +kernel
theorem dX4_prove_83 : decode cX4_prove 83 = .ok (.putfield 44, 3) := by decide +kernel
theorem dX4_prove_86 : decode cX4_prove 86 = .ok (.iload_n 2, 1) := by decide +kernel
theorem dX4_prove_87 : decode cX4_prove 87 = .ok (.ireturn, 1) := by decide +kernel
set_option maxRecDepth 20000 in
theorem ggX4_row_X4_isRowPart : GoodIn wsX4_row wsX4_isRowPart := goodIn_r _ [6, 7, 8, 9, 5, 10, 11, 12, 13, 14, 15, 16, 17, 18, 19, 20, 21] (by decide +kernel) (by decide +kernel)
set_option maxRecDepth 20000 in
theorem gX4_row_X4_isRowPart : GoodIn wsX4_row (wsV RX4 232 RX4 yX4_isRowPart wsX4_isRowPart) := goodIn_app (goodIn_of _ (by decide +kernel)) ggX4_row_X4_isRowPart
theorem dX4_row_0 : decode cX4_row 0 = .ok (.aload_n 0, 1) := by decide +kernel
theorem dX4_row_1 : decode cX4_row 1 = .ok (.iload_n 1, 1) := by decide +kernel
theorem dX4_row_2 : decode cX4_row 2 = .ok (.iload_n 2, 1) := by decide +kernel
theorem dX4_row_3 : decode cX4_row 3 = .ok (.invokevirtual 232, 3) := by decide +kernel
theorem dX4_row_6 : decode cX4_row 6 = .ok (.ifCond .eq 16, 3) := by decide +kernel
theorem dX4_row_9 : decode cX4_row 9 = .ok (.aload_n 0, 1) := by decide +kernel
theorem dX4_row_10 : decode cX4_row 10 = .ok (.getfield 40, 3) := by decide +kernel
theorem dX4_row_13 : decode cX4_row 13 = .ok (.iload_n 1, 1) := by decide +kernel
theorem dX4_row_14 : decode cX4_row 14 = .ok (.iconst 3, 1) := by decide +kernel
theorem dX4_row_15 : decode cX4_row 15 = .ok (.imul, 1) := by decide +kernel
theorem dX4_row_16 : decode cX4_row 16 = .ok (.iload_n 2, 1) := by decide +kernel
theorem dX4_row_17 : decode cX4_row 17 = .ok (.iadd, 1) := by decide +kernel
theorem dX4_row_18 : decode cX4_row 18 = .ok (.iaload, 1) := by decide +kernel
theorem dX4_row_19 : decode cX4_row 19 = .ok (.goto 5, 3) := by decide +kernel
theorem dX4_row_22 : decode cX4_row 22 = .ok (.bipush (-9), 2) := by decide +kernel
theorem dX4_row_24 : decode cX4_row 24 = .ok (.ireturn, 1) := by decide +kernel
set_option maxRecDepth 20000 in
theorem ggX4_alterRow_X4_isRowPart : GoodIn wsX4_alterRow wsX4_isRowPart := goodIn_r _ [6, 7, 8, 9, 5, 10, 11, 12, 13, 14, 15, 16, 17, 18, 19, 20, 21] (by decide +kernel) (by decide +kernel)
set_option maxRecDepth 20000 in
theorem gX4_alterRow_X4_isRowPart : GoodIn wsX4_alterRow (wsV RX4 232 RX4 yX4_isRowPart wsX4_isRowPart) := goodIn_app (goodIn_of _ (by decide +kernel)) ggX4_alterRow_X4_isRowPart
theorem dX4_alterRow_0 : decode cX4_alterRow 0 = .ok (.aload_n 0, 1) := by decide +kernel
theorem dX4_alterRow_1 : decode cX4_alterRow 1 = .ok (.iload_n 1, 1) := by decide +kernel
theorem dX4_alterRow_2 : decode cX4_alterRow 2 = .ok (.iload_n 2, 1) := by decide +kernel
theorem dX4_alterRow_3 : decode cX4_alterRow 3 = .ok (.invokevirtual 232, 3) := by decide +kernel
theorem dX4_alterRow_6 : decode cX4_alterRow 6 = .ok (.ifCond .ne 6, 3) := by decide +kernel
theorem dX4_alterRow_9 : decode cX4_alterRow 9 = .ok (.bipush (-9), 2) := by decide +kernel
theorem dX4_alterRow_11 : decode cX4_alterRow 11 = .ok (.ireturn, 1) := by decide +kernel
theorem dX4_alterRow_12 : decode cX4_alterRow 12 = .ok (.aload_n 0, 1) := by decide +kernel
theorem dX4_alterRow_13 : decode cX4_alterRow 13 = .ok (.getfield 40, 3) := by decide +kernel
theorem dX4_alterRow_16 : decode cX4_alterRow 16 = .ok (.iload_n 1, 1) := by decide +kernel
theorem dX4_alterRow_17 : decode cX4_alterRow 17 = .ok (.iconst 3, 1) := by decide +kernel
theorem dX4_alterRow_18 : decode cX4_alterRow 18 = .ok (.imul, 1) := by decide +kernel
theorem dX4_alterRow_19 : decode cX4_alterRow 19 = .ok (.iload_n 2, 1) := by decide +kernel
theorem dX4_alterRow_20 : decode cX4_alterRow 20 = .ok (.iadd, 1) := by decide +kernel
theorem dX4_alterRow_21 : decode cX4_alterRow 21 = .ok (.iaload, 1) := by decide +kernel
theorem dX4_alterRow_22 : decode cX4_alterRow 22 = .ok (.istore 4, 2) := by decide +kernel
theorem dX4_alterRow_24 : decode cX4_alterRow 24 = .ok (.aload_n 0, 1) := by decide +kernel
theorem dX4_alterRow_25 : decode cX4_alterRow 25 = .ok (.getfield 40, 3) := by decide +kernel
theorem dX4_alterRow_28 : decode cX4_alterRow 28 = .ok (.iload_n 1, 1) := by decide +kernel
theorem dX4_alterRow_29 : decode cX4_alterRow 29 = .ok (.iconst 3, 1) := by decide +kernel
theorem dX4_alterRow_30 : decode cX4_alterRow 30 = .ok (.imul, 1) := by decide +kernel
theorem dX4_alterRow_31 : decode cX4_alterRow 31 = .ok (.iload_n 2, 1) := by decide +kernel
theorem dX4_alterRow_32 : decode cX4_alterRow 32 = .ok (.iadd, 1) := by decide +kernel
theorem dX4_alterRow_33 : decode cX4_alterRow 33 = .ok (.iload_n 3, 1) := by decide +kernel
theorem dX4_alterRow_34 : decode cX4_alterRow 34 = .ok (.iastore, 1) := by decide +kernel
theorem dX4_alterRow_35 : decode cX4_alterRow 35 = .ok (.iload 4, 2) := by decide +kernel
theorem dX4_alterRow_37 : decode cX4_alterRow 37 = .ok (.ireturn, 1) := by decide +kernel
set_option maxRecDepth 20000 in
theorem ggX4_judge_X0_has : GoodIn wsX4_judge wsX0_has := goodIn_r _ [9, 10, 11, 12, 13, 98, 99, 100, 101, 102, 103, 104, 105, 106, 107, 108] (by decide +kernel) (by decide +kernel)
set_option maxRecDepth 20000 in
theorem gX4_judge_X0_has : GoodIn wsX4_judge (wsV RX4 117 RX0 yX0_has wsX0_has) := goodIn_app (goodIn_of _ (by decide +kernel)) ggX4_judge_X0_has
set_option maxRecDepth 20000 in
theorem ggX4_judge_X4_tryFromNow : GoodIn wsX4_judge wsX4_tryFromNow := goodIn_r _ [17, 3, 1, 18, 19, 20, 8, 21, 22, 23, 24, 25, 26, 27, 28, 29, 30, 10, 31, 32, 33, 87, 88, 89, 90, 91, 92, 93, 94, 95, 96, 97, 98, 99, 100, 101, 102, 103, 104, 105, 106, 107, 108] (by decide +kernel) (by decide +kernel)
set_option maxRecDepth 20000 in
theorem gX4_judge_X4_tryFromNow : GoodIn wsX4_judge (wsV RX4 167 RX4 yX4_tryFromNow wsX4_tryFromNow) := goodIn_app (goodIn_of _ (by decide +kernel)) ggX4_judge_X4_tryFromNow
set_option maxRecDepth 20000 in
theorem ggX4_judge_X0_pass : GoodIn wsX4_judge wsX0_pass := goodIn_r _ [37, 38, 39, 40, 8, 41, 10, 42, 28, 31, 32, 43, 44, 45, 46, 47, 30, 48, 49, 50, 51, 52, 53, 54, 55, 56, 57, 58, 29, 27, 22, 59, 60, 61, 62, 63, 64, 65, 66, 67, 68, 69, 70, 71, 12, 72, 73, 74, 75, 76, 77, 78, 79, 98, 99, 100, 101, 102, 103, 104, 105, 106, 107, 108] (by decide +kernel) (by decide +kernel)
set_option maxRecDepth 20000 in
theorem gX4_judge_X0_pass : GoodIn wsX4_judge (wsV RX4 155 RX0 yX0_pass wsX0_pass) := goodIn_app (goodIn_of _ (by decide +kernel)) ggX4_judge_X0_pass
set_option maxRecDepth 20000 in
theorem ggX4_judge_X4_rowPartOf : GoodIn wsX4_judge wsX4_rowPartOf := goodIn_r _ [83, 3, 84, 85, 86, 49, 50, 8, 51, 31, 87, 88, 89, 90, 91, 92, 93, 94, 95, 96, 97, 98, 99, 100, 101, 102, 103, 104, 105, 106, 107, 108] (by decide +kernel) (by decide +kernel)
set_option maxRecDepth 20000 in
theorem gX4_judge_X4_rowPartOf : GoodIn wsX4_judge (wsV RX4 229 RX4 yX4_rowPartOf wsX4_rowPartOf) := goodIn_app (goodIn_of _ (by decide +kernel)) ggX4_judge_X4_rowPartOf
theorem dX4_judge_0 : decode cX4_judge 0 = .ok (.aload_n 0, 1) := by decide +kernel
theorem dX4_judge_1 : decode cX4_judge 1 = .ok (.getfield 10, 3) := by decide +kernel
theorem dX4_judge_4 : decode cX4_judge 4 = .ok (.iload_n 1, 1) := by decide +kernel
theorem dX4_judge_5 : decode cX4_judge 5 = .ok (.invokevirtual 117, 3) := by decide +kernel
theorem dX4_judge_8 : decode cX4_judge 8 = .ok (.ifCond .ne 5, 3) := by decide +kernel
theorem dX4_judge_11 : decode cX4_judge 11 = .ok (.iconst (-1), 1) := by decide +kernel
theorem dX4_judge_12 : decode cX4_judge 12 = .ok (.ireturn, 1) := by decide +kernel
theorem dX4_judge_13 : decode cX4_judge 13 = .ok (.aload_n 0, 1) := by decide +kernel
theorem dX4_judge_14 : decode cX4_judge 14 = .ok (.invokevirtual 167, 3) := by decide +kernel
theorem dX4_judge_17 : decode cX4_judge 17 = .ok (.iconst 0, 1) := by decide +kernel
theorem dX4_judge_18 : decode cX4_judge 18 = .ok (.istore_n 2, 1) := by decide +kernel
theorem dX4_judge_19 : decode cX4_judge 19 = .ok (.iload_n 2, 1) := by decide +kernel
theorem dX4_judge_20 : decode cX4_judge 20 = .ok (.aload_n 0, 1) := by decide +kernel
theorem dX4_judge_21 : decode cX4_judge 21 = .ok (.getfield 44, 3) := by decide +kernel
theorem dX4_judge_24 : decode cX4_judge 24 = .ok (.if_icmp .ge 53, 3) := by decide +kernel
theorem dX4_judge_27 : decode cX4_judge 27 = .ok (.aload_n 0, 1) := by decide +kernel
theorem dX4_judge_28 : decode cX4_judge 28 = .ok (.getfield 16, 3) := by decide +kernel
theorem dX4_judge_31 : decode cX4_judge 31 = .ok (.iconst 1, 1) := by decide +kernel
theorem dX4_judge_32 : decode cX4_judge 32 = .ok (.invokevirtual 155, 3) := by decide +kernel
theorem dX4_judge_35 : decode cX4_judge 35 = .ok (.iconst 0, 1) := by decide +kernel
theorem dX4_judge_36 : decode cX4_judge 36 = .ok (.istore_n 3, 1) := by decide +kernel
theorem dX4_judge_37 : decode cX4_judge 37 = .ok (.iload_n 3, 1) := by decide +kernel
theorem dX4_judge_38 : decode cX4_judge 38 = .ok (.iconst 3, 1) := by decide +kernel
theorem dX4_judge_39 : decode cX4_judge 39 = .ok (.if_icmp .ge 32, 3) := by decide +kernel
theorem dX4_judge_42 : decode cX4_judge 42 = .ok (.aload_n 0, 1) := by decide +kernel
theorem dX4_judge_43 : decode cX4_judge 43 = .ok (.getfield 40, 3) := by decide +kernel
theorem dX4_judge_46 : decode cX4_judge 46 = .ok (.iload_n 2, 1) := by decide +kernel
theorem dX4_judge_47 : decode cX4_judge 47 = .ok (.iconst 3, 1) := by decide +kernel
theorem dX4_judge_48 : decode cX4_judge 48 = .ok (.imul, 1) := by decide +kernel
theorem dX4_judge_49 : decode cX4_judge 49 = .ok (.iload_n 3, 1) := by decide +kernel
theorem dX4_judge_50 : decode cX4_judge 50 = .ok (.iadd, 1) := by decide +kernel
theorem dX4_judge_51 : decode cX4_judge 51 = .ok (.iaload, 1) := by decide +kernel
theorem dX4_judge_52 : decode cX4_judge 52 = .ok (.aload_n 0, 1) := by decide +kernel
theorem dX4_judge_53 : decode cX4_judge 53 = .ok (.iload_n 1, 1) := by decide +kernel
theorem dX4_judge_54 : decode cX4_judge 54 = .ok (.iload_n 3, 1) := by decide +kernel
theorem dX4_judge_55 : decode cX4_judge 55 = .ok (.invokevirtual 229, 3) := by decide +kernel
theorem dX4_judge_58 : decode cX4_judge 58 = .ok (.if_icmp .eq 7, 3) := by decide +kernel
theorem dX4_judge_61 : decode cX4_judge 61 = .ok (.iload_n 2, 1) := by decide +kernel
theorem dX4_judge_62 : decode cX4_judge 62 = .ok (.iconst 1, 1) := by decide +kernel
theorem dX4_judge_63 : decode cX4_judge 63 = .ok (.iadd, 1) := by decide +kernel
theorem dX4_judge_64 : decode cX4_judge 64 = .ok (.ireturn, 1) := by decide +kernel
theorem dX4_judge_65 : decode cX4_judge 65 = .ok (.iinc 3 1, 3) := by decide +kernel
theorem dX4_judge_68 : decode cX4_judge 68 = .ok (.goto (-31), 3) := by decide +kernel
theorem dX4_judge_71 : decode cX4_judge 71 = .ok (.iinc 2 1, 3) := by decide +kernel
theorem dX4_judge_74 : decode cX4_judge 74 = .ok (.goto (-55), 3) := by decide +kernel
theorem dX4_judge_77 : decode cX4_judge 77 = .ok (.iconst 0, 1) := by decide +kernel
theorem dX4_judge_78 : decode cX4_judge 78 = .ok (.ireturn, 1) := by decide +kernel
set_option maxRecDepth 20000 in
theorem ggX4_rowPartOf_X0_doesClap : GoodIn wsX4_rowPartOf wsX0_doesClap := goodIn_r _ [8, 9, 21, 22, 23, 24, 25, 26, 27, 28, 29, 30, 31] (by decide +kernel) (by decide +kernel)
set_option maxRecDepth 20000 in
theorem gX4_rowPartOf_X0_doesClap : GoodIn wsX4_rowPartOf (wsV RX4 132 RX0 yX0_doesClap wsX0_doesClap) := goodIn_app (goodIn_of _ (by decide +kernel)) ggX4_rowPartOf_X0_doesClap
theorem dX4_rowPartOf_0 : decode cX4_rowPartOf 0 = .ok (.iload_n 2, 1) := by decide +kernel
theorem dX4_rowPartOf_1 : decode cX4_rowPartOf 1 = .ok (.lookupswitch 54 #[(0, 27), (1, 37)], 27) := by decide +kernel
theorem dX4_rowPartOf_28 : decode cX4_rowPartOf 28 = .ok (.aload_n 0, 1) := by decide +kernel
theorem dX4_rowPartOf_29 : decode cX4_rowPartOf 29 = .ok (.getfield 16, 3) := by decide +kernel
theorem dX4_rowPartOf_32 : decode cX4_rowPartOf 32 = .ok (.getfield 123, 3) := by decide +kernel
theorem dX4_rowPartOf_35 : decode cX4_rowPartOf 35 = .ok (.iload_n 1, 1) := by decide +kernel
theorem dX4_rowPartOf_36 : decode cX4_rowPartOf 36 = .ok (.iaload, 1) := by decide +kernel
theorem dX4_rowPartOf_37 : decode cX4_rowPartOf 37 = .ok (.ireturn, 1) := by decide +kernel
theorem dX4_rowPartOf_38 : decode cX4_rowPartOf 38 = .ok (.aload_n 0, 1) := by decide +kernel
theorem dX4_rowPartOf_39 : decode cX4_rowPartOf 39 = .ok (.getfield 16, 3) := by decide +kernel
theorem dX4_rowPartOf_42 : decode cX4_rowPartOf 42 = .ok (.iload_n 1, 1) := by decide +kernel
theorem dX4_rowPartOf_43 : decode cX4_rowPartOf 43 = .ok (.invokevirtual 132, 3) := by decide +kernel
theorem dX4_rowPartOf_46 : decode cX4_rowPartOf 46 = .ok (.ifCond .eq 7, 3) := by decide +kernel
theorem dX4_rowPartOf_49 : decode cX4_rowPartOf 49 = .ok (.iconst 1, 1) := by decide +kernel
theorem dX4_rowPartOf_50 : decode cX4_rowPartOf 50 = .ok (.goto 4, 3) := by decide +kernel
theorem dX4_rowPartOf_53 : decode cX4_rowPartOf 53 = .ok (.iconst 0, 1) := by decide +kernel
theorem dX4_rowPartOf_54 : decode cX4_rowPartOf 54 = .ok (.ireturn, 1) := by decide +kernel
theorem dX4_rowPartOf_55 : decode cX4_rowPartOf 55 = .ok (.aload_n 0, 1) := by decide +kernel
theorem dX4_rowPartOf_56 : decode cX4_rowPartOf 56 = .ok (.getfield 16, 3) := by decide +kernel
theorem dX4_rowPartOf_59 : decode cX4_rowPartOf 59 = .ok (.getfield 152, 3) := by decide +kernel
theorem dX4_rowPartOf_62 : decode cX4_rowPartOf 62 = .ok (.ireturn, 1) := by decide +kernel
set_option maxRecDepth 20000 in
theorem ggX4_isRowPart_X4_within : GoodIn wsX4_isRowPart wsX4_within := goodIn_r _ [5] (by decide +kernel) (by decide +kernel)
set_option maxRecDepth 20000 in
theorem gX4_isRowPart_X4_within : GoodIn wsX4_isRowPart (va_wsS RX4 60 yX4_within wsX4_within) := goodIn_app (goodIn_of _ (by decide +kernel)) ggX4_isRowPart_X4_within
theorem dX4_isRowPart_0 : decode cX4_isRowPart 0 = .ok (.iload_n 1, 1) := by decide +kernel
theorem dX4_isRowPart_1 : decode cX4_isRowPart 1 = .ok (.iconst 0, 1) := by decide +kernel
theorem dX4_isRowPart_2 : decode cX4_isRowPart 2 = .ok (.aload_n 0, 1) := by decide +kernel
theorem dX4_isRowPart_3 : decode cX4_isRowPart 3 = .ok (.getfield 44, 3) := by decide +kernel
theorem dX4_isRowPart_6 : decode cX4_isRowPart 6 = .ok (.iconst 1, 1) := by decide +kernel
theorem dX4_isRowPart_7 : decode cX4_isRowPart 7 = .ok (.isub, 1) := by decide +kernel
theorem dX4_isRowPart_8 : decode cX4_isRowPart 8 = .ok (.invokestatic 60, 3) := by decide +kernel
theorem dX4_isRowPart_11 : decode cX4_isRowPart 11 = .ok (.ifCond .eq 16, 3) := by decide +kernel
theorem dX4_isRowPart_14 : decode cX4_isRowPart 14 = .ok (.iload_n 2, 1) := by decide +kernel
theorem dX4_isRowPart_15 : decode cX4_isRowPart 15 = .ok (.iconst 0, 1) := by decide +kernel
theorem dX4_isRowPart_16 : decode cX4_isRowPart 16 = .ok (.iconst 2, 1) := by decide +kernel
theorem dX4_isRowPart_17 : decode cX4_isRowPart 17 = .ok (.invokestatic 60, 3) := by decide +kernel
theorem dX4_isRowPart_20 : decode cX4_isRowPart 20 = .ok (.ifCond .eq 7, 3) := by decide +kernel
theorem dX4_isRowPart_23 : decode cX4_isRowPart 23 = .ok (.iconst 1, 1) := by decide +kernel
theorem dX4_isRowPart_24 : decode cX4_isRowPart 24 = .ok (.goto 4, 3) := by decide +kernel
theorem dX4_isRowPart_27 : decode cX4_isRowPart 27 = .ok (.iconst 0, 1) := by decide +kernel
theorem dX4_isRowPart_28 : decode cX4_isRowPart 28 = .ok (.ireturn, 1) := by decide +kernel
set_option maxRecDepth 20000 in
theorem ggX4_minds_X4_isPlace : GoodIn wsX4_minds wsX4_isPlace := goodIn_r _ [10, 11, 12, 9, 13] (by decide +kernel) (by decide +kernel)
set_option maxRecDepth 20000 in
theorem gX4_minds_X4_isPlace : GoodIn wsX4_minds (va_wsS RX4 199 yX4_isPlace wsX4_isPlace) := goodIn_app (goodIn_of _ (by decide +kernel)) ggX4_minds_X4_isPlace
set_option maxRecDepth 20000 in
theorem ggX4_minds_X0_has : GoodIn wsX4_minds wsX0_has := goodIn_r _ [18, 19, 12, 9, 13, 41, 42, 43, 44, 45, 46, 47, 48, 49, 50, 51] (by decide +kernel) (by decide +kernel)
set_option maxRecDepth 20000 in
theorem gX4_minds_X0_has : GoodIn wsX4_minds (wsV RX4 117 RX0 yX0_has wsX0_has) := goodIn_app (goodIn_of _ (by decide +kernel)) ggX4_minds_X0_has
set_option maxRecDepth 20000 in
theorem ggX4_minds_X4_within : GoodIn wsX4_minds wsX4_within := goodIn_r _ [13] (by decide +kernel) (by decide +kernel)
set_option maxRecDepth 20000 in
theorem gX4_minds_X4_within : GoodIn wsX4_minds (va_wsS RX4 60 yX4_within wsX4_within) := goodIn_app (goodIn_of _ (by decide +kernel)) ggX4_minds_X4_within
set_option maxRecDepth 20000 in
theorem ggX4_minds_X4_heldPride : GoodIn wsX4_minds wsX4_heldPride := goodIn_r _ [22, 23, 24, 25, 26, 27, 28, 29] (by decide +kernel) (by decide +kernel)
set_option maxRecDepth 20000 in
theorem gX4_minds_X4_heldPride : GoodIn wsX4_minds (va_wsS RX4 238 yX4_heldPride wsX4_heldPride) := goodIn_app (goodIn_of _ (by decide +kernel)) ggX4_minds_X4_heldPride
theorem dX4_minds_0 : decode cX4_minds 0 = .ok (.iload_n 1, 1) := by decide +kernel
theorem dX4_minds_1 : decode cX4_minds 1 = .ok (.invokestatic 199, 3) := by decide +kernel
theorem dX4_minds_4 : decode cX4_minds 4 = .ok (.ifCond .eq 39, 3) := by decide +kernel
theorem dX4_minds_7 : decode cX4_minds 7 = .ok (.aload_n 0, 1) := by decide +kernel
theorem dX4_minds_8 : decode cX4_minds 8 = .ok (.getfield 10, 3) := by decide +kernel
theorem dX4_minds_11 : decode cX4_minds 11 = .ok (.iload_n 3, 1) := by decide +kernel
theorem dX4_minds_12 : decode cX4_minds 12 = .ok (.invokevirtual 117, 3) := by decide +kernel
theorem dX4_minds_15 : decode cX4_minds 15 = .ok (.ifCond .eq 28, 3) := by decide +kernel
theorem dX4_minds_18 : decode cX4_minds 18 = .ok (.iload 4, 2) := by decide +kernel
theorem dX4_minds_20 : decode cX4_minds 20 = .ok (.iconst 0, 1) := by decide +kernel
theorem dX4_minds_21 : decode cX4_minds 21 = .ok (.bipush 8, 2) := by decide +kernel
theorem dX4_minds_23 : decode cX4_minds 23 = .ok (.invokestatic 60, 3) := by decide +kernel
theorem dX4_minds_26 : decode cX4_minds 26 = .ok (.ifCond .eq 17, 3) := by decide +kernel
theorem dX4_minds_29 : decode cX4_minds 29 = .ok (.iload_n 3, 1) := by decide +kernel
theorem dX4_minds_30 : decode cX4_minds 30 = .ok (.iload 4, 2) := by decide +kernel
theorem dX4_minds_32 : decode cX4_minds 32 = .ok (.iadd, 1) := by decide +kernel
theorem dX4_minds_33 : decode cX4_minds 33 = .ok (.aload_n 0, 1) := by decide +kernel
theorem dX4_minds_34 : decode cX4_minds 34 = .ok (.getfield 10, 3) := by decide +kernel
theorem dX4_minds_37 : decode cX4_minds 37 = .ok (.getfield 85, 3) := by decide +kernel
theorem dX4_minds_40 : decode cX4_minds 40 = .ok (.if_icmp .le 5, 3) := by decide +kernel
theorem dX4_minds_43 : decode cX4_minds 43 = .ok (.iconst (-1), 1) := by decide +kernel
theorem dX4_minds_44 : decode cX4_minds 44 = .ok (.ireturn, 1) := by decide +kernel
theorem dX4_minds_45 : decode cX4_minds 45 = .ok (.aload_n 0, 1) := by decide +kernel
theorem dX4_minds_46 : decode cX4_minds 46 = .ok (.getfield 50, 3) := by decide +kernel
theorem dX4_minds_49 : decode cX4_minds 49 = .ok (.iload_n 1, 1) := by decide +kernel
theorem dX4_minds_50 : decode cX4_minds 50 = .ok (.aaload, 1) := by decide +kernel
theorem dX4_minds_51 : decode cX4_minds 51 = .ok (.astore 5, 2) := by decide +kernel
theorem dX4_minds_53 : decode cX4_minds 53 = .ok (.aload 5, 2) := by decide +kernel
theorem dX4_minds_55 : decode cX4_minds 55 = .ok (.ifnonnull 6, 3) := by decide +kernel
theorem dX4_minds_58 : decode cX4_minds 58 = .ok (.bipush (-11), 2) := by decide +kernel
theorem dX4_minds_60 : decode cX4_minds 60 = .ok (.ireturn, 1) := by decide +kernel
theorem dX4_minds_61 : decode cX4_minds 61 = .ok (.aload 5, 2) := by decide +kernel
theorem dX4_minds_63 : decode cX4_minds 63 = .ok (.getfield 235, 3) := by decide +kernel
theorem dX4_minds_66 : decode cX4_minds 66 = .ok (.ifCond .eq 6, 3) := by decide +kernel
theorem dX4_minds_69 : decode cX4_minds 69 = .ok (.bipush (-13), 2) := by decide +kernel
theorem dX4_minds_71 : decode cX4_minds 71 = .ok (.ireturn, 1) := by decide +kernel
theorem dX4_minds_72 : decode cX4_minds 72 = .ok (.aload 5, 2) := by decide +kernel
theorem dX4_minds_74 : decode cX4_minds 74 = .ok (.getfield 213, 3) := by decide +kernel
theorem dX4_minds_77 : decode cX4_minds 77 = .ok (.arraylength, 1) := by decide +kernel
theorem dX4_minds_78 : decode cX4_minds 78 = .ok (.istore 6, 2) := by decide +kernel
theorem dX4_minds_80 : decode cX4_minds 80 = .ok (.iload_n 2, 1) := by decide +kernel
theorem dX4_minds_81 : decode cX4_minds 81 = .ok (.iconst 0, 1) := by decide +kernel
theorem dX4_minds_82 : decode cX4_minds 82 = .ok (.iload 6, 2) := by decide +kernel
theorem dX4_minds_84 : decode cX4_minds 84 = .ok (.invokestatic 60, 3) := by decide +kernel
theorem dX4_minds_87 : decode cX4_minds 87 = .ok (.ifCond .eq 12, 3) := by decide +kernel
theorem dX4_minds_90 : decode cX4_minds 90 = .ok (.iload 4, 2) := by decide +kernel
theorem dX4_minds_92 : decode cX4_minds 92 = .ok (.iload 6, 2) := by decide +kernel
theorem dX4_minds_94 : decode cX4_minds 94 = .ok (.iload_n 2, 1) := by decide +kernel
theorem dX4_minds_95 : decode cX4_minds 95 = .ok (.isub, 1) := by decide +kernel
theorem dX4_minds_96 : decode cX4_minds 96 = .ok (.if_icmp .le 6, 3) := by decide +kernel
theorem dX4_minds_99 : decode cX4_minds 99 = .ok (.bipush (-12), 2) := by decide +kernel
theorem dX4_minds_101 : decode cX4_minds 101 = .ok (.ireturn, 1) := by decide +kernel
theorem dX4_minds_102 : decode cX4_minds 102 = .ok (.iconst 0, 1) := by decide +kernel
theorem dX4_minds_103 : decode cX4_minds 103 = .ok (.istore 7, 2) := by decide +kernel
theorem dX4_minds_105 : decode cX4_minds 105 = .ok (.iload 7, 2) := by decide +kernel
theorem dX4_minds_107 : decode cX4_minds 107 = .ok (.iload 4, 2) := by decide +kernel
theorem dX4_minds_109 : decode cX4_minds 109 = .ok (.if_icmp .ge 35, 3) := by decide +kernel
theorem dX4_minds_112 : decode cX4_minds 112 = .ok (.aload_n 0, 1) := by decide +kernel
theorem dX4_minds_113 : decode cX4_minds 113 = .ok (.getfield 10, 3) := by decide +kernel
theorem dX4_minds_116 : decode cX4_minds 116 = .ok (.getfield 123, 3) := by decide +kernel
theorem dX4_minds_119 : decode cX4_minds 119 = .ok (.iload_n 3, 1) := by decide +kernel
theorem dX4_minds_120 : decode cX4_minds 120 = .ok (.iload 7, 2) := by decide +kernel
theorem dX4_minds_122 : decode cX4_minds 122 = .ok (.iadd, 1) := by decide +kernel
theorem dX4_minds_123 : decode cX4_minds 123 = .ok (.aload 5, 2) := by decide +kernel
theorem dX4_minds_125 : decode cX4_minds 125 = .ok (.getfield 213, 3) := by decide +kernel
theorem dX4_minds_128 : decode cX4_minds 128 = .ok (.iload_n 2, 1) := by decide +kernel
theorem dX4_minds_129 : decode cX4_minds 129 = .ok (.iload 7, 2) := by decide +kernel
theorem dX4_minds_131 : decode cX4_minds 131 = .ok (.iadd, 1) := by decide +kernel
theorem dX4_minds_132 : decode cX4_minds 132 = .ok (.laload, 1) := by decide +kernel
theorem dX4_minds_133 : decode cX4_minds 133 = .ok (.l2i, 1) := by decide +kernel
theorem dX4_minds_134 : decode cX4_minds 134 = .ok (.invokestatic 238, 3) := by decide +kernel
theorem dX4_minds_137 : decode cX4_minds 137 = .ok (.iastore, 1) := by decide +kernel
theorem dX4_minds_138 : decode cX4_minds 138 = .ok (.iinc 7 1, 3) := by decide +kernel
theorem dX4_minds_141 : decode cX4_minds 141 = .ok (.goto (-36), 3) := by decide +kernel
theorem dX4_minds_144 : decode cX4_minds 144 = .ok (.iload 4, 2) := by decide +kernel
theorem dX4_minds_146 : decode cX4_minds 146 = .ok (.ireturn, 1) := by decide +kernel
set_option maxRecDepth 20000 in
theorem ggX4_sheet_X4_isPlace : GoodIn wsX4_sheet wsX4_isPlace := goodIn_r _ [9, 10, 11, 8, 12] (by decide +kernel) (by decide +kernel)
set_option maxRecDepth 20000 in
theorem gX4_sheet_X4_isPlace : GoodIn wsX4_sheet (va_wsS RX4 199 yX4_isPlace wsX4_isPlace) := goodIn_app (goodIn_of _ (by decide +kernel)) ggX4_sheet_X4_isPlace
set_option maxRecDepth 20000 in
theorem ggX4_sheet_X4_within : GoodIn wsX4_sheet wsX4_within := goodIn_r _ [12] (by decide +kernel) (by decide +kernel)
set_option maxRecDepth 20000 in
theorem gX4_sheet_X4_within : GoodIn wsX4_sheet (va_wsS RX4 60 yX4_within wsX4_within) := goodIn_app (goodIn_of _ (by decide +kernel)) ggX4_sheet_X4_within
set_option maxRecDepth 20000 in
theorem ggX4_sheet_X1_init : GoodIn wsX4_sheet wsX1_init := goodIn_r _ [15, 16, 17, 18, 19, 20, 32, 33] (by decide +kernel) (by decide +kernel)
set_option maxRecDepth 20000 in
theorem gX4_sheet_X1_init : GoodIn wsX4_sheet (wsX1_init) := ggX4_sheet_X1_init
theorem dX4_sheet_0 : decode cX4_sheet 0 = .ok (.iload_n 1, 1) := by decide +kernel
theorem dX4_sheet_1 : decode cX4_sheet 1 = .ok (.invokestatic 199, 3) := by decide +kernel
theorem dX4_sheet_4 : decode cX4_sheet 4 = .ok (.ifCond .eq 12, 3) := by decide +kernel
theorem dX4_sheet_7 : decode cX4_sheet 7 = .ok (.iload_n 2, 1) := by decide +kernel
theorem dX4_sheet_8 : decode cX4_sheet 8 = .ok (.iconst (-1), 1) := by decide +kernel
theorem dX4_sheet_9 : decode cX4_sheet 9 = .ok (.iconst 3, 1) := by decide +kernel
theorem dX4_sheet_10 : decode cX4_sheet 10 = .ok (.invokestatic 60, 3) := by decide +kernel
theorem dX4_sheet_13 : decode cX4_sheet 13 = .ok (.ifCond .ne 5, 3) := by decide +kernel
theorem dX4_sheet_16 : decode cX4_sheet 16 = .ok (.iconst (-1), 1) := by decide +kernel
theorem dX4_sheet_17 : decode cX4_sheet 17 = .ok (.ireturn, 1) := by decide +kernel
theorem dX4_sheet_18 : decode cX4_sheet 18 = .ok (.iload_n 2, 1) := by decide +kernel
theorem dX4_sheet_19 : decode cX4_sheet 19 = .ok (.iconst (-1), 1) := by decide +kernel
theorem dX4_sheet_20 : decode cX4_sheet 20 = .ok (.if_icmp .ne 12, 3) := by decide +kernel
theorem dX4_sheet_23 : decode cX4_sheet 23 = .ok (.aload_n 0, 1) := by decide +kernel
theorem dX4_sheet_24 : decode cX4_sheet 24 = .ok (.getfield 50, 3) := by decide +kernel
theorem dX4_sheet_27 : decode cX4_sheet 27 = .ok (.iload_n 1, 1) := by decide +kernel
theorem dX4_sheet_28 : decode cX4_sheet 28 = .ok (.aconst_null, 1) := by decide +kernel
theorem dX4_sheet_29 : decode cX4_sheet 29 = .ok (.aastore, 1) := by decide +kernel
theorem dX4_sheet_30 : decode cX4_sheet 30 = .ok (.iconst 1, 1) := by decide +kernel
theorem dX4_sheet_31 : decode cX4_sheet 31 = .ok (.ireturn, 1) := by decide +kernel
theorem dX4_sheet_32 : decode cX4_sheet 32 = .ok (.iload_n 3, 1) := by decide +kernel
theorem dX4_sheet_33 : decode cX4_sheet 33 = .ok (.bipush 40, 2) := by decide +kernel
theorem dX4_sheet_35 : decode cX4_sheet 35 = .ok (.if_icmp .le 5, 3) := by decide +kernel
theorem dX4_sheet_38 : decode cX4_sheet 38 = .ok (.iconst (-1), 1) := by decide +kernel
theorem dX4_sheet_39 : decode cX4_sheet 39 = .ok (.ireturn, 1) := by decide +kernel
theorem dX4_sheet_40 : decode cX4_sheet 40 = .ok (.iload_n 3, 1) := by decide +kernel
theorem dX4_sheet_41 : decode cX4_sheet 41 = .ok (.ifCond .ge 6, 3) := by decide +kernel
theorem dX4_sheet_44 : decode cX4_sheet 44 = .ok (.bipush (-14), 2) := by decide +kernel
theorem dX4_sheet_46 : decode cX4_sheet 46 = .ok (.ireturn, 1) := by decide +kernel
theorem dX4_sheet_47 : decode cX4_sheet 47 = .ok (.aload_n 0, 1) := by decide +kernel
theorem dX4_sheet_48 : decode cX4_sheet 48 = .ok (.getfield 50, 3) := by decide +kernel
theorem dX4_sheet_51 : decode cX4_sheet 51 = .ok (.iload_n 1, 1) := by decide +kernel
theorem dX4_sheet_52 : decode cX4_sheet 52 = .ok (.new 48, 3) := by decide +kernel
theorem dX4_sheet_55 : decode cX4_sheet 55 = .ok (.dup, 1) := by decide +kernel
theorem dX4_sheet_56 : decode cX4_sheet 56 = .ok (.iload_n 2, 1) := by decide +kernel
theorem dX4_sheet_57 : decode cX4_sheet 57 = .ok (.iload_n 3, 1) := by decide +kernel
theorem dX4_sheet_58 : decode cX4_sheet 58 = .ok (.newarray .long, 2) := by decide +kernel
theorem dX4_sheet_60 : decode cX4_sheet 60 = .ok (.invokespecial 241, 3) := by decide +kernel
theorem dX4_sheet_63 : decode cX4_sheet 63 = .ok (.aastore, 1) := by decide +kernel
theorem dX4_sheet_64 : decode cX4_sheet 64 = .ok (.iconst 1, 1) := by decide +kernel
theorem dX4_sheet_65 : decode cX4_sheet 65 = .ok (.ireturn, 1) := by decide +kernel
set_option maxRecDepth 20000 in
theorem ggX4_put_X4_isPlace : GoodIn wsX4_put wsX4_isPlace := goodIn_r _ [6, 7, 8, 5, 9] (by decide +kernel) (by decide +kernel)
set_option maxRecDepth 20000 in
theorem gX4_put_X4_isPlace : GoodIn wsX4_put (va_wsS RX4 199 yX4_isPlace wsX4_isPlace) := goodIn_app (goodIn_of _ (by decide +kernel)) ggX4_put_X4_isPlace
set_option maxRecDepth 20000 in
theorem ggX4_put_X4_within : GoodIn wsX4_put wsX4_within := goodIn_r _ [9] (by decide +kernel) (by decide +kernel)
set_option maxRecDepth 20000 in
theorem gX4_put_X4_within : GoodIn wsX4_put (va_wsS RX4 60 yX4_within wsX4_within) := goodIn_app (goodIn_of _ (by decide +kernel)) ggX4_put_X4_within
set_option maxRecDepth 20000 in
theorem ggX4_put_X1_narrowed : GoodIn wsX4_put wsX1_narrowed := goodIn_r _ [14, 15, 27, 28] (by decide +kernel) (by decide +kernel)
set_option maxRecDepth 20000 in
theorem gX4_put_X1_narrowed : GoodIn wsX4_put (wsV RX4 244 RX1 yX1_narrowed wsX1_narrowed) := goodIn_app (goodIn_of _ (by decide +kernel)) ggX4_put_X1_narrowed
theorem dX4_put_0 : decode cX4_put 0 = .ok (.iload_n 1, 1) := by decide +kernel
theorem dX4_put_1 : decode cX4_put 1 = .ok (.invokestatic 199, 3) := by decide +kernel
theorem dX4_put_4 : decode cX4_put 4 = .ok (.ifCond .ne 5, 3) := by decide +kernel
theorem dX4_put_7 : decode cX4_put 7 = .ok (.iconst (-1), 1) := by decide +kernel
theorem dX4_put_8 : decode cX4_put 8 = .ok (.ireturn, 1) := by decide +kernel
theorem dX4_put_9 : decode cX4_put 9 = .ok (.aload_n 0, 1) := by decide +kernel
theorem dX4_put_10 : decode cX4_put 10 = .ok (.getfield 50, 3) := by decide +kernel
theorem dX4_put_13 : decode cX4_put 13 = .ok (.iload_n 1, 1) := by decide +kernel
theorem dX4_put_14 : decode cX4_put 14 = .ok (.aaload, 1) := by decide +kernel
theorem dX4_put_15 : decode cX4_put 15 = .ok (.astore 4, 2) := by decide +kernel
theorem dX4_put_17 : decode cX4_put 17 = .ok (.aload 4, 2) := by decide +kernel
theorem dX4_put_19 : decode cX4_put 19 = .ok (.ifnonnull 6, 3) := by decide +kernel
theorem dX4_put_22 : decode cX4_put 22 = .ok (.bipush (-11), 2) := by decide +kernel
theorem dX4_put_24 : decode cX4_put 24 = .ok (.ireturn, 1) := by decide +kernel
theorem dX4_put_25 : decode cX4_put 25 = .ok (.iload_n 2, 1) := by decide +kernel
theorem dX4_put_26 : decode cX4_put 26 = .ok (.iconst 0, 1) := by decide +kernel
theorem dX4_put_27 : decode cX4_put 27 = .ok (.aload 4, 2) := by decide +kernel
theorem dX4_put_29 : decode cX4_put 29 = .ok (.getfield 213, 3) := by decide +kernel
theorem dX4_put_32 : decode cX4_put 32 = .ok (.arraylength, 1) := by decide +kernel
theorem dX4_put_33 : decode cX4_put 33 = .ok (.iconst 1, 1) := by decide +kernel
theorem dX4_put_34 : decode cX4_put 34 = .ok (.isub, 1) := by decide +kernel
theorem dX4_put_35 : decode cX4_put 35 = .ok (.invokestatic 60, 3) := by decide +kernel
theorem dX4_put_38 : decode cX4_put 38 = .ok (.ifCond .ne 6, 3) := by decide +kernel
theorem dX4_put_41 : decode cX4_put 41 = .ok (.bipush (-12), 2) := by decide +kernel
theorem dX4_put_43 : decode cX4_put 43 = .ok (.ireturn, 1) := by decide +kernel
theorem dX4_put_44 : decode cX4_put 44 = .ok (.aload 4, 2) := by decide +kernel
theorem dX4_put_46 : decode cX4_put 46 = .ok (.getfield 213, 3) := by decide +kernel
theorem dX4_put_49 : decode cX4_put 49 = .ok (.iload_n 2, 1) := by decide +kernel
theorem dX4_put_50 : decode cX4_put 50 = .ok (.aload 4, 2) := by decide +kernel
theorem dX4_put_52 : decode cX4_put 52 = .ok (.iload_n 3, 1) := by decide +kernel
theorem dX4_put_53 : decode cX4_put 53 = .ok (.invokevirtual 244, 3) := by decide +kernel
theorem dX4_put_56 : decode cX4_put 56 = .ok (.lastore, 1) := by decide +kernel
theorem dX4_put_57 : decode cX4_put 57 = .ok (.iconst 1, 1) := by decide +kernel
theorem dX4_put_58 : decode cX4_put 58 = .ok (.ireturn, 1) := by decide +kernel
set_option maxRecDepth 20000 in
theorem ggX4_item_X4_isPlace : GoodIn wsX4_item wsX4_isPlace := goodIn_r _ [7, 8, 9, 6, 10] (by decide +kernel) (by decide +kernel)
set_option maxRecDepth 20000 in
theorem gX4_item_X4_isPlace : GoodIn wsX4_item (va_wsS RX4 199 yX4_isPlace wsX4_isPlace) := goodIn_app (goodIn_of _ (by decide +kernel)) ggX4_item_X4_isPlace
set_option maxRecDepth 20000 in
theorem ggX4_item_X4_within : GoodIn wsX4_item wsX4_within := goodIn_r _ [10] (by decide +kernel) (by decide +kernel)
set_option maxRecDepth 20000 in
theorem gX4_item_X4_within : GoodIn wsX4_item (va_wsS RX4 60 yX4_within wsX4_within) := goodIn_app (goodIn_of _ (by decide +kernel)) ggX4_item_X4_within
theorem dX4_item_0 : decode cX4_item 0 = .ok (.iload_n 1, 1) := by decide +kernel
theorem dX4_item_1 : decode cX4_item 1 = .ok (.invokestatic 199, 3) := by decide +kernel
theorem dX4_item_4 : decode cX4_item 4 = .ok (.ifCond .eq 12, 3) := by decide +kernel
theorem dX4_item_7 : decode cX4_item 7 = .ok (.iload_n 2, 1) := by decide +kernel
theorem dX4_item_8 : decode cX4_item 8 = .ok (.iconst 0, 1) := by decide +kernel
theorem dX4_item_9 : decode cX4_item 9 = .ok (.iconst 3, 1) := by decide +kernel
theorem dX4_item_10 : decode cX4_item 10 = .ok (.invokestatic 60, 3) := by decide +kernel
theorem dX4_item_13 : decode cX4_item 13 = .ok (.ifCond .ne 5, 3) := by decide +kernel
theorem dX4_item_16 : decode cX4_item 16 = .ok (.iconst (-1), 1) := by decide +kernel
theorem dX4_item_17 : decode cX4_item 17 = .ok (.ireturn, 1) := by decide +kernel
theorem dX4_item_18 : decode cX4_item 18 = .ok (.aload_n 0, 1) := by decide +kernel
theorem dX4_item_19 : decode cX4_item 19 = .ok (.getfield 50, 3) := by decide +kernel
theorem dX4_item_22 : decode cX4_item 22 = .ok (.iload_n 1, 1) := by decide +kernel
theorem dX4_item_23 : decode cX4_item 23 = .ok (.aaload, 1) := by decide +kernel
theorem dX4_item_24 : decode cX4_item 24 = .ok (.astore 4, 2) := by decide +kernel
theorem dX4_item_26 : decode cX4_item 26 = .ok (.aload 4, 2) := by decide +kernel
theorem dX4_item_28 : decode cX4_item 28 = .ok (.ifnonnull 6, 3) := by decide +kernel
theorem dX4_item_31 : decode cX4_item 31 = .ok (.bipush (-11), 2) := by decide +kernel
theorem dX4_item_33 : decode cX4_item 33 = .ok (.ireturn, 1) := by decide +kernel
theorem dX4_item_34 : decode cX4_item 34 = .ok (.aload 4, 2) := by decide +kernel
theorem dX4_item_36 : decode cX4_item 36 = .ok (.getfield 235, 3) := by decide +kernel
theorem dX4_item_39 : decode cX4_item 39 = .ok (.iload_n 2, 1) := by decide +kernel
theorem dX4_item_40 : decode cX4_item 40 = .ok (.if_icmp .eq 6, 3) := by decide +kernel
theorem dX4_item_43 : decode cX4_item 43 = .ok (.bipush (-13), 2) := by decide +kernel
theorem dX4_item_45 : decode cX4_item 45 = .ok (.ireturn, 1) := by decide +kernel
theorem dX4_item_46 : decode cX4_item 46 = .ok (.iload_n 3, 1) := by decide +kernel
theorem dX4_item_47 : decode cX4_item 47 = .ok (.iconst 0, 1) := by decide +kernel
theorem dX4_item_48 : decode cX4_item 48 = .ok (.aload 4, 2) := by decide +kernel
theorem dX4_item_50 : decode cX4_item 50 = .ok (.getfield 213, 3) := by decide +kernel
theorem dX4_item_53 : decode cX4_item 53 = .ok (.arraylength, 1) := by decide +kernel
theorem dX4_item_54 : decode cX4_item 54 = .ok (.iconst 1, 1) := by decide +kernel
theorem dX4_item_55 : decode cX4_item 55 = .ok (.isub, 1) := by decide +kernel
theorem dX4_item_56 : decode cX4_item 56 = .ok (.invokestatic 60, 3) := by decide +kernel
theorem dX4_item_59 : decode cX4_item 59 = .ok (.ifCond .ne 6, 3) := by decide +kernel
theorem dX4_item_62 : decode cX4_item 62 = .ok (.bipush (-12), 2) := by decide +kernel
theorem dX4_item_64 : decode cX4_item 64 = .ok (.ireturn, 1) := by decide +kernel
theorem dX4_item_65 : decode cX4_item 65 = .ok (.aload 4, 2) := by decide +kernel
theorem dX4_item_67 : decode cX4_item 67 = .ok (.getfield 213, 3) := by decide +kernel
theorem dX4_item_70 : decode cX4_item 70 = .ok (.iload_n 3, 1) := by decide +kernel
theorem dX4_item_71 : decode cX4_item 71 = .ok (.laload, 1) := by decide +kernel
theorem dX4_item_72 : decode cX4_item 72 = .ok (.l2i, 1) := by decide +kernel
theorem dX4_item_73 : decode cX4_item 73 = .ok (.ireturn, 1) := by decide +kernel
set_option maxRecDepth 20000 in
theorem ggX4_shelf_X4_isPlace : GoodIn wsX4_shelf wsX4_isPlace := goodIn_r _ [7, 8, 9, 6, 10] (by decide +kernel) (by decide +kernel)
set_option maxRecDepth 20000 in
theorem gX4_shelf_X4_isPlace : GoodIn wsX4_shelf (va_wsS RX4 199 yX4_isPlace wsX4_isPlace) := goodIn_app (goodIn_of _ (by decide +kernel)) ggX4_shelf_X4_isPlace
set_option maxRecDepth 20000 in
theorem ggX4_shelf_X4_isShelved : GoodIn wsX4_shelf wsX4_isShelved := goodIn_r _ [14, 15, 16, 17, 18, 19, 20, 21, 9, 6, 10, 4, 5, 7, 8, 22, 23, 24, 25, 26, 27, 28, 29, 30, 31, 32, 33, 34, 35, 36, 37, 38, 39, 40, 41, 42, 43] (by decide +kernel) (by decide +kernel)
set_option maxRecDepth 20000 in
theorem gX4_shelf_X4_isShelved : GoodIn wsX4_shelf (wsV RX4 248 RX4 yX4_isShelved wsX4_isShelved) := goodIn_app (goodIn_of _ (by decide +kernel)) ggX4_shelf_X4_isShelved
theorem dX4_shelf_0 : decode cX4_shelf 0 = .ok (.iload_n 1, 1) := by decide +kernel
theorem dX4_shelf_1 : decode cX4_shelf 1 = .ok (.invokestatic 199, 3) := by decide +kernel
theorem dX4_shelf_4 : decode cX4_shelf 4 = .ok (.ifCond .eq 12, 3) := by decide +kernel
theorem dX4_shelf_7 : decode cX4_shelf 7 = .ok (.aload_n 0, 1) := by decide +kernel
theorem dX4_shelf_8 : decode cX4_shelf 8 = .ok (.iload_n 2, 1) := by decide +kernel
theorem dX4_shelf_9 : decode cX4_shelf 9 = .ok (.iload_n 3, 1) := by decide +kernel
theorem dX4_shelf_10 : decode cX4_shelf 10 = .ok (.invokevirtual 248, 3) := by decide +kernel
theorem dX4_shelf_13 : decode cX4_shelf 13 = .ok (.ifCond .ne 5, 3) := by decide +kernel
theorem dX4_shelf_16 : decode cX4_shelf 16 = .ok (.iconst (-1), 1) := by decide +kernel
theorem dX4_shelf_17 : decode cX4_shelf 17 = .ok (.ireturn, 1) := by decide +kernel
theorem dX4_shelf_18 : decode cX4_shelf 18 = .ok (.aload_n 0, 1) := by decide +kernel
theorem dX4_shelf_19 : decode cX4_shelf 19 = .ok (.getfield 57, 3) := by decide +kernel
theorem dX4_shelf_22 : decode cX4_shelf 22 = .ok (.iload_n 1, 1) := by decide +kernel
theorem dX4_shelf_23 : decode cX4_shelf 23 = .ok (.iload_n 2, 1) := by decide +kernel
theorem dX4_shelf_24 : decode cX4_shelf 24 = .ok (.ifCond .ne 7, 3) := by decide +kernel
theorem dX4_shelf_27 : decode cX4_shelf 27 = .ok (.iload_n 3, 1) := by decide +kernel
theorem dX4_shelf_28 : decode cX4_shelf 28 = .ok (.goto 4, 3) := by decide +kernel
theorem dX4_shelf_31 : decode cX4_shelf 31 = .ok (.iconst (-1), 1) := by decide +kernel
theorem dX4_shelf_32 : decode cX4_shelf 32 = .ok (.iastore, 1) := by decide +kernel
theorem dX4_shelf_33 : decode cX4_shelf 33 = .ok (.aload_n 0, 1) := by decide +kernel
theorem dX4_shelf_34 : decode cX4_shelf 34 = .ok (.getfield 54, 3) := by decide +kernel
theorem dX4_shelf_37 : decode cX4_shelf 37 = .ok (.iload_n 1, 1) := by decide +kernel
theorem dX4_shelf_38 : decode cX4_shelf 38 = .ok (.iload_n 2, 1) := by decide +kernel
theorem dX4_shelf_39 : decode cX4_shelf 39 = .ok (.iconst 1, 1) := by decide +kernel
theorem dX4_shelf_40 : decode cX4_shelf 40 = .ok (.if_icmp .ne 19, 3) := by decide +kernel
theorem dX4_shelf_43 : decode cX4_shelf 43 = .ok (.iload_n 3, 1) := by decide +kernel
theorem dX4_shelf_44 : decode cX4_shelf 44 = .ok (.invokestatic 199, 3) := by decide +kernel
theorem dX4_shelf_47 : decode cX4_shelf 47 = .ok (.ifCond .eq 12, 3) := by decide +kernel
theorem dX4_shelf_50 : decode cX4_shelf 50 = .ok (.aload_n 0, 1) := by decide +kernel
theorem dX4_shelf_51 : decode cX4_shelf 51 = .ok (.getfield 50, 3) := by decide +kernel
theorem dX4_shelf_54 : decode cX4_shelf 54 = .ok (.iload_n 3, 1) := by decide +kernel
theorem dX4_shelf_55 : decode cX4_shelf 55 = .ok (.aaload, 1) := by decide +kernel
theorem dX4_shelf_56 : decode cX4_shelf 56 = .ok (.goto 4, 3) := by decide +kernel
theorem dX4_shelf_59 : decode cX4_shelf 59 = .ok (.aconst_null, 1) := by decide +kernel
theorem dX4_shelf_60 : decode cX4_shelf 60 = .ok (.aastore, 1) := by decide +kernel
theorem dX4_shelf_61 : decode cX4_shelf 61 = .ok (.iconst 1, 1) := by decide +kernel
theorem dX4_shelf_62 : decode cX4_shelf 62 = .ok (.ireturn, 1) := by decide +kernel
set_option maxRecDepth 20000 in
theorem ggX4_taken_X4_within : GoodIn wsX4_taken wsX4_within := goodIn_r _ [10] (by decide +kernel) (by decide +kernel)
set_option maxRecDepth 20000 in
theorem gX4_taken_X4_within : GoodIn wsX4_taken (va_wsS RX4 60 yX4_within wsX4_within) := goodIn_app (goodIn_of _ (by decide +kernel)) ggX4_taken_X4_within
set_option maxRecDepth 20000 in
theorem ggX4_taken_X4_isPlace : GoodIn wsX4_taken wsX4_isPlace := goodIn_r _ [13, 7, 8, 9, 10] (by decide +kernel) (by decide +kernel)
set_option maxRecDepth 20000 in
theorem gX4_taken_X4_isPlace : GoodIn wsX4_taken (va_wsS RX4 199 yX4_isPlace wsX4_isPlace) := goodIn_app (goodIn_of _ (by decide +kernel)) ggX4_taken_X4_isPlace
set_option maxRecDepth 20000 in
theorem ggX4_taken_X4_isKind : GoodIn wsX4_taken wsX4_isKind := goodIn_r _ [16, 7, 8, 9, 10] (by decide +kernel) (by decide +kernel)
set_option maxRecDepth 20000 in
theorem gX4_taken_X4_isKind : GoodIn wsX4_taken (va_wsS RX4 101 yX4_isKind wsX4_isKind) := goodIn_app (goodIn_of _ (by decide +kernel)) ggX4_taken_X4_isKind
set_option maxRecDepth 20000 in
theorem ggX4_taken_X0_has : GoodIn wsX4_taken wsX0_has := goodIn_r _ [21, 22, 8, 9, 10, 40, 41, 42, 43, 44, 45, 46, 47, 48, 49, 50] (by decide +kernel) (by decide +kernel)
set_option maxRecDepth 20000 in
theorem gX4_taken_X0_has : GoodIn wsX4_taken (wsV RX4 117 RX0 yX0_has wsX0_has) := goodIn_app (goodIn_of _ (by decide +kernel)) ggX4_taken_X0_has
set_option maxRecDepth 20000 in
theorem ggX4_taken_X4_isUnder : GoodIn wsX4_taken wsX4_isUnder := goodIn_r _ [25, 26, 14, 15, 9, 16, 7, 8, 10] (by decide +kernel) (by decide +kernel)
set_option maxRecDepth 20000 in
theorem gX4_taken_X4_isUnder : GoodIn wsX4_taken (va_wsS RX4 251 yX4_isUnder wsX4_isUnder) := goodIn_app (goodIn_of _ (by decide +kernel)) ggX4_taken_X4_isUnder
theorem dX4_taken_0 : decode cX4_taken 0 = .ok (.iload_n 2, 1) := by decide +kernel
theorem dX4_taken_1 : decode cX4_taken 1 = .ok (.bipush 10, 2) := by decide +kernel
theorem dX4_taken_3 : decode cX4_taken 3 = .ok (.isub, 1) := by decide +kernel
theorem dX4_taken_4 : decode cX4_taken 4 = .ok (.iconst 0, 1) := by decide +kernel
theorem dX4_taken_5 : decode cX4_taken 5 = .ok (.iconst 3, 1) := by decide +kernel
theorem dX4_taken_6 : decode cX4_taken 6 = .ok (.invokestatic 60, 3) := by decide +kernel
theorem dX4_taken_9 : decode cX4_taken 9 = .ok (.istore_n 3, 1) := by decide +kernel
theorem dX4_taken_10 : decode cX4_taken 10 = .ok (.iload_n 1, 1) := by decide +kernel
theorem dX4_taken_11 : decode cX4_taken 11 = .ok (.invokestatic 199, 3) := by decide +kernel
theorem dX4_taken_14 : decode cX4_taken 14 = .ok (.ifCond .eq 14, 3) := by decide +kernel
theorem dX4_taken_17 : decode cX4_taken 17 = .ok (.iload_n 3, 1) := by decide +kernel
theorem dX4_taken_18 : decode cX4_taken 18 = .ok (.ifCond .ne 12, 3) := by decide +kernel
theorem dX4_taken_21 : decode cX4_taken 21 = .ok (.iload_n 2, 1) := by decide +kernel
theorem dX4_taken_22 : decode cX4_taken 22 = .ok (.invokestatic 101, 3) := by decide +kernel
theorem dX4_taken_25 : decode cX4_taken 25 = .ok (.ifCond .ne 5, 3) := by decide +kernel
theorem dX4_taken_28 : decode cX4_taken 28 = .ok (.iconst (-1), 1) := by decide +kernel
theorem dX4_taken_29 : decode cX4_taken 29 = .ok (.ireturn, 1) := by decide +kernel
theorem dX4_taken_30 : decode cX4_taken 30 = .ok (.aload_n 0, 1) := by decide +kernel
theorem dX4_taken_31 : decode cX4_taken 31 = .ok (.getfield 54, 3) := by decide +kernel
theorem dX4_taken_34 : decode cX4_taken 34 = .ok (.iload_n 1, 1) := by decide +kernel
theorem dX4_taken_35 : decode cX4_taken 35 = .ok (.aaload, 1) := by decide +kernel
theorem dX4_taken_36 : decode cX4_taken 36 = .ok (.astore 4, 2) := by decide +kernel
theorem dX4_taken_38 : decode cX4_taken 38 = .ok (.aload_n 0, 1) := by decide +kernel
theorem dX4_taken_39 : decode cX4_taken 39 = .ok (.getfield 57, 3) := by decide +kernel
theorem dX4_taken_42 : decode cX4_taken 42 = .ok (.iload_n 1, 1) := by decide +kernel
theorem dX4_taken_43 : decode cX4_taken 43 = .ok (.iaload, 1) := by decide +kernel
theorem dX4_taken_44 : decode cX4_taken 44 = .ok (.istore 5, 2) := by decide +kernel
theorem dX4_taken_46 : decode cX4_taken 46 = .ok (.aload 4, 2) := by decide +kernel
theorem dX4_taken_48 : decode cX4_taken 48 = .ok (.ifnull 31, 3) := by decide +kernel
theorem dX4_taken_51 : decode cX4_taken 51 = .ok (.iload_n 3, 1) := by decide +kernel
theorem dX4_taken_52 : decode cX4_taken 52 = .ok (.ifCond .eq 24, 3) := by decide +kernel
theorem dX4_taken_55 : decode cX4_taken 55 = .ok (.aload 4, 2) := by decide +kernel
theorem dX4_taken_57 : decode cX4_taken 57 = .ok (.getfield 235, 3) := by decide +kernel
theorem dX4_taken_60 : decode cX4_taken 60 = .ok (.iload_n 2, 1) := by decide +kernel
theorem dX4_taken_61 : decode cX4_taken 61 = .ok (.bipush 10, 2) := by decide +kernel
theorem dX4_taken_63 : decode cX4_taken 63 = .ok (.isub, 1) := by decide +kernel
theorem dX4_taken_64 : decode cX4_taken 64 = .ok (.if_icmp .ne 12, 3) := by decide +kernel
theorem dX4_taken_67 : decode cX4_taken 67 = .ok (.aload 4, 2) := by decide +kernel
theorem dX4_taken_69 : decode cX4_taken 69 = .ok (.getfield 213, 3) := by decide +kernel
theorem dX4_taken_72 : decode cX4_taken 72 = .ok (.arraylength, 1) := by decide +kernel
theorem dX4_taken_73 : decode cX4_taken 73 = .ok (.goto 5, 3) := by decide +kernel
theorem dX4_taken_76 : decode cX4_taken 76 = .ok (.bipush (-13), 2) := by decide +kernel
theorem dX4_taken_78 : decode cX4_taken 78 = .ok (.ireturn, 1) := by decide +kernel
theorem dX4_taken_79 : decode cX4_taken 79 = .ok (.aload_n 0, 1) := by decide +kernel
theorem dX4_taken_80 : decode cX4_taken 80 = .ok (.getfield 10, 3) := by decide +kernel
theorem dX4_taken_83 : decode cX4_taken 83 = .ok (.iload 5, 2) := by decide +kernel
theorem dX4_taken_85 : decode cX4_taken 85 = .ok (.invokevirtual 117, 3) := by decide +kernel
theorem dX4_taken_88 : decode cX4_taken 88 = .ok (.ifCond .ne 6, 3) := by decide +kernel
theorem dX4_taken_91 : decode cX4_taken 91 = .ok (.bipush (-11), 2) := by decide +kernel
theorem dX4_taken_93 : decode cX4_taken 93 = .ok (.ireturn, 1) := by decide +kernel
theorem dX4_taken_94 : decode cX4_taken 94 = .ok (.aload_n 0, 1) := by decide +kernel
theorem dX4_taken_95 : decode cX4_taken 95 = .ok (.getfield 10, 3) := by decide +kernel
theorem dX4_taken_98 : decode cX4_taken 98 = .ok (.getfield 120, 3) := by decide +kernel
theorem dX4_taken_101 : decode cX4_taken 101 = .ok (.iload 5, 2) := by decide +kernel
theorem dX4_taken_103 : decode cX4_taken 103 = .ok (.iaload, 1) := by decide +kernel
theorem dX4_taken_104 : decode cX4_taken 104 = .ok (.iload_n 2, 1) := by decide +kernel
theorem dX4_taken_105 : decode cX4_taken 105 = .ok (.invokestatic 251, 3) := by decide +kernel
theorem dX4_taken_108 : decode cX4_taken 108 = .ok (.ifCond .eq 8, 3) := by decide +kernel
theorem dX4_taken_111 : decode cX4_taken 111 = .ok (.iload 5, 2) := by decide +kernel
theorem dX4_taken_113 : decode cX4_taken 113 = .ok (.goto 5, 3) := by decide +kernel
theorem dX4_taken_116 : decode cX4_taken 116 = .ok (.bipush (-13), 2) := by decide +kernel
theorem dX4_taken_118 : decode cX4_taken 118 = .ok (.ireturn, 1) := by decide +kernel
set_option maxRecDepth 20000 in
theorem ggX4_act_X2_clear : GoodIn wsX4_act wsX2_clear := goodIn_r _ [10, 11, 12, 72, 73, 74, 75, 76, 77] (by decide +kernel) (by decide +kernel)
set_option maxRecDepth 20000 in
theorem gX4_act_X2_clear : GoodIn wsX4_act (wsV RX4 254 RX2 yX2_clear wsX2_clear) := goodIn_app (goodIn_of _ (by decide +kernel)) ggX4_act_X2_clear
set_option maxRecDepth 20000 in
theorem ggX4_act_X4_isPlace : GoodIn wsX4_act wsX4_isPlace := goodIn_r _ [16, 17, 18, 15, 19] (by decide +kernel) (by decide +kernel)
set_option maxRecDepth 20000 in
theorem gX4_act_X4_isPlace : GoodIn wsX4_act (va_wsS RX4 199 yX4_isPlace wsX4_isPlace) := goodIn_app (goodIn_of _ (by decide +kernel)) ggX4_act_X4_isPlace
set_option maxRecDepth 20000 in
theorem ggX4_act_X4_within : GoodIn wsX4_act wsX4_within := goodIn_r _ [19] (by decide +kernel) (by decide +kernel)
set_option maxRecDepth 20000 in
theorem gX4_act_X4_within : GoodIn wsX4_act (va_wsS RX4 60 yX4_within wsX4_within) := goodIn_app (goodIn_of _ (by decide +kernel)) ggX4_act_X4_within
set_option maxRecDepth 20000 in
theorem ggX4_act_X0_has : GoodIn wsX4_act wsX0_has := goodIn_r _ [24, 25, 18, 15, 19, 61, 62, 63, 64, 65, 66, 67, 68, 69, 70, 71] (by decide +kernel) (by decide +kernel)
set_option maxRecDepth 20000 in
theorem gX4_act_X0_has : GoodIn wsX4_act (wsV RX4 117 RX0 yX0_has wsX0_has) := goodIn_app (goodIn_of _ (by decide +kernel)) ggX4_act_X0_has
set_option maxRecDepth 20000 in
theorem ggX4_act_X2_play : GoodIn wsX4_act wsX2_play := goodIn_r _ [29, 30, 31, 32, 12, 33, 34, 35, 9, 36, 37, 38, 39, 40, 18, 15, 19, 41, 42, 43, 44, 11, 45, 46, 47, 48, 49, 72, 73, 74, 75, 76, 77] (by decide +kernel) (by decide +kernel)
set_option maxRecDepth 20000 in
theorem gX4_act_X2_play : GoodIn wsX4_act (wsV RX4 255 RX2 yX2_play wsX2_play) := goodIn_app (goodIn_of _ (by decide +kernel)) ggX4_act_X2_play
theorem dX4_act_0 : decode cX4_act 0 = .ok (.aload_n 0, 1) := by decide +kernel
theorem dX4_act_1 : decode cX4_act 1 = .ok (.getfield 36, 3) := by decide +kernel
theorem dX4_act_4 : decode cX4_act 4 = .ok (.invokevirtual 254, 3) := by decide +kernel
theorem dX4_act_7 : decode cX4_act 7 = .ok (.iload_n 1, 1) := by decide +kernel
theorem dX4_act_8 : decode cX4_act 8 = .ok (.invokestatic 199, 3) := by decide +kernel
theorem dX4_act_11 : decode cX4_act 11 = .ok (.ifCond .eq 12, 3) := by decide +kernel
theorem dX4_act_14 : decode cX4_act 14 = .ok (.iload_n 2, 1) := by decide +kernel
theorem dX4_act_15 : decode cX4_act 15 = .ok (.iconst 0, 1) := by decide +kernel
theorem dX4_act_16 : decode cX4_act 16 = .ok (.iconst 3, 1) := by decide +kernel
theorem dX4_act_17 : decode cX4_act 17 = .ok (.invokestatic 60, 3) := by decide +kernel
theorem dX4_act_20 : decode cX4_act 20 = .ok (.ifCond .ne 5, 3) := by decide +kernel
theorem dX4_act_23 : decode cX4_act 23 = .ok (.iconst 0, 1) := by decide +kernel
theorem dX4_act_24 : decode cX4_act 24 = .ok (.ireturn, 1) := by decide +kernel
theorem dX4_act_25 : decode cX4_act 25 = .ok (.aload_n 0, 1) := by decide +kernel
theorem dX4_act_26 : decode cX4_act 26 = .ok (.getfield 57, 3) := by decide +kernel
theorem dX4_act_29 : decode cX4_act 29 = .ok (.iload_n 1, 1) := by decide +kernel
theorem dX4_act_30 : decode cX4_act 30 = .ok (.iaload, 1) := by decide +kernel
theorem dX4_act_31 : decode cX4_act 31 = .ok (.istore 4, 2) := by decide +kernel
theorem dX4_act_33 : decode cX4_act 33 = .ok (.aload_n 0, 1) := by decide +kernel
theorem dX4_act_34 : decode cX4_act 34 = .ok (.getfield 10, 3) := by decide +kernel
theorem dX4_act_37 : decode cX4_act 37 = .ok (.iload 4, 2) := by decide +kernel
theorem dX4_act_39 : decode cX4_act 39 = .ok (.invokevirtual 117, 3) := by decide +kernel
theorem dX4_act_42 : decode cX4_act 42 = .ok (.ifCond .ne 5, 3) := by decide +kernel
theorem dX4_act_45 : decode cX4_act 45 = .ok (.iconst 0, 1) := by decide +kernel
theorem dX4_act_46 : decode cX4_act 46 = .ok (.ireturn, 1) := by decide +kernel
theorem dX4_act_47 : decode cX4_act 47 = .ok (.aload_n 0, 1) := by decide +kernel
theorem dX4_act_48 : decode cX4_act 48 = .ok (.getfield 36, 3) := by decide +kernel
theorem dX4_act_51 : decode cX4_act 51 = .ok (.aload_n 0, 1) := by decide +kernel
theorem dX4_act_52 : decode cX4_act 52 = .ok (.getfield 10, 3) := by decide +kernel
theorem dX4_act_55 : decode cX4_act 55 = .ok (.getfield 120, 3) := by decide +kernel
theorem dX4_act_58 : decode cX4_act 58 = .ok (.iload 4, 2) := by decide +kernel
theorem dX4_act_60 : decode cX4_act 60 = .ok (.iaload, 1) := by decide +kernel
theorem dX4_act_61 : decode cX4_act 61 = .ok (.iload 4, 2) := by decide +kernel
theorem dX4_act_63 : decode cX4_act 63 = .ok (.aload_n 0, 1) := by decide +kernel
theorem dX4_act_64 : decode cX4_act 64 = .ok (.getfield 10, 3) := by decide +kernel
theorem dX4_act_67 : decode cX4_act 67 = .ok (.getfield 126, 3) := by decide +kernel
theorem dX4_act_70 : decode cX4_act 70 = .ok (.iload 4, 2) := by decide +kernel
theorem dX4_act_72 : decode cX4_act 72 = .ok (.iaload, 1) := by decide +kernel
theorem dX4_act_73 : decode cX4_act 73 = .ok (.iload_n 2, 1) := by decide +kernel
theorem dX4_act_74 : decode cX4_act 74 = .ok (.iload_n 3, 1) := by decide +kernel
theorem dX4_act_75 : decode cX4_act 75 = .ok (.invokevirtual 255, 3) := by decide +kernel
theorem dX4_act_78 : decode cX4_act 78 = .ok (.ireturn, 1) := by decide +kernel
set_option maxRecDepth 20000 in
theorem ggX4_trace_X4_within : GoodIn wsX4_trace wsX4_within := goodIn_r _ [7] (by decide +kernel) (by decide +kernel)
set_option maxRecDepth 20000 in
theorem gX4_trace_X4_within : GoodIn wsX4_trace (va_wsS RX4 60 yX4_within wsX4_within) := goodIn_app (goodIn_of _ (by decide +kernel)) ggX4_trace_X4_within
theorem dX4_trace_0 : decode cX4_trace 0 = .ok (.iload_n 1, 1) := by decide +kernel
theorem dX4_trace_1 : decode cX4_trace 1 = .ok (.iconst 0, 1) := by decide +kernel
theorem dX4_trace_2 : decode cX4_trace 2 = .ok (.aload_n 0, 1) := by decide +kernel
theorem dX4_trace_3 : decode cX4_trace 3 = .ok (.getfield 36, 3) := by decide +kernel
theorem dX4_trace_6 : decode cX4_trace 6 = .ok (.getfield 259, 3) := by decide +kernel
theorem dX4_trace_9 : decode cX4_trace 9 = .ok (.iconst 1, 1) := by decide +kernel
theorem dX4_trace_10 : decode cX4_trace 10 = .ok (.isub, 1) := by decide +kernel
theorem dX4_trace_11 : decode cX4_trace 11 = .ok (.invokestatic 60, 3) := by decide +kernel
theorem dX4_trace_14 : decode cX4_trace 14 = .ok (.ifCond .eq 15, 3) := by decide +kernel
theorem dX4_trace_17 : decode cX4_trace 17 = .ok (.aload_n 0, 1) := by decide +kernel
theorem dX4_trace_18 : decode cX4_trace 18 = .ok (.getfield 36, 3) := by decide +kernel
theorem dX4_trace_21 : decode cX4_trace 21 = .ok (.getfield 262, 3) := by decide +kernel
theorem dX4_trace_24 : decode cX4_trace 24 = .ok (.iload_n 1, 1) := by decide +kernel
theorem dX4_trace_25 : decode cX4_trace 25 = .ok (.iaload, 1) := by decide +kernel
theorem dX4_trace_26 : decode cX4_trace 26 = .ok (.goto 5, 3) := by decide +kernel
theorem dX4_trace_29 : decode cX4_trace 29 = .ok (.bipush (-3), 2) := by decide +kernel
theorem dX4_trace_31 : decode cX4_trace 31 = .ok (.ireturn, 1) := by decide +kernel
set_option maxRecDepth 20000 in
theorem ggX4_isShelved_X0_has : GoodIn wsX4_isShelved wsX0_has := goodIn_r _ [6, 7, 8, 9, 10, 26, 27, 28, 29, 30, 31, 32, 33, 34, 35, 36] (by decide +kernel) (by decide +kernel)
set_option maxRecDepth 20000 in
theorem gX4_isShelved_X0_has : GoodIn wsX4_isShelved (wsV RX4 117 RX0 yX0_has wsX0_has) := goodIn_app (goodIn_of _ (by decide +kernel)) ggX4_isShelved_X0_has
set_option maxRecDepth 20000 in
theorem ggX4_isShelved_X4_isPlace : GoodIn wsX4_isShelved wsX4_isPlace := goodIn_r _ [13, 14, 8, 9, 10] (by decide +kernel) (by decide +kernel)
set_option maxRecDepth 20000 in
theorem gX4_isShelved_X4_isPlace : GoodIn wsX4_isShelved (va_wsS RX4 199 yX4_isPlace wsX4_isPlace) := goodIn_app (goodIn_of _ (by decide +kernel)) ggX4_isShelved_X4_isPlace
theorem dX4_isShelved_0 : decode cX4_isShelved 0 = .ok (.iload_n 1, 1) := by decide +kernel
theorem dX4_isShelved_1 : decode cX4_isShelved 1 = .ok (.tableswitch 43 0 2 #[27, 36, 41], 27) := by decide +kernel
theorem dX4_isShelved_28 : decode cX4_isShelved 28 = .ok (.aload_n 0, 1) := by decide +kernel
theorem dX4_isShelved_29 : decode cX4_isShelved 29 = .ok (.getfield 10, 3) := by decide +kernel
theorem dX4_isShelved_32 : decode cX4_isShelved 32 = .ok (.iload_n 2, 1) := by decide +kernel
theorem dX4_isShelved_33 : decode cX4_isShelved 33 = .ok (.invokevirtual 117, 3) := by decide +kernel
theorem dX4_isShelved_36 : decode cX4_isShelved 36 = .ok (.ireturn, 1) := by decide +kernel
theorem dX4_isShelved_37 : decode cX4_isShelved 37 = .ok (.iload_n 2, 1) := by decide +kernel
theorem dX4_isShelved_38 : decode cX4_isShelved 38 = .ok (.invokestatic 199, 3) := by decide +kernel
theorem dX4_isShelved_41 : decode cX4_isShelved 41 = .ok (.ireturn, 1) := by decide +kernel
theorem dX4_isShelved_42 : decode cX4_isShelved 42 = .ok (.iconst 1, 1) := by decide +kernel
theorem dX4_isShelved_43 : decode cX4_isShelved 43 = .ok (.ireturn, 1) := by decide +kernel
theorem dX4_isShelved_44 : decode cX4_isShelved 44 = .ok (.iconst 0, 1) := by decide +kernel
theorem dX4_isShelved_45 : decode cX4_isShelved 45 = .ok (.ireturn, 1) := by decide +kernel
set_option maxRecDepth 20000 in
theorem ggX4_isUnder_X4_isKind : GoodIn wsX4_isUnder wsX4_isKind := goodIn_r _ [5, 6, 7, 4, 8] (by decide +kernel) (by decide +kernel)
set_option maxRecDepth 20000 in
theorem gX4_isUnder_X4_isKind : GoodIn wsX4_isUnder (va_wsS RX4 101 yX4_isKind wsX4_isKind) := goodIn_app (goodIn_of _ (by decide +kernel)) ggX4_isUnder_X4_isKind
theorem dX4_isUnder_0 : decode cX4_isUnder 0 = .ok (.iload_n 0, 1) := by decide +kernel
theorem dX4_isUnder_1 : decode cX4_isUnder 1 = .ok (.istore_n 2, 1) := by decide +kernel
theorem dX4_isUnder_2 : decode cX4_isUnder 2 = .ok (.iconst 0, 1) := by decide +kernel
theorem dX4_isUnder_3 : decode cX4_isUnder 3 = .ok (.istore_n 3, 1) := by decide +kernel
theorem dX4_isUnder_4 : decode cX4_isUnder 4 = .ok (.iload_n 3, 1) := by decide +kernel
theorem dX4_isUnder_5 : decode cX4_isUnder 5 = .ok (.iconst 5, 1) := by decide +kernel
theorem dX4_isUnder_6 : decode cX4_isUnder 6 = .ok (.if_icmp .gt 29, 3) := by decide +kernel
theorem dX4_isUnder_9 : decode cX4_isUnder 9 = .ok (.iload_n 2, 1) := by decide +kernel
theorem dX4_isUnder_10 : decode cX4_isUnder 10 = .ok (.invokestatic 101, 3) := by decide +kernel
theorem dX4_isUnder_13 : decode cX4_isUnder 13 = .ok (.ifCond .eq 22, 3) := by decide +kernel
theorem dX4_isUnder_16 : decode cX4_isUnder 16 = .ok (.iload_n 2, 1) := by decide +kernel
theorem dX4_isUnder_17 : decode cX4_isUnder 17 = .ok (.iload_n 1, 1) := by decide +kernel
theorem dX4_isUnder_18 : decode cX4_isUnder 18 = .ok (.if_icmp .ne 5, 3) := by decide +kernel
theorem dX4_isUnder_21 : decode cX4_isUnder 21 = .ok (.iconst 1, 1) := by decide +kernel
theorem dX4_isUnder_22 : decode cX4_isUnder 22 = .ok (.ireturn, 1) := by decide +kernel
theorem dX4_isUnder_23 : decode cX4_isUnder 23 = .ok (.getstatic 265, 3) := by decide +kernel
theorem dX4_isUnder_26 : decode cX4_isUnder 26 = .ok (.iload_n 2, 1) := by decide +kernel
theorem dX4_isUnder_27 : decode cX4_isUnder 27 = .ok (.iaload, 1) := by decide +kernel
theorem dX4_isUnder_28 : decode cX4_isUnder 28 = .ok (.istore_n 2, 1) := by decide +kernel
theorem dX4_isUnder_29 : decode cX4_isUnder 29 = .ok (.iinc 3 1, 3) := by decide +kernel
theorem dX4_isUnder_32 : decode cX4_isUnder 32 = .ok (.goto (-28), 3) := by decide +kernel
theorem dX4_isUnder_35 : decode cX4_isUnder 35 = .ok (.iconst 0, 1) := by decide +kernel
theorem dX4_isUnder_36 : decode cX4_isUnder 36 = .ok (.ireturn, 1) := by decide +kernel
set_option maxRecDepth 20000 in
theorem ggX4_many_J6_bitCount_0f7a4 : GoodIn wsX4_many wsJ6_bitCount_0f7a4 := goodIn_r _ [12, 13, 14, 15] (by decide +kernel) (by decide +kernel)
set_option maxRecDepth 20000 in
theorem gX4_many_J6_bitCount_0f7a4 : GoodIn wsX4_many (va_wsS RX4 159 yJ6_bitCount_0f7a4 wsJ6_bitCount_0f7a4) := goodIn_app (goodIn_of _ (by decide +kernel)) ggX4_many_J6_bitCount_0f7a4
set_option maxRecDepth 20000 in
theorem ggX4_many_X0_roomsTaken : GoodIn wsX4_many wsX0_roomsTaken := goodIn_r _ [20, 21, 22, 39, 40, 41, 42, 43, 44, 45, 46, 47, 48, 49] (by decide +kernel) (by decide +kernel)
set_option maxRecDepth 20000 in
theorem gX4_many_X0_roomsTaken : GoodIn wsX4_many (wsV RX4 181 RX0 yX0_roomsTaken wsX0_roomsTaken) := goodIn_app (goodIn_of _ (by decide +kernel)) ggX4_many_X0_roomsTaken
set_option maxRecDepth 20000 in
theorem ggX4_many_X0_proudest : GoodIn wsX4_many wsX0_proudest := goodIn_r _ [26, 21, 27, 39, 40, 41, 42, 43, 44, 45, 46, 47, 48, 49] (by decide +kernel) (by decide +kernel)
set_option maxRecDepth 20000 in
theorem gX4_many_X0_proudest : GoodIn wsX4_many (wsV RX4 268 RX0 yX0_proudest wsX0_proudest) := goodIn_app (goodIn_of _ (by decide +kernel)) ggX4_many_X0_proudest
theorem dX4_many_0 : decode cX4_many 0 = .ok (.iload_n 1, 1) := by decide +kernel
theorem dX4_many_1 : decode cX4_many 1 = .ok (.tableswitch 102 0 6 #[43, 51, 62, 73, 81, 86, 94], 43) := by decide +kernel
theorem dX4_many_44 : decode cX4_many 44 = .ok (.aload_n 0, 1) := by decide +kernel
theorem dX4_many_45 : decode cX4_many 45 = .ok (.getfield 10, 3) := by decide +kernel
theorem dX4_many_48 : decode cX4_many 48 = .ok (.getfield 85, 3) := by decide +kernel
theorem dX4_many_51 : decode cX4_many 51 = .ok (.ireturn, 1) := by decide +kernel
theorem dX4_many_52 : decode cX4_many 52 = .ok (.aload_n 0, 1) := by decide +kernel
theorem dX4_many_53 : decode cX4_many 53 = .ok (.getfield 10, 3) := by decide +kernel
theorem dX4_many_56 : decode cX4_many 56 = .ok (.getfield 152, 3) := by decide +kernel
theorem dX4_many_59 : decode cX4_many 59 = .ok (.invokestatic 159, 3) := by decide +kernel
theorem dX4_many_62 : decode cX4_many 62 = .ok (.ireturn, 1) := by decide +kernel
theorem dX4_many_63 : decode cX4_many 63 = .ok (.aload_n 0, 1) := by decide +kernel
theorem dX4_many_64 : decode cX4_many 64 = .ok (.getfield 10, 3) := by decide +kernel
theorem dX4_many_67 : decode cX4_many 67 = .ok (.invokevirtual 181, 3) := by decide +kernel
theorem dX4_many_70 : decode cX4_many 70 = .ok (.invokestatic 159, 3) := by decide +kernel
theorem dX4_many_73 : decode cX4_many 73 = .ok (.ireturn, 1) := by decide +kernel
theorem dX4_many_74 : decode cX4_many 74 = .ok (.aload_n 0, 1) := by decide +kernel
theorem dX4_many_75 : decode cX4_many 75 = .ok (.getfield 10, 3) := by decide +kernel
theorem dX4_many_78 : decode cX4_many 78 = .ok (.invokevirtual 268, 3) := by decide +kernel
theorem dX4_many_81 : decode cX4_many 81 = .ok (.ireturn, 1) := by decide +kernel
theorem dX4_many_82 : decode cX4_many 82 = .ok (.aload_n 0, 1) := by decide +kernel
theorem dX4_many_83 : decode cX4_many 83 = .ok (.getfield 44, 3) := by decide +kernel
theorem dX4_many_86 : decode cX4_many 86 = .ok (.ireturn, 1) := by decide +kernel
theorem dX4_many_87 : decode cX4_many 87 = .ok (.aload_n 0, 1) := by decide +kernel
theorem dX4_many_88 : decode cX4_many 88 = .ok (.getfield 29, 3) := by decide +kernel
theorem dX4_many_91 : decode cX4_many 91 = .ok (.getfield 64, 3) := by decide +kernel
theorem dX4_many_94 : decode cX4_many 94 = .ok (.ireturn, 1) := by decide +kernel
theorem dX4_many_95 : decode cX4_many 95 = .ok (.aload_n 0, 1) := by decide +kernel
theorem dX4_many_96 : decode cX4_many 96 = .ok (.getfield 36, 3) := by decide +kernel
theorem dX4_many_99 : decode cX4_many 99 = .ok (.getfield 259, 3) := by decide +kernel
theorem dX4_many_102 : decode cX4_many 102 = .ok (.ireturn, 1) := by decide +kernel
theorem dX4_many_103 : decode cX4_many 103 = .ok (.iconst (-1), 1) := by decide +kernel
theorem dX4_many_104 : decode cX4_many 104 = .ok (.ireturn, 1) := by decide +kernel
set_option maxRecDepth 20000 in
theorem ggX4_keep_X0_become : GoodIn wsX4_keep wsX0_become := goodIn_r _ [8, 9, 10, 11, 12, 13, 14, 15, 16, 17, 18, 19, 20, 21, 33, 34, 35, 36, 37, 38, 39, 40, 41, 42, 43] (by decide +kernel) (by decide +kernel)
set_option maxRecDepth 20000 in
theorem gX4_keep_X0_become : GoodIn wsX4_keep (wsV RX4 81 RX0 yX0_become wsX0_become) := goodIn_app (goodIn_of _ (by decide +kernel)) ggX4_keep_X0_become
theorem dX4_keep_0 : decode cX4_keep 0 = .ok (.aload_n 0, 1) := by decide +kernel
theorem dX4_keep_1 : decode cX4_keep 1 = .ok (.getfield 19, 3) := by decide +kernel
theorem dX4_keep_4 : decode cX4_keep 4 = .ok (.aload_n 0, 1) := by decide +kernel
theorem dX4_keep_5 : decode cX4_keep 5 = .ok (.getfield 10, 3) := by decide +kernel
theorem dX4_keep_8 : decode cX4_keep 8 = .ok (.invokevirtual 81, 3) := by decide +kernel
theorem dX4_keep_11 : decode cX4_keep 11 = .ok (.aload_n 0, 1) := by decide +kernel
theorem dX4_keep_12 : decode cX4_keep 12 = .ok (.iconst 1, 1) := by decide +kernel
theorem dX4_keep_13 : decode cX4_keep 13 = .ok (.putfield 22, 3) := by decide +kernel
theorem dX4_keep_16 : decode cX4_keep 16 = .ok (.iconst 1, 1) := by decide +kernel
theorem dX4_keep_17 : decode cX4_keep 17 = .ok (.ireturn, 1) := by decide +kernel
set_option maxRecDepth 20000 in
theorem ggX4_again_X0_become : GoodIn wsX4_again wsX0_become := goodIn_r _ [9, 10, 11, 12, 13, 14, 15, 16, 17, 18, 19, 20, 21, 22, 34, 35, 36, 37, 38, 39, 40, 41, 42, 43, 44] (by decide +kernel) (by decide +kernel)
set_option maxRecDepth 20000 in
theorem gX4_again_X0_become : GoodIn wsX4_again (wsV RX4 81 RX0 yX0_become wsX0_become) := goodIn_app (goodIn_of _ (by decide +kernel)) ggX4_again_X0_become
theorem dX4_again_0 : decode cX4_again 0 = .ok (.aload_n 0, 1) := by decide +kernel
theorem dX4_again_1 : decode cX4_again 1 = .ok (.getfield 22, 3) := by decide +kernel
theorem dX4_again_4 : decode cX4_again 4 = .ok (.ifCond .ne 6, 3) := by decide +kernel
theorem dX4_again_7 : decode cX4_again 7 = .ok (.bipush (-3), 2) := by decide +kernel
theorem dX4_again_9 : decode cX4_again 9 = .ok (.ireturn, 1) := by decide +kernel
theorem dX4_again_10 : decode cX4_again 10 = .ok (.aload_n 0, 1) := by decide +kernel
theorem dX4_again_11 : decode cX4_again 11 = .ok (.getfield 10, 3) := by decide +kernel
theorem dX4_again_14 : decode cX4_again 14 = .ok (.aload_n 0, 1) := by decide +kernel
theorem dX4_again_15 : decode cX4_again 15 = .ok (.getfield 19, 3) := by decide +kernel
theorem dX4_again_18 : decode cX4_again 18 = .ok (.invokevirtual 81, 3) := by decide +kernel
theorem dX4_again_21 : decode cX4_again 21 = .ok (.aload_n 0, 1) := by decide +kernel
theorem dX4_again_22 : decode cX4_again 22 = .ok (.getfield 10, 3) := by decide +kernel
theorem dX4_again_25 : decode cX4_again 25 = .ok (.getfield 85, 3) := by decide +kernel
theorem dX4_again_28 : decode cX4_again 28 = .ok (.ireturn, 1) := by decide +kernel
theorem dX4_within_0 : decode cX4_within 0 = .ok (.iload_n 1, 1) := by decide +kernel
theorem dX4_within_1 : decode cX4_within 1 = .ok (.iload_n 0, 1) := by decide +kernel
theorem dX4_within_2 : decode cX4_within 2 = .ok (.if_icmp .gt 12, 3) := by decide +kernel
theorem dX4_within_5 : decode cX4_within 5 = .ok (.iload_n 0, 1) := by decide +kernel
theorem dX4_within_6 : decode cX4_within 6 = .ok (.iload_n 2, 1) := by decide +kernel
theorem dX4_within_7 : decode cX4_within 7 = .ok (.if_icmp .gt 7, 3) := by decide +kernel
theorem dX4_within_10 : decode cX4_within 10 = .ok (.iconst 1, 1) := by decide +kernel
theorem dX4_within_11 : decode cX4_within 11 = .ok (.goto 4, 3) := by decide +kernel
theorem dX4_within_14 : decode cX4_within 14 = .ok (.iconst 0, 1) := by decide +kernel
theorem dX4_within_15 : decode cX4_within 15 = .ok (.ireturn, 1) := by decide +kernel
set_option maxRecDepth 20000 in
theorem ggX4_isLaw_X4_within : GoodIn wsX4_isLaw wsX4_within := goodIn_r _ [4] (by decide +kernel) (by decide +kernel)
set_option maxRecDepth 20000 in
theorem gX4_isLaw_X4_within : GoodIn wsX4_isLaw (va_wsS RX4 60 yX4_within wsX4_within) := goodIn_app (goodIn_of _ (by decide +kernel)) ggX4_isLaw_X4_within
theorem dX4_isLaw_0 : decode cX4_isLaw 0 = .ok (.iload_n 0, 1) := by decide +kernel
theorem dX4_isLaw_1 : decode cX4_isLaw 1 = .ok (.iconst 0, 1) := by decide +kernel
theorem dX4_isLaw_2 : decode cX4_isLaw 2 = .ok (.iconst 3, 1) := by decide +kernel
theorem dX4_isLaw_3 : decode cX4_isLaw 3 = .ok (.invokestatic 60, 3) := by decide +kernel
theorem dX4_isLaw_6 : decode cX4_isLaw 6 = .ok (.ireturn, 1) := by decide +kernel
set_option maxRecDepth 20000 in
theorem ggX4_isKind_X4_within : GoodIn wsX4_isKind wsX4_within := goodIn_r _ [4] (by decide +kernel) (by decide +kernel)
set_option maxRecDepth 20000 in
theorem gX4_isKind_X4_within : GoodIn wsX4_isKind (va_wsS RX4 60 yX4_within wsX4_within) := goodIn_app (goodIn_of _ (by decide +kernel)) ggX4_isKind_X4_within
theorem dX4_isKind_0 : decode cX4_isKind 0 = .ok (.iload_n 0, 1) := by decide +kernel
theorem dX4_isKind_1 : decode cX4_isKind 1 = .ok (.iconst 0, 1) := by decide +kernel
theorem dX4_isKind_2 : decode cX4_isKind 2 = .ok (.iconst 5, 1) := by decide +kernel
theorem dX4_isKind_3 : decode cX4_isKind 3 = .ok (.invokestatic 60, 3) := by decide +kernel
theorem dX4_isKind_6 : decode cX4_isKind 6 = .ok (.ireturn, 1) := by decide +kernel
set_option maxRecDepth 20000 in
theorem ggX4_isPride_X4_within : GoodIn wsX4_isPride wsX4_within := goodIn_r _ [4] (by decide +kernel) (by decide +kernel)
set_option maxRecDepth 20000 in
theorem gX4_isPride_X4_within : GoodIn wsX4_isPride (va_wsS RX4 60 yX4_within wsX4_within) := goodIn_app (goodIn_of _ (by decide +kernel)) ggX4_isPride_X4_within
theorem dX4_isPride_0 : decode cX4_isPride 0 = .ok (.iload_n 0, 1) := by decide +kernel
theorem dX4_isPride_1 : decode cX4_isPride 1 = .ok (.iconst 0, 1) := by decide +kernel
theorem dX4_isPride_2 : decode cX4_isPride 2 = .ok (.bipush 99, 2) := by decide +kernel
theorem dX4_isPride_4 : decode cX4_isPride 4 = .ok (.invokestatic 60, 3) := by decide +kernel
theorem dX4_isPride_7 : decode cX4_isPride 7 = .ok (.ireturn, 1) := by decide +kernel
set_option maxRecDepth 20000 in
theorem ggX4_isEar_X4_within : GoodIn wsX4_isEar wsX4_within := goodIn_r _ [4] (by decide +kernel) (by decide +kernel)
set_option maxRecDepth 20000 in
theorem gX4_isEar_X4_within : GoodIn wsX4_isEar (va_wsS RX4 60 yX4_within wsX4_within) := goodIn_app (goodIn_of _ (by decide +kernel)) ggX4_isEar_X4_within
theorem dX4_isEar_0 : decode cX4_isEar 0 = .ok (.iload_n 0, 1) := by decide +kernel
theorem dX4_isEar_1 : decode cX4_isEar 1 = .ok (.iconst 0, 1) := by decide +kernel
theorem dX4_isEar_2 : decode cX4_isEar 2 = .ok (.bipush 9, 2) := by decide +kernel
theorem dX4_isEar_4 : decode cX4_isEar 4 = .ok (.invokestatic 60, 3) := by decide +kernel
theorem dX4_isEar_7 : decode cX4_isEar 7 = .ok (.ireturn, 1) := by decide +kernel
set_option maxRecDepth 20000 in
theorem ggX4_isRoom_X4_within : GoodIn wsX4_isRoom wsX4_within := goodIn_r _ [4] (by decide +kernel) (by decide +kernel)
set_option maxRecDepth 20000 in
theorem gX4_isRoom_X4_within : GoodIn wsX4_isRoom (va_wsS RX4 60 yX4_within wsX4_within) := goodIn_app (goodIn_of _ (by decide +kernel)) ggX4_isRoom_X4_within
theorem dX4_isRoom_0 : decode cX4_isRoom 0 = .ok (.iload_n 0, 1) := by decide +kernel
theorem dX4_isRoom_1 : decode cX4_isRoom 1 = .ok (.iconst 0, 1) := by decide +kernel
theorem dX4_isRoom_2 : decode cX4_isRoom 2 = .ok (.bipush 7, 2) := by decide +kernel
theorem dX4_isRoom_4 : decode cX4_isRoom 4 = .ok (.invokestatic 60, 3) := by decide +kernel
theorem dX4_isRoom_7 : decode cX4_isRoom 7 = .ok (.ireturn, 1) := by decide +kernel
set_option maxRecDepth 20000 in
theorem ggX4_isPlace_X4_within : GoodIn wsX4_isPlace wsX4_within := goodIn_r _ [4] (by decide +kernel) (by decide +kernel)
set_option maxRecDepth 20000 in
theorem gX4_isPlace_X4_within : GoodIn wsX4_isPlace (va_wsS RX4 60 yX4_within wsX4_within) := goodIn_app (goodIn_of _ (by decide +kernel)) ggX4_isPlace_X4_within
theorem dX4_isPlace_0 : decode cX4_isPlace 0 = .ok (.iload_n 0, 1) := by decide +kernel
theorem dX4_isPlace_1 : decode cX4_isPlace 1 = .ok (.iconst 0, 1) := by decide +kernel
theorem dX4_isPlace_2 : decode cX4_isPlace 2 = .ok (.iconst 3, 1) := by decide +kernel
theorem dX4_isPlace_3 : decode cX4_isPlace 3 = .ok (.invokestatic 60, 3) := by decide +kernel
theorem dX4_isPlace_6 : decode cX4_isPlace 6 = .ok (.ireturn, 1) := by decide +kernel
theorem dX4_heldPride_0 : decode cX4_heldPride 0 = .ok (.iconst 0, 1) := by decide +kernel
theorem dX4_heldPride_1 : decode cX4_heldPride 1 = .ok (.bipush 99, 2) := by decide +kernel
theorem dX4_heldPride_3 : decode cX4_heldPride 3 = .ok (.iload_n 0, 1) := by decide +kernel
theorem dX4_heldPride_4 : decode cX4_heldPride 4 = .ok (.invokestatic 271, 3) := by decide +kernel
theorem dX4_heldPride_7 : decode cX4_heldPride 7 = .ok (.invokestatic 276, 3) := by decide +kernel
theorem dX4_heldPride_10 : decode cX4_heldPride 10 = .ok (.ireturn, 1) := by decide +kernel
