set_option maxRecDepth 20000 in
theorem ggX0_init_X0_clear : GoodIn wsX0_init wsX0_clear := goodIn_r _ [17, 5, 18, 19, 20, 21, 22, 23, 24, 25, 26, 27, 28, 29, 30, 31, 32, 33, 34, 35] (by decide +kernel) (by decide +kernel)
set_option maxRecDepth 20000 in
theorem gX0_init_X0_clear : GoodIn wsX0_init (wsV RX0 37 RX0 yX0_clear wsX0_clear) := goodIn_app (goodIn_of _ (by decide +kernel)) ggX0_init_X0_clear
theorem dX0_init_0 : decode cX0_init 0 = .ok (.aload_n 0, 1) := by decide +kernel
theorem dX0_init_1 : decode cX0_init 1 = .ok (.invokespecial 3, 3) := by decide +kernel
theorem dX0_init_4 : decode cX0_init 4 = .ok (.aload_n 0, 1) := by decide +kernel
theorem dX0_init_5 : decode cX0_init 5 = .ok (.iconst 4, 1) := by decide +kernel
theorem dX0_init_6 : decode cX0_init 6 = .ok (.newarray .int, 2) := by decide +kernel
theorem dX0_init_8 : decode cX0_init 8 = .ok (.putfield 9, 3) := by decide +kernel
theorem dX0_init_11 : decode cX0_init 11 = .ok (.aload_n 0, 1) := by decide +kernel
theorem dX0_init_12 : decode cX0_init 12 = .ok (.bipush 8, 2) := by decide +kernel
theorem dX0_init_14 : decode cX0_init 14 = .ok (.newarray .int, 2) := by decide +kernel
theorem dX0_init_16 : decode cX0_init 16 = .ok (.putfield 15, 3) := by decide +kernel
theorem dX0_init_19 : decode cX0_init 19 = .ok (.aload_n 0, 1) := by decide +kernel
theorem dX0_init_20 : decode cX0_init 20 = .ok (.bipush 8, 2) := by decide +kernel
theorem dX0_init_22 : decode cX0_init 22 = .ok (.newarray .int, 2) := by decide +kernel
theorem dX0_init_24 : decode cX0_init 24 = .ok (.putfield 18, 3) := by decide +kernel
theorem dX0_init_27 : decode cX0_init 27 = .ok (.aload_n 0, 1) := by decide +kernel
theorem dX0_init_28 : decode cX0_init 28 = .ok (.bipush 8, 2) := by decide +kernel
theorem dX0_init_30 : decode cX0_init 30 = .ok (.newarray .int, 2) := by decide +kernel
theorem dX0_init_32 : decode cX0_init 32 = .ok (.putfield 21, 3) := by decide +kernel
theorem dX0_init_35 : decode cX0_init 35 = .ok (.aload_n 0, 1) := by decide +kernel
theorem dX0_init_36 : decode cX0_init 36 = .ok (.bipush 8, 2) := by decide +kernel
theorem dX0_init_38 : decode cX0_init 38 = .ok (.newarray .int, 2) := by decide +kernel
theorem dX0_init_40 : decode cX0_init 40 = .ok (.putfield 24, 3) := by decide +kernel
theorem dX0_init_43 : decode cX0_init 43 = .ok (.aload_n 0, 1) := by decide +kernel
theorem dX0_init_44 : decode cX0_init 44 = .ok (.bipush 8, 2) := by decide +kernel
theorem dX0_init_46 : decode cX0_init 46 = .ok (.newarray .int, 2) := by decide +kernel
theorem dX0_init_48 : decode cX0_init 48 = .ok (.putfield 27, 3) := by decide +kernel
theorem dX0_init_51 : decode cX0_init 51 = .ok (.aload_n 0, 1) := by decide +kernel
theorem dX0_init_52 : decode cX0_init 52 = .ok (.bipush 8, 2) := by decide +kernel
theorem dX0_init_54 : decode cX0_init 54 = .ok (.newarray .int, 2) := by decide +kernel
theorem dX0_init_56 : decode cX0_init 56 = .ok (.putfield 30, 3) := by decide +kernel
theorem dX0_init_59 : decode cX0_init 59 = .ok (.aload_n 0, 1) := by decide +kernel
theorem dX0_init_60 : decode cX0_init 60 = .ok (.iconst 1, 1) := by decide +kernel
theorem dX0_init_61 : decode cX0_init 61 = .ok (.putfield 33, 3) := by decide +kernel
theorem dX0_init_64 : decode cX0_init 64 = .ok (.aload_n 0, 1) := by decide +kernel
theorem dX0_init_65 : decode cX0_init 65 = .ok (.invokevirtual 37, 3) := by decide +kernel
theorem dX0_init_68 : decode cX0_init 68 = .ok (.return_, 1) := by decide +kernel
theorem dX0_clear_0 : decode cX0_clear 0 = .ok (.getstatic 40, 3) := by decide +kernel
theorem dX0_clear_3 : decode cX0_clear 3 = .ok (.iconst 0, 1) := by decide +kernel
theorem dX0_clear_4 : decode cX0_clear 4 = .ok (.aload_n 0, 1) := by decide +kernel
theorem dX0_clear_5 : decode cX0_clear 5 = .ok (.getfield 9, 3) := by decide +kernel
theorem dX0_clear_8 : decode cX0_clear 8 = .ok (.iconst 0, 1) := by decide +kernel
theorem dX0_clear_9 : decode cX0_clear 9 = .ok (.iconst 4, 1) := by decide +kernel
theorem dX0_clear_10 : decode cX0_clear 10 = .ok (.invokestatic 43, 3) := by decide +kernel
theorem dX0_clear_13 : decode cX0_clear 13 = .ok (.aload_n 0, 1) := by decide +kernel
theorem dX0_clear_14 : decode cX0_clear 14 = .ok (.iconst 0, 1) := by decide +kernel
theorem dX0_clear_15 : decode cX0_clear 15 = .ok (.putfield 49, 3) := by decide +kernel
theorem dX0_clear_18 : decode cX0_clear 18 = .ok (.aload_n 0, 1) := by decide +kernel
theorem dX0_clear_19 : decode cX0_clear 19 = .ok (.iconst 0, 1) := by decide +kernel
theorem dX0_clear_20 : decode cX0_clear 20 = .ok (.putfield 52, 3) := by decide +kernel
theorem dX0_clear_23 : decode cX0_clear 23 = .ok (.aload_n 0, 1) := by decide +kernel
theorem dX0_clear_24 : decode cX0_clear 24 = .ok (.iconst 0, 1) := by decide +kernel
theorem dX0_clear_25 : decode cX0_clear 25 = .ok (.putfield 55, 3) := by decide +kernel
theorem dX0_clear_28 : decode cX0_clear 28 = .ok (.return_, 1) := by decide +kernel
theorem dX0_become_0 : decode cX0_become 0 = .ok (.aload_n 1, 1) := by decide +kernel
theorem dX0_become_1 : decode cX0_become 1 = .ok (.getfield 9, 3) := by decide +kernel
theorem dX0_become_4 : decode cX0_become 4 = .ok (.iconst 0, 1) := by decide +kernel
theorem dX0_become_5 : decode cX0_become 5 = .ok (.aload_n 0, 1) := by decide +kernel
theorem dX0_become_6 : decode cX0_become 6 = .ok (.getfield 9, 3) := by decide +kernel
theorem dX0_become_9 : decode cX0_become 9 = .ok (.iconst 0, 1) := by decide +kernel
theorem dX0_become_10 : decode cX0_become 10 = .ok (.iconst 4, 1) := by decide +kernel
theorem dX0_become_11 : decode cX0_become 11 = .ok (.invokestatic 43, 3) := by decide +kernel
theorem dX0_become_14 : decode cX0_become 14 = .ok (.aload_n 1, 1) := by decide +kernel
theorem dX0_become_15 : decode cX0_become 15 = .ok (.getfield 15, 3) := by decide +kernel
theorem dX0_become_18 : decode cX0_become 18 = .ok (.iconst 0, 1) := by decide +kernel
theorem dX0_become_19 : decode cX0_become 19 = .ok (.aload_n 0, 1) := by decide +kernel
theorem dX0_become_20 : decode cX0_become 20 = .ok (.getfield 15, 3) := by decide +kernel
theorem dX0_become_23 : decode cX0_become 23 = .ok (.iconst 0, 1) := by decide +kernel
theorem dX0_become_24 : decode cX0_become 24 = .ok (.bipush 8, 2) := by decide +kernel
theorem dX0_become_26 : decode cX0_become 26 = .ok (.invokestatic 43, 3) := by decide +kernel
theorem dX0_become_29 : decode cX0_become 29 = .ok (.aload_n 1, 1) := by decide +kernel
theorem dX0_become_30 : decode cX0_become 30 = .ok (.getfield 18, 3) := by decide +kernel
theorem dX0_become_33 : decode cX0_become 33 = .ok (.iconst 0, 1) := by decide +kernel
theorem dX0_become_34 : decode cX0_become 34 = .ok (.aload_n 0, 1) := by decide +kernel
theorem dX0_become_35 : decode cX0_become 35 = .ok (.getfield 18, 3) := by decide +kernel
theorem dX0_become_38 : decode cX0_become 38 = .ok (.iconst 0, 1) := by decide +kernel
theorem dX0_become_39 : decode cX0_become 39 = .ok (.bipush 8, 2) := by decide +kernel
theorem dX0_become_41 : decode cX0_become 41 = .ok (.invokestatic 43, 3) := by decide +kernel
theorem dX0_become_44 : decode cX0_become 44 = .ok (.aload_n 1, 1) := by decide +kernel
theorem dX0_become_45 : decode cX0_become 45 = .ok (.getfield 21, 3) := by decide +kernel
theorem dX0_become_48 : decode cX0_become 48 = .ok (.iconst 0, 1) := by decide +kernel
theorem dX0_become_49 : decode cX0_become 49 = .ok (.aload_n 0, 1) := by decide +kernel
theorem dX0_become_50 : decode cX0_become 50 = .ok (.getfield 21, 3) := by decide +kernel
theorem dX0_become_53 : decode cX0_become 53 = .ok (.iconst 0, 1) := by decide +kernel
theorem dX0_become_54 : decode cX0_become 54 = .ok (.bipush 8, 2) := by decide +kernel
theorem dX0_become_56 : decode cX0_become 56 = .ok (.invokestatic 43, 3) := by decide +kernel
theorem dX0_become_59 : decode cX0_become 59 = .ok (.aload_n 1, 1) := by decide +kernel
theorem dX0_become_60 : decode cX0_become 60 = .ok (.getfield 24, 3) := by decide +kernel
theorem dX0_become_63 : decode cX0_become 63 = .ok (.iconst 0, 1) := by decide +kernel
theorem dX0_become_64 : decode cX0_become 64 = .ok (.aload_n 0, 1) := by decide +kernel
theorem dX0_become_65 : decode cX0_become 65 = .ok (.getfield 24, 3) := by decide +kernel
theorem dX0_become_68 : decode cX0_become 68 = .ok (.iconst 0, 1) := by decide +kernel
theorem dX0_become_69 : decode cX0_become 69 = .ok (.bipush 8, 2) := by decide +kernel
theorem dX0_become_71 : decode cX0_become 71 = .ok (.invokestatic 43, 3) := by decide +kernel
theorem dX0_become_74 : decode cX0_become 74 = .ok (.aload_n 0, 1) := by decide +kernel
theorem dX0_become_75 : decode cX0_become 75 = .ok (.aload_n 1, 1) := by decide +kernel
theorem dX0_become_76 : decode cX0_become 76 = .ok (.getfield 49, 3) := by decide +kernel
theorem dX0_become_79 : decode cX0_become 79 = .ok (.putfield 49, 3) := by decide +kernel
theorem dX0_become_82 : decode cX0_become 82 = .ok (.aload_n 0, 1) := by decide +kernel
theorem dX0_become_83 : decode cX0_become 83 = .ok (.aload_n 1, 1) := by decide +kernel
theorem dX0_become_84 : decode cX0_become 84 = .ok (.getfield 52, 3) := by decide +kernel
theorem dX0_become_87 : decode cX0_become 87 = .ok (.putfield 52, 3) := by decide +kernel
theorem dX0_become_90 : decode cX0_become 90 = .ok (.aload_n 0, 1) := by decide +kernel
theorem dX0_become_91 : decode cX0_become 91 = .ok (.aload_n 1, 1) := by decide +kernel
theorem dX0_become_92 : decode cX0_become 92 = .ok (.getfield 55, 3) := by decide +kernel
theorem dX0_become_95 : decode cX0_become 95 = .ok (.putfield 55, 3) := by decide +kernel
theorem dX0_become_98 : decode cX0_become 98 = .ok (.aload_n 0, 1) := by decide +kernel
theorem dX0_become_99 : decode cX0_become 99 = .ok (.aload_n 1, 1) := by decide +kernel
theorem dX0_become_100 : decode cX0_become 100 = .ok (.getfield 33, 3) := by decide +kernel
theorem dX0_become_103 : decode cX0_become 103 = .ok (.putfield 33, 3) := by decide +kernel
theorem dX0_become_106 : decode cX0_become 106 = .ok (.return_, 1) := by decide +kernel
set_option maxRecDepth 20000 in
theorem ggX0_has_X4_within : GoodIn wsX0_has wsX4_within := goodIn_r _ [4] (by decide +kernel) (by decide +kernel)
set_option maxRecDepth 20000 in
theorem gX0_has_X4_within_n58 : GoodIn wsX0_has (wsX4_within) := ggX0_has_X4_within
theorem dX0_has_0 : decode cX0_has 0 = .ok (.iload_n 1, 1) := by decide +kernel
theorem dX0_has_1 : decode cX0_has 1 = .ok (.iconst 0, 1) := by decide +kernel
theorem dX0_has_2 : decode cX0_has 2 = .ok (.aload_n 0, 1) := by decide +kernel
theorem dX0_has_3 : decode cX0_has 3 = .ok (.getfield 49, 3) := by decide +kernel
theorem dX0_has_6 : decode cX0_has 6 = .ok (.iconst 1, 1) := by decide +kernel
theorem dX0_has_7 : decode cX0_has 7 = .ok (.isub, 1) := by decide +kernel
theorem dX0_has_8 : decode cX0_has 8 = .ok (.invokestatic 58, 3) := by decide +kernel
theorem dX0_has_11 : decode cX0_has 11 = .ok (.ireturn, 1) := by decide +kernel
set_option maxRecDepth 20000 in
theorem ggX0_admit_X0_letClap : GoodIn wsX0_admit wsX0_letClap := goodIn_r _ [10, 11, 12, 13, 14, 15, 16, 17, 18, 19, 20, 21, 22] (by decide +kernel) (by decide +kernel)
set_option maxRecDepth 20000 in
theorem gX0_admit_X0_letClap : GoodIn wsX0_admit (wsV RX0 62 RX0 yX0_letClap wsX0_letClap) := goodIn_app (goodIn_of _ (by decide +kernel)) ggX0_admit_X0_letClap
theorem dX0_admit_0 : decode cX0_admit 0 = .ok (.aload_n 0, 1) := by decide +kernel
theorem dX0_admit_1 : decode cX0_admit 1 = .ok (.getfield 49, 3) := by decide +kernel
theorem dX0_admit_4 : decode cX0_admit 4 = .ok (.bipush 8, 2) := by decide +kernel
theorem dX0_admit_6 : decode cX0_admit 6 = .ok (.if_icmp .lt 4, 3) := by decide +kernel
theorem dX0_admit_9 : decode cX0_admit 9 = .ok (.return_, 1) := by decide +kernel
theorem dX0_admit_10 : decode cX0_admit 10 = .ok (.aload_n 0, 1) := by decide +kernel
theorem dX0_admit_11 : decode cX0_admit 11 = .ok (.getfield 15, 3) := by decide +kernel
theorem dX0_admit_14 : decode cX0_admit 14 = .ok (.aload_n 0, 1) := by decide +kernel
theorem dX0_admit_15 : decode cX0_admit 15 = .ok (.getfield 49, 3) := by decide +kernel
theorem dX0_admit_18 : decode cX0_admit 18 = .ok (.iload_n 1, 1) := by decide +kernel
theorem dX0_admit_19 : decode cX0_admit 19 = .ok (.iastore, 1) := by decide +kernel
theorem dX0_admit_20 : decode cX0_admit 20 = .ok (.aload_n 0, 1) := by decide +kernel
theorem dX0_admit_21 : decode cX0_admit 21 = .ok (.getfield 18, 3) := by decide +kernel
theorem dX0_admit_24 : decode cX0_admit 24 = .ok (.aload_n 0, 1) := by decide +kernel
theorem dX0_admit_25 : decode cX0_admit 25 = .ok (.getfield 49, 3) := by decide +kernel
theorem dX0_admit_28 : decode cX0_admit 28 = .ok (.iload_n 2, 1) := by decide +kernel
theorem dX0_admit_29 : decode cX0_admit 29 = .ok (.iastore, 1) := by decide +kernel
theorem dX0_admit_30 : decode cX0_admit 30 = .ok (.aload_n 0, 1) := by decide +kernel
theorem dX0_admit_31 : decode cX0_admit 31 = .ok (.getfield 21, 3) := by decide +kernel
theorem dX0_admit_34 : decode cX0_admit 34 = .ok (.aload_n 0, 1) := by decide +kernel
theorem dX0_admit_35 : decode cX0_admit 35 = .ok (.getfield 49, 3) := by decide +kernel
theorem dX0_admit_38 : decode cX0_admit 38 = .ok (.iload_n 3, 1) := by decide +kernel
theorem dX0_admit_39 : decode cX0_admit 39 = .ok (.iastore, 1) := by decide +kernel
theorem dX0_admit_40 : decode cX0_admit 40 = .ok (.aload_n 0, 1) := by decide +kernel
theorem dX0_admit_41 : decode cX0_admit 41 = .ok (.getfield 24, 3) := by decide +kernel
theorem dX0_admit_44 : decode cX0_admit 44 = .ok (.aload_n 0, 1) := by decide +kernel
theorem dX0_admit_45 : decode cX0_admit 45 = .ok (.getfield 49, 3) := by decide +kernel
theorem dX0_admit_48 : decode cX0_admit 48 = .ok (.iload 4, 2) := by decide +kernel
theorem dX0_admit_50 : decode cX0_admit 50 = .ok (.iastore, 1) := by decide +kernel
theorem dX0_admit_51 : decode cX0_admit 51 = .ok (.aload_n 0, 1) := by decide +kernel
theorem dX0_admit_52 : decode cX0_admit 52 = .ok (.aload_n 0, 1) := by decide +kernel
theorem dX0_admit_53 : decode cX0_admit 53 = .ok (.getfield 49, 3) := by decide +kernel
theorem dX0_admit_56 : decode cX0_admit 56 = .ok (.iload 5, 2) := by decide +kernel
theorem dX0_admit_58 : decode cX0_admit 58 = .ok (.invokevirtual 62, 3) := by decide +kernel
theorem dX0_admit_61 : decode cX0_admit 61 = .ok (.aload_n 0, 1) := by decide +kernel
theorem dX0_admit_62 : decode cX0_admit 62 = .ok (.dup, 1) := by decide +kernel
theorem dX0_admit_63 : decode cX0_admit 63 = .ok (.getfield 49, 3) := by decide +kernel
theorem dX0_admit_66 : decode cX0_admit 66 = .ok (.iconst 1, 1) := by decide +kernel
theorem dX0_admit_67 : decode cX0_admit 67 = .ok (.iadd, 1) := by decide +kernel
theorem dX0_admit_68 : decode cX0_admit 68 = .ok (.putfield 49, 3) := by decide +kernel
theorem dX0_admit_71 : decode cX0_admit 71 = .ok (.return_, 1) := by decide +kernel
theorem dX0_doesClap_0 : decode cX0_doesClap 0 = .ok (.aload_n 0, 1) := by decide +kernel
theorem dX0_doesClap_1 : decode cX0_doesClap 1 = .ok (.getfield 52, 3) := by decide +kernel
theorem dX0_doesClap_4 : decode cX0_doesClap 4 = .ok (.iconst 1, 1) := by decide +kernel
theorem dX0_doesClap_5 : decode cX0_doesClap 5 = .ok (.iload_n 1, 1) := by decide +kernel
theorem dX0_doesClap_6 : decode cX0_doesClap 6 = .ok (.ishl, 1) := by decide +kernel
theorem dX0_doesClap_7 : decode cX0_doesClap 7 = .ok (.iand, 1) := by decide +kernel
theorem dX0_doesClap_8 : decode cX0_doesClap 8 = .ok (.ifCond .eq 7, 3) := by decide +kernel
theorem dX0_doesClap_11 : decode cX0_doesClap 11 = .ok (.iconst 1, 1) := by decide +kernel
theorem dX0_doesClap_12 : decode cX0_doesClap 12 = .ok (.goto 4, 3) := by decide +kernel
theorem dX0_doesClap_15 : decode cX0_doesClap 15 = .ok (.iconst 0, 1) := by decide +kernel
theorem dX0_doesClap_16 : decode cX0_doesClap 16 = .ok (.ireturn, 1) := by decide +kernel
theorem dX0_letClap_0 : decode cX0_letClap 0 = .ok (.aload_n 0, 1) := by decide +kernel
theorem dX0_letClap_1 : decode cX0_letClap 1 = .ok (.iload_n 2, 1) := by decide +kernel
theorem dX0_letClap_2 : decode cX0_letClap 2 = .ok (.ifCond .eq 14, 3) := by decide +kernel
theorem dX0_letClap_5 : decode cX0_letClap 5 = .ok (.aload_n 0, 1) := by decide +kernel
theorem dX0_letClap_6 : decode cX0_letClap 6 = .ok (.getfield 52, 3) := by decide +kernel
theorem dX0_letClap_9 : decode cX0_letClap 9 = .ok (.iconst 1, 1) := by decide +kernel
theorem dX0_letClap_10 : decode cX0_letClap 10 = .ok (.iload_n 1, 1) := by decide +kernel
theorem dX0_letClap_11 : decode cX0_letClap 11 = .ok (.ishl, 1) := by decide +kernel
theorem dX0_letClap_12 : decode cX0_letClap 12 = .ok (.ior, 1) := by decide +kernel
theorem dX0_letClap_13 : decode cX0_letClap 13 = .ok (.goto 13, 3) := by decide +kernel
theorem dX0_letClap_16 : decode cX0_letClap 16 = .ok (.aload_n 0, 1) := by decide +kernel
theorem dX0_letClap_17 : decode cX0_letClap 17 = .ok (.getfield 52, 3) := by decide +kernel
theorem dX0_letClap_20 : decode cX0_letClap 20 = .ok (.iconst 1, 1) := by decide +kernel
theorem dX0_letClap_21 : decode cX0_letClap 21 = .ok (.iload_n 1, 1) := by decide +kernel
theorem dX0_letClap_22 : decode cX0_letClap 22 = .ok (.ishl, 1) := by decide +kernel
theorem dX0_letClap_23 : decode cX0_letClap 23 = .ok (.iconst (-1), 1) := by decide +kernel
theorem dX0_letClap_24 : decode cX0_letClap 24 = .ok (.ixor, 1) := by decide +kernel
theorem dX0_letClap_25 : decode cX0_letClap 25 = .ok (.iand, 1) := by decide +kernel
theorem dX0_letClap_26 : decode cX0_letClap 26 = .ok (.putfield 52, 3) := by decide +kernel
theorem dX0_letClap_29 : decode cX0_letClap 29 = .ok (.return_, 1) := by decide +kernel
theorem dX0_everybody_0 : decode cX0_everybody 0 = .ok (.iconst 1, 1) := by decide +kernel
theorem dX0_everybody_1 : decode cX0_everybody 1 = .ok (.aload_n 0, 1) := by decide +kernel
theorem dX0_everybody_2 : decode cX0_everybody 2 = .ok (.getfield 49, 3) := by decide +kernel
theorem dX0_everybody_5 : decode cX0_everybody 5 = .ok (.ishl, 1) := by decide +kernel
theorem dX0_everybody_6 : decode cX0_everybody 6 = .ok (.iconst 1, 1) := by decide +kernel
theorem dX0_everybody_7 : decode cX0_everybody 7 = .ok (.isub, 1) := by decide +kernel
theorem dX0_everybody_8 : decode cX0_everybody 8 = .ok (.ireturn, 1) := by decide +kernel
theorem dX0_inside_0 : decode cX0_inside 0 = .ok (.iconst 0, 1) := by decide +kernel
theorem dX0_inside_1 : decode cX0_inside 1 = .ok (.istore_n 2, 1) := by decide +kernel
theorem dX0_inside_2 : decode cX0_inside 2 = .ok (.iconst 0, 1) := by decide +kernel
theorem dX0_inside_3 : decode cX0_inside 3 = .ok (.istore_n 3, 1) := by decide +kernel
theorem dX0_inside_4 : decode cX0_inside 4 = .ok (.iload_n 3, 1) := by decide +kernel
theorem dX0_inside_5 : decode cX0_inside 5 = .ok (.aload_n 0, 1) := by decide +kernel
theorem dX0_inside_6 : decode cX0_inside 6 = .ok (.getfield 49, 3) := by decide +kernel
theorem dX0_inside_9 : decode cX0_inside 9 = .ok (.if_icmp .ge 25, 3) := by decide +kernel
theorem dX0_inside_12 : decode cX0_inside 12 = .ok (.aload_n 0, 1) := by decide +kernel
theorem dX0_inside_13 : decode cX0_inside 13 = .ok (.getfield 24, 3) := by decide +kernel
theorem dX0_inside_16 : decode cX0_inside 16 = .ok (.iload_n 3, 1) := by decide +kernel
theorem dX0_inside_17 : decode cX0_inside 17 = .ok (.iaload, 1) := by decide +kernel
theorem dX0_inside_18 : decode cX0_inside 18 = .ok (.iload_n 1, 1) := by decide +kernel
theorem dX0_inside_19 : decode cX0_inside 19 = .ok (.if_icmp .ne 9, 3) := by decide +kernel
theorem dX0_inside_22 : decode cX0_inside 22 = .ok (.iload_n 2, 1) := by decide +kernel
theorem dX0_inside_23 : decode cX0_inside 23 = .ok (.iconst 1, 1) := by decide +kernel
theorem dX0_inside_24 : decode cX0_inside 24 = .ok (.iload_n 3, 1) := by decide +kernel
theorem dX0_inside_25 : decode cX0_inside 25 = .ok (.ishl, 1) := by decide +kernel
theorem dX0_inside_26 : decode cX0_inside 26 = .ok (.ior, 1) := by decide +kernel
theorem dX0_inside_27 : decode cX0_inside 27 = .ok (.istore_n 2, 1) := by decide +kernel
theorem dX0_inside_28 : decode cX0_inside 28 = .ok (.iinc 3 1, 3) := by decide +kernel
theorem dX0_inside_31 : decode cX0_inside 31 = .ok (.goto (-27), 3) := by decide +kernel
theorem dX0_inside_34 : decode cX0_inside 34 = .ok (.iload_n 2, 1) := by decide +kernel
theorem dX0_inside_35 : decode cX0_inside 35 = .ok (.ireturn, 1) := by decide +kernel
theorem dX0_roomsTaken_0 : decode cX0_roomsTaken 0 = .ok (.iconst 0, 1) := by decide +kernel
theorem dX0_roomsTaken_1 : decode cX0_roomsTaken 1 = .ok (.istore_n 1, 1) := by decide +kernel
theorem dX0_roomsTaken_2 : decode cX0_roomsTaken 2 = .ok (.iconst 0, 1) := by decide +kernel
theorem dX0_roomsTaken_3 : decode cX0_roomsTaken 3 = .ok (.istore_n 2, 1) := by decide +kernel
theorem dX0_roomsTaken_4 : decode cX0_roomsTaken 4 = .ok (.iload_n 2, 1) := by decide +kernel
theorem dX0_roomsTaken_5 : decode cX0_roomsTaken 5 = .ok (.aload_n 0, 1) := by decide +kernel
theorem dX0_roomsTaken_6 : decode cX0_roomsTaken 6 = .ok (.getfield 49, 3) := by decide +kernel
theorem dX0_roomsTaken_9 : decode cX0_roomsTaken 9 = .ok (.if_icmp .ge 20, 3) := by decide +kernel
theorem dX0_roomsTaken_12 : decode cX0_roomsTaken 12 = .ok (.iload_n 1, 1) := by decide +kernel
theorem dX0_roomsTaken_13 : decode cX0_roomsTaken 13 = .ok (.iconst 1, 1) := by decide +kernel
theorem dX0_roomsTaken_14 : decode cX0_roomsTaken 14 = .ok (.aload_n 0, 1) := by decide +kernel
theorem dX0_roomsTaken_15 : decode cX0_roomsTaken 15 = .ok (.getfield 24, 3) := by decide +kernel
theorem dX0_roomsTaken_18 : decode cX0_roomsTaken 18 = .ok (.iload_n 2, 1) := by decide +kernel
theorem dX0_roomsTaken_19 : decode cX0_roomsTaken 19 = .ok (.iaload, 1) := by decide +kernel
theorem dX0_roomsTaken_20 : decode cX0_roomsTaken 20 = .ok (.ishl, 1) := by decide +kernel
theorem dX0_roomsTaken_21 : decode cX0_roomsTaken 21 = .ok (.ior, 1) := by decide +kernel
theorem dX0_roomsTaken_22 : decode cX0_roomsTaken 22 = .ok (.istore_n 1, 1) := by decide +kernel
theorem dX0_roomsTaken_23 : decode cX0_roomsTaken 23 = .ok (.iinc 2 1, 3) := by decide +kernel
theorem dX0_roomsTaken_26 : decode cX0_roomsTaken 26 = .ok (.goto (-22), 3) := by decide +kernel
theorem dX0_roomsTaken_29 : decode cX0_roomsTaken 29 = .ok (.iload_n 1, 1) := by decide +kernel
theorem dX0_roomsTaken_30 : decode cX0_roomsTaken 30 = .ok (.ireturn, 1) := by decide +kernel
theorem dX0_proudest_0 : decode cX0_proudest 0 = .ok (.iconst 0, 1) := by decide +kernel
theorem dX0_proudest_1 : decode cX0_proudest 1 = .ok (.istore_n 1, 1) := by decide +kernel
theorem dX0_proudest_2 : decode cX0_proudest 2 = .ok (.iconst 0, 1) := by decide +kernel
theorem dX0_proudest_3 : decode cX0_proudest 3 = .ok (.istore_n 2, 1) := by decide +kernel
theorem dX0_proudest_4 : decode cX0_proudest 4 = .ok (.iload_n 2, 1) := by decide +kernel
theorem dX0_proudest_5 : decode cX0_proudest 5 = .ok (.aload_n 0, 1) := by decide +kernel
theorem dX0_proudest_6 : decode cX0_proudest 6 = .ok (.getfield 49, 3) := by decide +kernel
theorem dX0_proudest_9 : decode cX0_proudest 9 = .ok (.if_icmp .ge 23, 3) := by decide +kernel
theorem dX0_proudest_12 : decode cX0_proudest 12 = .ok (.aload_n 0, 1) := by decide +kernel
theorem dX0_proudest_13 : decode cX0_proudest 13 = .ok (.getfield 18, 3) := by decide +kernel
theorem dX0_proudest_16 : decode cX0_proudest 16 = .ok (.iload_n 2, 1) := by decide +kernel
theorem dX0_proudest_17 : decode cX0_proudest 17 = .ok (.iaload, 1) := by decide +kernel
theorem dX0_proudest_18 : decode cX0_proudest 18 = .ok (.bipush 99, 2) := by decide +kernel
theorem dX0_proudest_20 : decode cX0_proudest 20 = .ok (.if_icmp .ne 6, 3) := by decide +kernel
theorem dX0_proudest_23 : decode cX0_proudest 23 = .ok (.iinc 1 1, 3) := by decide +kernel
theorem dX0_proudest_26 : decode cX0_proudest 26 = .ok (.iinc 2 1, 3) := by decide +kernel
theorem dX0_proudest_29 : decode cX0_proudest 29 = .ok (.goto (-25), 3) := by decide +kernel
theorem dX0_proudest_32 : decode cX0_proudest 32 = .ok (.iload_n 1, 1) := by decide +kernel
theorem dX0_proudest_33 : decode cX0_proudest 33 = .ok (.ireturn, 1) := by decide +kernel
theorem dX0_sum_0 : decode cX0_sum 0 = .ok (.iconst 0, 1) := by decide +kernel
theorem dX0_sum_1 : decode cX0_sum 1 = .ok (.istore_n 2, 1) := by decide +kernel
theorem dX0_sum_2 : decode cX0_sum 2 = .ok (.iconst 0, 1) := by decide +kernel
theorem dX0_sum_3 : decode cX0_sum 3 = .ok (.istore_n 3, 1) := by decide +kernel
theorem dX0_sum_4 : decode cX0_sum 4 = .ok (.iload_n 3, 1) := by decide +kernel
theorem dX0_sum_5 : decode cX0_sum 5 = .ok (.aload_n 0, 1) := by decide +kernel
theorem dX0_sum_6 : decode cX0_sum 6 = .ok (.getfield 49, 3) := by decide +kernel
theorem dX0_sum_9 : decode cX0_sum 9 = .ok (.if_icmp .ge 21, 3) := by decide +kernel
theorem dX0_sum_12 : decode cX0_sum 12 = .ok (.iload_n 3, 1) := by decide +kernel
theorem dX0_sum_13 : decode cX0_sum 13 = .ok (.aload_n 1, 1) := by decide +kernel
theorem dX0_sum_14 : decode cX0_sum 14 = .ok (.arraylength, 1) := by decide +kernel
theorem dX0_sum_15 : decode cX0_sum 15 = .ok (.if_icmp .ge 15, 3) := by decide +kernel
theorem dX0_sum_18 : decode cX0_sum 18 = .ok (.iload_n 2, 1) := by decide +kernel
theorem dX0_sum_19 : decode cX0_sum 19 = .ok (.aload_n 1, 1) := by decide +kernel
theorem dX0_sum_20 : decode cX0_sum 20 = .ok (.iload_n 3, 1) := by decide +kernel
theorem dX0_sum_21 : decode cX0_sum 21 = .ok (.iaload, 1) := by decide +kernel
theorem dX0_sum_22 : decode cX0_sum 22 = .ok (.iadd, 1) := by decide +kernel
theorem dX0_sum_23 : decode cX0_sum 23 = .ok (.istore_n 2, 1) := by decide +kernel
theorem dX0_sum_24 : decode cX0_sum 24 = .ok (.iinc 3 1, 3) := by decide +kernel
theorem dX0_sum_27 : decode cX0_sum 27 = .ok (.goto (-23), 3) := by decide +kernel
theorem dX0_sum_30 : decode cX0_sum 30 = .ok (.iload_n 2, 1) := by decide +kernel
theorem dX0_sum_31 : decode cX0_sum 31 = .ok (.ireturn, 1) := by decide +kernel
theorem dX0_loud_0 : decode cX0_loud 0 = .ok (.iconst 1, 1) := by decide +kernel
theorem dX0_loud_1 : decode cX0_loud 1 = .ok (.aload_n 0, 1) := by decide +kernel
theorem dX0_loud_2 : decode cX0_loud 2 = .ok (.getfield 21, 3) := by decide +kernel
theorem dX0_loud_5 : decode cX0_loud 5 = .ok (.iload_n 1, 1) := by decide +kernel
theorem dX0_loud_6 : decode cX0_loud 6 = .ok (.iaload, 1) := by decide +kernel
theorem dX0_loud_7 : decode cX0_loud 7 = .ok (.iconst 3, 1) := by decide +kernel
theorem dX0_loud_8 : decode cX0_loud 8 = .ok (.idiv, 1) := by decide +kernel
theorem dX0_loud_9 : decode cX0_loud 9 = .ok (.iadd, 1) := by decide +kernel
theorem dX0_loud_10 : decode cX0_loud 10 = .ok (.istore_n 2, 1) := by decide +kernel
theorem dX0_loud_11 : decode cX0_loud 11 = .ok (.aload_n 0, 1) := by decide +kernel
theorem dX0_loud_12 : decode cX0_loud 12 = .ok (.getfield 15, 3) := by decide +kernel
theorem dX0_loud_15 : decode cX0_loud 15 = .ok (.iload_n 1, 1) := by decide +kernel
theorem dX0_loud_16 : decode cX0_loud 16 = .ok (.iaload, 1) := by decide +kernel
theorem dX0_loud_17 : decode cX0_loud 17 = .ok (.tableswitch 77 1 5 #[35, 45, 39, 54, 73], 35) := by decide +kernel
theorem dX0_loud_52 : decode cX0_loud 52 = .ok (.iload_n 2, 1) := by decide +kernel
theorem dX0_loud_53 : decode cX0_loud 53 = .ok (.iconst 1, 1) := by decide +kernel
theorem dX0_loud_54 : decode cX0_loud 54 = .ok (.iadd, 1) := by decide +kernel
theorem dX0_loud_55 : decode cX0_loud 55 = .ok (.ireturn, 1) := by decide +kernel
theorem dX0_loud_56 : decode cX0_loud 56 = .ok (.iload_n 2, 1) := by decide +kernel
theorem dX0_loud_57 : decode cX0_loud 57 = .ok (.iconst 1, 1) := by decide +kernel
theorem dX0_loud_58 : decode cX0_loud 58 = .ok (.iadd, 1) := by decide +kernel
theorem dX0_loud_59 : decode cX0_loud 59 = .ok (.iconst 2, 1) := by decide +kernel
theorem dX0_loud_60 : decode cX0_loud 60 = .ok (.imul, 1) := by decide +kernel
theorem dX0_loud_61 : decode cX0_loud 61 = .ok (.ireturn, 1) := by decide +kernel
theorem dX0_loud_62 : decode cX0_loud 62 = .ok (.iload_n 2, 1) := by decide +kernel
theorem dX0_loud_63 : decode cX0_loud 63 = .ok (.aload_n 0, 1) := by decide +kernel
theorem dX0_loud_64 : decode cX0_loud 64 = .ok (.getfield 9, 3) := by decide +kernel
theorem dX0_loud_67 : decode cX0_loud 67 = .ok (.iconst 0, 1) := by decide +kernel
theorem dX0_loud_68 : decode cX0_loud 68 = .ok (.iaload, 1) := by decide +kernel
theorem dX0_loud_69 : decode cX0_loud 69 = .ok (.iadd, 1) := by decide +kernel
theorem dX0_loud_70 : decode cX0_loud 70 = .ok (.ireturn, 1) := by decide +kernel
theorem dX0_loud_71 : decode cX0_loud 71 = .ok (.iload_n 2, 1) := by decide +kernel
theorem dX0_loud_72 : decode cX0_loud 72 = .ok (.aload_n 0, 1) := by decide +kernel
theorem dX0_loud_73 : decode cX0_loud 73 = .ok (.getfield 9, 3) := by decide +kernel
theorem dX0_loud_76 : decode cX0_loud 76 = .ok (.iconst 0, 1) := by decide +kernel
theorem dX0_loud_77 : decode cX0_loud 77 = .ok (.iaload, 1) := by decide +kernel
theorem dX0_loud_78 : decode cX0_loud 78 = .ok (.iadd, 1) := by decide +kernel
theorem dX0_loud_79 : decode cX0_loud 79 = .ok (.aload_n 0, 1) := by decide +kernel
theorem dX0_loud_80 : decode cX0_loud 80 = .ok (.getfield 18, 3) := by decide +kernel
theorem dX0_loud_83 : decode cX0_loud 83 = .ok (.iload_n 1, 1) := by decide +kernel
theorem dX0_loud_84 : decode cX0_loud 84 = .ok (.iaload, 1) := by decide +kernel
theorem dX0_loud_85 : decode cX0_loud 85 = .ok (.bipush 10, 2) := by decide +kernel
theorem dX0_loud_87 : decode cX0_loud 87 = .ok (.idiv, 1) := by decide +kernel
theorem dX0_loud_88 : decode cX0_loud 88 = .ok (.iadd, 1) := by decide +kernel
theorem dX0_loud_89 : decode cX0_loud 89 = .ok (.ireturn, 1) := by decide +kernel
theorem dX0_loud_90 : decode cX0_loud 90 = .ok (.iconst 0, 1) := by decide +kernel
theorem dX0_loud_91 : decode cX0_loud 91 = .ok (.iload_n 2, 1) := by decide +kernel
theorem dX0_loud_92 : decode cX0_loud 92 = .ok (.isub, 1) := by decide +kernel
theorem dX0_loud_93 : decode cX0_loud 93 = .ok (.ireturn, 1) := by decide +kernel
theorem dX0_loud_94 : decode cX0_loud 94 = .ok (.iload_n 2, 1) := by decide +kernel
theorem dX0_loud_95 : decode cX0_loud 95 = .ok (.ireturn, 1) := by decide +kernel
set_option maxRecDepth 20000 in
theorem ggX0_loudOfAll_X0_doesClap : GoodIn wsX0_loudOfAll wsX0_doesClap := goodIn_r _ [6, 7, 16, 17, 18, 19, 20, 21, 22, 23, 24, 25, 26] (by decide +kernel) (by decide +kernel)
set_option maxRecDepth 20000 in
theorem gX0_loudOfAll_X0_doesClap : GoodIn wsX0_loudOfAll (wsV RX0 66 RX0 yX0_doesClap wsX0_doesClap) := goodIn_app (goodIn_of _ (by decide +kernel)) ggX0_loudOfAll_X0_doesClap
set_option maxRecDepth 20000 in
theorem ggX0_loudOfAll_X0_loud : GoodIn wsX0_loudOfAll wsX0_loud := goodIn_r _ [11, 12, 13, 14, 15, 16, 17, 18, 19, 20, 21, 22, 23, 24, 25, 26] (by decide +kernel) (by decide +kernel)
set_option maxRecDepth 20000 in
theorem gX0_loudOfAll_X0_loud : GoodIn wsX0_loudOfAll (wsV RX0 70 RX0 yX0_loud wsX0_loud) := goodIn_app (goodIn_of _ (by decide +kernel)) ggX0_loudOfAll_X0_loud
theorem dX0_loudOfAll_0 : decode cX0_loudOfAll 0 = .ok (.iconst 0, 1) := by decide +kernel
theorem dX0_loudOfAll_1 : decode cX0_loudOfAll 1 = .ok (.istore_n 1, 1) := by decide +kernel
theorem dX0_loudOfAll_2 : decode cX0_loudOfAll 2 = .ok (.iconst 0, 1) := by decide +kernel
theorem dX0_loudOfAll_3 : decode cX0_loudOfAll 3 = .ok (.istore_n 2, 1) := by decide +kernel
theorem dX0_loudOfAll_4 : decode cX0_loudOfAll 4 = .ok (.iload_n 2, 1) := by decide +kernel
theorem dX0_loudOfAll_5 : decode cX0_loudOfAll 5 = .ok (.aload_n 0, 1) := by decide +kernel
theorem dX0_loudOfAll_6 : decode cX0_loudOfAll 6 = .ok (.getfield 49, 3) := by decide +kernel
theorem dX0_loudOfAll_9 : decode cX0_loudOfAll 9 = .ok (.if_icmp .ge 25, 3) := by decide +kernel
theorem dX0_loudOfAll_12 : decode cX0_loudOfAll 12 = .ok (.aload_n 0, 1) := by decide +kernel
theorem dX0_loudOfAll_13 : decode cX0_loudOfAll 13 = .ok (.iload_n 2, 1) := by decide +kernel
theorem dX0_loudOfAll_14 : decode cX0_loudOfAll 14 = .ok (.invokevirtual 66, 3) := by decide +kernel
theorem dX0_loudOfAll_17 : decode cX0_loudOfAll 17 = .ok (.ifCond .eq 11, 3) := by decide +kernel
theorem dX0_loudOfAll_20 : decode cX0_loudOfAll 20 = .ok (.iload_n 1, 1) := by decide +kernel
theorem dX0_loudOfAll_21 : decode cX0_loudOfAll 21 = .ok (.aload_n 0, 1) := by decide +kernel
theorem dX0_loudOfAll_22 : decode cX0_loudOfAll 22 = .ok (.iload_n 2, 1) := by decide +kernel
theorem dX0_loudOfAll_23 : decode cX0_loudOfAll 23 = .ok (.invokevirtual 70, 3) := by decide +kernel
theorem dX0_loudOfAll_26 : decode cX0_loudOfAll 26 = .ok (.iadd, 1) := by decide +kernel
theorem dX0_loudOfAll_27 : decode cX0_loudOfAll 27 = .ok (.istore_n 1, 1) := by decide +kernel
theorem dX0_loudOfAll_28 : decode cX0_loudOfAll 28 = .ok (.iinc 2 1, 3) := by decide +kernel
theorem dX0_loudOfAll_31 : decode cX0_loudOfAll 31 = .ok (.goto (-27), 3) := by decide +kernel
theorem dX0_loudOfAll_34 : decode cX0_loudOfAll 34 = .ok (.iload_n 1, 1) := by decide +kernel
theorem dX0_loudOfAll_35 : decode cX0_loudOfAll 35 = .ok (.ireturn, 1) := by decide +kernel
set_option maxRecDepth 20000 in
theorem ggX0_needs_X0_isCued : GoodIn wsX0_needs wsX0_isCued := goodIn_r _ [8, 9, 10, 11, 12, 13, 14, 15, 16, 17, 18, 19, 20, 21] (by decide +kernel) (by decide +kernel)
set_option maxRecDepth 20000 in
theorem gX0_needs_X0_isCued : GoodIn wsX0_needs (wsV RX0 74 RX0 yX0_isCued wsX0_isCued) := goodIn_app (goodIn_of _ (by decide +kernel)) ggX0_needs_X0_isCued
theorem dX0_needs_0 : decode cX0_needs 0 = .ok (.aload_n 0, 1) := by decide +kernel
theorem dX0_needs_1 : decode cX0_needs 1 = .ok (.getfield 21, 3) := by decide +kernel
theorem dX0_needs_4 : decode cX0_needs 4 = .ok (.iload_n 1, 1) := by decide +kernel
theorem dX0_needs_5 : decode cX0_needs 5 = .ok (.iaload, 1) := by decide +kernel
theorem dX0_needs_6 : decode cX0_needs 6 = .ok (.istore_n 2, 1) := by decide +kernel
theorem dX0_needs_7 : decode cX0_needs 7 = .ok (.iload_n 2, 1) := by decide +kernel
theorem dX0_needs_8 : decode cX0_needs 8 = .ok (.aload_n 0, 1) := by decide +kernel
theorem dX0_needs_9 : decode cX0_needs 9 = .ok (.getfield 18, 3) := by decide +kernel
theorem dX0_needs_12 : decode cX0_needs 12 = .ok (.iload_n 1, 1) := by decide +kernel
theorem dX0_needs_13 : decode cX0_needs 13 = .ok (.iaload, 1) := by decide +kernel
theorem dX0_needs_14 : decode cX0_needs 14 = .ok (.bipush 10, 2) := by decide +kernel
theorem dX0_needs_16 : decode cX0_needs 16 = .ok (.idiv, 1) := by decide +kernel
theorem dX0_needs_17 : decode cX0_needs 17 = .ok (.isub, 1) := by decide +kernel
theorem dX0_needs_18 : decode cX0_needs 18 = .ok (.istore_n 3, 1) := by decide +kernel
theorem dX0_needs_19 : decode cX0_needs 19 = .ok (.aload_n 0, 1) := by decide +kernel
theorem dX0_needs_20 : decode cX0_needs 20 = .ok (.invokevirtual 74, 3) := by decide +kernel
theorem dX0_needs_23 : decode cX0_needs 23 = .ok (.ifCond .eq 7, 3) := by decide +kernel
theorem dX0_needs_26 : decode cX0_needs 26 = .ok (.iconst 0, 1) := by decide +kernel
theorem dX0_needs_27 : decode cX0_needs 27 = .ok (.goto 4, 3) := by decide +kernel
theorem dX0_needs_30 : decode cX0_needs 30 = .ok (.iload_n 2, 1) := by decide +kernel
theorem dX0_needs_31 : decode cX0_needs 31 = .ok (.istore 4, 2) := by decide +kernel
theorem dX0_needs_33 : decode cX0_needs 33 = .ok (.aload_n 0, 1) := by decide +kernel
theorem dX0_needs_34 : decode cX0_needs 34 = .ok (.getfield 15, 3) := by decide +kernel
theorem dX0_needs_37 : decode cX0_needs 37 = .ok (.iload_n 1, 1) := by decide +kernel
theorem dX0_needs_38 : decode cX0_needs 38 = .ok (.iaload, 1) := by decide +kernel
theorem dX0_needs_39 : decode cX0_needs 39 = .ok (.tableswitch 51 1 5 #[33, 39, 35, 42, 47], 33) := by decide +kernel
theorem dX0_needs_72 : decode cX0_needs 72 = .ok (.iload_n 3, 1) := by decide +kernel
theorem dX0_needs_73 : decode cX0_needs 73 = .ok (.ireturn, 1) := by decide +kernel
theorem dX0_needs_74 : decode cX0_needs 74 = .ok (.iload_n 3, 1) := by decide +kernel
theorem dX0_needs_75 : decode cX0_needs 75 = .ok (.iconst 2, 1) := by decide +kernel
theorem dX0_needs_76 : decode cX0_needs 76 = .ok (.iadd, 1) := by decide +kernel
theorem dX0_needs_77 : decode cX0_needs 77 = .ok (.ireturn, 1) := by decide +kernel
theorem dX0_needs_78 : decode cX0_needs 78 = .ok (.iload 4, 2) := by decide +kernel
theorem dX0_needs_80 : decode cX0_needs 80 = .ok (.ireturn, 1) := by decide +kernel
theorem dX0_needs_81 : decode cX0_needs 81 = .ok (.iload 4, 2) := by decide +kernel
theorem dX0_needs_83 : decode cX0_needs 83 = .ok (.iconst 2, 1) := by decide +kernel
theorem dX0_needs_84 : decode cX0_needs 84 = .ok (.idiv, 1) := by decide +kernel
theorem dX0_needs_85 : decode cX0_needs 85 = .ok (.ireturn, 1) := by decide +kernel
theorem dX0_needs_86 : decode cX0_needs 86 = .ok (.iload_n 2, 1) := by decide +kernel
theorem dX0_needs_87 : decode cX0_needs 87 = .ok (.iconst 3, 1) := by decide +kernel
theorem dX0_needs_88 : decode cX0_needs 88 = .ok (.iadd, 1) := by decide +kernel
theorem dX0_needs_89 : decode cX0_needs 89 = .ok (.ireturn, 1) := by decide +kernel
theorem dX0_needs_90 : decode cX0_needs 90 = .ok (.iload_n 2, 1) := by decide +kernel
theorem dX0_needs_91 : decode cX0_needs 91 = .ok (.ireturn, 1) := by decide +kernel
theorem dX0_isCued_0 : decode cX0_isCued 0 = .ok (.aload_n 0, 1) := by decide +kernel
theorem dX0_isCued_1 : decode cX0_isCued 1 = .ok (.getfield 9, 3) := by decide +kernel
theorem dX0_isCued_4 : decode cX0_isCued 4 = .ok (.iconst 1, 1) := by decide +kernel
theorem dX0_isCued_5 : decode cX0_isCued 5 = .ok (.iaload, 1) := by decide +kernel
theorem dX0_isCued_6 : decode cX0_isCued 6 = .ok (.istore_n 1, 1) := by decide +kernel
theorem dX0_isCued_7 : decode cX0_isCued 7 = .ok (.iload_n 1, 1) := by decide +kernel
theorem dX0_isCued_8 : decode cX0_isCued 8 = .ok (.ifCond .eq 16, 3) := by decide +kernel
theorem dX0_isCued_11 : decode cX0_isCued 11 = .ok (.aload_n 0, 1) := by decide +kernel
theorem dX0_isCued_12 : decode cX0_isCued 12 = .ok (.getfield 55, 3) := by decide +kernel
theorem dX0_isCued_15 : decode cX0_isCued 15 = .ok (.iload_n 1, 1) := by decide +kernel
theorem dX0_isCued_16 : decode cX0_isCued 16 = .ok (.irem, 1) := by decide +kernel
theorem dX0_isCued_17 : decode cX0_isCued 17 = .ok (.ifCond .ne 7, 3) := by decide +kernel
theorem dX0_isCued_20 : decode cX0_isCued 20 = .ok (.iconst 1, 1) := by decide +kernel
theorem dX0_isCued_21 : decode cX0_isCued 21 = .ok (.goto 4, 3) := by decide +kernel
theorem dX0_isCued_24 : decode cX0_isCued 24 = .ok (.iconst 0, 1) := by decide +kernel
theorem dX0_isCued_25 : decode cX0_isCued 25 = .ok (.ireturn, 1) := by decide +kernel
set_option maxRecDepth 20000 in
theorem ggX0_hears_X0_listen : GoodIn wsX0_hears wsX0_listen := goodIn_r _ [6, 7, 8, 9, 1, 10, 11, 12, 5, 13, 14, 15, 16, 17, 18, 19, 20, 21, 22, 23, 24, 25, 26, 27, 28, 29, 30, 31, 32, 33, 34, 35, 36, 37, 38, 39, 40] (by decide +kernel) (by decide +kernel)
set_option maxRecDepth 20000 in
theorem gX0_hears_X0_listen : GoodIn wsX0_hears (wsV RX0 78 RX0 yX0_listen wsX0_listen) := goodIn_app (goodIn_of _ (by decide +kernel)) ggX0_hears_X0_listen
theorem dX0_hears_0 : decode cX0_hears 0 = .ok (.aload_n 0, 1) := by decide +kernel
theorem dX0_hears_1 : decode cX0_hears 1 = .ok (.invokevirtual 78, 3) := by decide +kernel
theorem dX0_hears_4 : decode cX0_hears 4 = .ok (.aload_n 0, 1) := by decide +kernel
theorem dX0_hears_5 : decode cX0_hears 5 = .ok (.getfield 30, 3) := by decide +kernel
theorem dX0_hears_8 : decode cX0_hears 8 = .ok (.iload_n 1, 1) := by decide +kernel
theorem dX0_hears_9 : decode cX0_hears 9 = .ok (.iaload, 1) := by decide +kernel
theorem dX0_hears_10 : decode cX0_hears 10 = .ok (.ireturn, 1) := by decide +kernel
set_option maxRecDepth 20000 in
theorem ggX0_listen_X0_doesClap : GoodIn wsX0_listen wsX0_doesClap := goodIn_r _ [9, 10, 26, 27, 28, 29, 30, 31, 32, 33, 34, 35, 36] (by decide +kernel) (by decide +kernel)
set_option maxRecDepth 20000 in
theorem gX0_listen_X0_doesClap : GoodIn wsX0_listen (wsV RX0 66 RX0 yX0_doesClap wsX0_doesClap) := goodIn_app (goodIn_of _ (by decide +kernel)) ggX0_listen_X0_doesClap
set_option maxRecDepth 20000 in
theorem ggX0_listen_X0_around : GoodIn wsX0_listen wsX0_around := goodIn_r _ [13] (by decide +kernel) (by decide +kernel)
set_option maxRecDepth 20000 in
theorem gX0_listen_X0_around : GoodIn wsX0_listen (va_wsS RX0 81 yX0_around wsX0_around) := goodIn_app (goodIn_of _ (by decide +kernel)) ggX0_listen_X0_around
set_option maxRecDepth 20000 in
theorem ggX0_listen_X0_loud : GoodIn wsX0_listen wsX0_loud := goodIn_r _ [17, 18, 19, 20, 21, 26, 27, 28, 29, 30, 31, 32, 33, 34, 35, 36] (by decide +kernel) (by decide +kernel)
set_option maxRecDepth 20000 in
theorem gX0_listen_X0_loud : GoodIn wsX0_listen (wsV RX0 70 RX0 yX0_loud wsX0_loud) := goodIn_app (goodIn_of _ (by decide +kernel)) ggX0_listen_X0_loud
set_option maxRecDepth 20000 in
theorem ggX0_listen_X0_throughWall : GoodIn wsX0_listen wsX0_throughWall := goodIn_r _ [25, 20, 26, 27, 28, 29, 30, 31, 32, 33, 34, 35, 36] (by decide +kernel) (by decide +kernel)
set_option maxRecDepth 20000 in
theorem gX0_listen_X0_throughWall : GoodIn wsX0_listen (wsV RX0 84 RX0 yX0_throughWall wsX0_throughWall) := goodIn_app (goodIn_of _ (by decide +kernel)) ggX0_listen_X0_throughWall
theorem dX0_listen_0 : decode cX0_listen 0 = .ok (.iconst 0, 1) := by decide +kernel
theorem dX0_listen_1 : decode cX0_listen 1 = .ok (.istore_n 1, 1) := by decide +kernel
theorem dX0_listen_2 : decode cX0_listen 2 = .ok (.iload_n 1, 1) := by decide +kernel
theorem dX0_listen_3 : decode cX0_listen 3 = .ok (.bipush 8, 2) := by decide +kernel
theorem dX0_listen_5 : decode cX0_listen 5 = .ok (.if_icmp .ge 16, 3) := by decide +kernel
theorem dX0_listen_8 : decode cX0_listen 8 = .ok (.aload_n 0, 1) := by decide +kernel
theorem dX0_listen_9 : decode cX0_listen 9 = .ok (.getfield 27, 3) := by decide +kernel
theorem dX0_listen_12 : decode cX0_listen 12 = .ok (.iload_n 1, 1) := by decide +kernel
theorem dX0_listen_13 : decode cX0_listen 13 = .ok (.iconst 0, 1) := by decide +kernel
theorem dX0_listen_14 : decode cX0_listen 14 = .ok (.iastore, 1) := by decide +kernel
theorem dX0_listen_15 : decode cX0_listen 15 = .ok (.iinc 1 1, 3) := by decide +kernel
theorem dX0_listen_18 : decode cX0_listen 18 = .ok (.goto (-16), 3) := by decide +kernel
theorem dX0_listen_21 : decode cX0_listen 21 = .ok (.iconst 0, 1) := by decide +kernel
theorem dX0_listen_22 : decode cX0_listen 22 = .ok (.istore_n 1, 1) := by decide +kernel
theorem dX0_listen_23 : decode cX0_listen 23 = .ok (.iload_n 1, 1) := by decide +kernel
theorem dX0_listen_24 : decode cX0_listen 24 = .ok (.aload_n 0, 1) := by decide +kernel
theorem dX0_listen_25 : decode cX0_listen 25 = .ok (.getfield 49, 3) := by decide +kernel
theorem dX0_listen_28 : decode cX0_listen 28 = .ok (.if_icmp .ge 39, 3) := by decide +kernel
theorem dX0_listen_31 : decode cX0_listen 31 = .ok (.aload_n 0, 1) := by decide +kernel
theorem dX0_listen_32 : decode cX0_listen 32 = .ok (.iload_n 1, 1) := by decide +kernel
theorem dX0_listen_33 : decode cX0_listen 33 = .ok (.invokevirtual 66, 3) := by decide +kernel
theorem dX0_listen_36 : decode cX0_listen 36 = .ok (.ifCond .eq 25, 3) := by decide +kernel
theorem dX0_listen_39 : decode cX0_listen 39 = .ok (.aload_n 0, 1) := by decide +kernel
theorem dX0_listen_40 : decode cX0_listen 40 = .ok (.getfield 27, 3) := by decide +kernel
theorem dX0_listen_43 : decode cX0_listen 43 = .ok (.aload_n 0, 1) := by decide +kernel
theorem dX0_listen_44 : decode cX0_listen 44 = .ok (.getfield 24, 3) := by decide +kernel
theorem dX0_listen_47 : decode cX0_listen 47 = .ok (.iload_n 1, 1) := by decide +kernel
theorem dX0_listen_48 : decode cX0_listen 48 = .ok (.iaload, 1) := by decide +kernel
theorem dX0_listen_49 : decode cX0_listen 49 = .ok (.invokestatic 81, 3) := by decide +kernel
theorem dX0_listen_52 : decode cX0_listen 52 = .ok (.dup2, 1) := by decide +kernel
theorem dX0_listen_53 : decode cX0_listen 53 = .ok (.iaload, 1) := by decide +kernel
theorem dX0_listen_54 : decode cX0_listen 54 = .ok (.aload_n 0, 1) := by decide +kernel
theorem dX0_listen_55 : decode cX0_listen 55 = .ok (.iload_n 1, 1) := by decide +kernel
theorem dX0_listen_56 : decode cX0_listen 56 = .ok (.invokevirtual 70, 3) := by decide +kernel
theorem dX0_listen_59 : decode cX0_listen 59 = .ok (.iadd, 1) := by decide +kernel
theorem dX0_listen_60 : decode cX0_listen 60 = .ok (.iastore, 1) := by decide +kernel
theorem dX0_listen_61 : decode cX0_listen 61 = .ok (.iinc 1 1, 3) := by decide +kernel
theorem dX0_listen_64 : decode cX0_listen 64 = .ok (.goto (-41), 3) := by decide +kernel
theorem dX0_listen_67 : decode cX0_listen 67 = .ok (.iconst 0, 1) := by decide +kernel
theorem dX0_listen_68 : decode cX0_listen 68 = .ok (.istore_n 1, 1) := by decide +kernel
theorem dX0_listen_69 : decode cX0_listen 69 = .ok (.iload_n 1, 1) := by decide +kernel
theorem dX0_listen_70 : decode cX0_listen 70 = .ok (.aload_n 0, 1) := by decide +kernel
theorem dX0_listen_71 : decode cX0_listen 71 = .ok (.getfield 49, 3) := by decide +kernel
theorem dX0_listen_74 : decode cX0_listen 74 = .ok (.if_icmp .ge 89, 3) := by decide +kernel
theorem dX0_listen_77 : decode cX0_listen 77 = .ok (.aload_n 0, 1) := by decide +kernel
theorem dX0_listen_78 : decode cX0_listen 78 = .ok (.getfield 27, 3) := by decide +kernel
theorem dX0_listen_81 : decode cX0_listen 81 = .ok (.aload_n 0, 1) := by decide +kernel
theorem dX0_listen_82 : decode cX0_listen 82 = .ok (.getfield 24, 3) := by decide +kernel
theorem dX0_listen_85 : decode cX0_listen 85 = .ok (.iload_n 1, 1) := by decide +kernel
theorem dX0_listen_86 : decode cX0_listen 86 = .ok (.iaload, 1) := by decide +kernel
theorem dX0_listen_87 : decode cX0_listen 87 = .ok (.invokestatic 81, 3) := by decide +kernel
theorem dX0_listen_90 : decode cX0_listen 90 = .ok (.iaload, 1) := by decide +kernel
theorem dX0_listen_91 : decode cX0_listen 91 = .ok (.aload_n 0, 1) := by decide +kernel
theorem dX0_listen_92 : decode cX0_listen 92 = .ok (.iload_n 1, 1) := by decide +kernel
theorem dX0_listen_93 : decode cX0_listen 93 = .ok (.invokevirtual 66, 3) := by decide +kernel
theorem dX0_listen_96 : decode cX0_listen 96 = .ok (.ifCond .eq 11, 3) := by decide +kernel
theorem dX0_listen_99 : decode cX0_listen 99 = .ok (.aload_n 0, 1) := by decide +kernel
theorem dX0_listen_100 : decode cX0_listen 100 = .ok (.iload_n 1, 1) := by decide +kernel
theorem dX0_listen_101 : decode cX0_listen 101 = .ok (.invokevirtual 70, 3) := by decide +kernel
theorem dX0_listen_104 : decode cX0_listen 104 = .ok (.goto 4, 3) := by decide +kernel
theorem dX0_listen_107 : decode cX0_listen 107 = .ok (.iconst 0, 1) := by decide +kernel
theorem dX0_listen_108 : decode cX0_listen 108 = .ok (.isub, 1) := by decide +kernel
theorem dX0_listen_109 : decode cX0_listen 109 = .ok (.istore_n 2, 1) := by decide +kernel
theorem dX0_listen_110 : decode cX0_listen 110 = .ok (.aload_n 0, 1) := by decide +kernel
theorem dX0_listen_111 : decode cX0_listen 111 = .ok (.getfield 27, 3) := by decide +kernel
theorem dX0_listen_114 : decode cX0_listen 114 = .ok (.aload_n 0, 1) := by decide +kernel
theorem dX0_listen_115 : decode cX0_listen 115 = .ok (.getfield 24, 3) := by decide +kernel
theorem dX0_listen_118 : decode cX0_listen 118 = .ok (.iload_n 1, 1) := by decide +kernel
theorem dX0_listen_119 : decode cX0_listen 119 = .ok (.iaload, 1) := by decide +kernel
theorem dX0_listen_120 : decode cX0_listen 120 = .ok (.iconst 1, 1) := by decide +kernel
theorem dX0_listen_121 : decode cX0_listen 121 = .ok (.iadd, 1) := by decide +kernel
theorem dX0_listen_122 : decode cX0_listen 122 = .ok (.invokestatic 81, 3) := by decide +kernel
theorem dX0_listen_125 : decode cX0_listen 125 = .ok (.iaload, 1) := by decide +kernel
theorem dX0_listen_126 : decode cX0_listen 126 = .ok (.aload_n 0, 1) := by decide +kernel
theorem dX0_listen_127 : decode cX0_listen 127 = .ok (.getfield 27, 3) := by decide +kernel
theorem dX0_listen_130 : decode cX0_listen 130 = .ok (.aload_n 0, 1) := by decide +kernel
theorem dX0_listen_131 : decode cX0_listen 131 = .ok (.getfield 24, 3) := by decide +kernel
theorem dX0_listen_134 : decode cX0_listen 134 = .ok (.iload_n 1, 1) := by decide +kernel
theorem dX0_listen_135 : decode cX0_listen 135 = .ok (.iaload, 1) := by decide +kernel
theorem dX0_listen_136 : decode cX0_listen 136 = .ok (.iconst 1, 1) := by decide +kernel
theorem dX0_listen_137 : decode cX0_listen 137 = .ok (.isub, 1) := by decide +kernel
theorem dX0_listen_138 : decode cX0_listen 138 = .ok (.invokestatic 81, 3) := by decide +kernel
theorem dX0_listen_141 : decode cX0_listen 141 = .ok (.iaload, 1) := by decide +kernel
theorem dX0_listen_142 : decode cX0_listen 142 = .ok (.iadd, 1) := by decide +kernel
theorem dX0_listen_143 : decode cX0_listen 143 = .ok (.istore_n 3, 1) := by decide +kernel
theorem dX0_listen_144 : decode cX0_listen 144 = .ok (.aload_n 0, 1) := by decide +kernel
theorem dX0_listen_145 : decode cX0_listen 145 = .ok (.getfield 30, 3) := by decide +kernel
theorem dX0_listen_148 : decode cX0_listen 148 = .ok (.iload_n 1, 1) := by decide +kernel
theorem dX0_listen_149 : decode cX0_listen 149 = .ok (.iload_n 2, 1) := by decide +kernel
theorem dX0_listen_150 : decode cX0_listen 150 = .ok (.aload_n 0, 1) := by decide +kernel
theorem dX0_listen_151 : decode cX0_listen 151 = .ok (.iload_n 3, 1) := by decide +kernel
theorem dX0_listen_152 : decode cX0_listen 152 = .ok (.invokevirtual 84, 3) := by decide +kernel
theorem dX0_listen_155 : decode cX0_listen 155 = .ok (.iadd, 1) := by decide +kernel
theorem dX0_listen_156 : decode cX0_listen 156 = .ok (.iastore, 1) := by decide +kernel
theorem dX0_listen_157 : decode cX0_listen 157 = .ok (.iinc 1 1, 3) := by decide +kernel
theorem dX0_listen_160 : decode cX0_listen 160 = .ok (.goto (-91), 3) := by decide +kernel
theorem dX0_listen_163 : decode cX0_listen 163 = .ok (.return_, 1) := by decide +kernel
theorem dX0_throughWall_0 : decode cX0_throughWall 0 = .ok (.aload_n 0, 1) := by decide +kernel
theorem dX0_throughWall_1 : decode cX0_throughWall 1 = .ok (.getfield 9, 3) := by decide +kernel
theorem dX0_throughWall_4 : decode cX0_throughWall 4 = .ok (.iconst 2, 1) := by decide +kernel
theorem dX0_throughWall_5 : decode cX0_throughWall 5 = .ok (.iaload, 1) := by decide +kernel
theorem dX0_throughWall_6 : decode cX0_throughWall 6 = .ok (.iconst 1, 1) := by decide +kernel
theorem dX0_throughWall_7 : decode cX0_throughWall 7 = .ok (.iadd, 1) := by decide +kernel
theorem dX0_throughWall_8 : decode cX0_throughWall 8 = .ok (.istore_n 2, 1) := by decide +kernel
theorem dX0_throughWall_9 : decode cX0_throughWall 9 = .ok (.iload_n 2, 1) := by decide +kernel
theorem dX0_throughWall_10 : decode cX0_throughWall 10 = .ok (.ifCond .ne 7, 3) := by decide +kernel
theorem dX0_throughWall_13 : decode cX0_throughWall 13 = .ok (.iconst 0, 1) := by decide +kernel
theorem dX0_throughWall_14 : decode cX0_throughWall 14 = .ok (.goto 6, 3) := by decide +kernel
theorem dX0_throughWall_17 : decode cX0_throughWall 17 = .ok (.iload_n 1, 1) := by decide +kernel
theorem dX0_throughWall_18 : decode cX0_throughWall 18 = .ok (.iload_n 2, 1) := by decide +kernel
theorem dX0_throughWall_19 : decode cX0_throughWall 19 = .ok (.idiv, 1) := by decide +kernel
theorem dX0_throughWall_20 : decode cX0_throughWall 20 = .ok (.ireturn, 1) := by decide +kernel
theorem dX0_around_0 : decode cX0_around 0 = .ok (.iload_n 0, 1) := by decide +kernel
theorem dX0_around_1 : decode cX0_around 1 = .ok (.bipush 7, 2) := by decide +kernel
theorem dX0_around_3 : decode cX0_around 3 = .ok (.iand, 1) := by decide +kernel
theorem dX0_around_4 : decode cX0_around 4 = .ok (.ireturn, 1) := by decide +kernel
set_option maxRecDepth 20000 in
theorem ggX0_pass_X0_passOne : GoodIn wsX0_pass wsX0_passOne := goodIn_r _ [5, 6, 7, 8, 9, 10, 11, 12, 13, 4, 14, 15, 16, 17, 18, 19, 20, 21, 22, 23, 24, 25, 26, 27, 28, 29, 30, 31, 32, 33, 34, 35, 36, 37, 38, 39, 40, 41, 42, 43, 44, 45, 46, 47, 48, 49, 50, 51, 52, 53, 54, 55, 56, 57, 58, 59, 60, 61, 62, 63] (by decide +kernel) (by decide +kernel)
set_option maxRecDepth 20000 in
theorem gX0_pass_X0_passOne : GoodIn wsX0_pass (wsV RX0 87 RX0 yX0_passOne wsX0_passOne) := goodIn_app (goodIn_of _ (by decide +kernel)) ggX0_pass_X0_passOne
theorem dX0_pass_0 : decode cX0_pass 0 = .ok (.iconst 0, 1) := by decide +kernel
theorem dX0_pass_1 : decode cX0_pass 1 = .ok (.istore_n 2, 1) := by decide +kernel
theorem dX0_pass_2 : decode cX0_pass 2 = .ok (.iload_n 2, 1) := by decide +kernel
theorem dX0_pass_3 : decode cX0_pass 3 = .ok (.iload_n 1, 1) := by decide +kernel
theorem dX0_pass_4 : decode cX0_pass 4 = .ok (.if_icmp .ge 13, 3) := by decide +kernel
theorem dX0_pass_7 : decode cX0_pass 7 = .ok (.aload_n 0, 1) := by decide +kernel
theorem dX0_pass_8 : decode cX0_pass 8 = .ok (.invokevirtual 87, 3) := by decide +kernel
theorem dX0_pass_11 : decode cX0_pass 11 = .ok (.iinc 2 1, 3) := by decide +kernel
theorem dX0_pass_14 : decode cX0_pass 14 = .ok (.goto (-12), 3) := by decide +kernel
theorem dX0_pass_17 : decode cX0_pass 17 = .ok (.return_, 1) := by decide +kernel
set_option maxRecDepth 20000 in
theorem ggX0_passOne_X0_listen : GoodIn wsX0_passOne wsX0_listen := goodIn_r _ [10, 11, 1, 12, 2, 13, 14, 15, 9, 16, 4, 17, 18, 19, 20, 21, 22, 23, 24, 25, 26, 3, 27, 28, 29, 30, 49, 50, 51, 52, 53, 54, 55, 56, 57, 58, 59] (by decide +kernel) (by decide +kernel)
set_option maxRecDepth 20000 in
theorem gX0_passOne_X0_listen : GoodIn wsX0_passOne (wsV RX0 78 RX0 yX0_listen wsX0_listen) := goodIn_app (goodIn_of _ (by decide +kernel)) ggX0_passOne_X0_listen
set_option maxRecDepth 20000 in
theorem ggX0_passOne_X0_needs : GoodIn wsX0_passOne wsX0_needs := goodIn_r _ [34, 24, 3, 25, 35, 36, 37, 9, 38, 26, 5, 49, 50, 51, 52, 53, 54, 55, 56, 57, 58, 59] (by decide +kernel) (by decide +kernel)
set_option maxRecDepth 20000 in
theorem gX0_passOne_X0_needs : GoodIn wsX0_passOne (wsV RX0 90 RX0 yX0_needs wsX0_needs) := goodIn_app (goodIn_of _ (by decide +kernel)) ggX0_passOne_X0_needs
set_option maxRecDepth 20000 in
theorem ggX0_passOne_X4_heldPride : GoodIn wsX0_passOne wsX4_heldPride := goodIn_r _ [41, 42, 43, 44, 45, 46, 47, 48] (by decide +kernel) (by decide +kernel)
set_option maxRecDepth 20000 in
theorem gX0_passOne_X4_heldPride_n93 : GoodIn wsX0_passOne (wsX4_heldPride) := ggX0_passOne_X4_heldPride
theorem dX0_passOne_0 : decode cX0_passOne 0 = .ok (.aload_n 0, 1) := by decide +kernel
theorem dX0_passOne_1 : decode cX0_passOne 1 = .ok (.invokevirtual 78, 3) := by decide +kernel
theorem dX0_passOne_4 : decode cX0_passOne 4 = .ok (.iconst 0, 1) := by decide +kernel
theorem dX0_passOne_5 : decode cX0_passOne 5 = .ok (.istore_n 1, 1) := by decide +kernel
theorem dX0_passOne_6 : decode cX0_passOne 6 = .ok (.iconst 0, 1) := by decide +kernel
theorem dX0_passOne_7 : decode cX0_passOne 7 = .ok (.istore_n 2, 1) := by decide +kernel
theorem dX0_passOne_8 : decode cX0_passOne 8 = .ok (.iload_n 2, 1) := by decide +kernel
theorem dX0_passOne_9 : decode cX0_passOne 9 = .ok (.aload_n 0, 1) := by decide +kernel
theorem dX0_passOne_10 : decode cX0_passOne 10 = .ok (.getfield 49, 3) := by decide +kernel
theorem dX0_passOne_13 : decode cX0_passOne 13 = .ok (.if_icmp .ge 51, 3) := by decide +kernel
theorem dX0_passOne_16 : decode cX0_passOne 16 = .ok (.aload_n 0, 1) := by decide +kernel
theorem dX0_passOne_17 : decode cX0_passOne 17 = .ok (.getfield 30, 3) := by decide +kernel
theorem dX0_passOne_20 : decode cX0_passOne 20 = .ok (.iload_n 2, 1) := by decide +kernel
theorem dX0_passOne_21 : decode cX0_passOne 21 = .ok (.iaload, 1) := by decide +kernel
theorem dX0_passOne_22 : decode cX0_passOne 22 = .ok (.aload_n 0, 1) := by decide +kernel
theorem dX0_passOne_23 : decode cX0_passOne 23 = .ok (.iload_n 2, 1) := by decide +kernel
theorem dX0_passOne_24 : decode cX0_passOne 24 = .ok (.invokevirtual 90, 3) := by decide +kernel
theorem dX0_passOne_27 : decode cX0_passOne 27 = .ok (.if_icmp .lt 9, 3) := by decide +kernel
theorem dX0_passOne_30 : decode cX0_passOne 30 = .ok (.iload_n 1, 1) := by decide +kernel
theorem dX0_passOne_31 : decode cX0_passOne 31 = .ok (.iconst 1, 1) := by decide +kernel
theorem dX0_passOne_32 : decode cX0_passOne 32 = .ok (.iload_n 2, 1) := by decide +kernel
theorem dX0_passOne_33 : decode cX0_passOne 33 = .ok (.ishl, 1) := by decide +kernel
theorem dX0_passOne_34 : decode cX0_passOne 34 = .ok (.ior, 1) := by decide +kernel
theorem dX0_passOne_35 : decode cX0_passOne 35 = .ok (.istore_n 1, 1) := by decide +kernel
theorem dX0_passOne_36 : decode cX0_passOne 36 = .ok (.aload_n 0, 1) := by decide +kernel
theorem dX0_passOne_37 : decode cX0_passOne 37 = .ok (.getfield 18, 3) := by decide +kernel
theorem dX0_passOne_40 : decode cX0_passOne 40 = .ok (.iload_n 2, 1) := by decide +kernel
theorem dX0_passOne_41 : decode cX0_passOne 41 = .ok (.aload_n 0, 1) := by decide +kernel
theorem dX0_passOne_42 : decode cX0_passOne 42 = .ok (.getfield 18, 3) := by decide +kernel
theorem dX0_passOne_45 : decode cX0_passOne 45 = .ok (.iload_n 2, 1) := by decide +kernel
theorem dX0_passOne_46 : decode cX0_passOne 46 = .ok (.iaload, 1) := by decide +kernel
theorem dX0_passOne_47 : decode cX0_passOne 47 = .ok (.aload_n 0, 1) := by decide +kernel
theorem dX0_passOne_48 : decode cX0_passOne 48 = .ok (.getfield 30, 3) := by decide +kernel
theorem dX0_passOne_51 : decode cX0_passOne 51 = .ok (.iload_n 2, 1) := by decide +kernel
theorem dX0_passOne_52 : decode cX0_passOne 52 = .ok (.iaload, 1) := by decide +kernel
theorem dX0_passOne_53 : decode cX0_passOne 53 = .ok (.iadd, 1) := by decide +kernel
theorem dX0_passOne_54 : decode cX0_passOne 54 = .ok (.invokestatic 93, 3) := by decide +kernel
theorem dX0_passOne_57 : decode cX0_passOne 57 = .ok (.iastore, 1) := by decide +kernel
theorem dX0_passOne_58 : decode cX0_passOne 58 = .ok (.iinc 2 1, 3) := by decide +kernel
theorem dX0_passOne_61 : decode cX0_passOne 61 = .ok (.goto (-53), 3) := by decide +kernel
theorem dX0_passOne_64 : decode cX0_passOne 64 = .ok (.aload_n 0, 1) := by decide +kernel
theorem dX0_passOne_65 : decode cX0_passOne 65 = .ok (.iload_n 1, 1) := by decide +kernel
theorem dX0_passOne_66 : decode cX0_passOne 66 = .ok (.putfield 52, 3) := by decide +kernel
theorem dX0_passOne_69 : decode cX0_passOne 69 = .ok (.aload_n 0, 1) := by decide +kernel
theorem dX0_passOne_70 : decode cX0_passOne 70 = .ok (.dup, 1) := by decide +kernel
theorem dX0_passOne_71 : decode cX0_passOne 71 = .ok (.getfield 55, 3) := by decide +kernel
theorem dX0_passOne_74 : decode cX0_passOne 74 = .ok (.iconst 1, 1) := by decide +kernel
theorem dX0_passOne_75 : decode cX0_passOne 75 = .ok (.iadd, 1) := by decide +kernel
theorem dX0_passOne_76 : decode cX0_passOne 76 = .ok (.putfield 55, 3) := by decide +kernel
theorem dX0_passOne_79 : decode cX0_passOne 79 = .ok (.return_, 1) := by decide +kernel
set_option maxRecDepth 20000 in
theorem ggX0_passByDraws_X0_draw : GoodIn wsX0_passByDraws wsX0_draw := goodIn_r _ [7, 8, 9, 63, 64, 65, 66, 67, 68, 69, 70, 71, 72, 73] (by decide +kernel) (by decide +kernel)
set_option maxRecDepth 20000 in
theorem gX0_passByDraws_X0_draw : GoodIn wsX0_passByDraws (wsV RX0 96 RX0 yX0_draw wsX0_draw) := goodIn_app (goodIn_of _ (by decide +kernel)) ggX0_passByDraws_X0_draw
set_option maxRecDepth 20000 in
theorem ggX0_passByDraws_X0_doesClap : GoodIn wsX0_passByDraws wsX0_doesClap := goodIn_r _ [13, 14, 63, 64, 65, 66, 67, 68, 69, 70, 71, 72, 73] (by decide +kernel) (by decide +kernel)
set_option maxRecDepth 20000 in
theorem gX0_passByDraws_X0_doesClap : GoodIn wsX0_passByDraws (wsV RX0 66 RX0 yX0_doesClap wsX0_doesClap) := goodIn_app (goodIn_of _ (by decide +kernel)) ggX0_passByDraws_X0_doesClap
set_option maxRecDepth 20000 in
theorem ggX0_passByDraws_X0_letClap : GoodIn wsX0_passByDraws wsX0_letClap := goodIn_r _ [18, 14, 63, 64, 65, 66, 67, 68, 69, 70, 71, 72, 73] (by decide +kernel) (by decide +kernel)
set_option maxRecDepth 20000 in
theorem gX0_passByDraws_X0_letClap : GoodIn wsX0_passByDraws (wsV RX0 62 RX0 yX0_letClap wsX0_letClap) := goodIn_app (goodIn_of _ (by decide +kernel)) ggX0_passByDraws_X0_letClap
set_option maxRecDepth 20000 in
theorem ggX0_passByDraws_X0_passOne : GoodIn wsX0_passByDraws wsX0_passOne := goodIn_r _ [22, 1, 23, 24, 14, 25, 26, 27, 28, 6, 29, 30, 31, 10, 11, 12, 13, 32, 33, 34, 35, 36, 37, 38, 39, 40, 2, 41, 42, 43, 44, 45, 46, 47, 48, 49, 50, 51, 52, 53, 54, 55, 56, 57, 58, 59, 60, 61, 62, 63, 64, 65, 66, 67, 68, 69, 70, 71, 72, 73] (by decide +kernel) (by decide +kernel)
set_option maxRecDepth 20000 in
theorem gX0_passByDraws_X0_passOne : GoodIn wsX0_passByDraws (wsV RX0 87 RX0 yX0_passOne wsX0_passOne) := goodIn_app (goodIn_of _ (by decide +kernel)) ggX0_passByDraws_X0_passOne
theorem dX0_passByDraws_0 : decode cX0_passByDraws 0 = .ok (.aload_n 0, 1) := by decide +kernel
theorem dX0_passByDraws_1 : decode cX0_passByDraws 1 = .ok (.getfield 49, 3) := by decide +kernel
theorem dX0_passByDraws_4 : decode cX0_passByDraws 4 = .ok (.ifCond .le 47, 3) := by decide +kernel
theorem dX0_passByDraws_7 : decode cX0_passByDraws 7 = .ok (.aload_n 0, 1) := by decide +kernel
theorem dX0_passByDraws_8 : decode cX0_passByDraws 8 = .ok (.invokevirtual 96, 3) := by decide +kernel
theorem dX0_passByDraws_11 : decode cX0_passByDraws 11 = .ok (.aload_n 0, 1) := by decide +kernel
theorem dX0_passByDraws_12 : decode cX0_passByDraws 12 = .ok (.getfield 49, 3) := by decide +kernel
theorem dX0_passByDraws_15 : decode cX0_passByDraws 15 = .ok (.irem, 1) := by decide +kernel
theorem dX0_passByDraws_16 : decode cX0_passByDraws 16 = .ok (.istore_n 1, 1) := by decide +kernel
theorem dX0_passByDraws_17 : decode cX0_passByDraws 17 = .ok (.aload_n 0, 1) := by decide +kernel
theorem dX0_passByDraws_18 : decode cX0_passByDraws 18 = .ok (.invokevirtual 96, 3) := by decide +kernel
theorem dX0_passByDraws_21 : decode cX0_passByDraws 21 = .ok (.bipush 100, 2) := by decide +kernel
theorem dX0_passByDraws_23 : decode cX0_passByDraws 23 = .ok (.irem, 1) := by decide +kernel
theorem dX0_passByDraws_24 : decode cX0_passByDraws 24 = .ok (.aload_n 0, 1) := by decide +kernel
theorem dX0_passByDraws_25 : decode cX0_passByDraws 25 = .ok (.getfield 9, 3) := by decide +kernel
theorem dX0_passByDraws_28 : decode cX0_passByDraws 28 = .ok (.iconst 3, 1) := by decide +kernel
theorem dX0_passByDraws_29 : decode cX0_passByDraws 29 = .ok (.iaload, 1) := by decide +kernel
theorem dX0_passByDraws_30 : decode cX0_passByDraws 30 = .ok (.if_icmp .ge 21, 3) := by decide +kernel
theorem dX0_passByDraws_33 : decode cX0_passByDraws 33 = .ok (.aload_n 0, 1) := by decide +kernel
theorem dX0_passByDraws_34 : decode cX0_passByDraws 34 = .ok (.iload_n 1, 1) := by decide +kernel
theorem dX0_passByDraws_35 : decode cX0_passByDraws 35 = .ok (.aload_n 0, 1) := by decide +kernel
theorem dX0_passByDraws_36 : decode cX0_passByDraws 36 = .ok (.iload_n 1, 1) := by decide +kernel
theorem dX0_passByDraws_37 : decode cX0_passByDraws 37 = .ok (.invokevirtual 66, 3) := by decide +kernel
theorem dX0_passByDraws_40 : decode cX0_passByDraws 40 = .ok (.ifCond .ne 7, 3) := by decide +kernel
theorem dX0_passByDraws_43 : decode cX0_passByDraws 43 = .ok (.iconst 1, 1) := by decide +kernel
theorem dX0_passByDraws_44 : decode cX0_passByDraws 44 = .ok (.goto 4, 3) := by decide +kernel
theorem dX0_passByDraws_47 : decode cX0_passByDraws 47 = .ok (.iconst 0, 1) := by decide +kernel
theorem dX0_passByDraws_48 : decode cX0_passByDraws 48 = .ok (.invokevirtual 62, 3) := by decide +kernel
theorem dX0_passByDraws_51 : decode cX0_passByDraws 51 = .ok (.aload_n 0, 1) := by decide +kernel
theorem dX0_passByDraws_52 : decode cX0_passByDraws 52 = .ok (.invokevirtual 87, 3) := by decide +kernel
theorem dX0_passByDraws_55 : decode cX0_passByDraws 55 = .ok (.return_, 1) := by decide +kernel
theorem dX0_draw_0 : decode cX0_draw 0 = .ok (.aload_n 0, 1) := by decide +kernel
theorem dX0_draw_1 : decode cX0_draw 1 = .ok (.aload_n 0, 1) := by decide +kernel
theorem dX0_draw_2 : decode cX0_draw 2 = .ok (.getfield 33, 3) := by decide +kernel
theorem dX0_draw_5 : decode cX0_draw 5 = .ok (.ldc 100, 2) := by decide +kernel
theorem dX0_draw_7 : decode cX0_draw 7 = .ok (.imul, 1) := by decide +kernel
theorem dX0_draw_8 : decode cX0_draw 8 = .ok (.sipush 12345, 3) := by decide +kernel
theorem dX0_draw_11 : decode cX0_draw 11 = .ok (.iadd, 1) := by decide +kernel
theorem dX0_draw_12 : decode cX0_draw 12 = .ok (.putfield 33, 3) := by decide +kernel
theorem dX0_draw_15 : decode cX0_draw 15 = .ok (.aload_n 0, 1) := by decide +kernel
theorem dX0_draw_16 : decode cX0_draw 16 = .ok (.getfield 33, 3) := by decide +kernel
theorem dX0_draw_19 : decode cX0_draw 19 = .ok (.bipush 16, 2) := by decide +kernel
theorem dX0_draw_21 : decode cX0_draw 21 = .ok (.iushr, 1) := by decide +kernel
theorem dX0_draw_22 : decode cX0_draw 22 = .ok (.ireturn, 1) := by decide +kernel
theorem dX1_init_0 : decode cX1_init 0 = .ok (.aload_n 0, 1) := by decide +kernel
theorem dX1_init_1 : decode cX1_init 1 = .ok (.invokespecial 1, 3) := by decide +kernel
theorem dX1_init_4 : decode cX1_init 4 = .ok (.aload_n 0, 1) := by decide +kernel
theorem dX1_init_5 : decode cX1_init 5 = .ok (.iload_n 1, 1) := by decide +kernel
theorem dX1_init_6 : decode cX1_init 6 = .ok (.putfield 7, 3) := by decide +kernel
theorem dX1_init_9 : decode cX1_init 9 = .ok (.aload_n 0, 1) := by decide +kernel
theorem dX1_init_10 : decode cX1_init 10 = .ok (.aload_n 2, 1) := by decide +kernel
theorem dX1_init_11 : decode cX1_init 11 = .ok (.putfield 13, 3) := by decide +kernel
theorem dX1_init_14 : decode cX1_init 14 = .ok (.return_, 1) := by decide +kernel
theorem dX1_narrowed_0 : decode cX1_narrowed 0 = .ok (.aload_n 0, 1) := by decide +kernel
theorem dX1_narrowed_1 : decode cX1_narrowed 1 = .ok (.getfield 7, 3) := by decide +kernel
theorem dX1_narrowed_4 : decode cX1_narrowed 4 = .ok (.lookupswitch 36 #[(0, 28), (1, 32)], 28) := by decide +kernel
theorem dX1_narrowed_32 : decode cX1_narrowed 32 = .ok (.iload_n 1, 1) := by decide +kernel
theorem dX1_narrowed_33 : decode cX1_narrowed 33 = .ok (.i2b, 1) := by decide +kernel
theorem dX1_narrowed_34 : decode cX1_narrowed 34 = .ok (.i2l, 1) := by decide +kernel
theorem dX1_narrowed_35 : decode cX1_narrowed 35 = .ok (.lreturn, 1) := by decide +kernel
theorem dX1_narrowed_36 : decode cX1_narrowed 36 = .ok (.iload_n 1, 1) := by decide +kernel
theorem dX1_narrowed_37 : decode cX1_narrowed 37 = .ok (.i2s, 1) := by decide +kernel
theorem dX1_narrowed_38 : decode cX1_narrowed 38 = .ok (.i2l, 1) := by decide +kernel
theorem dX1_narrowed_39 : decode cX1_narrowed 39 = .ok (.lreturn, 1) := by decide +kernel
theorem dX1_narrowed_40 : decode cX1_narrowed 40 = .ok (.iload_n 1, 1) := by decide +kernel
theorem dX1_narrowed_41 : decode cX1_narrowed 41 = .ok (.i2l, 1) := by decide +kernel
theorem dX1_narrowed_42 : decode cX1_narrowed 42 = .ok (.lreturn, 1) := by decide +kernel
theorem dX2_init_0 : decode cX2_init 0 = .ok (.aload_n 0, 1) := by decide +kernel
theorem dX2_init_1 : decode cX2_init 1 = .ok (.invokespecial 3, 3) := by decide +kernel
theorem dX2_init_4 : decode cX2_init 4 = .ok (.aload_n 0, 1) := by decide +kernel
theorem dX2_init_5 : decode cX2_init 5 = .ok (.bipush 30, 2) := by decide +kernel
theorem dX2_init_7 : decode cX2_init 7 = .ok (.newarray .int, 2) := by decide +kernel
theorem dX2_init_9 : decode cX2_init 9 = .ok (.putfield 11, 3) := by decide +kernel
theorem dX2_init_12 : decode cX2_init 12 = .ok (.aload_n 0, 1) := by decide +kernel
theorem dX2_init_13 : decode cX2_init 13 = .ok (.iconst 0, 1) := by decide +kernel
theorem dX2_init_14 : decode cX2_init 14 = .ok (.putfield 15, 3) := by decide +kernel
theorem dX2_init_17 : decode cX2_init 17 = .ok (.aload_n 0, 1) := by decide +kernel
theorem dX2_init_18 : decode cX2_init 18 = .ok (.iconst 0, 1) := by decide +kernel
theorem dX2_init_19 : decode cX2_init 19 = .ok (.putfield 19, 3) := by decide +kernel
theorem dX2_init_22 : decode cX2_init 22 = .ok (.aload_n 0, 1) := by decide +kernel
theorem dX2_init_23 : decode cX2_init 23 = .ok (.iconst 0, 1) := by decide +kernel
theorem dX2_init_24 : decode cX2_init 24 = .ok (.putfield 22, 3) := by decide +kernel
theorem dX2_init_27 : decode cX2_init 27 = .ok (.aload_n 0, 1) := by decide +kernel
theorem dX2_init_28 : decode cX2_init 28 = .ok (.iconst 0, 1) := by decide +kernel
theorem dX2_init_29 : decode cX2_init 29 = .ok (.putfield 25, 3) := by decide +kernel
theorem dX2_init_32 : decode cX2_init 32 = .ok (.aload_n 0, 1) := by decide +kernel
theorem dX2_init_33 : decode cX2_init 33 = .ok (.iconst 0, 1) := by decide +kernel
theorem dX2_init_34 : decode cX2_init 34 = .ok (.putfield 28, 3) := by decide +kernel
theorem dX2_init_37 : decode cX2_init 37 = .ok (.return_, 1) := by decide +kernel
theorem dX2_clear_0 : decode cX2_clear 0 = .ok (.aload_n 0, 1) := by decide +kernel
theorem dX2_clear_1 : decode cX2_clear 1 = .ok (.iconst 0, 1) := by decide +kernel
theorem dX2_clear_2 : decode cX2_clear 2 = .ok (.putfield 15, 3) := by decide +kernel
theorem dX2_clear_5 : decode cX2_clear 5 = .ok (.aload_n 0, 1) := by decide +kernel
theorem dX2_clear_6 : decode cX2_clear 6 = .ok (.iconst 0, 1) := by decide +kernel
theorem dX2_clear_7 : decode cX2_clear 7 = .ok (.putfield 28, 3) := by decide +kernel
theorem dX2_clear_10 : decode cX2_clear 10 = .ok (.return_, 1) := by decide +kernel
set_option maxRecDepth 20000 in
theorem ggX2_play_X2_run : GoodIn wsX2_play wsX2_run := goodIn_r _ [9, 4, 2, 1, 3, 10, 11, 8, 12, 13, 14, 15, 16, 17, 18, 19, 20, 21, 22, 5, 6, 7, 23, 24, 25, 26, 27, 28, 29, 30, 31, 32] (by decide +kernel) (by decide +kernel)
set_option maxRecDepth 20000 in
theorem gX2_play_X2_run : GoodIn wsX2_play (wsV RX2 32 RX2 yX2_run wsX2_run) := goodIn_app (goodIn_of _ (by decide +kernel)) ggX2_play_X2_run
theorem dX2_play_0 : decode cX2_play 0 = .ok (.aload_n 0, 1) := by decide +kernel
theorem dX2_play_1 : decode cX2_play 1 = .ok (.iload_n 1, 1) := by decide +kernel
theorem dX2_play_2 : decode cX2_play 2 = .ok (.putfield 19, 3) := by decide +kernel
theorem dX2_play_5 : decode cX2_play 5 = .ok (.aload_n 0, 1) := by decide +kernel
theorem dX2_play_6 : decode cX2_play 6 = .ok (.iload_n 2, 1) := by decide +kernel
theorem dX2_play_7 : decode cX2_play 7 = .ok (.putfield 22, 3) := by decide +kernel
theorem dX2_play_10 : decode cX2_play 10 = .ok (.aload_n 0, 1) := by decide +kernel
theorem dX2_play_11 : decode cX2_play 11 = .ok (.iload_n 3, 1) := by decide +kernel
theorem dX2_play_12 : decode cX2_play 12 = .ok (.putfield 25, 3) := by decide +kernel
theorem dX2_play_15 : decode cX2_play 15 = .ok (.aload_n 0, 1) := by decide +kernel
theorem dX2_play_16 : decode cX2_play 16 = .ok (.iload_n 1, 1) := by decide +kernel
theorem dX2_play_17 : decode cX2_play 17 = .ok (.iload 4, 2) := by decide +kernel
theorem dX2_play_19 : decode cX2_play 19 = .ok (.iload 5, 2) := by decide +kernel
theorem dX2_play_21 : decode cX2_play 21 = .ok (.iconst 1, 1) := by decide +kernel
theorem dX2_play_22 : decode cX2_play 22 = .ok (.invokevirtual 32, 3) := by decide +kernel
theorem dX2_play_25 : decode cX2_play 25 = .ok (.istore 6, 2) := by decide +kernel
theorem dX2_play_27 : decode cX2_play 27 = .ok (.aload_n 0, 1) := by decide +kernel
theorem dX2_play_28 : decode cX2_play 28 = .ok (.getfield 28, 3) := by decide +kernel
theorem dX2_play_31 : decode cX2_play 31 = .ok (.ifCond .eq 8, 3) := by decide +kernel
theorem dX2_play_34 : decode cX2_play 34 = .ok (.bipush (-15), 2) := by decide +kernel
theorem dX2_play_36 : decode cX2_play 36 = .ok (.goto 5, 3) := by decide +kernel
theorem dX2_play_39 : decode cX2_play 39 = .ok (.iload 6, 2) := by decide +kernel
theorem dX2_play_41 : decode cX2_play 41 = .ok (.ireturn, 1) := by decide +kernel
set_option maxRecDepth 20000 in
theorem ggX2_run_X2_bodyOf : GoodIn wsX2_run wsX2_bodyOf := goodIn_r _ [8, 9, 10, 11, 12] (by decide +kernel) (by decide +kernel)
set_option maxRecDepth 20000 in
theorem gX2_run_X2_bodyOf : GoodIn wsX2_run (va_wsS RX2 36 yX2_bodyOf wsX2_bodyOf) := goodIn_app (goodIn_of _ (by decide +kernel)) ggX2_run_X2_bodyOf
set_option maxRecDepth 20000 in
theorem ggX2_run_X2_note : GoodIn wsX2_run wsX2_note := goodIn_r _ [16, 17, 18, 26, 27, 28, 29, 30, 31] (by decide +kernel) (by decide +kernel)
set_option maxRecDepth 20000 in
theorem gX2_run_X2_note : GoodIn wsX2_run (wsV RX2 40 RX2 yX2_note wsX2_note) := goodIn_app (goodIn_of _ (by decide +kernel)) ggX2_run_X2_note
set_option maxRecDepth 20000 in
theorem ggX2_run_X2_run : GoodIn wsX2_run wsX2_run := goodIn_r _ [0, 1, 2, 3, 4, 5, 6, 7, 8, 9, 10, 11, 12, 13, 14, 15, 16, 17, 18, 19, 20, 21, 22, 23, 24, 25, 26, 27, 28, 29, 30, 31] (by decide +kernel) (by decide +kernel)
set_option maxRecDepth 20000 in
theorem gX2_run_X2_run : GoodIn wsX2_run (wsV RX2 32 RX2 yX2_run wsX2_run) := goodIn_app (goodIn_of _ (by decide +kernel)) ggX2_run_X2_run
set_option maxRecDepth 20000 in
theorem ggX2_run_X2_part : GoodIn wsX2_run wsX2_part := goodIn_r _ [25, 4, 2, 1, 26, 27, 28, 29, 30, 31] (by decide +kernel) (by decide +kernel)
set_option maxRecDepth 20000 in
theorem gX2_run_X2_part : GoodIn wsX2_run (wsV RX2 44 RX2 yX2_part wsX2_part) := goodIn_app (goodIn_of _ (by decide +kernel)) ggX2_run_X2_part
theorem dX2_run_0 : decode cX2_run 0 = .ok (.aload_n 0, 1) := by decide +kernel
theorem dX2_run_1 : decode cX2_run 1 = .ok (.getfield 28, 3) := by decide +kernel
theorem dX2_run_4 : decode cX2_run 4 = .ok (.ifCond .ne 10, 3) := by decide +kernel
theorem dX2_run_7 : decode cX2_run 7 = .ok (.iload 4, 2) := by decide +kernel
theorem dX2_run_9 : decode cX2_run 9 = .ok (.bipush 12, 2) := by decide +kernel
theorem dX2_run_11 : decode cX2_run 11 = .ok (.if_icmp .le 5, 3) := by decide +kernel
theorem dX2_run_14 : decode cX2_run 14 = .ok (.iconst 0, 1) := by decide +kernel
theorem dX2_run_15 : decode cX2_run 15 = .ok (.ireturn, 1) := by decide +kernel
theorem dX2_run_16 : decode cX2_run 16 = .ok (.iload_n 1, 1) := by decide +kernel
theorem dX2_run_17 : decode cX2_run 17 = .ok (.iload_n 2, 1) := by decide +kernel
theorem dX2_run_18 : decode cX2_run 18 = .ok (.invokestatic 36, 3) := by decide +kernel
theorem dX2_run_21 : decode cX2_run 21 = .ok (.istore 5, 2) := by decide +kernel
theorem dX2_run_23 : decode cX2_run 23 = .ok (.aload_n 0, 1) := by decide +kernel
theorem dX2_run_24 : decode cX2_run 24 = .ok (.iload 5, 2) := by decide +kernel
theorem dX2_run_26 : decode cX2_run 26 = .ok (.invokevirtual 40, 3) := by decide +kernel
theorem dX2_run_29 : decode cX2_run 29 = .ok (.iload 4, 2) := by decide +kernel
theorem dX2_run_31 : decode cX2_run 31 = .ok (.iconst 1, 1) := by decide +kernel
theorem dX2_run_32 : decode cX2_run 32 = .ok (.iadd, 1) := by decide +kernel
theorem dX2_run_33 : decode cX2_run 33 = .ok (.istore 6, 2) := by decide +kernel
theorem dX2_run_35 : decode cX2_run 35 = .ok (.iload 5, 2) := by decide +kernel
theorem dX2_run_37 : decode cX2_run 37 = .ok (.tableswitch 434 10 61 #[223, 233, 253, 259, 434, 434, 434, 434, 434, 434, 275, 434, 434, 434, 434, 434, 434, 434, 434, 434, 288, 300, 434, 434, 434, 434, 434, 434, 434, 434, 326, 338, 434, 434, 434, 434, 434, 434, 434, 434, 364, 384, 434, 434, 434, 434, 434, 434, 434, 434, 396, 408], 223) := by decide +kernel
theorem dX2_run_260 : decode cX2_run 260 = .ok (.iload_n 3, 1) := by decide +kernel
theorem dX2_run_261 : decode cX2_run 261 = .ok (.aload_n 0, 1) := by decide +kernel
theorem dX2_run_262 : decode cX2_run 262 = .ok (.getfield 22, 3) := by decide +kernel
theorem dX2_run_265 : decode cX2_run 265 = .ok (.bipush 7, 2) := by decide +kernel
theorem dX2_run_267 : decode cX2_run 267 = .ok (.imul, 1) := by decide +kernel
theorem dX2_run_268 : decode cX2_run 268 = .ok (.isub, 1) := by decide +kernel
theorem dX2_run_269 : decode cX2_run 269 = .ok (.ireturn, 1) := by decide +kernel
theorem dX2_run_270 : decode cX2_run 270 = .ok (.aload_n 0, 1) := by decide +kernel
theorem dX2_run_271 : decode cX2_run 271 = .ok (.aload_n 0, 1) := by decide +kernel
theorem dX2_run_272 : decode cX2_run 272 = .ok (.getfield 19, 3) := by decide +kernel
theorem dX2_run_275 : decode cX2_run 275 = .ok (.iconst 0, 1) := by decide +kernel
theorem dX2_run_276 : decode cX2_run 276 = .ok (.iload_n 3, 1) := by decide +kernel
theorem dX2_run_277 : decode cX2_run 277 = .ok (.iload 6, 2) := by decide +kernel
theorem dX2_run_279 : decode cX2_run 279 = .ok (.invokevirtual 32, 3) := by decide +kernel
theorem dX2_run_282 : decode cX2_run 282 = .ok (.iconst 2, 1) := by decide +kernel
theorem dX2_run_283 : decode cX2_run 283 = .ok (.imul, 1) := by decide +kernel
theorem dX2_run_284 : decode cX2_run 284 = .ok (.aload_n 0, 1) := by decide +kernel
theorem dX2_run_285 : decode cX2_run 285 = .ok (.getfield 25, 3) := by decide +kernel
theorem dX2_run_288 : decode cX2_run 288 = .ok (.iadd, 1) := by decide +kernel
theorem dX2_run_289 : decode cX2_run 289 = .ok (.ireturn, 1) := by decide +kernel
theorem dX2_run_290 : decode cX2_run 290 = .ok (.aload_n 0, 1) := by decide +kernel
theorem dX2_run_291 : decode cX2_run 291 = .ok (.iload_n 3, 1) := by decide +kernel
theorem dX2_run_292 : decode cX2_run 292 = .ok (.invokevirtual 44, 3) := by decide +kernel
theorem dX2_run_295 : decode cX2_run 295 = .ok (.ireturn, 1) := by decide +kernel
theorem dX2_run_296 : decode cX2_run 296 = .ok (.aload_n 0, 1) := by decide +kernel
theorem dX2_run_297 : decode cX2_run 297 = .ok (.aload_n 0, 1) := by decide +kernel
theorem dX2_run_298 : decode cX2_run 298 = .ok (.getfield 19, 3) := by decide +kernel
theorem dX2_run_301 : decode cX2_run 301 = .ok (.iconst 1, 1) := by decide +kernel
theorem dX2_run_302 : decode cX2_run 302 = .ok (.iload_n 3, 1) := by decide +kernel
theorem dX2_run_303 : decode cX2_run 303 = .ok (.iload 6, 2) := by decide +kernel
theorem dX2_run_305 : decode cX2_run 305 = .ok (.invokevirtual 32, 3) := by decide +kernel
theorem dX2_run_308 : decode cX2_run 308 = .ok (.bipush 90, 2) := by decide +kernel
theorem dX2_run_310 : decode cX2_run 310 = .ok (.ixor, 1) := by decide +kernel
theorem dX2_run_311 : decode cX2_run 311 = .ok (.ireturn, 1) := by decide +kernel
theorem dX2_run_312 : decode cX2_run 312 = .ok (.aload_n 0, 1) := by decide +kernel
theorem dX2_run_313 : decode cX2_run 313 = .ok (.iconst 0, 1) := by decide +kernel
theorem dX2_run_314 : decode cX2_run 314 = .ok (.iconst 1, 1) := by decide +kernel
theorem dX2_run_315 : decode cX2_run 315 = .ok (.iload_n 3, 1) := by decide +kernel
theorem dX2_run_316 : decode cX2_run 316 = .ok (.iload 6, 2) := by decide +kernel
theorem dX2_run_318 : decode cX2_run 318 = .ok (.invokevirtual 32, 3) := by decide +kernel
theorem dX2_run_321 : decode cX2_run 321 = .ok (.bipush 8, 2) := by decide +kernel
theorem dX2_run_323 : decode cX2_run 323 = .ok (.isub, 1) := by decide +kernel
theorem dX2_run_324 : decode cX2_run 324 = .ok (.ireturn, 1) := by decide +kernel
theorem dX2_run_325 : decode cX2_run 325 = .ok (.aload_n 0, 1) := by decide +kernel
theorem dX2_run_326 : decode cX2_run 326 = .ok (.iconst 0, 1) := by decide +kernel
theorem dX2_run_327 : decode cX2_run 327 = .ok (.iconst 0, 1) := by decide +kernel
theorem dX2_run_328 : decode cX2_run 328 = .ok (.iload_n 3, 1) := by decide +kernel
theorem dX2_run_329 : decode cX2_run 329 = .ok (.iload 6, 2) := by decide +kernel
theorem dX2_run_331 : decode cX2_run 331 = .ok (.invokevirtual 32, 3) := by decide +kernel
theorem dX2_run_334 : decode cX2_run 334 = .ok (.iconst 1, 1) := by decide +kernel
theorem dX2_run_335 : decode cX2_run 335 = .ok (.ixor, 1) := by decide +kernel
theorem dX2_run_336 : decode cX2_run 336 = .ok (.ireturn, 1) := by decide +kernel
theorem dX2_run_337 : decode cX2_run 337 = .ok (.aload_n 0, 1) := by decide +kernel
theorem dX2_run_338 : decode cX2_run 338 = .ok (.iconst 0, 1) := by decide +kernel
theorem dX2_run_339 : decode cX2_run 339 = .ok (.iconst 3, 1) := by decide +kernel
theorem dX2_run_340 : decode cX2_run 340 = .ok (.iload_n 3, 1) := by decide +kernel
theorem dX2_run_341 : decode cX2_run 341 = .ok (.iload 6, 2) := by decide +kernel
theorem dX2_run_343 : decode cX2_run 343 = .ok (.invokevirtual 32, 3) := by decide +kernel
theorem dX2_run_346 : decode cX2_run 346 = .ok (.aload_n 0, 1) := by decide +kernel
theorem dX2_run_347 : decode cX2_run 347 = .ok (.aload_n 0, 1) := by decide +kernel
theorem dX2_run_348 : decode cX2_run 348 = .ok (.getfield 19, 3) := by decide +kernel
theorem dX2_run_351 : decode cX2_run 351 = .ok (.iconst 2, 1) := by decide +kernel
theorem dX2_run_352 : decode cX2_run 352 = .ok (.aload_n 0, 1) := by decide +kernel
theorem dX2_run_353 : decode cX2_run 353 = .ok (.getfield 22, 3) := by decide +kernel
theorem dX2_run_356 : decode cX2_run 356 = .ok (.iload 6, 2) := by decide +kernel
theorem dX2_run_358 : decode cX2_run 358 = .ok (.invokevirtual 32, 3) := by decide +kernel
theorem dX2_run_361 : decode cX2_run 361 = .ok (.isub, 1) := by decide +kernel
theorem dX2_run_362 : decode cX2_run 362 = .ok (.ireturn, 1) := by decide +kernel
theorem dX2_run_363 : decode cX2_run 363 = .ok (.iconst 0, 1) := by decide +kernel
theorem dX2_run_364 : decode cX2_run 364 = .ok (.aload_n 0, 1) := by decide +kernel
theorem dX2_run_365 : decode cX2_run 365 = .ok (.iconst 2, 1) := by decide +kernel
theorem dX2_run_366 : decode cX2_run 366 = .ok (.iconst 0, 1) := by decide +kernel
theorem dX2_run_367 : decode cX2_run 367 = .ok (.iload_n 3, 1) := by decide +kernel
theorem dX2_run_368 : decode cX2_run 368 = .ok (.iload 6, 2) := by decide +kernel
theorem dX2_run_370 : decode cX2_run 370 = .ok (.invokevirtual 32, 3) := by decide +kernel
theorem dX2_run_373 : decode cX2_run 373 = .ok (.isub, 1) := by decide +kernel
theorem dX2_run_374 : decode cX2_run 374 = .ok (.ireturn, 1) := by decide +kernel
theorem dX2_run_375 : decode cX2_run 375 = .ok (.aload_n 0, 1) := by decide +kernel
theorem dX2_run_376 : decode cX2_run 376 = .ok (.iconst 2, 1) := by decide +kernel
theorem dX2_run_377 : decode cX2_run 377 = .ok (.iconst 1, 1) := by decide +kernel
theorem dX2_run_378 : decode cX2_run 378 = .ok (.iload_n 3, 1) := by decide +kernel
theorem dX2_run_379 : decode cX2_run 379 = .ok (.iload 6, 2) := by decide +kernel
theorem dX2_run_381 : decode cX2_run 381 = .ok (.invokevirtual 32, 3) := by decide +kernel
theorem dX2_run_384 : decode cX2_run 384 = .ok (.aload_n 0, 1) := by decide +kernel
theorem dX2_run_385 : decode cX2_run 385 = .ok (.aload_n 0, 1) := by decide +kernel
theorem dX2_run_386 : decode cX2_run 386 = .ok (.getfield 19, 3) := by decide +kernel
theorem dX2_run_389 : decode cX2_run 389 = .ok (.iconst 0, 1) := by decide +kernel
theorem dX2_run_390 : decode cX2_run 390 = .ok (.aload_n 0, 1) := by decide +kernel
theorem dX2_run_391 : decode cX2_run 391 = .ok (.getfield 25, 3) := by decide +kernel
theorem dX2_run_394 : decode cX2_run 394 = .ok (.iload 6, 2) := by decide +kernel
theorem dX2_run_396 : decode cX2_run 396 = .ok (.invokevirtual 32, 3) := by decide +kernel
theorem dX2_run_399 : decode cX2_run 399 = .ok (.iadd, 1) := by decide +kernel
theorem dX2_run_400 : decode cX2_run 400 = .ok (.ireturn, 1) := by decide +kernel
theorem dX2_run_401 : decode cX2_run 401 = .ok (.aload_n 0, 1) := by decide +kernel
theorem dX2_run_402 : decode cX2_run 402 = .ok (.iconst 1, 1) := by decide +kernel
theorem dX2_run_403 : decode cX2_run 403 = .ok (.iconst 2, 1) := by decide +kernel
theorem dX2_run_404 : decode cX2_run 404 = .ok (.iload_n 3, 1) := by decide +kernel
theorem dX2_run_405 : decode cX2_run 405 = .ok (.aload_n 0, 1) := by decide +kernel
theorem dX2_run_406 : decode cX2_run 406 = .ok (.getfield 25, 3) := by decide +kernel
theorem dX2_run_409 : decode cX2_run 409 = .ok (.iadd, 1) := by decide +kernel
theorem dX2_run_410 : decode cX2_run 410 = .ok (.iload 6, 2) := by decide +kernel
theorem dX2_run_412 : decode cX2_run 412 = .ok (.invokevirtual 32, 3) := by decide +kernel
theorem dX2_run_415 : decode cX2_run 415 = .ok (.aload_n 0, 1) := by decide +kernel
theorem dX2_run_416 : decode cX2_run 416 = .ok (.getfield 22, 3) := by decide +kernel
theorem dX2_run_419 : decode cX2_run 419 = .ok (.isub, 1) := by decide +kernel
theorem dX2_run_420 : decode cX2_run 420 = .ok (.ireturn, 1) := by decide +kernel
theorem dX2_run_421 : decode cX2_run 421 = .ok (.aload_n 0, 1) := by decide +kernel
theorem dX2_run_422 : decode cX2_run 422 = .ok (.iconst 1, 1) := by decide +kernel
theorem dX2_run_423 : decode cX2_run 423 = .ok (.iconst 0, 1) := by decide +kernel
theorem dX2_run_424 : decode cX2_run 424 = .ok (.iload_n 3, 1) := by decide +kernel
theorem dX2_run_425 : decode cX2_run 425 = .ok (.iload 6, 2) := by decide +kernel
theorem dX2_run_427 : decode cX2_run 427 = .ok (.invokevirtual 32, 3) := by decide +kernel
theorem dX2_run_430 : decode cX2_run 430 = .ok (.iconst 3, 1) := by decide +kernel
theorem dX2_run_431 : decode cX2_run 431 = .ok (.imul, 1) := by decide +kernel
theorem dX2_run_432 : decode cX2_run 432 = .ok (.ireturn, 1) := by decide +kernel
theorem dX2_run_433 : decode cX2_run 433 = .ok (.iconst 5, 1) := by decide +kernel
theorem dX2_run_434 : decode cX2_run 434 = .ok (.aload_n 0, 1) := by decide +kernel
theorem dX2_run_435 : decode cX2_run 435 = .ok (.iconst 0, 1) := by decide +kernel
theorem dX2_run_436 : decode cX2_run 436 = .ok (.iconst 3, 1) := by decide +kernel
theorem dX2_run_437 : decode cX2_run 437 = .ok (.iload_n 3, 1) := by decide +kernel
theorem dX2_run_438 : decode cX2_run 438 = .ok (.iload 6, 2) := by decide +kernel
theorem dX2_run_440 : decode cX2_run 440 = .ok (.invokevirtual 32, 3) := by decide +kernel
theorem dX2_run_443 : decode cX2_run 443 = .ok (.isub, 1) := by decide +kernel
theorem dX2_run_444 : decode cX2_run 444 = .ok (.ireturn, 1) := by decide +kernel
theorem dX2_run_445 : decode cX2_run 445 = .ok (.aload_n 0, 1) := by decide +kernel
theorem dX2_run_446 : decode cX2_run 446 = .ok (.iconst 0, 1) := by decide +kernel
theorem dX2_run_447 : decode cX2_run 447 = .ok (.iconst 2, 1) := by decide +kernel
theorem dX2_run_448 : decode cX2_run 448 = .ok (.iload_n 3, 1) := by decide +kernel
theorem dX2_run_449 : decode cX2_run 449 = .ok (.iload 6, 2) := by decide +kernel
theorem dX2_run_451 : decode cX2_run 451 = .ok (.invokevirtual 32, 3) := by decide +kernel
theorem dX2_run_454 : decode cX2_run 454 = .ok (.aload_n 0, 1) := by decide +kernel
theorem dX2_run_455 : decode cX2_run 455 = .ok (.aload_n 0, 1) := by decide +kernel
theorem dX2_run_456 : decode cX2_run 456 = .ok (.getfield 19, 3) := by decide +kernel
theorem dX2_run_459 : decode cX2_run 459 = .ok (.iconst 0, 1) := by decide +kernel
theorem dX2_run_460 : decode cX2_run 460 = .ok (.aload_n 0, 1) := by decide +kernel
theorem dX2_run_461 : decode cX2_run 461 = .ok (.getfield 22, 3) := by decide +kernel
theorem dX2_run_464 : decode cX2_run 464 = .ok (.iload 6, 2) := by decide +kernel
theorem dX2_run_466 : decode cX2_run 466 = .ok (.invokevirtual 32, 3) := by decide +kernel
theorem dX2_run_469 : decode cX2_run 469 = .ok (.ixor, 1) := by decide +kernel
theorem dX2_run_470 : decode cX2_run 470 = .ok (.ireturn, 1) := by decide +kernel
theorem dX2_run_471 : decode cX2_run 471 = .ok (.iconst 0, 1) := by decide +kernel
theorem dX2_run_472 : decode cX2_run 472 = .ok (.ireturn, 1) := by decide +kernel
theorem dX2_part_0 : decode cX2_part 0 = .ok (.aload_n 0, 1) := by decide +kernel
theorem dX2_part_1 : decode cX2_part 1 = .ok (.getfield 25, 3) := by decide +kernel
theorem dX2_part_4 : decode cX2_part 4 = .ok (.aload_n 0, 1) := by decide +kernel
theorem dX2_part_5 : decode cX2_part 5 = .ok (.getfield 22, 3) := by decide +kernel
theorem dX2_part_8 : decode cX2_part 8 = .ok (.isub, 1) := by decide +kernel
theorem dX2_part_9 : decode cX2_part 9 = .ok (.istore_n 2, 1) := by decide +kernel
theorem dX2_part_10 : decode cX2_part 10 = .ok (.iload_n 2, 1) := by decide +kernel
theorem dX2_part_11 : decode cX2_part 11 = .ok (.ifCond .ne 10, 3) := by decide +kernel
theorem dX2_part_14 : decode cX2_part 14 = .ok (.aload_n 0, 1) := by decide +kernel
theorem dX2_part_15 : decode cX2_part 15 = .ok (.iconst 1, 1) := by decide +kernel
theorem dX2_part_16 : decode cX2_part 16 = .ok (.putfield 28, 3) := by decide +kernel
theorem dX2_part_19 : decode cX2_part 19 = .ok (.iconst 0, 1) := by decide +kernel
theorem dX2_part_20 : decode cX2_part 20 = .ok (.ireturn, 1) := by decide +kernel
theorem dX2_part_21 : decode cX2_part 21 = .ok (.iload_n 1, 1) := by decide +kernel
theorem dX2_part_22 : decode cX2_part 22 = .ok (.iload_n 2, 1) := by decide +kernel
theorem dX2_part_23 : decode cX2_part 23 = .ok (.idiv, 1) := by decide +kernel
theorem dX2_part_24 : decode cX2_part 24 = .ok (.ireturn, 1) := by decide +kernel
set_option maxRecDepth 20000 in
theorem ggX2_bodyOf_X4_within : GoodIn wsX2_bodyOf wsX4_within := goodIn_r _ [4] (by decide +kernel) (by decide +kernel)
set_option maxRecDepth 20000 in
theorem gX2_bodyOf_X4_within_n51 : GoodIn wsX2_bodyOf (wsX4_within) := ggX2_bodyOf_X4_within
theorem dX2_bodyOf_0 : decode cX2_bodyOf 0 = .ok (.iload_n 0, 1) := by decide +kernel
theorem dX2_bodyOf_1 : decode cX2_bodyOf 1 = .ok (.iconst 4, 1) := by decide +kernel
theorem dX2_bodyOf_2 : decode cX2_bodyOf 2 = .ok (.imul, 1) := by decide +kernel
theorem dX2_bodyOf_3 : decode cX2_bodyOf 3 = .ok (.iload_n 1, 1) := by decide +kernel
theorem dX2_bodyOf_4 : decode cX2_bodyOf 4 = .ok (.iadd, 1) := by decide +kernel
theorem dX2_bodyOf_5 : decode cX2_bodyOf 5 = .ok (.istore_n 2, 1) := by decide +kernel
theorem dX2_bodyOf_6 : decode cX2_bodyOf 6 = .ok (.iload_n 2, 1) := by decide +kernel
theorem dX2_bodyOf_7 : decode cX2_bodyOf 7 = .ok (.iconst 0, 1) := by decide +kernel
theorem dX2_bodyOf_8 : decode cX2_bodyOf 8 = .ok (.getstatic 48, 3) := by decide +kernel
theorem dX2_bodyOf_11 : decode cX2_bodyOf 11 = .ok (.arraylength, 1) := by decide +kernel
theorem dX2_bodyOf_12 : decode cX2_bodyOf 12 = .ok (.iconst 1, 1) := by decide +kernel
theorem dX2_bodyOf_13 : decode cX2_bodyOf 13 = .ok (.isub, 1) := by decide +kernel
theorem dX2_bodyOf_14 : decode cX2_bodyOf 14 = .ok (.invokestatic 51, 3) := by decide +kernel
theorem dX2_bodyOf_17 : decode cX2_bodyOf 17 = .ok (.ifCond .eq 11, 3) := by decide +kernel
theorem dX2_bodyOf_20 : decode cX2_bodyOf 20 = .ok (.getstatic 48, 3) := by decide +kernel
theorem dX2_bodyOf_23 : decode cX2_bodyOf 23 = .ok (.iload_n 2, 1) := by decide +kernel
theorem dX2_bodyOf_24 : decode cX2_bodyOf 24 = .ok (.iaload, 1) := by decide +kernel
theorem dX2_bodyOf_25 : decode cX2_bodyOf 25 = .ok (.goto 4, 3) := by decide +kernel
theorem dX2_bodyOf_28 : decode cX2_bodyOf 28 = .ok (.iconst 0, 1) := by decide +kernel
theorem dX2_bodyOf_29 : decode cX2_bodyOf 29 = .ok (.ireturn, 1) := by decide +kernel
theorem dX2_note_0 : decode cX2_note 0 = .ok (.aload_n 0, 1) := by decide +kernel
theorem dX2_note_1 : decode cX2_note 1 = .ok (.getfield 15, 3) := by decide +kernel
theorem dX2_note_4 : decode cX2_note 4 = .ok (.bipush 30, 2) := by decide +kernel
theorem dX2_note_6 : decode cX2_note 6 = .ok (.if_icmp .ge 23, 3) := by decide +kernel
theorem dX2_note_9 : decode cX2_note 9 = .ok (.aload_n 0, 1) := by decide +kernel
theorem dX2_note_10 : decode cX2_note 10 = .ok (.getfield 11, 3) := by decide +kernel
theorem dX2_note_13 : decode cX2_note 13 = .ok (.aload_n 0, 1) := by decide +kernel
theorem dX2_note_14 : decode cX2_note 14 = .ok (.getfield 15, 3) := by decide +kernel
theorem dX2_note_17 : decode cX2_note 17 = .ok (.iload_n 1, 1) := by decide +kernel
theorem dX2_note_18 : decode cX2_note 18 = .ok (.iastore, 1) := by decide +kernel
theorem dX2_note_19 : decode cX2_note 19 = .ok (.aload_n 0, 1) := by decide +kernel
theorem dX2_note_20 : decode cX2_note 20 = .ok (.dup, 1) := by decide +kernel
theorem dX2_note_21 : decode cX2_note 21 = .ok (.getfield 15, 3) := by decide +kernel
theorem dX2_note_24 : decode cX2_note 24 = .ok (.iconst 1, 1) := by decide +kernel
theorem dX2_note_25 : decode cX2_note 25 = .ok (.iadd, 1) := by decide +kernel
theorem dX2_note_26 : decode cX2_note 26 = .ok (.putfield 15, 3) := by decide +kernel
theorem dX2_note_29 : decode cX2_note 29 = .ok (.return_, 1) := by decide +kernel
theorem dX3_init_0 : decode cX3_init 0 = .ok (.aload_n 0, 1) := by decide +kernel
theorem dX3_init_1 : decode cX3_init 1 = .ok (.invokespecial 3, 3) := by decide +kernel
theorem dX3_init_4 : decode cX3_init 4 = .ok (.aload_n 0, 1) := by decide +kernel
theorem dX3_init_5 : decode cX3_init 5 = .ok (.iconst 0, 1) := by decide +kernel
theorem dX3_init_6 : decode cX3_init 6 = .ok (.putfield 9, 3) := by decide +kernel
theorem dX3_init_9 : decode cX3_init 9 = .ok (.aload_n 0, 1) := by decide +kernel
theorem dX3_init_10 : decode cX3_init 10 = .ok (.sipush 200, 3) := by decide +kernel
theorem dX3_init_13 : decode cX3_init 13 = .ok (.newarray .byte, 2) := by decide +kernel
theorem dX3_init_15 : decode cX3_init 15 = .ok (.putfield 15, 3) := by decide +kernel
theorem dX3_init_18 : decode cX3_init 18 = .ok (.aload_n 0, 1) := by decide +kernel
theorem dX3_init_19 : decode cX3_init 19 = .ok (.iconst 0, 1) := by decide +kernel
theorem dX3_init_20 : decode cX3_init 20 = .ok (.putfield 19, 3) := by decide +kernel
theorem dX3_init_23 : decode cX3_init 23 = .ok (.aload_n 0, 1) := by decide +kernel
theorem dX3_init_24 : decode cX3_init 24 = .ok (.iconst 0, 1) := by decide +kernel
theorem dX3_init_25 : decode cX3_init 25 = .ok (.putfield 22, 3) := by decide +kernel
theorem dX3_init_28 : decode cX3_init 28 = .ok (.aload_n 0, 1) := by decide +kernel
theorem dX3_init_29 : decode cX3_init 29 = .ok (.iconst 0, 1) := by decide +kernel
theorem dX3_init_30 : decode cX3_init 30 = .ok (.putfield 25, 3) := by decide +kernel
theorem dX3_init_33 : decode cX3_init 33 = .ok (.return_, 1) := by decide +kernel
theorem dX3_take_0 : decode cX3_take 0 = .ok (.iconst 0, 1) := by decide +kernel
theorem dX3_take_1 : decode cX3_take 1 = .ok (.istore 4, 2) := by decide +kernel
theorem dX3_take_3 : decode cX3_take 3 = .ok (.iload 4, 2) := by decide +kernel
theorem dX3_take_5 : decode cX3_take 5 = .ok (.iload_n 3, 1) := by decide +kernel
theorem dX3_take_6 : decode cX3_take 6 = .ok (.if_icmp .ge 47, 3) := by decide +kernel
theorem dX3_take_9 : decode cX3_take 9 = .ok (.aload_n 0, 1) := by decide +kernel
theorem dX3_take_10 : decode cX3_take 10 = .ok (.getfield 9, 3) := by decide +kernel
theorem dX3_take_13 : decode cX3_take 13 = .ok (.sipush 200, 3) := by decide +kernel
theorem dX3_take_16 : decode cX3_take 16 = .ok (.if_icmp .ge 37, 3) := by decide +kernel
theorem dX3_take_19 : decode cX3_take 19 = .ok (.aload_n 0, 1) := by decide +kernel
theorem dX3_take_20 : decode cX3_take 20 = .ok (.getfield 15, 3) := by decide +kernel
theorem dX3_take_23 : decode cX3_take 23 = .ok (.aload_n 0, 1) := by decide +kernel
theorem dX3_take_24 : decode cX3_take 24 = .ok (.getfield 9, 3) := by decide +kernel
theorem dX3_take_27 : decode cX3_take 27 = .ok (.lload_n 1, 1) := by decide +kernel
theorem dX3_take_28 : decode cX3_take 28 = .ok (.bipush 8, 2) := by decide +kernel
theorem dX3_take_30 : decode cX3_take 30 = .ok (.iload 4, 2) := by decide +kernel
theorem dX3_take_32 : decode cX3_take 32 = .ok (.imul, 1) := by decide +kernel
theorem dX3_take_33 : decode cX3_take 33 = .ok (.lushr, 1) := by decide +kernel
theorem dX3_take_34 : decode cX3_take 34 = .ok (.l2i, 1) := by decide +kernel
theorem dX3_take_35 : decode cX3_take 35 = .ok (.i2b, 1) := by decide +kernel
theorem dX3_take_36 : decode cX3_take 36 = .ok (.bastore, 1) := by decide +kernel
theorem dX3_take_37 : decode cX3_take 37 = .ok (.aload_n 0, 1) := by decide +kernel
theorem dX3_take_38 : decode cX3_take 38 = .ok (.dup, 1) := by decide +kernel
theorem dX3_take_39 : decode cX3_take 39 = .ok (.getfield 9, 3) := by decide +kernel
theorem dX3_take_42 : decode cX3_take 42 = .ok (.iconst 1, 1) := by decide +kernel
theorem dX3_take_43 : decode cX3_take 43 = .ok (.iadd, 1) := by decide +kernel
theorem dX3_take_44 : decode cX3_take 44 = .ok (.putfield 9, 3) := by decide +kernel
theorem dX3_take_47 : decode cX3_take 47 = .ok (.iinc 4 1, 3) := by decide +kernel
theorem dX3_take_50 : decode cX3_take 50 = .ok (.goto (-47), 3) := by decide +kernel
theorem dX3_take_53 : decode cX3_take 53 = .ok (.return_, 1) := by decide +kernel
set_option maxRecDepth 20000 in
theorem ggX3_readInto_X3_next : GoodIn wsX3_readInto wsX3_next := goodIn_r _ [8, 1, 3, 9, 10, 2, 11, 12, 13, 7, 14, 129, 130, 131, 132, 133] (by decide +kernel) (by decide +kernel)
set_option maxRecDepth 20000 in
theorem gX3_readInto_X3_next : GoodIn wsX3_readInto (wsV RX3 28 RX3 yX3_next wsX3_next) := goodIn_app (goodIn_of _ (by decide +kernel)) ggX3_readInto_X3_next
set_option maxRecDepth 20000 in
theorem ggX3_readInto_X3_readOne : GoodIn wsX3_readInto wsX3_readOne := goodIn_r _ [18, 19, 20, 21, 7, 22, 23, 24, 25, 26, 27, 28, 29, 2, 1, 3, 10, 30, 31, 32, 33, 34, 35, 36, 37, 38, 39, 40, 41, 42, 43, 44, 45, 46, 47, 48, 49, 50, 51, 52, 53, 54, 55, 56, 57, 58, 59, 60, 61, 62, 63, 64, 65, 66, 67, 68, 69, 70, 71, 72, 73, 74, 75, 76, 77, 78, 79, 80, 81, 82, 83, 84, 85, 86, 87, 88, 89, 90, 91, 92, 93, 94, 95, 96, 4, 5, 6, 8, 9, 11, 12, 13, 14, 97, 98, 99, 100, 101, 102, 103, 104, 105, 106, 107, 108, 109, 110, 111, 112, 113, 114, 115, 116, 117, 118, 119, 120, 121, 122, 123, 124, 125, 126, 127, 128, 129, 130, 131, 132, 133, 134, 135, 136, 137, 138, 139, 140, 141, 142, 143, 144] (by decide +kernel) (by decide +kernel)
set_option maxRecDepth 20000 in
theorem gX3_readInto_X3_readOne : GoodIn wsX3_readInto (wsV RX3 31 RX3 yX3_readOne wsX3_readOne) := goodIn_app (goodIn_of _ (by decide +kernel)) ggX3_readInto_X3_readOne
theorem dX3_readInto_0 : decode cX3_readInto 0 = .ok (.aload_n 0, 1) := by decide +kernel
theorem dX3_readInto_1 : decode cX3_readInto 1 = .ok (.iconst 0, 1) := by decide +kernel
theorem dX3_readInto_2 : decode cX3_readInto 2 = .ok (.putfield 25, 3) := by decide +kernel
theorem dX3_readInto_5 : decode cX3_readInto 5 = .ok (.aload_n 0, 1) := by decide +kernel
theorem dX3_readInto_6 : decode cX3_readInto 6 = .ok (.invokevirtual 28, 3) := by decide +kernel
theorem dX3_readInto_9 : decode cX3_readInto 9 = .ok (.iconst 0, 1) := by decide +kernel
theorem dX3_readInto_10 : decode cX3_readInto 10 = .ok (.istore_n 2, 1) := by decide +kernel
theorem dX3_readInto_11 : decode cX3_readInto 11 = .ok (.iload_n 2, 1) := by decide +kernel
theorem dX3_readInto_12 : decode cX3_readInto 12 = .ok (.sipush 200, 3) := by decide +kernel
theorem dX3_readInto_15 : decode cX3_readInto 15 = .ok (.if_icmp .ge 29, 3) := by decide +kernel
theorem dX3_readInto_18 : decode cX3_readInto 18 = .ok (.aload_n 0, 1) := by decide +kernel
theorem dX3_readInto_19 : decode cX3_readInto 19 = .ok (.getfield 19, 3) := by decide +kernel
theorem dX3_readInto_22 : decode cX3_readInto 22 = .ok (.ifCond .eq 22, 3) := by decide +kernel
theorem dX3_readInto_25 : decode cX3_readInto 25 = .ok (.aload_n 0, 1) := by decide +kernel
theorem dX3_readInto_26 : decode cX3_readInto 26 = .ok (.aload_n 1, 1) := by decide +kernel
theorem dX3_readInto_27 : decode cX3_readInto 27 = .ok (.invokevirtual 31, 3) := by decide +kernel
theorem dX3_readInto_30 : decode cX3_readInto 30 = .ok (.ifCond .ne 8, 3) := by decide +kernel
theorem dX3_readInto_33 : decode cX3_readInto 33 = .ok (.aload_n 0, 1) := by decide +kernel
theorem dX3_readInto_34 : decode cX3_readInto 34 = .ok (.getfield 22, 3) := by decide +kernel
theorem dX3_readInto_37 : decode cX3_readInto 37 = .ok (.ireturn, 1) := by decide +kernel
theorem dX3_readInto_38 : decode cX3_readInto 38 = .ok (.iinc 2 1, 3) := by decide +kernel
theorem dX3_readInto_41 : decode cX3_readInto 41 = .ok (.goto (-30), 3) := by decide +kernel
theorem dX3_readInto_44 : decode cX3_readInto 44 = .ok (.iconst (-1), 1) := by decide +kernel
theorem dX3_readInto_45 : decode cX3_readInto 45 = .ok (.ireturn, 1) := by decide +kernel
set_option maxRecDepth 20000 in
theorem ggX3_readOne_X3_kindNamed : GoodIn wsX3_readOne wsX3_kindNamed := goodIn_r _ [5, 6, 7, 4, 8, 9, 10, 11, 12, 13, 14, 15, 16, 17, 18, 19, 20, 21, 22, 23, 24, 25, 26, 27, 28, 29, 30, 31, 32, 33, 34, 35, 36, 37, 38, 39, 40, 41, 42, 43, 44, 45, 46, 47, 48, 49, 50, 51, 52, 53, 54, 55, 56, 57, 58, 59, 60, 61, 62, 63, 64, 65, 125, 126, 127, 128, 129] (by decide +kernel) (by decide +kernel)
set_option maxRecDepth 20000 in
theorem gX3_readOne_X3_kindNamed : GoodIn wsX3_readOne (wsV RX3 35 RX3 yX3_kindNamed wsX3_kindNamed) := goodIn_app (goodIn_of _ (by decide +kernel)) ggX3_readOne_X3_kindNamed
set_option maxRecDepth 20000 in
theorem ggX3_readOne_X3_readLaw : GoodIn wsX3_readOne wsX3_readLaw := goodIn_r _ [69, 70, 71, 72, 73, 4, 74, 75, 76, 77, 9, 10, 11, 12, 13, 14, 15, 16, 17, 18, 19, 20, 21, 22, 23, 24, 25, 26, 27, 28, 29, 30, 31, 32, 33, 34, 35, 36, 37, 38, 39, 40, 41, 42, 43, 44, 45, 46, 47, 48, 49, 50, 51, 52, 53, 54, 55, 56, 57, 58, 59, 60, 61, 62, 63, 64, 65, 78, 79, 80, 81, 82, 83, 84, 85, 86, 87, 88, 89, 90, 91, 92, 93, 94, 95, 96, 130, 131, 132, 133, 134, 135, 136, 137, 138, 139, 140, 125, 126, 127, 128, 129] (by decide +kernel) (by decide +kernel)
set_option maxRecDepth 20000 in
theorem gX3_readOne_X3_readLaw : GoodIn wsX3_readOne (wsV RX3 39 RX3 yX3_readLaw wsX3_readLaw) := goodIn_app (goodIn_of _ (by decide +kernel)) ggX3_readOne_X3_readLaw
set_option maxRecDepth 20000 in
theorem ggX3_readOne_X3_readPerson : GoodIn wsX3_readOne wsX3_readPerson := goodIn_r _ [100, 101, 84, 85, 86, 4, 87, 14, 15, 88, 16, 13, 89, 90, 91, 92, 102, 103, 104, 105, 9, 10, 11, 12, 17, 18, 19, 20, 21, 22, 23, 24, 25, 26, 27, 28, 29, 30, 31, 32, 33, 34, 35, 36, 37, 38, 39, 40, 41, 42, 43, 44, 45, 46, 47, 48, 49, 50, 51, 52, 53, 54, 55, 56, 57, 58, 59, 60, 61, 62, 63, 64, 65, 93, 94, 95, 96, 82, 79, 83, 106, 107, 108, 109, 110, 111, 112, 113, 114, 115, 116, 117, 118, 119, 120, 130, 131, 132, 133, 134, 135, 136, 137, 138, 139, 140, 125, 126, 127, 128, 129] (by decide +kernel) (by decide +kernel)
set_option maxRecDepth 20000 in
theorem gX3_readOne_X3_readPerson : GoodIn wsX3_readOne (wsV RX3 42 RX3 yX3_readPerson wsX3_readPerson) := goodIn_app (goodIn_of _ (by decide +kernel)) ggX3_readOne_X3_readPerson
set_option maxRecDepth 20000 in
theorem ggX3_readOne_X3_takeSemicolon : GoodIn wsX3_readOne wsX3_takeSemicolon := goodIn_r _ [124, 13, 16, 15, 84, 85, 86, 4, 87, 14, 88, 89, 90, 91, 92, 125, 126, 127, 128, 129] (by decide +kernel) (by decide +kernel)
set_option maxRecDepth 20000 in
theorem gX3_readOne_X3_takeSemicolon : GoodIn wsX3_readOne (wsV RX3 46 RX3 yX3_takeSemicolon wsX3_takeSemicolon) := goodIn_app (goodIn_of _ (by decide +kernel)) ggX3_readOne_X3_takeSemicolon
theorem dX3_readOne_0 : decode cX3_readOne 0 = .ok (.aload_n 0, 1) := by decide +kernel
theorem dX3_readOne_1 : decode cX3_readOne 1 = .ok (.invokevirtual 35, 3) := by decide +kernel
theorem dX3_readOne_4 : decode cX3_readOne 4 = .ok (.istore_n 2, 1) := by decide +kernel
theorem dX3_readOne_5 : decode cX3_readOne 5 = .ok (.iload_n 2, 1) := by decide +kernel
theorem dX3_readOne_6 : decode cX3_readOne 6 = .ok (.iconst (-1), 1) := by decide +kernel
theorem dX3_readOne_7 : decode cX3_readOne 7 = .ok (.if_icmp .ne 11, 3) := by decide +kernel
theorem dX3_readOne_10 : decode cX3_readOne 10 = .ok (.aload_n 0, 1) := by decide +kernel
theorem dX3_readOne_11 : decode cX3_readOne 11 = .ok (.aload_n 1, 1) := by decide +kernel
theorem dX3_readOne_12 : decode cX3_readOne 12 = .ok (.invokevirtual 39, 3) := by decide +kernel
theorem dX3_readOne_15 : decode cX3_readOne 15 = .ok (.goto 9, 3) := by decide +kernel
theorem dX3_readOne_18 : decode cX3_readOne 18 = .ok (.aload_n 0, 1) := by decide +kernel
theorem dX3_readOne_19 : decode cX3_readOne 19 = .ok (.aload_n 1, 1) := by decide +kernel
theorem dX3_readOne_20 : decode cX3_readOne 20 = .ok (.iload_n 2, 1) := by decide +kernel
theorem dX3_readOne_21 : decode cX3_readOne 21 = .ok (.invokevirtual 42, 3) := by decide +kernel
theorem dX3_readOne_24 : decode cX3_readOne 24 = .ok (.istore_n 3, 1) := by decide +kernel
theorem dX3_readOne_25 : decode cX3_readOne 25 = .ok (.iload_n 3, 1) := by decide +kernel
theorem dX3_readOne_26 : decode cX3_readOne 26 = .ok (.ifCond .eq 14, 3) := by decide +kernel
theorem dX3_readOne_29 : decode cX3_readOne 29 = .ok (.aload_n 0, 1) := by decide +kernel
theorem dX3_readOne_30 : decode cX3_readOne 30 = .ok (.invokevirtual 46, 3) := by decide +kernel
theorem dX3_readOne_33 : decode cX3_readOne 33 = .ok (.ifCond .eq 7, 3) := by decide +kernel
theorem dX3_readOne_36 : decode cX3_readOne 36 = .ok (.iconst 1, 1) := by decide +kernel
theorem dX3_readOne_37 : decode cX3_readOne 37 = .ok (.goto 4, 3) := by decide +kernel
theorem dX3_readOne_40 : decode cX3_readOne 40 = .ok (.iconst 0, 1) := by decide +kernel
theorem dX3_readOne_41 : decode cX3_readOne 41 = .ok (.ireturn, 1) := by decide +kernel
set_option maxRecDepth 20000 in
theorem ggX3_readPerson_X3_next : GoodIn wsX3_readPerson wsX3_next := goodIn_r _ [6, 7, 8, 9, 10, 11, 12, 13, 14, 5, 15, 106, 107, 108, 109, 110] (by decide +kernel) (by decide +kernel)
set_option maxRecDepth 20000 in
theorem gX3_readPerson_X3_next : GoodIn wsX3_readPerson (wsV RX3 28 RX3 yX3_next wsX3_next) := goodIn_app (goodIn_of _ (by decide +kernel)) ggX3_readPerson_X3_next
set_option maxRecDepth 20000 in
theorem ggX3_readPerson_X3_takeName : GoodIn wsX3_readPerson wsX3_takeName := goodIn_r _ [19, 20, 21, 22, 5, 23, 11, 7, 8, 10, 24, 25, 26, 27, 28, 29, 30, 31, 32, 33, 34, 35, 36, 37, 38, 39, 40, 41, 42, 43, 44, 45, 46, 47, 48, 49, 50, 51, 52, 53, 54, 55, 56, 57, 58, 59, 60, 61, 62, 63, 64, 65, 66, 67, 68, 69, 70, 71, 72, 2, 3, 4, 6, 9, 12, 13, 14, 15, 106, 107, 108, 109, 110] (by decide +kernel) (by decide +kernel)
set_option maxRecDepth 20000 in
theorem gX3_readPerson_X3_takeName : GoodIn wsX3_readPerson (wsV RX3 57 RX3 yX3_takeName wsX3_takeName) := goodIn_app (goodIn_of _ (by decide +kernel)) ggX3_readPerson_X3_takeName
set_option maxRecDepth 20000 in
theorem ggX3_readPerson_X3_takeNumber : GoodIn wsX3_readPerson wsX3_takeNumber := goodIn_r _ [76, 11, 7, 8, 10, 77, 78, 79, 2, 3, 4, 5, 6, 9, 12, 13, 14, 15, 106, 107, 108, 109, 110] (by decide +kernel) (by decide +kernel)
set_option maxRecDepth 20000 in
theorem gX3_readPerson_X3_takeNumber : GoodIn wsX3_readPerson (wsV RX3 61 RX3 yX3_takeNumber wsX3_takeNumber) := goodIn_app (goodIn_of _ (by decide +kernel)) ggX3_readPerson_X3_takeNumber
set_option maxRecDepth 20000 in
theorem ggX3_readPerson_X0_admit : GoodIn wsX3_readPerson wsX0_admit := goodIn_r _ [84, 85, 86, 87, 88, 89, 90, 91, 92, 83, 93, 94, 95, 96, 97, 98, 99, 100, 101, 102, 103, 104, 105] (by decide +kernel) (by decide +kernel)
set_option maxRecDepth 20000 in
theorem gX3_readPerson_X0_admit : GoodIn wsX3_readPerson (wsV RX3 71 RX0 yX0_admit wsX0_admit) := goodIn_app (goodIn_of _ (by decide +kernel)) ggX3_readPerson_X0_admit
theorem dX3_readPerson_0 : decode cX3_readPerson 0 = .ok (.aload_n 1, 1) := by decide +kernel
theorem dX3_readPerson_1 : decode cX3_readPerson 1 = .ok (.getfield 50, 3) := by decide +kernel
theorem dX3_readPerson_4 : decode cX3_readPerson 4 = .ok (.bipush 8, 2) := by decide +kernel
theorem dX3_readPerson_6 : decode cX3_readPerson 6 = .ok (.if_icmp .lt 5, 3) := by decide +kernel
theorem dX3_readPerson_9 : decode cX3_readPerson 9 = .ok (.iconst 0, 1) := by decide +kernel
theorem dX3_readPerson_10 : decode cX3_readPerson 10 = .ok (.ireturn, 1) := by decide +kernel
theorem dX3_readPerson_11 : decode cX3_readPerson 11 = .ok (.aload_n 0, 1) := by decide +kernel
theorem dX3_readPerson_12 : decode cX3_readPerson 12 = .ok (.invokevirtual 28, 3) := by decide +kernel
theorem dX3_readPerson_15 : decode cX3_readPerson 15 = .ok (.aload_n 0, 1) := by decide +kernel
theorem dX3_readPerson_16 : decode cX3_readPerson 16 = .ok (.ldc 55, 2) := by decide +kernel
theorem dX3_readPerson_18 : decode cX3_readPerson 18 = .ok (.invokevirtual 57, 3) := by decide +kernel
theorem dX3_readPerson_21 : decode cX3_readPerson 21 = .ok (.ifCond .ne 5, 3) := by decide +kernel
theorem dX3_readPerson_24 : decode cX3_readPerson 24 = .ok (.iconst 0, 1) := by decide +kernel
theorem dX3_readPerson_25 : decode cX3_readPerson 25 = .ok (.ireturn, 1) := by decide +kernel
theorem dX3_readPerson_26 : decode cX3_readPerson 26 = .ok (.aload_n 0, 1) := by decide +kernel
theorem dX3_readPerson_27 : decode cX3_readPerson 27 = .ok (.iconst 0, 1) := by decide +kernel
theorem dX3_readPerson_28 : decode cX3_readPerson 28 = .ok (.bipush 7, 2) := by decide +kernel
theorem dX3_readPerson_30 : decode cX3_readPerson 30 = .ok (.invokevirtual 61, 3) := by decide +kernel
theorem dX3_readPerson_33 : decode cX3_readPerson 33 = .ok (.istore_n 3, 1) := by decide +kernel
theorem dX3_readPerson_34 : decode cX3_readPerson 34 = .ok (.iload_n 3, 1) := by decide +kernel
theorem dX3_readPerson_35 : decode cX3_readPerson 35 = .ok (.iconst (-1), 1) := by decide +kernel
theorem dX3_readPerson_36 : decode cX3_readPerson 36 = .ok (.if_icmp .ne 5, 3) := by decide +kernel
theorem dX3_readPerson_39 : decode cX3_readPerson 39 = .ok (.iconst 0, 1) := by decide +kernel
theorem dX3_readPerson_40 : decode cX3_readPerson 40 = .ok (.ireturn, 1) := by decide +kernel
theorem dX3_readPerson_41 : decode cX3_readPerson 41 = .ok (.aload_n 0, 1) := by decide +kernel
theorem dX3_readPerson_42 : decode cX3_readPerson 42 = .ok (.ldc 65, 2) := by decide +kernel
theorem dX3_readPerson_44 : decode cX3_readPerson 44 = .ok (.invokevirtual 57, 3) := by decide +kernel
theorem dX3_readPerson_47 : decode cX3_readPerson 47 = .ok (.ifCond .eq 13, 3) := by decide +kernel
theorem dX3_readPerson_50 : decode cX3_readPerson 50 = .ok (.aload_n 0, 1) := by decide +kernel
theorem dX3_readPerson_51 : decode cX3_readPerson 51 = .ok (.iconst 0, 1) := by decide +kernel
theorem dX3_readPerson_52 : decode cX3_readPerson 52 = .ok (.bipush 99, 2) := by decide +kernel
theorem dX3_readPerson_54 : decode cX3_readPerson 54 = .ok (.invokevirtual 61, 3) := by decide +kernel
theorem dX3_readPerson_57 : decode cX3_readPerson 57 = .ok (.goto 4, 3) := by decide +kernel
theorem dX3_readPerson_60 : decode cX3_readPerson 60 = .ok (.iconst 0, 1) := by decide +kernel
theorem dX3_readPerson_61 : decode cX3_readPerson 61 = .ok (.istore 4, 2) := by decide +kernel
theorem dX3_readPerson_63 : decode cX3_readPerson 63 = .ok (.iload 4, 2) := by decide +kernel
theorem dX3_readPerson_65 : decode cX3_readPerson 65 = .ok (.iconst (-1), 1) := by decide +kernel
theorem dX3_readPerson_66 : decode cX3_readPerson 66 = .ok (.if_icmp .ne 5, 3) := by decide +kernel
theorem dX3_readPerson_69 : decode cX3_readPerson 69 = .ok (.iconst 0, 1) := by decide +kernel
theorem dX3_readPerson_70 : decode cX3_readPerson 70 = .ok (.ireturn, 1) := by decide +kernel
theorem dX3_readPerson_71 : decode cX3_readPerson 71 = .ok (.aload_n 0, 1) := by decide +kernel
theorem dX3_readPerson_72 : decode cX3_readPerson 72 = .ok (.ldc 67, 2) := by decide +kernel
theorem dX3_readPerson_74 : decode cX3_readPerson 74 = .ok (.invokevirtual 57, 3) := by decide +kernel
theorem dX3_readPerson_77 : decode cX3_readPerson 77 = .ok (.ifCond .eq 13, 3) := by decide +kernel
theorem dX3_readPerson_80 : decode cX3_readPerson 80 = .ok (.aload_n 0, 1) := by decide +kernel
theorem dX3_readPerson_81 : decode cX3_readPerson 81 = .ok (.iconst 0, 1) := by decide +kernel
theorem dX3_readPerson_82 : decode cX3_readPerson 82 = .ok (.bipush 9, 2) := by decide +kernel
theorem dX3_readPerson_84 : decode cX3_readPerson 84 = .ok (.invokevirtual 61, 3) := by decide +kernel
theorem dX3_readPerson_87 : decode cX3_readPerson 87 = .ok (.goto 4, 3) := by decide +kernel
theorem dX3_readPerson_90 : decode cX3_readPerson 90 = .ok (.iconst 3, 1) := by decide +kernel
theorem dX3_readPerson_91 : decode cX3_readPerson 91 = .ok (.istore 5, 2) := by decide +kernel
theorem dX3_readPerson_93 : decode cX3_readPerson 93 = .ok (.iload 5, 2) := by decide +kernel
theorem dX3_readPerson_95 : decode cX3_readPerson 95 = .ok (.iconst (-1), 1) := by decide +kernel
theorem dX3_readPerson_96 : decode cX3_readPerson 96 = .ok (.if_icmp .ne 5, 3) := by decide +kernel
theorem dX3_readPerson_99 : decode cX3_readPerson 99 = .ok (.iconst 0, 1) := by decide +kernel
theorem dX3_readPerson_100 : decode cX3_readPerson 100 = .ok (.ireturn, 1) := by decide +kernel
theorem dX3_readPerson_101 : decode cX3_readPerson 101 = .ok (.aload_n 1, 1) := by decide +kernel
theorem dX3_readPerson_102 : decode cX3_readPerson 102 = .ok (.iload_n 2, 1) := by decide +kernel
theorem dX3_readPerson_103 : decode cX3_readPerson 103 = .ok (.iload 4, 2) := by decide +kernel
theorem dX3_readPerson_105 : decode cX3_readPerson 105 = .ok (.iload 5, 2) := by decide +kernel
theorem dX3_readPerson_107 : decode cX3_readPerson 107 = .ok (.iload_n 3, 1) := by decide +kernel
theorem dX3_readPerson_108 : decode cX3_readPerson 108 = .ok (.aload_n 0, 1) := by decide +kernel
theorem dX3_readPerson_109 : decode cX3_readPerson 109 = .ok (.ldc 69, 2) := by decide +kernel
theorem dX3_readPerson_111 : decode cX3_readPerson 111 = .ok (.invokevirtual 57, 3) := by decide +kernel
theorem dX3_readPerson_114 : decode cX3_readPerson 114 = .ok (.invokevirtual 71, 3) := by decide +kernel
theorem dX3_readPerson_117 : decode cX3_readPerson 117 = .ok (.iconst 1, 1) := by decide +kernel
theorem dX3_readPerson_118 : decode cX3_readPerson 118 = .ok (.ireturn, 1) := by decide +kernel
set_option maxRecDepth 20000 in
theorem ggX3_readLaw_X3_lawNamed : GoodIn wsX3_readLaw wsX3_lawNamed := goodIn_r _ [6, 7, 8, 5, 9, 10, 11, 12, 13, 14, 15, 16, 17, 18, 19, 20, 21, 22, 23, 24, 25, 26, 27, 28, 29, 30, 31, 32, 33, 34, 35, 36, 37, 38, 39, 40, 41, 42, 43, 44, 45, 46, 47, 48, 49, 50, 51, 52, 53, 54, 55, 56, 57, 58, 59, 60, 61, 62, 63, 64, 65, 66, 97, 98, 99, 100, 101] (by decide +kernel) (by decide +kernel)
set_option maxRecDepth 20000 in
theorem gX3_readLaw_X3_lawNamed : GoodIn wsX3_readLaw (wsV RX3 75 RX3 yX3_lawNamed wsX3_lawNamed) := goodIn_app (goodIn_of _ (by decide +kernel)) ggX3_readLaw_X3_lawNamed
set_option maxRecDepth 20000 in
theorem ggX3_readLaw_X4_isLaw : GoodIn wsX3_readLaw wsX4_isLaw := goodIn_r _ [69, 70, 71, 68, 72] (by decide +kernel) (by decide +kernel)
set_option maxRecDepth 20000 in
theorem gX3_readLaw_X4_isLaw_n78 : GoodIn wsX3_readLaw (wsX4_isLaw) := ggX3_readLaw_X4_isLaw
set_option maxRecDepth 20000 in
theorem ggX3_readLaw_X3_next : GoodIn wsX3_readLaw wsX3_next := goodIn_r _ [76, 15, 16, 77, 17, 14, 78, 79, 80, 5, 81, 97, 98, 99, 100, 101] (by decide +kernel) (by decide +kernel)
set_option maxRecDepth 20000 in
theorem gX3_readLaw_X3_next : GoodIn wsX3_readLaw (wsV RX3 28 RX3 yX3_next wsX3_next) := goodIn_app (goodIn_of _ (by decide +kernel)) ggX3_readLaw_X3_next
set_option maxRecDepth 20000 in
theorem ggX3_readLaw_X3_takeNumber : GoodIn wsX3_readLaw wsX3_takeNumber := goodIn_r _ [85, 14, 15, 16, 17, 71, 68, 72, 73, 74, 75, 5, 76, 77, 78, 79, 80, 81, 97, 98, 99, 100, 101] (by decide +kernel) (by decide +kernel)
set_option maxRecDepth 20000 in
theorem gX3_readLaw_X3_takeNumber : GoodIn wsX3_readLaw (wsV RX3 61 RX3 yX3_takeNumber wsX3_takeNumber) := goodIn_app (goodIn_of _ (by decide +kernel)) ggX3_readLaw_X3_takeNumber
theorem dX3_readLaw_0 : decode cX3_readLaw 0 = .ok (.aload_n 0, 1) := by decide +kernel
theorem dX3_readLaw_1 : decode cX3_readLaw 1 = .ok (.invokevirtual 75, 3) := by decide +kernel
theorem dX3_readLaw_4 : decode cX3_readLaw 4 = .ok (.istore_n 2, 1) := by decide +kernel
theorem dX3_readLaw_5 : decode cX3_readLaw 5 = .ok (.iload_n 2, 1) := by decide +kernel
theorem dX3_readLaw_6 : decode cX3_readLaw 6 = .ok (.invokestatic 78, 3) := by decide +kernel
theorem dX3_readLaw_9 : decode cX3_readLaw 9 = .ok (.ifCond .ne 5, 3) := by decide +kernel
theorem dX3_readLaw_12 : decode cX3_readLaw 12 = .ok (.iconst 0, 1) := by decide +kernel
theorem dX3_readLaw_13 : decode cX3_readLaw 13 = .ok (.ireturn, 1) := by decide +kernel
theorem dX3_readLaw_14 : decode cX3_readLaw 14 = .ok (.aload_n 0, 1) := by decide +kernel
theorem dX3_readLaw_15 : decode cX3_readLaw 15 = .ok (.invokevirtual 28, 3) := by decide +kernel
theorem dX3_readLaw_18 : decode cX3_readLaw 18 = .ok (.aload_n 0, 1) := by decide +kernel
theorem dX3_readLaw_19 : decode cX3_readLaw 19 = .ok (.getstatic 82, 3) := by decide +kernel
theorem dX3_readLaw_22 : decode cX3_readLaw 22 = .ok (.iload_n 2, 1) := by decide +kernel
theorem dX3_readLaw_23 : decode cX3_readLaw 23 = .ok (.iaload, 1) := by decide +kernel
theorem dX3_readLaw_24 : decode cX3_readLaw 24 = .ok (.getstatic 86, 3) := by decide +kernel
theorem dX3_readLaw_27 : decode cX3_readLaw 27 = .ok (.iload_n 2, 1) := by decide +kernel
theorem dX3_readLaw_28 : decode cX3_readLaw 28 = .ok (.iaload, 1) := by decide +kernel
theorem dX3_readLaw_29 : decode cX3_readLaw 29 = .ok (.invokevirtual 61, 3) := by decide +kernel
theorem dX3_readLaw_32 : decode cX3_readLaw 32 = .ok (.istore_n 3, 1) := by decide +kernel
theorem dX3_readLaw_33 : decode cX3_readLaw 33 = .ok (.iload_n 3, 1) := by decide +kernel
theorem dX3_readLaw_34 : decode cX3_readLaw 34 = .ok (.iconst (-1), 1) := by decide +kernel
theorem dX3_readLaw_35 : decode cX3_readLaw 35 = .ok (.if_icmp .ne 5, 3) := by decide +kernel
theorem dX3_readLaw_38 : decode cX3_readLaw 38 = .ok (.iconst 0, 1) := by decide +kernel
theorem dX3_readLaw_39 : decode cX3_readLaw 39 = .ok (.ireturn, 1) := by decide +kernel
theorem dX3_readLaw_40 : decode cX3_readLaw 40 = .ok (.aload_n 1, 1) := by decide +kernel
theorem dX3_readLaw_41 : decode cX3_readLaw 41 = .ok (.getfield 89, 3) := by decide +kernel
theorem dX3_readLaw_44 : decode cX3_readLaw 44 = .ok (.iload_n 2, 1) := by decide +kernel
theorem dX3_readLaw_45 : decode cX3_readLaw 45 = .ok (.iload_n 3, 1) := by decide +kernel
theorem dX3_readLaw_46 : decode cX3_readLaw 46 = .ok (.iastore, 1) := by decide +kernel
theorem dX3_readLaw_47 : decode cX3_readLaw 47 = .ok (.iconst 1, 1) := by decide +kernel
theorem dX3_readLaw_48 : decode cX3_readLaw 48 = .ok (.ireturn, 1) := by decide +kernel
set_option maxRecDepth 20000 in
theorem ggX3_kindNamed_X3_nameOfKind : GoodIn wsX3_kindNamed wsX3_nameOfKind := goodIn_r _ [4] (by decide +kernel) (by decide +kernel)
set_option maxRecDepth 20000 in
theorem gX3_kindNamed_X3_nameOfKind : GoodIn wsX3_kindNamed (va_wsS RX3 92 yX3_nameOfKind wsX3_nameOfKind) := goodIn_app (goodIn_of _ (by decide +kernel)) ggX3_kindNamed_X3_nameOfKind
set_option maxRecDepth 20000 in
theorem ggX3_kindNamed_X3_isNamed : GoodIn wsX3_kindNamed wsX3_isNamed := goodIn_r _ [8, 9, 10, 11, 12, 13, 14, 15, 16, 17, 18, 19, 20, 21, 22, 23, 24, 25, 26, 27, 28, 29, 30, 31, 32, 33, 34, 35, 36, 37, 38, 39, 40, 41, 42, 43, 44, 45, 46, 47, 48, 49, 50, 51, 52, 53, 54, 55, 56, 57, 58, 59, 60, 61, 62, 63, 64, 65, 66] (by decide +kernel) (by decide +kernel)
set_option maxRecDepth 20000 in
theorem gX3_kindNamed_X3_isNamed : GoodIn wsX3_kindNamed (wsV RX3 96 RX3 yX3_isNamed wsX3_isNamed) := goodIn_app (goodIn_of _ (by decide +kernel)) ggX3_kindNamed_X3_isNamed
theorem dX3_kindNamed_0 : decode cX3_kindNamed 0 = .ok (.iconst 0, 1) := by decide +kernel
theorem dX3_kindNamed_1 : decode cX3_kindNamed 1 = .ok (.istore_n 1, 1) := by decide +kernel
theorem dX3_kindNamed_2 : decode cX3_kindNamed 2 = .ok (.iload_n 1, 1) := by decide +kernel
theorem dX3_kindNamed_3 : decode cX3_kindNamed 3 = .ok (.iconst 5, 1) := by decide +kernel
theorem dX3_kindNamed_4 : decode cX3_kindNamed 4 = .ok (.if_icmp .gt 22, 3) := by decide +kernel
theorem dX3_kindNamed_7 : decode cX3_kindNamed 7 = .ok (.aload_n 0, 1) := by decide +kernel
theorem dX3_kindNamed_8 : decode cX3_kindNamed 8 = .ok (.iload_n 1, 1) := by decide +kernel
theorem dX3_kindNamed_9 : decode cX3_kindNamed 9 = .ok (.invokestatic 92, 3) := by decide +kernel
theorem dX3_kindNamed_12 : decode cX3_kindNamed 12 = .ok (.invokevirtual 96, 3) := by decide +kernel
theorem dX3_kindNamed_15 : decode cX3_kindNamed 15 = .ok (.ifCond .eq 5, 3) := by decide +kernel
theorem dX3_kindNamed_18 : decode cX3_kindNamed 18 = .ok (.iload_n 1, 1) := by decide +kernel
theorem dX3_kindNamed_19 : decode cX3_kindNamed 19 = .ok (.ireturn, 1) := by decide +kernel
theorem dX3_kindNamed_20 : decode cX3_kindNamed 20 = .ok (.iinc 1 1, 3) := by decide +kernel
theorem dX3_kindNamed_23 : decode cX3_kindNamed 23 = .ok (.goto (-21), 3) := by decide +kernel
theorem dX3_kindNamed_26 : decode cX3_kindNamed 26 = .ok (.iconst (-1), 1) := by decide +kernel
theorem dX3_kindNamed_27 : decode cX3_kindNamed 27 = .ok (.ireturn, 1) := by decide +kernel
theorem dX3_nameOfKind_0 : decode cX3_nameOfKind 0 = .ok (.iload_n 0, 1) := by decide +kernel
theorem dX3_nameOfKind_1 : decode cX3_nameOfKind 1 = .ok (.tableswitch 50 1 5 #[35, 38, 41, 44, 47], 35) := by decide +kernel
theorem dX3_nameOfKind_36 : decode cX3_nameOfKind 36 = .ok (.ldc 99, 2) := by decide +kernel
theorem dX3_nameOfKind_38 : decode cX3_nameOfKind 38 = .ok (.areturn, 1) := by decide +kernel
theorem dX3_nameOfKind_39 : decode cX3_nameOfKind 39 = .ok (.ldc 101, 2) := by decide +kernel
theorem dX3_nameOfKind_41 : decode cX3_nameOfKind 41 = .ok (.areturn, 1) := by decide +kernel
theorem dX3_nameOfKind_42 : decode cX3_nameOfKind 42 = .ok (.ldc 103, 2) := by decide +kernel
theorem dX3_nameOfKind_44 : decode cX3_nameOfKind 44 = .ok (.areturn, 1) := by decide +kernel
theorem dX3_nameOfKind_45 : decode cX3_nameOfKind 45 = .ok (.ldc 105, 2) := by decide +kernel
theorem dX3_nameOfKind_47 : decode cX3_nameOfKind 47 = .ok (.areturn, 1) := by decide +kernel
theorem dX3_nameOfKind_48 : decode cX3_nameOfKind 48 = .ok (.ldc 107, 2) := by decide +kernel
theorem dX3_nameOfKind_50 : decode cX3_nameOfKind 50 = .ok (.areturn, 1) := by decide +kernel
theorem dX3_nameOfKind_51 : decode cX3_nameOfKind 51 = .ok (.ldc 109, 2) := by decide +kernel
theorem dX3_nameOfKind_53 : decode cX3_nameOfKind 53 = .ok (.areturn, 1) := by decide +kernel
set_option maxRecDepth 20000 in
theorem ggX3_lawNamed_X3_nameOfLaw : GoodIn wsX3_lawNamed wsX3_nameOfLaw := goodIn_r _ [4] (by decide +kernel) (by decide +kernel)
set_option maxRecDepth 20000 in
theorem gX3_lawNamed_X3_nameOfLaw : GoodIn wsX3_lawNamed (va_wsS RX3 111 yX3_nameOfLaw wsX3_nameOfLaw) := goodIn_app (goodIn_of _ (by decide +kernel)) ggX3_lawNamed_X3_nameOfLaw
set_option maxRecDepth 20000 in
theorem ggX3_lawNamed_X3_isNamed : GoodIn wsX3_lawNamed wsX3_isNamed := goodIn_r _ [8, 9, 10, 11, 12, 13, 14, 15, 16, 17, 18, 19, 20, 21, 22, 23, 24, 25, 26, 27, 28, 29, 30, 31, 32, 33, 34, 35, 36, 37, 38, 39, 40, 41, 42, 43, 44, 45, 46, 47, 48, 49, 50, 51, 52, 53, 54, 55, 56, 57, 58, 59, 60, 61, 62, 63, 64, 65, 66] (by decide +kernel) (by decide +kernel)
set_option maxRecDepth 20000 in
theorem gX3_lawNamed_X3_isNamed : GoodIn wsX3_lawNamed (wsV RX3 96 RX3 yX3_isNamed wsX3_isNamed) := goodIn_app (goodIn_of _ (by decide +kernel)) ggX3_lawNamed_X3_isNamed
theorem dX3_lawNamed_0 : decode cX3_lawNamed 0 = .ok (.iconst 0, 1) := by decide +kernel
theorem dX3_lawNamed_1 : decode cX3_lawNamed 1 = .ok (.istore_n 1, 1) := by decide +kernel
theorem dX3_lawNamed_2 : decode cX3_lawNamed 2 = .ok (.iload_n 1, 1) := by decide +kernel
theorem dX3_lawNamed_3 : decode cX3_lawNamed 3 = .ok (.iconst 4, 1) := by decide +kernel
theorem dX3_lawNamed_4 : decode cX3_lawNamed 4 = .ok (.if_icmp .ge 22, 3) := by decide +kernel
theorem dX3_lawNamed_7 : decode cX3_lawNamed 7 = .ok (.aload_n 0, 1) := by decide +kernel
theorem dX3_lawNamed_8 : decode cX3_lawNamed 8 = .ok (.iload_n 1, 1) := by decide +kernel
theorem dX3_lawNamed_9 : decode cX3_lawNamed 9 = .ok (.invokestatic 111, 3) := by decide +kernel
theorem dX3_lawNamed_12 : decode cX3_lawNamed 12 = .ok (.invokevirtual 96, 3) := by decide +kernel
theorem dX3_lawNamed_15 : decode cX3_lawNamed 15 = .ok (.ifCond .eq 5, 3) := by decide +kernel
theorem dX3_lawNamed_18 : decode cX3_lawNamed 18 = .ok (.iload_n 1, 1) := by decide +kernel
theorem dX3_lawNamed_19 : decode cX3_lawNamed 19 = .ok (.ireturn, 1) := by decide +kernel
theorem dX3_lawNamed_20 : decode cX3_lawNamed 20 = .ok (.iinc 1 1, 3) := by decide +kernel
theorem dX3_lawNamed_23 : decode cX3_lawNamed 23 = .ok (.goto (-21), 3) := by decide +kernel
theorem dX3_lawNamed_26 : decode cX3_lawNamed 26 = .ok (.iconst (-1), 1) := by decide +kernel
theorem dX3_lawNamed_27 : decode cX3_lawNamed 27 = .ok (.ireturn, 1) := by decide +kernel
theorem dX3_nameOfLaw_0 : decode cX3_nameOfLaw 0 = .ok (.iload_n 0, 1) := by decide +kernel
theorem dX3_nameOfLaw_1 : decode cX3_nameOfLaw 1 = .ok (.tableswitch 36 1 3 #[27, 30, 33], 27) := by decide +kernel
theorem dX3_nameOfLaw_28 : decode cX3_nameOfLaw 28 = .ok (.ldc 114, 2) := by decide +kernel
theorem dX3_nameOfLaw_30 : decode cX3_nameOfLaw 30 = .ok (.areturn, 1) := by decide +kernel
theorem dX3_nameOfLaw_31 : decode cX3_nameOfLaw 31 = .ok (.ldc 116, 2) := by decide +kernel
theorem dX3_nameOfLaw_33 : decode cX3_nameOfLaw 33 = .ok (.areturn, 1) := by decide +kernel
theorem dX3_nameOfLaw_34 : decode cX3_nameOfLaw 34 = .ok (.ldc 118, 2) := by decide +kernel
theorem dX3_nameOfLaw_36 : decode cX3_nameOfLaw 36 = .ok (.areturn, 1) := by decide +kernel
theorem dX3_nameOfLaw_37 : decode cX3_nameOfLaw 37 = .ok (.ldc 120, 2) := by decide +kernel
theorem dX3_nameOfLaw_39 : decode cX3_nameOfLaw 39 = .ok (.areturn, 1) := by decide +kernel
set_option maxRecDepth 20000 in
theorem ggX3_takeName_X3_isNamed : GoodIn wsX3_takeName wsX3_isNamed := goodIn_r _ [5, 6, 7, 8, 9, 10, 11, 12, 13, 14, 15, 16, 17, 18, 19, 20, 21, 22, 23, 24, 25, 26, 27, 28, 29, 30, 31, 32, 33, 34, 35, 36, 37, 38, 39, 40, 41, 42, 43, 44, 45, 46, 47, 48, 49, 50, 51, 52, 53, 54, 55, 56, 57, 58, 68, 69, 70, 71, 72] (by decide +kernel) (by decide +kernel)
set_option maxRecDepth 20000 in
theorem gX3_takeName_X3_isNamed : GoodIn wsX3_takeName (wsV RX3 96 RX3 yX3_isNamed wsX3_isNamed) := goodIn_app (goodIn_of _ (by decide +kernel)) ggX3_takeName_X3_isNamed
set_option maxRecDepth 20000 in
theorem ggX3_takeName_X3_next : GoodIn wsX3_takeName wsX3_next := goodIn_r _ [62, 7, 8, 63, 9, 6, 64, 65, 66, 4, 67, 68, 69, 70, 71, 72] (by decide +kernel) (by decide +kernel)
set_option maxRecDepth 20000 in
theorem gX3_takeName_X3_next : GoodIn wsX3_takeName (wsV RX3 28 RX3 yX3_next wsX3_next) := goodIn_app (goodIn_of _ (by decide +kernel)) ggX3_takeName_X3_next
theorem dX3_takeName_0 : decode cX3_takeName 0 = .ok (.aload_n 0, 1) := by decide +kernel
theorem dX3_takeName_1 : decode cX3_takeName 1 = .ok (.aload_n 1, 1) := by decide +kernel
theorem dX3_takeName_2 : decode cX3_takeName 2 = .ok (.invokevirtual 96, 3) := by decide +kernel
theorem dX3_takeName_5 : decode cX3_takeName 5 = .ok (.ifCond .ne 5, 3) := by decide +kernel
theorem dX3_takeName_8 : decode cX3_takeName 8 = .ok (.iconst 0, 1) := by decide +kernel
theorem dX3_takeName_9 : decode cX3_takeName 9 = .ok (.ireturn, 1) := by decide +kernel
theorem dX3_takeName_10 : decode cX3_takeName 10 = .ok (.aload_n 0, 1) := by decide +kernel
theorem dX3_takeName_11 : decode cX3_takeName 11 = .ok (.invokevirtual 28, 3) := by decide +kernel
theorem dX3_takeName_14 : decode cX3_takeName 14 = .ok (.iconst 1, 1) := by decide +kernel
theorem dX3_takeName_15 : decode cX3_takeName 15 = .ok (.ireturn, 1) := by decide +kernel
set_option maxRecDepth 20000 in
theorem ggX3_isNamed_J0_length_8abf5 : GoodIn wsX3_isNamed wsJ0_length_8abf5 := goodIn_r _ [9, 10, 11, 12, 13, 8, 14, 15, 16] (by decide +kernel) (by decide +kernel)
set_option maxRecDepth 20000 in
theorem gX3_isNamed_J0_length_8abf5 : GoodIn wsX3_isNamed (wsV RX3 122 RJ0 yJ0_length_8abf5 wsJ0_length_8abf5) := goodIn_app (goodIn_of _ (by decide +kernel)) ggX3_isNamed_J0_length_8abf5
set_option maxRecDepth 20000 in
theorem ggX3_isNamed_J0_charAt_5068e : GoodIn wsX3_isNamed wsJ0_charAt_5068e := goodIn_r _ [20, 10, 21, 22, 23, 8, 24, 15, 16, 25, 26, 27, 28, 29, 30, 31, 32, 33, 34, 35, 36, 37, 38, 39, 40, 41, 42, 43, 44, 45, 46, 47, 48, 49, 50, 51, 52, 53] (by decide +kernel) (by decide +kernel)
set_option maxRecDepth 20000 in
theorem gX3_isNamed_J0_charAt_5068e : GoodIn wsX3_isNamed (wsV RX3 126 RJ0 yJ0_charAt_5068e wsJ0_charAt_5068e) := goodIn_app (goodIn_of _ (by decide +kernel)) ggX3_isNamed_J0_charAt_5068e
theorem dX3_isNamed_0 : decode cX3_isNamed 0 = .ok (.aload_n 0, 1) := by decide +kernel
theorem dX3_isNamed_1 : decode cX3_isNamed 1 = .ok (.getfield 19, 3) := by decide +kernel
theorem dX3_isNamed_4 : decode cX3_isNamed 4 = .ok (.iconst 1, 1) := by decide +kernel
theorem dX3_isNamed_5 : decode cX3_isNamed 5 = .ok (.if_icmp .ne 19, 3) := by decide +kernel
theorem dX3_isNamed_8 : decode cX3_isNamed 8 = .ok (.aload_n 0, 1) := by decide +kernel
theorem dX3_isNamed_9 : decode cX3_isNamed 9 = .ok (.getfield 25, 3) := by decide +kernel
theorem dX3_isNamed_12 : decode cX3_isNamed 12 = .ok (.aload_n 0, 1) := by decide +kernel
theorem dX3_isNamed_13 : decode cX3_isNamed 13 = .ok (.getfield 22, 3) := by decide +kernel
theorem dX3_isNamed_16 : decode cX3_isNamed 16 = .ok (.isub, 1) := by decide +kernel
theorem dX3_isNamed_17 : decode cX3_isNamed 17 = .ok (.aload_n 1, 1) := by decide +kernel
theorem dX3_isNamed_18 : decode cX3_isNamed 18 = .ok (.invokevirtual 122, 3) := by decide +kernel
theorem dX3_isNamed_21 : decode cX3_isNamed 21 = .ok (.if_icmp .eq 5, 3) := by decide +kernel
theorem dX3_isNamed_24 : decode cX3_isNamed 24 = .ok (.iconst 0, 1) := by decide +kernel
theorem dX3_isNamed_25 : decode cX3_isNamed 25 = .ok (.ireturn, 1) := by decide +kernel
theorem dX3_isNamed_26 : decode cX3_isNamed 26 = .ok (.iconst 0, 1) := by decide +kernel
theorem dX3_isNamed_27 : decode cX3_isNamed 27 = .ok (.istore_n 2, 1) := by decide +kernel
theorem dX3_isNamed_28 : decode cX3_isNamed 28 = .ok (.iload_n 2, 1) := by decide +kernel
theorem dX3_isNamed_29 : decode cX3_isNamed 29 = .ok (.aload_n 1, 1) := by decide +kernel
theorem dX3_isNamed_30 : decode cX3_isNamed 30 = .ok (.invokevirtual 122, 3) := by decide +kernel
theorem dX3_isNamed_33 : decode cX3_isNamed 33 = .ok (.if_icmp .ge 30, 3) := by decide +kernel
theorem dX3_isNamed_36 : decode cX3_isNamed 36 = .ok (.aload_n 0, 1) := by decide +kernel
theorem dX3_isNamed_37 : decode cX3_isNamed 37 = .ok (.getfield 15, 3) := by decide +kernel
theorem dX3_isNamed_40 : decode cX3_isNamed 40 = .ok (.aload_n 0, 1) := by decide +kernel
theorem dX3_isNamed_41 : decode cX3_isNamed 41 = .ok (.getfield 22, 3) := by decide +kernel
theorem dX3_isNamed_44 : decode cX3_isNamed 44 = .ok (.iload_n 2, 1) := by decide +kernel
theorem dX3_isNamed_45 : decode cX3_isNamed 45 = .ok (.iadd, 1) := by decide +kernel
theorem dX3_isNamed_46 : decode cX3_isNamed 46 = .ok (.baload, 1) := by decide +kernel
theorem dX3_isNamed_47 : decode cX3_isNamed 47 = .ok (.aload_n 1, 1) := by decide +kernel
theorem dX3_isNamed_48 : decode cX3_isNamed 48 = .ok (.iload_n 2, 1) := by decide +kernel
theorem dX3_isNamed_49 : decode cX3_isNamed 49 = .ok (.invokevirtual 126, 3) := by decide +kernel
theorem dX3_isNamed_52 : decode cX3_isNamed 52 = .ok (.if_icmp .eq 5, 3) := by decide +kernel
theorem dX3_isNamed_55 : decode cX3_isNamed 55 = .ok (.iconst 0, 1) := by decide +kernel
theorem dX3_isNamed_56 : decode cX3_isNamed 56 = .ok (.ireturn, 1) := by decide +kernel
theorem dX3_isNamed_57 : decode cX3_isNamed 57 = .ok (.iinc 2 1, 3) := by decide +kernel
theorem dX3_isNamed_60 : decode cX3_isNamed 60 = .ok (.goto (-32), 3) := by decide +kernel
theorem dX3_isNamed_63 : decode cX3_isNamed 63 = .ok (.iconst 1, 1) := by decide +kernel
theorem dX3_isNamed_64 : decode cX3_isNamed 64 = .ok (.ireturn, 1) := by decide +kernel
set_option maxRecDepth 20000 in
theorem ggX3_takeNumber_X4_within : GoodIn wsX3_takeNumber wsX4_within := goodIn_r _ [7] (by decide +kernel) (by decide +kernel)
set_option maxRecDepth 20000 in
theorem gX3_takeNumber_X4_within_n130 : GoodIn wsX3_takeNumber (wsX4_within) := ggX3_takeNumber_X4_within
set_option maxRecDepth 20000 in
theorem ggX3_takeNumber_X3_next : GoodIn wsX3_takeNumber wsX3_next := goodIn_r _ [12, 2, 3, 13, 4, 1, 14, 15, 16, 11, 17, 18, 19, 20, 21, 22] (by decide +kernel) (by decide +kernel)
set_option maxRecDepth 20000 in
theorem gX3_takeNumber_X3_next : GoodIn wsX3_takeNumber (wsV RX3 28 RX3 yX3_next wsX3_next) := goodIn_app (goodIn_of _ (by decide +kernel)) ggX3_takeNumber_X3_next
theorem dX3_takeNumber_0 : decode cX3_takeNumber 0 = .ok (.aload_n 0, 1) := by decide +kernel
theorem dX3_takeNumber_1 : decode cX3_takeNumber 1 = .ok (.getfield 19, 3) := by decide +kernel
theorem dX3_takeNumber_4 : decode cX3_takeNumber 4 = .ok (.iconst 2, 1) := by decide +kernel
theorem dX3_takeNumber_5 : decode cX3_takeNumber 5 = .ok (.if_icmp .ne 16, 3) := by decide +kernel
theorem dX3_takeNumber_8 : decode cX3_takeNumber 8 = .ok (.aload_n 0, 1) := by decide +kernel
theorem dX3_takeNumber_9 : decode cX3_takeNumber 9 = .ok (.getfield 25, 3) := by decide +kernel
theorem dX3_takeNumber_12 : decode cX3_takeNumber 12 = .ok (.aload_n 0, 1) := by decide +kernel
theorem dX3_takeNumber_13 : decode cX3_takeNumber 13 = .ok (.getfield 22, 3) := by decide +kernel
theorem dX3_takeNumber_16 : decode cX3_takeNumber 16 = .ok (.isub, 1) := by decide +kernel
theorem dX3_takeNumber_17 : decode cX3_takeNumber 17 = .ok (.iconst 3, 1) := by decide +kernel
theorem dX3_takeNumber_18 : decode cX3_takeNumber 18 = .ok (.if_icmp .le 5, 3) := by decide +kernel
theorem dX3_takeNumber_21 : decode cX3_takeNumber 21 = .ok (.iconst (-1), 1) := by decide +kernel
theorem dX3_takeNumber_22 : decode cX3_takeNumber 22 = .ok (.ireturn, 1) := by decide +kernel
theorem dX3_takeNumber_23 : decode cX3_takeNumber 23 = .ok (.iconst 0, 1) := by decide +kernel
theorem dX3_takeNumber_24 : decode cX3_takeNumber 24 = .ok (.istore_n 3, 1) := by decide +kernel
theorem dX3_takeNumber_25 : decode cX3_takeNumber 25 = .ok (.aload_n 0, 1) := by decide +kernel
theorem dX3_takeNumber_26 : decode cX3_takeNumber 26 = .ok (.getfield 22, 3) := by decide +kernel
theorem dX3_takeNumber_29 : decode cX3_takeNumber 29 = .ok (.istore 4, 2) := by decide +kernel
theorem dX3_takeNumber_31 : decode cX3_takeNumber 31 = .ok (.iload 4, 2) := by decide +kernel
theorem dX3_takeNumber_33 : decode cX3_takeNumber 33 = .ok (.aload_n 0, 1) := by decide +kernel
theorem dX3_takeNumber_34 : decode cX3_takeNumber 34 = .ok (.getfield 25, 3) := by decide +kernel
theorem dX3_takeNumber_37 : decode cX3_takeNumber 37 = .ok (.if_icmp .ge 25, 3) := by decide +kernel
theorem dX3_takeNumber_40 : decode cX3_takeNumber 40 = .ok (.iload_n 3, 1) := by decide +kernel
theorem dX3_takeNumber_41 : decode cX3_takeNumber 41 = .ok (.bipush 10, 2) := by decide +kernel
theorem dX3_takeNumber_43 : decode cX3_takeNumber 43 = .ok (.imul, 1) := by decide +kernel
theorem dX3_takeNumber_44 : decode cX3_takeNumber 44 = .ok (.aload_n 0, 1) := by decide +kernel
theorem dX3_takeNumber_45 : decode cX3_takeNumber 45 = .ok (.getfield 15, 3) := by decide +kernel
theorem dX3_takeNumber_48 : decode cX3_takeNumber 48 = .ok (.iload 4, 2) := by decide +kernel
theorem dX3_takeNumber_50 : decode cX3_takeNumber 50 = .ok (.baload, 1) := by decide +kernel
theorem dX3_takeNumber_51 : decode cX3_takeNumber 51 = .ok (.iadd, 1) := by decide +kernel
theorem dX3_takeNumber_52 : decode cX3_takeNumber 52 = .ok (.bipush 48, 2) := by decide +kernel
theorem dX3_takeNumber_54 : decode cX3_takeNumber 54 = .ok (.isub, 1) := by decide +kernel
theorem dX3_takeNumber_55 : decode cX3_takeNumber 55 = .ok (.istore_n 3, 1) := by decide +kernel
theorem dX3_takeNumber_56 : decode cX3_takeNumber 56 = .ok (.iinc 4 1, 3) := by decide +kernel
theorem dX3_takeNumber_59 : decode cX3_takeNumber 59 = .ok (.goto (-28), 3) := by decide +kernel
theorem dX3_takeNumber_62 : decode cX3_takeNumber 62 = .ok (.iload_n 3, 1) := by decide +kernel
theorem dX3_takeNumber_63 : decode cX3_takeNumber 63 = .ok (.iload_n 1, 1) := by decide +kernel
theorem dX3_takeNumber_64 : decode cX3_takeNumber 64 = .ok (.iload_n 2, 1) := by decide +kernel
theorem dX3_takeNumber_65 : decode cX3_takeNumber 65 = .ok (.invokestatic 130, 3) := by decide +kernel
theorem dX3_takeNumber_68 : decode cX3_takeNumber 68 = .ok (.ifCond .ne 5, 3) := by decide +kernel
theorem dX3_takeNumber_71 : decode cX3_takeNumber 71 = .ok (.iconst (-1), 1) := by decide +kernel
theorem dX3_takeNumber_72 : decode cX3_takeNumber 72 = .ok (.ireturn, 1) := by decide +kernel
theorem dX3_takeNumber_73 : decode cX3_takeNumber 73 = .ok (.aload_n 0, 1) := by decide +kernel
theorem dX3_takeNumber_74 : decode cX3_takeNumber 74 = .ok (.invokevirtual 28, 3) := by decide +kernel
theorem dX3_takeNumber_77 : decode cX3_takeNumber 77 = .ok (.iload_n 3, 1) := by decide +kernel
theorem dX3_takeNumber_78 : decode cX3_takeNumber 78 = .ok (.ireturn, 1) := by decide +kernel
set_option maxRecDepth 20000 in
theorem ggX3_takeSemicolon_X3_next : GoodIn wsX3_takeSemicolon wsX3_next := goodIn_r _ [8, 9, 3, 10, 2, 1, 11, 12, 13, 7, 14, 15, 16, 17, 18, 19] (by decide +kernel) (by decide +kernel)
set_option maxRecDepth 20000 in
theorem gX3_takeSemicolon_X3_next : GoodIn wsX3_takeSemicolon (wsV RX3 28 RX3 yX3_next wsX3_next) := goodIn_app (goodIn_of _ (by decide +kernel)) ggX3_takeSemicolon_X3_next
theorem dX3_takeSemicolon_0 : decode cX3_takeSemicolon 0 = .ok (.aload_n 0, 1) := by decide +kernel
theorem dX3_takeSemicolon_1 : decode cX3_takeSemicolon 1 = .ok (.getfield 19, 3) := by decide +kernel
theorem dX3_takeSemicolon_4 : decode cX3_takeSemicolon 4 = .ok (.iconst 3, 1) := by decide +kernel
theorem dX3_takeSemicolon_5 : decode cX3_takeSemicolon 5 = .ok (.if_icmp .ne 17, 3) := by decide +kernel
theorem dX3_takeSemicolon_8 : decode cX3_takeSemicolon 8 = .ok (.aload_n 0, 1) := by decide +kernel
theorem dX3_takeSemicolon_9 : decode cX3_takeSemicolon 9 = .ok (.getfield 15, 3) := by decide +kernel
theorem dX3_takeSemicolon_12 : decode cX3_takeSemicolon 12 = .ok (.aload_n 0, 1) := by decide +kernel
theorem dX3_takeSemicolon_13 : decode cX3_takeSemicolon 13 = .ok (.getfield 22, 3) := by decide +kernel
theorem dX3_takeSemicolon_16 : decode cX3_takeSemicolon 16 = .ok (.baload, 1) := by decide +kernel
theorem dX3_takeSemicolon_17 : decode cX3_takeSemicolon 17 = .ok (.bipush 59, 2) := by decide +kernel
theorem dX3_takeSemicolon_19 : decode cX3_takeSemicolon 19 = .ok (.if_icmp .eq 5, 3) := by decide +kernel
theorem dX3_takeSemicolon_22 : decode cX3_takeSemicolon 22 = .ok (.iconst 0, 1) := by decide +kernel
theorem dX3_takeSemicolon_23 : decode cX3_takeSemicolon 23 = .ok (.ireturn, 1) := by decide +kernel
theorem dX3_takeSemicolon_24 : decode cX3_takeSemicolon 24 = .ok (.aload_n 0, 1) := by decide +kernel
theorem dX3_takeSemicolon_25 : decode cX3_takeSemicolon 25 = .ok (.invokevirtual 28, 3) := by decide +kernel
theorem dX3_takeSemicolon_28 : decode cX3_takeSemicolon 28 = .ok (.iconst 1, 1) := by decide +kernel
theorem dX3_takeSemicolon_29 : decode cX3_takeSemicolon 29 = .ok (.ireturn, 1) := by decide +kernel
set_option maxRecDepth 20000 in
theorem ggX3_next_X3_sortAt : GoodIn wsX3_next wsX3_sortAt := goodIn_r _ [10, 3, 4, 11, 12, 13, 14, 15] (by decide +kernel) (by decide +kernel)
set_option maxRecDepth 20000 in
theorem gX3_next_X3_sortAt : GoodIn wsX3_next (wsV RX3 134 RX3 yX3_sortAt wsX3_sortAt) := goodIn_app (goodIn_of _ (by decide +kernel)) ggX3_next_X3_sortAt
theorem dX3_next_0 : decode cX3_next 0 = .ok (.aload_n 0, 1) := by decide +kernel
theorem dX3_next_1 : decode cX3_next 1 = .ok (.aload_n 0, 1) := by decide +kernel
theorem dX3_next_2 : decode cX3_next 2 = .ok (.getfield 25, 3) := by decide +kernel
theorem dX3_next_5 : decode cX3_next 5 = .ok (.putfield 22, 3) := by decide +kernel
theorem dX3_next_8 : decode cX3_next 8 = .ok (.aload_n 0, 1) := by decide +kernel
theorem dX3_next_9 : decode cX3_next 9 = .ok (.getfield 22, 3) := by decide +kernel
theorem dX3_next_12 : decode cX3_next 12 = .ok (.aload_n 0, 1) := by decide +kernel
theorem dX3_next_13 : decode cX3_next 13 = .ok (.getfield 9, 3) := by decide +kernel
theorem dX3_next_16 : decode cX3_next 16 = .ok (.if_icmp .ge 30, 3) := by decide +kernel
theorem dX3_next_19 : decode cX3_next 19 = .ok (.aload_n 0, 1) := by decide +kernel
theorem dX3_next_20 : decode cX3_next 20 = .ok (.getfield 15, 3) := by decide +kernel
theorem dX3_next_23 : decode cX3_next 23 = .ok (.aload_n 0, 1) := by decide +kernel
theorem dX3_next_24 : decode cX3_next 24 = .ok (.getfield 22, 3) := by decide +kernel
theorem dX3_next_27 : decode cX3_next 27 = .ok (.baload, 1) := by decide +kernel
theorem dX3_next_28 : decode cX3_next 28 = .ok (.bipush 32, 2) := by decide +kernel
theorem dX3_next_30 : decode cX3_next 30 = .ok (.if_icmp .ne 16, 3) := by decide +kernel
theorem dX3_next_33 : decode cX3_next 33 = .ok (.aload_n 0, 1) := by decide +kernel
theorem dX3_next_34 : decode cX3_next 34 = .ok (.dup, 1) := by decide +kernel
theorem dX3_next_35 : decode cX3_next 35 = .ok (.getfield 22, 3) := by decide +kernel
theorem dX3_next_38 : decode cX3_next 38 = .ok (.iconst 1, 1) := by decide +kernel
theorem dX3_next_39 : decode cX3_next 39 = .ok (.iadd, 1) := by decide +kernel
theorem dX3_next_40 : decode cX3_next 40 = .ok (.putfield 22, 3) := by decide +kernel
theorem dX3_next_43 : decode cX3_next 43 = .ok (.goto (-35), 3) := by decide +kernel
theorem dX3_next_46 : decode cX3_next 46 = .ok (.aload_n 0, 1) := by decide +kernel
theorem dX3_next_47 : decode cX3_next 47 = .ok (.aload_n 0, 1) := by decide +kernel
theorem dX3_next_48 : decode cX3_next 48 = .ok (.getfield 22, 3) := by decide +kernel
theorem dX3_next_51 : decode cX3_next 51 = .ok (.putfield 25, 3) := by decide +kernel
theorem dX3_next_54 : decode cX3_next 54 = .ok (.aload_n 0, 1) := by decide +kernel
theorem dX3_next_55 : decode cX3_next 55 = .ok (.aload_n 0, 1) := by decide +kernel
theorem dX3_next_56 : decode cX3_next 56 = .ok (.aload_n 0, 1) := by decide +kernel
theorem dX3_next_57 : decode cX3_next 57 = .ok (.getfield 22, 3) := by decide +kernel
theorem dX3_next_60 : decode cX3_next 60 = .ok (.invokevirtual 134, 3) := by decide +kernel
theorem dX3_next_63 : decode cX3_next 63 = .ok (.putfield 19, 3) := by decide +kernel
theorem dX3_next_66 : decode cX3_next 66 = .ok (.aload_n 0, 1) := by decide +kernel
theorem dX3_next_67 : decode cX3_next 67 = .ok (.getfield 19, 3) := by decide +kernel
theorem dX3_next_70 : decode cX3_next 70 = .ok (.iconst 3, 1) := by decide +kernel
theorem dX3_next_71 : decode cX3_next 71 = .ok (.if_icmp .ne 14, 3) := by decide +kernel
theorem dX3_next_74 : decode cX3_next 74 = .ok (.aload_n 0, 1) := by decide +kernel
theorem dX3_next_75 : decode cX3_next 75 = .ok (.dup, 1) := by decide +kernel
theorem dX3_next_76 : decode cX3_next 76 = .ok (.getfield 25, 3) := by decide +kernel
theorem dX3_next_79 : decode cX3_next 79 = .ok (.iconst 1, 1) := by decide +kernel
theorem dX3_next_80 : decode cX3_next 80 = .ok (.iadd, 1) := by decide +kernel
theorem dX3_next_81 : decode cX3_next 81 = .ok (.putfield 25, 3) := by decide +kernel
theorem dX3_next_84 : decode cX3_next 84 = .ok (.return_, 1) := by decide +kernel
theorem dX3_next_85 : decode cX3_next 85 = .ok (.aload_n 0, 1) := by decide +kernel
theorem dX3_next_86 : decode cX3_next 86 = .ok (.getfield 25, 3) := by decide +kernel
theorem dX3_next_89 : decode cX3_next 89 = .ok (.aload_n 0, 1) := by decide +kernel
theorem dX3_next_90 : decode cX3_next 90 = .ok (.getfield 9, 3) := by decide +kernel
theorem dX3_next_93 : decode cX3_next 93 = .ok (.if_icmp .ge 31, 3) := by decide +kernel
theorem dX3_next_96 : decode cX3_next 96 = .ok (.aload_n 0, 1) := by decide +kernel
theorem dX3_next_97 : decode cX3_next 97 = .ok (.aload_n 0, 1) := by decide +kernel
theorem dX3_next_98 : decode cX3_next 98 = .ok (.getfield 25, 3) := by decide +kernel
theorem dX3_next_101 : decode cX3_next 101 = .ok (.invokevirtual 134, 3) := by decide +kernel
theorem dX3_next_104 : decode cX3_next 104 = .ok (.aload_n 0, 1) := by decide +kernel
theorem dX3_next_105 : decode cX3_next 105 = .ok (.getfield 19, 3) := by decide +kernel
theorem dX3_next_108 : decode cX3_next 108 = .ok (.if_icmp .ne 16, 3) := by decide +kernel
theorem dX3_next_111 : decode cX3_next 111 = .ok (.aload_n 0, 1) := by decide +kernel
theorem dX3_next_112 : decode cX3_next 112 = .ok (.dup, 1) := by decide +kernel
theorem dX3_next_113 : decode cX3_next 113 = .ok (.getfield 25, 3) := by decide +kernel
theorem dX3_next_116 : decode cX3_next 116 = .ok (.iconst 1, 1) := by decide +kernel
theorem dX3_next_117 : decode cX3_next 117 = .ok (.iadd, 1) := by decide +kernel
theorem dX3_next_118 : decode cX3_next 118 = .ok (.putfield 25, 3) := by decide +kernel
theorem dX3_next_121 : decode cX3_next 121 = .ok (.goto (-36), 3) := by decide +kernel
theorem dX3_next_124 : decode cX3_next 124 = .ok (.return_, 1) := by decide +kernel
theorem dX3_sortAt_0 : decode cX3_sortAt 0 = .ok (.iload_n 1, 1) := by decide +kernel
theorem dX3_sortAt_1 : decode cX3_sortAt 1 = .ok (.aload_n 0, 1) := by decide +kernel
theorem dX3_sortAt_2 : decode cX3_sortAt 2 = .ok (.getfield 9, 3) := by decide +kernel
theorem dX3_sortAt_5 : decode cX3_sortAt 5 = .ok (.if_icmp .lt 5, 3) := by decide +kernel
theorem dX3_sortAt_8 : decode cX3_sortAt 8 = .ok (.iconst 0, 1) := by decide +kernel
theorem dX3_sortAt_9 : decode cX3_sortAt 9 = .ok (.ireturn, 1) := by decide +kernel
theorem dX3_sortAt_10 : decode cX3_sortAt 10 = .ok (.aload_n 0, 1) := by decide +kernel
theorem dX3_sortAt_11 : decode cX3_sortAt 11 = .ok (.getfield 15, 3) := by decide +kernel
theorem dX3_sortAt_14 : decode cX3_sortAt 14 = .ok (.iload_n 1, 1) := by decide +kernel
theorem dX3_sortAt_15 : decode cX3_sortAt 15 = .ok (.baload, 1) := by decide +kernel
theorem dX3_sortAt_16 : decode cX3_sortAt 16 = .ok (.istore_n 2, 1) := by decide +kernel
theorem dX3_sortAt_17 : decode cX3_sortAt 17 = .ok (.bipush 97, 2) := by decide +kernel
theorem dX3_sortAt_19 : decode cX3_sortAt 19 = .ok (.iload_n 2, 1) := by decide +kernel
theorem dX3_sortAt_20 : decode cX3_sortAt 20 = .ok (.if_icmp .gt 11, 3) := by decide +kernel
theorem dX3_sortAt_23 : decode cX3_sortAt 23 = .ok (.iload_n 2, 1) := by decide +kernel
theorem dX3_sortAt_24 : decode cX3_sortAt 24 = .ok (.bipush 122, 2) := by decide +kernel
theorem dX3_sortAt_26 : decode cX3_sortAt 26 = .ok (.if_icmp .gt 5, 3) := by decide +kernel
theorem dX3_sortAt_29 : decode cX3_sortAt 29 = .ok (.iconst 1, 1) := by decide +kernel
theorem dX3_sortAt_30 : decode cX3_sortAt 30 = .ok (.ireturn, 1) := by decide +kernel
theorem dX3_sortAt_31 : decode cX3_sortAt 31 = .ok (.bipush 48, 2) := by decide +kernel
theorem dX3_sortAt_33 : decode cX3_sortAt 33 = .ok (.iload_n 2, 1) := by decide +kernel
theorem dX3_sortAt_34 : decode cX3_sortAt 34 = .ok (.if_icmp .gt 13, 3) := by decide +kernel
theorem dX3_sortAt_37 : decode cX3_sortAt 37 = .ok (.iload_n 2, 1) := by decide +kernel
theorem dX3_sortAt_38 : decode cX3_sortAt 38 = .ok (.bipush 57, 2) := by decide +kernel
theorem dX3_sortAt_40 : decode cX3_sortAt 40 = .ok (.if_icmp .gt 7, 3) := by decide +kernel
theorem dX3_sortAt_43 : decode cX3_sortAt 43 = .ok (.iconst 2, 1) := by decide +kernel
theorem dX3_sortAt_44 : decode cX3_sortAt 44 = .ok (.goto 4, 3) := by decide +kernel
theorem dX3_sortAt_47 : decode cX3_sortAt 47 = .ok (.iconst 3, 1) := by decide +kernel
theorem dX3_sortAt_48 : decode cX3_sortAt 48 = .ok (.ireturn, 1) := by decide +kernel
