theorem dX3_init_0 : decode cX3_init 0 = .ok (.aload_n 0, 1) := by decide +kernel
theorem dX3_init_1 : decode cX3_init 1 = .ok (.invokespecial 3, 3) := by decide +kernel
theorem dX3_init_4 : decode cX3_init 4 = .ok (.aload_n 0, 1) := by decide +kernel
theorem dX3_init_5 : decode cX3_init 5 = .ok (.bipush 24, 2) := by decide +kernel
theorem dX3_init_7 : decode cX3_init 7 = .ok (.bipush 6, 2) := by decide +kernel
theorem dX3_init_9 : decode cX3_init 9 = .ok (.multianewarray 9 2, 4) := by decide +kernel
theorem dX3_init_13 : decode cX3_init 13 = .ok (.putfield 11, 3) := by decide +kernel
theorem dX3_init_16 : decode cX3_init 16 = .ok (.aload_n 0, 1) := by decide +kernel
theorem dX3_init_17 : decode cX3_init 17 = .ok (.bipush 7, 2) := by decide +kernel
theorem dX3_init_19 : decode cX3_init 19 = .ok (.bipush 6, 2) := by decide +kernel
theorem dX3_init_21 : decode cX3_init 21 = .ok (.multianewarray 9 2, 4) := by decide +kernel
theorem dX3_init_25 : decode cX3_init 25 = .ok (.putfield 16, 3) := by decide +kernel
theorem dX3_init_28 : decode cX3_init 28 = .ok (.aload_n 0, 1) := by decide +kernel
theorem dX3_init_29 : decode cX3_init 29 = .ok (.bipush 6, 2) := by decide +kernel
theorem dX3_init_31 : decode cX3_init 31 = .ok (.newarray .int, 2) := by decide +kernel
theorem dX3_init_33 : decode cX3_init 33 = .ok (.putfield 19, 3) := by decide +kernel
theorem dX3_init_36 : decode cX3_init 36 = .ok (.return_, 1) := by decide +kernel
theorem dX3_mostSure_0 : decode cX3_mostSure 0 = .ok (.aload_n 0, 1) := by decide +kernel
theorem dX3_mostSure_1 : decode cX3_mostSure 1 = .ok (.getfield 23, 3) := by decide +kernel
theorem dX3_mostSure_4 : decode cX3_mostSure 4 = .ok (.ireturn, 1) := by decide +kernel
theorem dX3_bestOff_0 : decode cX3_bestOff 0 = .ok (.aload_n 0, 1) := by decide +kernel
theorem dX3_bestOff_1 : decode cX3_bestOff 1 = .ok (.getfield 19, 3) := by decide +kernel
theorem dX3_bestOff_4 : decode cX3_bestOff 4 = .ok (.iload_n 1, 1) := by decide +kernel
theorem dX3_bestOff_5 : decode cX3_bestOff 5 = .ok (.iaload, 1) := by decide +kernel
theorem dX3_bestOff_6 : decode cX3_bestOff 6 = .ok (.ireturn, 1) := by decide +kernel
set_option maxRecDepth 20000 in
theorem ggX3_run_X3_fillSpares : GoodIn wsX3_run wsX3_fillSpares := goodIn_r _ [13, 14, 15, 1, 16, 17, 18, 19, 12, 20, 21, 22, 23, 24, 25, 26, 27, 28, 29, 30, 31, 32, 33, 34, 35, 36, 37, 38, 39, 40, 41, 42, 43, 44, 45, 46, 47, 48, 71, 72, 73, 74, 75, 76, 77, 78, 79, 80, 81, 82, 83] (by decide +kernel) (by decide +kernel)
set_option maxRecDepth 20000 in
theorem gX3_run_X3_fillSpares : GoodIn wsX3_run (wsV RX3 27 RX3 yX3_fillSpares wsX3_fillSpares) := goodIn_app (goodIn_of _ (by decide +kernel)) ggX3_run_X3_fillSpares
set_option maxRecDepth 20000 in
theorem ggX3_run_J7_fill_53178 : GoodIn wsX3_run wsJ7_fill_53178 := goodIn_r _ [52] (by decide +kernel) (by decide +kernel)
set_option maxRecDepth 20000 in
theorem gX3_run_J7_fill_53178 : GoodIn wsX3_run (va_wsS RX3 36 yJ7_fill_53178 wsJ7_fill_53178) := goodIn_app (goodIn_of _ (by decide +kernel)) ggX3_run_J7_fill_53178
set_option maxRecDepth 20000 in
theorem ggX3_run_X3_narrow : GoodIn wsX3_run wsX3_narrow := goodIn_r _ [56, 14, 17, 1, 16, 2, 71, 72, 73, 74, 75, 76, 77, 78, 79, 80, 81, 82, 83] (by decide +kernel) (by decide +kernel)
set_option maxRecDepth 20000 in
theorem gX3_run_X3_narrow : GoodIn wsX3_run (wsV RX3 42 RX3 yX3_narrow wsX3_narrow) := goodIn_app (goodIn_of _ (by decide +kernel)) ggX3_run_X3_narrow
set_option maxRecDepth 20000 in
theorem ggX3_run_X3_sureDays : GoodIn wsX3_run wsX3_sureDays := goodIn_r _ [60, 16, 2, 14, 61, 62, 63, 64, 65, 66, 67, 71, 72, 73, 74, 75, 76, 77, 78, 79, 80, 81, 82, 83] (by decide +kernel) (by decide +kernel)
set_option maxRecDepth 20000 in
theorem gX3_run_X3_sureDays : GoodIn wsX3_run (wsV RX3 45 RX3 yX3_sureDays wsX3_sureDays) := goodIn_app (goodIn_of _ (by decide +kernel)) ggX3_run_X3_sureDays
set_option maxRecDepth 20000 in
theorem ggX3_run_X3_turn : GoodIn wsX3_run wsX3_turn := goodIn_r _ [70, 14, 1, 15, 71, 72, 73, 74, 75, 76, 77, 78, 79] (by decide +kernel) (by decide +kernel)
set_option maxRecDepth 20000 in
theorem gX3_run_X3_turn : GoodIn wsX3_run (va_wsS RX3 55 yX3_turn wsX3_turn) := goodIn_app (goodIn_of _ (by decide +kernel)) ggX3_run_X3_turn
theorem dX3_run_0 : decode cX3_run 0 = .ok (.aload_n 0, 1) := by decide +kernel
theorem dX3_run_1 : decode cX3_run 1 = .ok (.aload_n 1, 1) := by decide +kernel
theorem dX3_run_2 : decode cX3_run 2 = .ok (.iload_n 2, 1) := by decide +kernel
theorem dX3_run_3 : decode cX3_run 3 = .ok (.invokevirtual 27, 3) := by decide +kernel
theorem dX3_run_6 : decode cX3_run 6 = .ok (.aload_n 1, 1) := by decide +kernel
theorem dX3_run_7 : decode cX3_run 7 = .ok (.getfield 31, 3) := by decide +kernel
theorem dX3_run_10 : decode cX3_run 10 = .ok (.iconst 0, 1) := by decide +kernel
theorem dX3_run_11 : decode cX3_run 11 = .ok (.invokestatic 36, 3) := by decide +kernel
theorem dX3_run_14 : decode cX3_run 14 = .ok (.aload_n 0, 1) := by decide +kernel
theorem dX3_run_15 : decode cX3_run 15 = .ok (.getfield 16, 3) := by decide +kernel
theorem dX3_run_18 : decode cX3_run 18 = .ok (.iconst 0, 1) := by decide +kernel
theorem dX3_run_19 : decode cX3_run 19 = .ok (.aaload, 1) := by decide +kernel
theorem dX3_run_20 : decode cX3_run 20 = .ok (.iconst 1, 1) := by decide +kernel
theorem dX3_run_21 : decode cX3_run 21 = .ok (.iload_n 2, 1) := by decide +kernel
theorem dX3_run_22 : decode cX3_run 22 = .ok (.ishl, 1) := by decide +kernel
theorem dX3_run_23 : decode cX3_run 23 = .ok (.iconst 1, 1) := by decide +kernel
theorem dX3_run_24 : decode cX3_run 24 = .ok (.isub, 1) := by decide +kernel
theorem dX3_run_25 : decode cX3_run 25 = .ok (.invokestatic 36, 3) := by decide +kernel
theorem dX3_run_28 : decode cX3_run 28 = .ok (.aload_n 0, 1) := by decide +kernel
theorem dX3_run_29 : decode cX3_run 29 = .ok (.iconst (-1), 1) := by decide +kernel
theorem dX3_run_30 : decode cX3_run 30 = .ok (.putfield 23, 3) := by decide +kernel
theorem dX3_run_33 : decode cX3_run 33 = .ok (.iconst 0, 1) := by decide +kernel
theorem dX3_run_34 : decode cX3_run 34 = .ok (.istore_n 3, 1) := by decide +kernel
theorem dX3_run_35 : decode cX3_run 35 = .ok (.iconst 0, 1) := by decide +kernel
theorem dX3_run_36 : decode cX3_run 36 = .ok (.istore 4, 2) := by decide +kernel
theorem dX3_run_38 : decode cX3_run 38 = .ok (.iload 4, 2) := by decide +kernel
theorem dX3_run_40 : decode cX3_run 40 = .ok (.sipush 4096, 3) := by decide +kernel
theorem dX3_run_43 : decode cX3_run 43 = .ok (.if_icmp .ge 61, 3) := by decide +kernel
theorem dX3_run_46 : decode cX3_run 46 = .ok (.iload_n 3, 1) := by decide +kernel
theorem dX3_run_47 : decode cX3_run 47 = .ok (.ifCond .lt 57, 3) := by decide +kernel
theorem dX3_run_50 : decode cX3_run 50 = .ok (.aload_n 0, 1) := by decide +kernel
theorem dX3_run_51 : decode cX3_run 51 = .ok (.aload_n 1, 1) := by decide +kernel
theorem dX3_run_52 : decode cX3_run 52 = .ok (.iload_n 3, 1) := by decide +kernel
theorem dX3_run_53 : decode cX3_run 53 = .ok (.invokevirtual 42, 3) := by decide +kernel
theorem dX3_run_56 : decode cX3_run 56 = .ok (.aload_n 0, 1) := by decide +kernel
theorem dX3_run_57 : decode cX3_run 57 = .ok (.aload_n 1, 1) := by decide +kernel
theorem dX3_run_58 : decode cX3_run 58 = .ok (.invokevirtual 45, 3) := by decide +kernel
theorem dX3_run_61 : decode cX3_run 61 = .ok (.istore 5, 2) := by decide +kernel
theorem dX3_run_63 : decode cX3_run 63 = .ok (.iload 5, 2) := by decide +kernel
theorem dX3_run_65 : decode cX3_run 65 = .ok (.aload_n 0, 1) := by decide +kernel
theorem dX3_run_66 : decode cX3_run 66 = .ok (.getfield 23, 3) := by decide +kernel
theorem dX3_run_69 : decode cX3_run 69 = .ok (.if_icmp .le 24, 3) := by decide +kernel
theorem dX3_run_72 : decode cX3_run 72 = .ok (.aload_n 0, 1) := by decide +kernel
theorem dX3_run_73 : decode cX3_run 73 = .ok (.iload 5, 2) := by decide +kernel
theorem dX3_run_75 : decode cX3_run 75 = .ok (.putfield 23, 3) := by decide +kernel
theorem dX3_run_78 : decode cX3_run 78 = .ok (.aload_n 1, 1) := by decide +kernel
theorem dX3_run_79 : decode cX3_run 79 = .ok (.getfield 31, 3) := by decide +kernel
theorem dX3_run_82 : decode cX3_run 82 = .ok (.iconst 0, 1) := by decide +kernel
theorem dX3_run_83 : decode cX3_run 83 = .ok (.aload_n 0, 1) := by decide +kernel
theorem dX3_run_84 : decode cX3_run 84 = .ok (.getfield 19, 3) := by decide +kernel
theorem dX3_run_87 : decode cX3_run 87 = .ok (.iconst 0, 1) := by decide +kernel
theorem dX3_run_88 : decode cX3_run 88 = .ok (.bipush 6, 2) := by decide +kernel
theorem dX3_run_90 : decode cX3_run 90 = .ok (.invokestatic 49, 3) := by decide +kernel
theorem dX3_run_93 : decode cX3_run 93 = .ok (.aload_n 1, 1) := by decide +kernel
theorem dX3_run_94 : decode cX3_run 94 = .ok (.invokestatic 55, 3) := by decide +kernel
theorem dX3_run_97 : decode cX3_run 97 = .ok (.istore_n 3, 1) := by decide +kernel
theorem dX3_run_98 : decode cX3_run 98 = .ok (.iinc 4 1, 3) := by decide +kernel
theorem dX3_run_101 : decode cX3_run 101 = .ok (.goto (-63), 3) := by decide +kernel
theorem dX3_run_104 : decode cX3_run 104 = .ok (.return_, 1) := by decide +kernel
set_option maxRecDepth 20000 in
theorem ggX3_fillSpares_X3_daysOff : GoodIn wsX3_fillSpares wsX3_daysOff := goodIn_r _ [9, 10, 11, 12, 13, 14, 15, 16, 17, 18, 19, 38, 39, 40, 41, 42, 43, 44, 45, 46] (by decide +kernel) (by decide +kernel)
set_option maxRecDepth 20000 in
theorem gX3_fillSpares_X3_daysOff : GoodIn wsX3_fillSpares (va_wsS RX3 64 yX3_daysOff wsX3_daysOff) := goodIn_app (goodIn_of _ (by decide +kernel)) ggX3_fillSpares_X3_daysOff
set_option maxRecDepth 20000 in
theorem ggX3_fillSpares_X2_leftByOne : GoodIn wsX3_fillSpares wsX2_leftByOne := goodIn_r _ [23, 24, 16, 25, 26, 27, 14, 28, 29, 30, 31, 32, 33, 34, 35, 36, 37, 38, 39, 40, 41, 42, 43, 44, 45, 46] (by decide +kernel) (by decide +kernel)
set_option maxRecDepth 20000 in
theorem gX3_fillSpares_X2_leftByOne : GoodIn wsX3_fillSpares (wsV RX3 71 RX2 yX2_leftByOne wsX2_leftByOne) := goodIn_app (goodIn_of _ (by decide +kernel)) ggX3_fillSpares_X2_leftByOne
set_option maxRecDepth 20000 in
theorem ggX3_fillSpares_X6_isIn : GoodIn wsX3_fillSpares wsX6_isIn := goodIn_r _ [32] (by decide +kernel) (by decide +kernel)
set_option maxRecDepth 20000 in
theorem gX3_fillSpares_X6_isIn_n75 : GoodIn wsX3_fillSpares (wsX6_isIn) := ggX3_fillSpares_X6_isIn
theorem dX3_fillSpares_0 : decode cX3_fillSpares 0 = .ok (.iconst 0, 1) := by decide +kernel
theorem dX3_fillSpares_1 : decode cX3_fillSpares 1 = .ok (.istore_n 3, 1) := by decide +kernel
theorem dX3_fillSpares_2 : decode cX3_fillSpares 2 = .ok (.iload_n 3, 1) := by decide +kernel
theorem dX3_fillSpares_3 : decode cX3_fillSpares 3 = .ok (.aload_n 1, 1) := by decide +kernel
theorem dX3_fillSpares_4 : decode cX3_fillSpares 4 = .ok (.getfield 58, 3) := by decide +kernel
theorem dX3_fillSpares_7 : decode cX3_fillSpares 7 = .ok (.if_icmp .ge 104, 3) := by decide +kernel
theorem dX3_fillSpares_10 : decode cX3_fillSpares 10 = .ok (.iconst 0, 1) := by decide +kernel
theorem dX3_fillSpares_11 : decode cX3_fillSpares 11 = .ok (.istore 4, 2) := by decide +kernel
theorem dX3_fillSpares_13 : decode cX3_fillSpares 13 = .ok (.iload 4, 2) := by decide +kernel
theorem dX3_fillSpares_15 : decode cX3_fillSpares 15 = .ok (.aload_n 1, 1) := by decide +kernel
theorem dX3_fillSpares_16 : decode cX3_fillSpares 16 = .ok (.getfield 61, 3) := by decide +kernel
theorem dX3_fillSpares_19 : decode cX3_fillSpares 19 = .ok (.iload_n 3, 1) := by decide +kernel
theorem dX3_fillSpares_20 : decode cX3_fillSpares 20 = .ok (.iaload, 1) := by decide +kernel
theorem dX3_fillSpares_21 : decode cX3_fillSpares 21 = .ok (.if_icmp .ge 84, 3) := by decide +kernel
theorem dX3_fillSpares_24 : decode cX3_fillSpares 24 = .ok (.aload_n 1, 1) := by decide +kernel
theorem dX3_fillSpares_25 : decode cX3_fillSpares 25 = .ok (.getfield 31, 3) := by decide +kernel
theorem dX3_fillSpares_28 : decode cX3_fillSpares 28 = .ok (.iload_n 3, 1) := by decide +kernel
theorem dX3_fillSpares_29 : decode cX3_fillSpares 29 = .ok (.iload 4, 2) := by decide +kernel
theorem dX3_fillSpares_31 : decode cX3_fillSpares 31 = .ok (.iastore, 1) := by decide +kernel
theorem dX3_fillSpares_32 : decode cX3_fillSpares 32 = .ok (.aload_n 1, 1) := by decide +kernel
theorem dX3_fillSpares_33 : decode cX3_fillSpares 33 = .ok (.iload_n 3, 1) := by decide +kernel
theorem dX3_fillSpares_34 : decode cX3_fillSpares 34 = .ok (.iload_n 2, 1) := by decide +kernel
theorem dX3_fillSpares_35 : decode cX3_fillSpares 35 = .ok (.invokestatic 64, 3) := by decide +kernel
theorem dX3_fillSpares_38 : decode cX3_fillSpares 38 = .ok (.istore 5, 2) := by decide +kernel
theorem dX3_fillSpares_40 : decode cX3_fillSpares 40 = .ok (.iconst 1, 1) := by decide +kernel
theorem dX3_fillSpares_41 : decode cX3_fillSpares 41 = .ok (.iload_n 2, 1) := by decide +kernel
theorem dX3_fillSpares_42 : decode cX3_fillSpares 42 = .ok (.ishl, 1) := by decide +kernel
theorem dX3_fillSpares_43 : decode cX3_fillSpares 43 = .ok (.iconst 1, 1) := by decide +kernel
theorem dX3_fillSpares_44 : decode cX3_fillSpares 44 = .ok (.isub, 1) := by decide +kernel
theorem dX3_fillSpares_45 : decode cX3_fillSpares 45 = .ok (.istore 6, 2) := by decide +kernel
theorem dX3_fillSpares_47 : decode cX3_fillSpares 47 = .ok (.iconst 0, 1) := by decide +kernel
theorem dX3_fillSpares_48 : decode cX3_fillSpares 48 = .ok (.istore 7, 2) := by decide +kernel
theorem dX3_fillSpares_50 : decode cX3_fillSpares 50 = .ok (.iload 7, 2) := by decide +kernel
theorem dX3_fillSpares_52 : decode cX3_fillSpares 52 = .ok (.aload_n 1, 1) := by decide +kernel
theorem dX3_fillSpares_53 : decode cX3_fillSpares 53 = .ok (.getfield 68, 3) := by decide +kernel
theorem dX3_fillSpares_56 : decode cX3_fillSpares 56 = .ok (.if_icmp .ge 43, 3) := by decide +kernel
theorem dX3_fillSpares_59 : decode cX3_fillSpares 59 = .ok (.aload_n 0, 1) := by decide +kernel
theorem dX3_fillSpares_60 : decode cX3_fillSpares 60 = .ok (.getfield 11, 3) := by decide +kernel
theorem dX3_fillSpares_63 : decode cX3_fillSpares 63 = .ok (.iload_n 3, 1) := by decide +kernel
theorem dX3_fillSpares_64 : decode cX3_fillSpares 64 = .ok (.iconst 4, 1) := by decide +kernel
theorem dX3_fillSpares_65 : decode cX3_fillSpares 65 = .ok (.imul, 1) := by decide +kernel
theorem dX3_fillSpares_66 : decode cX3_fillSpares 66 = .ok (.iload 4, 2) := by decide +kernel
theorem dX3_fillSpares_68 : decode cX3_fillSpares 68 = .ok (.iadd, 1) := by decide +kernel
theorem dX3_fillSpares_69 : decode cX3_fillSpares 69 = .ok (.aaload, 1) := by decide +kernel
theorem dX3_fillSpares_70 : decode cX3_fillSpares 70 = .ok (.iload 7, 2) := by decide +kernel
theorem dX3_fillSpares_72 : decode cX3_fillSpares 72 = .ok (.aload_n 1, 1) := by decide +kernel
theorem dX3_fillSpares_73 : decode cX3_fillSpares 73 = .ok (.iload_n 3, 1) := by decide +kernel
theorem dX3_fillSpares_74 : decode cX3_fillSpares 74 = .ok (.invokevirtual 71, 3) := by decide +kernel
theorem dX3_fillSpares_77 : decode cX3_fillSpares 77 = .ok (.iload 7, 2) := by decide +kernel
theorem dX3_fillSpares_79 : decode cX3_fillSpares 79 = .ok (.invokestatic 75, 3) := by decide +kernel
theorem dX3_fillSpares_82 : decode cX3_fillSpares 82 = .ok (.ifCond .eq 8, 3) := by decide +kernel
theorem dX3_fillSpares_85 : decode cX3_fillSpares 85 = .ok (.iload 6, 2) := by decide +kernel
theorem dX3_fillSpares_87 : decode cX3_fillSpares 87 = .ok (.goto 5, 3) := by decide +kernel
theorem dX3_fillSpares_90 : decode cX3_fillSpares 90 = .ok (.iload 5, 2) := by decide +kernel
theorem dX3_fillSpares_92 : decode cX3_fillSpares 92 = .ok (.iastore, 1) := by decide +kernel
theorem dX3_fillSpares_93 : decode cX3_fillSpares 93 = .ok (.iinc 7 1, 3) := by decide +kernel
theorem dX3_fillSpares_96 : decode cX3_fillSpares 96 = .ok (.goto (-46), 3) := by decide +kernel
theorem dX3_fillSpares_99 : decode cX3_fillSpares 99 = .ok (.iinc 4 1, 3) := by decide +kernel
theorem dX3_fillSpares_102 : decode cX3_fillSpares 102 = .ok (.goto (-89), 3) := by decide +kernel
theorem dX3_fillSpares_105 : decode cX3_fillSpares 105 = .ok (.iinc 3 1, 3) := by decide +kernel
theorem dX3_fillSpares_108 : decode cX3_fillSpares 108 = .ok (.goto (-106), 3) := by decide +kernel
theorem dX3_fillSpares_111 : decode cX3_fillSpares 111 = .ok (.return_, 1) := by decide +kernel
set_option maxRecDepth 20000 in
theorem ggX3_daysOff_X2_worksOn : GoodIn wsX3_daysOff wsX2_worksOn := goodIn_r _ [6, 7, 8, 9, 10, 11, 12, 13, 14, 15, 16, 17, 18, 19] (by decide +kernel) (by decide +kernel)
set_option maxRecDepth 20000 in
theorem gX3_daysOff_X2_worksOn : GoodIn wsX3_daysOff (wsV RX3 82 RX2 yX2_worksOn wsX2_worksOn) := goodIn_app (goodIn_of _ (by decide +kernel)) ggX3_daysOff_X2_worksOn
theorem dX3_daysOff_0 : decode cX3_daysOff 0 = .ok (.iconst 0, 1) := by decide +kernel
theorem dX3_daysOff_1 : decode cX3_daysOff 1 = .ok (.istore_n 3, 1) := by decide +kernel
theorem dX3_daysOff_2 : decode cX3_daysOff 2 = .ok (.iconst 0, 1) := by decide +kernel
theorem dX3_daysOff_3 : decode cX3_daysOff 3 = .ok (.istore 4, 2) := by decide +kernel
theorem dX3_daysOff_5 : decode cX3_daysOff 5 = .ok (.iload 4, 2) := by decide +kernel
theorem dX3_daysOff_7 : decode cX3_daysOff 7 = .ok (.iload_n 2, 1) := by decide +kernel
theorem dX3_daysOff_8 : decode cX3_daysOff 8 = .ok (.if_icmp .ge 31, 3) := by decide +kernel
theorem dX3_daysOff_11 : decode cX3_daysOff 11 = .ok (.aload_n 0, 1) := by decide +kernel
theorem dX3_daysOff_12 : decode cX3_daysOff 12 = .ok (.iload_n 1, 1) := by decide +kernel
theorem dX3_daysOff_13 : decode cX3_daysOff 13 = .ok (.aload_n 0, 1) := by decide +kernel
theorem dX3_daysOff_14 : decode cX3_daysOff 14 = .ok (.getfield 79, 3) := by decide +kernel
theorem dX3_daysOff_17 : decode cX3_daysOff 17 = .ok (.iload 4, 2) := by decide +kernel
theorem dX3_daysOff_19 : decode cX3_daysOff 19 = .ok (.iadd, 1) := by decide +kernel
theorem dX3_daysOff_20 : decode cX3_daysOff 20 = .ok (.invokevirtual 82, 3) := by decide +kernel
theorem dX3_daysOff_23 : decode cX3_daysOff 23 = .ok (.ifCond .ne 10, 3) := by decide +kernel
theorem dX3_daysOff_26 : decode cX3_daysOff 26 = .ok (.iload_n 3, 1) := by decide +kernel
theorem dX3_daysOff_27 : decode cX3_daysOff 27 = .ok (.iconst 1, 1) := by decide +kernel
theorem dX3_daysOff_28 : decode cX3_daysOff 28 = .ok (.iload 4, 2) := by decide +kernel
theorem dX3_daysOff_30 : decode cX3_daysOff 30 = .ok (.ishl, 1) := by decide +kernel
theorem dX3_daysOff_31 : decode cX3_daysOff 31 = .ok (.ior, 1) := by decide +kernel
theorem dX3_daysOff_32 : decode cX3_daysOff 32 = .ok (.istore_n 3, 1) := by decide +kernel
theorem dX3_daysOff_33 : decode cX3_daysOff 33 = .ok (.iinc 4 1, 3) := by decide +kernel
theorem dX3_daysOff_36 : decode cX3_daysOff 36 = .ok (.goto (-31), 3) := by decide +kernel
theorem dX3_daysOff_39 : decode cX3_daysOff 39 = .ok (.iload_n 3, 1) := by decide +kernel
theorem dX3_daysOff_40 : decode cX3_daysOff 40 = .ok (.ireturn, 1) := by decide +kernel
theorem dX3_narrow_0 : decode cX3_narrow 0 = .ok (.iload_n 2, 1) := by decide +kernel
theorem dX3_narrow_1 : decode cX3_narrow 1 = .ok (.istore_n 3, 1) := by decide +kernel
theorem dX3_narrow_2 : decode cX3_narrow 2 = .ok (.iload_n 3, 1) := by decide +kernel
theorem dX3_narrow_3 : decode cX3_narrow 3 = .ok (.aload_n 1, 1) := by decide +kernel
theorem dX3_narrow_4 : decode cX3_narrow 4 = .ok (.getfield 58, 3) := by decide +kernel
theorem dX3_narrow_7 : decode cX3_narrow 7 = .ok (.if_icmp .ge 70, 3) := by decide +kernel
theorem dX3_narrow_10 : decode cX3_narrow 10 = .ok (.aload_n 0, 1) := by decide +kernel
theorem dX3_narrow_11 : decode cX3_narrow 11 = .ok (.getfield 11, 3) := by decide +kernel
theorem dX3_narrow_14 : decode cX3_narrow 14 = .ok (.iload_n 3, 1) := by decide +kernel
theorem dX3_narrow_15 : decode cX3_narrow 15 = .ok (.iconst 4, 1) := by decide +kernel
theorem dX3_narrow_16 : decode cX3_narrow 16 = .ok (.imul, 1) := by decide +kernel
theorem dX3_narrow_17 : decode cX3_narrow 17 = .ok (.aload_n 1, 1) := by decide +kernel
theorem dX3_narrow_18 : decode cX3_narrow 18 = .ok (.getfield 31, 3) := by decide +kernel
theorem dX3_narrow_21 : decode cX3_narrow 21 = .ok (.iload_n 3, 1) := by decide +kernel
theorem dX3_narrow_22 : decode cX3_narrow 22 = .ok (.iaload, 1) := by decide +kernel
theorem dX3_narrow_23 : decode cX3_narrow 23 = .ok (.iadd, 1) := by decide +kernel
theorem dX3_narrow_24 : decode cX3_narrow 24 = .ok (.aaload, 1) := by decide +kernel
theorem dX3_narrow_25 : decode cX3_narrow 25 = .ok (.astore 4, 2) := by decide +kernel
theorem dX3_narrow_27 : decode cX3_narrow 27 = .ok (.iconst 0, 1) := by decide +kernel
theorem dX3_narrow_28 : decode cX3_narrow 28 = .ok (.istore 5, 2) := by decide +kernel
theorem dX3_narrow_30 : decode cX3_narrow 30 = .ok (.iload 5, 2) := by decide +kernel
theorem dX3_narrow_32 : decode cX3_narrow 32 = .ok (.aload_n 1, 1) := by decide +kernel
theorem dX3_narrow_33 : decode cX3_narrow 33 = .ok (.getfield 68, 3) := by decide +kernel
theorem dX3_narrow_36 : decode cX3_narrow 36 = .ok (.if_icmp .ge 35, 3) := by decide +kernel
theorem dX3_narrow_39 : decode cX3_narrow 39 = .ok (.aload_n 0, 1) := by decide +kernel
theorem dX3_narrow_40 : decode cX3_narrow 40 = .ok (.getfield 16, 3) := by decide +kernel
theorem dX3_narrow_43 : decode cX3_narrow 43 = .ok (.iload_n 3, 1) := by decide +kernel
theorem dX3_narrow_44 : decode cX3_narrow 44 = .ok (.iconst 1, 1) := by decide +kernel
theorem dX3_narrow_45 : decode cX3_narrow 45 = .ok (.iadd, 1) := by decide +kernel
theorem dX3_narrow_46 : decode cX3_narrow 46 = .ok (.aaload, 1) := by decide +kernel
theorem dX3_narrow_47 : decode cX3_narrow 47 = .ok (.iload 5, 2) := by decide +kernel
theorem dX3_narrow_49 : decode cX3_narrow 49 = .ok (.aload_n 0, 1) := by decide +kernel
theorem dX3_narrow_50 : decode cX3_narrow 50 = .ok (.getfield 16, 3) := by decide +kernel
theorem dX3_narrow_53 : decode cX3_narrow 53 = .ok (.iload_n 3, 1) := by decide +kernel
theorem dX3_narrow_54 : decode cX3_narrow 54 = .ok (.aaload, 1) := by decide +kernel
theorem dX3_narrow_55 : decode cX3_narrow 55 = .ok (.iload 5, 2) := by decide +kernel
theorem dX3_narrow_57 : decode cX3_narrow 57 = .ok (.iaload, 1) := by decide +kernel
theorem dX3_narrow_58 : decode cX3_narrow 58 = .ok (.aload 4, 2) := by decide +kernel
theorem dX3_narrow_60 : decode cX3_narrow 60 = .ok (.iload 5, 2) := by decide +kernel
theorem dX3_narrow_62 : decode cX3_narrow 62 = .ok (.iaload, 1) := by decide +kernel
theorem dX3_narrow_63 : decode cX3_narrow 63 = .ok (.iand, 1) := by decide +kernel
theorem dX3_narrow_64 : decode cX3_narrow 64 = .ok (.iastore, 1) := by decide +kernel
theorem dX3_narrow_65 : decode cX3_narrow 65 = .ok (.iinc 5 1, 3) := by decide +kernel
theorem dX3_narrow_68 : decode cX3_narrow 68 = .ok (.goto (-38), 3) := by decide +kernel
theorem dX3_narrow_71 : decode cX3_narrow 71 = .ok (.iinc 3 1, 3) := by decide +kernel
theorem dX3_narrow_74 : decode cX3_narrow 74 = .ok (.goto (-72), 3) := by decide +kernel
theorem dX3_narrow_77 : decode cX3_narrow 77 = .ok (.return_, 1) := by decide +kernel
set_option maxRecDepth 20000 in
theorem ggX3_sureDays_J6_bitCount_0f7a4 : GoodIn wsX3_sureDays wsJ6_bitCount_0f7a4 := goodIn_r _ [7, 8, 9, 10] (by decide +kernel) (by decide +kernel)
set_option maxRecDepth 20000 in
theorem gX3_sureDays_J6_bitCount_0f7a4 : GoodIn wsX3_sureDays (va_wsS RX3 85 yJ6_bitCount_0f7a4 wsJ6_bitCount_0f7a4) := goodIn_app (goodIn_of _ (by decide +kernel)) ggX3_sureDays_J6_bitCount_0f7a4
theorem dX3_sureDays_0 : decode cX3_sureDays 0 = .ok (.iconst 0, 1) := by decide +kernel
theorem dX3_sureDays_1 : decode cX3_sureDays 1 = .ok (.istore_n 2, 1) := by decide +kernel
theorem dX3_sureDays_2 : decode cX3_sureDays 2 = .ok (.iconst 0, 1) := by decide +kernel
theorem dX3_sureDays_3 : decode cX3_sureDays 3 = .ok (.istore_n 3, 1) := by decide +kernel
theorem dX3_sureDays_4 : decode cX3_sureDays 4 = .ok (.iconst 0, 1) := by decide +kernel
theorem dX3_sureDays_5 : decode cX3_sureDays 5 = .ok (.istore 4, 2) := by decide +kernel
theorem dX3_sureDays_7 : decode cX3_sureDays 7 = .ok (.iload 4, 2) := by decide +kernel
theorem dX3_sureDays_9 : decode cX3_sureDays 9 = .ok (.aload_n 1, 1) := by decide +kernel
theorem dX3_sureDays_10 : decode cX3_sureDays 10 = .ok (.getfield 68, 3) := by decide +kernel
theorem dX3_sureDays_13 : decode cX3_sureDays 13 = .ok (.if_icmp .ge 35, 3) := by decide +kernel
theorem dX3_sureDays_16 : decode cX3_sureDays 16 = .ok (.aload_n 0, 1) := by decide +kernel
theorem dX3_sureDays_17 : decode cX3_sureDays 17 = .ok (.getfield 16, 3) := by decide +kernel
theorem dX3_sureDays_20 : decode cX3_sureDays 20 = .ok (.aload_n 1, 1) := by decide +kernel
theorem dX3_sureDays_21 : decode cX3_sureDays 21 = .ok (.getfield 58, 3) := by decide +kernel
theorem dX3_sureDays_24 : decode cX3_sureDays 24 = .ok (.aaload, 1) := by decide +kernel
theorem dX3_sureDays_25 : decode cX3_sureDays 25 = .ok (.iload 4, 2) := by decide +kernel
theorem dX3_sureDays_27 : decode cX3_sureDays 27 = .ok (.iaload, 1) := by decide +kernel
theorem dX3_sureDays_28 : decode cX3_sureDays 28 = .ok (.istore 5, 2) := by decide +kernel
theorem dX3_sureDays_30 : decode cX3_sureDays 30 = .ok (.iload_n 3, 1) := by decide +kernel
theorem dX3_sureDays_31 : decode cX3_sureDays 31 = .ok (.iload_n 2, 1) := by decide +kernel
theorem dX3_sureDays_32 : decode cX3_sureDays 32 = .ok (.iload 5, 2) := by decide +kernel
theorem dX3_sureDays_34 : decode cX3_sureDays 34 = .ok (.iand, 1) := by decide +kernel
theorem dX3_sureDays_35 : decode cX3_sureDays 35 = .ok (.ior, 1) := by decide +kernel
theorem dX3_sureDays_36 : decode cX3_sureDays 36 = .ok (.istore_n 3, 1) := by decide +kernel
theorem dX3_sureDays_37 : decode cX3_sureDays 37 = .ok (.iload_n 2, 1) := by decide +kernel
theorem dX3_sureDays_38 : decode cX3_sureDays 38 = .ok (.iload 5, 2) := by decide +kernel
theorem dX3_sureDays_40 : decode cX3_sureDays 40 = .ok (.ior, 1) := by decide +kernel
theorem dX3_sureDays_41 : decode cX3_sureDays 41 = .ok (.istore_n 2, 1) := by decide +kernel
theorem dX3_sureDays_42 : decode cX3_sureDays 42 = .ok (.iinc 4 1, 3) := by decide +kernel
theorem dX3_sureDays_45 : decode cX3_sureDays 45 = .ok (.goto (-38), 3) := by decide +kernel
theorem dX3_sureDays_48 : decode cX3_sureDays 48 = .ok (.iload_n 2, 1) := by decide +kernel
theorem dX3_sureDays_49 : decode cX3_sureDays 49 = .ok (.iload_n 3, 1) := by decide +kernel
theorem dX3_sureDays_50 : decode cX3_sureDays 50 = .ok (.iconst (-1), 1) := by decide +kernel
theorem dX3_sureDays_51 : decode cX3_sureDays 51 = .ok (.ixor, 1) := by decide +kernel
theorem dX3_sureDays_52 : decode cX3_sureDays 52 = .ok (.iand, 1) := by decide +kernel
theorem dX3_sureDays_53 : decode cX3_sureDays 53 = .ok (.invokestatic 85, 3) := by decide +kernel
theorem dX3_sureDays_56 : decode cX3_sureDays 56 = .ok (.ireturn, 1) := by decide +kernel
theorem dX3_turn_0 : decode cX3_turn 0 = .ok (.aload_n 0, 1) := by decide +kernel
theorem dX3_turn_1 : decode cX3_turn 1 = .ok (.getfield 58, 3) := by decide +kernel
theorem dX3_turn_4 : decode cX3_turn 4 = .ok (.iconst 1, 1) := by decide +kernel
theorem dX3_turn_5 : decode cX3_turn 5 = .ok (.isub, 1) := by decide +kernel
theorem dX3_turn_6 : decode cX3_turn 6 = .ok (.istore_n 1, 1) := by decide +kernel
theorem dX3_turn_7 : decode cX3_turn 7 = .ok (.iload_n 1, 1) := by decide +kernel
theorem dX3_turn_8 : decode cX3_turn 8 = .ok (.ifCond .lt 43, 3) := by decide +kernel
theorem dX3_turn_11 : decode cX3_turn 11 = .ok (.aload_n 0, 1) := by decide +kernel
theorem dX3_turn_12 : decode cX3_turn 12 = .ok (.getfield 31, 3) := by decide +kernel
theorem dX3_turn_15 : decode cX3_turn 15 = .ok (.iload_n 1, 1) := by decide +kernel
theorem dX3_turn_16 : decode cX3_turn 16 = .ok (.dup2, 1) := by decide +kernel
theorem dX3_turn_17 : decode cX3_turn 17 = .ok (.iaload, 1) := by decide +kernel
theorem dX3_turn_18 : decode cX3_turn 18 = .ok (.iconst 1, 1) := by decide +kernel
theorem dX3_turn_19 : decode cX3_turn 19 = .ok (.iadd, 1) := by decide +kernel
theorem dX3_turn_20 : decode cX3_turn 20 = .ok (.iastore, 1) := by decide +kernel
theorem dX3_turn_21 : decode cX3_turn 21 = .ok (.aload_n 0, 1) := by decide +kernel
theorem dX3_turn_22 : decode cX3_turn 22 = .ok (.getfield 31, 3) := by decide +kernel
theorem dX3_turn_25 : decode cX3_turn 25 = .ok (.iload_n 1, 1) := by decide +kernel
theorem dX3_turn_26 : decode cX3_turn 26 = .ok (.iaload, 1) := by decide +kernel
theorem dX3_turn_27 : decode cX3_turn 27 = .ok (.aload_n 0, 1) := by decide +kernel
theorem dX3_turn_28 : decode cX3_turn 28 = .ok (.getfield 61, 3) := by decide +kernel
theorem dX3_turn_31 : decode cX3_turn 31 = .ok (.iload_n 1, 1) := by decide +kernel
theorem dX3_turn_32 : decode cX3_turn 32 = .ok (.iaload, 1) := by decide +kernel
theorem dX3_turn_33 : decode cX3_turn 33 = .ok (.if_icmp .ge 5, 3) := by decide +kernel
theorem dX3_turn_36 : decode cX3_turn 36 = .ok (.iload_n 1, 1) := by decide +kernel
theorem dX3_turn_37 : decode cX3_turn 37 = .ok (.ireturn, 1) := by decide +kernel
theorem dX3_turn_38 : decode cX3_turn 38 = .ok (.aload_n 0, 1) := by decide +kernel
theorem dX3_turn_39 : decode cX3_turn 39 = .ok (.getfield 31, 3) := by decide +kernel
theorem dX3_turn_42 : decode cX3_turn 42 = .ok (.iload_n 1, 1) := by decide +kernel
theorem dX3_turn_43 : decode cX3_turn 43 = .ok (.iconst 0, 1) := by decide +kernel
theorem dX3_turn_44 : decode cX3_turn 44 = .ok (.iastore, 1) := by decide +kernel
theorem dX3_turn_45 : decode cX3_turn 45 = .ok (.iinc 1 (-1), 3) := by decide +kernel
theorem dX3_turn_48 : decode cX3_turn 48 = .ok (.goto (-41), 3) := by decide +kernel
theorem dX3_turn_51 : decode cX3_turn 51 = .ok (.iconst (-1), 1) := by decide +kernel
theorem dX3_turn_52 : decode cX3_turn 52 = .ok (.ireturn, 1) := by decide +kernel
