theorem dX7_init_0 : decode cX7_init 0 = .ok (.aload_n 0, 1) := by decide +kernel
theorem dX7_init_1 : decode cX7_init 1 = .ok (.invokespecial 1, 3) := by decide +kernel
theorem dX7_init_4 : decode cX7_init 4 = .ok (.aload_n 0, 1) := by decide +kernel
theorem dX7_init_5 : decode cX7_init 5 = .ok (.bipush 8, 2) := by decide +kernel
theorem dX7_init_7 : decode cX7_init 7 = .ok (.newarray .int, 2) := by decide +kernel
theorem dX7_init_9 : decode cX7_init 9 = .ok (.putfield 7, 3) := by decide +kernel
theorem dX7_init_12 : decode cX7_init 12 = .ok (.aload_n 0, 1) := by decide +kernel
theorem dX7_init_13 : decode cX7_init 13 = .ok (.bipush 8, 2) := by decide +kernel
theorem dX7_init_15 : decode cX7_init 15 = .ok (.newarray .int, 2) := by decide +kernel
theorem dX7_init_17 : decode cX7_init 17 = .ok (.putfield 13, 3) := by decide +kernel
theorem dX7_init_20 : decode cX7_init 20 = .ok (.aload_n 0, 1) := by decide +kernel
theorem dX7_init_21 : decode cX7_init 21 = .ok (.sipush 320, 3) := by decide +kernel
theorem dX7_init_24 : decode cX7_init 24 = .ok (.newarray .int, 2) := by decide +kernel
theorem dX7_init_26 : decode cX7_init 26 = .ok (.putfield 16, 3) := by decide +kernel
theorem dX7_init_29 : decode cX7_init 29 = .ok (.aload_n 0, 1) := by decide +kernel
theorem dX7_init_30 : decode cX7_init 30 = .ok (.bipush 40, 2) := by decide +kernel
theorem dX7_init_32 : decode cX7_init 32 = .ok (.newarray .int, 2) := by decide +kernel
theorem dX7_init_34 : decode cX7_init 34 = .ok (.putfield 19, 3) := by decide +kernel
theorem dX7_init_37 : decode cX7_init 37 = .ok (.aload_n 0, 1) := by decide +kernel
theorem dX7_init_38 : decode cX7_init 38 = .ok (.bipush 100, 2) := by decide +kernel
theorem dX7_init_40 : decode cX7_init 40 = .ok (.newarray .int, 2) := by decide +kernel
theorem dX7_init_42 : decode cX7_init 42 = .ok (.putfield 22, 3) := by decide +kernel
theorem dX7_init_45 : decode cX7_init 45 = .ok (.aload_n 0, 1) := by decide +kernel
theorem dX7_init_46 : decode cX7_init 46 = .ok (.bipush 29, 2) := by decide +kernel
theorem dX7_init_48 : decode cX7_init 48 = .ok (.newarray .int, 2) := by decide +kernel
theorem dX7_init_50 : decode cX7_init 50 = .ok (.putfield 25, 3) := by decide +kernel
theorem dX7_init_53 : decode cX7_init 53 = .ok (.aload_n 0, 1) := by decide +kernel
theorem dX7_init_54 : decode cX7_init 54 = .ok (.bipush 29, 2) := by decide +kernel
theorem dX7_init_56 : decode cX7_init 56 = .ok (.newarray .int, 2) := by decide +kernel
theorem dX7_init_58 : decode cX7_init 58 = .ok (.putfield 28, 3) := by decide +kernel
theorem dX7_init_61 : decode cX7_init 61 = .ok (.aload_n 0, 1) := by decide +kernel
theorem dX7_init_62 : decode cX7_init 62 = .ok (.bipush 29, 2) := by decide +kernel
theorem dX7_init_64 : decode cX7_init 64 = .ok (.newarray .int, 2) := by decide +kernel
theorem dX7_init_66 : decode cX7_init 66 = .ok (.putfield 31, 3) := by decide +kernel
theorem dX7_init_69 : decode cX7_init 69 = .ok (.aload_n 0, 1) := by decide +kernel
theorem dX7_init_70 : decode cX7_init 70 = .ok (.sipush 696, 3) := by decide +kernel
theorem dX7_init_73 : decode cX7_init 73 = .ok (.newarray .int, 2) := by decide +kernel
theorem dX7_init_75 : decode cX7_init 75 = .ok (.putfield 34, 3) := by decide +kernel
theorem dX7_init_78 : decode cX7_init 78 = .ok (.aload_n 0, 1) := by decide +kernel
theorem dX7_init_79 : decode cX7_init 79 = .ok (.bipush 58, 2) := by decide +kernel
theorem dX7_init_81 : decode cX7_init 81 = .ok (.newarray .int, 2) := by decide +kernel
theorem dX7_init_83 : decode cX7_init 83 = .ok (.putfield 37, 3) := by decide +kernel
theorem dX7_init_86 : decode cX7_init 86 = .ok (.aload_n 0, 1) := by decide +kernel
theorem dX7_init_87 : decode cX7_init 87 = .ok (.iconst 2, 1) := by decide +kernel
theorem dX7_init_88 : decode cX7_init 88 = .ok (.newarray .boolean, 2) := by decide +kernel
theorem dX7_init_90 : decode cX7_init 90 = .ok (.putfield 40, 3) := by decide +kernel
theorem dX7_init_93 : decode cX7_init 93 = .ok (.aload_n 0, 1) := by decide +kernel
theorem dX7_init_94 : decode cX7_init 94 = .ok (.bipush 6, 2) := by decide +kernel
theorem dX7_init_96 : decode cX7_init 96 = .ok (.newarray .int, 2) := by decide +kernel
theorem dX7_init_98 : decode cX7_init 98 = .ok (.putfield 44, 3) := by decide +kernel
theorem dX7_init_101 : decode cX7_init 101 = .ok (.aload_n 0, 1) := by decide +kernel
theorem dX7_init_102 : decode cX7_init 102 = .ok (.bipush 16, 2) := by decide +kernel
theorem dX7_init_104 : decode cX7_init 104 = .ok (.newarray .int, 2) := by decide +kernel
theorem dX7_init_106 : decode cX7_init 106 = .ok (.putfield 47, 3) := by decide +kernel
theorem dX7_init_109 : decode cX7_init 109 = .ok (.iconst 0, 1) := by decide +kernel
theorem dX7_init_110 : decode cX7_init 110 = .ok (.istore_n 1, 1) := by decide +kernel
theorem dX7_init_111 : decode cX7_init 111 = .ok (.iload_n 1, 1) := by decide +kernel
theorem dX7_init_112 : decode cX7_init 112 = .ok (.bipush 8, 2) := by decide +kernel
theorem dX7_init_114 : decode cX7_init 114 = .ok (.if_icmp .ge 17, 3) := by decide +kernel
theorem dX7_init_117 : decode cX7_init 117 = .ok (.aload_n 0, 1) := by decide +kernel
theorem dX7_init_118 : decode cX7_init 118 = .ok (.getfield 7, 3) := by decide +kernel
theorem dX7_init_121 : decode cX7_init 121 = .ok (.iload_n 1, 1) := by decide +kernel
theorem dX7_init_122 : decode cX7_init 122 = .ok (.ldc 50, 2) := by decide +kernel
theorem dX7_init_124 : decode cX7_init 124 = .ok (.iastore, 1) := by decide +kernel
theorem dX7_init_125 : decode cX7_init 125 = .ok (.iinc 1 1, 3) := by decide +kernel
theorem dX7_init_128 : decode cX7_init 128 = .ok (.goto (-17), 3) := by decide +kernel
theorem dX7_init_131 : decode cX7_init 131 = .ok (.return_, 1) := by decide +kernel
theorem dX7_in_0 : decode cX7_in 0 = .ok (.iload_n 0, 1) := by decide +kernel
theorem dX7_in_1 : decode cX7_in 1 = .ok (.iload_n 1, 1) := by decide +kernel
theorem dX7_in_2 : decode cX7_in 2 = .ok (.if_icmp .lt 12, 3) := by decide +kernel
theorem dX7_in_5 : decode cX7_in 5 = .ok (.iload_n 0, 1) := by decide +kernel
theorem dX7_in_6 : decode cX7_in 6 = .ok (.iload_n 2, 1) := by decide +kernel
theorem dX7_in_7 : decode cX7_in 7 = .ok (.if_icmp .gt 7, 3) := by decide +kernel
theorem dX7_in_10 : decode cX7_in 10 = .ok (.iconst 1, 1) := by decide +kernel
theorem dX7_in_11 : decode cX7_in 11 = .ok (.goto 4, 3) := by decide +kernel
theorem dX7_in_14 : decode cX7_in 14 = .ok (.iconst 0, 1) := by decide +kernel
theorem dX7_in_15 : decode cX7_in 15 = .ok (.ireturn, 1) := by decide +kernel
theorem dX7_has_0 : decode cX7_has 0 = .ok (.iload_n 0, 1) := by decide +kernel
theorem dX7_has_1 : decode cX7_has 1 = .ok (.iload_n 1, 1) := by decide +kernel
theorem dX7_has_2 : decode cX7_has 2 = .ok (.ishr, 1) := by decide +kernel
theorem dX7_has_3 : decode cX7_has 3 = .ok (.iconst 1, 1) := by decide +kernel
theorem dX7_has_4 : decode cX7_has 4 = .ok (.iand, 1) := by decide +kernel
theorem dX7_has_5 : decode cX7_has 5 = .ok (.iconst 1, 1) := by decide +kernel
theorem dX7_has_6 : decode cX7_has 6 = .ok (.if_icmp .ne 7, 3) := by decide +kernel
theorem dX7_has_9 : decode cX7_has 9 = .ok (.iconst 1, 1) := by decide +kernel
theorem dX7_has_10 : decode cX7_has 10 = .ok (.goto 4, 3) := by decide +kernel
theorem dX7_has_13 : decode cX7_has 13 = .ok (.iconst 0, 1) := by decide +kernel
theorem dX7_has_14 : decode cX7_has 14 = .ok (.ireturn, 1) := by decide +kernel
theorem dX7_ones_0 : decode cX7_ones 0 = .ok (.iconst 0, 1) := by decide +kernel
theorem dX7_ones_1 : decode cX7_ones 1 = .ok (.istore_n 1, 1) := by decide +kernel
theorem dX7_ones_2 : decode cX7_ones 2 = .ok (.iconst 0, 1) := by decide +kernel
theorem dX7_ones_3 : decode cX7_ones 3 = .ok (.istore_n 2, 1) := by decide +kernel
theorem dX7_ones_4 : decode cX7_ones 4 = .ok (.iload_n 2, 1) := by decide +kernel
theorem dX7_ones_5 : decode cX7_ones 5 = .ok (.bipush 8, 2) := by decide +kernel
theorem dX7_ones_7 : decode cX7_ones 7 = .ok (.if_icmp .ge 17, 3) := by decide +kernel
theorem dX7_ones_10 : decode cX7_ones 10 = .ok (.iload_n 1, 1) := by decide +kernel
theorem dX7_ones_11 : decode cX7_ones 11 = .ok (.iload_n 0, 1) := by decide +kernel
theorem dX7_ones_12 : decode cX7_ones 12 = .ok (.iload_n 2, 1) := by decide +kernel
theorem dX7_ones_13 : decode cX7_ones 13 = .ok (.ishr, 1) := by decide +kernel
theorem dX7_ones_14 : decode cX7_ones 14 = .ok (.iconst 1, 1) := by decide +kernel
theorem dX7_ones_15 : decode cX7_ones 15 = .ok (.iand, 1) := by decide +kernel
theorem dX7_ones_16 : decode cX7_ones 16 = .ok (.iadd, 1) := by decide +kernel
theorem dX7_ones_17 : decode cX7_ones 17 = .ok (.istore_n 1, 1) := by decide +kernel
theorem dX7_ones_18 : decode cX7_ones 18 = .ok (.iinc 2 1, 3) := by decide +kernel
theorem dX7_ones_21 : decode cX7_ones 21 = .ok (.goto (-17), 3) := by decide +kernel
theorem dX7_ones_24 : decode cX7_ones 24 = .ok (.iload_n 1, 1) := by decide +kernel
theorem dX7_ones_25 : decode cX7_ones 25 = .ok (.ireturn, 1) := by decide +kernel
theorem dX7_found_0 : decode cX7_found 0 = .ok (.aload_n 0, 1) := by decide +kernel
theorem dX7_found_1 : decode cX7_found 1 = .ok (.iload_n 1, 1) := by decide +kernel
theorem dX7_found_2 : decode cX7_found 2 = .ok (.putfield 51, 3) := by decide +kernel
theorem dX7_found_5 : decode cX7_found 5 = .ok (.ldc 55, 2) := by decide +kernel
theorem dX7_found_7 : decode cX7_found 7 = .ok (.iload_n 1, 1) := by decide +kernel
theorem dX7_found_8 : decode cX7_found 8 = .ok (.isub, 1) := by decide +kernel
theorem dX7_found_9 : decode cX7_found 9 = .ok (.ireturn, 1) := by decide +kernel
theorem dX7_well_0 : decode cX7_well 0 = .ok (.aload_n 0, 1) := by decide +kernel
theorem dX7_well_1 : decode cX7_well 1 = .ok (.iconst 0, 1) := by decide +kernel
theorem dX7_well_2 : decode cX7_well 2 = .ok (.putfield 51, 3) := by decide +kernel
theorem dX7_well_5 : decode cX7_well 5 = .ok (.iload_n 1, 1) := by decide +kernel
theorem dX7_well_6 : decode cX7_well 6 = .ok (.ireturn, 1) := by decide +kernel
theorem dX7_copies_0 : decode cX7_copies 0 = .ok (.iconst 0, 1) := by decide +kernel
theorem dX7_copies_1 : decode cX7_copies 1 = .ok (.istore 4, 2) := by decide +kernel
theorem dX7_copies_3 : decode cX7_copies 3 = .ok (.iload 4, 2) := by decide +kernel
theorem dX7_copies_5 : decode cX7_copies 5 = .ok (.bipush 29, 2) := by decide +kernel
theorem dX7_copies_7 : decode cX7_copies 7 = .ok (.if_icmp .ge 21, 3) := by decide +kernel
theorem dX7_copies_10 : decode cX7_copies 10 = .ok (.aload_n 2, 1) := by decide +kernel
theorem dX7_copies_11 : decode cX7_copies 11 = .ok (.iload_n 3, 1) := by decide +kernel
theorem dX7_copies_12 : decode cX7_copies 12 = .ok (.iload 4, 2) := by decide +kernel
theorem dX7_copies_14 : decode cX7_copies 14 = .ok (.iadd, 1) := by decide +kernel
theorem dX7_copies_15 : decode cX7_copies 15 = .ok (.aload_n 0, 1) := by decide +kernel
theorem dX7_copies_16 : decode cX7_copies 16 = .ok (.iload_n 1, 1) := by decide +kernel
theorem dX7_copies_17 : decode cX7_copies 17 = .ok (.iload 4, 2) := by decide +kernel
theorem dX7_copies_19 : decode cX7_copies 19 = .ok (.iadd, 1) := by decide +kernel
theorem dX7_copies_20 : decode cX7_copies 20 = .ok (.iaload, 1) := by decide +kernel
theorem dX7_copies_21 : decode cX7_copies 21 = .ok (.iastore, 1) := by decide +kernel
theorem dX7_copies_22 : decode cX7_copies 22 = .ok (.iinc 4 1, 3) := by decide +kernel
theorem dX7_copies_25 : decode cX7_copies 25 = .ok (.goto (-22), 3) := by decide +kernel
theorem dX7_copies_28 : decode cX7_copies 28 = .ok (.return_, 1) := by decide +kernel
set_option maxRecDepth 20000 in
theorem ggX7_isRow_X7_in : GoodIn wsX7_isRow wsX7_in := goodIn_r _ [4] (by decide +kernel) (by decide +kernel)
set_option maxRecDepth 20000 in
theorem gX7_isRow_X7_in : GoodIn wsX7_isRow (va_wsS RX7 56 yX7_in wsX7_in) := goodIn_app (goodIn_of _ (by decide +kernel)) ggX7_isRow_X7_in
theorem dX7_isRow_0 : decode cX7_isRow 0 = .ok (.iload_n 0, 1) := by decide +kernel
theorem dX7_isRow_1 : decode cX7_isRow 1 = .ok (.iconst 0, 1) := by decide +kernel
theorem dX7_isRow_2 : decode cX7_isRow 2 = .ok (.bipush 7, 2) := by decide +kernel
theorem dX7_isRow_4 : decode cX7_isRow 4 = .ok (.invokestatic 56, 3) := by decide +kernel
theorem dX7_isRow_7 : decode cX7_isRow 7 = .ok (.ireturn, 1) := by decide +kernel
theorem dX7_isMissing_0 : decode cX7_isMissing 0 = .ok (.aload_n 0, 1) := by decide +kernel
theorem dX7_isMissing_1 : decode cX7_isMissing 1 = .ok (.getfield 7, 3) := by decide +kernel
theorem dX7_isMissing_4 : decode cX7_isMissing 4 = .ok (.iload_n 1, 1) := by decide +kernel
theorem dX7_isMissing_5 : decode cX7_isMissing 5 = .ok (.iaload, 1) := by decide +kernel
theorem dX7_isMissing_6 : decode cX7_isMissing 6 = .ok (.ldc 50, 2) := by decide +kernel
theorem dX7_isMissing_8 : decode cX7_isMissing 8 = .ok (.if_icmp .ne 7, 3) := by decide +kernel
theorem dX7_isMissing_11 : decode cX7_isMissing 11 = .ok (.iconst 1, 1) := by decide +kernel
theorem dX7_isMissing_12 : decode cX7_isMissing 12 = .ok (.goto 4, 3) := by decide +kernel
theorem dX7_isMissing_15 : decode cX7_isMissing 15 = .ok (.iconst 0, 1) := by decide +kernel
theorem dX7_isMissing_16 : decode cX7_isMissing 16 = .ok (.ireturn, 1) := by decide +kernel
theorem dX7_cut_0 : decode cX7_cut 0 = .ok (.iload_n 0, 1) := by decide +kernel
theorem dX7_cut_1 : decode cX7_cut 1 = .ok (.ifCond .ne 13, 3) := by decide +kernel
theorem dX7_cut_4 : decode cX7_cut 4 = .ok (.iload_n 1, 1) := by decide +kernel
theorem dX7_cut_5 : decode cX7_cut 5 = .ok (.bipush 24, 2) := by decide +kernel
theorem dX7_cut_7 : decode cX7_cut 7 = .ok (.ishl, 1) := by decide +kernel
theorem dX7_cut_8 : decode cX7_cut 8 = .ok (.bipush 24, 2) := by decide +kernel
theorem dX7_cut_10 : decode cX7_cut 10 = .ok (.ishr, 1) := by decide +kernel
theorem dX7_cut_11 : decode cX7_cut 11 = .ok (.goto 19, 3) := by decide +kernel
theorem dX7_cut_14 : decode cX7_cut 14 = .ok (.iload_n 0, 1) := by decide +kernel
theorem dX7_cut_15 : decode cX7_cut 15 = .ok (.iconst 1, 1) := by decide +kernel
theorem dX7_cut_16 : decode cX7_cut 16 = .ok (.if_icmp .ne 13, 3) := by decide +kernel
theorem dX7_cut_19 : decode cX7_cut 19 = .ok (.iload_n 1, 1) := by decide +kernel
theorem dX7_cut_20 : decode cX7_cut 20 = .ok (.bipush 16, 2) := by decide +kernel
theorem dX7_cut_22 : decode cX7_cut 22 = .ok (.ishl, 1) := by decide +kernel
theorem dX7_cut_23 : decode cX7_cut 23 = .ok (.bipush 16, 2) := by decide +kernel
theorem dX7_cut_25 : decode cX7_cut 25 = .ok (.ishr, 1) := by decide +kernel
theorem dX7_cut_26 : decode cX7_cut 26 = .ok (.goto 4, 3) := by decide +kernel
theorem dX7_cut_29 : decode cX7_cut 29 = .ok (.iload_n 1, 1) := by decide +kernel
theorem dX7_cut_30 : decode cX7_cut 30 = .ok (.ireturn, 1) := by decide +kernel
set_option maxRecDepth 20000 in
theorem ggX7_row_X7_isRow : GoodIn wsX7_row wsX7_isRow := goodIn_r _ [8, 9, 10, 7, 11] (by decide +kernel) (by decide +kernel)
set_option maxRecDepth 20000 in
theorem gX7_row_X7_isRow : GoodIn wsX7_row (va_wsS RX7 60 yX7_isRow wsX7_isRow) := goodIn_app (goodIn_of _ (by decide +kernel)) ggX7_row_X7_isRow
set_option maxRecDepth 20000 in
theorem ggX7_row_X7_in : GoodIn wsX7_row wsX7_in := goodIn_r _ [11] (by decide +kernel) (by decide +kernel)
set_option maxRecDepth 20000 in
theorem gX7_row_X7_in : GoodIn wsX7_row (va_wsS RX7 56 yX7_in wsX7_in) := goodIn_app (goodIn_of _ (by decide +kernel)) ggX7_row_X7_in
set_option maxRecDepth 20000 in
theorem ggX7_row_X7_found : GoodIn wsX7_row wsX7_found := goodIn_r _ [15, 16, 17, 22, 23, 24, 25, 26, 27, 28, 29, 30, 31, 32, 33, 34, 35, 36, 37, 38, 39, 40, 41, 42, 43, 44] (by decide +kernel) (by decide +kernel)
set_option maxRecDepth 20000 in
theorem gX7_row_X7_found : GoodIn wsX7_row (wsV RX7 65 RX7 yX7_found wsX7_found) := goodIn_app (goodIn_of _ (by decide +kernel)) ggX7_row_X7_found
set_option maxRecDepth 20000 in
theorem ggX7_row_X7_well : GoodIn wsX7_row wsX7_well := goodIn_r _ [21, 16, 22, 23, 24, 25, 26, 27, 28, 29, 30, 31, 32, 33, 34, 35, 36, 37, 38, 39, 40, 41, 42, 43, 44] (by decide +kernel) (by decide +kernel)
set_option maxRecDepth 20000 in
theorem gX7_row_X7_well : GoodIn wsX7_row (wsV RX7 69 RX7 yX7_well wsX7_well) := goodIn_app (goodIn_of _ (by decide +kernel)) ggX7_row_X7_well
theorem dX7_row_0 : decode cX7_row 0 = .ok (.iload_n 1, 1) := by decide +kernel
theorem dX7_row_1 : decode cX7_row 1 = .ok (.invokestatic 60, 3) := by decide +kernel
theorem dX7_row_4 : decode cX7_row 4 = .ok (.ifCond .eq 18, 3) := by decide +kernel
theorem dX7_row_7 : decode cX7_row 7 = .ok (.iload_n 2, 1) := by decide +kernel
theorem dX7_row_8 : decode cX7_row 8 = .ok (.iconst 0, 1) := by decide +kernel
theorem dX7_row_9 : decode cX7_row 9 = .ok (.iconst 2, 1) := by decide +kernel
theorem dX7_row_10 : decode cX7_row 10 = .ok (.invokestatic 56, 3) := by decide +kernel
theorem dX7_row_13 : decode cX7_row 13 = .ok (.ifCond .eq 9, 3) := by decide +kernel
theorem dX7_row_16 : decode cX7_row 16 = .ok (.iload_n 3, 1) := by decide +kernel
theorem dX7_row_17 : decode cX7_row 17 = .ok (.bipush 40, 2) := by decide +kernel
theorem dX7_row_19 : decode cX7_row 19 = .ok (.if_icmp .le 6, 3) := by decide +kernel
theorem dX7_row_22 : decode cX7_row 22 = .ok (.ldc 64, 2) := by decide +kernel
theorem dX7_row_24 : decode cX7_row 24 = .ok (.ireturn, 1) := by decide +kernel
theorem dX7_row_25 : decode cX7_row 25 = .ok (.iload_n 3, 1) := by decide +kernel
theorem dX7_row_26 : decode cX7_row 26 = .ok (.ifCond .ge 9, 3) := by decide +kernel
theorem dX7_row_29 : decode cX7_row 29 = .ok (.aload_n 0, 1) := by decide +kernel
theorem dX7_row_30 : decode cX7_row 30 = .ok (.iconst 4, 1) := by decide +kernel
theorem dX7_row_31 : decode cX7_row 31 = .ok (.invokevirtual 65, 3) := by decide +kernel
theorem dX7_row_34 : decode cX7_row 34 = .ok (.ireturn, 1) := by decide +kernel
theorem dX7_row_35 : decode cX7_row 35 = .ok (.aload_n 0, 1) := by decide +kernel
theorem dX7_row_36 : decode cX7_row 36 = .ok (.getfield 7, 3) := by decide +kernel
theorem dX7_row_39 : decode cX7_row 39 = .ok (.iload_n 1, 1) := by decide +kernel
theorem dX7_row_40 : decode cX7_row 40 = .ok (.iload_n 2, 1) := by decide +kernel
theorem dX7_row_41 : decode cX7_row 41 = .ok (.iastore, 1) := by decide +kernel
theorem dX7_row_42 : decode cX7_row 42 = .ok (.aload_n 0, 1) := by decide +kernel
theorem dX7_row_43 : decode cX7_row 43 = .ok (.getfield 13, 3) := by decide +kernel
theorem dX7_row_46 : decode cX7_row 46 = .ok (.iload_n 1, 1) := by decide +kernel
theorem dX7_row_47 : decode cX7_row 47 = .ok (.iload_n 3, 1) := by decide +kernel
theorem dX7_row_48 : decode cX7_row 48 = .ok (.iastore, 1) := by decide +kernel
theorem dX7_row_49 : decode cX7_row 49 = .ok (.iconst 0, 1) := by decide +kernel
theorem dX7_row_50 : decode cX7_row 50 = .ok (.istore 4, 2) := by decide +kernel
theorem dX7_row_52 : decode cX7_row 52 = .ok (.iload 4, 2) := by decide +kernel
theorem dX7_row_54 : decode cX7_row 54 = .ok (.bipush 40, 2) := by decide +kernel
theorem dX7_row_56 : decode cX7_row 56 = .ok (.if_icmp .ge 22, 3) := by decide +kernel
theorem dX7_row_59 : decode cX7_row 59 = .ok (.aload_n 0, 1) := by decide +kernel
theorem dX7_row_60 : decode cX7_row 60 = .ok (.getfield 16, 3) := by decide +kernel
theorem dX7_row_63 : decode cX7_row 63 = .ok (.bipush 40, 2) := by decide +kernel
theorem dX7_row_65 : decode cX7_row 65 = .ok (.iload_n 1, 1) := by decide +kernel
theorem dX7_row_66 : decode cX7_row 66 = .ok (.imul, 1) := by decide +kernel
theorem dX7_row_67 : decode cX7_row 67 = .ok (.iload 4, 2) := by decide +kernel
theorem dX7_row_69 : decode cX7_row 69 = .ok (.iadd, 1) := by decide +kernel
theorem dX7_row_70 : decode cX7_row 70 = .ok (.iconst 0, 1) := by decide +kernel
theorem dX7_row_71 : decode cX7_row 71 = .ok (.iastore, 1) := by decide +kernel
theorem dX7_row_72 : decode cX7_row 72 = .ok (.iinc 4 1, 3) := by decide +kernel
theorem dX7_row_75 : decode cX7_row 75 = .ok (.goto (-23), 3) := by decide +kernel
theorem dX7_row_78 : decode cX7_row 78 = .ok (.aload_n 0, 1) := by decide +kernel
theorem dX7_row_79 : decode cX7_row 79 = .ok (.iload_n 3, 1) := by decide +kernel
theorem dX7_row_80 : decode cX7_row 80 = .ok (.invokevirtual 69, 3) := by decide +kernel
theorem dX7_row_83 : decode cX7_row 83 = .ok (.ireturn, 1) := by decide +kernel
set_option maxRecDepth 20000 in
theorem ggX7_set_X7_isRow : GoodIn wsX7_set wsX7_isRow := goodIn_r _ [8, 9, 10, 7, 11] (by decide +kernel) (by decide +kernel)
set_option maxRecDepth 20000 in
theorem gX7_set_X7_isRow : GoodIn wsX7_set (va_wsS RX7 60 yX7_isRow wsX7_isRow) := goodIn_app (goodIn_of _ (by decide +kernel)) ggX7_set_X7_isRow
set_option maxRecDepth 20000 in
theorem ggX7_set_X7_isMissing : GoodIn wsX7_set wsX7_isMissing := goodIn_r _ [15, 4, 16, 30, 31, 32, 33, 34, 35, 36, 37, 38, 39, 40, 41, 42, 43, 44, 45, 46, 47, 48, 49, 50, 51, 52] (by decide +kernel) (by decide +kernel)
set_option maxRecDepth 20000 in
theorem gX7_set_X7_isMissing : GoodIn wsX7_set (wsV RX7 72 RX7 yX7_isMissing wsX7_isMissing) := goodIn_app (goodIn_of _ (by decide +kernel)) ggX7_set_X7_isMissing
set_option maxRecDepth 20000 in
theorem ggX7_set_X7_found : GoodIn wsX7_set wsX7_found := goodIn_r _ [20, 21, 22, 30, 31, 32, 33, 34, 35, 36, 37, 38, 39, 40, 41, 42, 43, 44, 45, 46, 47, 48, 49, 50, 51, 52] (by decide +kernel) (by decide +kernel)
set_option maxRecDepth 20000 in
theorem gX7_set_X7_found : GoodIn wsX7_set (wsV RX7 65 RX7 yX7_found wsX7_found) := goodIn_app (goodIn_of _ (by decide +kernel)) ggX7_set_X7_found
set_option maxRecDepth 20000 in
theorem ggX7_set_X7_in : GoodIn wsX7_set wsX7_in := goodIn_r _ [11] (by decide +kernel) (by decide +kernel)
set_option maxRecDepth 20000 in
theorem gX7_set_X7_in : GoodIn wsX7_set (va_wsS RX7 56 yX7_in wsX7_in) := goodIn_app (goodIn_of _ (by decide +kernel)) ggX7_set_X7_in
set_option maxRecDepth 20000 in
theorem ggX7_set_X7_cut : GoodIn wsX7_set wsX7_cut := goodIn_r _ [25] (by decide +kernel) (by decide +kernel)
set_option maxRecDepth 20000 in
theorem gX7_set_X7_cut : GoodIn wsX7_set (va_wsS RX7 75 yX7_cut wsX7_cut) := goodIn_app (goodIn_of _ (by decide +kernel)) ggX7_set_X7_cut
set_option maxRecDepth 20000 in
theorem ggX7_set_X7_well : GoodIn wsX7_set wsX7_well := goodIn_r _ [29, 21, 30, 31, 32, 33, 34, 35, 36, 37, 38, 39, 40, 41, 42, 43, 44, 45, 46, 47, 48, 49, 50, 51, 52] (by decide +kernel) (by decide +kernel)
set_option maxRecDepth 20000 in
theorem gX7_set_X7_well : GoodIn wsX7_set (wsV RX7 69 RX7 yX7_well wsX7_well) := goodIn_app (goodIn_of _ (by decide +kernel)) ggX7_set_X7_well
theorem dX7_set_0 : decode cX7_set 0 = .ok (.iload_n 1, 1) := by decide +kernel
theorem dX7_set_1 : decode cX7_set 1 = .ok (.invokestatic 60, 3) := by decide +kernel
theorem dX7_set_4 : decode cX7_set 4 = .ok (.ifCond .ne 6, 3) := by decide +kernel
theorem dX7_set_7 : decode cX7_set 7 = .ok (.ldc 64, 2) := by decide +kernel
theorem dX7_set_9 : decode cX7_set 9 = .ok (.ireturn, 1) := by decide +kernel
theorem dX7_set_10 : decode cX7_set 10 = .ok (.aload_n 0, 1) := by decide +kernel
theorem dX7_set_11 : decode cX7_set 11 = .ok (.iload_n 1, 1) := by decide +kernel
theorem dX7_set_12 : decode cX7_set 12 = .ok (.invokevirtual 72, 3) := by decide +kernel
theorem dX7_set_15 : decode cX7_set 15 = .ok (.ifCond .eq 9, 3) := by decide +kernel
theorem dX7_set_18 : decode cX7_set 18 = .ok (.aload_n 0, 1) := by decide +kernel
theorem dX7_set_19 : decode cX7_set 19 = .ok (.iconst 1, 1) := by decide +kernel
theorem dX7_set_20 : decode cX7_set 20 = .ok (.invokevirtual 65, 3) := by decide +kernel
theorem dX7_set_23 : decode cX7_set 23 = .ok (.ireturn, 1) := by decide +kernel
theorem dX7_set_24 : decode cX7_set 24 = .ok (.iload_n 2, 1) := by decide +kernel
theorem dX7_set_25 : decode cX7_set 25 = .ok (.iconst 0, 1) := by decide +kernel
theorem dX7_set_26 : decode cX7_set 26 = .ok (.aload_n 0, 1) := by decide +kernel
theorem dX7_set_27 : decode cX7_set 27 = .ok (.getfield 13, 3) := by decide +kernel
theorem dX7_set_30 : decode cX7_set 30 = .ok (.iload_n 1, 1) := by decide +kernel
theorem dX7_set_31 : decode cX7_set 31 = .ok (.iaload, 1) := by decide +kernel
theorem dX7_set_32 : decode cX7_set 32 = .ok (.iconst 1, 1) := by decide +kernel
theorem dX7_set_33 : decode cX7_set 33 = .ok (.isub, 1) := by decide +kernel
theorem dX7_set_34 : decode cX7_set 34 = .ok (.invokestatic 56, 3) := by decide +kernel
theorem dX7_set_37 : decode cX7_set 37 = .ok (.ifCond .ne 9, 3) := by decide +kernel
theorem dX7_set_40 : decode cX7_set 40 = .ok (.aload_n 0, 1) := by decide +kernel
theorem dX7_set_41 : decode cX7_set 41 = .ok (.iconst 2, 1) := by decide +kernel
theorem dX7_set_42 : decode cX7_set 42 = .ok (.invokevirtual 65, 3) := by decide +kernel
theorem dX7_set_45 : decode cX7_set 45 = .ok (.ireturn, 1) := by decide +kernel
theorem dX7_set_46 : decode cX7_set 46 = .ok (.aload_n 0, 1) := by decide +kernel
theorem dX7_set_47 : decode cX7_set 47 = .ok (.getfield 16, 3) := by decide +kernel
theorem dX7_set_50 : decode cX7_set 50 = .ok (.bipush 40, 2) := by decide +kernel
theorem dX7_set_52 : decode cX7_set 52 = .ok (.iload_n 1, 1) := by decide +kernel
theorem dX7_set_53 : decode cX7_set 53 = .ok (.imul, 1) := by decide +kernel
theorem dX7_set_54 : decode cX7_set 54 = .ok (.iload_n 2, 1) := by decide +kernel
theorem dX7_set_55 : decode cX7_set 55 = .ok (.iadd, 1) := by decide +kernel
theorem dX7_set_56 : decode cX7_set 56 = .ok (.aload_n 0, 1) := by decide +kernel
theorem dX7_set_57 : decode cX7_set 57 = .ok (.getfield 7, 3) := by decide +kernel
theorem dX7_set_60 : decode cX7_set 60 = .ok (.iload_n 1, 1) := by decide +kernel
theorem dX7_set_61 : decode cX7_set 61 = .ok (.iaload, 1) := by decide +kernel
theorem dX7_set_62 : decode cX7_set 62 = .ok (.iload_n 3, 1) := by decide +kernel
theorem dX7_set_63 : decode cX7_set 63 = .ok (.invokestatic 75, 3) := by decide +kernel
theorem dX7_set_66 : decode cX7_set 66 = .ok (.iastore, 1) := by decide +kernel
theorem dX7_set_67 : decode cX7_set 67 = .ok (.aload_n 0, 1) := by decide +kernel
theorem dX7_set_68 : decode cX7_set 68 = .ok (.aload_n 0, 1) := by decide +kernel
theorem dX7_set_69 : decode cX7_set 69 = .ok (.getfield 16, 3) := by decide +kernel
theorem dX7_set_72 : decode cX7_set 72 = .ok (.bipush 40, 2) := by decide +kernel
theorem dX7_set_74 : decode cX7_set 74 = .ok (.iload_n 1, 1) := by decide +kernel
theorem dX7_set_75 : decode cX7_set 75 = .ok (.imul, 1) := by decide +kernel
theorem dX7_set_76 : decode cX7_set 76 = .ok (.iload_n 2, 1) := by decide +kernel
theorem dX7_set_77 : decode cX7_set 77 = .ok (.iadd, 1) := by decide +kernel
theorem dX7_set_78 : decode cX7_set 78 = .ok (.iaload, 1) := by decide +kernel
theorem dX7_set_79 : decode cX7_set 79 = .ok (.invokevirtual 69, 3) := by decide +kernel
theorem dX7_set_82 : decode cX7_set 82 = .ok (.ireturn, 1) := by decide +kernel
theorem dX7_isPart_0 : decode cX7_isPart 0 = .ok (.iload_n 2, 1) := by decide +kernel
theorem dX7_isPart_1 : decode cX7_isPart 1 = .ok (.ifCond .lt 33, 3) := by decide +kernel
theorem dX7_isPart_4 : decode cX7_isPart 4 = .ok (.iload_n 3, 1) := by decide +kernel
theorem dX7_isPart_5 : decode cX7_isPart 5 = .ok (.ifCond .lt 29, 3) := by decide +kernel
theorem dX7_isPart_8 : decode cX7_isPart 8 = .ok (.iload_n 2, 1) := by decide +kernel
theorem dX7_isPart_9 : decode cX7_isPart 9 = .ok (.aload_n 0, 1) := by decide +kernel
theorem dX7_isPart_10 : decode cX7_isPart 10 = .ok (.getfield 13, 3) := by decide +kernel
theorem dX7_isPart_13 : decode cX7_isPart 13 = .ok (.iload_n 1, 1) := by decide +kernel
theorem dX7_isPart_14 : decode cX7_isPart 14 = .ok (.iaload, 1) := by decide +kernel
theorem dX7_isPart_15 : decode cX7_isPart 15 = .ok (.if_icmp .gt 19, 3) := by decide +kernel
theorem dX7_isPart_18 : decode cX7_isPart 18 = .ok (.iload_n 3, 1) := by decide +kernel
theorem dX7_isPart_19 : decode cX7_isPart 19 = .ok (.aload_n 0, 1) := by decide +kernel
theorem dX7_isPart_20 : decode cX7_isPart 20 = .ok (.getfield 13, 3) := by decide +kernel
theorem dX7_isPart_23 : decode cX7_isPart 23 = .ok (.iload_n 1, 1) := by decide +kernel
theorem dX7_isPart_24 : decode cX7_isPart 24 = .ok (.iaload, 1) := by decide +kernel
theorem dX7_isPart_25 : decode cX7_isPart 25 = .ok (.iload_n 2, 1) := by decide +kernel
theorem dX7_isPart_26 : decode cX7_isPart 26 = .ok (.isub, 1) := by decide +kernel
theorem dX7_isPart_27 : decode cX7_isPart 27 = .ok (.if_icmp .gt 7, 3) := by decide +kernel
theorem dX7_isPart_30 : decode cX7_isPart 30 = .ok (.iconst 1, 1) := by decide +kernel
theorem dX7_isPart_31 : decode cX7_isPart 31 = .ok (.goto 4, 3) := by decide +kernel
theorem dX7_isPart_34 : decode cX7_isPart 34 = .ok (.iconst 0, 1) := by decide +kernel
theorem dX7_isPart_35 : decode cX7_isPart 35 = .ok (.ireturn, 1) := by decide +kernel
set_option maxRecDepth 20000 in
theorem ggX7_copy_X7_isRow : GoodIn wsX7_copy wsX7_isRow := goodIn_r _ [8, 9, 10, 7, 11] (by decide +kernel) (by decide +kernel)
set_option maxRecDepth 20000 in
theorem gX7_copy_X7_isRow : GoodIn wsX7_copy (va_wsS RX7 60 yX7_isRow wsX7_isRow) := goodIn_app (goodIn_of _ (by decide +kernel)) ggX7_copy_X7_isRow
set_option maxRecDepth 20000 in
theorem ggX7_copy_X7_isMissing : GoodIn wsX7_copy wsX7_isMissing := goodIn_r _ [15, 2, 16, 32, 33, 34, 35, 36, 37, 38, 39, 40, 41, 42, 43, 44, 45, 46, 47, 48, 49, 50, 51, 52, 53, 54] (by decide +kernel) (by decide +kernel)
set_option maxRecDepth 20000 in
theorem gX7_copy_X7_isMissing : GoodIn wsX7_copy (wsV RX7 72 RX7 yX7_isMissing wsX7_isMissing) := goodIn_app (goodIn_of _ (by decide +kernel)) ggX7_copy_X7_isMissing
set_option maxRecDepth 20000 in
theorem ggX7_copy_X7_found : GoodIn wsX7_copy wsX7_found := goodIn_r _ [20, 21, 22, 32, 33, 34, 35, 36, 37, 38, 39, 40, 41, 42, 43, 44, 45, 46, 47, 48, 49, 50, 51, 52, 53, 54] (by decide +kernel) (by decide +kernel)
set_option maxRecDepth 20000 in
theorem gX7_copy_X7_found : GoodIn wsX7_copy (wsV RX7 65 RX7 yX7_found wsX7_found) := goodIn_app (goodIn_of _ (by decide +kernel)) ggX7_copy_X7_found
set_option maxRecDepth 20000 in
theorem ggX7_copy_X7_isPart : GoodIn wsX7_copy wsX7_isPart := goodIn_r _ [26, 27, 32, 33, 34, 35, 36, 37, 38, 39, 40, 41, 42, 43, 44, 45, 46, 47, 48, 49, 50, 51, 52, 53, 54] (by decide +kernel) (by decide +kernel)
set_option maxRecDepth 20000 in
theorem gX7_copy_X7_isPart : GoodIn wsX7_copy (wsV RX7 79 RX7 yX7_isPart wsX7_isPart) := goodIn_app (goodIn_of _ (by decide +kernel)) ggX7_copy_X7_isPart
set_option maxRecDepth 20000 in
theorem ggX7_copy_X7_well : GoodIn wsX7_copy wsX7_well := goodIn_r _ [31, 21, 32, 33, 34, 35, 36, 37, 38, 39, 40, 41, 42, 43, 44, 45, 46, 47, 48, 49, 50, 51, 52, 53, 54] (by decide +kernel) (by decide +kernel)
set_option maxRecDepth 20000 in
theorem gX7_copy_X7_well : GoodIn wsX7_copy (wsV RX7 69 RX7 yX7_well wsX7_well) := goodIn_app (goodIn_of _ (by decide +kernel)) ggX7_copy_X7_well
theorem dX7_copy_0 : decode cX7_copy 0 = .ok (.iload_n 1, 1) := by decide +kernel
theorem dX7_copy_1 : decode cX7_copy 1 = .ok (.invokestatic 60, 3) := by decide +kernel
theorem dX7_copy_4 : decode cX7_copy 4 = .ok (.ifCond .eq 10, 3) := by decide +kernel
theorem dX7_copy_7 : decode cX7_copy 7 = .ok (.iload_n 3, 1) := by decide +kernel
theorem dX7_copy_8 : decode cX7_copy 8 = .ok (.invokestatic 60, 3) := by decide +kernel
theorem dX7_copy_11 : decode cX7_copy 11 = .ok (.ifCond .ne 6, 3) := by decide +kernel
theorem dX7_copy_14 : decode cX7_copy 14 = .ok (.ldc 64, 2) := by decide +kernel
theorem dX7_copy_16 : decode cX7_copy 16 = .ok (.ireturn, 1) := by decide +kernel
theorem dX7_copy_17 : decode cX7_copy 17 = .ok (.aload_n 0, 1) := by decide +kernel
theorem dX7_copy_18 : decode cX7_copy 18 = .ok (.iload_n 1, 1) := by decide +kernel
theorem dX7_copy_19 : decode cX7_copy 19 = .ok (.invokevirtual 72, 3) := by decide +kernel
theorem dX7_copy_22 : decode cX7_copy 22 = .ok (.ifCond .ne 11, 3) := by decide +kernel
theorem dX7_copy_25 : decode cX7_copy 25 = .ok (.aload_n 0, 1) := by decide +kernel
theorem dX7_copy_26 : decode cX7_copy 26 = .ok (.iload_n 3, 1) := by decide +kernel
theorem dX7_copy_27 : decode cX7_copy 27 = .ok (.invokevirtual 72, 3) := by decide +kernel
theorem dX7_copy_30 : decode cX7_copy 30 = .ok (.ifCond .eq 9, 3) := by decide +kernel
theorem dX7_copy_33 : decode cX7_copy 33 = .ok (.aload_n 0, 1) := by decide +kernel
theorem dX7_copy_34 : decode cX7_copy 34 = .ok (.iconst 1, 1) := by decide +kernel
theorem dX7_copy_35 : decode cX7_copy 35 = .ok (.invokevirtual 65, 3) := by decide +kernel
theorem dX7_copy_38 : decode cX7_copy 38 = .ok (.ireturn, 1) := by decide +kernel
theorem dX7_copy_39 : decode cX7_copy 39 = .ok (.aload_n 0, 1) := by decide +kernel
theorem dX7_copy_40 : decode cX7_copy 40 = .ok (.getfield 7, 3) := by decide +kernel
theorem dX7_copy_43 : decode cX7_copy 43 = .ok (.iload_n 1, 1) := by decide +kernel
theorem dX7_copy_44 : decode cX7_copy 44 = .ok (.iaload, 1) := by decide +kernel
theorem dX7_copy_45 : decode cX7_copy 45 = .ok (.aload_n 0, 1) := by decide +kernel
theorem dX7_copy_46 : decode cX7_copy 46 = .ok (.getfield 7, 3) := by decide +kernel
theorem dX7_copy_49 : decode cX7_copy 49 = .ok (.iload_n 3, 1) := by decide +kernel
theorem dX7_copy_50 : decode cX7_copy 50 = .ok (.iaload, 1) := by decide +kernel
theorem dX7_copy_51 : decode cX7_copy 51 = .ok (.if_icmp .eq 9, 3) := by decide +kernel
theorem dX7_copy_54 : decode cX7_copy 54 = .ok (.aload_n 0, 1) := by decide +kernel
theorem dX7_copy_55 : decode cX7_copy 55 = .ok (.iconst 5, 1) := by decide +kernel
theorem dX7_copy_56 : decode cX7_copy 56 = .ok (.invokevirtual 65, 3) := by decide +kernel
theorem dX7_copy_59 : decode cX7_copy 59 = .ok (.ireturn, 1) := by decide +kernel
theorem dX7_copy_60 : decode cX7_copy 60 = .ok (.aload_n 0, 1) := by decide +kernel
theorem dX7_copy_61 : decode cX7_copy 61 = .ok (.iload_n 1, 1) := by decide +kernel
theorem dX7_copy_62 : decode cX7_copy 62 = .ok (.iload_n 2, 1) := by decide +kernel
theorem dX7_copy_63 : decode cX7_copy 63 = .ok (.iload 5, 2) := by decide +kernel
theorem dX7_copy_65 : decode cX7_copy 65 = .ok (.invokevirtual 79, 3) := by decide +kernel
theorem dX7_copy_68 : decode cX7_copy 68 = .ok (.ifCond .eq 15, 3) := by decide +kernel
theorem dX7_copy_71 : decode cX7_copy 71 = .ok (.aload_n 0, 1) := by decide +kernel
theorem dX7_copy_72 : decode cX7_copy 72 = .ok (.iload_n 3, 1) := by decide +kernel
theorem dX7_copy_73 : decode cX7_copy 73 = .ok (.iload 4, 2) := by decide +kernel
theorem dX7_copy_75 : decode cX7_copy 75 = .ok (.iload 5, 2) := by decide +kernel
theorem dX7_copy_77 : decode cX7_copy 77 = .ok (.invokevirtual 79, 3) := by decide +kernel
theorem dX7_copy_80 : decode cX7_copy 80 = .ok (.ifCond .ne 9, 3) := by decide +kernel
theorem dX7_copy_83 : decode cX7_copy 83 = .ok (.aload_n 0, 1) := by decide +kernel
theorem dX7_copy_84 : decode cX7_copy 84 = .ok (.iconst 2, 1) := by decide +kernel
theorem dX7_copy_85 : decode cX7_copy 85 = .ok (.invokevirtual 65, 3) := by decide +kernel
theorem dX7_copy_88 : decode cX7_copy 88 = .ok (.ireturn, 1) := by decide +kernel
theorem dX7_copy_89 : decode cX7_copy 89 = .ok (.iconst 0, 1) := by decide +kernel
theorem dX7_copy_90 : decode cX7_copy 90 = .ok (.istore 6, 2) := by decide +kernel
theorem dX7_copy_92 : decode cX7_copy 92 = .ok (.iload 6, 2) := by decide +kernel
theorem dX7_copy_94 : decode cX7_copy 94 = .ok (.iload 5, 2) := by decide +kernel
theorem dX7_copy_96 : decode cX7_copy 96 = .ok (.if_icmp .ge 30, 3) := by decide +kernel
theorem dX7_copy_99 : decode cX7_copy 99 = .ok (.aload_n 0, 1) := by decide +kernel
theorem dX7_copy_100 : decode cX7_copy 100 = .ok (.getfield 19, 3) := by decide +kernel
theorem dX7_copy_103 : decode cX7_copy 103 = .ok (.iload 6, 2) := by decide +kernel
theorem dX7_copy_105 : decode cX7_copy 105 = .ok (.aload_n 0, 1) := by decide +kernel
theorem dX7_copy_106 : decode cX7_copy 106 = .ok (.getfield 16, 3) := by decide +kernel
theorem dX7_copy_109 : decode cX7_copy 109 = .ok (.bipush 40, 2) := by decide +kernel
theorem dX7_copy_111 : decode cX7_copy 111 = .ok (.iload_n 1, 1) := by decide +kernel
theorem dX7_copy_112 : decode cX7_copy 112 = .ok (.imul, 1) := by decide +kernel
theorem dX7_copy_113 : decode cX7_copy 113 = .ok (.iload_n 2, 1) := by decide +kernel
theorem dX7_copy_114 : decode cX7_copy 114 = .ok (.iadd, 1) := by decide +kernel
theorem dX7_copy_115 : decode cX7_copy 115 = .ok (.iload 6, 2) := by decide +kernel
theorem dX7_copy_117 : decode cX7_copy 117 = .ok (.iadd, 1) := by decide +kernel
theorem dX7_copy_118 : decode cX7_copy 118 = .ok (.iaload, 1) := by decide +kernel
theorem dX7_copy_119 : decode cX7_copy 119 = .ok (.iastore, 1) := by decide +kernel
theorem dX7_copy_120 : decode cX7_copy 120 = .ok (.iinc 6 1, 3) := by decide +kernel
theorem dX7_copy_123 : decode cX7_copy 123 = .ok (.goto (-31), 3) := by decide +kernel
theorem dX7_copy_126 : decode cX7_copy 126 = .ok (.iconst 0, 1) := by decide +kernel
theorem dX7_copy_127 : decode cX7_copy 127 = .ok (.istore 6, 2) := by decide +kernel
theorem dX7_copy_129 : decode cX7_copy 129 = .ok (.iload 6, 2) := by decide +kernel
theorem dX7_copy_131 : decode cX7_copy 131 = .ok (.iload 5, 2) := by decide +kernel
theorem dX7_copy_133 : decode cX7_copy 133 = .ok (.if_icmp .ge 31, 3) := by decide +kernel
theorem dX7_copy_136 : decode cX7_copy 136 = .ok (.aload_n 0, 1) := by decide +kernel
theorem dX7_copy_137 : decode cX7_copy 137 = .ok (.getfield 16, 3) := by decide +kernel
theorem dX7_copy_140 : decode cX7_copy 140 = .ok (.bipush 40, 2) := by decide +kernel
theorem dX7_copy_142 : decode cX7_copy 142 = .ok (.iload_n 3, 1) := by decide +kernel
theorem dX7_copy_143 : decode cX7_copy 143 = .ok (.imul, 1) := by decide +kernel
theorem dX7_copy_144 : decode cX7_copy 144 = .ok (.iload 4, 2) := by decide +kernel
theorem dX7_copy_146 : decode cX7_copy 146 = .ok (.iadd, 1) := by decide +kernel
theorem dX7_copy_147 : decode cX7_copy 147 = .ok (.iload 6, 2) := by decide +kernel
theorem dX7_copy_149 : decode cX7_copy 149 = .ok (.iadd, 1) := by decide +kernel
theorem dX7_copy_150 : decode cX7_copy 150 = .ok (.aload_n 0, 1) := by decide +kernel
theorem dX7_copy_151 : decode cX7_copy 151 = .ok (.getfield 19, 3) := by decide +kernel
theorem dX7_copy_154 : decode cX7_copy 154 = .ok (.iload 6, 2) := by decide +kernel
theorem dX7_copy_156 : decode cX7_copy 156 = .ok (.iaload, 1) := by decide +kernel
theorem dX7_copy_157 : decode cX7_copy 157 = .ok (.iastore, 1) := by decide +kernel
theorem dX7_copy_158 : decode cX7_copy 158 = .ok (.iinc 6 1, 3) := by decide +kernel
theorem dX7_copy_161 : decode cX7_copy 161 = .ok (.goto (-32), 3) := by decide +kernel
theorem dX7_copy_164 : decode cX7_copy 164 = .ok (.aload_n 0, 1) := by decide +kernel
theorem dX7_copy_165 : decode cX7_copy 165 = .ok (.iload 5, 2) := by decide +kernel
theorem dX7_copy_167 : decode cX7_copy 167 = .ok (.invokevirtual 69, 3) := by decide +kernel
theorem dX7_copy_170 : decode cX7_copy 170 = .ok (.ireturn, 1) := by decide +kernel
set_option maxRecDepth 20000 in
theorem ggX7_drop_X7_isRow : GoodIn wsX7_drop wsX7_isRow := goodIn_r _ [8, 9, 10, 7, 11] (by decide +kernel) (by decide +kernel)
set_option maxRecDepth 20000 in
theorem gX7_drop_X7_isRow : GoodIn wsX7_drop (va_wsS RX7 60 yX7_isRow wsX7_isRow) := goodIn_app (goodIn_of _ (by decide +kernel)) ggX7_drop_X7_isRow
set_option maxRecDepth 20000 in
theorem ggX7_drop_X7_isMissing : GoodIn wsX7_drop wsX7_isMissing := goodIn_r _ [15, 2, 3, 26, 27, 28, 29, 30, 31, 32, 33, 34, 35, 36, 37, 38, 39, 40, 41, 42, 43, 44, 45, 46, 47, 48] (by decide +kernel) (by decide +kernel)
set_option maxRecDepth 20000 in
theorem gX7_drop_X7_isMissing : GoodIn wsX7_drop (wsV RX7 72 RX7 yX7_isMissing wsX7_isMissing) := goodIn_app (goodIn_of _ (by decide +kernel)) ggX7_drop_X7_isMissing
set_option maxRecDepth 20000 in
theorem ggX7_drop_X7_found : GoodIn wsX7_drop wsX7_found := goodIn_r _ [19, 20, 21, 26, 27, 28, 29, 30, 31, 32, 33, 34, 35, 36, 37, 38, 39, 40, 41, 42, 43, 44, 45, 46, 47, 48] (by decide +kernel) (by decide +kernel)
set_option maxRecDepth 20000 in
theorem gX7_drop_X7_found : GoodIn wsX7_drop (wsV RX7 65 RX7 yX7_found wsX7_found) := goodIn_app (goodIn_of _ (by decide +kernel)) ggX7_drop_X7_found
set_option maxRecDepth 20000 in
theorem ggX7_drop_X7_well : GoodIn wsX7_drop wsX7_well := goodIn_r _ [25, 20, 26, 27, 28, 29, 30, 31, 32, 33, 34, 35, 36, 37, 38, 39, 40, 41, 42, 43, 44, 45, 46, 47, 48] (by decide +kernel) (by decide +kernel)
set_option maxRecDepth 20000 in
theorem gX7_drop_X7_well : GoodIn wsX7_drop (wsV RX7 69 RX7 yX7_well wsX7_well) := goodIn_app (goodIn_of _ (by decide +kernel)) ggX7_drop_X7_well
theorem dX7_drop_0 : decode cX7_drop 0 = .ok (.iload_n 1, 1) := by decide +kernel
theorem dX7_drop_1 : decode cX7_drop 1 = .ok (.invokestatic 60, 3) := by decide +kernel
theorem dX7_drop_4 : decode cX7_drop 4 = .ok (.ifCond .ne 6, 3) := by decide +kernel
theorem dX7_drop_7 : decode cX7_drop 7 = .ok (.ldc 64, 2) := by decide +kernel
theorem dX7_drop_9 : decode cX7_drop 9 = .ok (.ireturn, 1) := by decide +kernel
theorem dX7_drop_10 : decode cX7_drop 10 = .ok (.aload_n 0, 1) := by decide +kernel
theorem dX7_drop_11 : decode cX7_drop 11 = .ok (.iload_n 1, 1) := by decide +kernel
theorem dX7_drop_12 : decode cX7_drop 12 = .ok (.invokevirtual 72, 3) := by decide +kernel
theorem dX7_drop_15 : decode cX7_drop 15 = .ok (.ifCond .eq 9, 3) := by decide +kernel
theorem dX7_drop_18 : decode cX7_drop 18 = .ok (.aload_n 0, 1) := by decide +kernel
theorem dX7_drop_19 : decode cX7_drop 19 = .ok (.iconst 1, 1) := by decide +kernel
theorem dX7_drop_20 : decode cX7_drop 20 = .ok (.invokevirtual 65, 3) := by decide +kernel
theorem dX7_drop_23 : decode cX7_drop 23 = .ok (.ireturn, 1) := by decide +kernel
theorem dX7_drop_24 : decode cX7_drop 24 = .ok (.aload_n 0, 1) := by decide +kernel
theorem dX7_drop_25 : decode cX7_drop 25 = .ok (.getfield 7, 3) := by decide +kernel
theorem dX7_drop_28 : decode cX7_drop 28 = .ok (.iload_n 1, 1) := by decide +kernel
theorem dX7_drop_29 : decode cX7_drop 29 = .ok (.ldc 50, 2) := by decide +kernel
theorem dX7_drop_31 : decode cX7_drop 31 = .ok (.iastore, 1) := by decide +kernel
theorem dX7_drop_32 : decode cX7_drop 32 = .ok (.aload_n 0, 1) := by decide +kernel
theorem dX7_drop_33 : decode cX7_drop 33 = .ok (.aload_n 0, 1) := by decide +kernel
theorem dX7_drop_34 : decode cX7_drop 34 = .ok (.getfield 13, 3) := by decide +kernel
theorem dX7_drop_37 : decode cX7_drop 37 = .ok (.iload_n 1, 1) := by decide +kernel
theorem dX7_drop_38 : decode cX7_drop 38 = .ok (.iaload, 1) := by decide +kernel
theorem dX7_drop_39 : decode cX7_drop 39 = .ok (.invokevirtual 69, 3) := by decide +kernel
theorem dX7_drop_42 : decode cX7_drop 42 = .ok (.ireturn, 1) := by decide +kernel
set_option maxRecDepth 20000 in
theorem ggX7_feed_X7_in : GoodIn wsX7_feed wsX7_in := goodIn_r _ [8] (by decide +kernel) (by decide +kernel)
set_option maxRecDepth 20000 in
theorem gX7_feed_X7_in : GoodIn wsX7_feed (va_wsS RX7 56 yX7_in wsX7_in) := goodIn_app (goodIn_of _ (by decide +kernel)) ggX7_feed_X7_in
theorem dX7_feed_0 : decode cX7_feed 0 = .ok (.iload_n 1, 1) := by decide +kernel
theorem dX7_feed_1 : decode cX7_feed 1 = .ok (.iconst 0, 1) := by decide +kernel
theorem dX7_feed_2 : decode cX7_feed 2 = .ok (.sipush 255, 3) := by decide +kernel
theorem dX7_feed_5 : decode cX7_feed 5 = .ok (.invokestatic 56, 3) := by decide +kernel
theorem dX7_feed_8 : decode cX7_feed 8 = .ok (.ifCond .ne 6, 3) := by decide +kernel
theorem dX7_feed_11 : decode cX7_feed 11 = .ok (.ldc 64, 2) := by decide +kernel
theorem dX7_feed_13 : decode cX7_feed 13 = .ok (.ireturn, 1) := by decide +kernel
theorem dX7_feed_14 : decode cX7_feed 14 = .ok (.aload_n 0, 1) := by decide +kernel
theorem dX7_feed_15 : decode cX7_feed 15 = .ok (.getfield 82, 3) := by decide +kernel
theorem dX7_feed_18 : decode cX7_feed 18 = .ok (.bipush 100, 2) := by decide +kernel
theorem dX7_feed_20 : decode cX7_feed 20 = .ok (.if_icmp .ne 6, 3) := by decide +kernel
theorem dX7_feed_23 : decode cX7_feed 23 = .ok (.ldc 85, 2) := by decide +kernel
theorem dX7_feed_25 : decode cX7_feed 25 = .ok (.ireturn, 1) := by decide +kernel
theorem dX7_feed_26 : decode cX7_feed 26 = .ok (.aload_n 0, 1) := by decide +kernel
theorem dX7_feed_27 : decode cX7_feed 27 = .ok (.getfield 22, 3) := by decide +kernel
theorem dX7_feed_30 : decode cX7_feed 30 = .ok (.aload_n 0, 1) := by decide +kernel
theorem dX7_feed_31 : decode cX7_feed 31 = .ok (.getfield 82, 3) := by decide +kernel
theorem dX7_feed_34 : decode cX7_feed 34 = .ok (.iload_n 1, 1) := by decide +kernel
theorem dX7_feed_35 : decode cX7_feed 35 = .ok (.iastore, 1) := by decide +kernel
theorem dX7_feed_36 : decode cX7_feed 36 = .ok (.aload_n 0, 1) := by decide +kernel
theorem dX7_feed_37 : decode cX7_feed 37 = .ok (.dup, 1) := by decide +kernel
theorem dX7_feed_38 : decode cX7_feed 38 = .ok (.getfield 82, 3) := by decide +kernel
theorem dX7_feed_41 : decode cX7_feed 41 = .ok (.iconst 1, 1) := by decide +kernel
theorem dX7_feed_42 : decode cX7_feed 42 = .ok (.iadd, 1) := by decide +kernel
theorem dX7_feed_43 : decode cX7_feed 43 = .ok (.putfield 82, 3) := by decide +kernel
theorem dX7_feed_46 : decode cX7_feed 46 = .ok (.aload_n 0, 1) := by decide +kernel
theorem dX7_feed_47 : decode cX7_feed 47 = .ok (.getfield 82, 3) := by decide +kernel
theorem dX7_feed_50 : decode cX7_feed 50 = .ok (.ireturn, 1) := by decide +kernel
theorem dX7_byteAt_0 : decode cX7_byteAt 0 = .ok (.iload_n 1, 1) := by decide +kernel
theorem dX7_byteAt_1 : decode cX7_byteAt 1 = .ok (.aload_n 0, 1) := by decide +kernel
theorem dX7_byteAt_2 : decode cX7_byteAt 2 = .ok (.getfield 82, 3) := by decide +kernel
theorem dX7_byteAt_5 : decode cX7_byteAt 5 = .ok (.if_icmp .ge 12, 3) := by decide +kernel
theorem dX7_byteAt_8 : decode cX7_byteAt 8 = .ok (.aload_n 0, 1) := by decide +kernel
theorem dX7_byteAt_9 : decode cX7_byteAt 9 = .ok (.getfield 22, 3) := by decide +kernel
theorem dX7_byteAt_12 : decode cX7_byteAt 12 = .ok (.iload_n 1, 1) := by decide +kernel
theorem dX7_byteAt_13 : decode cX7_byteAt 13 = .ok (.iaload, 1) := by decide +kernel
theorem dX7_byteAt_14 : decode cX7_byteAt 14 = .ok (.goto 4, 3) := by decide +kernel
theorem dX7_byteAt_17 : decode cX7_byteAt 17 = .ok (.iconst (-1), 1) := by decide +kernel
theorem dX7_byteAt_18 : decode cX7_byteAt 18 = .ok (.ireturn, 1) := by decide +kernel
set_option maxRecDepth 20000 in
theorem ggX7_advances_X7_byteAt : GoodIn wsX7_advances wsX7_byteAt := goodIn_r _ [9, 10, 11, 15, 16, 17, 18, 19, 20, 21, 22, 23, 24, 25, 26, 27, 28, 29, 30, 31, 32, 33, 34, 35, 36, 37] (by decide +kernel) (by decide +kernel)
set_option maxRecDepth 20000 in
theorem gX7_advances_X7_byteAt : GoodIn wsX7_advances (wsV RX7 92 RX7 yX7_byteAt wsX7_byteAt) := goodIn_app (goodIn_of _ (by decide +kernel)) ggX7_advances_X7_byteAt
set_option maxRecDepth 20000 in
theorem ggX7_advances_X7_in : GoodIn wsX7_advances wsX7_in := goodIn_r _ [14] (by decide +kernel) (by decide +kernel)
set_option maxRecDepth 20000 in
theorem gX7_advances_X7_in : GoodIn wsX7_advances (va_wsS RX7 56 yX7_in wsX7_in) := goodIn_app (goodIn_of _ (by decide +kernel)) ggX7_advances_X7_in
theorem dX7_advances_0 : decode cX7_advances 0 = .ok (.aload_n 0, 1) := by decide +kernel
theorem dX7_advances_1 : decode cX7_advances 1 = .ok (.aload_n 0, 1) := by decide +kernel
theorem dX7_advances_2 : decode cX7_advances 2 = .ok (.getfield 86, 3) := by decide +kernel
theorem dX7_advances_5 : decode cX7_advances 5 = .ok (.putfield 89, 3) := by decide +kernel
theorem dX7_advances_8 : decode cX7_advances 8 = .ok (.aload_n 0, 1) := by decide +kernel
theorem dX7_advances_9 : decode cX7_advances 9 = .ok (.aload_n 0, 1) := by decide +kernel
theorem dX7_advances_10 : decode cX7_advances 10 = .ok (.getfield 86, 3) := by decide +kernel
theorem dX7_advances_13 : decode cX7_advances 13 = .ok (.invokevirtual 92, 3) := by decide +kernel
theorem dX7_advances_16 : decode cX7_advances 16 = .ok (.istore_n 1, 1) := by decide +kernel
theorem dX7_advances_17 : decode cX7_advances 17 = .ok (.aload_n 0, 1) := by decide +kernel
theorem dX7_advances_18 : decode cX7_advances 18 = .ok (.iload_n 1, 1) := by decide +kernel
theorem dX7_advances_19 : decode cX7_advances 19 = .ok (.putfield 95, 3) := by decide +kernel
theorem dX7_advances_22 : decode cX7_advances 22 = .ok (.iload_n 1, 1) := by decide +kernel
theorem dX7_advances_23 : decode cX7_advances 23 = .ok (.bipush 48, 2) := by decide +kernel
theorem dX7_advances_25 : decode cX7_advances 25 = .ok (.bipush 57, 2) := by decide +kernel
theorem dX7_advances_27 : decode cX7_advances 27 = .ok (.invokestatic 56, 3) := by decide +kernel
theorem dX7_advances_30 : decode cX7_advances 30 = .ok (.ifCond .eq 105, 3) := by decide +kernel
theorem dX7_advances_33 : decode cX7_advances 33 = .ok (.aload_n 0, 1) := by decide +kernel
theorem dX7_advances_34 : decode cX7_advances 34 = .ok (.iconst 0, 1) := by decide +kernel
theorem dX7_advances_35 : decode cX7_advances 35 = .ok (.putfield 95, 3) := by decide +kernel
theorem dX7_advances_38 : decode cX7_advances 38 = .ok (.aload_n 0, 1) := by decide +kernel
theorem dX7_advances_39 : decode cX7_advances 39 = .ok (.aload_n 0, 1) := by decide +kernel
theorem dX7_advances_40 : decode cX7_advances 40 = .ok (.getfield 86, 3) := by decide +kernel
theorem dX7_advances_43 : decode cX7_advances 43 = .ok (.invokevirtual 92, 3) := by decide +kernel
theorem dX7_advances_46 : decode cX7_advances 46 = .ok (.bipush 48, 2) := by decide +kernel
theorem dX7_advances_48 : decode cX7_advances 48 = .ok (.bipush 57, 2) := by decide +kernel
theorem dX7_advances_50 : decode cX7_advances 50 = .ok (.invokestatic 56, 3) := by decide +kernel
theorem dX7_advances_53 : decode cX7_advances 53 = .ok (.ifCond .eq 59, 3) := by decide +kernel
theorem dX7_advances_56 : decode cX7_advances 56 = .ok (.aload_n 0, 1) := by decide +kernel
theorem dX7_advances_57 : decode cX7_advances 57 = .ok (.aload_n 0, 1) := by decide +kernel
theorem dX7_advances_58 : decode cX7_advances 58 = .ok (.getfield 86, 3) := by decide +kernel
theorem dX7_advances_61 : decode cX7_advances 61 = .ok (.aload_n 0, 1) := by decide +kernel
theorem dX7_advances_62 : decode cX7_advances 62 = .ok (.getfield 89, 3) := by decide +kernel
theorem dX7_advances_65 : decode cX7_advances 65 = .ok (.isub, 1) := by decide +kernel
theorem dX7_advances_66 : decode cX7_advances 66 = .ok (.iconst 2, 1) := by decide +kernel
theorem dX7_advances_67 : decode cX7_advances 67 = .ok (.if_icmp .ge 25, 3) := by decide +kernel
theorem dX7_advances_70 : decode cX7_advances 70 = .ok (.bipush 10, 2) := by decide +kernel
theorem dX7_advances_72 : decode cX7_advances 72 = .ok (.aload_n 0, 1) := by decide +kernel
theorem dX7_advances_73 : decode cX7_advances 73 = .ok (.getfield 95, 3) := by decide +kernel
theorem dX7_advances_76 : decode cX7_advances 76 = .ok (.imul, 1) := by decide +kernel
theorem dX7_advances_77 : decode cX7_advances 77 = .ok (.aload_n 0, 1) := by decide +kernel
theorem dX7_advances_78 : decode cX7_advances 78 = .ok (.aload_n 0, 1) := by decide +kernel
theorem dX7_advances_79 : decode cX7_advances 79 = .ok (.getfield 86, 3) := by decide +kernel
theorem dX7_advances_82 : decode cX7_advances 82 = .ok (.invokevirtual 92, 3) := by decide +kernel
theorem dX7_advances_85 : decode cX7_advances 85 = .ok (.iadd, 1) := by decide +kernel
theorem dX7_advances_86 : decode cX7_advances 86 = .ok (.bipush 48, 2) := by decide +kernel
theorem dX7_advances_88 : decode cX7_advances 88 = .ok (.isub, 1) := by decide +kernel
theorem dX7_advances_89 : decode cX7_advances 89 = .ok (.goto 7, 3) := by decide +kernel
theorem dX7_advances_92 : decode cX7_advances 92 = .ok (.aload_n 0, 1) := by decide +kernel
theorem dX7_advances_93 : decode cX7_advances 93 = .ok (.getfield 95, 3) := by decide +kernel
theorem dX7_advances_96 : decode cX7_advances 96 = .ok (.putfield 95, 3) := by decide +kernel
theorem dX7_advances_99 : decode cX7_advances 99 = .ok (.aload_n 0, 1) := by decide +kernel
theorem dX7_advances_100 : decode cX7_advances 100 = .ok (.dup, 1) := by decide +kernel
theorem dX7_advances_101 : decode cX7_advances 101 = .ok (.getfield 86, 3) := by decide +kernel
theorem dX7_advances_104 : decode cX7_advances 104 = .ok (.iconst 1, 1) := by decide +kernel
theorem dX7_advances_105 : decode cX7_advances 105 = .ok (.iadd, 1) := by decide +kernel
theorem dX7_advances_106 : decode cX7_advances 106 = .ok (.putfield 86, 3) := by decide +kernel
theorem dX7_advances_109 : decode cX7_advances 109 = .ok (.goto (-71), 3) := by decide +kernel
theorem dX7_advances_112 : decode cX7_advances 112 = .ok (.aload_n 0, 1) := by decide +kernel
theorem dX7_advances_113 : decode cX7_advances 113 = .ok (.aload_n 0, 1) := by decide +kernel
theorem dX7_advances_114 : decode cX7_advances 114 = .ok (.getfield 86, 3) := by decide +kernel
theorem dX7_advances_117 : decode cX7_advances 117 = .ok (.aload_n 0, 1) := by decide +kernel
theorem dX7_advances_118 : decode cX7_advances 118 = .ok (.getfield 89, 3) := by decide +kernel
theorem dX7_advances_121 : decode cX7_advances 121 = .ok (.isub, 1) := by decide +kernel
theorem dX7_advances_122 : decode cX7_advances 122 = .ok (.iconst 3, 1) := by decide +kernel
theorem dX7_advances_123 : decode cX7_advances 123 = .ok (.if_icmp .ge 7, 3) := by decide +kernel
theorem dX7_advances_126 : decode cX7_advances 126 = .ok (.iconst 2, 1) := by decide +kernel
theorem dX7_advances_127 : decode cX7_advances 127 = .ok (.goto 4, 3) := by decide +kernel
theorem dX7_advances_130 : decode cX7_advances 130 = .ok (.iconst 5, 1) := by decide +kernel
theorem dX7_advances_131 : decode cX7_advances 131 = .ok (.putfield 98, 3) := by decide +kernel
theorem dX7_advances_134 : decode cX7_advances 134 = .ok (.return_, 1) := by decide +kernel
theorem dX7_advances_135 : decode cX7_advances 135 = .ok (.aload_n 0, 1) := by decide +kernel
theorem dX7_advances_136 : decode cX7_advances 136 = .ok (.iload_n 1, 1) := by decide +kernel
theorem dX7_advances_137 : decode cX7_advances 137 = .ok (.ifCond .ge 7, 3) := by decide +kernel
theorem dX7_advances_140 : decode cX7_advances 140 = .ok (.iconst 0, 1) := by decide +kernel
theorem dX7_advances_141 : decode cX7_advances 141 = .ok (.goto 39, 3) := by decide +kernel
theorem dX7_advances_144 : decode cX7_advances 144 = .ok (.iload_n 1, 1) := by decide +kernel
theorem dX7_advances_145 : decode cX7_advances 145 = .ok (.bipush 97, 2) := by decide +kernel
theorem dX7_advances_147 : decode cX7_advances 147 = .ok (.bipush 122, 2) := by decide +kernel
theorem dX7_advances_149 : decode cX7_advances 149 = .ok (.invokestatic 56, 3) := by decide +kernel
theorem dX7_advances_152 : decode cX7_advances 152 = .ok (.ifCond .eq 7, 3) := by decide +kernel
theorem dX7_advances_155 : decode cX7_advances 155 = .ok (.iconst 1, 1) := by decide +kernel
theorem dX7_advances_156 : decode cX7_advances 156 = .ok (.goto 24, 3) := by decide +kernel
theorem dX7_advances_159 : decode cX7_advances 159 = .ok (.iload_n 1, 1) := by decide +kernel
theorem dX7_advances_160 : decode cX7_advances 160 = .ok (.bipush 44, 2) := by decide +kernel
theorem dX7_advances_162 : decode cX7_advances 162 = .ok (.if_icmp .ne 7, 3) := by decide +kernel
theorem dX7_advances_165 : decode cX7_advances 165 = .ok (.iconst 3, 1) := by decide +kernel
theorem dX7_advances_166 : decode cX7_advances 166 = .ok (.goto 14, 3) := by decide +kernel
theorem dX7_advances_169 : decode cX7_advances 169 = .ok (.iload_n 1, 1) := by decide +kernel
theorem dX7_advances_170 : decode cX7_advances 170 = .ok (.bipush 59, 2) := by decide +kernel
theorem dX7_advances_172 : decode cX7_advances 172 = .ok (.if_icmp .ne 7, 3) := by decide +kernel
theorem dX7_advances_175 : decode cX7_advances 175 = .ok (.iconst 4, 1) := by decide +kernel
theorem dX7_advances_176 : decode cX7_advances 176 = .ok (.goto 4, 3) := by decide +kernel
theorem dX7_advances_179 : decode cX7_advances 179 = .ok (.iconst 5, 1) := by decide +kernel
theorem dX7_advances_180 : decode cX7_advances 180 = .ok (.putfield 98, 3) := by decide +kernel
theorem dX7_advances_183 : decode cX7_advances 183 = .ok (.aload_n 0, 1) := by decide +kernel
theorem dX7_advances_184 : decode cX7_advances 184 = .ok (.dup, 1) := by decide +kernel
theorem dX7_advances_185 : decode cX7_advances 185 = .ok (.getfield 86, 3) := by decide +kernel
theorem dX7_advances_188 : decode cX7_advances 188 = .ok (.aload_n 0, 1) := by decide +kernel
theorem dX7_advances_189 : decode cX7_advances 189 = .ok (.getfield 98, 3) := by decide +kernel
theorem dX7_advances_192 : decode cX7_advances 192 = .ok (.ifCond .ne 7, 3) := by decide +kernel
theorem dX7_advances_195 : decode cX7_advances 195 = .ok (.iconst 0, 1) := by decide +kernel
theorem dX7_advances_196 : decode cX7_advances 196 = .ok (.goto 4, 3) := by decide +kernel
theorem dX7_advances_199 : decode cX7_advances 199 = .ok (.iconst 1, 1) := by decide +kernel
theorem dX7_advances_200 : decode cX7_advances 200 = .ok (.iadd, 1) := by decide +kernel
theorem dX7_advances_201 : decode cX7_advances 201 = .ok (.putfield 86, 3) := by decide +kernel
theorem dX7_advances_204 : decode cX7_advances 204 = .ok (.return_, 1) := by decide +kernel
theorem dX7_isWell_0 : decode cX7_isWell 0 = .ok (.aload_n 0, 1) := by decide +kernel
theorem dX7_isWell_1 : decode cX7_isWell 1 = .ok (.getfield 101, 3) := by decide +kernel
theorem dX7_isWell_4 : decode cX7_isWell 4 = .ok (.ifCond .ge 7, 3) := by decide +kernel
theorem dX7_isWell_7 : decode cX7_isWell 7 = .ok (.iconst 1, 1) := by decide +kernel
theorem dX7_isWell_8 : decode cX7_isWell 8 = .ok (.goto 4, 3) := by decide +kernel
theorem dX7_isWell_11 : decode cX7_isWell 11 = .ok (.iconst 0, 1) := by decide +kernel
theorem dX7_isWell_12 : decode cX7_isWell 12 = .ok (.ireturn, 1) := by decide +kernel
set_option maxRecDepth 20000 in
theorem ggX7_takes_X7_isWell : GoodIn wsX7_takes wsX7_isWell := goodIn_r _ [9, 2, 25, 26, 27, 28, 29, 30, 31, 32, 33, 34, 35, 36, 37, 38, 39, 40, 41, 42, 43, 44, 45, 46, 47] (by decide +kernel) (by decide +kernel)
set_option maxRecDepth 20000 in
theorem gX7_takes_X7_isWell : GoodIn wsX7_takes (wsV RX7 104 RX7 yX7_isWell wsX7_isWell) := goodIn_app (goodIn_of _ (by decide +kernel)) ggX7_takes_X7_isWell
set_option maxRecDepth 20000 in
theorem ggX7_takes_X7_advances : GoodIn wsX7_takes wsX7_advances := goodIn_r _ [13, 14, 1, 4, 15, 16, 17, 18, 8, 19, 20, 21, 22, 23, 24, 25, 26, 27, 28, 29, 30, 31, 32, 33, 34, 35, 36, 37, 38, 39, 40, 41, 42, 43, 44, 45, 46, 47] (by decide +kernel) (by decide +kernel)
set_option maxRecDepth 20000 in
theorem gX7_takes_X7_advances : GoodIn wsX7_takes (wsV RX7 111 RX7 yX7_advances wsX7_advances) := goodIn_app (goodIn_of _ (by decide +kernel)) ggX7_takes_X7_advances
theorem dX7_takes_0 : decode cX7_takes 0 = .ok (.aload_n 0, 1) := by decide +kernel
theorem dX7_takes_1 : decode cX7_takes 1 = .ok (.invokevirtual 104, 3) := by decide +kernel
theorem dX7_takes_4 : decode cX7_takes 4 = .ok (.ifCond .ne 5, 3) := by decide +kernel
theorem dX7_takes_7 : decode cX7_takes 7 = .ok (.iconst 0, 1) := by decide +kernel
theorem dX7_takes_8 : decode cX7_takes 8 = .ok (.ireturn, 1) := by decide +kernel
theorem dX7_takes_9 : decode cX7_takes 9 = .ok (.iload_n 1, 1) := by decide +kernel
theorem dX7_takes_10 : decode cX7_takes 10 = .ok (.ifCond .ne 18, 3) := by decide +kernel
theorem dX7_takes_13 : decode cX7_takes 13 = .ok (.aload_n 0, 1) := by decide +kernel
theorem dX7_takes_14 : decode cX7_takes 14 = .ok (.aload_n 0, 1) := by decide +kernel
theorem dX7_takes_15 : decode cX7_takes 15 = .ok (.getfield 89, 3) := by decide +kernel
theorem dX7_takes_18 : decode cX7_takes 18 = .ok (.putfield 101, 3) := by decide +kernel
theorem dX7_takes_21 : decode cX7_takes 21 = .ok (.aload_n 0, 1) := by decide +kernel
theorem dX7_takes_22 : decode cX7_takes 22 = .ok (.iload_n 2, 1) := by decide +kernel
theorem dX7_takes_23 : decode cX7_takes 23 = .ok (.putfield 108, 3) := by decide +kernel
theorem dX7_takes_26 : decode cX7_takes 26 = .ok (.iconst 0, 1) := by decide +kernel
theorem dX7_takes_27 : decode cX7_takes 27 = .ok (.ireturn, 1) := by decide +kernel
theorem dX7_takes_28 : decode cX7_takes 28 = .ok (.aload_n 0, 1) := by decide +kernel
theorem dX7_takes_29 : decode cX7_takes 29 = .ok (.getfield 95, 3) := by decide +kernel
theorem dX7_takes_32 : decode cX7_takes 32 = .ok (.istore_n 3, 1) := by decide +kernel
theorem dX7_takes_33 : decode cX7_takes 33 = .ok (.aload_n 0, 1) := by decide +kernel
theorem dX7_takes_34 : decode cX7_takes 34 = .ok (.invokevirtual 111, 3) := by decide +kernel
theorem dX7_takes_37 : decode cX7_takes 37 = .ok (.iload_n 3, 1) := by decide +kernel
theorem dX7_takes_38 : decode cX7_takes 38 = .ok (.ireturn, 1) := by decide +kernel
set_option maxRecDepth 20000 in
theorem ggX7_figure_X7_isWell : GoodIn wsX7_figure wsX7_isWell := goodIn_r _ [7, 8, 29, 30, 31, 32, 33, 34, 35, 36, 37, 38, 39, 40, 41, 42, 43, 44, 45, 46, 47, 48, 49, 50, 51] (by decide +kernel) (by decide +kernel)
set_option maxRecDepth 20000 in
theorem gX7_figure_X7_isWell : GoodIn wsX7_figure (wsV RX7 104 RX7 yX7_isWell wsX7_isWell) := goodIn_app (goodIn_of _ (by decide +kernel)) ggX7_figure_X7_isWell
set_option maxRecDepth 20000 in
theorem ggX7_figure_X7_takes : GoodIn wsX7_figure wsX7_takes := goodIn_r _ [12, 13, 8, 14, 2, 3, 4, 5, 6, 7, 15, 16, 17, 18, 19, 1, 20, 21, 22, 23, 24, 25, 26, 27, 28, 29, 30, 31, 32, 33, 34, 35, 36, 37, 38, 39, 40, 41, 42, 43, 44, 45, 46, 47, 48, 49, 50, 51] (by decide +kernel) (by decide +kernel)
set_option maxRecDepth 20000 in
theorem gX7_figure_X7_takes : GoodIn wsX7_figure (wsV RX7 114 RX7 yX7_takes wsX7_takes) := goodIn_app (goodIn_of _ (by decide +kernel)) ggX7_figure_X7_takes
set_option maxRecDepth 20000 in
theorem ggX7_figure_X7_in : GoodIn wsX7_figure wsX7_in := goodIn_r _ [28] (by decide +kernel) (by decide +kernel)
set_option maxRecDepth 20000 in
theorem gX7_figure_X7_in : GoodIn wsX7_figure (va_wsS RX7 56 yX7_in wsX7_in) := goodIn_app (goodIn_of _ (by decide +kernel)) ggX7_figure_X7_in
theorem dX7_figure_0 : decode cX7_figure 0 = .ok (.aload_n 0, 1) := by decide +kernel
theorem dX7_figure_1 : decode cX7_figure 1 = .ok (.invokevirtual 104, 3) := by decide +kernel
theorem dX7_figure_4 : decode cX7_figure 4 = .ok (.ifCond .eq 18, 3) := by decide +kernel
theorem dX7_figure_7 : decode cX7_figure 7 = .ok (.aload_n 0, 1) := by decide +kernel
theorem dX7_figure_8 : decode cX7_figure 8 = .ok (.getfield 98, 3) := by decide +kernel
theorem dX7_figure_11 : decode cX7_figure 11 = .ok (.iconst 2, 1) := by decide +kernel
theorem dX7_figure_12 : decode cX7_figure 12 = .ok (.if_icmp .eq 10, 3) := by decide +kernel
theorem dX7_figure_15 : decode cX7_figure 15 = .ok (.aload_n 0, 1) := by decide +kernel
theorem dX7_figure_16 : decode cX7_figure 16 = .ok (.iconst 0, 1) := by decide +kernel
theorem dX7_figure_17 : decode cX7_figure 17 = .ok (.iconst 1, 1) := by decide +kernel
theorem dX7_figure_18 : decode cX7_figure 18 = .ok (.invokevirtual 114, 3) := by decide +kernel
theorem dX7_figure_21 : decode cX7_figure 21 = .ok (.ireturn, 1) := by decide +kernel
theorem dX7_figure_22 : decode cX7_figure 22 = .ok (.aload_n 0, 1) := by decide +kernel
theorem dX7_figure_23 : decode cX7_figure 23 = .ok (.aload_n 0, 1) := by decide +kernel
theorem dX7_figure_24 : decode cX7_figure 24 = .ok (.getfield 95, 3) := by decide +kernel
theorem dX7_figure_27 : decode cX7_figure 27 = .ok (.iload_n 1, 1) := by decide +kernel
theorem dX7_figure_28 : decode cX7_figure 28 = .ok (.iload_n 2, 1) := by decide +kernel
theorem dX7_figure_29 : decode cX7_figure 29 = .ok (.invokestatic 56, 3) := by decide +kernel
theorem dX7_figure_32 : decode cX7_figure 32 = .ok (.iconst 2, 1) := by decide +kernel
theorem dX7_figure_33 : decode cX7_figure 33 = .ok (.invokevirtual 114, 3) := by decide +kernel
theorem dX7_figure_36 : decode cX7_figure 36 = .ok (.ireturn, 1) := by decide +kernel
theorem dX7_kindOf_0 : decode cX7_kindOf 0 = .ok (.iload_n 0, 1) := by decide +kernel
theorem dX7_kindOf_1 : decode cX7_kindOf 1 = .ok (.bipush 116, 2) := by decide +kernel
theorem dX7_kindOf_3 : decode cX7_kindOf 3 = .ok (.if_icmp .ne 7, 3) := by decide +kernel
theorem dX7_kindOf_6 : decode cX7_kindOf 6 = .ok (.iconst 1, 1) := by decide +kernel
theorem dX7_kindOf_7 : decode cX7_kindOf 7 = .ok (.goto 44, 3) := by decide +kernel
theorem dX7_kindOf_10 : decode cX7_kindOf 10 = .ok (.iload_n 0, 1) := by decide +kernel
theorem dX7_kindOf_11 : decode cX7_kindOf 11 = .ok (.bipush 103, 2) := by decide +kernel
theorem dX7_kindOf_13 : decode cX7_kindOf 13 = .ok (.if_icmp .ne 7, 3) := by decide +kernel
theorem dX7_kindOf_16 : decode cX7_kindOf 16 = .ok (.iconst 2, 1) := by decide +kernel
theorem dX7_kindOf_17 : decode cX7_kindOf 17 = .ok (.goto 34, 3) := by decide +kernel
theorem dX7_kindOf_20 : decode cX7_kindOf 20 = .ok (.iload_n 0, 1) := by decide +kernel
theorem dX7_kindOf_21 : decode cX7_kindOf 21 = .ok (.bipush 118, 2) := by decide +kernel
theorem dX7_kindOf_23 : decode cX7_kindOf 23 = .ok (.if_icmp .ne 7, 3) := by decide +kernel
theorem dX7_kindOf_26 : decode cX7_kindOf 26 = .ok (.iconst 3, 1) := by decide +kernel
theorem dX7_kindOf_27 : decode cX7_kindOf 27 = .ok (.goto 24, 3) := by decide +kernel
theorem dX7_kindOf_30 : decode cX7_kindOf 30 = .ok (.iload_n 0, 1) := by decide +kernel
theorem dX7_kindOf_31 : decode cX7_kindOf 31 = .ok (.bipush 115, 2) := by decide +kernel
theorem dX7_kindOf_33 : decode cX7_kindOf 33 = .ok (.if_icmp .ne 7, 3) := by decide +kernel
theorem dX7_kindOf_36 : decode cX7_kindOf 36 = .ok (.iconst 4, 1) := by decide +kernel
theorem dX7_kindOf_37 : decode cX7_kindOf 37 = .ok (.goto 14, 3) := by decide +kernel
theorem dX7_kindOf_40 : decode cX7_kindOf 40 = .ok (.iload_n 0, 1) := by decide +kernel
theorem dX7_kindOf_41 : decode cX7_kindOf 41 = .ok (.bipush 97, 2) := by decide +kernel
theorem dX7_kindOf_43 : decode cX7_kindOf 43 = .ok (.if_icmp .ne 7, 3) := by decide +kernel
theorem dX7_kindOf_46 : decode cX7_kindOf 46 = .ok (.iconst 5, 1) := by decide +kernel
theorem dX7_kindOf_47 : decode cX7_kindOf 47 = .ok (.goto 4, 3) := by decide +kernel
theorem dX7_kindOf_50 : decode cX7_kindOf 50 = .ok (.iconst 0, 1) := by decide +kernel
theorem dX7_kindOf_51 : decode cX7_kindOf 51 = .ok (.ireturn, 1) := by decide +kernel
set_option maxRecDepth 20000 in
theorem ggX7_next_X7_takes : GoodIn wsX7_next wsX7_takes := goodIn_r _ [6, 7, 8, 9, 10, 11, 12, 13, 5, 14, 15, 16, 17, 18, 19, 1, 20, 21, 22, 23, 24, 25, 26, 27, 28, 33, 34, 35, 36, 37, 38, 39, 40, 41, 42, 43, 44, 45, 46, 47, 48, 49, 50, 51, 52, 53, 54, 55] (by decide +kernel) (by decide +kernel)
set_option maxRecDepth 20000 in
theorem gX7_next_X7_takes : GoodIn wsX7_next (wsV RX7 114 RX7 yX7_takes wsX7_takes) := goodIn_app (goodIn_of _ (by decide +kernel)) ggX7_next_X7_takes
set_option maxRecDepth 20000 in
theorem ggX7_next_X7_figure : GoodIn wsX7_next wsX7_figure := goodIn_r _ [32, 1, 10, 11, 12, 13, 5, 14, 8, 2, 3, 4, 6, 7, 9, 15, 16, 17, 18, 19, 20, 21, 22, 23, 24, 25, 26, 27, 28, 33, 34, 35, 36, 37, 38, 39, 40, 41, 42, 43, 44, 45, 46, 47, 48, 49, 50, 51, 52, 53, 54, 55] (by decide +kernel) (by decide +kernel)
set_option maxRecDepth 20000 in
theorem gX7_next_X7_figure : GoodIn wsX7_next (wsV RX7 118 RX7 yX7_figure wsX7_figure) := goodIn_app (goodIn_of _ (by decide +kernel)) ggX7_next_X7_figure
theorem dX7_next_0 : decode cX7_next 0 = .ok (.aload_n 0, 1) := by decide +kernel
theorem dX7_next_1 : decode cX7_next 1 = .ok (.aload_n 0, 1) := by decide +kernel
theorem dX7_next_2 : decode cX7_next 2 = .ok (.getfield 98, 3) := by decide +kernel
theorem dX7_next_5 : decode cX7_next 5 = .ok (.iconst 3, 1) := by decide +kernel
theorem dX7_next_6 : decode cX7_next 6 = .ok (.if_icmp .ne 7, 3) := by decide +kernel
theorem dX7_next_9 : decode cX7_next 9 = .ok (.iconst 1, 1) := by decide +kernel
theorem dX7_next_10 : decode cX7_next 10 = .ok (.goto 4, 3) := by decide +kernel
theorem dX7_next_13 : decode cX7_next 13 = .ok (.iconst 0, 1) := by decide +kernel
theorem dX7_next_14 : decode cX7_next 14 = .ok (.iconst 1, 1) := by decide +kernel
theorem dX7_next_15 : decode cX7_next 15 = .ok (.invokevirtual 114, 3) := by decide +kernel
theorem dX7_next_18 : decode cX7_next 18 = .ok (.pop, 1) := by decide +kernel
theorem dX7_next_19 : decode cX7_next 19 = .ok (.aload_n 0, 1) := by decide +kernel
theorem dX7_next_20 : decode cX7_next 20 = .ok (.iload_n 1, 1) := by decide +kernel
theorem dX7_next_21 : decode cX7_next 21 = .ok (.iload_n 2, 1) := by decide +kernel
theorem dX7_next_22 : decode cX7_next 22 = .ok (.invokevirtual 118, 3) := by decide +kernel
theorem dX7_next_25 : decode cX7_next 25 = .ok (.ireturn, 1) := by decide +kernel
set_option maxRecDepth 20000 in
theorem ggX7_readsClue_X7_kindOf : GoodIn wsX7_readsClue wsX7_kindOf := goodIn_r _ [7] (by decide +kernel) (by decide +kernel)
set_option maxRecDepth 20000 in
theorem gX7_readsClue_X7_kindOf : GoodIn wsX7_readsClue (va_wsS RX7 121 yX7_kindOf wsX7_kindOf) := goodIn_app (goodIn_of _ (by decide +kernel)) ggX7_readsClue_X7_kindOf
set_option maxRecDepth 20000 in
theorem ggX7_readsClue_X7_takes : GoodIn wsX7_readsClue wsX7_takes := goodIn_r _ [11, 12, 13, 14, 1, 15, 16, 17, 6, 18, 19, 20, 21, 22, 23, 3, 24, 25, 26, 27, 28, 29, 30, 31, 32, 41, 42, 43, 44, 45, 46, 47, 48, 49, 50, 51, 52, 53, 54, 55, 56, 57, 58, 59, 60, 61, 62, 63] (by decide +kernel) (by decide +kernel)
set_option maxRecDepth 20000 in
theorem gX7_readsClue_X7_takes : GoodIn wsX7_readsClue (wsV RX7 114 RX7 yX7_takes wsX7_takes) := goodIn_app (goodIn_of _ (by decide +kernel)) ggX7_readsClue_X7_takes
set_option maxRecDepth 20000 in
theorem ggX7_readsClue_X7_figure : GoodIn wsX7_readsClue wsX7_figure := goodIn_r _ [36, 3, 1, 15, 16, 17, 6, 18, 13, 8, 9, 10, 11, 12, 14, 19, 20, 21, 22, 23, 24, 25, 26, 27, 28, 29, 30, 31, 32, 41, 42, 43, 44, 45, 46, 47, 48, 49, 50, 51, 52, 53, 54, 55, 56, 57, 58, 59, 60, 61, 62, 63] (by decide +kernel) (by decide +kernel)
set_option maxRecDepth 20000 in
theorem gX7_readsClue_X7_figure : GoodIn wsX7_readsClue (wsV RX7 118 RX7 yX7_figure wsX7_figure) := goodIn_app (goodIn_of _ (by decide +kernel)) ggX7_readsClue_X7_figure
set_option maxRecDepth 20000 in
theorem ggX7_readsClue_X7_next : GoodIn wsX7_readsClue wsX7_next := goodIn_r _ [40, 3, 8, 9, 10, 6, 11, 12, 13, 14, 1, 15, 16, 17, 18, 19, 20, 21, 22, 23, 24, 25, 26, 27, 28, 29, 30, 31, 32, 33, 34, 35, 36, 41, 42, 43, 44, 45, 46, 47, 48, 49, 50, 51, 52, 53, 54, 55, 56, 57, 58, 59, 60, 61, 62, 63] (by decide +kernel) (by decide +kernel)
set_option maxRecDepth 20000 in
theorem gX7_readsClue_X7_next : GoodIn wsX7_readsClue (wsV RX7 124 RX7 yX7_next wsX7_next) := goodIn_app (goodIn_of _ (by decide +kernel)) ggX7_readsClue_X7_next
set_option maxRecDepth 20000 in
theorem ggX7_readsClue_X7_isWell : GoodIn wsX7_readsClue wsX7_isWell := goodIn_r _ [18, 13, 41, 42, 43, 44, 45, 46, 47, 48, 49, 50, 51, 52, 53, 54, 55, 56, 57, 58, 59, 60, 61, 62, 63] (by decide +kernel) (by decide +kernel)
set_option maxRecDepth 20000 in
theorem gX7_readsClue_X7_isWell : GoodIn wsX7_readsClue (wsV RX7 104 RX7 yX7_isWell wsX7_isWell) := goodIn_app (goodIn_of _ (by decide +kernel)) ggX7_readsClue_X7_isWell
theorem dX7_readsClue_0 : decode cX7_readsClue 0 = .ok (.aload_n 0, 1) := by decide +kernel
theorem dX7_readsClue_1 : decode cX7_readsClue 1 = .ok (.getfield 95, 3) := by decide +kernel
theorem dX7_readsClue_4 : decode cX7_readsClue 4 = .ok (.invokestatic 121, 3) := by decide +kernel
theorem dX7_readsClue_7 : decode cX7_readsClue 7 = .ok (.istore_n 1, 1) := by decide +kernel
theorem dX7_readsClue_8 : decode cX7_readsClue 8 = .ok (.aload_n 0, 1) := by decide +kernel
theorem dX7_readsClue_9 : decode cX7_readsClue 9 = .ok (.aload_n 0, 1) := by decide +kernel
theorem dX7_readsClue_10 : decode cX7_readsClue 10 = .ok (.getfield 28, 3) := by decide +kernel
theorem dX7_readsClue_13 : decode cX7_readsClue 13 = .ok (.iconst 4, 1) := by decide +kernel
theorem dX7_readsClue_14 : decode cX7_readsClue 14 = .ok (.iaload, 1) := by decide +kernel
theorem dX7_readsClue_15 : decode cX7_readsClue 15 = .ok (.bipush 6, 2) := by decide +kernel
theorem dX7_readsClue_17 : decode cX7_readsClue 17 = .ok (.if_icmp .ge 7, 3) := by decide +kernel
theorem dX7_readsClue_20 : decode cX7_readsClue 20 = .ok (.iconst 1, 1) := by decide +kernel
theorem dX7_readsClue_21 : decode cX7_readsClue 21 = .ok (.goto 4, 3) := by decide +kernel
theorem dX7_readsClue_24 : decode cX7_readsClue 24 = .ok (.iconst 0, 1) := by decide +kernel
theorem dX7_readsClue_25 : decode cX7_readsClue 25 = .ok (.iconst 3, 1) := by decide +kernel
theorem dX7_readsClue_26 : decode cX7_readsClue 26 = .ok (.invokevirtual 114, 3) := by decide +kernel
theorem dX7_readsClue_29 : decode cX7_readsClue 29 = .ok (.pop, 1) := by decide +kernel
theorem dX7_readsClue_30 : decode cX7_readsClue 30 = .ok (.iconst 5, 1) := by decide +kernel
theorem dX7_readsClue_31 : decode cX7_readsClue 31 = .ok (.iconst 4, 1) := by decide +kernel
theorem dX7_readsClue_32 : decode cX7_readsClue 32 = .ok (.aload_n 0, 1) := by decide +kernel
theorem dX7_readsClue_33 : decode cX7_readsClue 33 = .ok (.getfield 28, 3) := by decide +kernel
theorem dX7_readsClue_36 : decode cX7_readsClue 36 = .ok (.iconst 4, 1) := by decide +kernel
theorem dX7_readsClue_37 : decode cX7_readsClue 37 = .ok (.iaload, 1) := by decide +kernel
theorem dX7_readsClue_38 : decode cX7_readsClue 38 = .ok (.bipush 6, 2) := by decide +kernel
theorem dX7_readsClue_40 : decode cX7_readsClue 40 = .ok (.if_icmp .ge 12, 3) := by decide +kernel
theorem dX7_readsClue_43 : decode cX7_readsClue 43 = .ok (.aload_n 0, 1) := by decide +kernel
theorem dX7_readsClue_44 : decode cX7_readsClue 44 = .ok (.getfield 28, 3) := by decide +kernel
theorem dX7_readsClue_47 : decode cX7_readsClue 47 = .ok (.iconst 4, 1) := by decide +kernel
theorem dX7_readsClue_48 : decode cX7_readsClue 48 = .ok (.iaload, 1) := by decide +kernel
theorem dX7_readsClue_49 : decode cX7_readsClue 49 = .ok (.goto 4, 3) := by decide +kernel
theorem dX7_readsClue_52 : decode cX7_readsClue 52 = .ok (.iconst 0, 1) := by decide +kernel
theorem dX7_readsClue_53 : decode cX7_readsClue 53 = .ok (.imul, 1) := by decide +kernel
theorem dX7_readsClue_54 : decode cX7_readsClue 54 = .ok (.iadd, 1) := by decide +kernel
theorem dX7_readsClue_55 : decode cX7_readsClue 55 = .ok (.istore_n 2, 1) := by decide +kernel
theorem dX7_readsClue_56 : decode cX7_readsClue 56 = .ok (.aload_n 0, 1) := by decide +kernel
theorem dX7_readsClue_57 : decode cX7_readsClue 57 = .ok (.iconst 1, 1) := by decide +kernel
theorem dX7_readsClue_58 : decode cX7_readsClue 58 = .ok (.iconst 1, 1) := by decide +kernel
theorem dX7_readsClue_59 : decode cX7_readsClue 59 = .ok (.aload_n 0, 1) := by decide +kernel
theorem dX7_readsClue_60 : decode cX7_readsClue 60 = .ok (.getfield 28, 3) := by decide +kernel
theorem dX7_readsClue_63 : decode cX7_readsClue 63 = .ok (.iconst 0, 1) := by decide +kernel
theorem dX7_readsClue_64 : decode cX7_readsClue 64 = .ok (.iaload, 1) := by decide +kernel
theorem dX7_readsClue_65 : decode cX7_readsClue 65 = .ok (.ishl, 1) := by decide +kernel
theorem dX7_readsClue_66 : decode cX7_readsClue 66 = .ok (.iconst 1, 1) := by decide +kernel
theorem dX7_readsClue_67 : decode cX7_readsClue 67 = .ok (.isub, 1) := by decide +kernel
theorem dX7_readsClue_68 : decode cX7_readsClue 68 = .ok (.invokevirtual 118, 3) := by decide +kernel
theorem dX7_readsClue_71 : decode cX7_readsClue 71 = .ok (.istore_n 3, 1) := by decide +kernel
theorem dX7_readsClue_72 : decode cX7_readsClue 72 = .ok (.aload_n 0, 1) := by decide +kernel
theorem dX7_readsClue_73 : decode cX7_readsClue 73 = .ok (.iconst 2, 1) := by decide +kernel
theorem dX7_readsClue_74 : decode cX7_readsClue 74 = .ok (.iconst 4, 1) := by decide +kernel
theorem dX7_readsClue_75 : decode cX7_readsClue 75 = .ok (.invokevirtual 124, 3) := by decide +kernel
theorem dX7_readsClue_78 : decode cX7_readsClue 78 = .ok (.istore 4, 2) := by decide +kernel
theorem dX7_readsClue_80 : decode cX7_readsClue 80 = .ok (.aload_n 0, 1) := by decide +kernel
theorem dX7_readsClue_81 : decode cX7_readsClue 81 = .ok (.iconst 0, 1) := by decide +kernel
theorem dX7_readsClue_82 : decode cX7_readsClue 82 = .ok (.iload 4, 2) := by decide +kernel
theorem dX7_readsClue_84 : decode cX7_readsClue 84 = .ok (.iconst 1, 1) := by decide +kernel
theorem dX7_readsClue_85 : decode cX7_readsClue 85 = .ok (.isub, 1) := by decide +kernel
theorem dX7_readsClue_86 : decode cX7_readsClue 86 = .ok (.invokevirtual 124, 3) := by decide +kernel
theorem dX7_readsClue_89 : decode cX7_readsClue 89 = .ok (.istore 5, 2) := by decide +kernel
theorem dX7_readsClue_91 : decode cX7_readsClue 91 = .ok (.aload_n 0, 1) := by decide +kernel
theorem dX7_readsClue_92 : decode cX7_readsClue 92 = .ok (.aload_n 0, 1) := by decide +kernel
theorem dX7_readsClue_93 : decode cX7_readsClue 93 = .ok (.getfield 98, 3) := by decide +kernel
theorem dX7_readsClue_96 : decode cX7_readsClue 96 = .ok (.iconst 4, 1) := by decide +kernel
theorem dX7_readsClue_97 : decode cX7_readsClue 97 = .ok (.if_icmp .ne 7, 3) := by decide +kernel
theorem dX7_readsClue_100 : decode cX7_readsClue 100 = .ok (.iconst 1, 1) := by decide +kernel
theorem dX7_readsClue_101 : decode cX7_readsClue 101 = .ok (.goto 4, 3) := by decide +kernel
theorem dX7_readsClue_104 : decode cX7_readsClue 104 = .ok (.iconst 0, 1) := by decide +kernel
theorem dX7_readsClue_105 : decode cX7_readsClue 105 = .ok (.iconst 1, 1) := by decide +kernel
theorem dX7_readsClue_106 : decode cX7_readsClue 106 = .ok (.invokevirtual 114, 3) := by decide +kernel
theorem dX7_readsClue_109 : decode cX7_readsClue 109 = .ok (.pop, 1) := by decide +kernel
theorem dX7_readsClue_110 : decode cX7_readsClue 110 = .ok (.aload_n 0, 1) := by decide +kernel
theorem dX7_readsClue_111 : decode cX7_readsClue 111 = .ok (.invokevirtual 104, 3) := by decide +kernel
theorem dX7_readsClue_114 : decode cX7_readsClue 114 = .ok (.ifCond .eq 49, 3) := by decide +kernel
theorem dX7_readsClue_117 : decode cX7_readsClue 117 = .ok (.aload_n 0, 1) := by decide +kernel
theorem dX7_readsClue_118 : decode cX7_readsClue 118 = .ok (.getfield 28, 3) := by decide +kernel
theorem dX7_readsClue_121 : decode cX7_readsClue 121 = .ok (.iload_n 2, 1) := by decide +kernel
theorem dX7_readsClue_122 : decode cX7_readsClue 122 = .ok (.iload_n 1, 1) := by decide +kernel
theorem dX7_readsClue_123 : decode cX7_readsClue 123 = .ok (.iastore, 1) := by decide +kernel
theorem dX7_readsClue_124 : decode cX7_readsClue 124 = .ok (.aload_n 0, 1) := by decide +kernel
theorem dX7_readsClue_125 : decode cX7_readsClue 125 = .ok (.getfield 28, 3) := by decide +kernel
theorem dX7_readsClue_128 : decode cX7_readsClue 128 = .ok (.iload_n 2, 1) := by decide +kernel
theorem dX7_readsClue_129 : decode cX7_readsClue 129 = .ok (.iconst 1, 1) := by decide +kernel
theorem dX7_readsClue_130 : decode cX7_readsClue 130 = .ok (.iadd, 1) := by decide +kernel
theorem dX7_readsClue_131 : decode cX7_readsClue 131 = .ok (.iload_n 3, 1) := by decide +kernel
theorem dX7_readsClue_132 : decode cX7_readsClue 132 = .ok (.iastore, 1) := by decide +kernel
theorem dX7_readsClue_133 : decode cX7_readsClue 133 = .ok (.aload_n 0, 1) := by decide +kernel
theorem dX7_readsClue_134 : decode cX7_readsClue 134 = .ok (.getfield 28, 3) := by decide +kernel
theorem dX7_readsClue_137 : decode cX7_readsClue 137 = .ok (.iload_n 2, 1) := by decide +kernel
theorem dX7_readsClue_138 : decode cX7_readsClue 138 = .ok (.iconst 2, 1) := by decide +kernel
theorem dX7_readsClue_139 : decode cX7_readsClue 139 = .ok (.iadd, 1) := by decide +kernel
theorem dX7_readsClue_140 : decode cX7_readsClue 140 = .ok (.iload 4, 2) := by decide +kernel
theorem dX7_readsClue_142 : decode cX7_readsClue 142 = .ok (.iastore, 1) := by decide +kernel
theorem dX7_readsClue_143 : decode cX7_readsClue 143 = .ok (.aload_n 0, 1) := by decide +kernel
theorem dX7_readsClue_144 : decode cX7_readsClue 144 = .ok (.getfield 28, 3) := by decide +kernel
theorem dX7_readsClue_147 : decode cX7_readsClue 147 = .ok (.iload_n 2, 1) := by decide +kernel
theorem dX7_readsClue_148 : decode cX7_readsClue 148 = .ok (.iconst 3, 1) := by decide +kernel
theorem dX7_readsClue_149 : decode cX7_readsClue 149 = .ok (.iadd, 1) := by decide +kernel
theorem dX7_readsClue_150 : decode cX7_readsClue 150 = .ok (.iload 5, 2) := by decide +kernel
theorem dX7_readsClue_152 : decode cX7_readsClue 152 = .ok (.iastore, 1) := by decide +kernel
theorem dX7_readsClue_153 : decode cX7_readsClue 153 = .ok (.aload_n 0, 1) := by decide +kernel
theorem dX7_readsClue_154 : decode cX7_readsClue 154 = .ok (.getfield 28, 3) := by decide +kernel
theorem dX7_readsClue_157 : decode cX7_readsClue 157 = .ok (.iconst 4, 1) := by decide +kernel
theorem dX7_readsClue_158 : decode cX7_readsClue 158 = .ok (.dup2, 1) := by decide +kernel
theorem dX7_readsClue_159 : decode cX7_readsClue 159 = .ok (.iaload, 1) := by decide +kernel
theorem dX7_readsClue_160 : decode cX7_readsClue 160 = .ok (.iconst 1, 1) := by decide +kernel
theorem dX7_readsClue_161 : decode cX7_readsClue 161 = .ok (.iadd, 1) := by decide +kernel
theorem dX7_readsClue_162 : decode cX7_readsClue 162 = .ok (.iastore, 1) := by decide +kernel
theorem dX7_readsClue_163 : decode cX7_readsClue 163 = .ok (.return_, 1) := by decide +kernel
set_option maxRecDepth 20000 in
theorem ggX7_city_X7_advances : GoodIn wsX7_city wsX7_advances := goodIn_r _ [14, 2, 15, 5, 4, 16, 17, 18, 13, 19, 6, 20, 21, 22, 23, 51, 52, 53, 54, 55, 56, 57, 58, 59, 60, 61, 62, 63, 64, 65, 66, 67, 68, 69, 70, 71, 72, 73] (by decide +kernel) (by decide +kernel)
set_option maxRecDepth 20000 in
theorem gX7_city_X7_advances : GoodIn wsX7_city (wsV RX7 111 RX7 yX7_advances wsX7_advances) := goodIn_app (goodIn_of _ (by decide +kernel)) ggX7_city_X7_advances
set_option maxRecDepth 20000 in
theorem ggX7_city_X7_takes : GoodIn wsX7_city wsX7_takes := goodIn_r _ [27, 15, 3, 28, 5, 29, 30, 31, 13, 32, 10, 11, 12, 14, 2, 4, 16, 17, 18, 19, 6, 20, 21, 22, 23, 51, 52, 53, 54, 55, 56, 57, 58, 59, 60, 61, 62, 63, 64, 65, 66, 67, 68, 69, 70, 71, 72, 73] (by decide +kernel) (by decide +kernel)
set_option maxRecDepth 20000 in
theorem gX7_city_X7_takes : GoodIn wsX7_city (wsV RX7 114 RX7 yX7_takes wsX7_takes) := goodIn_app (goodIn_of _ (by decide +kernel)) ggX7_city_X7_takes
set_option maxRecDepth 20000 in
theorem ggX7_city_X7_figure : GoodIn wsX7_city wsX7_figure := goodIn_r _ [36, 4, 5, 29, 30, 31, 13, 32, 3, 24, 25, 26, 27, 15, 28, 10, 11, 12, 14, 2, 16, 17, 18, 19, 6, 20, 21, 22, 23, 51, 52, 53, 54, 55, 56, 57, 58, 59, 60, 61, 62, 63, 64, 65, 66, 67, 68, 69, 70, 71, 72, 73] (by decide +kernel) (by decide +kernel)
set_option maxRecDepth 20000 in
theorem gX7_city_X7_figure : GoodIn wsX7_city (wsV RX7 118 RX7 yX7_figure wsX7_figure) := goodIn_app (goodIn_of _ (by decide +kernel)) ggX7_city_X7_figure
set_option maxRecDepth 20000 in
theorem ggX7_city_X7_next : GoodIn wsX7_city wsX7_next := goodIn_r _ [40, 4, 24, 25, 26, 13, 27, 15, 3, 28, 5, 29, 30, 31, 32, 10, 11, 12, 14, 2, 16, 17, 18, 19, 6, 20, 21, 22, 23, 33, 34, 35, 36, 51, 52, 53, 54, 55, 56, 57, 58, 59, 60, 61, 62, 63, 64, 65, 66, 67, 68, 69, 70, 71, 72, 73] (by decide +kernel) (by decide +kernel)
set_option maxRecDepth 20000 in
theorem gX7_city_X7_next : GoodIn wsX7_city (wsV RX7 124 RX7 yX7_next wsX7_next) := goodIn_app (goodIn_of _ (by decide +kernel)) ggX7_city_X7_next
set_option maxRecDepth 20000 in
theorem ggX7_city_X7_isWell : GoodIn wsX7_city wsX7_isWell := goodIn_r _ [32, 3, 51, 52, 53, 54, 55, 56, 57, 58, 59, 60, 61, 62, 63, 64, 65, 66, 67, 68, 69, 70, 71, 72, 73] (by decide +kernel) (by decide +kernel)
set_option maxRecDepth 20000 in
theorem gX7_city_X7_isWell : GoodIn wsX7_city (wsV RX7 104 RX7 yX7_isWell wsX7_isWell) := goodIn_app (goodIn_of _ (by decide +kernel)) ggX7_city_X7_isWell
set_option maxRecDepth 20000 in
theorem ggX7_city_X7_kindOf : GoodIn wsX7_city wsX7_kindOf := goodIn_r _ [43] (by decide +kernel) (by decide +kernel)
set_option maxRecDepth 20000 in
theorem gX7_city_X7_kindOf : GoodIn wsX7_city (va_wsS RX7 121 yX7_kindOf wsX7_kindOf) := goodIn_app (goodIn_of _ (by decide +kernel)) ggX7_city_X7_kindOf
set_option maxRecDepth 20000 in
theorem ggX7_city_X7_readsClue : GoodIn wsX7_city wsX7_readsClue := goodIn_r _ [47, 5, 1, 4, 41, 42, 13, 43, 24, 25, 26, 27, 15, 3, 28, 29, 30, 31, 32, 10, 11, 12, 14, 2, 16, 17, 18, 19, 6, 20, 21, 22, 23, 33, 34, 35, 36, 37, 38, 39, 40, 51, 52, 53, 54, 55, 56, 57, 58, 59, 60, 61, 62, 63, 64, 65, 66, 67, 68, 69, 70, 71, 72, 73] (by decide +kernel) (by decide +kernel)
set_option maxRecDepth 20000 in
theorem gX7_city_X7_readsClue : GoodIn wsX7_city (wsV RX7 127 RX7 yX7_readsClue wsX7_readsClue) := goodIn_app (goodIn_of _ (by decide +kernel)) ggX7_city_X7_readsClue
set_option maxRecDepth 20000 in
theorem ggX7_city_X7_copies : GoodIn wsX7_city wsX7_copies := goodIn_r _ [50] (by decide +kernel) (by decide +kernel)
set_option maxRecDepth 20000 in
theorem gX7_city_X7_copies : GoodIn wsX7_city (va_wsS RX7 131 yX7_copies wsX7_copies) := goodIn_app (goodIn_of _ (by decide +kernel)) ggX7_city_X7_copies
theorem dX7_city_0 : decode cX7_city 0 = .ok (.iconst 0, 1) := by decide +kernel
theorem dX7_city_1 : decode cX7_city 1 = .ok (.istore_n 1, 1) := by decide +kernel
theorem dX7_city_2 : decode cX7_city 2 = .ok (.iload_n 1, 1) := by decide +kernel
theorem dX7_city_3 : decode cX7_city 3 = .ok (.bipush 29, 2) := by decide +kernel
theorem dX7_city_5 : decode cX7_city 5 = .ok (.if_icmp .ge 16, 3) := by decide +kernel
theorem dX7_city_8 : decode cX7_city 8 = .ok (.aload_n 0, 1) := by decide +kernel
theorem dX7_city_9 : decode cX7_city 9 = .ok (.getfield 28, 3) := by decide +kernel
theorem dX7_city_12 : decode cX7_city 12 = .ok (.iload_n 1, 1) := by decide +kernel
theorem dX7_city_13 : decode cX7_city 13 = .ok (.iconst 0, 1) := by decide +kernel
theorem dX7_city_14 : decode cX7_city 14 = .ok (.iastore, 1) := by decide +kernel
theorem dX7_city_15 : decode cX7_city 15 = .ok (.iinc 1 1, 3) := by decide +kernel
theorem dX7_city_18 : decode cX7_city 18 = .ok (.goto (-16), 3) := by decide +kernel
theorem dX7_city_21 : decode cX7_city 21 = .ok (.aload_n 0, 1) := by decide +kernel
theorem dX7_city_22 : decode cX7_city 22 = .ok (.iconst 0, 1) := by decide +kernel
theorem dX7_city_23 : decode cX7_city 23 = .ok (.putfield 86, 3) := by decide +kernel
theorem dX7_city_26 : decode cX7_city 26 = .ok (.aload_n 0, 1) := by decide +kernel
theorem dX7_city_27 : decode cX7_city 27 = .ok (.iconst (-1), 1) := by decide +kernel
theorem dX7_city_28 : decode cX7_city 28 = .ok (.putfield 101, 3) := by decide +kernel
theorem dX7_city_31 : decode cX7_city 31 = .ok (.aload_n 0, 1) := by decide +kernel
theorem dX7_city_32 : decode cX7_city 32 = .ok (.invokevirtual 111, 3) := by decide +kernel
theorem dX7_city_35 : decode cX7_city 35 = .ok (.aload_n 0, 1) := by decide +kernel
theorem dX7_city_36 : decode cX7_city 36 = .ok (.aload_n 0, 1) := by decide +kernel
theorem dX7_city_37 : decode cX7_city 37 = .ok (.getfield 98, 3) := by decide +kernel
theorem dX7_city_40 : decode cX7_city 40 = .ok (.iconst 1, 1) := by decide +kernel
theorem dX7_city_41 : decode cX7_city 41 = .ok (.if_icmp .ne 16, 3) := by decide +kernel
theorem dX7_city_44 : decode cX7_city 44 = .ok (.aload_n 0, 1) := by decide +kernel
theorem dX7_city_45 : decode cX7_city 45 = .ok (.getfield 95, 3) := by decide +kernel
theorem dX7_city_48 : decode cX7_city 48 = .ok (.bipush 99, 2) := by decide +kernel
theorem dX7_city_50 : decode cX7_city 50 = .ok (.if_icmp .ne 7, 3) := by decide +kernel
theorem dX7_city_53 : decode cX7_city 53 = .ok (.iconst 1, 1) := by decide +kernel
theorem dX7_city_54 : decode cX7_city 54 = .ok (.goto 4, 3) := by decide +kernel
theorem dX7_city_57 : decode cX7_city 57 = .ok (.iconst 0, 1) := by decide +kernel
theorem dX7_city_58 : decode cX7_city 58 = .ok (.iconst 1, 1) := by decide +kernel
theorem dX7_city_59 : decode cX7_city 59 = .ok (.invokevirtual 114, 3) := by decide +kernel
theorem dX7_city_62 : decode cX7_city 62 = .ok (.pop, 1) := by decide +kernel
theorem dX7_city_63 : decode cX7_city 63 = .ok (.aload_n 0, 1) := by decide +kernel
theorem dX7_city_64 : decode cX7_city 64 = .ok (.getfield 28, 3) := by decide +kernel
theorem dX7_city_67 : decode cX7_city 67 = .ok (.iconst 0, 1) := by decide +kernel
theorem dX7_city_68 : decode cX7_city 68 = .ok (.aload_n 0, 1) := by decide +kernel
theorem dX7_city_69 : decode cX7_city 69 = .ok (.iconst 2, 1) := by decide +kernel
theorem dX7_city_70 : decode cX7_city 70 = .ok (.bipush 6, 2) := by decide +kernel
theorem dX7_city_72 : decode cX7_city 72 = .ok (.invokevirtual 118, 3) := by decide +kernel
theorem dX7_city_75 : decode cX7_city 75 = .ok (.iastore, 1) := by decide +kernel
theorem dX7_city_76 : decode cX7_city 76 = .ok (.aload_n 0, 1) := by decide +kernel
theorem dX7_city_77 : decode cX7_city 77 = .ok (.getfield 28, 3) := by decide +kernel
theorem dX7_city_80 : decode cX7_city 80 = .ok (.iconst 1, 1) := by decide +kernel
theorem dX7_city_81 : decode cX7_city 81 = .ok (.aload_n 0, 1) := by decide +kernel
theorem dX7_city_82 : decode cX7_city 82 = .ok (.iconst 0, 1) := by decide +kernel
theorem dX7_city_83 : decode cX7_city 83 = .ok (.bipush 6, 2) := by decide +kernel
theorem dX7_city_85 : decode cX7_city 85 = .ok (.invokevirtual 124, 3) := by decide +kernel
theorem dX7_city_88 : decode cX7_city 88 = .ok (.iastore, 1) := by decide +kernel
theorem dX7_city_89 : decode cX7_city 89 = .ok (.aload_n 0, 1) := by decide +kernel
theorem dX7_city_90 : decode cX7_city 90 = .ok (.aload_n 0, 1) := by decide +kernel
theorem dX7_city_91 : decode cX7_city 91 = .ok (.getfield 98, 3) := by decide +kernel
theorem dX7_city_94 : decode cX7_city 94 = .ok (.iconst 4, 1) := by decide +kernel
theorem dX7_city_95 : decode cX7_city 95 = .ok (.if_icmp .ne 7, 3) := by decide +kernel
theorem dX7_city_98 : decode cX7_city 98 = .ok (.iconst 1, 1) := by decide +kernel
theorem dX7_city_99 : decode cX7_city 99 = .ok (.goto 4, 3) := by decide +kernel
theorem dX7_city_102 : decode cX7_city 102 = .ok (.iconst 0, 1) := by decide +kernel
theorem dX7_city_103 : decode cX7_city 103 = .ok (.iconst 1, 1) := by decide +kernel
theorem dX7_city_104 : decode cX7_city 104 = .ok (.invokevirtual 114, 3) := by decide +kernel
theorem dX7_city_107 : decode cX7_city 107 = .ok (.pop, 1) := by decide +kernel
theorem dX7_city_108 : decode cX7_city 108 = .ok (.aload_n 0, 1) := by decide +kernel
theorem dX7_city_109 : decode cX7_city 109 = .ok (.invokevirtual 104, 3) := by decide +kernel
theorem dX7_city_112 : decode cX7_city 112 = .ok (.ifCond .eq 28, 3) := by decide +kernel
theorem dX7_city_115 : decode cX7_city 115 = .ok (.aload_n 0, 1) := by decide +kernel
theorem dX7_city_116 : decode cX7_city 116 = .ok (.getfield 98, 3) := by decide +kernel
theorem dX7_city_119 : decode cX7_city 119 = .ok (.iconst 1, 1) := by decide +kernel
theorem dX7_city_120 : decode cX7_city 120 = .ok (.if_icmp .ne 20, 3) := by decide +kernel
theorem dX7_city_123 : decode cX7_city 123 = .ok (.aload_n 0, 1) := by decide +kernel
theorem dX7_city_124 : decode cX7_city 124 = .ok (.getfield 95, 3) := by decide +kernel
theorem dX7_city_127 : decode cX7_city 127 = .ok (.invokestatic 121, 3) := by decide +kernel
theorem dX7_city_130 : decode cX7_city 130 = .ok (.ifCond .le 10, 3) := by decide +kernel
theorem dX7_city_133 : decode cX7_city 133 = .ok (.aload_n 0, 1) := by decide +kernel
