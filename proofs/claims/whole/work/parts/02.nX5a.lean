theorem dX5_init_0 : decode cX5_init 0 = .ok (.aload_n 0, 1) := by decide +kernel
theorem dX5_init_1 : decode cX5_init 1 = .ok (.invokespecial 3, 3) := by decide +kernel
theorem dX5_init_4 : decode cX5_init 4 = .ok (.aload_n 0, 1) := by decide +kernel
theorem dX5_init_5 : decode cX5_init 5 = .ok (.bipush 100, 2) := by decide +kernel
theorem dX5_init_7 : decode cX5_init 7 = .ok (.newarray .int, 2) := by decide +kernel
theorem dX5_init_9 : decode cX5_init 9 = .ok (.putfield 11, 3) := by decide +kernel
theorem dX5_init_12 : decode cX5_init 12 = .ok (.aload_n 0, 1) := by decide +kernel
theorem dX5_init_13 : decode cX5_init 13 = .ok (.iconst (-1), 1) := by decide +kernel
theorem dX5_init_14 : decode cX5_init 14 = .ok (.putfield 15, 3) := by decide +kernel
theorem dX5_init_17 : decode cX5_init 17 = .ok (.return_, 1) := by decide +kernel
theorem dX5_isFull_0 : decode cX5_isFull 0 = .ok (.aload_n 0, 1) := by decide +kernel
theorem dX5_isFull_1 : decode cX5_isFull 1 = .ok (.getfield 19, 3) := by decide +kernel
theorem dX5_isFull_4 : decode cX5_isFull 4 = .ok (.bipush 100, 2) := by decide +kernel
theorem dX5_isFull_6 : decode cX5_isFull 6 = .ok (.if_icmp .lt 7, 3) := by decide +kernel
theorem dX5_isFull_9 : decode cX5_isFull 9 = .ok (.iconst 1, 1) := by decide +kernel
theorem dX5_isFull_10 : decode cX5_isFull 10 = .ok (.goto 4, 3) := by decide +kernel
theorem dX5_isFull_13 : decode cX5_isFull 13 = .ok (.iconst 0, 1) := by decide +kernel
theorem dX5_isFull_14 : decode cX5_isFull 14 = .ok (.ireturn, 1) := by decide +kernel
theorem dX5_size_0 : decode cX5_size 0 = .ok (.aload_n 0, 1) := by decide +kernel
theorem dX5_size_1 : decode cX5_size 1 = .ok (.getfield 19, 3) := by decide +kernel
theorem dX5_size_4 : decode cX5_size 4 = .ok (.ireturn, 1) := by decide +kernel
theorem dX5_latestFault_0 : decode cX5_latestFault 0 = .ok (.aload_n 0, 1) := by decide +kernel
theorem dX5_latestFault_1 : decode cX5_latestFault 1 = .ok (.getfield 22, 3) := by decide +kernel
theorem dX5_latestFault_4 : decode cX5_latestFault 4 = .ok (.ireturn, 1) := by decide +kernel
theorem dX5_add_0 : decode cX5_add 0 = .ok (.aload_n 0, 1) := by decide +kernel
theorem dX5_add_1 : decode cX5_add 1 = .ok (.getfield 11, 3) := by decide +kernel
theorem dX5_add_4 : decode cX5_add 4 = .ok (.aload_n 0, 1) := by decide +kernel
theorem dX5_add_5 : decode cX5_add 5 = .ok (.getfield 19, 3) := by decide +kernel
theorem dX5_add_8 : decode cX5_add 8 = .ok (.iload_n 1, 1) := by decide +kernel
theorem dX5_add_9 : decode cX5_add 9 = .ok (.iastore, 1) := by decide +kernel
theorem dX5_add_10 : decode cX5_add 10 = .ok (.aload_n 0, 1) := by decide +kernel
theorem dX5_add_11 : decode cX5_add 11 = .ok (.dup, 1) := by decide +kernel
theorem dX5_add_12 : decode cX5_add 12 = .ok (.getfield 19, 3) := by decide +kernel
theorem dX5_add_15 : decode cX5_add 15 = .ok (.iconst 1, 1) := by decide +kernel
theorem dX5_add_16 : decode cX5_add 16 = .ok (.iadd, 1) := by decide +kernel
theorem dX5_add_17 : decode cX5_add 17 = .ok (.putfield 19, 3) := by decide +kernel
theorem dX5_add_20 : decode cX5_add 20 = .ok (.aload_n 0, 1) := by decide +kernel
theorem dX5_add_21 : decode cX5_add 21 = .ok (.getfield 19, 3) := by decide +kernel
theorem dX5_add_24 : decode cX5_add 24 = .ok (.ireturn, 1) := by decide +kernel
set_option maxRecDepth 20000 in
theorem ggX5_readInto_X2_clear : GoodIn wsX5_readInto wsX2_clear := goodIn_r _ [8, 9, 10, 11, 12, 13, 67, 68, 69, 70, 71, 72, 73, 74, 75] (by decide +kernel) (by decide +kernel)
set_option maxRecDepth 20000 in
theorem gX5_readInto_X2_clear : GoodIn wsX5_readInto (wsV RX5 28 RX2 yX2_clear wsX2_clear) := goodIn_app (goodIn_of _ (by decide +kernel)) ggX5_readInto_X2_clear
set_option maxRecDepth 20000 in
theorem ggX5_readInto_X5_readLaw : GoodIn wsX5_readInto wsX5_readLaw := goodIn_r _ [18, 19, 20, 21, 22, 23, 17, 24, 1, 3, 25, 26, 27, 28, 29, 30, 2, 31, 32, 33, 34, 35, 36, 37, 67, 68, 69, 70, 71, 72, 73, 74, 75, 62, 63, 64, 65, 66] (by decide +kernel) (by decide +kernel)
set_option maxRecDepth 20000 in
theorem gX5_readInto_X5_readLaw : GoodIn wsX5_readInto (wsV RX5 33 RX5 yX5_readLaw wsX5_readLaw) := goodIn_app (goodIn_of _ (by decide +kernel)) ggX5_readInto_X5_readLaw
set_option maxRecDepth 20000 in
theorem ggX5_readInto_X5_readClues : GoodIn wsX5_readInto wsX5_readClues := goodIn_r _ [41, 1, 3, 42, 43, 44, 17, 45, 25, 46, 47, 48, 49, 26, 27, 28, 29, 30, 2, 50, 51, 52, 7, 53, 9, 31, 32, 33, 34, 35, 36, 37, 21, 22, 23, 24, 54, 55, 56, 57, 58, 12, 59, 60, 61, 62, 63, 64, 65, 66, 67, 68, 69, 70, 71, 72, 73, 74, 75] (by decide +kernel) (by decide +kernel)
set_option maxRecDepth 20000 in
theorem gX5_readInto_X5_readClues : GoodIn wsX5_readInto (wsV RX5 37 RX5 yX5_readClues wsX5_readClues) := goodIn_app (goodIn_of _ (by decide +kernel)) ggX5_readInto_X5_readClues
theorem dX5_readInto_0 : decode cX5_readInto 0 = .ok (.aload_n 0, 1) := by decide +kernel
theorem dX5_readInto_1 : decode cX5_readInto 1 = .ok (.iconst 0, 1) := by decide +kernel
theorem dX5_readInto_2 : decode cX5_readInto 2 = .ok (.putfield 25, 3) := by decide +kernel
theorem dX5_readInto_5 : decode cX5_readInto 5 = .ok (.aload_n 0, 1) := by decide +kernel
theorem dX5_readInto_6 : decode cX5_readInto 6 = .ok (.iconst (-1), 1) := by decide +kernel
theorem dX5_readInto_7 : decode cX5_readInto 7 = .ok (.putfield 15, 3) := by decide +kernel
theorem dX5_readInto_10 : decode cX5_readInto 10 = .ok (.aload_n 1, 1) := by decide +kernel
theorem dX5_readInto_11 : decode cX5_readInto 11 = .ok (.invokevirtual 28, 3) := by decide +kernel
theorem dX5_readInto_14 : decode cX5_readInto 14 = .ok (.aload_n 0, 1) := by decide +kernel
theorem dX5_readInto_15 : decode cX5_readInto 15 = .ok (.aload_n 1, 1) := by decide +kernel
theorem dX5_readInto_16 : decode cX5_readInto 16 = .ok (.invokevirtual 33, 3) := by decide +kernel
theorem dX5_readInto_19 : decode cX5_readInto 19 = .ok (.ifCond .eq 8, 3) := by decide +kernel
theorem dX5_readInto_22 : decode cX5_readInto 22 = .ok (.aload_n 0, 1) := by decide +kernel
theorem dX5_readInto_23 : decode cX5_readInto 23 = .ok (.aload_n 1, 1) := by decide +kernel
theorem dX5_readInto_24 : decode cX5_readInto 24 = .ok (.invokevirtual 37, 3) := by decide +kernel
theorem dX5_readInto_27 : decode cX5_readInto 27 = .ok (.aload_n 0, 1) := by decide +kernel
theorem dX5_readInto_28 : decode cX5_readInto 28 = .ok (.iconst 0, 1) := by decide +kernel
theorem dX5_readInto_29 : decode cX5_readInto 29 = .ok (.putfield 19, 3) := by decide +kernel
theorem dX5_readInto_32 : decode cX5_readInto 32 = .ok (.aload_n 0, 1) := by decide +kernel
theorem dX5_readInto_33 : decode cX5_readInto 33 = .ok (.getfield 15, 3) := by decide +kernel
theorem dX5_readInto_36 : decode cX5_readInto 36 = .ok (.ireturn, 1) := by decide +kernel
set_option maxRecDepth 20000 in
theorem ggX5_readLaw_X5_take : GoodIn wsX5_readLaw wsX5_take := goodIn_r _ [7, 8, 9, 10, 11, 12, 13, 6, 14, 15, 16, 33, 34, 35, 36, 37] (by decide +kernel) (by decide +kernel)
set_option maxRecDepth 20000 in
theorem gX5_readLaw_X5_take : GoodIn wsX5_readLaw (wsV RX5 41 RX5 yX5_take wsX5_take) := goodIn_app (goodIn_of _ (by decide +kernel)) ggX5_readLaw_X5_take
set_option maxRecDepth 20000 in
theorem ggX5_readLaw_X5_takeNumber : GoodIn wsX5_readLaw wsX5_takeNumber := goodIn_r _ [20, 8, 9, 10, 21, 22, 23, 11, 12, 13, 6, 14, 15, 16, 33, 34, 35, 36, 37] (by decide +kernel) (by decide +kernel)
set_option maxRecDepth 20000 in
theorem gX5_readLaw_X5_takeNumber : GoodIn wsX5_readLaw (wsV RX5 45 RX5 yX5_takeNumber wsX5_takeNumber) := goodIn_app (goodIn_of _ (by decide +kernel)) ggX5_readLaw_X5_takeNumber
theorem dX5_readLaw_0 : decode cX5_readLaw 0 = .ok (.aload_n 0, 1) := by decide +kernel
theorem dX5_readLaw_1 : decode cX5_readLaw 1 = .ok (.bipush 99, 2) := by decide +kernel
theorem dX5_readLaw_3 : decode cX5_readLaw 3 = .ok (.invokevirtual 41, 3) := by decide +kernel
theorem dX5_readLaw_6 : decode cX5_readLaw 6 = .ok (.ifCond .ne 5, 3) := by decide +kernel
theorem dX5_readLaw_9 : decode cX5_readLaw 9 = .ok (.iconst 0, 1) := by decide +kernel
theorem dX5_readLaw_10 : decode cX5_readLaw 10 = .ok (.ireturn, 1) := by decide +kernel
theorem dX5_readLaw_11 : decode cX5_readLaw 11 = .ok (.aload_n 1, 1) := by decide +kernel
theorem dX5_readLaw_12 : decode cX5_readLaw 12 = .ok (.aload_n 0, 1) := by decide +kernel
theorem dX5_readLaw_13 : decode cX5_readLaw 13 = .ok (.iconst 2, 1) := by decide +kernel
theorem dX5_readLaw_14 : decode cX5_readLaw 14 = .ok (.bipush 6, 2) := by decide +kernel
theorem dX5_readLaw_16 : decode cX5_readLaw 16 = .ok (.invokevirtual 45, 3) := by decide +kernel
theorem dX5_readLaw_19 : decode cX5_readLaw 19 = .ok (.putfield 49, 3) := by decide +kernel
theorem dX5_readLaw_22 : decode cX5_readLaw 22 = .ok (.aload_n 1, 1) := by decide +kernel
theorem dX5_readLaw_23 : decode cX5_readLaw 23 = .ok (.getfield 49, 3) := by decide +kernel
theorem dX5_readLaw_26 : decode cX5_readLaw 26 = .ok (.iconst (-1), 1) := by decide +kernel
theorem dX5_readLaw_27 : decode cX5_readLaw 27 = .ok (.if_icmp .eq 12, 3) := by decide +kernel
theorem dX5_readLaw_30 : decode cX5_readLaw 30 = .ok (.aload_n 0, 1) := by decide +kernel
theorem dX5_readLaw_31 : decode cX5_readLaw 31 = .ok (.bipush 44, 2) := by decide +kernel
theorem dX5_readLaw_33 : decode cX5_readLaw 33 = .ok (.invokevirtual 41, 3) := by decide +kernel
theorem dX5_readLaw_36 : decode cX5_readLaw 36 = .ok (.ifCond .ne 5, 3) := by decide +kernel
theorem dX5_readLaw_39 : decode cX5_readLaw 39 = .ok (.iconst 0, 1) := by decide +kernel
theorem dX5_readLaw_40 : decode cX5_readLaw 40 = .ok (.ireturn, 1) := by decide +kernel
theorem dX5_readLaw_41 : decode cX5_readLaw 41 = .ok (.aload_n 1, 1) := by decide +kernel
theorem dX5_readLaw_42 : decode cX5_readLaw 42 = .ok (.aload_n 0, 1) := by decide +kernel
theorem dX5_readLaw_43 : decode cX5_readLaw 43 = .ok (.iconst 0, 1) := by decide +kernel
theorem dX5_readLaw_44 : decode cX5_readLaw 44 = .ok (.bipush 6, 2) := by decide +kernel
theorem dX5_readLaw_46 : decode cX5_readLaw 46 = .ok (.invokevirtual 45, 3) := by decide +kernel
theorem dX5_readLaw_49 : decode cX5_readLaw 49 = .ok (.putfield 52, 3) := by decide +kernel
theorem dX5_readLaw_52 : decode cX5_readLaw 52 = .ok (.aload_n 1, 1) := by decide +kernel
theorem dX5_readLaw_53 : decode cX5_readLaw 53 = .ok (.getfield 52, 3) := by decide +kernel
theorem dX5_readLaw_56 : decode cX5_readLaw 56 = .ok (.iconst (-1), 1) := by decide +kernel
theorem dX5_readLaw_57 : decode cX5_readLaw 57 = .ok (.if_icmp .eq 16, 3) := by decide +kernel
theorem dX5_readLaw_60 : decode cX5_readLaw 60 = .ok (.aload_n 0, 1) := by decide +kernel
theorem dX5_readLaw_61 : decode cX5_readLaw 61 = .ok (.bipush 59, 2) := by decide +kernel
theorem dX5_readLaw_63 : decode cX5_readLaw 63 = .ok (.invokevirtual 41, 3) := by decide +kernel
theorem dX5_readLaw_66 : decode cX5_readLaw 66 = .ok (.ifCond .eq 7, 3) := by decide +kernel
theorem dX5_readLaw_69 : decode cX5_readLaw 69 = .ok (.iconst 1, 1) := by decide +kernel
theorem dX5_readLaw_70 : decode cX5_readLaw 70 = .ok (.goto 4, 3) := by decide +kernel
theorem dX5_readLaw_73 : decode cX5_readLaw 73 = .ok (.iconst 0, 1) := by decide +kernel
theorem dX5_readLaw_74 : decode cX5_readLaw 74 = .ok (.ireturn, 1) := by decide +kernel
set_option maxRecDepth 20000 in
theorem ggX5_readClues_X5_readClue : GoodIn wsX5_readClues wsX5_readClue := goodIn_r _ [7, 8, 1, 9, 10, 11, 6, 12, 13, 14, 15, 16, 17, 18, 19, 20, 21, 22, 23, 24, 25, 26, 27, 28, 2, 29, 30, 31, 32, 33, 34, 35, 36, 37, 38, 39, 40, 41, 42, 43, 44, 45, 46, 47, 48, 49, 50, 51, 52, 53, 54, 55, 56, 57, 58] (by decide +kernel) (by decide +kernel)
set_option maxRecDepth 20000 in
theorem gX5_readClues_X5_readClue : GoodIn wsX5_readClues (wsV RX5 55 RX5 yX5_readClue wsX5_readClue) := goodIn_app (goodIn_of _ (by decide +kernel)) ggX5_readClues_X5_readClue
theorem dX5_readClues_0 : decode cX5_readClues 0 = .ok (.iconst 0, 1) := by decide +kernel
theorem dX5_readClues_1 : decode cX5_readClues 1 = .ok (.istore_n 2, 1) := by decide +kernel
theorem dX5_readClues_2 : decode cX5_readClues 2 = .ok (.iload_n 2, 1) := by decide +kernel
theorem dX5_readClues_3 : decode cX5_readClues 3 = .ok (.bipush 6, 2) := by decide +kernel
theorem dX5_readClues_5 : decode cX5_readClues 5 = .ok (.if_icmp .gt 29, 3) := by decide +kernel
theorem dX5_readClues_8 : decode cX5_readClues 8 = .ok (.aload_n 0, 1) := by decide +kernel
theorem dX5_readClues_9 : decode cX5_readClues 9 = .ok (.getfield 25, 3) := by decide +kernel
theorem dX5_readClues_12 : decode cX5_readClues 12 = .ok (.aload_n 0, 1) := by decide +kernel
theorem dX5_readClues_13 : decode cX5_readClues 13 = .ok (.getfield 19, 3) := by decide +kernel
theorem dX5_readClues_16 : decode cX5_readClues 16 = .ok (.if_icmp .ge 18, 3) := by decide +kernel
theorem dX5_readClues_19 : decode cX5_readClues 19 = .ok (.aload_n 0, 1) := by decide +kernel
theorem dX5_readClues_20 : decode cX5_readClues 20 = .ok (.aload_n 1, 1) := by decide +kernel
theorem dX5_readClues_21 : decode cX5_readClues 21 = .ok (.invokevirtual 55, 3) := by decide +kernel
theorem dX5_readClues_24 : decode cX5_readClues 24 = .ok (.ifCond .ne 4, 3) := by decide +kernel
theorem dX5_readClues_27 : decode cX5_readClues 27 = .ok (.return_, 1) := by decide +kernel
theorem dX5_readClues_28 : decode cX5_readClues 28 = .ok (.iinc 2 1, 3) := by decide +kernel
theorem dX5_readClues_31 : decode cX5_readClues 31 = .ok (.goto (-29), 3) := by decide +kernel
theorem dX5_readClues_34 : decode cX5_readClues 34 = .ok (.return_, 1) := by decide +kernel
set_option maxRecDepth 20000 in
theorem ggX5_readClue_X5_kindBy : GoodIn wsX5_readClue wsX5_kindBy := goodIn_r _ [7] (by decide +kernel) (by decide +kernel)
set_option maxRecDepth 20000 in
theorem gX5_readClue_X5_kindBy : GoodIn wsX5_readClue (va_wsS RX5 58 yX5_kindBy wsX5_kindBy) := goodIn_app (goodIn_of _ (by decide +kernel)) ggX5_readClue_X5_kindBy
set_option maxRecDepth 20000 in
theorem ggX5_readClue_X5_blame : GoodIn wsX5_readClue wsX5_blame := goodIn_r _ [11, 12, 2, 13, 41, 42, 43, 44, 45] (by decide +kernel) (by decide +kernel)
set_option maxRecDepth 20000 in
theorem gX5_readClue_X5_blame : GoodIn wsX5_readClue (wsV RX5 62 RX5 yX5_blame wsX5_blame) := goodIn_app (goodIn_of _ (by decide +kernel)) ggX5_readClue_X5_blame
set_option maxRecDepth 20000 in
theorem ggX5_readClue_X2_everyone : GoodIn wsX5_readClue wsX2_everyone := goodIn_r _ [18, 19, 46, 47, 48, 49, 50, 51, 52, 53, 54] (by decide +kernel) (by decide +kernel)
set_option maxRecDepth 20000 in
theorem gX5_readClue_X2_everyone : GoodIn wsX5_readClue (wsV RX5 68 RX2 yX2_everyone wsX2_everyone) := goodIn_app (goodIn_of _ (by decide +kernel)) ggX5_readClue_X2_everyone
set_option maxRecDepth 20000 in
theorem ggX5_readClue_X5_takeNumber : GoodIn wsX5_readClue wsX5_takeNumber := goodIn_r _ [23, 2, 24, 1, 25, 26, 27, 8, 9, 10, 6, 11, 12, 13, 41, 42, 43, 44, 45] (by decide +kernel) (by decide +kernel)
set_option maxRecDepth 20000 in
theorem gX5_readClue_X5_takeNumber : GoodIn wsX5_readClue (wsV RX5 45 RX5 yX5_takeNumber wsX5_takeNumber) := goodIn_app (goodIn_of _ (by decide +kernel)) ggX5_readClue_X5_takeNumber
set_option maxRecDepth 20000 in
theorem ggX5_readClue_X5_take : GoodIn wsX5_readClue wsX5_take := goodIn_r _ [31, 2, 24, 1, 8, 9, 10, 6, 11, 12, 13, 41, 42, 43, 44, 45] (by decide +kernel) (by decide +kernel)
set_option maxRecDepth 20000 in
theorem gX5_readClue_X5_take : GoodIn wsX5_readClue (wsV RX5 41 RX5 yX5_take wsX5_take) := goodIn_app (goodIn_of _ (by decide +kernel)) ggX5_readClue_X5_take
set_option maxRecDepth 20000 in
theorem ggX5_readClue_X2_add : GoodIn wsX5_readClue wsX2_add := goodIn_r _ [35, 36, 37, 38, 39, 40, 46, 47, 48, 49, 50, 51, 52, 53, 54] (by decide +kernel) (by decide +kernel)
set_option maxRecDepth 20000 in
theorem gX5_readClue_X2_add : GoodIn wsX5_readClue (wsV RX5 72 RX2 yX2_add wsX2_add) := goodIn_app (goodIn_of _ (by decide +kernel)) ggX5_readClue_X2_add
theorem dX5_readClue_0 : decode cX5_readClue 0 = .ok (.aload_n 0, 1) := by decide +kernel
theorem dX5_readClue_1 : decode cX5_readClue 1 = .ok (.getfield 11, 3) := by decide +kernel
theorem dX5_readClue_4 : decode cX5_readClue 4 = .ok (.aload_n 0, 1) := by decide +kernel
theorem dX5_readClue_5 : decode cX5_readClue 5 = .ok (.getfield 25, 3) := by decide +kernel
theorem dX5_readClue_8 : decode cX5_readClue 8 = .ok (.iaload, 1) := by decide +kernel
theorem dX5_readClue_9 : decode cX5_readClue 9 = .ok (.invokestatic 58, 3) := by decide +kernel
theorem dX5_readClue_12 : decode cX5_readClue 12 = .ok (.istore_n 2, 1) := by decide +kernel
theorem dX5_readClue_13 : decode cX5_readClue 13 = .ok (.iload_n 2, 1) := by decide +kernel
theorem dX5_readClue_14 : decode cX5_readClue 14 = .ok (.ifCond .ne 9, 3) := by decide +kernel
theorem dX5_readClue_17 : decode cX5_readClue 17 = .ok (.aload_n 0, 1) := by decide +kernel
theorem dX5_readClue_18 : decode cX5_readClue 18 = .ok (.iconst 1, 1) := by decide +kernel
theorem dX5_readClue_19 : decode cX5_readClue 19 = .ok (.invokevirtual 62, 3) := by decide +kernel
theorem dX5_readClue_22 : decode cX5_readClue 22 = .ok (.ireturn, 1) := by decide +kernel
theorem dX5_readClue_23 : decode cX5_readClue 23 = .ok (.aload_n 1, 1) := by decide +kernel
theorem dX5_readClue_24 : decode cX5_readClue 24 = .ok (.getfield 65, 3) := by decide +kernel
theorem dX5_readClue_27 : decode cX5_readClue 27 = .ok (.bipush 6, 2) := by decide +kernel
theorem dX5_readClue_29 : decode cX5_readClue 29 = .ok (.if_icmp .lt 9, 3) := by decide +kernel
theorem dX5_readClue_32 : decode cX5_readClue 32 = .ok (.aload_n 0, 1) := by decide +kernel
theorem dX5_readClue_33 : decode cX5_readClue 33 = .ok (.iconst 3, 1) := by decide +kernel
theorem dX5_readClue_34 : decode cX5_readClue 34 = .ok (.invokevirtual 62, 3) := by decide +kernel
theorem dX5_readClue_37 : decode cX5_readClue 37 = .ok (.ireturn, 1) := by decide +kernel
theorem dX5_readClue_38 : decode cX5_readClue 38 = .ok (.aload_n 0, 1) := by decide +kernel
theorem dX5_readClue_39 : decode cX5_readClue 39 = .ok (.dup, 1) := by decide +kernel
theorem dX5_readClue_40 : decode cX5_readClue 40 = .ok (.getfield 25, 3) := by decide +kernel
theorem dX5_readClue_43 : decode cX5_readClue 43 = .ok (.iconst 1, 1) := by decide +kernel
theorem dX5_readClue_44 : decode cX5_readClue 44 = .ok (.iadd, 1) := by decide +kernel
theorem dX5_readClue_45 : decode cX5_readClue 45 = .ok (.putfield 25, 3) := by decide +kernel
theorem dX5_readClue_48 : decode cX5_readClue 48 = .ok (.aload_n 0, 1) := by decide +kernel
theorem dX5_readClue_49 : decode cX5_readClue 49 = .ok (.iconst 1, 1) := by decide +kernel
theorem dX5_readClue_50 : decode cX5_readClue 50 = .ok (.aload_n 1, 1) := by decide +kernel
theorem dX5_readClue_51 : decode cX5_readClue 51 = .ok (.invokevirtual 68, 3) := by decide +kernel
theorem dX5_readClue_54 : decode cX5_readClue 54 = .ok (.invokevirtual 45, 3) := by decide +kernel
theorem dX5_readClue_57 : decode cX5_readClue 57 = .ok (.istore_n 3, 1) := by decide +kernel
theorem dX5_readClue_58 : decode cX5_readClue 58 = .ok (.iload_n 3, 1) := by decide +kernel
theorem dX5_readClue_59 : decode cX5_readClue 59 = .ok (.iconst (-1), 1) := by decide +kernel
theorem dX5_readClue_60 : decode cX5_readClue 60 = .ok (.if_icmp .eq 12, 3) := by decide +kernel
theorem dX5_readClue_63 : decode cX5_readClue 63 = .ok (.aload_n 0, 1) := by decide +kernel
theorem dX5_readClue_64 : decode cX5_readClue 64 = .ok (.bipush 44, 2) := by decide +kernel
theorem dX5_readClue_66 : decode cX5_readClue 66 = .ok (.invokevirtual 41, 3) := by decide +kernel
theorem dX5_readClue_69 : decode cX5_readClue 69 = .ok (.ifCond .ne 5, 3) := by decide +kernel
theorem dX5_readClue_72 : decode cX5_readClue 72 = .ok (.iconst 0, 1) := by decide +kernel
theorem dX5_readClue_73 : decode cX5_readClue 73 = .ok (.ireturn, 1) := by decide +kernel
theorem dX5_readClue_74 : decode cX5_readClue 74 = .ok (.aload_n 0, 1) := by decide +kernel
theorem dX5_readClue_75 : decode cX5_readClue 75 = .ok (.iconst 2, 1) := by decide +kernel
theorem dX5_readClue_76 : decode cX5_readClue 76 = .ok (.iconst 4, 1) := by decide +kernel
theorem dX5_readClue_77 : decode cX5_readClue 77 = .ok (.invokevirtual 45, 3) := by decide +kernel
theorem dX5_readClue_80 : decode cX5_readClue 80 = .ok (.istore 4, 2) := by decide +kernel
theorem dX5_readClue_82 : decode cX5_readClue 82 = .ok (.iload 4, 2) := by decide +kernel
theorem dX5_readClue_84 : decode cX5_readClue 84 = .ok (.iconst (-1), 1) := by decide +kernel
theorem dX5_readClue_85 : decode cX5_readClue 85 = .ok (.if_icmp .eq 12, 3) := by decide +kernel
theorem dX5_readClue_88 : decode cX5_readClue 88 = .ok (.aload_n 0, 1) := by decide +kernel
theorem dX5_readClue_89 : decode cX5_readClue 89 = .ok (.bipush 44, 2) := by decide +kernel
theorem dX5_readClue_91 : decode cX5_readClue 91 = .ok (.invokevirtual 41, 3) := by decide +kernel
theorem dX5_readClue_94 : decode cX5_readClue 94 = .ok (.ifCond .ne 5, 3) := by decide +kernel
theorem dX5_readClue_97 : decode cX5_readClue 97 = .ok (.iconst 0, 1) := by decide +kernel
theorem dX5_readClue_98 : decode cX5_readClue 98 = .ok (.ireturn, 1) := by decide +kernel
theorem dX5_readClue_99 : decode cX5_readClue 99 = .ok (.aload_n 0, 1) := by decide +kernel
theorem dX5_readClue_100 : decode cX5_readClue 100 = .ok (.iconst 0, 1) := by decide +kernel
theorem dX5_readClue_101 : decode cX5_readClue 101 = .ok (.iload 4, 2) := by decide +kernel
theorem dX5_readClue_103 : decode cX5_readClue 103 = .ok (.iconst 1, 1) := by decide +kernel
theorem dX5_readClue_104 : decode cX5_readClue 104 = .ok (.isub, 1) := by decide +kernel
theorem dX5_readClue_105 : decode cX5_readClue 105 = .ok (.invokevirtual 45, 3) := by decide +kernel
theorem dX5_readClue_108 : decode cX5_readClue 108 = .ok (.istore 5, 2) := by decide +kernel
theorem dX5_readClue_110 : decode cX5_readClue 110 = .ok (.iload 5, 2) := by decide +kernel
theorem dX5_readClue_112 : decode cX5_readClue 112 = .ok (.iconst (-1), 1) := by decide +kernel
theorem dX5_readClue_113 : decode cX5_readClue 113 = .ok (.if_icmp .eq 12, 3) := by decide +kernel
theorem dX5_readClue_116 : decode cX5_readClue 116 = .ok (.aload_n 0, 1) := by decide +kernel
theorem dX5_readClue_117 : decode cX5_readClue 117 = .ok (.bipush 59, 2) := by decide +kernel
theorem dX5_readClue_119 : decode cX5_readClue 119 = .ok (.invokevirtual 41, 3) := by decide +kernel
theorem dX5_readClue_122 : decode cX5_readClue 122 = .ok (.ifCond .ne 5, 3) := by decide +kernel
theorem dX5_readClue_125 : decode cX5_readClue 125 = .ok (.iconst 0, 1) := by decide +kernel
theorem dX5_readClue_126 : decode cX5_readClue 126 = .ok (.ireturn, 1) := by decide +kernel
theorem dX5_readClue_127 : decode cX5_readClue 127 = .ok (.aload_n 1, 1) := by decide +kernel
theorem dX5_readClue_128 : decode cX5_readClue 128 = .ok (.iload_n 2, 1) := by decide +kernel
theorem dX5_readClue_129 : decode cX5_readClue 129 = .ok (.iload_n 3, 1) := by decide +kernel
theorem dX5_readClue_130 : decode cX5_readClue 130 = .ok (.iload 4, 2) := by decide +kernel
theorem dX5_readClue_132 : decode cX5_readClue 132 = .ok (.iload 5, 2) := by decide +kernel
theorem dX5_readClue_134 : decode cX5_readClue 134 = .ok (.invokevirtual 72, 3) := by decide +kernel
theorem dX5_readClue_137 : decode cX5_readClue 137 = .ok (.iconst 1, 1) := by decide +kernel
theorem dX5_readClue_138 : decode cX5_readClue 138 = .ok (.ireturn, 1) := by decide +kernel
theorem dX5_kindBy_0 : decode cX5_kindBy 0 = .ok (.iload_n 0, 1) := by decide +kernel
theorem dX5_kindBy_1 : decode cX5_kindBy 1 = .ok (.lookupswitch 61 #[(97, 59), (103, 53), (115, 57), (116, 51), (118, 55)], 51) := by decide +kernel
theorem dX5_kindBy_52 : decode cX5_kindBy 52 = .ok (.iconst 1, 1) := by decide +kernel
theorem dX5_kindBy_53 : decode cX5_kindBy 53 = .ok (.ireturn, 1) := by decide +kernel
theorem dX5_kindBy_54 : decode cX5_kindBy 54 = .ok (.iconst 2, 1) := by decide +kernel
theorem dX5_kindBy_55 : decode cX5_kindBy 55 = .ok (.ireturn, 1) := by decide +kernel
theorem dX5_kindBy_56 : decode cX5_kindBy 56 = .ok (.iconst 3, 1) := by decide +kernel
theorem dX5_kindBy_57 : decode cX5_kindBy 57 = .ok (.ireturn, 1) := by decide +kernel
theorem dX5_kindBy_58 : decode cX5_kindBy 58 = .ok (.iconst 4, 1) := by decide +kernel
theorem dX5_kindBy_59 : decode cX5_kindBy 59 = .ok (.ireturn, 1) := by decide +kernel
theorem dX5_kindBy_60 : decode cX5_kindBy 60 = .ok (.iconst 5, 1) := by decide +kernel
theorem dX5_kindBy_61 : decode cX5_kindBy 61 = .ok (.ireturn, 1) := by decide +kernel
theorem dX5_kindBy_62 : decode cX5_kindBy 62 = .ok (.iconst 0, 1) := by decide +kernel
theorem dX5_kindBy_63 : decode cX5_kindBy 63 = .ok (.ireturn, 1) := by decide +kernel
set_option maxRecDepth 20000 in
theorem ggX5_take_X5_blame : GoodIn wsX5_take wsX5_blame := goodIn_r _ [8, 9, 1, 10, 11, 12, 13, 14, 15] (by decide +kernel) (by decide +kernel)
set_option maxRecDepth 20000 in
theorem gX5_take_X5_blame : GoodIn wsX5_take (wsV RX5 62 RX5 yX5_blame wsX5_blame) := goodIn_app (goodIn_of _ (by decide +kernel)) ggX5_take_X5_blame
theorem dX5_take_0 : decode cX5_take 0 = .ok (.aload_n 0, 1) := by decide +kernel
theorem dX5_take_1 : decode cX5_take 1 = .ok (.getfield 25, 3) := by decide +kernel
theorem dX5_take_4 : decode cX5_take 4 = .ok (.aload_n 0, 1) := by decide +kernel
theorem dX5_take_5 : decode cX5_take 5 = .ok (.getfield 19, 3) := by decide +kernel
theorem dX5_take_8 : decode cX5_take 8 = .ok (.if_icmp .ge 16, 3) := by decide +kernel
theorem dX5_take_11 : decode cX5_take 11 = .ok (.aload_n 0, 1) := by decide +kernel
theorem dX5_take_12 : decode cX5_take 12 = .ok (.getfield 11, 3) := by decide +kernel
theorem dX5_take_15 : decode cX5_take 15 = .ok (.aload_n 0, 1) := by decide +kernel
theorem dX5_take_16 : decode cX5_take 16 = .ok (.getfield 25, 3) := by decide +kernel
theorem dX5_take_19 : decode cX5_take 19 = .ok (.iaload, 1) := by decide +kernel
theorem dX5_take_20 : decode cX5_take 20 = .ok (.iload_n 1, 1) := by decide +kernel
theorem dX5_take_21 : decode cX5_take 21 = .ok (.if_icmp .eq 9, 3) := by decide +kernel
theorem dX5_take_24 : decode cX5_take 24 = .ok (.aload_n 0, 1) := by decide +kernel
theorem dX5_take_25 : decode cX5_take 25 = .ok (.iconst 1, 1) := by decide +kernel
theorem dX5_take_26 : decode cX5_take 26 = .ok (.invokevirtual 62, 3) := by decide +kernel
theorem dX5_take_29 : decode cX5_take 29 = .ok (.ireturn, 1) := by decide +kernel
theorem dX5_take_30 : decode cX5_take 30 = .ok (.aload_n 0, 1) := by decide +kernel
theorem dX5_take_31 : decode cX5_take 31 = .ok (.dup, 1) := by decide +kernel
theorem dX5_take_32 : decode cX5_take 32 = .ok (.getfield 25, 3) := by decide +kernel
theorem dX5_take_35 : decode cX5_take 35 = .ok (.iconst 1, 1) := by decide +kernel
theorem dX5_take_36 : decode cX5_take 36 = .ok (.iadd, 1) := by decide +kernel
theorem dX5_take_37 : decode cX5_take 37 = .ok (.putfield 25, 3) := by decide +kernel
theorem dX5_take_40 : decode cX5_take 40 = .ok (.iconst 1, 1) := by decide +kernel
theorem dX5_take_41 : decode cX5_take 41 = .ok (.ireturn, 1) := by decide +kernel
set_option maxRecDepth 20000 in
theorem ggX5_takeNumber_X6_isWithin : GoodIn wsX5_takeNumber wsX6_isWithin := goodIn_r _ [6] (by decide +kernel) (by decide +kernel)
set_option maxRecDepth 20000 in
theorem gX5_takeNumber_X6_isWithin_n76 : GoodIn wsX5_takeNumber (wsX6_isWithin) := ggX5_takeNumber_X6_isWithin
set_option maxRecDepth 20000 in
theorem ggX5_takeNumber_X5_blame : GoodIn wsX5_takeNumber wsX5_blame := goodIn_r _ [11, 12, 1, 13, 14, 15, 16, 17, 18] (by decide +kernel) (by decide +kernel)
set_option maxRecDepth 20000 in
theorem gX5_takeNumber_X5_blame : GoodIn wsX5_takeNumber (wsV RX5 62 RX5 yX5_blame wsX5_blame) := goodIn_app (goodIn_of _ (by decide +kernel)) ggX5_takeNumber_X5_blame
theorem dX5_takeNumber_0 : decode cX5_takeNumber 0 = .ok (.aload_n 0, 1) := by decide +kernel
theorem dX5_takeNumber_1 : decode cX5_takeNumber 1 = .ok (.getfield 25, 3) := by decide +kernel
theorem dX5_takeNumber_4 : decode cX5_takeNumber 4 = .ok (.istore_n 3, 1) := by decide +kernel
theorem dX5_takeNumber_5 : decode cX5_takeNumber 5 = .ok (.iconst 0, 1) := by decide +kernel
theorem dX5_takeNumber_6 : decode cX5_takeNumber 6 = .ok (.istore 4, 2) := by decide +kernel
theorem dX5_takeNumber_8 : decode cX5_takeNumber 8 = .ok (.iload_n 3, 1) := by decide +kernel
theorem dX5_takeNumber_9 : decode cX5_takeNumber 9 = .ok (.aload_n 0, 1) := by decide +kernel
theorem dX5_takeNumber_10 : decode cX5_takeNumber 10 = .ok (.getfield 19, 3) := by decide +kernel
theorem dX5_takeNumber_13 : decode cX5_takeNumber 13 = .ok (.if_icmp .ge 42, 3) := by decide +kernel
theorem dX5_takeNumber_16 : decode cX5_takeNumber 16 = .ok (.aload_n 0, 1) := by decide +kernel
theorem dX5_takeNumber_17 : decode cX5_takeNumber 17 = .ok (.getfield 11, 3) := by decide +kernel
theorem dX5_takeNumber_20 : decode cX5_takeNumber 20 = .ok (.iload_n 3, 1) := by decide +kernel
theorem dX5_takeNumber_21 : decode cX5_takeNumber 21 = .ok (.iaload, 1) := by decide +kernel
theorem dX5_takeNumber_22 : decode cX5_takeNumber 22 = .ok (.bipush 48, 2) := by decide +kernel
theorem dX5_takeNumber_24 : decode cX5_takeNumber 24 = .ok (.bipush 57, 2) := by decide +kernel
theorem dX5_takeNumber_26 : decode cX5_takeNumber 26 = .ok (.invokestatic 76, 3) := by decide +kernel
theorem dX5_takeNumber_29 : decode cX5_takeNumber 29 = .ok (.ifCond .eq 26, 3) := by decide +kernel
theorem dX5_takeNumber_32 : decode cX5_takeNumber 32 = .ok (.iload 4, 2) := by decide +kernel
theorem dX5_takeNumber_34 : decode cX5_takeNumber 34 = .ok (.bipush 10, 2) := by decide +kernel
theorem dX5_takeNumber_36 : decode cX5_takeNumber 36 = .ok (.imul, 1) := by decide +kernel
theorem dX5_takeNumber_37 : decode cX5_takeNumber 37 = .ok (.aload_n 0, 1) := by decide +kernel
theorem dX5_takeNumber_38 : decode cX5_takeNumber 38 = .ok (.getfield 11, 3) := by decide +kernel
theorem dX5_takeNumber_41 : decode cX5_takeNumber 41 = .ok (.iload_n 3, 1) := by decide +kernel
theorem dX5_takeNumber_42 : decode cX5_takeNumber 42 = .ok (.iaload, 1) := by decide +kernel
theorem dX5_takeNumber_43 : decode cX5_takeNumber 43 = .ok (.iadd, 1) := by decide +kernel
theorem dX5_takeNumber_44 : decode cX5_takeNumber 44 = .ok (.bipush 48, 2) := by decide +kernel
theorem dX5_takeNumber_46 : decode cX5_takeNumber 46 = .ok (.isub, 1) := by decide +kernel
theorem dX5_takeNumber_47 : decode cX5_takeNumber 47 = .ok (.istore 4, 2) := by decide +kernel
theorem dX5_takeNumber_49 : decode cX5_takeNumber 49 = .ok (.iinc 3 1, 3) := by decide +kernel
theorem dX5_takeNumber_52 : decode cX5_takeNumber 52 = .ok (.goto (-44), 3) := by decide +kernel
theorem dX5_takeNumber_55 : decode cX5_takeNumber 55 = .ok (.iload_n 3, 1) := by decide +kernel
theorem dX5_takeNumber_56 : decode cX5_takeNumber 56 = .ok (.aload_n 0, 1) := by decide +kernel
theorem dX5_takeNumber_57 : decode cX5_takeNumber 57 = .ok (.getfield 25, 3) := by decide +kernel
theorem dX5_takeNumber_60 : decode cX5_takeNumber 60 = .ok (.if_icmp .eq 13, 3) := by decide +kernel
theorem dX5_takeNumber_63 : decode cX5_takeNumber 63 = .ok (.iload_n 3, 1) := by decide +kernel
theorem dX5_takeNumber_64 : decode cX5_takeNumber 64 = .ok (.aload_n 0, 1) := by decide +kernel
theorem dX5_takeNumber_65 : decode cX5_takeNumber 65 = .ok (.getfield 25, 3) := by decide +kernel
theorem dX5_takeNumber_68 : decode cX5_takeNumber 68 = .ok (.isub, 1) := by decide +kernel
theorem dX5_takeNumber_69 : decode cX5_takeNumber 69 = .ok (.iconst 2, 1) := by decide +kernel
theorem dX5_takeNumber_70 : decode cX5_takeNumber 70 = .ok (.if_icmp .le 11, 3) := by decide +kernel
theorem dX5_takeNumber_73 : decode cX5_takeNumber 73 = .ok (.aload_n 0, 1) := by decide +kernel
theorem dX5_takeNumber_74 : decode cX5_takeNumber 74 = .ok (.iconst 1, 1) := by decide +kernel
theorem dX5_takeNumber_75 : decode cX5_takeNumber 75 = .ok (.invokevirtual 62, 3) := by decide +kernel
theorem dX5_takeNumber_78 : decode cX5_takeNumber 78 = .ok (.pop, 1) := by decide +kernel
theorem dX5_takeNumber_79 : decode cX5_takeNumber 79 = .ok (.iconst (-1), 1) := by decide +kernel
theorem dX5_takeNumber_80 : decode cX5_takeNumber 80 = .ok (.ireturn, 1) := by decide +kernel
theorem dX5_takeNumber_81 : decode cX5_takeNumber 81 = .ok (.iload 4, 2) := by decide +kernel
theorem dX5_takeNumber_83 : decode cX5_takeNumber 83 = .ok (.iload_n 1, 1) := by decide +kernel
theorem dX5_takeNumber_84 : decode cX5_takeNumber 84 = .ok (.iload_n 2, 1) := by decide +kernel
theorem dX5_takeNumber_85 : decode cX5_takeNumber 85 = .ok (.invokestatic 76, 3) := by decide +kernel
theorem dX5_takeNumber_88 : decode cX5_takeNumber 88 = .ok (.ifCond .ne 11, 3) := by decide +kernel
theorem dX5_takeNumber_91 : decode cX5_takeNumber 91 = .ok (.aload_n 0, 1) := by decide +kernel
theorem dX5_takeNumber_92 : decode cX5_takeNumber 92 = .ok (.iconst 2, 1) := by decide +kernel
theorem dX5_takeNumber_93 : decode cX5_takeNumber 93 = .ok (.invokevirtual 62, 3) := by decide +kernel
theorem dX5_takeNumber_96 : decode cX5_takeNumber 96 = .ok (.pop, 1) := by decide +kernel
theorem dX5_takeNumber_97 : decode cX5_takeNumber 97 = .ok (.iconst (-1), 1) := by decide +kernel
theorem dX5_takeNumber_98 : decode cX5_takeNumber 98 = .ok (.ireturn, 1) := by decide +kernel
theorem dX5_takeNumber_99 : decode cX5_takeNumber 99 = .ok (.aload_n 0, 1) := by decide +kernel
theorem dX5_takeNumber_100 : decode cX5_takeNumber 100 = .ok (.iload_n 3, 1) := by decide +kernel
theorem dX5_takeNumber_101 : decode cX5_takeNumber 101 = .ok (.putfield 25, 3) := by decide +kernel
theorem dX5_takeNumber_104 : decode cX5_takeNumber 104 = .ok (.iload 4, 2) := by decide +kernel
theorem dX5_takeNumber_106 : decode cX5_takeNumber 106 = .ok (.ireturn, 1) := by decide +kernel
theorem dX5_blame_0 : decode cX5_blame 0 = .ok (.aload_n 0, 1) := by decide +kernel
theorem dX5_blame_1 : decode cX5_blame 1 = .ok (.iload_n 1, 1) := by decide +kernel
theorem dX5_blame_2 : decode cX5_blame 2 = .ok (.putfield 22, 3) := by decide +kernel
theorem dX5_blame_5 : decode cX5_blame 5 = .ok (.aload_n 0, 1) := by decide +kernel
theorem dX5_blame_6 : decode cX5_blame 6 = .ok (.aload_n 0, 1) := by decide +kernel
theorem dX5_blame_7 : decode cX5_blame 7 = .ok (.getfield 25, 3) := by decide +kernel
theorem dX5_blame_10 : decode cX5_blame 10 = .ok (.putfield 15, 3) := by decide +kernel
theorem dX5_blame_13 : decode cX5_blame 13 = .ok (.iconst 0, 1) := by decide +kernel
theorem dX5_blame_14 : decode cX5_blame 14 = .ok (.ireturn, 1) := by decide +kernel
