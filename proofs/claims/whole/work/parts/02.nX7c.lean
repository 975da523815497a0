theorem dX7_when_23 : decode cX7_when 23 = .ok (.ifCond .ne 6, 3) := by decide +kernel
theorem dX7_when_26 : decode cX7_when 26 = .ok (.ldc 64, 2) := by decide +kernel
theorem dX7_when_28 : decode cX7_when 28 = .ok (.ireturn, 1) := by decide +kernel
theorem dX7_when_29 : decode cX7_when 29 = .ok (.ldc 50, 2) := by decide +kernel
theorem dX7_when_31 : decode cX7_when 31 = .ok (.istore_n 3, 1) := by decide +kernel
theorem dX7_when_32 : decode cX7_when 32 = .ok (.iconst 1, 1) := by decide +kernel
theorem dX7_when_33 : decode cX7_when 33 = .ok (.istore 4, 2) := by decide +kernel
theorem dX7_when_35 : decode cX7_when 35 = .ok (.iconst 0, 1) := by decide +kernel
theorem dX7_when_36 : decode cX7_when 36 = .ok (.istore 5, 2) := by decide +kernel
theorem dX7_when_38 : decode cX7_when 38 = .ok (.iload 5, 2) := by decide +kernel
theorem dX7_when_40 : decode cX7_when 40 = .ok (.iload_n 2, 1) := by decide +kernel
theorem dX7_when_41 : decode cX7_when 41 = .ok (.if_icmp .ge 82, 3) := by decide +kernel
theorem dX7_when_44 : decode cX7_when 44 = .ok (.aload_n 0, 1) := by decide +kernel
theorem dX7_when_45 : decode cX7_when 45 = .ok (.getfield 25, 3) := by decide +kernel
theorem dX7_when_48 : decode cX7_when 48 = .ok (.aload_n 0, 1) := by decide +kernel
theorem dX7_when_49 : decode cX7_when 49 = .ok (.getfield 25, 3) := by decide +kernel
theorem dX7_when_52 : decode cX7_when 52 = .ok (.iconst 2, 1) := by decide +kernel
theorem dX7_when_53 : decode cX7_when 53 = .ok (.iaload, 1) := by decide +kernel
theorem dX7_when_54 : decode cX7_when 54 = .ok (.iload 5, 2) := by decide +kernel
theorem dX7_when_56 : decode cX7_when 56 = .ok (.iadd, 1) := by decide +kernel
theorem dX7_when_57 : decode cX7_when 57 = .ok (.invokestatic 167, 3) := by decide +kernel
theorem dX7_when_60 : decode cX7_when 60 = .ok (.istore 6, 2) := by decide +kernel
theorem dX7_when_62 : decode cX7_when 62 = .ok (.iload 6, 2) := by decide +kernel
theorem dX7_when_64 : decode cX7_when 64 = .ok (.iload_n 1, 1) := by decide +kernel
theorem dX7_when_65 : decode cX7_when 65 = .ok (.invokestatic 138, 3) := by decide +kernel
theorem dX7_when_68 : decode cX7_when 68 = .ok (.ifCond .eq 17, 3) := by decide +kernel
theorem dX7_when_71 : decode cX7_when 71 = .ok (.iload 6, 2) := by decide +kernel
theorem dX7_when_73 : decode cX7_when 73 = .ok (.invokestatic 182, 3) := by decide +kernel
theorem dX7_when_76 : decode cX7_when 76 = .ok (.iload 4, 2) := by decide +kernel
theorem dX7_when_78 : decode cX7_when 78 = .ok (.if_icmp .le 7, 3) := by decide +kernel
theorem dX7_when_81 : decode cX7_when 81 = .ok (.iconst 1, 1) := by decide +kernel
theorem dX7_when_82 : decode cX7_when 82 = .ok (.goto 4, 3) := by decide +kernel
theorem dX7_when_85 : decode cX7_when 85 = .ok (.iconst 0, 1) := by decide +kernel
theorem dX7_when_86 : decode cX7_when 86 = .ok (.istore 7, 2) := by decide +kernel
theorem dX7_when_88 : decode cX7_when 88 = .ok (.iload 7, 2) := by decide +kernel
theorem dX7_when_90 : decode cX7_when 90 = .ok (.ifCond .eq 8, 3) := by decide +kernel
theorem dX7_when_93 : decode cX7_when 93 = .ok (.iload 5, 2) := by decide +kernel
theorem dX7_when_95 : decode cX7_when 95 = .ok (.goto 4, 3) := by decide +kernel
theorem dX7_when_98 : decode cX7_when 98 = .ok (.iload_n 3, 1) := by decide +kernel
theorem dX7_when_99 : decode cX7_when 99 = .ok (.istore_n 3, 1) := by decide +kernel
theorem dX7_when_100 : decode cX7_when 100 = .ok (.iload 7, 2) := by decide +kernel
theorem dX7_when_102 : decode cX7_when 102 = .ok (.ifCond .eq 11, 3) := by decide +kernel
theorem dX7_when_105 : decode cX7_when 105 = .ok (.iload 6, 2) := by decide +kernel
theorem dX7_when_107 : decode cX7_when 107 = .ok (.invokestatic 182, 3) := by decide +kernel
theorem dX7_when_110 : decode cX7_when 110 = .ok (.goto 5, 3) := by decide +kernel
theorem dX7_when_113 : decode cX7_when 113 = .ok (.iload 4, 2) := by decide +kernel
theorem dX7_when_115 : decode cX7_when 115 = .ok (.istore 4, 2) := by decide +kernel
theorem dX7_when_117 : decode cX7_when 117 = .ok (.iinc 5 1, 3) := by decide +kernel
theorem dX7_when_120 : decode cX7_when 120 = .ok (.goto (-82), 3) := by decide +kernel
theorem dX7_when_123 : decode cX7_when 123 = .ok (.iload_n 3, 1) := by decide +kernel
theorem dX7_when_124 : decode cX7_when 124 = .ok (.ireturn, 1) := by decide +kernel
set_option maxRecDepth 20000 in
theorem ggX7_fewest_X7_leftBy : GoodIn wsX7_fewest wsX7_leftBy := goodIn_r _ [6, 7, 8, 5, 9, 10, 11, 12, 13, 14, 15] (by decide +kernel) (by decide +kernel)
set_option maxRecDepth 20000 in
theorem gX7_fewest_X7_leftBy : GoodIn wsX7_fewest (va_wsS RX7 157 yX7_leftBy wsX7_leftBy) := goodIn_app (goodIn_of _ (by decide +kernel)) ggX7_fewest_X7_leftBy
set_option maxRecDepth 20000 in
theorem ggX7_fewest_X7_ones : GoodIn wsX7_fewest wsX7_ones := goodIn_r _ [18] (by decide +kernel) (by decide +kernel)
set_option maxRecDepth 20000 in
theorem gX7_fewest_X7_ones : GoodIn wsX7_fewest (va_wsS RX7 182 yX7_ones wsX7_ones) := goodIn_app (goodIn_of _ (by decide +kernel)) ggX7_fewest_X7_ones
theorem dX7_fewest_0 : decode cX7_fewest 0 = .ok (.ldc 50, 2) := by decide +kernel
theorem dX7_fewest_2 : decode cX7_fewest 2 = .ok (.istore_n 3, 1) := by decide +kernel
theorem dX7_fewest_3 : decode cX7_fewest 3 = .ok (.iconst 0, 1) := by decide +kernel
theorem dX7_fewest_4 : decode cX7_fewest 4 = .ok (.istore 4, 2) := by decide +kernel
theorem dX7_fewest_6 : decode cX7_fewest 6 = .ok (.iload 4, 2) := by decide +kernel
theorem dX7_fewest_8 : decode cX7_fewest 8 = .ok (.iload_n 1, 1) := by decide +kernel
theorem dX7_fewest_9 : decode cX7_fewest 9 = .ok (.if_icmp .gt 68, 3) := by decide +kernel
theorem dX7_fewest_12 : decode cX7_fewest 12 = .ok (.iload 4, 2) := by decide +kernel
theorem dX7_fewest_14 : decode cX7_fewest 14 = .ok (.iload_n 1, 1) := by decide +kernel
theorem dX7_fewest_15 : decode cX7_fewest 15 = .ok (.iconst (-1), 1) := by decide +kernel
theorem dX7_fewest_16 : decode cX7_fewest 16 = .ok (.ixor, 1) := by decide +kernel
theorem dX7_fewest_17 : decode cX7_fewest 17 = .ok (.iand, 1) := by decide +kernel
theorem dX7_fewest_18 : decode cX7_fewest 18 = .ok (.ifCond .ne 20, 3) := by decide +kernel
theorem dX7_fewest_21 : decode cX7_fewest 21 = .ok (.aload_n 0, 1) := by decide +kernel
theorem dX7_fewest_22 : decode cX7_fewest 22 = .ok (.getfield 25, 3) := by decide +kernel
theorem dX7_fewest_25 : decode cX7_fewest 25 = .ok (.iload 4, 2) := by decide +kernel
theorem dX7_fewest_27 : decode cX7_fewest 27 = .ok (.invokestatic 157, 3) := by decide +kernel
theorem dX7_fewest_30 : decode cX7_fewest 30 = .ok (.iload_n 2, 1) := by decide +kernel
theorem dX7_fewest_31 : decode cX7_fewest 31 = .ok (.if_icmp .ne 7, 3) := by decide +kernel
theorem dX7_fewest_34 : decode cX7_fewest 34 = .ok (.iconst 1, 1) := by decide +kernel
theorem dX7_fewest_35 : decode cX7_fewest 35 = .ok (.goto 4, 3) := by decide +kernel
theorem dX7_fewest_38 : decode cX7_fewest 38 = .ok (.iconst 0, 1) := by decide +kernel
theorem dX7_fewest_39 : decode cX7_fewest 39 = .ok (.istore 5, 2) := by decide +kernel
theorem dX7_fewest_41 : decode cX7_fewest 41 = .ok (.iload 5, 2) := by decide +kernel
theorem dX7_fewest_43 : decode cX7_fewest 43 = .ok (.ifCond .eq 26, 3) := by decide +kernel
theorem dX7_fewest_46 : decode cX7_fewest 46 = .ok (.iload_n 3, 1) := by decide +kernel
theorem dX7_fewest_47 : decode cX7_fewest 47 = .ok (.ldc 50, 2) := by decide +kernel
theorem dX7_fewest_49 : decode cX7_fewest 49 = .ok (.if_icmp .eq 15, 3) := by decide +kernel
theorem dX7_fewest_52 : decode cX7_fewest 52 = .ok (.iload 4, 2) := by decide +kernel
theorem dX7_fewest_54 : decode cX7_fewest 54 = .ok (.invokestatic 182, 3) := by decide +kernel
theorem dX7_fewest_57 : decode cX7_fewest 57 = .ok (.iload_n 3, 1) := by decide +kernel
theorem dX7_fewest_58 : decode cX7_fewest 58 = .ok (.invokestatic 182, 3) := by decide +kernel
theorem dX7_fewest_61 : decode cX7_fewest 61 = .ok (.if_icmp .ge 8, 3) := by decide +kernel
theorem dX7_fewest_64 : decode cX7_fewest 64 = .ok (.iload 4, 2) := by decide +kernel
theorem dX7_fewest_66 : decode cX7_fewest 66 = .ok (.goto 4, 3) := by decide +kernel
theorem dX7_fewest_69 : decode cX7_fewest 69 = .ok (.iload_n 3, 1) := by decide +kernel
theorem dX7_fewest_70 : decode cX7_fewest 70 = .ok (.istore_n 3, 1) := by decide +kernel
theorem dX7_fewest_71 : decode cX7_fewest 71 = .ok (.iinc 4 1, 3) := by decide +kernel
theorem dX7_fewest_74 : decode cX7_fewest 74 = .ok (.goto (-68), 3) := by decide +kernel
theorem dX7_fewest_77 : decode cX7_fewest 77 = .ok (.iload_n 3, 1) := by decide +kernel
theorem dX7_fewest_78 : decode cX7_fewest 78 = .ok (.ireturn, 1) := by decide +kernel
set_option maxRecDepth 20000 in
theorem ggX7_enough_X7_isCity : GoodIn wsX7_enough wsX7_isCity := goodIn_r _ [8, 3, 44, 45, 46, 47, 48, 49, 50, 51, 52, 53, 54, 55, 56, 57, 58, 59, 60, 61, 62, 63, 64, 65, 66] (by decide +kernel) (by decide +kernel)
set_option maxRecDepth 20000 in
theorem gX7_enough_X7_isCity : GoodIn wsX7_enough (wsV RX7 160 RX7 yX7_isCity wsX7_isCity) := goodIn_app (goodIn_of _ (by decide +kernel)) ggX7_enough_X7_isCity
set_option maxRecDepth 20000 in
theorem ggX7_enough_X7_isFar : GoodIn wsX7_enough wsX7_isFar := goodIn_r _ [11, 12, 13, 7, 14] (by decide +kernel) (by decide +kernel)
set_option maxRecDepth 20000 in
theorem gX7_enough_X7_isFar : GoodIn wsX7_enough (va_wsS RX7 176 yX7_isFar wsX7_isFar) := goodIn_app (goodIn_of _ (by decide +kernel)) ggX7_enough_X7_isFar
set_option maxRecDepth 20000 in
theorem ggX7_enough_X7_in : GoodIn wsX7_enough wsX7_in := goodIn_r _ [14] (by decide +kernel) (by decide +kernel)
set_option maxRecDepth 20000 in
theorem gX7_enough_X7_in : GoodIn wsX7_enough (va_wsS RX7 56 yX7_in wsX7_in) := goodIn_app (goodIn_of _ (by decide +kernel)) ggX7_enough_X7_in
set_option maxRecDepth 20000 in
theorem ggX7_enough_X7_workers : GoodIn wsX7_enough wsX7_workers := goodIn_r _ [17, 18, 19, 7, 20] (by decide +kernel) (by decide +kernel)
set_option maxRecDepth 20000 in
theorem gX7_enough_X7_workers : GoodIn wsX7_enough (va_wsS RX7 154 yX7_workers wsX7_workers) := goodIn_app (goodIn_of _ (by decide +kernel)) ggX7_enough_X7_workers
set_option maxRecDepth 20000 in
theorem ggX7_enough_X7_leftOn : GoodIn wsX7_enough wsX7_leftOn := goodIn_r _ [23, 15, 16, 7, 17, 18, 19, 20, 24, 25, 26, 27, 28, 29, 30, 31, 32, 33, 34, 35] (by decide +kernel) (by decide +kernel)
set_option maxRecDepth 20000 in
theorem gX7_enough_X7_leftOn : GoodIn wsX7_enough (va_wsS RX7 167 yX7_leftOn wsX7_leftOn) := goodIn_app (goodIn_of _ (by decide +kernel)) ggX7_enough_X7_leftOn
set_option maxRecDepth 20000 in
theorem ggX7_enough_X7_fewest : GoodIn wsX7_enough wsX7_fewest := goodIn_r _ [39, 40, 3, 24, 25, 7, 26, 27, 28, 29, 30, 31, 32, 33, 34, 35, 41, 42, 43, 44, 45, 46, 47, 48, 49, 50, 51, 52, 53, 54, 55, 56, 57, 58, 59, 60, 61, 62, 63, 64, 65, 66] (by decide +kernel) (by decide +kernel)
set_option maxRecDepth 20000 in
theorem gX7_enough_X7_fewest : GoodIn wsX7_enough (wsV RX7 191 RX7 yX7_fewest wsX7_fewest) := goodIn_app (goodIn_of _ (by decide +kernel)) ggX7_enough_X7_fewest
set_option maxRecDepth 20000 in
theorem ggX7_enough_X7_ones : GoodIn wsX7_enough wsX7_ones := goodIn_r _ [43] (by decide +kernel) (by decide +kernel)
set_option maxRecDepth 20000 in
theorem gX7_enough_X7_ones : GoodIn wsX7_enough (va_wsS RX7 182 yX7_ones wsX7_ones) := goodIn_app (goodIn_of _ (by decide +kernel)) ggX7_enough_X7_ones
theorem dX7_enough_0 : decode cX7_enough 0 = .ok (.aload_n 0, 1) := by decide +kernel
theorem dX7_enough_1 : decode cX7_enough 1 = .ok (.invokevirtual 160, 3) := by decide +kernel
theorem dX7_enough_4 : decode cX7_enough 4 = .ok (.ifCond .ne 6, 3) := by decide +kernel
theorem dX7_enough_7 : decode cX7_enough 7 = .ok (.ldc 163, 2) := by decide +kernel
theorem dX7_enough_9 : decode cX7_enough 9 = .ok (.ireturn, 1) := by decide +kernel
theorem dX7_enough_10 : decode cX7_enough 10 = .ok (.iload_n 1, 1) := by decide +kernel
theorem dX7_enough_11 : decode cX7_enough 11 = .ok (.invokestatic 176, 3) := by decide +kernel
theorem dX7_enough_14 : decode cX7_enough 14 = .ok (.ifCond .eq 12, 3) := by decide +kernel
theorem dX7_enough_17 : decode cX7_enough 17 = .ok (.iload_n 2, 1) := by decide +kernel
theorem dX7_enough_18 : decode cX7_enough 18 = .ok (.iconst 0, 1) := by decide +kernel
theorem dX7_enough_19 : decode cX7_enough 19 = .ok (.iconst 1, 1) := by decide +kernel
theorem dX7_enough_20 : decode cX7_enough 20 = .ok (.invokestatic 56, 3) := by decide +kernel
theorem dX7_enough_23 : decode cX7_enough 23 = .ok (.ifCond .ne 6, 3) := by decide +kernel
theorem dX7_enough_26 : decode cX7_enough 26 = .ok (.ldc 64, 2) := by decide +kernel
theorem dX7_enough_28 : decode cX7_enough 28 = .ok (.ireturn, 1) := by decide +kernel
theorem dX7_enough_29 : decode cX7_enough 29 = .ok (.aload_n 0, 1) := by decide +kernel
theorem dX7_enough_30 : decode cX7_enough 30 = .ok (.aload_n 0, 1) := by decide +kernel
theorem dX7_enough_31 : decode cX7_enough 31 = .ok (.getfield 25, 3) := by decide +kernel
theorem dX7_enough_34 : decode cX7_enough 34 = .ok (.aload_n 0, 1) := by decide +kernel
theorem dX7_enough_35 : decode cX7_enough 35 = .ok (.getfield 25, 3) := by decide +kernel
theorem dX7_enough_38 : decode cX7_enough 38 = .ok (.iconst 2, 1) := by decide +kernel
theorem dX7_enough_39 : decode cX7_enough 39 = .ok (.iaload, 1) := by decide +kernel
theorem dX7_enough_40 : decode cX7_enough 40 = .ok (.iload_n 1, 1) := by decide +kernel
theorem dX7_enough_41 : decode cX7_enough 41 = .ok (.iadd, 1) := by decide +kernel
theorem dX7_enough_42 : decode cX7_enough 42 = .ok (.invokestatic 154, 3) := by decide +kernel
theorem dX7_enough_45 : decode cX7_enough 45 = .ok (.aload_n 0, 1) := by decide +kernel
theorem dX7_enough_46 : decode cX7_enough 46 = .ok (.getfield 25, 3) := by decide +kernel
theorem dX7_enough_49 : decode cX7_enough 49 = .ok (.aload_n 0, 1) := by decide +kernel
theorem dX7_enough_50 : decode cX7_enough 50 = .ok (.getfield 25, 3) := by decide +kernel
theorem dX7_enough_53 : decode cX7_enough 53 = .ok (.iconst 2, 1) := by decide +kernel
theorem dX7_enough_54 : decode cX7_enough 54 = .ok (.iaload, 1) := by decide +kernel
theorem dX7_enough_55 : decode cX7_enough 55 = .ok (.iload_n 1, 1) := by decide +kernel
theorem dX7_enough_56 : decode cX7_enough 56 = .ok (.iadd, 1) := by decide +kernel
theorem dX7_enough_57 : decode cX7_enough 57 = .ok (.invokestatic 167, 3) := by decide +kernel
theorem dX7_enough_60 : decode cX7_enough 60 = .ok (.invokevirtual 191, 3) := by decide +kernel
theorem dX7_enough_63 : decode cX7_enough 63 = .ok (.istore_n 3, 1) := by decide +kernel
theorem dX7_enough_64 : decode cX7_enough 64 = .ok (.iload_n 2, 1) := by decide +kernel
theorem dX7_enough_65 : decode cX7_enough 65 = .ok (.iconst 1, 1) := by decide +kernel
theorem dX7_enough_66 : decode cX7_enough 66 = .ok (.if_icmp .ne 7, 3) := by decide +kernel
theorem dX7_enough_69 : decode cX7_enough 69 = .ok (.iload_n 3, 1) := by decide +kernel
theorem dX7_enough_70 : decode cX7_enough 70 = .ok (.goto 7, 3) := by decide +kernel
theorem dX7_enough_73 : decode cX7_enough 73 = .ok (.iload_n 3, 1) := by decide +kernel
theorem dX7_enough_74 : decode cX7_enough 74 = .ok (.invokestatic 182, 3) := by decide +kernel
theorem dX7_enough_77 : decode cX7_enough 77 = .ok (.ireturn, 1) := by decide +kernel
set_option maxRecDepth 20000 in
theorem ggX7_clash_X7_isCity : GoodIn wsX7_clash wsX7_isCity := goodIn_r _ [9, 3, 41, 42, 43, 44, 45, 46, 47, 48, 49, 50, 51, 52, 53, 54, 55, 56, 57, 58, 59, 60, 61, 62, 63] (by decide +kernel) (by decide +kernel)
set_option maxRecDepth 20000 in
theorem gX7_clash_X7_isCity : GoodIn wsX7_clash (wsV RX7 160 RX7 yX7_isCity wsX7_isCity) := goodIn_app (goodIn_of _ (by decide +kernel)) ggX7_clash_X7_isCity
set_option maxRecDepth 20000 in
theorem ggX7_clash_X7_isFar : GoodIn wsX7_clash wsX7_isFar := goodIn_r _ [12, 13, 14, 8, 15] (by decide +kernel) (by decide +kernel)
set_option maxRecDepth 20000 in
theorem gX7_clash_X7_isFar : GoodIn wsX7_clash (va_wsS RX7 176 yX7_isFar wsX7_isFar) := goodIn_app (goodIn_of _ (by decide +kernel)) ggX7_clash_X7_isFar
set_option maxRecDepth 20000 in
theorem ggX7_clash_X7_in : GoodIn wsX7_clash wsX7_in := goodIn_r _ [15] (by decide +kernel) (by decide +kernel)
set_option maxRecDepth 20000 in
theorem gX7_clash_X7_in : GoodIn wsX7_clash (va_wsS RX7 56 yX7_in wsX7_in) := goodIn_app (goodIn_of _ (by decide +kernel)) ggX7_clash_X7_in
set_option maxRecDepth 20000 in
theorem ggX7_clash_X7_workers : GoodIn wsX7_clash wsX7_workers := goodIn_r _ [18, 19, 20, 8, 21] (by decide +kernel) (by decide +kernel)
set_option maxRecDepth 20000 in
theorem gX7_clash_X7_workers : GoodIn wsX7_clash (va_wsS RX7 154 yX7_workers wsX7_workers) := goodIn_app (goodIn_of _ (by decide +kernel)) ggX7_clash_X7_workers
set_option maxRecDepth 20000 in
theorem ggX7_clash_X7_fewest : GoodIn wsX7_clash wsX7_fewest := goodIn_r _ [25, 4, 3, 26, 27, 8, 28, 29, 30, 31, 32, 33, 34, 35, 36, 37, 38, 39, 40, 41, 42, 43, 44, 45, 46, 47, 48, 49, 50, 51, 52, 53, 54, 55, 56, 57, 58, 59, 60, 61, 62, 63] (by decide +kernel) (by decide +kernel)
set_option maxRecDepth 20000 in
theorem gX7_clash_X7_fewest : GoodIn wsX7_clash (wsV RX7 191 RX7 yX7_fewest wsX7_fewest) := goodIn_app (goodIn_of _ (by decide +kernel)) ggX7_clash_X7_fewest
set_option maxRecDepth 20000 in
theorem ggX7_clash_X7_ones : GoodIn wsX7_clash wsX7_ones := goodIn_r _ [40] (by decide +kernel) (by decide +kernel)
set_option maxRecDepth 20000 in
theorem gX7_clash_X7_ones : GoodIn wsX7_clash (va_wsS RX7 182 yX7_ones wsX7_ones) := goodIn_app (goodIn_of _ (by decide +kernel)) ggX7_clash_X7_ones
theorem dX7_clash_0 : decode cX7_clash 0 = .ok (.aload_n 0, 1) := by decide +kernel
theorem dX7_clash_1 : decode cX7_clash 1 = .ok (.invokevirtual 160, 3) := by decide +kernel
theorem dX7_clash_4 : decode cX7_clash 4 = .ok (.ifCond .ne 6, 3) := by decide +kernel
theorem dX7_clash_7 : decode cX7_clash 7 = .ok (.ldc 163, 2) := by decide +kernel
theorem dX7_clash_9 : decode cX7_clash 9 = .ok (.ireturn, 1) := by decide +kernel
theorem dX7_clash_10 : decode cX7_clash 10 = .ok (.iload_n 1, 1) := by decide +kernel
theorem dX7_clash_11 : decode cX7_clash 11 = .ok (.invokestatic 176, 3) := by decide +kernel
theorem dX7_clash_14 : decode cX7_clash 14 = .ok (.ifCond .eq 12, 3) := by decide +kernel
theorem dX7_clash_17 : decode cX7_clash 17 = .ok (.iload_n 2, 1) := by decide +kernel
theorem dX7_clash_18 : decode cX7_clash 18 = .ok (.iconst 0, 1) := by decide +kernel
theorem dX7_clash_19 : decode cX7_clash 19 = .ok (.iconst 1, 1) := by decide +kernel
theorem dX7_clash_20 : decode cX7_clash 20 = .ok (.invokestatic 56, 3) := by decide +kernel
theorem dX7_clash_23 : decode cX7_clash 23 = .ok (.ifCond .ne 6, 3) := by decide +kernel
theorem dX7_clash_26 : decode cX7_clash 26 = .ok (.ldc 64, 2) := by decide +kernel
theorem dX7_clash_28 : decode cX7_clash 28 = .ok (.ireturn, 1) := by decide +kernel
theorem dX7_clash_29 : decode cX7_clash 29 = .ok (.aload_n 0, 1) := by decide +kernel
theorem dX7_clash_30 : decode cX7_clash 30 = .ok (.aload_n 0, 1) := by decide +kernel
theorem dX7_clash_31 : decode cX7_clash 31 = .ok (.getfield 25, 3) := by decide +kernel
theorem dX7_clash_34 : decode cX7_clash 34 = .ok (.aload_n 0, 1) := by decide +kernel
theorem dX7_clash_35 : decode cX7_clash 35 = .ok (.getfield 25, 3) := by decide +kernel
theorem dX7_clash_38 : decode cX7_clash 38 = .ok (.iconst 2, 1) := by decide +kernel
theorem dX7_clash_39 : decode cX7_clash 39 = .ok (.iaload, 1) := by decide +kernel
theorem dX7_clash_40 : decode cX7_clash 40 = .ok (.iload_n 1, 1) := by decide +kernel
theorem dX7_clash_41 : decode cX7_clash 41 = .ok (.iadd, 1) := by decide +kernel
theorem dX7_clash_42 : decode cX7_clash 42 = .ok (.invokestatic 154, 3) := by decide +kernel
theorem dX7_clash_45 : decode cX7_clash 45 = .ok (.iconst 0, 1) := by decide +kernel
theorem dX7_clash_46 : decode cX7_clash 46 = .ok (.invokevirtual 191, 3) := by decide +kernel
theorem dX7_clash_49 : decode cX7_clash 49 = .ok (.istore_n 3, 1) := by decide +kernel
theorem dX7_clash_50 : decode cX7_clash 50 = .ok (.iload_n 3, 1) := by decide +kernel
theorem dX7_clash_51 : decode cX7_clash 51 = .ok (.ldc 50, 2) := by decide +kernel
theorem dX7_clash_53 : decode cX7_clash 53 = .ok (.if_icmp .eq 8, 3) := by decide +kernel
theorem dX7_clash_56 : decode cX7_clash 56 = .ok (.iload_n 2, 1) := by decide +kernel
theorem dX7_clash_57 : decode cX7_clash 57 = .ok (.iconst 1, 1) := by decide +kernel
theorem dX7_clash_58 : decode cX7_clash 58 = .ok (.if_icmp .ne 7, 3) := by decide +kernel
theorem dX7_clash_61 : decode cX7_clash 61 = .ok (.iload_n 3, 1) := by decide +kernel
theorem dX7_clash_62 : decode cX7_clash 62 = .ok (.goto 7, 3) := by decide +kernel
theorem dX7_clash_65 : decode cX7_clash 65 = .ok (.iload_n 3, 1) := by decide +kernel
theorem dX7_clash_66 : decode cX7_clash 66 = .ok (.invokestatic 182, 3) := by decide +kernel
theorem dX7_clash_69 : decode cX7_clash 69 = .ok (.ireturn, 1) := by decide +kernel
set_option maxRecDepth 20000 in
theorem ggX7_goesSo_X7_leftOn : GoodIn wsX7_goesSo wsX7_leftOn := goodIn_r _ [6, 7, 8, 5, 9, 10, 11, 12, 13, 14, 15, 16, 17, 18, 19, 20, 21, 22, 23, 24] (by decide +kernel) (by decide +kernel)
set_option maxRecDepth 20000 in
theorem gX7_goesSo_X7_leftOn : GoodIn wsX7_goesSo (va_wsS RX7 167 yX7_leftOn wsX7_leftOn) := goodIn_app (goodIn_of _ (by decide +kernel)) ggX7_goesSo_X7_leftOn
theorem dX7_goesSo_0 : decode cX7_goesSo 0 = .ok (.iconst 1, 1) := by decide +kernel
theorem dX7_goesSo_1 : decode cX7_goesSo 1 = .ok (.istore_n 3, 1) := by decide +kernel
theorem dX7_goesSo_2 : decode cX7_goesSo 2 = .ok (.iconst 0, 1) := by decide +kernel
theorem dX7_goesSo_3 : decode cX7_goesSo 3 = .ok (.istore 4, 2) := by decide +kernel
theorem dX7_goesSo_5 : decode cX7_goesSo 5 = .ok (.iload 4, 2) := by decide +kernel
theorem dX7_goesSo_7 : decode cX7_goesSo 7 = .ok (.iload_n 2, 1) := by decide +kernel
theorem dX7_goesSo_8 : decode cX7_goesSo 8 = .ok (.if_icmp .ge 47, 3) := by decide +kernel
theorem dX7_goesSo_11 : decode cX7_goesSo 11 = .ok (.iload_n 3, 1) := by decide +kernel
theorem dX7_goesSo_12 : decode cX7_goesSo 12 = .ok (.ifCond .eq 35, 3) := by decide +kernel
theorem dX7_goesSo_15 : decode cX7_goesSo 15 = .ok (.aload_n 0, 1) := by decide +kernel
theorem dX7_goesSo_16 : decode cX7_goesSo 16 = .ok (.getfield 31, 3) := by decide +kernel
theorem dX7_goesSo_19 : decode cX7_goesSo 19 = .ok (.aload_n 0, 1) := by decide +kernel
theorem dX7_goesSo_20 : decode cX7_goesSo 20 = .ok (.getfield 31, 3) := by decide +kernel
theorem dX7_goesSo_23 : decode cX7_goesSo 23 = .ok (.iconst 2, 1) := by decide +kernel
theorem dX7_goesSo_24 : decode cX7_goesSo 24 = .ok (.iaload, 1) := by decide +kernel
theorem dX7_goesSo_25 : decode cX7_goesSo 25 = .ok (.iload 4, 2) := by decide +kernel
theorem dX7_goesSo_27 : decode cX7_goesSo 27 = .ok (.iadd, 1) := by decide +kernel
theorem dX7_goesSo_28 : decode cX7_goesSo 28 = .ok (.invokestatic 167, 3) := by decide +kernel
theorem dX7_goesSo_31 : decode cX7_goesSo 31 = .ok (.aload_n 0, 1) := by decide +kernel
theorem dX7_goesSo_32 : decode cX7_goesSo 32 = .ok (.getfield 16, 3) := by decide +kernel
theorem dX7_goesSo_35 : decode cX7_goesSo 35 = .ok (.iload_n 1, 1) := by decide +kernel
theorem dX7_goesSo_36 : decode cX7_goesSo 36 = .ok (.iload 4, 2) := by decide +kernel
theorem dX7_goesSo_38 : decode cX7_goesSo 38 = .ok (.iadd, 1) := by decide +kernel
theorem dX7_goesSo_39 : decode cX7_goesSo 39 = .ok (.iaload, 1) := by decide +kernel
theorem dX7_goesSo_40 : decode cX7_goesSo 40 = .ok (.if_icmp .ne 7, 3) := by decide +kernel
theorem dX7_goesSo_43 : decode cX7_goesSo 43 = .ok (.iconst 1, 1) := by decide +kernel
theorem dX7_goesSo_44 : decode cX7_goesSo 44 = .ok (.goto 4, 3) := by decide +kernel
theorem dX7_goesSo_47 : decode cX7_goesSo 47 = .ok (.iconst 0, 1) := by decide +kernel
theorem dX7_goesSo_48 : decode cX7_goesSo 48 = .ok (.istore_n 3, 1) := by decide +kernel
theorem dX7_goesSo_49 : decode cX7_goesSo 49 = .ok (.iinc 4 1, 3) := by decide +kernel
theorem dX7_goesSo_52 : decode cX7_goesSo 52 = .ok (.goto (-47), 3) := by decide +kernel
theorem dX7_goesSo_55 : decode cX7_goesSo 55 = .ok (.iload_n 3, 1) := by decide +kernel
theorem dX7_goesSo_56 : decode cX7_goesSo 56 = .ok (.ireturn, 1) := by decide +kernel
set_option maxRecDepth 20000 in
theorem ggX7_bribes_X7_isCity : GoodIn wsX7_bribes wsX7_isCity := goodIn_r _ [9, 3, 66, 67, 68, 69, 70, 71, 72, 73, 74, 75, 76, 77, 78, 79, 80, 81, 82, 83, 84, 85, 86, 87, 88] (by decide +kernel) (by decide +kernel)
set_option maxRecDepth 20000 in
theorem gX7_bribes_X7_isCity : GoodIn wsX7_bribes (wsV RX7 160 RX7 yX7_isCity wsX7_isCity) := goodIn_app (goodIn_of _ (by decide +kernel)) ggX7_bribes_X7_isCity
set_option maxRecDepth 20000 in
theorem ggX7_bribes_X7_isRow : GoodIn wsX7_bribes wsX7_isRow := goodIn_r _ [12, 13, 14, 8, 15] (by decide +kernel) (by decide +kernel)
set_option maxRecDepth 20000 in
theorem gX7_bribes_X7_isRow : GoodIn wsX7_bribes (va_wsS RX7 60 yX7_isRow wsX7_isRow) := goodIn_app (goodIn_of _ (by decide +kernel)) ggX7_bribes_X7_isRow
set_option maxRecDepth 20000 in
theorem ggX7_bribes_X7_in : GoodIn wsX7_bribes wsX7_in := goodIn_r _ [15] (by decide +kernel) (by decide +kernel)
set_option maxRecDepth 20000 in
theorem gX7_bribes_X7_in : GoodIn wsX7_bribes (va_wsS RX7 56 yX7_in wsX7_in) := goodIn_app (goodIn_of _ (by decide +kernel)) ggX7_bribes_X7_in
set_option maxRecDepth 20000 in
theorem ggX7_bribes_X7_isMissing : GoodIn wsX7_bribes wsX7_isMissing := goodIn_r _ [19, 20, 21, 66, 67, 68, 69, 70, 71, 72, 73, 74, 75, 76, 77, 78, 79, 80, 81, 82, 83, 84, 85, 86, 87, 88] (by decide +kernel) (by decide +kernel)
set_option maxRecDepth 20000 in
theorem gX7_bribes_X7_isMissing : GoodIn wsX7_bribes (wsV RX7 72 RX7 yX7_isMissing wsX7_isMissing) := goodIn_app (goodIn_of _ (by decide +kernel)) ggX7_bribes_X7_isMissing
set_option maxRecDepth 20000 in
theorem ggX7_bribes_X7_found : GoodIn wsX7_bribes wsX7_found := goodIn_r _ [25, 26, 27, 66, 67, 68, 69, 70, 71, 72, 73, 74, 75, 76, 77, 78, 79, 80, 81, 82, 83, 84, 85, 86, 87, 88] (by decide +kernel) (by decide +kernel)
set_option maxRecDepth 20000 in
theorem gX7_bribes_X7_found : GoodIn wsX7_bribes (wsV RX7 65 RX7 yX7_found wsX7_found) := goodIn_app (goodIn_of _ (by decide +kernel)) ggX7_bribes_X7_found
set_option maxRecDepth 20000 in
theorem ggX7_bribes_X7_isPart : GoodIn wsX7_bribes wsX7_isPart := goodIn_r _ [31, 32, 66, 67, 68, 69, 70, 71, 72, 73, 74, 75, 76, 77, 78, 79, 80, 81, 82, 83, 84, 85, 86, 87, 88] (by decide +kernel) (by decide +kernel)
set_option maxRecDepth 20000 in
theorem gX7_bribes_X7_isPart : GoodIn wsX7_bribes (wsV RX7 79 RX7 yX7_isPart wsX7_isPart) := goodIn_app (goodIn_of _ (by decide +kernel)) ggX7_bribes_X7_isPart
set_option maxRecDepth 20000 in
theorem ggX7_bribes_X7_copies : GoodIn wsX7_bribes wsX7_copies := goodIn_r _ [35] (by decide +kernel) (by decide +kernel)
set_option maxRecDepth 20000 in
theorem gX7_bribes_X7_copies : GoodIn wsX7_bribes (va_wsS RX7 131 yX7_copies wsX7_copies) := goodIn_app (goodIn_of _ (by decide +kernel)) ggX7_bribes_X7_copies
set_option maxRecDepth 20000 in
theorem ggX7_bribes_X7_goesSo : GoodIn wsX7_bribes wsX7_goesSo := goodIn_r _ [39, 4, 40, 41, 42, 8, 43, 44, 45, 46, 47, 48, 49, 50, 51, 52, 53, 54, 55, 56, 57, 58, 59, 60, 61, 66, 67, 68, 69, 70, 71, 72, 73, 74, 75, 76, 77, 78, 79, 80, 81, 82, 83, 84, 85, 86, 87, 88] (by decide +kernel) (by decide +kernel)
set_option maxRecDepth 20000 in
theorem gX7_bribes_X7_goesSo : GoodIn wsX7_bribes (wsV RX7 194 RX7 yX7_goesSo wsX7_goesSo) := goodIn_app (goodIn_of _ (by decide +kernel)) ggX7_bribes_X7_goesSo
set_option maxRecDepth 20000 in
theorem ggX7_bribes_X7_well : GoodIn wsX7_bribes wsX7_well := goodIn_r _ [65, 26, 66, 67, 68, 69, 70, 71, 72, 73, 74, 75, 76, 77, 78, 79, 80, 81, 82, 83, 84, 85, 86, 87, 88] (by decide +kernel) (by decide +kernel)
set_option maxRecDepth 20000 in
theorem gX7_bribes_X7_well : GoodIn wsX7_bribes (wsV RX7 69 RX7 yX7_well wsX7_well) := goodIn_app (goodIn_of _ (by decide +kernel)) ggX7_bribes_X7_well
theorem dX7_bribes_0 : decode cX7_bribes 0 = .ok (.aload_n 0, 1) := by decide +kernel
theorem dX7_bribes_1 : decode cX7_bribes 1 = .ok (.invokevirtual 160, 3) := by decide +kernel
theorem dX7_bribes_4 : decode cX7_bribes 4 = .ok (.ifCond .ne 6, 3) := by decide +kernel
theorem dX7_bribes_7 : decode cX7_bribes 7 = .ok (.ldc 163, 2) := by decide +kernel
theorem dX7_bribes_9 : decode cX7_bribes 9 = .ok (.ireturn, 1) := by decide +kernel
theorem dX7_bribes_10 : decode cX7_bribes 10 = .ok (.iload_n 1, 1) := by decide +kernel
theorem dX7_bribes_11 : decode cX7_bribes 11 = .ok (.invokestatic 60, 3) := by decide +kernel
theorem dX7_bribes_14 : decode cX7_bribes 14 = .ok (.ifCond .eq 13, 3) := by decide +kernel
theorem dX7_bribes_17 : decode cX7_bribes 17 = .ok (.iload_n 3, 1) := by decide +kernel
theorem dX7_bribes_18 : decode cX7_bribes 18 = .ok (.iconst 1, 1) := by decide +kernel
theorem dX7_bribes_19 : decode cX7_bribes 19 = .ok (.bipush 16, 2) := by decide +kernel
theorem dX7_bribes_21 : decode cX7_bribes 21 = .ok (.invokestatic 56, 3) := by decide +kernel
theorem dX7_bribes_24 : decode cX7_bribes 24 = .ok (.ifCond .ne 6, 3) := by decide +kernel
theorem dX7_bribes_27 : decode cX7_bribes 27 = .ok (.ldc 64, 2) := by decide +kernel
theorem dX7_bribes_29 : decode cX7_bribes 29 = .ok (.ireturn, 1) := by decide +kernel
theorem dX7_bribes_30 : decode cX7_bribes 30 = .ok (.aload_n 0, 1) := by decide +kernel
theorem dX7_bribes_31 : decode cX7_bribes 31 = .ok (.iload_n 1, 1) := by decide +kernel
theorem dX7_bribes_32 : decode cX7_bribes 32 = .ok (.invokevirtual 72, 3) := by decide +kernel
theorem dX7_bribes_35 : decode cX7_bribes 35 = .ok (.ifCond .eq 9, 3) := by decide +kernel
theorem dX7_bribes_38 : decode cX7_bribes 38 = .ok (.aload_n 0, 1) := by decide +kernel
theorem dX7_bribes_39 : decode cX7_bribes 39 = .ok (.iconst 1, 1) := by decide +kernel
theorem dX7_bribes_40 : decode cX7_bribes 40 = .ok (.invokevirtual 65, 3) := by decide +kernel
theorem dX7_bribes_43 : decode cX7_bribes 43 = .ok (.ireturn, 1) := by decide +kernel
theorem dX7_bribes_44 : decode cX7_bribes 44 = .ok (.aload_n 0, 1) := by decide +kernel
theorem dX7_bribes_45 : decode cX7_bribes 45 = .ok (.iload_n 1, 1) := by decide +kernel
theorem dX7_bribes_46 : decode cX7_bribes 46 = .ok (.iload_n 2, 1) := by decide +kernel
theorem dX7_bribes_47 : decode cX7_bribes 47 = .ok (.iload_n 3, 1) := by decide +kernel
theorem dX7_bribes_48 : decode cX7_bribes 48 = .ok (.invokevirtual 79, 3) := by decide +kernel
theorem dX7_bribes_51 : decode cX7_bribes 51 = .ok (.ifCond .ne 9, 3) := by decide +kernel
theorem dX7_bribes_54 : decode cX7_bribes 54 = .ok (.aload_n 0, 1) := by decide +kernel
theorem dX7_bribes_55 : decode cX7_bribes 55 = .ok (.iconst 2, 1) := by decide +kernel
theorem dX7_bribes_56 : decode cX7_bribes 56 = .ok (.invokevirtual 65, 3) := by decide +kernel
theorem dX7_bribes_59 : decode cX7_bribes 59 = .ok (.ireturn, 1) := by decide +kernel
theorem dX7_bribes_60 : decode cX7_bribes 60 = .ok (.aload_n 0, 1) := by decide +kernel
theorem dX7_bribes_61 : decode cX7_bribes 61 = .ok (.getfield 25, 3) := by decide +kernel
theorem dX7_bribes_64 : decode cX7_bribes 64 = .ok (.iconst 0, 1) := by decide +kernel
theorem dX7_bribes_65 : decode cX7_bribes 65 = .ok (.aload_n 0, 1) := by decide +kernel
theorem dX7_bribes_66 : decode cX7_bribes 66 = .ok (.getfield 31, 3) := by decide +kernel
theorem dX7_bribes_69 : decode cX7_bribes 69 = .ok (.iconst 0, 1) := by decide +kernel
theorem dX7_bribes_70 : decode cX7_bribes 70 = .ok (.invokestatic 131, 3) := by decide +kernel
theorem dX7_bribes_73 : decode cX7_bribes 73 = .ok (.aload_n 0, 1) := by decide +kernel
theorem dX7_bribes_74 : decode cX7_bribes 74 = .ok (.bipush 40, 2) := by decide +kernel
theorem dX7_bribes_76 : decode cX7_bribes 76 = .ok (.iload_n 1, 1) := by decide +kernel
theorem dX7_bribes_77 : decode cX7_bribes 77 = .ok (.imul, 1) := by decide +kernel
theorem dX7_bribes_78 : decode cX7_bribes 78 = .ok (.iload_n 2, 1) := by decide +kernel
theorem dX7_bribes_79 : decode cX7_bribes 79 = .ok (.iadd, 1) := by decide +kernel
theorem dX7_bribes_80 : decode cX7_bribes 80 = .ok (.iload_n 3, 1) := by decide +kernel
theorem dX7_bribes_81 : decode cX7_bribes 81 = .ok (.invokevirtual 194, 3) := by decide +kernel
theorem dX7_bribes_84 : decode cX7_bribes 84 = .ok (.ifCond .eq 8, 3) := by decide +kernel
theorem dX7_bribes_87 : decode cX7_bribes 87 = .ok (.bipush 64, 2) := by decide +kernel
theorem dX7_bribes_89 : decode cX7_bribes 89 = .ok (.goto 4, 3) := by decide +kernel
theorem dX7_bribes_92 : decode cX7_bribes 92 = .ok (.iconst 0, 1) := by decide +kernel
theorem dX7_bribes_93 : decode cX7_bribes 93 = .ok (.istore 4, 2) := by decide +kernel
theorem dX7_bribes_95 : decode cX7_bribes 95 = .ok (.iconst 0, 1) := by decide +kernel
theorem dX7_bribes_96 : decode cX7_bribes 96 = .ok (.istore 5, 2) := by decide +kernel
theorem dX7_bribes_98 : decode cX7_bribes 98 = .ok (.iload 5, 2) := by decide +kernel
theorem dX7_bribes_100 : decode cX7_bribes 100 = .ok (.aload_n 0, 1) := by decide +kernel
theorem dX7_bribes_101 : decode cX7_bribes 101 = .ok (.getfield 25, 3) := by decide +kernel
theorem dX7_bribes_104 : decode cX7_bribes 104 = .ok (.iconst 4, 1) := by decide +kernel
theorem dX7_bribes_105 : decode cX7_bribes 105 = .ok (.iaload, 1) := by decide +kernel
theorem dX7_bribes_106 : decode cX7_bribes 106 = .ok (.if_icmp .ge 53, 3) := by decide +kernel
theorem dX7_bribes_109 : decode cX7_bribes 109 = .ok (.aload_n 0, 1) := by decide +kernel
theorem dX7_bribes_110 : decode cX7_bribes 110 = .ok (.getfield 31, 3) := by decide +kernel
theorem dX7_bribes_113 : decode cX7_bribes 113 = .ok (.iconst 3, 1) := by decide +kernel
theorem dX7_bribes_114 : decode cX7_bribes 114 = .ok (.aload_n 0, 1) := by decide +kernel
theorem dX7_bribes_115 : decode cX7_bribes 115 = .ok (.getfield 25, 3) := by decide +kernel
theorem dX7_bribes_118 : decode cX7_bribes 118 = .ok (.iconst 3, 1) := by decide +kernel
theorem dX7_bribes_119 : decode cX7_bribes 119 = .ok (.iaload, 1) := by decide +kernel
theorem dX7_bribes_120 : decode cX7_bribes 120 = .ok (.iconst 1, 1) := by decide +kernel
theorem dX7_bribes_121 : decode cX7_bribes 121 = .ok (.iload 5, 2) := by decide +kernel
theorem dX7_bribes_123 : decode cX7_bribes 123 = .ok (.ishl, 1) := by decide +kernel
theorem dX7_bribes_124 : decode cX7_bribes 124 = .ok (.ixor, 1) := by decide +kernel
theorem dX7_bribes_125 : decode cX7_bribes 125 = .ok (.iastore, 1) := by decide +kernel
theorem dX7_bribes_126 : decode cX7_bribes 126 = .ok (.iload 4, 2) := by decide +kernel
theorem dX7_bribes_128 : decode cX7_bribes 128 = .ok (.aload_n 0, 1) := by decide +kernel
theorem dX7_bribes_129 : decode cX7_bribes 129 = .ok (.bipush 40, 2) := by decide +kernel
theorem dX7_bribes_131 : decode cX7_bribes 131 = .ok (.iload_n 1, 1) := by decide +kernel
theorem dX7_bribes_132 : decode cX7_bribes 132 = .ok (.imul, 1) := by decide +kernel
theorem dX7_bribes_133 : decode cX7_bribes 133 = .ok (.iload_n 2, 1) := by decide +kernel
theorem dX7_bribes_134 : decode cX7_bribes 134 = .ok (.iadd, 1) := by decide +kernel
theorem dX7_bribes_135 : decode cX7_bribes 135 = .ok (.iload_n 3, 1) := by decide +kernel
theorem dX7_bribes_136 : decode cX7_bribes 136 = .ok (.invokevirtual 194, 3) := by decide +kernel
theorem dX7_bribes_139 : decode cX7_bribes 139 = .ok (.ifCond .eq 10, 3) := by decide +kernel
theorem dX7_bribes_142 : decode cX7_bribes 142 = .ok (.iconst 1, 1) := by decide +kernel
theorem dX7_bribes_143 : decode cX7_bribes 143 = .ok (.iload 5, 2) := by decide +kernel
theorem dX7_bribes_145 : decode cX7_bribes 145 = .ok (.ishl, 1) := by decide +kernel
theorem dX7_bribes_146 : decode cX7_bribes 146 = .ok (.goto 4, 3) := by decide +kernel
theorem dX7_bribes_149 : decode cX7_bribes 149 = .ok (.iconst 0, 1) := by decide +kernel
theorem dX7_bribes_150 : decode cX7_bribes 150 = .ok (.ior, 1) := by decide +kernel
theorem dX7_bribes_151 : decode cX7_bribes 151 = .ok (.istore 4, 2) := by decide +kernel
theorem dX7_bribes_153 : decode cX7_bribes 153 = .ok (.iinc 5 1, 3) := by decide +kernel
theorem dX7_bribes_156 : decode cX7_bribes 156 = .ok (.goto (-58), 3) := by decide +kernel
theorem dX7_bribes_159 : decode cX7_bribes 159 = .ok (.aload_n 0, 1) := by decide +kernel
theorem dX7_bribes_160 : decode cX7_bribes 160 = .ok (.iload 4, 2) := by decide +kernel
theorem dX7_bribes_162 : decode cX7_bribes 162 = .ok (.invokevirtual 69, 3) := by decide +kernel
theorem dX7_bribes_165 : decode cX7_bribes 165 = .ok (.ireturn, 1) := by decide +kernel
set_option maxRecDepth 20000 in
theorem ggX7_fits_X7_isClue : GoodIn wsX7_fits wsX7_isClue := goodIn_r _ [8, 2, 9, 10, 7, 11, 65, 66, 67, 68, 69, 70, 71, 72, 73, 74, 75, 76, 77, 78, 79, 80, 81, 82, 83, 84, 85, 86, 87] (by decide +kernel) (by decide +kernel)
set_option maxRecDepth 20000 in
theorem gX7_fits_X7_isClue : GoodIn wsX7_fits (wsV RX7 170 RX7 yX7_isClue wsX7_isClue) := goodIn_app (goodIn_of _ (by decide +kernel)) ggX7_fits_X7_isClue
set_option maxRecDepth 20000 in
theorem ggX7_fits_X7_isRow : GoodIn wsX7_fits wsX7_isRow := goodIn_r _ [14, 9, 10, 7, 11] (by decide +kernel) (by decide +kernel)
set_option maxRecDepth 20000 in
theorem gX7_fits_X7_isRow : GoodIn wsX7_fits (va_wsS RX7 60 yX7_isRow wsX7_isRow) := goodIn_app (goodIn_of _ (by decide +kernel)) ggX7_fits_X7_isRow
set_option maxRecDepth 20000 in
theorem ggX7_fits_X7_in : GoodIn wsX7_fits wsX7_in := goodIn_r _ [11] (by decide +kernel) (by decide +kernel)
set_option maxRecDepth 20000 in
theorem gX7_fits_X7_in : GoodIn wsX7_fits (va_wsS RX7 56 yX7_in wsX7_in) := goodIn_app (goodIn_of _ (by decide +kernel)) ggX7_fits_X7_in
set_option maxRecDepth 20000 in
theorem ggX7_fits_X7_isMissing : GoodIn wsX7_fits wsX7_isMissing := goodIn_r _ [18, 19, 20, 65, 66, 67, 68, 69, 70, 71, 72, 73, 74, 75, 76, 77, 78, 79, 80, 81, 82, 83, 84, 85, 86, 87] (by decide +kernel) (by decide +kernel)
set_option maxRecDepth 20000 in
theorem gX7_fits_X7_isMissing : GoodIn wsX7_fits (wsV RX7 72 RX7 yX7_isMissing wsX7_isMissing) := goodIn_app (goodIn_of _ (by decide +kernel)) ggX7_fits_X7_isMissing
set_option maxRecDepth 20000 in
theorem ggX7_fits_X7_found : GoodIn wsX7_fits wsX7_found := goodIn_r _ [24, 25, 26, 65, 66, 67, 68, 69, 70, 71, 72, 73, 74, 75, 76, 77, 78, 79, 80, 81, 82, 83, 84, 85, 86, 87] (by decide +kernel) (by decide +kernel)
set_option maxRecDepth 20000 in
theorem gX7_fits_X7_found : GoodIn wsX7_fits (wsV RX7 65 RX7 yX7_found wsX7_found) := goodIn_app (goodIn_of _ (by decide +kernel)) ggX7_fits_X7_found
set_option maxRecDepth 20000 in
theorem ggX7_fits_X7_isPart : GoodIn wsX7_fits wsX7_isPart := goodIn_r _ [30, 31, 65, 66, 67, 68, 69, 70, 71, 72, 73, 74, 75, 76, 77, 78, 79, 80, 81, 82, 83, 84, 85, 86, 87] (by decide +kernel) (by decide +kernel)
set_option maxRecDepth 20000 in
theorem gX7_fits_X7_isPart : GoodIn wsX7_fits (wsV RX7 79 RX7 yX7_isPart wsX7_isPart) := goodIn_app (goodIn_of _ (by decide +kernel)) ggX7_fits_X7_isPart
set_option maxRecDepth 20000 in
theorem ggX7_fits_X7_copies : GoodIn wsX7_fits wsX7_copies := goodIn_r _ [34] (by decide +kernel) (by decide +kernel)
set_option maxRecDepth 20000 in
theorem gX7_fits_X7_copies : GoodIn wsX7_fits (va_wsS RX7 131 yX7_copies wsX7_copies) := goodIn_app (goodIn_of _ (by decide +kernel)) ggX7_fits_X7_copies
set_option maxRecDepth 20000 in
theorem ggX7_fits_X7_goesSo : GoodIn wsX7_fits wsX7_goesSo := goodIn_r _ [38, 3, 39, 40, 41, 7, 42, 43, 44, 45, 46, 47, 48, 49, 50, 51, 52, 53, 54, 55, 56, 57, 58, 59, 60, 65, 66, 67, 68, 69, 70, 71, 72, 73, 74, 75, 76, 77, 78, 79, 80, 81, 82, 83, 84, 85, 86, 87] (by decide +kernel) (by decide +kernel)
set_option maxRecDepth 20000 in
theorem gX7_fits_X7_goesSo : GoodIn wsX7_fits (wsV RX7 194 RX7 yX7_goesSo wsX7_goesSo) := goodIn_app (goodIn_of _ (by decide +kernel)) ggX7_fits_X7_goesSo
set_option maxRecDepth 20000 in
theorem ggX7_fits_X7_well : GoodIn wsX7_fits wsX7_well := goodIn_r _ [64, 25, 65, 66, 67, 68, 69, 70, 71, 72, 73, 74, 75, 76, 77, 78, 79, 80, 81, 82, 83, 84, 85, 86, 87] (by decide +kernel) (by decide +kernel)
set_option maxRecDepth 20000 in
theorem gX7_fits_X7_well : GoodIn wsX7_fits (wsV RX7 69 RX7 yX7_well wsX7_well) := goodIn_app (goodIn_of _ (by decide +kernel)) ggX7_fits_X7_well
theorem dX7_fits_0 : decode cX7_fits 0 = .ok (.aload_n 0, 1) := by decide +kernel
theorem dX7_fits_1 : decode cX7_fits 1 = .ok (.iload_n 1, 1) := by decide +kernel
theorem dX7_fits_2 : decode cX7_fits 2 = .ok (.invokevirtual 170, 3) := by decide +kernel
theorem dX7_fits_5 : decode cX7_fits 5 = .ok (.ifCond .eq 31, 3) := by decide +kernel
theorem dX7_fits_8 : decode cX7_fits 8 = .ok (.iload_n 2, 1) := by decide +kernel
theorem dX7_fits_9 : decode cX7_fits 9 = .ok (.invokestatic 60, 3) := by decide +kernel
theorem dX7_fits_12 : decode cX7_fits 12 = .ok (.ifCond .eq 24, 3) := by decide +kernel
theorem dX7_fits_15 : decode cX7_fits 15 = .ok (.iload 4, 2) := by decide +kernel
theorem dX7_fits_17 : decode cX7_fits 17 = .ok (.iconst 1, 1) := by decide +kernel
theorem dX7_fits_18 : decode cX7_fits 18 = .ok (.bipush 16, 2) := by decide +kernel
theorem dX7_fits_20 : decode cX7_fits 20 = .ok (.invokestatic 56, 3) := by decide +kernel
theorem dX7_fits_23 : decode cX7_fits 23 = .ok (.ifCond .eq 13, 3) := by decide +kernel
theorem dX7_fits_26 : decode cX7_fits 26 = .ok (.iload 5, 2) := by decide +kernel
theorem dX7_fits_28 : decode cX7_fits 28 = .ok (.iconst 0, 1) := by decide +kernel
theorem dX7_fits_29 : decode cX7_fits 29 = .ok (.iconst 1, 1) := by decide +kernel
theorem dX7_fits_30 : decode cX7_fits 30 = .ok (.invokestatic 56, 3) := by decide +kernel
theorem dX7_fits_33 : decode cX7_fits 33 = .ok (.ifCond .ne 6, 3) := by decide +kernel
theorem dX7_fits_36 : decode cX7_fits 36 = .ok (.ldc 64, 2) := by decide +kernel
theorem dX7_fits_38 : decode cX7_fits 38 = .ok (.ireturn, 1) := by decide +kernel
theorem dX7_fits_39 : decode cX7_fits 39 = .ok (.aload_n 0, 1) := by decide +kernel
theorem dX7_fits_40 : decode cX7_fits 40 = .ok (.iload_n 2, 1) := by decide +kernel
theorem dX7_fits_41 : decode cX7_fits 41 = .ok (.invokevirtual 72, 3) := by decide +kernel
theorem dX7_fits_44 : decode cX7_fits 44 = .ok (.ifCond .eq 9, 3) := by decide +kernel
theorem dX7_fits_47 : decode cX7_fits 47 = .ok (.aload_n 0, 1) := by decide +kernel
theorem dX7_fits_48 : decode cX7_fits 48 = .ok (.iconst 1, 1) := by decide +kernel
theorem dX7_fits_49 : decode cX7_fits 49 = .ok (.invokevirtual 65, 3) := by decide +kernel
theorem dX7_fits_52 : decode cX7_fits 52 = .ok (.ireturn, 1) := by decide +kernel
theorem dX7_fits_53 : decode cX7_fits 53 = .ok (.aload_n 0, 1) := by decide +kernel
theorem dX7_fits_54 : decode cX7_fits 54 = .ok (.iload_n 2, 1) := by decide +kernel
theorem dX7_fits_55 : decode cX7_fits 55 = .ok (.iload_n 3, 1) := by decide +kernel
theorem dX7_fits_56 : decode cX7_fits 56 = .ok (.iload 4, 2) := by decide +kernel
theorem dX7_fits_58 : decode cX7_fits 58 = .ok (.invokevirtual 79, 3) := by decide +kernel
theorem dX7_fits_61 : decode cX7_fits 61 = .ok (.ifCond .ne 9, 3) := by decide +kernel
theorem dX7_fits_64 : decode cX7_fits 64 = .ok (.aload_n 0, 1) := by decide +kernel
theorem dX7_fits_65 : decode cX7_fits 65 = .ok (.iconst 2, 1) := by decide +kernel
theorem dX7_fits_66 : decode cX7_fits 66 = .ok (.invokevirtual 65, 3) := by decide +kernel
theorem dX7_fits_69 : decode cX7_fits 69 = .ok (.ireturn, 1) := by decide +kernel
theorem dX7_fits_70 : decode cX7_fits 70 = .ok (.iconst 5, 1) := by decide +kernel
theorem dX7_fits_71 : decode cX7_fits 71 = .ok (.iconst 4, 1) := by decide +kernel
theorem dX7_fits_72 : decode cX7_fits 72 = .ok (.iload_n 1, 1) := by decide +kernel
theorem dX7_fits_73 : decode cX7_fits 73 = .ok (.imul, 1) := by decide +kernel
theorem dX7_fits_74 : decode cX7_fits 74 = .ok (.iadd, 1) := by decide +kernel
theorem dX7_fits_75 : decode cX7_fits 75 = .ok (.iload 5, 2) := by decide +kernel
theorem dX7_fits_77 : decode cX7_fits 77 = .ok (.ifCond .ne 7, 3) := by decide +kernel
theorem dX7_fits_80 : decode cX7_fits 80 = .ok (.iconst 0, 1) := by decide +kernel
theorem dX7_fits_81 : decode cX7_fits 81 = .ok (.goto 4, 3) := by decide +kernel
theorem dX7_fits_84 : decode cX7_fits 84 = .ok (.iconst 3, 1) := by decide +kernel
theorem dX7_fits_85 : decode cX7_fits 85 = .ok (.iadd, 1) := by decide +kernel
theorem dX7_fits_86 : decode cX7_fits 86 = .ok (.istore 6, 2) := by decide +kernel
theorem dX7_fits_88 : decode cX7_fits 88 = .ok (.iload 5, 2) := by decide +kernel
theorem dX7_fits_90 : decode cX7_fits 90 = .ok (.ifCond .ne 7, 3) := by decide +kernel
theorem dX7_fits_93 : decode cX7_fits 93 = .ok (.iconst 1, 1) := by decide +kernel
theorem dX7_fits_94 : decode cX7_fits 94 = .ok (.goto 4, 3) := by decide +kernel
theorem dX7_fits_97 : decode cX7_fits 97 = .ok (.iconst 0, 1) := by decide +kernel
theorem dX7_fits_98 : decode cX7_fits 98 = .ok (.istore 7, 2) := by decide +kernel
theorem dX7_fits_100 : decode cX7_fits 100 = .ok (.iload 5, 2) := by decide +kernel
theorem dX7_fits_102 : decode cX7_fits 102 = .ok (.ifCond .ne 7, 3) := by decide +kernel
theorem dX7_fits_105 : decode cX7_fits 105 = .ok (.iconst 5, 1) := by decide +kernel
theorem dX7_fits_106 : decode cX7_fits 106 = .ok (.goto 17, 3) := by decide +kernel
theorem dX7_fits_109 : decode cX7_fits 109 = .ok (.aload_n 0, 1) := by decide +kernel
theorem dX7_fits_110 : decode cX7_fits 110 = .ok (.getfield 25, 3) := by decide +kernel
theorem dX7_fits_113 : decode cX7_fits 113 = .ok (.iconst 5, 1) := by decide +kernel
theorem dX7_fits_114 : decode cX7_fits 114 = .ok (.iconst 4, 1) := by decide +kernel
theorem dX7_fits_115 : decode cX7_fits 115 = .ok (.iload_n 1, 1) := by decide +kernel
theorem dX7_fits_116 : decode cX7_fits 116 = .ok (.imul, 1) := by decide +kernel
theorem dX7_fits_117 : decode cX7_fits 117 = .ok (.iadd, 1) := by decide +kernel
theorem dX7_fits_118 : decode cX7_fits 118 = .ok (.iconst 2, 1) := by decide +kernel
theorem dX7_fits_119 : decode cX7_fits 119 = .ok (.iadd, 1) := by decide +kernel
theorem dX7_fits_120 : decode cX7_fits 120 = .ok (.iaload, 1) := by decide +kernel
theorem dX7_fits_121 : decode cX7_fits 121 = .ok (.iconst 1, 1) := by decide +kernel
theorem dX7_fits_122 : decode cX7_fits 122 = .ok (.isub, 1) := by decide +kernel
theorem dX7_fits_123 : decode cX7_fits 123 = .ok (.istore 8, 2) := by decide +kernel
theorem dX7_fits_125 : decode cX7_fits 125 = .ok (.iconst 0, 1) := by decide +kernel
theorem dX7_fits_126 : decode cX7_fits 126 = .ok (.istore 9, 2) := by decide +kernel
theorem dX7_fits_128 : decode cX7_fits 128 = .ok (.aload_n 0, 1) := by decide +kernel
theorem dX7_fits_129 : decode cX7_fits 129 = .ok (.getfield 25, 3) := by decide +kernel
theorem dX7_fits_132 : decode cX7_fits 132 = .ok (.iconst 0, 1) := by decide +kernel
theorem dX7_fits_133 : decode cX7_fits 133 = .ok (.aload_n 0, 1) := by decide +kernel
theorem dX7_fits_134 : decode cX7_fits 134 = .ok (.getfield 31, 3) := by decide +kernel
theorem dX7_fits_137 : decode cX7_fits 137 = .ok (.iconst 0, 1) := by decide +kernel
theorem dX7_fits_138 : decode cX7_fits 138 = .ok (.invokestatic 131, 3) := by decide +kernel
theorem dX7_fits_141 : decode cX7_fits 141 = .ok (.iload 7, 2) := by decide +kernel
theorem dX7_fits_143 : decode cX7_fits 143 = .ok (.istore 10, 2) := by decide +kernel
theorem dX7_fits_145 : decode cX7_fits 145 = .ok (.iload 10, 2) := by decide +kernel
theorem dX7_fits_147 : decode cX7_fits 147 = .ok (.iload 8, 2) := by decide +kernel
theorem dX7_fits_149 : decode cX7_fits 149 = .ok (.if_icmp .gt 46, 3) := by decide +kernel
theorem dX7_fits_152 : decode cX7_fits 152 = .ok (.aload_n 0, 1) := by decide +kernel
theorem dX7_fits_153 : decode cX7_fits 153 = .ok (.getfield 31, 3) := by decide +kernel
theorem dX7_fits_156 : decode cX7_fits 156 = .ok (.iload 6, 2) := by decide +kernel
theorem dX7_fits_158 : decode cX7_fits 158 = .ok (.iload 10, 2) := by decide +kernel
theorem dX7_fits_160 : decode cX7_fits 160 = .ok (.iastore, 1) := by decide +kernel
theorem dX7_fits_161 : decode cX7_fits 161 = .ok (.iload 9, 2) := by decide +kernel
theorem dX7_fits_163 : decode cX7_fits 163 = .ok (.aload_n 0, 1) := by decide +kernel
theorem dX7_fits_164 : decode cX7_fits 164 = .ok (.bipush 40, 2) := by decide +kernel
theorem dX7_fits_166 : decode cX7_fits 166 = .ok (.iload_n 2, 1) := by decide +kernel
theorem dX7_fits_167 : decode cX7_fits 167 = .ok (.imul, 1) := by decide +kernel
theorem dX7_fits_168 : decode cX7_fits 168 = .ok (.iload_n 3, 1) := by decide +kernel
theorem dX7_fits_169 : decode cX7_fits 169 = .ok (.iadd, 1) := by decide +kernel
theorem dX7_fits_170 : decode cX7_fits 170 = .ok (.iload 4, 2) := by decide +kernel
theorem dX7_fits_172 : decode cX7_fits 172 = .ok (.invokevirtual 194, 3) := by decide +kernel
theorem dX7_fits_175 : decode cX7_fits 175 = .ok (.ifCond .eq 10, 3) := by decide +kernel
theorem dX7_fits_178 : decode cX7_fits 178 = .ok (.iconst 1, 1) := by decide +kernel
theorem dX7_fits_179 : decode cX7_fits 179 = .ok (.iload 10, 2) := by decide +kernel
theorem dX7_fits_181 : decode cX7_fits 181 = .ok (.ishl, 1) := by decide +kernel
theorem dX7_fits_182 : decode cX7_fits 182 = .ok (.goto 4, 3) := by decide +kernel
theorem dX7_fits_185 : decode cX7_fits 185 = .ok (.iconst 0, 1) := by decide +kernel
theorem dX7_fits_186 : decode cX7_fits 186 = .ok (.ior, 1) := by decide +kernel
theorem dX7_fits_187 : decode cX7_fits 187 = .ok (.istore 9, 2) := by decide +kernel
theorem dX7_fits_189 : decode cX7_fits 189 = .ok (.iinc 10 1, 3) := by decide +kernel
theorem dX7_fits_192 : decode cX7_fits 192 = .ok (.goto (-47), 3) := by decide +kernel
theorem dX7_fits_195 : decode cX7_fits 195 = .ok (.aload_n 0, 1) := by decide +kernel
theorem dX7_fits_196 : decode cX7_fits 196 = .ok (.iload 9, 2) := by decide +kernel
theorem dX7_fits_198 : decode cX7_fits 198 = .ok (.invokevirtual 69, 3) := by decide +kernel
theorem dX7_fits_201 : decode cX7_fits 201 = .ok (.ireturn, 1) := by decide +kernel
set_option maxRecDepth 20000 in
theorem ggX7_strike_X7_isCity : GoodIn wsX7_strike wsX7_isCity := goodIn_r _ [8, 3, 36, 37, 38, 39, 40, 41, 42, 43, 44, 45, 46, 47, 48, 49, 50, 51, 52, 53, 54, 55, 56, 57, 58] (by decide +kernel) (by decide +kernel)
set_option maxRecDepth 20000 in
theorem gX7_strike_X7_isCity : GoodIn wsX7_strike (wsV RX7 160 RX7 yX7_isCity wsX7_isCity) := goodIn_app (goodIn_of _ (by decide +kernel)) ggX7_strike_X7_isCity
set_option maxRecDepth 20000 in
theorem ggX7_strike_X7_isFar : GoodIn wsX7_strike wsX7_isFar := goodIn_r _ [11, 12, 13, 7, 14] (by decide +kernel) (by decide +kernel)
set_option maxRecDepth 20000 in
theorem gX7_strike_X7_isFar : GoodIn wsX7_strike (va_wsS RX7 176 yX7_isFar wsX7_isFar) := goodIn_app (goodIn_of _ (by decide +kernel)) ggX7_strike_X7_isFar
set_option maxRecDepth 20000 in
theorem ggX7_strike_X7_in : GoodIn wsX7_strike wsX7_in := goodIn_r _ [14] (by decide +kernel) (by decide +kernel)
set_option maxRecDepth 20000 in
theorem gX7_strike_X7_in : GoodIn wsX7_strike (va_wsS RX7 56 yX7_in wsX7_in) := goodIn_app (goodIn_of _ (by decide +kernel)) ggX7_strike_X7_in
set_option maxRecDepth 20000 in
theorem ggX7_strike_X7_workers : GoodIn wsX7_strike wsX7_workers := goodIn_r _ [17, 18, 19, 7, 20] (by decide +kernel) (by decide +kernel)
set_option maxRecDepth 20000 in
theorem gX7_strike_X7_workers : GoodIn wsX7_strike (va_wsS RX7 154 yX7_workers wsX7_workers) := goodIn_app (goodIn_of _ (by decide +kernel)) ggX7_strike_X7_workers
set_option maxRecDepth 20000 in
theorem ggX7_strike_X7_has : GoodIn wsX7_strike wsX7_has := goodIn_r _ [23] (by decide +kernel) (by decide +kernel)
set_option maxRecDepth 20000 in
theorem gX7_strike_X7_has : GoodIn wsX7_strike (va_wsS RX7 138 yX7_has wsX7_has) := goodIn_app (goodIn_of _ (by decide +kernel)) ggX7_strike_X7_has
set_option maxRecDepth 20000 in
theorem ggX7_strike_X7_leftBy : GoodIn wsX7_strike wsX7_leftBy := goodIn_r _ [26, 27, 28, 7, 29, 21, 22, 23, 30, 31, 32] (by decide +kernel) (by decide +kernel)
set_option maxRecDepth 20000 in
theorem gX7_strike_X7_leftBy : GoodIn wsX7_strike (va_wsS RX7 157 yX7_leftBy wsX7_leftBy) := goodIn_app (goodIn_of _ (by decide +kernel)) ggX7_strike_X7_leftBy
set_option maxRecDepth 20000 in
theorem ggX7_strike_X7_ones : GoodIn wsX7_strike wsX7_ones := goodIn_r _ [35] (by decide +kernel) (by decide +kernel)
set_option maxRecDepth 20000 in
theorem gX7_strike_X7_ones : GoodIn wsX7_strike (va_wsS RX7 182 yX7_ones wsX7_ones) := goodIn_app (goodIn_of _ (by decide +kernel)) ggX7_strike_X7_ones
theorem dX7_strike_0 : decode cX7_strike 0 = .ok (.aload_n 0, 1) := by decide +kernel
theorem dX7_strike_1 : decode cX7_strike 1 = .ok (.invokevirtual 160, 3) := by decide +kernel
theorem dX7_strike_4 : decode cX7_strike 4 = .ok (.ifCond .ne 6, 3) := by decide +kernel
theorem dX7_strike_7 : decode cX7_strike 7 = .ok (.ldc 163, 2) := by decide +kernel
theorem dX7_strike_9 : decode cX7_strike 9 = .ok (.ireturn, 1) := by decide +kernel
theorem dX7_strike_10 : decode cX7_strike 10 = .ok (.iload_n 1, 1) := by decide +kernel
theorem dX7_strike_11 : decode cX7_strike 11 = .ok (.invokestatic 176, 3) := by decide +kernel
theorem dX7_strike_14 : decode cX7_strike 14 = .ok (.ifCond .eq 22, 3) := by decide +kernel
theorem dX7_strike_17 : decode cX7_strike 17 = .ok (.iload_n 2, 1) := by decide +kernel
theorem dX7_strike_18 : decode cX7_strike 18 = .ok (.iconst 0, 1) := by decide +kernel
theorem dX7_strike_19 : decode cX7_strike 19 = .ok (.bipush 10, 2) := by decide +kernel
theorem dX7_strike_21 : decode cX7_strike 21 = .ok (.invokestatic 56, 3) := by decide +kernel
theorem dX7_strike_24 : decode cX7_strike 24 = .ok (.ifCond .eq 12, 3) := by decide +kernel
theorem dX7_strike_27 : decode cX7_strike 27 = .ok (.iload_n 3, 1) := by decide +kernel
theorem dX7_strike_28 : decode cX7_strike 28 = .ok (.iconst 0, 1) := by decide +kernel
theorem dX7_strike_29 : decode cX7_strike 29 = .ok (.iconst 1, 1) := by decide +kernel
theorem dX7_strike_30 : decode cX7_strike 30 = .ok (.invokestatic 56, 3) := by decide +kernel
theorem dX7_strike_33 : decode cX7_strike 33 = .ok (.ifCond .ne 6, 3) := by decide +kernel
theorem dX7_strike_36 : decode cX7_strike 36 = .ok (.ldc 64, 2) := by decide +kernel
theorem dX7_strike_38 : decode cX7_strike 38 = .ok (.ireturn, 1) := by decide +kernel
theorem dX7_strike_39 : decode cX7_strike 39 = .ok (.aload_n 0, 1) := by decide +kernel
theorem dX7_strike_40 : decode cX7_strike 40 = .ok (.getfield 25, 3) := by decide +kernel
theorem dX7_strike_43 : decode cX7_strike 43 = .ok (.aload_n 0, 1) := by decide +kernel
theorem dX7_strike_44 : decode cX7_strike 44 = .ok (.getfield 25, 3) := by decide +kernel
theorem dX7_strike_47 : decode cX7_strike 47 = .ok (.iconst 2, 1) := by decide +kernel
theorem dX7_strike_48 : decode cX7_strike 48 = .ok (.iaload, 1) := by decide +kernel
theorem dX7_strike_49 : decode cX7_strike 49 = .ok (.iload_n 1, 1) := by decide +kernel
theorem dX7_strike_50 : decode cX7_strike 50 = .ok (.iadd, 1) := by decide +kernel
theorem dX7_strike_51 : decode cX7_strike 51 = .ok (.invokestatic 154, 3) := by decide +kernel
theorem dX7_strike_54 : decode cX7_strike 54 = .ok (.istore 4, 2) := by decide +kernel
theorem dX7_strike_56 : decode cX7_strike 56 = .ok (.iconst 0, 1) := by decide +kernel
theorem dX7_strike_57 : decode cX7_strike 57 = .ok (.istore 5, 2) := by decide +kernel
theorem dX7_strike_59 : decode cX7_strike 59 = .ok (.iconst 1, 1) := by decide +kernel
theorem dX7_strike_60 : decode cX7_strike 60 = .ok (.istore 6, 2) := by decide +kernel
theorem dX7_strike_62 : decode cX7_strike 62 = .ok (.iconst 0, 1) := by decide +kernel
theorem dX7_strike_63 : decode cX7_strike 63 = .ok (.istore 7, 2) := by decide +kernel
theorem dX7_strike_65 : decode cX7_strike 65 = .ok (.iload 7, 2) := by decide +kernel
theorem dX7_strike_67 : decode cX7_strike 67 = .ok (.aload_n 0, 1) := by decide +kernel
theorem dX7_strike_68 : decode cX7_strike 68 = .ok (.getfield 25, 3) := by decide +kernel
theorem dX7_strike_71 : decode cX7_strike 71 = .ok (.iconst 4, 1) := by decide +kernel
theorem dX7_strike_72 : decode cX7_strike 72 = .ok (.iaload, 1) := by decide +kernel
theorem dX7_strike_73 : decode cX7_strike 73 = .ok (.if_icmp .ge 30, 3) := by decide +kernel
theorem dX7_strike_76 : decode cX7_strike 76 = .ok (.iload 6, 2) := by decide +kernel
theorem dX7_strike_78 : decode cX7_strike 78 = .ok (.iload 4, 2) := by decide +kernel
theorem dX7_strike_80 : decode cX7_strike 80 = .ok (.iload 7, 2) := by decide +kernel
theorem dX7_strike_82 : decode cX7_strike 82 = .ok (.invokestatic 138, 3) := by decide +kernel
theorem dX7_strike_85 : decode cX7_strike 85 = .ok (.ifCond .eq 8, 3) := by decide +kernel
theorem dX7_strike_88 : decode cX7_strike 88 = .ok (.bipush 10, 2) := by decide +kernel
theorem dX7_strike_90 : decode cX7_strike 90 = .ok (.goto 4, 3) := by decide +kernel
theorem dX7_strike_93 : decode cX7_strike 93 = .ok (.iconst 1, 1) := by decide +kernel
theorem dX7_strike_94 : decode cX7_strike 94 = .ok (.imul, 1) := by decide +kernel
theorem dX7_strike_95 : decode cX7_strike 95 = .ok (.istore 6, 2) := by decide +kernel
theorem dX7_strike_97 : decode cX7_strike 97 = .ok (.iinc 7 1, 3) := by decide +kernel
theorem dX7_strike_100 : decode cX7_strike 100 = .ok (.goto (-35), 3) := by decide +kernel
theorem dX7_strike_103 : decode cX7_strike 103 = .ok (.iconst 0, 1) := by decide +kernel
theorem dX7_strike_104 : decode cX7_strike 104 = .ok (.istore 7, 2) := by decide +kernel
theorem dX7_strike_106 : decode cX7_strike 106 = .ok (.iload 7, 2) := by decide +kernel
theorem dX7_strike_108 : decode cX7_strike 108 = .ok (.iload 4, 2) := by decide +kernel
theorem dX7_strike_110 : decode cX7_strike 110 = .ok (.if_icmp .gt 111, 3) := by decide +kernel
theorem dX7_strike_113 : decode cX7_strike 113 = .ok (.iload 7, 2) := by decide +kernel
theorem dX7_strike_115 : decode cX7_strike 115 = .ok (.iload 4, 2) := by decide +kernel
theorem dX7_strike_117 : decode cX7_strike 117 = .ok (.iconst (-1), 1) := by decide +kernel
theorem dX7_strike_118 : decode cX7_strike 118 = .ok (.ixor, 1) := by decide +kernel
theorem dX7_strike_119 : decode cX7_strike 119 = .ok (.iand, 1) := by decide +kernel
theorem dX7_strike_120 : decode cX7_strike 120 = .ok (.ifCond .ne 28, 3) := by decide +kernel
theorem dX7_strike_123 : decode cX7_strike 123 = .ok (.aload_n 0, 1) := by decide +kernel
theorem dX7_strike_124 : decode cX7_strike 124 = .ok (.getfield 25, 3) := by decide +kernel
theorem dX7_strike_127 : decode cX7_strike 127 = .ok (.iload 4, 2) := by decide +kernel
theorem dX7_strike_129 : decode cX7_strike 129 = .ok (.iload 7, 2) := by decide +kernel
theorem dX7_strike_131 : decode cX7_strike 131 = .ok (.iconst (-1), 1) := by decide +kernel
theorem dX7_strike_132 : decode cX7_strike 132 = .ok (.ixor, 1) := by decide +kernel
theorem dX7_strike_133 : decode cX7_strike 133 = .ok (.iand, 1) := by decide +kernel
theorem dX7_strike_134 : decode cX7_strike 134 = .ok (.invokestatic 157, 3) := by decide +kernel
theorem dX7_strike_137 : decode cX7_strike 137 = .ok (.invokestatic 182, 3) := by decide +kernel
theorem dX7_strike_140 : decode cX7_strike 140 = .ok (.iconst 1, 1) := by decide +kernel
theorem dX7_strike_141 : decode cX7_strike 141 = .ok (.if_icmp .ne 7, 3) := by decide +kernel
theorem dX7_strike_144 : decode cX7_strike 144 = .ok (.iconst 1, 1) := by decide +kernel
theorem dX7_strike_145 : decode cX7_strike 145 = .ok (.goto 4, 3) := by decide +kernel
theorem dX7_strike_148 : decode cX7_strike 148 = .ok (.iconst 0, 1) := by decide +kernel
theorem dX7_strike_149 : decode cX7_strike 149 = .ok (.istore 8, 2) := by decide +kernel
theorem dX7_strike_151 : decode cX7_strike 151 = .ok (.iconst 0, 1) := by decide +kernel
theorem dX7_strike_152 : decode cX7_strike 152 = .ok (.istore 9, 2) := by decide +kernel
theorem dX7_strike_154 : decode cX7_strike 154 = .ok (.iload 9, 2) := by decide +kernel
theorem dX7_strike_156 : decode cX7_strike 156 = .ok (.aload_n 0, 1) := by decide +kernel
theorem dX7_strike_157 : decode cX7_strike 157 = .ok (.getfield 25, 3) := by decide +kernel
theorem dX7_strike_160 : decode cX7_strike 160 = .ok (.iconst 4, 1) := by decide +kernel
theorem dX7_strike_161 : decode cX7_strike 161 = .ok (.iaload, 1) := by decide +kernel
theorem dX7_strike_162 : decode cX7_strike 162 = .ok (.if_icmp .ge 46, 3) := by decide +kernel
theorem dX7_strike_165 : decode cX7_strike 165 = .ok (.iload 8, 2) := by decide +kernel
theorem dX7_strike_167 : decode cX7_strike 167 = .ok (.iload 4, 2) := by decide +kernel
theorem dX7_strike_169 : decode cX7_strike 169 = .ok (.iload 9, 2) := by decide +kernel
theorem dX7_strike_171 : decode cX7_strike 171 = .ok (.invokestatic 138, 3) := by decide +kernel
theorem dX7_strike_174 : decode cX7_strike 174 = .ok (.ifCond .ne 7, 3) := by decide +kernel
theorem dX7_strike_177 : decode cX7_strike 177 = .ok (.iconst 1, 1) := by decide +kernel
theorem dX7_strike_178 : decode cX7_strike 178 = .ok (.goto 21, 3) := by decide +kernel
theorem dX7_strike_181 : decode cX7_strike 181 = .ok (.iload 7, 2) := by decide +kernel
theorem dX7_strike_183 : decode cX7_strike 183 = .ok (.iload 9, 2) := by decide +kernel
theorem dX7_strike_185 : decode cX7_strike 185 = .ok (.invokestatic 138, 3) := by decide +kernel
theorem dX7_strike_188 : decode cX7_strike 188 = .ok (.ifCond .eq 7, 3) := by decide +kernel
theorem dX7_strike_191 : decode cX7_strike 191 = .ok (.iload_n 2, 1) := by decide +kernel
theorem dX7_strike_192 : decode cX7_strike 192 = .ok (.goto 7, 3) := by decide +kernel
theorem dX7_strike_195 : decode cX7_strike 195 = .ok (.bipush 10, 2) := by decide +kernel
theorem dX7_strike_197 : decode cX7_strike 197 = .ok (.iload_n 2, 1) := by decide +kernel
theorem dX7_strike_198 : decode cX7_strike 198 = .ok (.isub, 1) := by decide +kernel
theorem dX7_strike_199 : decode cX7_strike 199 = .ok (.imul, 1) := by decide +kernel
theorem dX7_strike_200 : decode cX7_strike 200 = .ok (.istore 8, 2) := by decide +kernel
theorem dX7_strike_202 : decode cX7_strike 202 = .ok (.iinc 9 1, 3) := by decide +kernel
theorem dX7_strike_205 : decode cX7_strike 205 = .ok (.goto (-51), 3) := by decide +kernel
theorem dX7_strike_208 : decode cX7_strike 208 = .ok (.iload 5, 2) := by decide +kernel
theorem dX7_strike_210 : decode cX7_strike 210 = .ok (.iload 8, 2) := by decide +kernel
theorem dX7_strike_212 : decode cX7_strike 212 = .ok (.iadd, 1) := by decide +kernel
theorem dX7_strike_213 : decode cX7_strike 213 = .ok (.istore 5, 2) := by decide +kernel
theorem dX7_strike_215 : decode cX7_strike 215 = .ok (.iinc 7 1, 3) := by decide +kernel
theorem dX7_strike_218 : decode cX7_strike 218 = .ok (.goto (-112), 3) := by decide +kernel
theorem dX7_strike_221 : decode cX7_strike 221 = .ok (.iload 5, 2) := by decide +kernel
theorem dX7_strike_223 : decode cX7_strike 223 = .ok (.istore 7, 2) := by decide +kernel
theorem dX7_strike_225 : decode cX7_strike 225 = .ok (.iload 6, 2) := by decide +kernel
theorem dX7_strike_227 : decode cX7_strike 227 = .ok (.istore 8, 2) := by decide +kernel
theorem dX7_strike_229 : decode cX7_strike 229 = .ok (.iload 8, 2) := by decide +kernel
theorem dX7_strike_231 : decode cX7_strike 231 = .ok (.ifCond .eq 21, 3) := by decide +kernel
theorem dX7_strike_234 : decode cX7_strike 234 = .ok (.iload 7, 2) := by decide +kernel
theorem dX7_strike_236 : decode cX7_strike 236 = .ok (.iload 8, 2) := by decide +kernel
theorem dX7_strike_238 : decode cX7_strike 238 = .ok (.irem, 1) := by decide +kernel
theorem dX7_strike_239 : decode cX7_strike 239 = .ok (.istore 9, 2) := by decide +kernel
theorem dX7_strike_241 : decode cX7_strike 241 = .ok (.iload 8, 2) := by decide +kernel
theorem dX7_strike_243 : decode cX7_strike 243 = .ok (.istore 7, 2) := by decide +kernel
theorem dX7_strike_245 : decode cX7_strike 245 = .ok (.iload 9, 2) := by decide +kernel
theorem dX7_strike_247 : decode cX7_strike 247 = .ok (.istore 8, 2) := by decide +kernel
theorem dX7_strike_249 : decode cX7_strike 249 = .ok (.goto (-20), 3) := by decide +kernel
theorem dX7_strike_252 : decode cX7_strike 252 = .ok (.iload_n 3, 1) := by decide +kernel
theorem dX7_strike_253 : decode cX7_strike 253 = .ok (.ifCond .ne 8, 3) := by decide +kernel
theorem dX7_strike_256 : decode cX7_strike 256 = .ok (.iload 5, 2) := by decide +kernel
theorem dX7_strike_258 : decode cX7_strike 258 = .ok (.goto 5, 3) := by decide +kernel
theorem dX7_strike_261 : decode cX7_strike 261 = .ok (.iload 6, 2) := by decide +kernel
theorem dX7_strike_263 : decode cX7_strike 263 = .ok (.iload 7, 2) := by decide +kernel
theorem dX7_strike_265 : decode cX7_strike 265 = .ok (.idiv, 1) := by decide +kernel
theorem dX7_strike_266 : decode cX7_strike 266 = .ok (.ireturn, 1) := by decide +kernel
set_option maxRecDepth 20000 in
theorem ggX7_drawn_X7_isCity : GoodIn wsX7_drawn wsX7_isCity := goodIn_r _ [12, 6, 40, 41, 42, 43, 44, 45, 46, 47, 48, 49, 50, 51, 52, 53, 54, 55, 56, 57, 58, 59, 60, 61, 62] (by decide +kernel) (by decide +kernel)
set_option maxRecDepth 20000 in
theorem gX7_drawn_X7_isCity : GoodIn wsX7_drawn (wsV RX7 160 RX7 yX7_isCity wsX7_isCity) := goodIn_app (goodIn_of _ (by decide +kernel)) ggX7_drawn_X7_isCity
set_option maxRecDepth 20000 in
theorem ggX7_drawn_X7_in : GoodIn wsX7_drawn wsX7_in := goodIn_r _ [15] (by decide +kernel) (by decide +kernel)
set_option maxRecDepth 20000 in
theorem gX7_drawn_X7_in : GoodIn wsX7_drawn (va_wsS RX7 56 yX7_in wsX7_in) := goodIn_app (goodIn_of _ (by decide +kernel)) ggX7_drawn_X7_in
set_option maxRecDepth 20000 in
theorem ggX7_drawn_X7_leftOn : GoodIn wsX7_drawn wsX7_leftOn := goodIn_r _ [18, 19, 20, 11, 21, 22, 23, 24, 25, 26, 27, 28, 29, 30, 31, 32, 33, 34, 35, 36] (by decide +kernel) (by decide +kernel)
set_option maxRecDepth 20000 in
theorem gX7_drawn_X7_leftOn : GoodIn wsX7_drawn (va_wsS RX7 167 yX7_leftOn wsX7_leftOn) := goodIn_app (goodIn_of _ (by decide +kernel)) ggX7_drawn_X7_leftOn
set_option maxRecDepth 20000 in
theorem ggX7_drawn_X7_only : GoodIn wsX7_drawn wsX7_only := goodIn_r _ [39, 7] (by decide +kernel) (by decide +kernel)
set_option maxRecDepth 20000 in
theorem gX7_drawn_X7_only : GoodIn wsX7_drawn (va_wsS RX7 179 yX7_only wsX7_only) := goodIn_app (goodIn_of _ (by decide +kernel)) ggX7_drawn_X7_only
theorem dX7_drawn_0 : decode cX7_drawn 0 = .ok (.aload_n 0, 1) := by decide +kernel
theorem dX7_drawn_1 : decode cX7_drawn 1 = .ok (.invokevirtual 160, 3) := by decide +kernel
theorem dX7_drawn_4 : decode cX7_drawn 4 = .ok (.ifCond .ne 6, 3) := by decide +kernel
theorem dX7_drawn_7 : decode cX7_drawn 7 = .ok (.ldc 163, 2) := by decide +kernel
theorem dX7_drawn_9 : decode cX7_drawn 9 = .ok (.ireturn, 1) := by decide +kernel
theorem dX7_drawn_10 : decode cX7_drawn 10 = .ok (.iload_n 1, 1) := by decide +kernel
theorem dX7_drawn_11 : decode cX7_drawn 11 = .ok (.iconst 0, 1) := by decide +kernel
theorem dX7_drawn_12 : decode cX7_drawn 12 = .ok (.bipush 60, 2) := by decide +kernel
theorem dX7_drawn_14 : decode cX7_drawn 14 = .ok (.invokestatic 56, 3) := by decide +kernel
theorem dX7_drawn_17 : decode cX7_drawn 17 = .ok (.ifCond .eq 22, 3) := by decide +kernel
theorem dX7_drawn_20 : decode cX7_drawn 20 = .ok (.iload_n 2, 1) := by decide +kernel
theorem dX7_drawn_21 : decode cX7_drawn 21 = .ok (.iconst 1, 1) := by decide +kernel
theorem dX7_drawn_22 : decode cX7_drawn 22 = .ok (.ldc 197, 2) := by decide +kernel
theorem dX7_drawn_24 : decode cX7_drawn 24 = .ok (.invokestatic 56, 3) := by decide +kernel
theorem dX7_drawn_27 : decode cX7_drawn 27 = .ok (.ifCond .eq 12, 3) := by decide +kernel
theorem dX7_drawn_30 : decode cX7_drawn 30 = .ok (.iload_n 3, 1) := by decide +kernel
theorem dX7_drawn_31 : decode cX7_drawn 31 = .ok (.iconst 0, 1) := by decide +kernel
theorem dX7_drawn_32 : decode cX7_drawn 32 = .ok (.iconst 1, 1) := by decide +kernel
theorem dX7_drawn_33 : decode cX7_drawn 33 = .ok (.invokestatic 56, 3) := by decide +kernel
theorem dX7_drawn_36 : decode cX7_drawn 36 = .ok (.ifCond .ne 6, 3) := by decide +kernel
theorem dX7_drawn_39 : decode cX7_drawn 39 = .ok (.ldc 64, 2) := by decide +kernel
theorem dX7_drawn_41 : decode cX7_drawn 41 = .ok (.ireturn, 1) := by decide +kernel
theorem dX7_drawn_42 : decode cX7_drawn 42 = .ok (.iload_n 2, 1) := by decide +kernel
theorem dX7_drawn_43 : decode cX7_drawn 43 = .ok (.i2l, 1) := by decide +kernel
theorem dX7_drawn_44 : decode cX7_drawn 44 = .ok (.lstore 4, 2) := by decide +kernel
theorem dX7_drawn_46 : decode cX7_drawn 46 = .ok (.iconst 0, 1) := by decide +kernel
theorem dX7_drawn_47 : decode cX7_drawn 47 = .ok (.istore 6, 2) := by decide +kernel
theorem dX7_drawn_49 : decode cX7_drawn 49 = .ok (.iconst 0, 1) := by decide +kernel
theorem dX7_drawn_50 : decode cX7_drawn 50 = .ok (.istore 7, 2) := by decide +kernel
theorem dX7_drawn_52 : decode cX7_drawn 52 = .ok (.iload 7, 2) := by decide +kernel
theorem dX7_drawn_54 : decode cX7_drawn 54 = .ok (.iload_n 1, 1) := by decide +kernel
theorem dX7_drawn_55 : decode cX7_drawn 55 = .ok (.if_icmp .ge 96, 3) := by decide +kernel
theorem dX7_drawn_58 : decode cX7_drawn 58 = .ok (.lload 4, 2) := by decide +kernel
theorem dX7_drawn_60 : decode cX7_drawn 60 = .ok (.ldc2_w 198, 3) := by decide +kernel
theorem dX7_drawn_63 : decode cX7_drawn 63 = .ok (.lmul, 1) := by decide +kernel
theorem dX7_drawn_64 : decode cX7_drawn 64 = .ok (.ldc2_w 200, 3) := by decide +kernel
theorem dX7_drawn_67 : decode cX7_drawn 67 = .ok (.lrem, 1) := by decide +kernel
theorem dX7_drawn_68 : decode cX7_drawn 68 = .ok (.lstore 4, 2) := by decide +kernel
theorem dX7_drawn_70 : decode cX7_drawn 70 = .ok (.aload_n 0, 1) := by decide +kernel
theorem dX7_drawn_71 : decode cX7_drawn 71 = .ok (.getfield 25, 3) := by decide +kernel
theorem dX7_drawn_74 : decode cX7_drawn 74 = .ok (.aload_n 0, 1) := by decide +kernel
theorem dX7_drawn_75 : decode cX7_drawn 75 = .ok (.getfield 25, 3) := by decide +kernel
theorem dX7_drawn_78 : decode cX7_drawn 78 = .ok (.iconst 2, 1) := by decide +kernel
theorem dX7_drawn_79 : decode cX7_drawn 79 = .ok (.iaload, 1) := by decide +kernel
theorem dX7_drawn_80 : decode cX7_drawn 80 = .ok (.iload 7, 2) := by decide +kernel
theorem dX7_drawn_82 : decode cX7_drawn 82 = .ok (.iadd, 1) := by decide +kernel
theorem dX7_drawn_83 : decode cX7_drawn 83 = .ok (.invokestatic 167, 3) := by decide +kernel
theorem dX7_drawn_86 : decode cX7_drawn 86 = .ok (.invokestatic 179, 3) := by decide +kernel
theorem dX7_drawn_89 : decode cX7_drawn 89 = .ok (.istore 8, 2) := by decide +kernel
theorem dX7_drawn_91 : decode cX7_drawn 91 = .ok (.iload 8, 2) := by decide +kernel
theorem dX7_drawn_93 : decode cX7_drawn 93 = .ok (.lload 4, 2) := by decide +kernel
theorem dX7_drawn_95 : decode cX7_drawn 95 = .ok (.aload_n 0, 1) := by decide +kernel
theorem dX7_drawn_96 : decode cX7_drawn 96 = .ok (.getfield 25, 3) := by decide +kernel
theorem dX7_drawn_99 : decode cX7_drawn 99 = .ok (.iconst 0, 1) := by decide +kernel
theorem dX7_drawn_100 : decode cX7_drawn 100 = .ok (.iaload, 1) := by decide +kernel
theorem dX7_drawn_101 : decode cX7_drawn 101 = .ok (.i2l, 1) := by decide +kernel
theorem dX7_drawn_102 : decode cX7_drawn 102 = .ok (.lrem, 1) := by decide +kernel
theorem dX7_drawn_103 : decode cX7_drawn 103 = .ok (.l2i, 1) := by decide +kernel
theorem dX7_drawn_104 : decode cX7_drawn 104 = .ok (.if_icmp .ne 7, 3) := by decide +kernel
theorem dX7_drawn_107 : decode cX7_drawn 107 = .ok (.iconst 1, 1) := by decide +kernel
theorem dX7_drawn_108 : decode cX7_drawn 108 = .ok (.goto 4, 3) := by decide +kernel
theorem dX7_drawn_111 : decode cX7_drawn 111 = .ok (.iconst 0, 1) := by decide +kernel
theorem dX7_drawn_112 : decode cX7_drawn 112 = .ok (.istore 9, 2) := by decide +kernel
theorem dX7_drawn_114 : decode cX7_drawn 114 = .ok (.iload 6, 2) := by decide +kernel
theorem dX7_drawn_116 : decode cX7_drawn 116 = .ok (.iload 8, 2) := by decide +kernel
theorem dX7_drawn_118 : decode cX7_drawn 118 = .ok (.ldc 50, 2) := by decide +kernel
theorem dX7_drawn_120 : decode cX7_drawn 120 = .ok (.if_icmp .eq 21, 3) := by decide +kernel
theorem dX7_drawn_123 : decode cX7_drawn 123 = .ok (.iload 9, 2) := by decide +kernel
theorem dX7_drawn_125 : decode cX7_drawn 125 = .ok (.iload_n 3, 1) := by decide +kernel
theorem dX7_drawn_126 : decode cX7_drawn 126 = .ok (.ifCond .ne 7, 3) := by decide +kernel
theorem dX7_drawn_129 : decode cX7_drawn 129 = .ok (.iconst 1, 1) := by decide +kernel
theorem dX7_drawn_130 : decode cX7_drawn 130 = .ok (.goto 4, 3) := by decide +kernel
theorem dX7_drawn_133 : decode cX7_drawn 133 = .ok (.iconst 0, 1) := by decide +kernel
theorem dX7_drawn_134 : decode cX7_drawn 134 = .ok (.if_icmp .ne 7, 3) := by decide +kernel
theorem dX7_drawn_137 : decode cX7_drawn 137 = .ok (.iconst 1, 1) := by decide +kernel
theorem dX7_drawn_138 : decode cX7_drawn 138 = .ok (.goto 4, 3) := by decide +kernel
theorem dX7_drawn_141 : decode cX7_drawn 141 = .ok (.iconst 0, 1) := by decide +kernel
theorem dX7_drawn_142 : decode cX7_drawn 142 = .ok (.iadd, 1) := by decide +kernel
theorem dX7_drawn_143 : decode cX7_drawn 143 = .ok (.istore 6, 2) := by decide +kernel
theorem dX7_drawn_145 : decode cX7_drawn 145 = .ok (.iinc 7 1, 3) := by decide +kernel
theorem dX7_drawn_148 : decode cX7_drawn 148 = .ok (.goto (-96), 3) := by decide +kernel
theorem dX7_drawn_151 : decode cX7_drawn 151 = .ok (.iload 6, 2) := by decide +kernel
theorem dX7_drawn_153 : decode cX7_drawn 153 = .ok (.ireturn, 1) := by decide +kernel
set_option maxRecDepth 20000 in
theorem ggX7_image_X7_in : GoodIn wsX7_image wsX7_in := goodIn_r _ [9] (by decide +kernel) (by decide +kernel)
set_option maxRecDepth 20000 in
theorem gX7_image_X7_in : GoodIn wsX7_image (va_wsS RX7 56 yX7_in wsX7_in) := goodIn_app (goodIn_of _ (by decide +kernel)) ggX7_image_X7_in
set_option maxRecDepth 20000 in
theorem ggX7_image_X7_isCity : GoodIn wsX7_image wsX7_isCity := goodIn_r _ [13, 3, 17, 18, 19, 20, 21, 22, 23, 24, 25, 26, 27, 28, 29, 30, 31, 32, 33, 34, 35, 36, 37, 38, 39] (by decide +kernel) (by decide +kernel)
set_option maxRecDepth 20000 in
theorem gX7_image_X7_isCity : GoodIn wsX7_image (wsV RX7 160 RX7 yX7_isCity wsX7_isCity) := goodIn_app (goodIn_of _ (by decide +kernel)) ggX7_image_X7_isCity
set_option maxRecDepth 20000 in
theorem ggX7_image_X7_copies : GoodIn wsX7_image wsX7_copies := goodIn_r _ [16] (by decide +kernel) (by decide +kernel)
set_option maxRecDepth 20000 in
theorem gX7_image_X7_copies : GoodIn wsX7_image (va_wsS RX7 131 yX7_copies wsX7_copies) := goodIn_app (goodIn_of _ (by decide +kernel)) ggX7_image_X7_copies
theorem dX7_image_0 : decode cX7_image 0 = .ok (.iload_n 1, 1) := by decide +kernel
theorem dX7_image_1 : decode cX7_image 1 = .ok (.iconst 0, 1) := by decide +kernel
theorem dX7_image_2 : decode cX7_image 2 = .ok (.iconst 1, 1) := by decide +kernel
theorem dX7_image_3 : decode cX7_image 3 = .ok (.invokestatic 56, 3) := by decide +kernel
theorem dX7_image_6 : decode cX7_image 6 = .ok (.ifCond .ne 6, 3) := by decide +kernel
theorem dX7_image_9 : decode cX7_image 9 = .ok (.ldc 64, 2) := by decide +kernel
theorem dX7_image_11 : decode cX7_image 11 = .ok (.ireturn, 1) := by decide +kernel
theorem dX7_image_12 : decode cX7_image 12 = .ok (.aload_n 0, 1) := by decide +kernel
theorem dX7_image_13 : decode cX7_image 13 = .ok (.invokevirtual 160, 3) := by decide +kernel
theorem dX7_image_16 : decode cX7_image 16 = .ok (.ifCond .ne 6, 3) := by decide +kernel
theorem dX7_image_19 : decode cX7_image 19 = .ok (.ldc 163, 2) := by decide +kernel
theorem dX7_image_21 : decode cX7_image 21 = .ok (.ireturn, 1) := by decide +kernel
theorem dX7_image_22 : decode cX7_image 22 = .ok (.aload_n 0, 1) := by decide +kernel
theorem dX7_image_23 : decode cX7_image 23 = .ok (.getfield 25, 3) := by decide +kernel
theorem dX7_image_26 : decode cX7_image 26 = .ok (.iconst 0, 1) := by decide +kernel
theorem dX7_image_27 : decode cX7_image 27 = .ok (.aload_n 0, 1) := by decide +kernel
theorem dX7_image_28 : decode cX7_image 28 = .ok (.getfield 37, 3) := by decide +kernel
theorem dX7_image_31 : decode cX7_image 31 = .ok (.bipush 29, 2) := by decide +kernel
theorem dX7_image_33 : decode cX7_image 33 = .ok (.iload_n 1, 1) := by decide +kernel
theorem dX7_image_34 : decode cX7_image 34 = .ok (.imul, 1) := by decide +kernel
theorem dX7_image_35 : decode cX7_image 35 = .ok (.invokestatic 131, 3) := by decide +kernel
theorem dX7_image_38 : decode cX7_image 38 = .ok (.aload_n 0, 1) := by decide +kernel
theorem dX7_image_39 : decode cX7_image 39 = .ok (.getfield 40, 3) := by decide +kernel
theorem dX7_image_42 : decode cX7_image 42 = .ok (.iload_n 1, 1) := by decide +kernel
theorem dX7_image_43 : decode cX7_image 43 = .ok (.iconst 1, 1) := by decide +kernel
theorem dX7_image_44 : decode cX7_image 44 = .ok (.bastore, 1) := by decide +kernel
theorem dX7_image_45 : decode cX7_image 45 = .ok (.iconst 1, 1) := by decide +kernel
theorem dX7_image_46 : decode cX7_image 46 = .ok (.ireturn, 1) := by decide +kernel
set_option maxRecDepth 20000 in
theorem ggX7_restore_X7_in : GoodIn wsX7_restore wsX7_in := goodIn_r _ [10] (by decide +kernel) (by decide +kernel)
set_option maxRecDepth 20000 in
theorem gX7_restore_X7_in : GoodIn wsX7_restore (va_wsS RX7 56 yX7_in wsX7_in) := goodIn_app (goodIn_of _ (by decide +kernel)) ggX7_restore_X7_in
set_option maxRecDepth 20000 in
theorem ggX7_restore_X7_copies : GoodIn wsX7_restore wsX7_copies := goodIn_r _ [13] (by decide +kernel) (by decide +kernel)
set_option maxRecDepth 20000 in
theorem gX7_restore_X7_copies : GoodIn wsX7_restore (va_wsS RX7 131 yX7_copies wsX7_copies) := goodIn_app (goodIn_of _ (by decide +kernel)) ggX7_restore_X7_copies
theorem dX7_restore_0 : decode cX7_restore 0 = .ok (.iload_n 1, 1) := by decide +kernel
theorem dX7_restore_1 : decode cX7_restore 1 = .ok (.iconst 0, 1) := by decide +kernel
theorem dX7_restore_2 : decode cX7_restore 2 = .ok (.iconst 1, 1) := by decide +kernel
theorem dX7_restore_3 : decode cX7_restore 3 = .ok (.invokestatic 56, 3) := by decide +kernel
theorem dX7_restore_6 : decode cX7_restore 6 = .ok (.ifCond .ne 6, 3) := by decide +kernel
theorem dX7_restore_9 : decode cX7_restore 9 = .ok (.ldc 64, 2) := by decide +kernel
theorem dX7_restore_11 : decode cX7_restore 11 = .ok (.ireturn, 1) := by decide +kernel
theorem dX7_restore_12 : decode cX7_restore 12 = .ok (.aload_n 0, 1) := by decide +kernel
theorem dX7_restore_13 : decode cX7_restore 13 = .ok (.getfield 40, 3) := by decide +kernel
theorem dX7_restore_16 : decode cX7_restore 16 = .ok (.iload_n 1, 1) := by decide +kernel
theorem dX7_restore_17 : decode cX7_restore 17 = .ok (.baload, 1) := by decide +kernel
theorem dX7_restore_18 : decode cX7_restore 18 = .ok (.ifCond .ne 6, 3) := by decide +kernel
theorem dX7_restore_21 : decode cX7_restore 21 = .ok (.ldc 163, 2) := by decide +kernel
theorem dX7_restore_23 : decode cX7_restore 23 = .ok (.ireturn, 1) := by decide +kernel
theorem dX7_restore_24 : decode cX7_restore 24 = .ok (.aload_n 0, 1) := by decide +kernel
theorem dX7_restore_25 : decode cX7_restore 25 = .ok (.getfield 37, 3) := by decide +kernel
theorem dX7_restore_28 : decode cX7_restore 28 = .ok (.bipush 29, 2) := by decide +kernel
theorem dX7_restore_30 : decode cX7_restore 30 = .ok (.iload_n 1, 1) := by decide +kernel
theorem dX7_restore_31 : decode cX7_restore 31 = .ok (.imul, 1) := by decide +kernel
theorem dX7_restore_32 : decode cX7_restore 32 = .ok (.aload_n 0, 1) := by decide +kernel
theorem dX7_restore_33 : decode cX7_restore 33 = .ok (.getfield 25, 3) := by decide +kernel
theorem dX7_restore_36 : decode cX7_restore 36 = .ok (.iconst 0, 1) := by decide +kernel
theorem dX7_restore_37 : decode cX7_restore 37 = .ok (.invokestatic 131, 3) := by decide +kernel
theorem dX7_restore_40 : decode cX7_restore 40 = .ok (.aload_n 0, 1) := by decide +kernel
theorem dX7_restore_41 : decode cX7_restore 41 = .ok (.iconst 0, 1) := by decide +kernel
theorem dX7_restore_42 : decode cX7_restore 42 = .ok (.putfield 135, 3) := by decide +kernel
theorem dX7_restore_45 : decode cX7_restore 45 = .ok (.iconst 1, 1) := by decide +kernel
theorem dX7_restore_46 : decode cX7_restore 46 = .ok (.ireturn, 1) := by decide +kernel
theorem dX7_kindIn_0 : decode cX7_kindIn 0 = .ok (.aload_n 0, 1) := by decide +kernel
theorem dX7_kindIn_1 : decode cX7_kindIn 1 = .ok (.getfield 25, 3) := by decide +kernel
theorem dX7_kindIn_4 : decode cX7_kindIn 4 = .ok (.iconst 5, 1) := by decide +kernel
theorem dX7_kindIn_5 : decode cX7_kindIn 5 = .ok (.iconst 4, 1) := by decide +kernel
theorem dX7_kindIn_6 : decode cX7_kindIn 6 = .ok (.iload_n 1, 1) := by decide +kernel
theorem dX7_kindIn_7 : decode cX7_kindIn 7 = .ok (.imul, 1) := by decide +kernel
theorem dX7_kindIn_8 : decode cX7_kindIn 8 = .ok (.iadd, 1) := by decide +kernel
theorem dX7_kindIn_9 : decode cX7_kindIn 9 = .ok (.iaload, 1) := by decide +kernel
theorem dX7_kindIn_10 : decode cX7_kindIn 10 = .ok (.ireturn, 1) := by decide +kernel
set_option maxRecDepth 20000 in
theorem ggX7_kind_X7_isClue : GoodIn wsX7_kind wsX7_isClue := goodIn_r _ [6, 7, 8, 9, 5, 10, 15, 16, 17, 18, 19, 20, 21, 22, 23, 24, 25, 26, 27, 28, 29, 30, 31, 32, 33, 34, 35, 36, 37] (by decide +kernel) (by decide +kernel)
set_option maxRecDepth 20000 in
theorem gX7_kind_X7_isClue : GoodIn wsX7_kind (wsV RX7 170 RX7 yX7_isClue wsX7_isClue) := goodIn_app (goodIn_of _ (by decide +kernel)) ggX7_kind_X7_isClue
set_option maxRecDepth 20000 in
theorem ggX7_kind_X7_kindIn : GoodIn wsX7_kind wsX7_kindIn := goodIn_r _ [14, 7, 15, 16, 17, 18, 19, 20, 21, 22, 23, 24, 25, 26, 27, 28, 29, 30, 31, 32, 33, 34, 35, 36, 37] (by decide +kernel) (by decide +kernel)
set_option maxRecDepth 20000 in
theorem gX7_kind_X7_kindIn : GoodIn wsX7_kind (wsV RX7 202 RX7 yX7_kindIn wsX7_kindIn) := goodIn_app (goodIn_of _ (by decide +kernel)) ggX7_kind_X7_kindIn
theorem dX7_kind_0 : decode cX7_kind 0 = .ok (.aload_n 0, 1) := by decide +kernel
theorem dX7_kind_1 : decode cX7_kind 1 = .ok (.iload_n 1, 1) := by decide +kernel
theorem dX7_kind_2 : decode cX7_kind 2 = .ok (.invokevirtual 170, 3) := by decide +kernel
theorem dX7_kind_5 : decode cX7_kind 5 = .ok (.ifCond .eq 11, 3) := by decide +kernel
theorem dX7_kind_8 : decode cX7_kind 8 = .ok (.aload_n 0, 1) := by decide +kernel
theorem dX7_kind_9 : decode cX7_kind 9 = .ok (.iload_n 1, 1) := by decide +kernel
theorem dX7_kind_10 : decode cX7_kind 10 = .ok (.invokevirtual 202, 3) := by decide +kernel
theorem dX7_kind_13 : decode cX7_kind 13 = .ok (.goto 5, 3) := by decide +kernel
theorem dX7_kind_16 : decode cX7_kind 16 = .ok (.ldc 64, 2) := by decide +kernel
theorem dX7_kind_18 : decode cX7_kind 18 = .ok (.ireturn, 1) := by decide +kernel
set_option maxRecDepth 20000 in
theorem ggX7_as_X7_isClue : GoodIn wsX7_as wsX7_isClue := goodIn_r _ [6, 7, 8, 9, 5, 10, 25, 26, 27, 28, 29, 30, 31, 32, 33, 34, 35, 36, 37, 38, 39, 40, 41, 42, 43, 44, 45, 46, 47] (by decide +kernel) (by decide +kernel)
set_option maxRecDepth 20000 in
theorem gX7_as_X7_isClue : GoodIn wsX7_as (wsV RX7 170 RX7 yX7_isClue wsX7_isClue) := goodIn_app (goodIn_of _ (by decide +kernel)) ggX7_as_X7_isClue
set_option maxRecDepth 20000 in
theorem ggX7_as_X7_in : GoodIn wsX7_as wsX7_in := goodIn_r _ [10] (by decide +kernel) (by decide +kernel)
set_option maxRecDepth 20000 in
theorem gX7_as_X7_in : GoodIn wsX7_as (va_wsS RX7 56 yX7_in wsX7_in) := goodIn_app (goodIn_of _ (by decide +kernel)) ggX7_as_X7_in
set_option maxRecDepth 20000 in
theorem ggX7_as_X7_kindIn : GoodIn wsX7_as wsX7_kindIn := goodIn_r _ [14, 7, 25, 26, 27, 28, 29, 30, 31, 32, 33, 34, 35, 36, 37, 38, 39, 40, 41, 42, 43, 44, 45, 46, 47] (by decide +kernel) (by decide +kernel)
set_option maxRecDepth 20000 in
theorem gX7_as_X7_kindIn : GoodIn wsX7_as (wsV RX7 202 RX7 yX7_kindIn wsX7_kindIn) := goodIn_app (goodIn_of _ (by decide +kernel)) ggX7_as_X7_kindIn
set_option maxRecDepth 20000 in
theorem ggX7_as_X7_well : GoodIn wsX7_as wsX7_well := goodIn_r _ [18, 19, 25, 26, 27, 28, 29, 30, 31, 32, 33, 34, 35, 36, 37, 38, 39, 40, 41, 42, 43, 44, 45, 46, 47] (by decide +kernel) (by decide +kernel)
set_option maxRecDepth 20000 in
theorem gX7_as_X7_well : GoodIn wsX7_as (wsV RX7 69 RX7 yX7_well wsX7_well) := goodIn_app (goodIn_of _ (by decide +kernel)) ggX7_as_X7_well
set_option maxRecDepth 20000 in
theorem ggX7_as_X7_found : GoodIn wsX7_as wsX7_found := goodIn_r _ [23, 19, 24, 25, 26, 27, 28, 29, 30, 31, 32, 33, 34, 35, 36, 37, 38, 39, 40, 41, 42, 43, 44, 45, 46, 47] (by decide +kernel) (by decide +kernel)
set_option maxRecDepth 20000 in
theorem gX7_as_X7_found : GoodIn wsX7_as (wsV RX7 65 RX7 yX7_found wsX7_found) := goodIn_app (goodIn_of _ (by decide +kernel)) ggX7_as_X7_found
theorem dX7_as_0 : decode cX7_as 0 = .ok (.aload_n 0, 1) := by decide +kernel
theorem dX7_as_1 : decode cX7_as 1 = .ok (.iload_n 1, 1) := by decide +kernel
theorem dX7_as_2 : decode cX7_as 2 = .ok (.invokevirtual 170, 3) := by decide +kernel
theorem dX7_as_5 : decode cX7_as 5 = .ok (.ifCond .eq 12, 3) := by decide +kernel
theorem dX7_as_8 : decode cX7_as 8 = .ok (.iload_n 2, 1) := by decide +kernel
theorem dX7_as_9 : decode cX7_as 9 = .ok (.iconst 0, 1) := by decide +kernel
theorem dX7_as_10 : decode cX7_as 10 = .ok (.iconst 5, 1) := by decide +kernel
theorem dX7_as_11 : decode cX7_as 11 = .ok (.invokestatic 56, 3) := by decide +kernel
theorem dX7_as_14 : decode cX7_as 14 = .ok (.ifCond .ne 6, 3) := by decide +kernel
theorem dX7_as_17 : decode cX7_as 17 = .ok (.ldc 64, 2) := by decide +kernel
theorem dX7_as_19 : decode cX7_as 19 = .ok (.ireturn, 1) := by decide +kernel
theorem dX7_as_20 : decode cX7_as 20 = .ok (.aload_n 0, 1) := by decide +kernel
theorem dX7_as_21 : decode cX7_as 21 = .ok (.iload_n 1, 1) := by decide +kernel
theorem dX7_as_22 : decode cX7_as 22 = .ok (.invokevirtual 202, 3) := by decide +kernel
theorem dX7_as_25 : decode cX7_as 25 = .ok (.istore_n 3, 1) := by decide +kernel
theorem dX7_as_26 : decode cX7_as 26 = .ok (.iload_n 2, 1) := by decide +kernel
theorem dX7_as_27 : decode cX7_as 27 = .ok (.ifCond .eq 28, 3) := by decide +kernel
theorem dX7_as_30 : decode cX7_as 30 = .ok (.iload_n 2, 1) := by decide +kernel
theorem dX7_as_31 : decode cX7_as 31 = .ok (.iload_n 3, 1) := by decide +kernel
theorem dX7_as_32 : decode cX7_as 32 = .ok (.if_icmp .eq 23, 3) := by decide +kernel
theorem dX7_as_35 : decode cX7_as 35 = .ok (.iload_n 2, 1) := by decide +kernel
theorem dX7_as_36 : decode cX7_as 36 = .ok (.iconst 1, 1) := by decide +kernel
theorem dX7_as_37 : decode cX7_as 37 = .ok (.if_icmp .ne 8, 3) := by decide +kernel
theorem dX7_as_40 : decode cX7_as 40 = .ok (.iload_n 3, 1) := by decide +kernel
theorem dX7_as_41 : decode cX7_as 41 = .ok (.iconst 4, 1) := by decide +kernel
theorem dX7_as_42 : decode cX7_as 42 = .ok (.if_icmp .lt 13, 3) := by decide +kernel
theorem dX7_as_45 : decode cX7_as 45 = .ok (.iload_n 2, 1) := by decide +kernel
theorem dX7_as_46 : decode cX7_as 46 = .ok (.iconst 4, 1) := by decide +kernel
theorem dX7_as_47 : decode cX7_as 47 = .ok (.if_icmp .ne 12, 3) := by decide +kernel
theorem dX7_as_50 : decode cX7_as 50 = .ok (.iload_n 3, 1) := by decide +kernel
theorem dX7_as_51 : decode cX7_as 51 = .ok (.iconst 5, 1) := by decide +kernel
theorem dX7_as_52 : decode cX7_as 52 = .ok (.if_icmp .ne 7, 3) := by decide +kernel
theorem dX7_as_55 : decode cX7_as 55 = .ok (.iconst 1, 1) := by decide +kernel
theorem dX7_as_56 : decode cX7_as 56 = .ok (.goto 4, 3) := by decide +kernel
theorem dX7_as_59 : decode cX7_as 59 = .ok (.iconst 0, 1) := by decide +kernel
theorem dX7_as_60 : decode cX7_as 60 = .ok (.istore 4, 2) := by decide +kernel
theorem dX7_as_62 : decode cX7_as 62 = .ok (.iload 4, 2) := by decide +kernel
theorem dX7_as_64 : decode cX7_as 64 = .ok (.ifCond .eq 11, 3) := by decide +kernel
theorem dX7_as_67 : decode cX7_as 67 = .ok (.aload_n 0, 1) := by decide +kernel
theorem dX7_as_68 : decode cX7_as 68 = .ok (.iload_n 1, 1) := by decide +kernel
theorem dX7_as_69 : decode cX7_as 69 = .ok (.invokevirtual 69, 3) := by decide +kernel
theorem dX7_as_72 : decode cX7_as 72 = .ok (.goto 8, 3) := by decide +kernel
theorem dX7_as_75 : decode cX7_as 75 = .ok (.aload_n 0, 1) := by decide +kernel
theorem dX7_as_76 : decode cX7_as 76 = .ok (.iconst 3, 1) := by decide +kernel
theorem dX7_as_77 : decode cX7_as 77 = .ok (.invokevirtual 65, 3) := by decide +kernel
theorem dX7_as_80 : decode cX7_as 80 = .ok (.ireturn, 1) := by decide +kernel
theorem dX7_begins_0 : decode cX7_begins 0 = .ok (.aload_n 0, 1) := by decide +kernel
theorem dX7_begins_1 : decode cX7_begins 1 = .ok (.getfield 205, 3) := by decide +kernel
theorem dX7_begins_4 : decode cX7_begins 4 = .ok (.bipush 16, 2) := by decide +kernel
theorem dX7_begins_6 : decode cX7_begins 6 = .ok (.if_icmp .ge 23, 3) := by decide +kernel
theorem dX7_begins_9 : decode cX7_begins 9 = .ok (.aload_n 0, 1) := by decide +kernel
theorem dX7_begins_10 : decode cX7_begins 10 = .ok (.getfield 47, 3) := by decide +kernel
theorem dX7_begins_13 : decode cX7_begins 13 = .ok (.aload_n 0, 1) := by decide +kernel
theorem dX7_begins_14 : decode cX7_begins 14 = .ok (.getfield 205, 3) := by decide +kernel
theorem dX7_begins_17 : decode cX7_begins 17 = .ok (.iload_n 1, 1) := by decide +kernel
theorem dX7_begins_18 : decode cX7_begins 18 = .ok (.iastore, 1) := by decide +kernel
theorem dX7_begins_19 : decode cX7_begins 19 = .ok (.aload_n 0, 1) := by decide +kernel
theorem dX7_begins_20 : decode cX7_begins 20 = .ok (.dup, 1) := by decide +kernel
theorem dX7_begins_21 : decode cX7_begins 21 = .ok (.getfield 205, 3) := by decide +kernel
theorem dX7_begins_24 : decode cX7_begins 24 = .ok (.iconst 1, 1) := by decide +kernel
theorem dX7_begins_25 : decode cX7_begins 25 = .ok (.iadd, 1) := by decide +kernel
theorem dX7_begins_26 : decode cX7_begins 26 = .ok (.putfield 205, 3) := by decide +kernel
theorem dX7_begins_29 : decode cX7_begins 29 = .ok (.return_, 1) := by decide +kernel
set_option maxRecDepth 20000 in
theorem ggX7_threadMark_X7_kindIn : GoodIn wsX7_threadMark wsX7_kindIn := goodIn_r _ [6, 1, 13, 14, 15, 16, 17, 18, 19, 20, 21, 22, 23, 24, 25, 26, 27, 28, 29, 30, 31, 32, 33, 34, 35] (by decide +kernel) (by decide +kernel)
set_option maxRecDepth 20000 in
theorem gX7_threadMark_X7_kindIn : GoodIn wsX7_threadMark (wsV RX7 202 RX7 yX7_kindIn wsX7_kindIn) := goodIn_app (goodIn_of _ (by decide +kernel)) ggX7_threadMark_X7_kindIn
set_option maxRecDepth 20000 in
theorem ggX7_threadMark_X7_begins : GoodIn wsX7_threadMark wsX7_begins := goodIn_r _ [10, 11, 12, 13, 14, 15, 16, 17, 18, 19, 20, 21, 22, 23, 24, 25, 26, 27, 28, 29, 30, 31, 32, 33, 34, 35] (by decide +kernel) (by decide +kernel)
set_option maxRecDepth 20000 in
theorem gX7_threadMark_X7_begins : GoodIn wsX7_threadMark (wsV RX7 208 RX7 yX7_begins wsX7_begins) := goodIn_app (goodIn_of _ (by decide +kernel)) ggX7_threadMark_X7_begins
theorem dX7_threadMark_0 : decode cX7_threadMark 0 = .ok (.aload_n 0, 1) := by decide +kernel
theorem dX7_threadMark_1 : decode cX7_threadMark 1 = .ok (.iload_n 1, 1) := by decide +kernel
theorem dX7_threadMark_2 : decode cX7_threadMark 2 = .ok (.invokevirtual 202, 3) := by decide +kernel
theorem dX7_threadMark_5 : decode cX7_threadMark 5 = .ok (.istore_n 2, 1) := by decide +kernel
theorem dX7_threadMark_6 : decode cX7_threadMark 6 = .ok (.iload_n 2, 1) := by decide +kernel
