theorem dX7_threadMark_7 : decode cX7_threadMark 7 = .ok (.iconst 1, 1) := by decide +kernel
theorem dX7_threadMark_8 : decode cX7_threadMark 8 = .ok (.if_icmp .eq 19, 3) := by decide +kernel
theorem dX7_threadMark_11 : decode cX7_threadMark 11 = .ok (.aload_n 0, 1) := by decide +kernel
theorem dX7_threadMark_12 : decode cX7_threadMark 12 = .ok (.iload_n 2, 1) := by decide +kernel
theorem dX7_threadMark_13 : decode cX7_threadMark 13 = .ok (.iconst 2, 1) := by decide +kernel
theorem dX7_threadMark_14 : decode cX7_threadMark 14 = .ok (.if_icmp .ne 8, 3) := by decide +kernel
theorem dX7_threadMark_17 : decode cX7_threadMark 17 = .ok (.bipush 24, 2) := by decide +kernel
theorem dX7_threadMark_19 : decode cX7_threadMark 19 = .ok (.goto 5, 3) := by decide +kernel
theorem dX7_threadMark_22 : decode cX7_threadMark 22 = .ok (.bipush 22, 2) := by decide +kernel
theorem dX7_threadMark_24 : decode cX7_threadMark 24 = .ok (.invokevirtual 208, 3) := by decide +kernel
theorem dX7_threadMark_27 : decode cX7_threadMark 27 = .ok (.aload_n 0, 1) := by decide +kernel
theorem dX7_threadMark_28 : decode cX7_threadMark 28 = .ok (.bipush 21, 2) := by decide +kernel
theorem dX7_threadMark_30 : decode cX7_threadMark 30 = .ok (.invokevirtual 208, 3) := by decide +kernel
theorem dX7_threadMark_33 : decode cX7_threadMark 33 = .ok (.aload_n 0, 1) := by decide +kernel
theorem dX7_threadMark_34 : decode cX7_threadMark 34 = .ok (.bipush 20, 2) := by decide +kernel
theorem dX7_threadMark_36 : decode cX7_threadMark 36 = .ok (.invokevirtual 208, 3) := by decide +kernel
theorem dX7_threadMark_39 : decode cX7_threadMark 39 = .ok (.iload_n 1, 1) := by decide +kernel
theorem dX7_threadMark_40 : decode cX7_threadMark 40 = .ok (.aload_n 0, 1) := by decide +kernel
theorem dX7_threadMark_41 : decode cX7_threadMark 41 = .ok (.getfield 25, 3) := by decide +kernel
theorem dX7_threadMark_44 : decode cX7_threadMark 44 = .ok (.iconst 5, 1) := by decide +kernel
theorem dX7_threadMark_45 : decode cX7_threadMark 45 = .ok (.iconst 4, 1) := by decide +kernel
theorem dX7_threadMark_46 : decode cX7_threadMark 46 = .ok (.iload_n 1, 1) := by decide +kernel
theorem dX7_threadMark_47 : decode cX7_threadMark 47 = .ok (.imul, 1) := by decide +kernel
theorem dX7_threadMark_48 : decode cX7_threadMark 48 = .ok (.iadd, 1) := by decide +kernel
theorem dX7_threadMark_49 : decode cX7_threadMark 49 = .ok (.iconst 3, 1) := by decide +kernel
theorem dX7_threadMark_50 : decode cX7_threadMark 50 = .ok (.iadd, 1) := by decide +kernel
theorem dX7_threadMark_51 : decode cX7_threadMark 51 = .ok (.iaload, 1) := by decide +kernel
theorem dX7_threadMark_52 : decode cX7_threadMark 52 = .ok (.iadd, 1) := by decide +kernel
theorem dX7_threadMark_53 : decode cX7_threadMark 53 = .ok (.istore_n 3, 1) := by decide +kernel
theorem dX7_threadMark_54 : decode cX7_threadMark 54 = .ok (.iload_n 2, 1) := by decide +kernel
theorem dX7_threadMark_55 : decode cX7_threadMark 55 = .ok (.iconst 2, 1) := by decide +kernel
theorem dX7_threadMark_56 : decode cX7_threadMark 56 = .ok (.if_icmp .ne 9, 3) := by decide +kernel
theorem dX7_threadMark_59 : decode cX7_threadMark 59 = .ok (.iconst 2, 1) := by decide +kernel
theorem dX7_threadMark_60 : decode cX7_threadMark 60 = .ok (.iload_n 3, 1) := by decide +kernel
theorem dX7_threadMark_61 : decode cX7_threadMark 61 = .ok (.imul, 1) := by decide +kernel
theorem dX7_threadMark_62 : decode cX7_threadMark 62 = .ok (.goto 17, 3) := by decide +kernel
theorem dX7_threadMark_65 : decode cX7_threadMark 65 = .ok (.iload_n 2, 1) := by decide +kernel
theorem dX7_threadMark_66 : decode cX7_threadMark 66 = .ok (.iconst 3, 1) := by decide +kernel
theorem dX7_threadMark_67 : decode cX7_threadMark 67 = .ok (.if_icmp .ne 11, 3) := by decide +kernel
theorem dX7_threadMark_70 : decode cX7_threadMark 70 = .ok (.iload_n 3, 1) := by decide +kernel
theorem dX7_threadMark_71 : decode cX7_threadMark 71 = .ok (.sipush 1000, 3) := by decide +kernel
theorem dX7_threadMark_74 : decode cX7_threadMark 74 = .ok (.isub, 1) := by decide +kernel
theorem dX7_threadMark_75 : decode cX7_threadMark 75 = .ok (.goto 4, 3) := by decide +kernel
theorem dX7_threadMark_78 : decode cX7_threadMark 78 = .ok (.iload_n 3, 1) := by decide +kernel
theorem dX7_threadMark_79 : decode cX7_threadMark 79 = .ok (.ireturn, 1) := by decide +kernel
set_option maxRecDepth 20000 in
theorem ggX7_stainSize_X7_kindIn : GoodIn wsX7_stainSize wsX7_kindIn := goodIn_r _ [6, 1, 13, 14, 15, 16, 17, 18, 19, 20, 21, 22, 23, 24, 25, 26, 27, 28, 29, 30, 31, 32, 33, 34, 35] (by decide +kernel) (by decide +kernel)
set_option maxRecDepth 20000 in
theorem gX7_stainSize_X7_kindIn : GoodIn wsX7_stainSize (wsV RX7 202 RX7 yX7_kindIn wsX7_kindIn) := goodIn_app (goodIn_of _ (by decide +kernel)) ggX7_stainSize_X7_kindIn
set_option maxRecDepth 20000 in
theorem ggX7_stainSize_X7_begins : GoodIn wsX7_stainSize wsX7_begins := goodIn_r _ [10, 11, 12, 13, 14, 15, 16, 17, 18, 19, 20, 21, 22, 23, 24, 25, 26, 27, 28, 29, 30, 31, 32, 33, 34, 35] (by decide +kernel) (by decide +kernel)
set_option maxRecDepth 20000 in
theorem gX7_stainSize_X7_begins : GoodIn wsX7_stainSize (wsV RX7 208 RX7 yX7_begins wsX7_begins) := goodIn_app (goodIn_of _ (by decide +kernel)) ggX7_stainSize_X7_begins
theorem dX7_stainSize_0 : decode cX7_stainSize 0 = .ok (.aload_n 0, 1) := by decide +kernel
theorem dX7_stainSize_1 : decode cX7_stainSize 1 = .ok (.iload_n 1, 1) := by decide +kernel
theorem dX7_stainSize_2 : decode cX7_stainSize 2 = .ok (.invokevirtual 202, 3) := by decide +kernel
theorem dX7_stainSize_5 : decode cX7_stainSize 5 = .ok (.iconst 5, 1) := by decide +kernel
theorem dX7_stainSize_6 : decode cX7_stainSize 6 = .ok (.if_icmp .ne 7, 3) := by decide +kernel
theorem dX7_stainSize_9 : decode cX7_stainSize 9 = .ok (.iconst 1, 1) := by decide +kernel
theorem dX7_stainSize_10 : decode cX7_stainSize 10 = .ok (.goto 4, 3) := by decide +kernel
theorem dX7_stainSize_13 : decode cX7_stainSize 13 = .ok (.iconst 0, 1) := by decide +kernel
theorem dX7_stainSize_14 : decode cX7_stainSize 14 = .ok (.istore_n 2, 1) := by decide +kernel
theorem dX7_stainSize_15 : decode cX7_stainSize 15 = .ok (.iload_n 2, 1) := by decide +kernel
theorem dX7_stainSize_16 : decode cX7_stainSize 16 = .ok (.ifCond .eq 9, 3) := by decide +kernel
theorem dX7_stainSize_19 : decode cX7_stainSize 19 = .ok (.aload_n 0, 1) := by decide +kernel
theorem dX7_stainSize_20 : decode cX7_stainSize 20 = .ok (.bipush 14, 2) := by decide +kernel
theorem dX7_stainSize_22 : decode cX7_stainSize 22 = .ok (.invokevirtual 208, 3) := by decide +kernel
theorem dX7_stainSize_25 : decode cX7_stainSize 25 = .ok (.aload_n 0, 1) := by decide +kernel
theorem dX7_stainSize_26 : decode cX7_stainSize 26 = .ok (.bipush 13, 2) := by decide +kernel
theorem dX7_stainSize_28 : decode cX7_stainSize 28 = .ok (.invokevirtual 208, 3) := by decide +kernel
theorem dX7_stainSize_31 : decode cX7_stainSize 31 = .ok (.aload_n 0, 1) := by decide +kernel
theorem dX7_stainSize_32 : decode cX7_stainSize 32 = .ok (.bipush 10, 2) := by decide +kernel
theorem dX7_stainSize_34 : decode cX7_stainSize 34 = .ok (.invokevirtual 208, 3) := by decide +kernel
theorem dX7_stainSize_37 : decode cX7_stainSize 37 = .ok (.aload_n 0, 1) := by decide +kernel
theorem dX7_stainSize_38 : decode cX7_stainSize 38 = .ok (.getfield 25, 3) := by decide +kernel
theorem dX7_stainSize_41 : decode cX7_stainSize 41 = .ok (.iconst 5, 1) := by decide +kernel
theorem dX7_stainSize_42 : decode cX7_stainSize 42 = .ok (.iconst 4, 1) := by decide +kernel
theorem dX7_stainSize_43 : decode cX7_stainSize 43 = .ok (.iload_n 1, 1) := by decide +kernel
theorem dX7_stainSize_44 : decode cX7_stainSize 44 = .ok (.imul, 1) := by decide +kernel
theorem dX7_stainSize_45 : decode cX7_stainSize 45 = .ok (.iadd, 1) := by decide +kernel
theorem dX7_stainSize_46 : decode cX7_stainSize 46 = .ok (.iconst 1, 1) := by decide +kernel
theorem dX7_stainSize_47 : decode cX7_stainSize 47 = .ok (.iadd, 1) := by decide +kernel
theorem dX7_stainSize_48 : decode cX7_stainSize 48 = .ok (.iaload, 1) := by decide +kernel
theorem dX7_stainSize_49 : decode cX7_stainSize 49 = .ok (.bipush 100, 2) := by decide +kernel
theorem dX7_stainSize_51 : decode cX7_stainSize 51 = .ok (.isub, 1) := by decide +kernel
theorem dX7_stainSize_52 : decode cX7_stainSize 52 = .ok (.istore_n 3, 1) := by decide +kernel
theorem dX7_stainSize_53 : decode cX7_stainSize 53 = .ok (.iload_n 2, 1) := by decide +kernel
theorem dX7_stainSize_54 : decode cX7_stainSize 54 = .ok (.ifCond .eq 9, 3) := by decide +kernel
theorem dX7_stainSize_57 : decode cX7_stainSize 57 = .ok (.iconst 2, 1) := by decide +kernel
theorem dX7_stainSize_58 : decode cX7_stainSize 58 = .ok (.iload_n 3, 1) := by decide +kernel
theorem dX7_stainSize_59 : decode cX7_stainSize 59 = .ok (.imul, 1) := by decide +kernel
theorem dX7_stainSize_60 : decode cX7_stainSize 60 = .ok (.goto 4, 3) := by decide +kernel
theorem dX7_stainSize_63 : decode cX7_stainSize 63 = .ok (.iload_n 3, 1) := by decide +kernel
theorem dX7_stainSize_64 : decode cX7_stainSize 64 = .ok (.ireturn, 1) := by decide +kernel
set_option maxRecDepth 20000 in
theorem ggX7_threadSize_X7_kindIn : GoodIn wsX7_threadSize wsX7_kindIn := goodIn_r _ [6, 1, 17, 18, 19, 20, 21, 22, 23, 24, 25, 26, 27, 28, 29, 30, 31, 32, 33, 34, 35, 36, 37, 38, 39] (by decide +kernel) (by decide +kernel)
set_option maxRecDepth 20000 in
theorem gX7_threadSize_X7_kindIn : GoodIn wsX7_threadSize (wsV RX7 202 RX7 yX7_kindIn wsX7_kindIn) := goodIn_app (goodIn_of _ (by decide +kernel)) ggX7_threadSize_X7_kindIn
set_option maxRecDepth 20000 in
theorem ggX7_threadSize_X7_begins : GoodIn wsX7_threadSize wsX7_begins := goodIn_r _ [10, 11, 12, 17, 18, 19, 20, 21, 22, 23, 24, 25, 26, 27, 28, 29, 30, 31, 32, 33, 34, 35, 36, 37, 38, 39] (by decide +kernel) (by decide +kernel)
set_option maxRecDepth 20000 in
theorem gX7_threadSize_X7_begins : GoodIn wsX7_threadSize (wsV RX7 208 RX7 yX7_begins wsX7_begins) := goodIn_app (goodIn_of _ (by decide +kernel)) ggX7_threadSize_X7_begins
set_option maxRecDepth 20000 in
theorem ggX7_threadSize_X7_threadMark : GoodIn wsX7_threadSize wsX7_threadMark := goodIn_r _ [16, 1, 2, 3, 4, 5, 6, 7, 8, 9, 10, 11, 12, 17, 18, 19, 20, 21, 22, 23, 24, 25, 26, 27, 28, 29, 30, 31, 32, 33, 34, 35, 36, 37, 38, 39] (by decide +kernel) (by decide +kernel)
set_option maxRecDepth 20000 in
theorem gX7_threadSize_X7_threadMark : GoodIn wsX7_threadSize (wsV RX7 212 RX7 yX7_threadMark wsX7_threadMark) := goodIn_app (goodIn_of _ (by decide +kernel)) ggX7_threadSize_X7_threadMark
theorem dX7_threadSize_0 : decode cX7_threadSize 0 = .ok (.aload_n 0, 1) := by decide +kernel
theorem dX7_threadSize_1 : decode cX7_threadSize 1 = .ok (.iload_n 1, 1) := by decide +kernel
theorem dX7_threadSize_2 : decode cX7_threadSize 2 = .ok (.invokevirtual 202, 3) := by decide +kernel
theorem dX7_threadSize_5 : decode cX7_threadSize 5 = .ok (.iconst 2, 1) := by decide +kernel
theorem dX7_threadSize_6 : decode cX7_threadSize 6 = .ok (.if_icmp .ne 7, 3) := by decide +kernel
theorem dX7_threadSize_9 : decode cX7_threadSize 9 = .ok (.iconst 1, 1) := by decide +kernel
theorem dX7_threadSize_10 : decode cX7_threadSize 10 = .ok (.goto 4, 3) := by decide +kernel
theorem dX7_threadSize_13 : decode cX7_threadSize 13 = .ok (.iconst 0, 1) := by decide +kernel
theorem dX7_threadSize_14 : decode cX7_threadSize 14 = .ok (.istore_n 2, 1) := by decide +kernel
theorem dX7_threadSize_15 : decode cX7_threadSize 15 = .ok (.iload_n 2, 1) := by decide +kernel
theorem dX7_threadSize_16 : decode cX7_threadSize 16 = .ok (.ifCond .eq 9, 3) := by decide +kernel
theorem dX7_threadSize_19 : decode cX7_threadSize 19 = .ok (.aload_n 0, 1) := by decide +kernel
theorem dX7_threadSize_20 : decode cX7_threadSize 20 = .ok (.bipush 12, 2) := by decide +kernel
theorem dX7_threadSize_22 : decode cX7_threadSize 22 = .ok (.invokevirtual 208, 3) := by decide +kernel
theorem dX7_threadSize_25 : decode cX7_threadSize 25 = .ok (.aload_n 0, 1) := by decide +kernel
theorem dX7_threadSize_26 : decode cX7_threadSize 26 = .ok (.bipush 11, 2) := by decide +kernel
theorem dX7_threadSize_28 : decode cX7_threadSize 28 = .ok (.invokevirtual 208, 3) := by decide +kernel
theorem dX7_threadSize_31 : decode cX7_threadSize 31 = .ok (.aload_n 0, 1) := by decide +kernel
theorem dX7_threadSize_32 : decode cX7_threadSize 32 = .ok (.bipush 10, 2) := by decide +kernel
theorem dX7_threadSize_34 : decode cX7_threadSize 34 = .ok (.invokevirtual 208, 3) := by decide +kernel
theorem dX7_threadSize_37 : decode cX7_threadSize 37 = .ok (.aload_n 0, 1) := by decide +kernel
theorem dX7_threadSize_38 : decode cX7_threadSize 38 = .ok (.getfield 25, 3) := by decide +kernel
theorem dX7_threadSize_41 : decode cX7_threadSize 41 = .ok (.iconst 5, 1) := by decide +kernel
theorem dX7_threadSize_42 : decode cX7_threadSize 42 = .ok (.iconst 4, 1) := by decide +kernel
theorem dX7_threadSize_43 : decode cX7_threadSize 43 = .ok (.iload_n 1, 1) := by decide +kernel
theorem dX7_threadSize_44 : decode cX7_threadSize 44 = .ok (.imul, 1) := by decide +kernel
theorem dX7_threadSize_45 : decode cX7_threadSize 45 = .ok (.iadd, 1) := by decide +kernel
theorem dX7_threadSize_46 : decode cX7_threadSize 46 = .ok (.iconst 1, 1) := by decide +kernel
theorem dX7_threadSize_47 : decode cX7_threadSize 47 = .ok (.iadd, 1) := by decide +kernel
theorem dX7_threadSize_48 : decode cX7_threadSize 48 = .ok (.iaload, 1) := by decide +kernel
theorem dX7_threadSize_49 : decode cX7_threadSize 49 = .ok (.aload_n 0, 1) := by decide +kernel
theorem dX7_threadSize_50 : decode cX7_threadSize 50 = .ok (.iload_n 1, 1) := by decide +kernel
theorem dX7_threadSize_51 : decode cX7_threadSize 51 = .ok (.invokevirtual 212, 3) := by decide +kernel
theorem dX7_threadSize_54 : decode cX7_threadSize 54 = .ok (.iadd, 1) := by decide +kernel
theorem dX7_threadSize_55 : decode cX7_threadSize 55 = .ok (.istore_n 3, 1) := by decide +kernel
theorem dX7_threadSize_56 : decode cX7_threadSize 56 = .ok (.iload_n 2, 1) := by decide +kernel
theorem dX7_threadSize_57 : decode cX7_threadSize 57 = .ok (.ifCond .eq 8, 3) := by decide +kernel
theorem dX7_threadSize_60 : decode cX7_threadSize 60 = .ok (.iload_n 3, 1) := by decide +kernel
theorem dX7_threadSize_61 : decode cX7_threadSize 61 = .ok (.ineg, 1) := by decide +kernel
theorem dX7_threadSize_62 : decode cX7_threadSize 62 = .ok (.goto 4, 3) := by decide +kernel
theorem dX7_threadSize_65 : decode cX7_threadSize 65 = .ok (.iload_n 3, 1) := by decide +kernel
theorem dX7_threadSize_66 : decode cX7_threadSize 66 = .ok (.ireturn, 1) := by decide +kernel
set_option maxRecDepth 20000 in
theorem ggX7_stainMark_X7_begins : GoodIn wsX7_stainMark wsX7_begins := goodIn_r _ [5, 6, 7, 17, 18, 19, 20, 21, 22, 23, 24, 25, 26, 27, 28, 29, 30, 31, 32, 33, 34, 35, 36, 37, 38, 39] (by decide +kernel) (by decide +kernel)
set_option maxRecDepth 20000 in
theorem gX7_stainMark_X7_begins : GoodIn wsX7_stainMark (wsV RX7 208 RX7 yX7_begins wsX7_begins) := goodIn_app (goodIn_of _ (by decide +kernel)) ggX7_stainMark_X7_begins
set_option maxRecDepth 20000 in
theorem ggX7_stainMark_X7_stainSize : GoodIn wsX7_stainMark wsX7_stainSize := goodIn_r _ [11, 12, 13, 14, 15, 4, 16, 1, 2, 3, 5, 6, 7, 17, 18, 19, 20, 21, 22, 23, 24, 25, 26, 27, 28, 29, 30, 31, 32, 33, 34, 35, 36, 37, 38, 39] (by decide +kernel) (by decide +kernel)
set_option maxRecDepth 20000 in
theorem gX7_stainMark_X7_stainSize : GoodIn wsX7_stainMark (wsV RX7 215 RX7 yX7_stainSize wsX7_stainSize) := goodIn_app (goodIn_of _ (by decide +kernel)) ggX7_stainMark_X7_stainSize
theorem dX7_stainMark_0 : decode cX7_stainMark 0 = .ok (.aload_n 0, 1) := by decide +kernel
theorem dX7_stainMark_1 : decode cX7_stainMark 1 = .ok (.bipush 23, 2) := by decide +kernel
theorem dX7_stainMark_3 : decode cX7_stainMark 3 = .ok (.invokevirtual 208, 3) := by decide +kernel
theorem dX7_stainMark_6 : decode cX7_stainMark 6 = .ok (.aload_n 0, 1) := by decide +kernel
theorem dX7_stainMark_7 : decode cX7_stainMark 7 = .ok (.bipush 20, 2) := by decide +kernel
theorem dX7_stainMark_9 : decode cX7_stainMark 9 = .ok (.invokevirtual 208, 3) := by decide +kernel
theorem dX7_stainMark_12 : decode cX7_stainMark 12 = .ok (.iload_n 1, 1) := by decide +kernel
theorem dX7_stainMark_13 : decode cX7_stainMark 13 = .ok (.aload_n 0, 1) := by decide +kernel
theorem dX7_stainMark_14 : decode cX7_stainMark 14 = .ok (.iload_n 1, 1) := by decide +kernel
theorem dX7_stainMark_15 : decode cX7_stainMark 15 = .ok (.invokevirtual 215, 3) := by decide +kernel
theorem dX7_stainMark_18 : decode cX7_stainMark 18 = .ok (.isub, 1) := by decide +kernel
theorem dX7_stainMark_19 : decode cX7_stainMark 19 = .ok (.ireturn, 1) := by decide +kernel
set_option maxRecDepth 20000 in
theorem ggX7_ask_X7_isClue : GoodIn wsX7_ask wsX7_isClue := goodIn_r _ [7, 8, 9, 10, 6, 11, 37, 38, 39, 40, 41, 42, 43, 44, 45, 46, 47, 48, 49, 50, 51, 52, 53, 54, 55, 56, 57, 58, 59] (by decide +kernel) (by decide +kernel)
set_option maxRecDepth 20000 in
theorem gX7_ask_X7_isClue : GoodIn wsX7_ask (wsV RX7 170 RX7 yX7_isClue wsX7_isClue) := goodIn_app (goodIn_of _ (by decide +kernel)) ggX7_ask_X7_isClue
set_option maxRecDepth 20000 in
theorem ggX7_ask_X7_in : GoodIn wsX7_ask wsX7_in := goodIn_r _ [11] (by decide +kernel) (by decide +kernel)
set_option maxRecDepth 20000 in
theorem gX7_ask_X7_in : GoodIn wsX7_ask (va_wsS RX7 56 yX7_in wsX7_in) := goodIn_app (goodIn_of _ (by decide +kernel)) ggX7_ask_X7_in
set_option maxRecDepth 20000 in
theorem ggX7_ask_X7_kindIn : GoodIn wsX7_ask wsX7_kindIn := goodIn_r _ [15, 8, 37, 38, 39, 40, 41, 42, 43, 44, 45, 46, 47, 48, 49, 50, 51, 52, 53, 54, 55, 56, 57, 58, 59] (by decide +kernel) (by decide +kernel)
set_option maxRecDepth 20000 in
theorem gX7_ask_X7_kindIn : GoodIn wsX7_ask (wsV RX7 202 RX7 yX7_kindIn wsX7_kindIn) := goodIn_app (goodIn_of _ (by decide +kernel)) ggX7_ask_X7_kindIn
set_option maxRecDepth 20000 in
theorem ggX7_ask_X7_stainSize : GoodIn wsX7_ask wsX7_stainSize := goodIn_r _ [19, 8, 12, 13, 14, 6, 15, 20, 21, 22, 23, 2, 24, 37, 38, 39, 40, 41, 42, 43, 44, 45, 46, 47, 48, 49, 50, 51, 52, 53, 54, 55, 56, 57, 58, 59] (by decide +kernel) (by decide +kernel)
set_option maxRecDepth 20000 in
theorem gX7_ask_X7_stainSize : GoodIn wsX7_ask (wsV RX7 215 RX7 yX7_stainSize wsX7_stainSize) := goodIn_app (goodIn_of _ (by decide +kernel)) ggX7_ask_X7_stainSize
set_option maxRecDepth 20000 in
theorem ggX7_ask_X7_threadSize : GoodIn wsX7_ask wsX7_threadSize := goodIn_r _ [28, 8, 12, 13, 14, 6, 15, 20, 21, 22, 23, 2, 24, 29, 30, 31, 32, 37, 38, 39, 40, 41, 42, 43, 44, 45, 46, 47, 48, 49, 50, 51, 52, 53, 54, 55, 56, 57, 58, 59] (by decide +kernel) (by decide +kernel)
set_option maxRecDepth 20000 in
theorem gX7_ask_X7_threadSize : GoodIn wsX7_ask (wsV RX7 218 RX7 yX7_threadSize wsX7_threadSize) := goodIn_app (goodIn_of _ (by decide +kernel)) ggX7_ask_X7_threadSize
set_option maxRecDepth 20000 in
theorem ggX7_ask_X7_stainMark : GoodIn wsX7_ask wsX7_stainMark := goodIn_r _ [36, 20, 21, 22, 6, 23, 2, 24, 16, 17, 18, 19, 8, 12, 13, 14, 15, 37, 38, 39, 40, 41, 42, 43, 44, 45, 46, 47, 48, 49, 50, 51, 52, 53, 54, 55, 56, 57, 58, 59] (by decide +kernel) (by decide +kernel)
set_option maxRecDepth 20000 in
theorem gX7_ask_X7_stainMark : GoodIn wsX7_ask (wsV RX7 221 RX7 yX7_stainMark wsX7_stainMark) := goodIn_app (goodIn_of _ (by decide +kernel)) ggX7_ask_X7_stainMark
set_option maxRecDepth 20000 in
theorem ggX7_ask_X7_threadMark : GoodIn wsX7_ask wsX7_threadMark := goodIn_r _ [32, 8, 12, 13, 14, 6, 15, 20, 21, 22, 23, 2, 24, 37, 38, 39, 40, 41, 42, 43, 44, 45, 46, 47, 48, 49, 50, 51, 52, 53, 54, 55, 56, 57, 58, 59] (by decide +kernel) (by decide +kernel)
set_option maxRecDepth 20000 in
theorem gX7_ask_X7_threadMark : GoodIn wsX7_ask (wsV RX7 212 RX7 yX7_threadMark wsX7_threadMark) := goodIn_app (goodIn_of _ (by decide +kernel)) ggX7_ask_X7_threadMark
theorem dX7_ask_0 : decode cX7_ask 0 = .ok (.aload_n 0, 1) := by decide +kernel
theorem dX7_ask_1 : decode cX7_ask 1 = .ok (.iload_n 1, 1) := by decide +kernel
theorem dX7_ask_2 : decode cX7_ask 2 = .ok (.invokevirtual 170, 3) := by decide +kernel
theorem dX7_ask_5 : decode cX7_ask 5 = .ok (.ifCond .eq 12, 3) := by decide +kernel
theorem dX7_ask_8 : decode cX7_ask 8 = .ok (.iload_n 2, 1) := by decide +kernel
theorem dX7_ask_9 : decode cX7_ask 9 = .ok (.iconst 0, 1) := by decide +kernel
theorem dX7_ask_10 : decode cX7_ask 10 = .ok (.iconst 1, 1) := by decide +kernel
theorem dX7_ask_11 : decode cX7_ask 11 = .ok (.invokestatic 56, 3) := by decide +kernel
theorem dX7_ask_14 : decode cX7_ask 14 = .ok (.ifCond .ne 6, 3) := by decide +kernel
theorem dX7_ask_17 : decode cX7_ask 17 = .ok (.ldc 64, 2) := by decide +kernel
theorem dX7_ask_19 : decode cX7_ask 19 = .ok (.ireturn, 1) := by decide +kernel
theorem dX7_ask_20 : decode cX7_ask 20 = .ok (.aload_n 0, 1) := by decide +kernel
theorem dX7_ask_21 : decode cX7_ask 21 = .ok (.iconst 0, 1) := by decide +kernel
theorem dX7_ask_22 : decode cX7_ask 22 = .ok (.putfield 205, 3) := by decide +kernel
theorem dX7_ask_25 : decode cX7_ask 25 = .ok (.aload_n 0, 1) := by decide +kernel
theorem dX7_ask_26 : decode cX7_ask 26 = .ok (.iload_n 1, 1) := by decide +kernel
theorem dX7_ask_27 : decode cX7_ask 27 = .ok (.invokevirtual 202, 3) := by decide +kernel
theorem dX7_ask_30 : decode cX7_ask 30 = .ok (.iconst 4, 1) := by decide +kernel
theorem dX7_ask_31 : decode cX7_ask 31 = .ok (.if_icmp .lt 7, 3) := by decide +kernel
theorem dX7_ask_34 : decode cX7_ask 34 = .ok (.iconst 1, 1) := by decide +kernel
theorem dX7_ask_35 : decode cX7_ask 35 = .ok (.goto 4, 3) := by decide +kernel
theorem dX7_ask_38 : decode cX7_ask 38 = .ok (.iconst 0, 1) := by decide +kernel
theorem dX7_ask_39 : decode cX7_ask 39 = .ok (.istore_n 3, 1) := by decide +kernel
theorem dX7_ask_40 : decode cX7_ask 40 = .ok (.iload_n 2, 1) := by decide +kernel
theorem dX7_ask_41 : decode cX7_ask 41 = .ok (.ifCond .ne 21, 3) := by decide +kernel
theorem dX7_ask_44 : decode cX7_ask 44 = .ok (.iload_n 3, 1) := by decide +kernel
theorem dX7_ask_45 : decode cX7_ask 45 = .ok (.ifCond .eq 11, 3) := by decide +kernel
theorem dX7_ask_48 : decode cX7_ask 48 = .ok (.aload_n 0, 1) := by decide +kernel
theorem dX7_ask_49 : decode cX7_ask 49 = .ok (.iload_n 1, 1) := by decide +kernel
theorem dX7_ask_50 : decode cX7_ask 50 = .ok (.invokevirtual 215, 3) := by decide +kernel
theorem dX7_ask_53 : decode cX7_ask 53 = .ok (.goto 8, 3) := by decide +kernel
theorem dX7_ask_56 : decode cX7_ask 56 = .ok (.aload_n 0, 1) := by decide +kernel
theorem dX7_ask_57 : decode cX7_ask 57 = .ok (.iload_n 1, 1) := by decide +kernel
theorem dX7_ask_58 : decode cX7_ask 58 = .ok (.invokevirtual 218, 3) := by decide +kernel
theorem dX7_ask_61 : decode cX7_ask 61 = .ok (.ireturn, 1) := by decide +kernel
theorem dX7_ask_62 : decode cX7_ask 62 = .ok (.iload_n 3, 1) := by decide +kernel
theorem dX7_ask_63 : decode cX7_ask 63 = .ok (.ifCond .eq 11, 3) := by decide +kernel
theorem dX7_ask_66 : decode cX7_ask 66 = .ok (.aload_n 0, 1) := by decide +kernel
theorem dX7_ask_67 : decode cX7_ask 67 = .ok (.iload_n 1, 1) := by decide +kernel
theorem dX7_ask_68 : decode cX7_ask 68 = .ok (.invokevirtual 221, 3) := by decide +kernel
theorem dX7_ask_71 : decode cX7_ask 71 = .ok (.goto 8, 3) := by decide +kernel
theorem dX7_ask_74 : decode cX7_ask 74 = .ok (.aload_n 0, 1) := by decide +kernel
theorem dX7_ask_75 : decode cX7_ask 75 = .ok (.iload_n 1, 1) := by decide +kernel
theorem dX7_ask_76 : decode cX7_ask 76 = .ok (.invokevirtual 212, 3) := by decide +kernel
theorem dX7_ask_79 : decode cX7_ask 79 = .ok (.ireturn, 1) := by decide +kernel
set_option maxRecDepth 20000 in
theorem ggX7_trace_X7_in : GoodIn wsX7_trace wsX7_in := goodIn_r _ [7] (by decide +kernel) (by decide +kernel)
set_option maxRecDepth 20000 in
theorem gX7_trace_X7_in : GoodIn wsX7_trace (va_wsS RX7 56 yX7_in wsX7_in) := goodIn_app (goodIn_of _ (by decide +kernel)) ggX7_trace_X7_in
theorem dX7_trace_0 : decode cX7_trace 0 = .ok (.iload_n 1, 1) := by decide +kernel
theorem dX7_trace_1 : decode cX7_trace 1 = .ok (.iconst 0, 1) := by decide +kernel
theorem dX7_trace_2 : decode cX7_trace 2 = .ok (.aload_n 0, 1) := by decide +kernel
theorem dX7_trace_3 : decode cX7_trace 3 = .ok (.getfield 205, 3) := by decide +kernel
theorem dX7_trace_6 : decode cX7_trace 6 = .ok (.iconst 1, 1) := by decide +kernel
theorem dX7_trace_7 : decode cX7_trace 7 = .ok (.isub, 1) := by decide +kernel
theorem dX7_trace_8 : decode cX7_trace 8 = .ok (.invokestatic 56, 3) := by decide +kernel
theorem dX7_trace_11 : decode cX7_trace 11 = .ok (.ifCond .eq 12, 3) := by decide +kernel
theorem dX7_trace_14 : decode cX7_trace 14 = .ok (.aload_n 0, 1) := by decide +kernel
theorem dX7_trace_15 : decode cX7_trace 15 = .ok (.getfield 47, 3) := by decide +kernel
theorem dX7_trace_18 : decode cX7_trace 18 = .ok (.iload_n 1, 1) := by decide +kernel
theorem dX7_trace_19 : decode cX7_trace 19 = .ok (.iaload, 1) := by decide +kernel
theorem dX7_trace_20 : decode cX7_trace 20 = .ok (.goto 5, 3) := by decide +kernel
theorem dX7_trace_23 : decode cX7_trace 23 = .ok (.ldc 50, 2) := by decide +kernel
theorem dX7_trace_25 : decode cX7_trace 25 = .ok (.ireturn, 1) := by decide +kernel
set_option maxRecDepth 20000 in
theorem ggX7_count_X7_isMissing : GoodIn wsX7_count wsX7_isMissing := goodIn_r _ [9, 10, 11, 12, 13, 14, 15, 16, 17, 18, 19, 20, 21, 22, 23, 24, 25, 26, 27, 28, 29, 30, 31, 32, 33, 34] (by decide +kernel) (by decide +kernel)
set_option maxRecDepth 20000 in
theorem gX7_count_X7_isMissing : GoodIn wsX7_count (wsV RX7 72 RX7 yX7_isMissing wsX7_isMissing) := goodIn_app (goodIn_of _ (by decide +kernel)) ggX7_count_X7_isMissing
theorem dX7_count_0 : decode cX7_count 0 = .ok (.iconst 0, 1) := by decide +kernel
theorem dX7_count_1 : decode cX7_count 1 = .ok (.istore_n 2, 1) := by decide +kernel
theorem dX7_count_2 : decode cX7_count 2 = .ok (.iload_n 1, 1) := by decide +kernel
theorem dX7_count_3 : decode cX7_count 3 = .ok (.tableswitch 122 0 7 #[45, 77, 84, 91, 98, 105, 112, 117], 45) := by decide +kernel
theorem dX7_count_48 : decode cX7_count 48 = .ok (.iconst 0, 1) := by decide +kernel
theorem dX7_count_49 : decode cX7_count 49 = .ok (.istore_n 3, 1) := by decide +kernel
theorem dX7_count_50 : decode cX7_count 50 = .ok (.iload_n 3, 1) := by decide +kernel
theorem dX7_count_51 : decode cX7_count 51 = .ok (.bipush 8, 2) := by decide +kernel
theorem dX7_count_53 : decode cX7_count 53 = .ok (.if_icmp .ge 25, 3) := by decide +kernel
theorem dX7_count_56 : decode cX7_count 56 = .ok (.iload_n 2, 1) := by decide +kernel
theorem dX7_count_57 : decode cX7_count 57 = .ok (.aload_n 0, 1) := by decide +kernel
theorem dX7_count_58 : decode cX7_count 58 = .ok (.iload_n 3, 1) := by decide +kernel
theorem dX7_count_59 : decode cX7_count 59 = .ok (.invokevirtual 72, 3) := by decide +kernel
theorem dX7_count_62 : decode cX7_count 62 = .ok (.ifCond .eq 7, 3) := by decide +kernel
theorem dX7_count_65 : decode cX7_count 65 = .ok (.iconst 0, 1) := by decide +kernel
theorem dX7_count_66 : decode cX7_count 66 = .ok (.goto 4, 3) := by decide +kernel
theorem dX7_count_69 : decode cX7_count 69 = .ok (.iconst 1, 1) := by decide +kernel
theorem dX7_count_70 : decode cX7_count 70 = .ok (.iadd, 1) := by decide +kernel
theorem dX7_count_71 : decode cX7_count 71 = .ok (.istore_n 2, 1) := by decide +kernel
theorem dX7_count_72 : decode cX7_count 72 = .ok (.iinc 3 1, 3) := by decide +kernel
theorem dX7_count_75 : decode cX7_count 75 = .ok (.goto (-25), 3) := by decide +kernel
theorem dX7_count_78 : decode cX7_count 78 = .ok (.iload_n 2, 1) := by decide +kernel
theorem dX7_count_79 : decode cX7_count 79 = .ok (.ireturn, 1) := by decide +kernel
theorem dX7_count_80 : decode cX7_count 80 = .ok (.aload_n 0, 1) := by decide +kernel
theorem dX7_count_81 : decode cX7_count 81 = .ok (.getfield 25, 3) := by decide +kernel
theorem dX7_count_84 : decode cX7_count 84 = .ok (.iconst 4, 1) := by decide +kernel
theorem dX7_count_85 : decode cX7_count 85 = .ok (.iaload, 1) := by decide +kernel
theorem dX7_count_86 : decode cX7_count 86 = .ok (.ireturn, 1) := by decide +kernel
theorem dX7_count_87 : decode cX7_count 87 = .ok (.aload_n 0, 1) := by decide +kernel
theorem dX7_count_88 : decode cX7_count 88 = .ok (.getfield 25, 3) := by decide +kernel
theorem dX7_count_91 : decode cX7_count 91 = .ok (.iconst 0, 1) := by decide +kernel
theorem dX7_count_92 : decode cX7_count 92 = .ok (.iaload, 1) := by decide +kernel
theorem dX7_count_93 : decode cX7_count 93 = .ok (.ireturn, 1) := by decide +kernel
theorem dX7_count_94 : decode cX7_count 94 = .ok (.aload_n 0, 1) := by decide +kernel
theorem dX7_count_95 : decode cX7_count 95 = .ok (.getfield 25, 3) := by decide +kernel
theorem dX7_count_98 : decode cX7_count 98 = .ok (.iconst 2, 1) := by decide +kernel
theorem dX7_count_99 : decode cX7_count 99 = .ok (.iaload, 1) := by decide +kernel
theorem dX7_count_100 : decode cX7_count 100 = .ok (.ireturn, 1) := by decide +kernel
theorem dX7_count_101 : decode cX7_count 101 = .ok (.aload_n 0, 1) := by decide +kernel
theorem dX7_count_102 : decode cX7_count 102 = .ok (.getfield 25, 3) := by decide +kernel
theorem dX7_count_105 : decode cX7_count 105 = .ok (.iconst 1, 1) := by decide +kernel
theorem dX7_count_106 : decode cX7_count 106 = .ok (.iaload, 1) := by decide +kernel
theorem dX7_count_107 : decode cX7_count 107 = .ok (.ireturn, 1) := by decide +kernel
theorem dX7_count_108 : decode cX7_count 108 = .ok (.aload_n 0, 1) := by decide +kernel
theorem dX7_count_109 : decode cX7_count 109 = .ok (.getfield 25, 3) := by decide +kernel
theorem dX7_count_112 : decode cX7_count 112 = .ok (.iconst 3, 1) := by decide +kernel
theorem dX7_count_113 : decode cX7_count 113 = .ok (.iaload, 1) := by decide +kernel
theorem dX7_count_114 : decode cX7_count 114 = .ok (.ireturn, 1) := by decide +kernel
theorem dX7_count_115 : decode cX7_count 115 = .ok (.aload_n 0, 1) := by decide +kernel
theorem dX7_count_116 : decode cX7_count 116 = .ok (.getfield 135, 3) := by decide +kernel
theorem dX7_count_119 : decode cX7_count 119 = .ok (.ireturn, 1) := by decide +kernel
theorem dX7_count_120 : decode cX7_count 120 = .ok (.aload_n 0, 1) := by decide +kernel
theorem dX7_count_121 : decode cX7_count 121 = .ok (.getfield 82, 3) := by decide +kernel
theorem dX7_count_124 : decode cX7_count 124 = .ok (.ireturn, 1) := by decide +kernel
theorem dX7_count_125 : decode cX7_count 125 = .ok (.ldc 64, 2) := by decide +kernel
theorem dX7_count_127 : decode cX7_count 127 = .ok (.ireturn, 1) := by decide +kernel
theorem dX7_status_0 : decode cX7_status 0 = .ok (.aload_n 0, 1) := by decide +kernel
theorem dX7_status_1 : decode cX7_status 1 = .ok (.getfield 51, 3) := by decide +kernel
theorem dX7_status_4 : decode cX7_status 4 = .ok (.ireturn, 1) := by decide +kernel
