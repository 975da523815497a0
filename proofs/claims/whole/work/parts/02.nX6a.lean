set_option maxRecDepth 20000 in
theorem ggX6_init_X4_init : GoodIn wsX6_init wsX4_init := goodIn_r _ [32, 33, 2, 3, 34, 35, 36, 37, 38, 39, 40, 41, 42, 72, 73, 74] (by decide +kernel) (by decide +kernel)
set_option maxRecDepth 20000 in
theorem gX6_init_X4_init : GoodIn wsX6_init (wsX4_init) := ggX6_init_X4_init
set_option maxRecDepth 20000 in
theorem ggX6_init_X5_init : GoodIn wsX6_init wsX5_init := goodIn_r _ [44, 45, 2, 3, 34, 46, 47, 84, 85, 86, 87, 88] (by decide +kernel) (by decide +kernel)
set_option maxRecDepth 20000 in
theorem gX6_init_X5_init_n18 : GoodIn wsX6_init (wsX5_init) := ggX6_init_X5_init
set_option maxRecDepth 20000 in
theorem ggX6_init_X0_init : GoodIn wsX6_init wsX0_init := goodIn_r _ [49, 50, 2, 3, 34, 51, 52, 53, 89, 90, 91, 92, 93] (by decide +kernel) (by decide +kernel)
set_option maxRecDepth 20000 in
theorem gX6_init_X0_init_n25 : GoodIn wsX6_init (wsX0_init) := ggX6_init_X0_init
set_option maxRecDepth 20000 in
theorem ggX6_init_X3_init : GoodIn wsX6_init wsX3_init := goodIn_r _ [55, 56, 2, 3, 57, 34, 58, 59, 60, 94, 95, 96, 97] (by decide +kernel) (by decide +kernel)
set_option maxRecDepth 20000 in
theorem gX6_init_X3_init_n32 : GoodIn wsX6_init (wsX3_init) := ggX6_init_X3_init
set_option maxRecDepth 20000 in
theorem ggX6_init_X1_init : GoodIn wsX6_init wsX1_init := goodIn_r _ [62, 63, 2, 3, 34, 64, 98, 99] (by decide +kernel) (by decide +kernel)
set_option maxRecDepth 20000 in
theorem gX6_init_X1_init_n39 : GoodIn wsX6_init (wsX1_init) := ggX6_init_X1_init
set_option maxRecDepth 20000 in
theorem ggX6_init_X2_init : GoodIn wsX6_init wsX2_init := goodIn_r _ [66, 67, 2, 3, 34, 68, 69, 70, 71, 100, 101, 102, 103, 104, 105, 106, 107, 108] (by decide +kernel) (by decide +kernel)
set_option maxRecDepth 20000 in
theorem gX6_init_X2_init_n46 : GoodIn wsX6_init (wsX2_init) := ggX6_init_X2_init
theorem dX6_init_0 : decode cX6_init 0 = .ok (.aload_n 0, 1) := by decide +kernel
theorem dX6_init_1 : decode cX6_init 1 = .ok (.invokespecial 1, 3) := by decide +kernel
theorem dX6_init_4 : decode cX6_init 4 = .ok (.aload_n 0, 1) := by decide +kernel
theorem dX6_init_5 : decode cX6_init 5 = .ok (.new 7, 3) := by decide +kernel
theorem dX6_init_8 : decode cX6_init 8 = .ok (.dup, 1) := by decide +kernel
theorem dX6_init_9 : decode cX6_init 9 = .ok (.invokespecial 9, 3) := by decide +kernel
theorem dX6_init_12 : decode cX6_init 12 = .ok (.putfield 10, 3) := by decide +kernel
theorem dX6_init_15 : decode cX6_init 15 = .ok (.aload_n 0, 1) := by decide +kernel
theorem dX6_init_16 : decode cX6_init 16 = .ok (.new 16, 3) := by decide +kernel
theorem dX6_init_19 : decode cX6_init 19 = .ok (.dup, 1) := by decide +kernel
theorem dX6_init_20 : decode cX6_init 20 = .ok (.invokespecial 18, 3) := by decide +kernel
theorem dX6_init_23 : decode cX6_init 23 = .ok (.putfield 19, 3) := by decide +kernel
theorem dX6_init_26 : decode cX6_init 26 = .ok (.aload_n 0, 1) := by decide +kernel
theorem dX6_init_27 : decode cX6_init 27 = .ok (.new 23, 3) := by decide +kernel
theorem dX6_init_30 : decode cX6_init 30 = .ok (.dup, 1) := by decide +kernel
theorem dX6_init_31 : decode cX6_init 31 = .ok (.invokespecial 25, 3) := by decide +kernel
theorem dX6_init_34 : decode cX6_init 34 = .ok (.putfield 26, 3) := by decide +kernel
theorem dX6_init_37 : decode cX6_init 37 = .ok (.aload_n 0, 1) := by decide +kernel
theorem dX6_init_38 : decode cX6_init 38 = .ok (.new 30, 3) := by decide +kernel
theorem dX6_init_41 : decode cX6_init 41 = .ok (.dup, 1) := by decide +kernel
theorem dX6_init_42 : decode cX6_init 42 = .ok (.invokespecial 32, 3) := by decide +kernel
theorem dX6_init_45 : decode cX6_init 45 = .ok (.putfield 33, 3) := by decide +kernel
theorem dX6_init_48 : decode cX6_init 48 = .ok (.aload_n 0, 1) := by decide +kernel
theorem dX6_init_49 : decode cX6_init 49 = .ok (.new 37, 3) := by decide +kernel
theorem dX6_init_52 : decode cX6_init 52 = .ok (.dup, 1) := by decide +kernel
theorem dX6_init_53 : decode cX6_init 53 = .ok (.invokespecial 39, 3) := by decide +kernel
theorem dX6_init_56 : decode cX6_init 56 = .ok (.putfield 40, 3) := by decide +kernel
theorem dX6_init_59 : decode cX6_init 59 = .ok (.aload_n 0, 1) := by decide +kernel
theorem dX6_init_60 : decode cX6_init 60 = .ok (.new 44, 3) := by decide +kernel
theorem dX6_init_63 : decode cX6_init 63 = .ok (.dup, 1) := by decide +kernel
theorem dX6_init_64 : decode cX6_init 64 = .ok (.invokespecial 46, 3) := by decide +kernel
theorem dX6_init_67 : decode cX6_init 67 = .ok (.putfield 47, 3) := by decide +kernel
theorem dX6_init_70 : decode cX6_init 70 = .ok (.aload_n 0, 1) := by decide +kernel
theorem dX6_init_71 : decode cX6_init 71 = .ok (.new 44, 3) := by decide +kernel
theorem dX6_init_74 : decode cX6_init 74 = .ok (.dup, 1) := by decide +kernel
theorem dX6_init_75 : decode cX6_init 75 = .ok (.invokespecial 46, 3) := by decide +kernel
theorem dX6_init_78 : decode cX6_init 78 = .ok (.putfield 51, 3) := by decide +kernel
theorem dX6_init_81 : decode cX6_init 81 = .ok (.aload_n 0, 1) := by decide +kernel
theorem dX6_init_82 : decode cX6_init 82 = .ok (.iconst 2, 1) := by decide +kernel
theorem dX6_init_83 : decode cX6_init 83 = .ok (.anewarray 44, 3) := by decide +kernel
theorem dX6_init_86 : decode cX6_init 86 = .ok (.dup, 1) := by decide +kernel
theorem dX6_init_87 : decode cX6_init 87 = .ok (.iconst 0, 1) := by decide +kernel
theorem dX6_init_88 : decode cX6_init 88 = .ok (.new 44, 3) := by decide +kernel
theorem dX6_init_91 : decode cX6_init 91 = .ok (.dup, 1) := by decide +kernel
theorem dX6_init_92 : decode cX6_init 92 = .ok (.invokespecial 46, 3) := by decide +kernel
theorem dX6_init_95 : decode cX6_init 95 = .ok (.aastore, 1) := by decide +kernel
theorem dX6_init_96 : decode cX6_init 96 = .ok (.dup, 1) := by decide +kernel
theorem dX6_init_97 : decode cX6_init 97 = .ok (.iconst 1, 1) := by decide +kernel
theorem dX6_init_98 : decode cX6_init 98 = .ok (.new 44, 3) := by decide +kernel
theorem dX6_init_101 : decode cX6_init 101 = .ok (.dup, 1) := by decide +kernel
theorem dX6_init_102 : decode cX6_init 102 = .ok (.invokespecial 46, 3) := by decide +kernel
theorem dX6_init_105 : decode cX6_init 105 = .ok (.aastore, 1) := by decide +kernel
theorem dX6_init_106 : decode cX6_init 106 = .ok (.putfield 54, 3) := by decide +kernel
theorem dX6_init_109 : decode cX6_init 109 = .ok (.return_, 1) := by decide +kernel
set_option maxRecDepth 20000 in
theorem ggX6_row_X4_isRow : GoodIn wsX6_row wsX4_isRow := goodIn_r _ [7] (by decide +kernel) (by decide +kernel)
set_option maxRecDepth 20000 in
theorem gX6_row_X4_isRow : GoodIn wsX6_row (wsV RX6 58 RX4 yX4_isRow wsX4_isRow) := goodIn_app (goodIn_of _ (by decide +kernel)) ggX6_row_X4_isRow
set_option maxRecDepth 20000 in
theorem ggX6_row_X6_isWithin : GoodIn wsX6_row wsX6_isWithin := goodIn_r _ [11] (by decide +kernel) (by decide +kernel)
set_option maxRecDepth 20000 in
theorem gX6_row_X6_isWithin : GoodIn wsX6_row (va_wsS RX6 62 yX6_isWithin wsX6_isWithin) := goodIn_app (goodIn_of _ (by decide +kernel)) ggX6_row_X6_isWithin
set_option maxRecDepth 20000 in
theorem ggX6_row_X6_found : GoodIn wsX6_row wsX6_found := goodIn_r _ [15, 16, 17, 33, 34, 35, 36, 37, 38, 39, 40, 41] (by decide +kernel) (by decide +kernel)
set_option maxRecDepth 20000 in
theorem gX6_row_X6_found : GoodIn wsX6_row (wsV RX6 67 RX6 yX6_found wsX6_found) := goodIn_app (goodIn_of _ (by decide +kernel)) ggX6_row_X6_found
set_option maxRecDepth 20000 in
theorem ggX6_row_X4_make : GoodIn wsX6_row wsX4_make := goodIn_r _ [21, 22, 23, 24, 25, 26, 27, 28, 42, 43, 44] (by decide +kernel) (by decide +kernel)
set_option maxRecDepth 20000 in
theorem gX6_row_X4_make : GoodIn wsX6_row (wsV RX6 71 RX4 yX4_make wsX4_make) := goodIn_app (goodIn_of _ (by decide +kernel)) ggX6_row_X4_make
set_option maxRecDepth 20000 in
theorem ggX6_row_X6_sound : GoodIn wsX6_row wsX6_sound := goodIn_r _ [32, 16, 33, 34, 35, 36, 37, 38, 39, 40, 41] (by decide +kernel) (by decide +kernel)
set_option maxRecDepth 20000 in
theorem gX6_row_X6_sound : GoodIn wsX6_row (wsV RX6 75 RX6 yX6_sound wsX6_sound) := goodIn_app (goodIn_of _ (by decide +kernel)) ggX6_row_X6_sound
theorem dX6_row_0 : decode cX6_row 0 = .ok (.aload_n 0, 1) := by decide +kernel
theorem dX6_row_1 : decode cX6_row 1 = .ok (.getfield 10, 3) := by decide +kernel
theorem dX6_row_4 : decode cX6_row 4 = .ok (.iload_n 1, 1) := by decide +kernel
theorem dX6_row_5 : decode cX6_row 5 = .ok (.invokevirtual 58, 3) := by decide +kernel
theorem dX6_row_8 : decode cX6_row 8 = .ok (.ifCond .eq 18, 3) := by decide +kernel
theorem dX6_row_11 : decode cX6_row 11 = .ok (.iload_n 2, 1) := by decide +kernel
theorem dX6_row_12 : decode cX6_row 12 = .ok (.iconst 0, 1) := by decide +kernel
theorem dX6_row_13 : decode cX6_row 13 = .ok (.iconst 2, 1) := by decide +kernel
theorem dX6_row_14 : decode cX6_row 14 = .ok (.invokestatic 62, 3) := by decide +kernel
theorem dX6_row_17 : decode cX6_row 17 = .ok (.ifCond .eq 9, 3) := by decide +kernel
theorem dX6_row_20 : decode cX6_row 20 = .ok (.iload_n 3, 1) := by decide +kernel
theorem dX6_row_21 : decode cX6_row 21 = .ok (.bipush 40, 2) := by decide +kernel
theorem dX6_row_23 : decode cX6_row 23 = .ok (.if_icmp .le 6, 3) := by decide +kernel
theorem dX6_row_26 : decode cX6_row 26 = .ok (.ldc 66, 2) := by decide +kernel
theorem dX6_row_28 : decode cX6_row 28 = .ok (.ireturn, 1) := by decide +kernel
theorem dX6_row_29 : decode cX6_row 29 = .ok (.iload_n 3, 1) := by decide +kernel
theorem dX6_row_30 : decode cX6_row 30 = .ok (.ifCond .ge 9, 3) := by decide +kernel
theorem dX6_row_33 : decode cX6_row 33 = .ok (.aload_n 0, 1) := by decide +kernel
theorem dX6_row_34 : decode cX6_row 34 = .ok (.iconst 4, 1) := by decide +kernel
theorem dX6_row_35 : decode cX6_row 35 = .ok (.invokevirtual 67, 3) := by decide +kernel
theorem dX6_row_38 : decode cX6_row 38 = .ok (.ireturn, 1) := by decide +kernel
theorem dX6_row_39 : decode cX6_row 39 = .ok (.aload_n 0, 1) := by decide +kernel
theorem dX6_row_40 : decode cX6_row 40 = .ok (.getfield 10, 3) := by decide +kernel
theorem dX6_row_43 : decode cX6_row 43 = .ok (.iload_n 1, 1) := by decide +kernel
theorem dX6_row_44 : decode cX6_row 44 = .ok (.iload_n 2, 1) := by decide +kernel
theorem dX6_row_45 : decode cX6_row 45 = .ok (.iload_n 3, 1) := by decide +kernel
theorem dX6_row_46 : decode cX6_row 46 = .ok (.invokevirtual 71, 3) := by decide +kernel
theorem dX6_row_49 : decode cX6_row 49 = .ok (.aload_n 0, 1) := by decide +kernel
theorem dX6_row_50 : decode cX6_row 50 = .ok (.iload_n 3, 1) := by decide +kernel
theorem dX6_row_51 : decode cX6_row 51 = .ok (.invokevirtual 75, 3) := by decide +kernel
theorem dX6_row_54 : decode cX6_row 54 = .ok (.ireturn, 1) := by decide +kernel
set_option maxRecDepth 20000 in
theorem ggX6_set_X4_isRow : GoodIn wsX6_set wsX4_isRow := goodIn_r _ [7] (by decide +kernel) (by decide +kernel)
set_option maxRecDepth 20000 in
theorem gX6_set_X4_isRow : GoodIn wsX6_set (wsV RX6 58 RX4 yX4_isRow wsX4_isRow) := goodIn_app (goodIn_of _ (by decide +kernel)) ggX6_set_X4_isRow
set_option maxRecDepth 20000 in
theorem ggX6_set_X4_isMissing : GoodIn wsX6_set wsX4_isMissing := goodIn_r _ [11, 12, 46, 47, 48] (by decide +kernel) (by decide +kernel)
set_option maxRecDepth 20000 in
theorem gX6_set_X4_isMissing : GoodIn wsX6_set (wsV RX6 78 RX4 yX4_isMissing wsX4_isMissing) := goodIn_app (goodIn_of _ (by decide +kernel)) ggX6_set_X4_isMissing
set_option maxRecDepth 20000 in
theorem ggX6_set_X6_found : GoodIn wsX6_set wsX6_found := goodIn_r _ [17, 18, 19, 37, 38, 39, 40, 41, 42, 43, 44, 45] (by decide +kernel) (by decide +kernel)
set_option maxRecDepth 20000 in
theorem gX6_set_X6_found : GoodIn wsX6_set (wsV RX6 67 RX6 yX6_found wsX6_found) := goodIn_app (goodIn_of _ (by decide +kernel)) ggX6_set_X6_found
set_option maxRecDepth 20000 in
theorem ggX6_set_X4_hasPlaces : GoodIn wsX6_set wsX4_hasPlaces := goodIn_r _ [23, 24, 46, 47, 48] (by decide +kernel) (by decide +kernel)
set_option maxRecDepth 20000 in
theorem gX6_set_X4_hasPlaces : GoodIn wsX6_set (wsV RX6 81 RX4 yX4_hasPlaces wsX4_hasPlaces) := goodIn_app (goodIn_of _ (by decide +kernel)) ggX6_set_X4_hasPlaces
set_option maxRecDepth 20000 in
theorem ggX6_set_X4_put : GoodIn wsX6_set wsX4_put := goodIn_r _ [28, 29, 12, 30, 31, 6, 32, 46, 47, 48] (by decide +kernel) (by decide +kernel)
set_option maxRecDepth 20000 in
theorem gX6_set_X4_put : GoodIn wsX6_set (wsV RX6 84 RX4 yX4_put wsX4_put) := goodIn_app (goodIn_of _ (by decide +kernel)) ggX6_set_X4_put
set_option maxRecDepth 20000 in
theorem ggX6_set_X6_sound : GoodIn wsX6_set wsX6_sound := goodIn_r _ [36, 18, 37, 38, 39, 40, 41, 42, 43, 44, 45] (by decide +kernel) (by decide +kernel)
set_option maxRecDepth 20000 in
theorem gX6_set_X6_sound : GoodIn wsX6_set (wsV RX6 75 RX6 yX6_sound wsX6_sound) := goodIn_app (goodIn_of _ (by decide +kernel)) ggX6_set_X6_sound
theorem dX6_set_0 : decode cX6_set 0 = .ok (.aload_n 0, 1) := by decide +kernel
theorem dX6_set_1 : decode cX6_set 1 = .ok (.getfield 10, 3) := by decide +kernel
theorem dX6_set_4 : decode cX6_set 4 = .ok (.iload_n 1, 1) := by decide +kernel
theorem dX6_set_5 : decode cX6_set 5 = .ok (.invokevirtual 58, 3) := by decide +kernel
theorem dX6_set_8 : decode cX6_set 8 = .ok (.ifCond .ne 6, 3) := by decide +kernel
theorem dX6_set_11 : decode cX6_set 11 = .ok (.ldc 66, 2) := by decide +kernel
theorem dX6_set_13 : decode cX6_set 13 = .ok (.ireturn, 1) := by decide +kernel
theorem dX6_set_14 : decode cX6_set 14 = .ok (.aload_n 0, 1) := by decide +kernel
theorem dX6_set_15 : decode cX6_set 15 = .ok (.getfield 10, 3) := by decide +kernel
theorem dX6_set_18 : decode cX6_set 18 = .ok (.iload_n 1, 1) := by decide +kernel
theorem dX6_set_19 : decode cX6_set 19 = .ok (.invokevirtual 78, 3) := by decide +kernel
theorem dX6_set_22 : decode cX6_set 22 = .ok (.ifCond .eq 9, 3) := by decide +kernel
theorem dX6_set_25 : decode cX6_set 25 = .ok (.aload_n 0, 1) := by decide +kernel
theorem dX6_set_26 : decode cX6_set 26 = .ok (.iconst 1, 1) := by decide +kernel
theorem dX6_set_27 : decode cX6_set 27 = .ok (.invokevirtual 67, 3) := by decide +kernel
theorem dX6_set_30 : decode cX6_set 30 = .ok (.ireturn, 1) := by decide +kernel
theorem dX6_set_31 : decode cX6_set 31 = .ok (.aload_n 0, 1) := by decide +kernel
theorem dX6_set_32 : decode cX6_set 32 = .ok (.getfield 10, 3) := by decide +kernel
theorem dX6_set_35 : decode cX6_set 35 = .ok (.iload_n 1, 1) := by decide +kernel
theorem dX6_set_36 : decode cX6_set 36 = .ok (.iload_n 2, 1) := by decide +kernel
theorem dX6_set_37 : decode cX6_set 37 = .ok (.iconst 1, 1) := by decide +kernel
theorem dX6_set_38 : decode cX6_set 38 = .ok (.invokevirtual 81, 3) := by decide +kernel
theorem dX6_set_41 : decode cX6_set 41 = .ok (.ifCond .ne 9, 3) := by decide +kernel
theorem dX6_set_44 : decode cX6_set 44 = .ok (.aload_n 0, 1) := by decide +kernel
theorem dX6_set_45 : decode cX6_set 45 = .ok (.iconst 2, 1) := by decide +kernel
theorem dX6_set_46 : decode cX6_set 46 = .ok (.invokevirtual 67, 3) := by decide +kernel
theorem dX6_set_49 : decode cX6_set 49 = .ok (.ireturn, 1) := by decide +kernel
theorem dX6_set_50 : decode cX6_set 50 = .ok (.aload_n 0, 1) := by decide +kernel
theorem dX6_set_51 : decode cX6_set 51 = .ok (.aload_n 0, 1) := by decide +kernel
theorem dX6_set_52 : decode cX6_set 52 = .ok (.getfield 10, 3) := by decide +kernel
theorem dX6_set_55 : decode cX6_set 55 = .ok (.iload_n 1, 1) := by decide +kernel
theorem dX6_set_56 : decode cX6_set 56 = .ok (.iload_n 2, 1) := by decide +kernel
theorem dX6_set_57 : decode cX6_set 57 = .ok (.iload_n 3, 1) := by decide +kernel
theorem dX6_set_58 : decode cX6_set 58 = .ok (.invokevirtual 84, 3) := by decide +kernel
theorem dX6_set_61 : decode cX6_set 61 = .ok (.invokevirtual 75, 3) := by decide +kernel
theorem dX6_set_64 : decode cX6_set 64 = .ok (.ireturn, 1) := by decide +kernel
set_option maxRecDepth 20000 in
theorem ggX6_copy_X4_isRow : GoodIn wsX6_copy wsX4_isRow := goodIn_r _ [7] (by decide +kernel) (by decide +kernel)
set_option maxRecDepth 20000 in
theorem gX6_copy_X4_isRow : GoodIn wsX6_copy (wsV RX6 58 RX4 yX4_isRow wsX4_isRow) := goodIn_app (goodIn_of _ (by decide +kernel)) ggX6_copy_X4_isRow
set_option maxRecDepth 20000 in
theorem ggX6_copy_X4_isMissing : GoodIn wsX6_copy wsX4_isMissing := goodIn_r _ [11, 12, 51, 52, 53] (by decide +kernel) (by decide +kernel)
set_option maxRecDepth 20000 in
theorem gX6_copy_X4_isMissing : GoodIn wsX6_copy (wsV RX6 78 RX4 yX4_isMissing wsX4_isMissing) := goodIn_app (goodIn_of _ (by decide +kernel)) ggX6_copy_X4_isMissing
set_option maxRecDepth 20000 in
theorem ggX6_copy_X6_found : GoodIn wsX6_copy wsX6_found := goodIn_r _ [17, 18, 19, 42, 43, 44, 45, 46, 47, 48, 49, 50] (by decide +kernel) (by decide +kernel)
set_option maxRecDepth 20000 in
theorem gX6_copy_X6_found : GoodIn wsX6_copy (wsV RX6 67 RX6 yX6_found wsX6_found) := goodIn_app (goodIn_of _ (by decide +kernel)) ggX6_copy_X6_found
set_option maxRecDepth 20000 in
theorem ggX6_copy_X4_laneOf : GoodIn wsX6_copy wsX4_laneOf := goodIn_r _ [23, 12, 51, 52, 53] (by decide +kernel) (by decide +kernel)
set_option maxRecDepth 20000 in
theorem gX6_copy_X4_laneOf : GoodIn wsX6_copy (wsV RX6 88 RX4 yX4_laneOf wsX4_laneOf) := goodIn_app (goodIn_of _ (by decide +kernel)) ggX6_copy_X4_laneOf
set_option maxRecDepth 20000 in
theorem ggX6_copy_X4_hasPlaces : GoodIn wsX6_copy wsX4_hasPlaces := goodIn_r _ [27, 28, 51, 52, 53] (by decide +kernel) (by decide +kernel)
set_option maxRecDepth 20000 in
theorem gX6_copy_X4_hasPlaces : GoodIn wsX6_copy (wsV RX6 81 RX4 yX4_hasPlaces wsX4_hasPlaces) := goodIn_app (goodIn_of _ (by decide +kernel)) ggX6_copy_X4_hasPlaces
set_option maxRecDepth 20000 in
theorem ggX6_copy_X4_move : GoodIn wsX6_copy wsX4_move := goodIn_r _ [32, 33, 34, 35, 36, 37, 51, 52, 53] (by decide +kernel) (by decide +kernel)
set_option maxRecDepth 20000 in
theorem gX6_copy_X4_move : GoodIn wsX6_copy (wsV RX6 91 RX4 yX4_move wsX4_move) := goodIn_app (goodIn_of _ (by decide +kernel)) ggX6_copy_X4_move
set_option maxRecDepth 20000 in
theorem ggX6_copy_X6_sound : GoodIn wsX6_copy wsX6_sound := goodIn_r _ [41, 18, 42, 43, 44, 45, 46, 47, 48, 49, 50] (by decide +kernel) (by decide +kernel)
set_option maxRecDepth 20000 in
theorem gX6_copy_X6_sound : GoodIn wsX6_copy (wsV RX6 75 RX6 yX6_sound wsX6_sound) := goodIn_app (goodIn_of _ (by decide +kernel)) ggX6_copy_X6_sound
theorem dX6_copy_0 : decode cX6_copy 0 = .ok (.aload_n 0, 1) := by decide +kernel
theorem dX6_copy_1 : decode cX6_copy 1 = .ok (.getfield 10, 3) := by decide +kernel
theorem dX6_copy_4 : decode cX6_copy 4 = .ok (.iload_n 1, 1) := by decide +kernel
theorem dX6_copy_5 : decode cX6_copy 5 = .ok (.invokevirtual 58, 3) := by decide +kernel
theorem dX6_copy_8 : decode cX6_copy 8 = .ok (.ifCond .eq 14, 3) := by decide +kernel
theorem dX6_copy_11 : decode cX6_copy 11 = .ok (.aload_n 0, 1) := by decide +kernel
theorem dX6_copy_12 : decode cX6_copy 12 = .ok (.getfield 10, 3) := by decide +kernel
theorem dX6_copy_15 : decode cX6_copy 15 = .ok (.iload_n 3, 1) := by decide +kernel
theorem dX6_copy_16 : decode cX6_copy 16 = .ok (.invokevirtual 58, 3) := by decide +kernel
theorem dX6_copy_19 : decode cX6_copy 19 = .ok (.ifCond .ne 6, 3) := by decide +kernel
theorem dX6_copy_22 : decode cX6_copy 22 = .ok (.ldc 66, 2) := by decide +kernel
theorem dX6_copy_24 : decode cX6_copy 24 = .ok (.ireturn, 1) := by decide +kernel
theorem dX6_copy_25 : decode cX6_copy 25 = .ok (.aload_n 0, 1) := by decide +kernel
theorem dX6_copy_26 : decode cX6_copy 26 = .ok (.getfield 10, 3) := by decide +kernel
theorem dX6_copy_29 : decode cX6_copy 29 = .ok (.iload_n 1, 1) := by decide +kernel
theorem dX6_copy_30 : decode cX6_copy 30 = .ok (.invokevirtual 78, 3) := by decide +kernel
theorem dX6_copy_33 : decode cX6_copy 33 = .ok (.ifCond .ne 14, 3) := by decide +kernel
theorem dX6_copy_36 : decode cX6_copy 36 = .ok (.aload_n 0, 1) := by decide +kernel
theorem dX6_copy_37 : decode cX6_copy 37 = .ok (.getfield 10, 3) := by decide +kernel
theorem dX6_copy_40 : decode cX6_copy 40 = .ok (.iload_n 3, 1) := by decide +kernel
theorem dX6_copy_41 : decode cX6_copy 41 = .ok (.invokevirtual 78, 3) := by decide +kernel
theorem dX6_copy_44 : decode cX6_copy 44 = .ok (.ifCond .eq 9, 3) := by decide +kernel
theorem dX6_copy_47 : decode cX6_copy 47 = .ok (.aload_n 0, 1) := by decide +kernel
theorem dX6_copy_48 : decode cX6_copy 48 = .ok (.iconst 1, 1) := by decide +kernel
theorem dX6_copy_49 : decode cX6_copy 49 = .ok (.invokevirtual 67, 3) := by decide +kernel
theorem dX6_copy_52 : decode cX6_copy 52 = .ok (.ireturn, 1) := by decide +kernel
theorem dX6_copy_53 : decode cX6_copy 53 = .ok (.aload_n 0, 1) := by decide +kernel
theorem dX6_copy_54 : decode cX6_copy 54 = .ok (.getfield 10, 3) := by decide +kernel
theorem dX6_copy_57 : decode cX6_copy 57 = .ok (.iload_n 1, 1) := by decide +kernel
theorem dX6_copy_58 : decode cX6_copy 58 = .ok (.invokevirtual 88, 3) := by decide +kernel
theorem dX6_copy_61 : decode cX6_copy 61 = .ok (.aload_n 0, 1) := by decide +kernel
theorem dX6_copy_62 : decode cX6_copy 62 = .ok (.getfield 10, 3) := by decide +kernel
theorem dX6_copy_65 : decode cX6_copy 65 = .ok (.iload_n 3, 1) := by decide +kernel
theorem dX6_copy_66 : decode cX6_copy 66 = .ok (.invokevirtual 88, 3) := by decide +kernel
theorem dX6_copy_69 : decode cX6_copy 69 = .ok (.if_icmp .eq 9, 3) := by decide +kernel
theorem dX6_copy_72 : decode cX6_copy 72 = .ok (.aload_n 0, 1) := by decide +kernel
theorem dX6_copy_73 : decode cX6_copy 73 = .ok (.iconst 5, 1) := by decide +kernel
theorem dX6_copy_74 : decode cX6_copy 74 = .ok (.invokevirtual 67, 3) := by decide +kernel
theorem dX6_copy_77 : decode cX6_copy 77 = .ok (.ireturn, 1) := by decide +kernel
theorem dX6_copy_78 : decode cX6_copy 78 = .ok (.aload_n 0, 1) := by decide +kernel
theorem dX6_copy_79 : decode cX6_copy 79 = .ok (.getfield 10, 3) := by decide +kernel
theorem dX6_copy_82 : decode cX6_copy 82 = .ok (.iload_n 1, 1) := by decide +kernel
theorem dX6_copy_83 : decode cX6_copy 83 = .ok (.iload_n 2, 1) := by decide +kernel
theorem dX6_copy_84 : decode cX6_copy 84 = .ok (.iload 5, 2) := by decide +kernel
theorem dX6_copy_86 : decode cX6_copy 86 = .ok (.invokevirtual 81, 3) := by decide +kernel
theorem dX6_copy_89 : decode cX6_copy 89 = .ok (.ifCond .eq 18, 3) := by decide +kernel
theorem dX6_copy_92 : decode cX6_copy 92 = .ok (.aload_n 0, 1) := by decide +kernel
theorem dX6_copy_93 : decode cX6_copy 93 = .ok (.getfield 10, 3) := by decide +kernel
theorem dX6_copy_96 : decode cX6_copy 96 = .ok (.iload_n 3, 1) := by decide +kernel
theorem dX6_copy_97 : decode cX6_copy 97 = .ok (.iload 4, 2) := by decide +kernel
theorem dX6_copy_99 : decode cX6_copy 99 = .ok (.iload 5, 2) := by decide +kernel
theorem dX6_copy_101 : decode cX6_copy 101 = .ok (.invokevirtual 81, 3) := by decide +kernel
theorem dX6_copy_104 : decode cX6_copy 104 = .ok (.ifCond .ne 9, 3) := by decide +kernel
theorem dX6_copy_107 : decode cX6_copy 107 = .ok (.aload_n 0, 1) := by decide +kernel
theorem dX6_copy_108 : decode cX6_copy 108 = .ok (.iconst 2, 1) := by decide +kernel
theorem dX6_copy_109 : decode cX6_copy 109 = .ok (.invokevirtual 67, 3) := by decide +kernel
theorem dX6_copy_112 : decode cX6_copy 112 = .ok (.ireturn, 1) := by decide +kernel
theorem dX6_copy_113 : decode cX6_copy 113 = .ok (.aload_n 0, 1) := by decide +kernel
theorem dX6_copy_114 : decode cX6_copy 114 = .ok (.getfield 10, 3) := by decide +kernel
theorem dX6_copy_117 : decode cX6_copy 117 = .ok (.iload_n 1, 1) := by decide +kernel
theorem dX6_copy_118 : decode cX6_copy 118 = .ok (.iload_n 2, 1) := by decide +kernel
theorem dX6_copy_119 : decode cX6_copy 119 = .ok (.iload_n 3, 1) := by decide +kernel
theorem dX6_copy_120 : decode cX6_copy 120 = .ok (.iload 4, 2) := by decide +kernel
theorem dX6_copy_122 : decode cX6_copy 122 = .ok (.iload 5, 2) := by decide +kernel
theorem dX6_copy_124 : decode cX6_copy 124 = .ok (.invokevirtual 91, 3) := by decide +kernel
theorem dX6_copy_127 : decode cX6_copy 127 = .ok (.aload_n 0, 1) := by decide +kernel
theorem dX6_copy_128 : decode cX6_copy 128 = .ok (.iload 5, 2) := by decide +kernel
theorem dX6_copy_130 : decode cX6_copy 130 = .ok (.invokevirtual 75, 3) := by decide +kernel
theorem dX6_copy_133 : decode cX6_copy 133 = .ok (.ireturn, 1) := by decide +kernel
set_option maxRecDepth 20000 in
theorem ggX6_drop_X4_isRow : GoodIn wsX6_drop wsX4_isRow := goodIn_r _ [7] (by decide +kernel) (by decide +kernel)
set_option maxRecDepth 20000 in
theorem gX6_drop_X4_isRow : GoodIn wsX6_drop (wsV RX6 58 RX4 yX4_isRow wsX4_isRow) := goodIn_app (goodIn_of _ (by decide +kernel)) ggX6_drop_X4_isRow
set_option maxRecDepth 20000 in
theorem ggX6_drop_X4_isMissing : GoodIn wsX6_drop wsX4_isMissing := goodIn_r _ [11, 12, 38, 39, 40] (by decide +kernel) (by decide +kernel)
set_option maxRecDepth 20000 in
theorem gX6_drop_X4_isMissing : GoodIn wsX6_drop (wsV RX6 78 RX4 yX4_isMissing wsX4_isMissing) := goodIn_app (goodIn_of _ (by decide +kernel)) ggX6_drop_X4_isMissing
set_option maxRecDepth 20000 in
theorem ggX6_drop_X6_found : GoodIn wsX6_drop wsX6_found := goodIn_r _ [17, 18, 19, 29, 30, 31, 32, 33, 34, 35, 36, 37] (by decide +kernel) (by decide +kernel)
set_option maxRecDepth 20000 in
theorem gX6_drop_X6_found : GoodIn wsX6_drop (wsV RX6 67 RX6 yX6_found wsX6_found) := goodIn_app (goodIn_of _ (by decide +kernel)) ggX6_drop_X6_found
set_option maxRecDepth 20000 in
theorem ggX6_drop_X4_takeAway : GoodIn wsX6_drop wsX4_takeAway := goodIn_r _ [23, 12, 24, 38, 39, 40] (by decide +kernel) (by decide +kernel)
set_option maxRecDepth 20000 in
theorem gX6_drop_X4_takeAway : GoodIn wsX6_drop (wsV RX6 95 RX4 yX4_takeAway wsX4_takeAway) := goodIn_app (goodIn_of _ (by decide +kernel)) ggX6_drop_X4_takeAway
set_option maxRecDepth 20000 in
theorem ggX6_drop_X6_sound : GoodIn wsX6_drop wsX6_sound := goodIn_r _ [28, 18, 29, 30, 31, 32, 33, 34, 35, 36, 37] (by decide +kernel) (by decide +kernel)
set_option maxRecDepth 20000 in
theorem gX6_drop_X6_sound : GoodIn wsX6_drop (wsV RX6 75 RX6 yX6_sound wsX6_sound) := goodIn_app (goodIn_of _ (by decide +kernel)) ggX6_drop_X6_sound
theorem dX6_drop_0 : decode cX6_drop 0 = .ok (.aload_n 0, 1) := by decide +kernel
theorem dX6_drop_1 : decode cX6_drop 1 = .ok (.getfield 10, 3) := by decide +kernel
theorem dX6_drop_4 : decode cX6_drop 4 = .ok (.iload_n 1, 1) := by decide +kernel
theorem dX6_drop_5 : decode cX6_drop 5 = .ok (.invokevirtual 58, 3) := by decide +kernel
theorem dX6_drop_8 : decode cX6_drop 8 = .ok (.ifCond .ne 6, 3) := by decide +kernel
theorem dX6_drop_11 : decode cX6_drop 11 = .ok (.ldc 66, 2) := by decide +kernel
theorem dX6_drop_13 : decode cX6_drop 13 = .ok (.ireturn, 1) := by decide +kernel
theorem dX6_drop_14 : decode cX6_drop 14 = .ok (.aload_n 0, 1) := by decide +kernel
theorem dX6_drop_15 : decode cX6_drop 15 = .ok (.getfield 10, 3) := by decide +kernel
theorem dX6_drop_18 : decode cX6_drop 18 = .ok (.iload_n 1, 1) := by decide +kernel
theorem dX6_drop_19 : decode cX6_drop 19 = .ok (.invokevirtual 78, 3) := by decide +kernel
theorem dX6_drop_22 : decode cX6_drop 22 = .ok (.ifCond .eq 9, 3) := by decide +kernel
theorem dX6_drop_25 : decode cX6_drop 25 = .ok (.aload_n 0, 1) := by decide +kernel
theorem dX6_drop_26 : decode cX6_drop 26 = .ok (.iconst 1, 1) := by decide +kernel
theorem dX6_drop_27 : decode cX6_drop 27 = .ok (.invokevirtual 67, 3) := by decide +kernel
theorem dX6_drop_30 : decode cX6_drop 30 = .ok (.ireturn, 1) := by decide +kernel
theorem dX6_drop_31 : decode cX6_drop 31 = .ok (.aload_n 0, 1) := by decide +kernel
theorem dX6_drop_32 : decode cX6_drop 32 = .ok (.aload_n 0, 1) := by decide +kernel
theorem dX6_drop_33 : decode cX6_drop 33 = .ok (.getfield 10, 3) := by decide +kernel
theorem dX6_drop_36 : decode cX6_drop 36 = .ok (.iload_n 1, 1) := by decide +kernel
theorem dX6_drop_37 : decode cX6_drop 37 = .ok (.invokevirtual 95, 3) := by decide +kernel
theorem dX6_drop_40 : decode cX6_drop 40 = .ok (.invokevirtual 75, 3) := by decide +kernel
theorem dX6_drop_43 : decode cX6_drop 43 = .ok (.ireturn, 1) := by decide +kernel
set_option maxRecDepth 20000 in
theorem ggX6_feed_X6_isWithin : GoodIn wsX6_feed wsX6_isWithin := goodIn_r _ [7] (by decide +kernel) (by decide +kernel)
set_option maxRecDepth 20000 in
theorem gX6_feed_X6_isWithin : GoodIn wsX6_feed (va_wsS RX6 62 yX6_isWithin wsX6_isWithin) := goodIn_app (goodIn_of _ (by decide +kernel)) ggX6_feed_X6_isWithin
set_option maxRecDepth 20000 in
theorem ggX6_feed_X5_isFull : GoodIn wsX6_feed wsX5_isFull := goodIn_r _ [12, 13, 28, 29, 30, 31, 32] (by decide +kernel) (by decide +kernel)
set_option maxRecDepth 20000 in
theorem gX6_feed_X5_isFull : GoodIn wsX6_feed (wsV RX6 98 RX5 yX5_isFull wsX5_isFull) := goodIn_app (goodIn_of _ (by decide +kernel)) ggX6_feed_X5_isFull
set_option maxRecDepth 20000 in
theorem ggX6_feed_X5_add : GoodIn wsX6_feed wsX5_add := goodIn_r _ [17, 18, 13, 28, 29, 30, 31, 32] (by decide +kernel) (by decide +kernel)
set_option maxRecDepth 20000 in
theorem gX6_feed_X5_add : GoodIn wsX6_feed (wsV RX6 103 RX5 yX5_add wsX5_add) := goodIn_app (goodIn_of _ (by decide +kernel)) ggX6_feed_X5_add
theorem dX6_feed_0 : decode cX6_feed 0 = .ok (.iload_n 1, 1) := by decide +kernel
theorem dX6_feed_1 : decode cX6_feed 1 = .ok (.iconst 0, 1) := by decide +kernel
theorem dX6_feed_2 : decode cX6_feed 2 = .ok (.sipush 255, 3) := by decide +kernel
theorem dX6_feed_5 : decode cX6_feed 5 = .ok (.invokestatic 62, 3) := by decide +kernel
theorem dX6_feed_8 : decode cX6_feed 8 = .ok (.ifCond .ne 6, 3) := by decide +kernel
theorem dX6_feed_11 : decode cX6_feed 11 = .ok (.ldc 66, 2) := by decide +kernel
theorem dX6_feed_13 : decode cX6_feed 13 = .ok (.ireturn, 1) := by decide +kernel
theorem dX6_feed_14 : decode cX6_feed 14 = .ok (.aload_n 0, 1) := by decide +kernel
theorem dX6_feed_15 : decode cX6_feed 15 = .ok (.getfield 19, 3) := by decide +kernel
theorem dX6_feed_18 : decode cX6_feed 18 = .ok (.invokevirtual 98, 3) := by decide +kernel
theorem dX6_feed_21 : decode cX6_feed 21 = .ok (.ifCond .eq 6, 3) := by decide +kernel
theorem dX6_feed_24 : decode cX6_feed 24 = .ok (.ldc 102, 2) := by decide +kernel
theorem dX6_feed_26 : decode cX6_feed 26 = .ok (.ireturn, 1) := by decide +kernel
theorem dX6_feed_27 : decode cX6_feed 27 = .ok (.aload_n 0, 1) := by decide +kernel
theorem dX6_feed_28 : decode cX6_feed 28 = .ok (.getfield 19, 3) := by decide +kernel
theorem dX6_feed_31 : decode cX6_feed 31 = .ok (.iload_n 1, 1) := by decide +kernel
theorem dX6_feed_32 : decode cX6_feed 32 = .ok (.invokevirtual 103, 3) := by decide +kernel
theorem dX6_feed_35 : decode cX6_feed 35 = .ok (.ireturn, 1) := by decide +kernel
set_option maxRecDepth 20000 in
theorem ggX6_city_X5_readInto : GoodIn wsX6_city wsX5_readInto := goodIn_r _ [11, 12, 13, 14, 15, 16, 17, 18, 19, 20, 21, 22, 23, 24, 25, 26, 27, 10, 28, 29, 30, 31, 32, 33, 34, 35, 36, 37, 38, 39, 40, 41, 42, 43, 44, 45, 46, 47, 48, 49, 50, 51, 52, 53, 54, 55, 56, 57, 58, 59, 60, 61, 62, 63, 64, 65, 66, 67, 68, 69, 70, 71, 104, 105, 106, 107, 108, 95, 96, 97, 98, 99, 100, 101, 102, 103] (by decide +kernel) (by decide +kernel)
set_option maxRecDepth 20000 in
theorem gX6_city_X5_readInto : GoodIn wsX6_city (wsV RX6 106 RX5 yX5_readInto wsX5_readInto) := goodIn_app (goodIn_of _ (by decide +kernel)) ggX6_city_X5_readInto
set_option maxRecDepth 20000 in
theorem ggX6_city_X2_become : GoodIn wsX6_city wsX2_become := goodIn_r _ [75, 20, 21, 22, 23, 24, 68, 76, 77, 78, 79, 69, 70, 71, 95, 96, 97, 98, 99, 100, 101, 102, 103] (by decide +kernel) (by decide +kernel)
set_option maxRecDepth 20000 in
theorem gX6_city_X2_become : GoodIn wsX6_city (wsV RX6 111 RX2 yX2_become wsX2_become) := goodIn_app (goodIn_of _ (by decide +kernel)) ggX6_city_X2_become
set_option maxRecDepth 20000 in
theorem ggX6_city_X0_forgetAll : GoodIn wsX6_city wsX0_forgetAll := goodIn_r _ [84, 85, 109, 110, 111, 112, 113] (by decide +kernel) (by decide +kernel)
set_option maxRecDepth 20000 in
theorem gX6_city_X0_forgetAll : GoodIn wsX6_city (wsV RX6 115 RX0 yX0_forgetAll wsX0_forgetAll) := goodIn_app (goodIn_of _ (by decide +kernel)) ggX6_city_X0_forgetAll
theorem dX6_city_0 : decode cX6_city 0 = .ok (.aload_n 0, 1) := by decide +kernel
theorem dX6_city_1 : decode cX6_city 1 = .ok (.getfield 19, 3) := by decide +kernel
theorem dX6_city_4 : decode cX6_city 4 = .ok (.aload_n 0, 1) := by decide +kernel
theorem dX6_city_5 : decode cX6_city 5 = .ok (.getfield 51, 3) := by decide +kernel
theorem dX6_city_8 : decode cX6_city 8 = .ok (.invokevirtual 106, 3) := by decide +kernel
theorem dX6_city_11 : decode cX6_city 11 = .ok (.istore_n 1, 1) := by decide +kernel
theorem dX6_city_12 : decode cX6_city 12 = .ok (.iload_n 1, 1) := by decide +kernel
theorem dX6_city_13 : decode cX6_city 13 = .ok (.iconst (-1), 1) := by decide +kernel
theorem dX6_city_14 : decode cX6_city 14 = .ok (.if_icmp .eq 8, 3) := by decide +kernel
theorem dX6_city_17 : decode cX6_city 17 = .ok (.ldc 110, 2) := by decide +kernel
theorem dX6_city_19 : decode cX6_city 19 = .ok (.iload_n 1, 1) := by decide +kernel
theorem dX6_city_20 : decode cX6_city 20 = .ok (.isub, 1) := by decide +kernel
theorem dX6_city_21 : decode cX6_city 21 = .ok (.ireturn, 1) := by decide +kernel
theorem dX6_city_22 : decode cX6_city 22 = .ok (.aload_n 0, 1) := by decide +kernel
theorem dX6_city_23 : decode cX6_city 23 = .ok (.getfield 47, 3) := by decide +kernel
theorem dX6_city_26 : decode cX6_city 26 = .ok (.aload_n 0, 1) := by decide +kernel
theorem dX6_city_27 : decode cX6_city 27 = .ok (.getfield 51, 3) := by decide +kernel
theorem dX6_city_30 : decode cX6_city 30 = .ok (.invokevirtual 111, 3) := by decide +kernel
theorem dX6_city_33 : decode cX6_city 33 = .ok (.aload_n 0, 1) := by decide +kernel
theorem dX6_city_34 : decode cX6_city 34 = .ok (.getfield 26, 3) := by decide +kernel
theorem dX6_city_37 : decode cX6_city 37 = .ok (.invokevirtual 115, 3) := by decide +kernel
theorem dX6_city_40 : decode cX6_city 40 = .ok (.aload_n 0, 1) := by decide +kernel
theorem dX6_city_41 : decode cX6_city 41 = .ok (.getfield 47, 3) := by decide +kernel
theorem dX6_city_44 : decode cX6_city 44 = .ok (.getfield 118, 3) := by decide +kernel
theorem dX6_city_47 : decode cX6_city 47 = .ok (.ireturn, 1) := by decide +kernel
set_option maxRecDepth 20000 in
theorem ggX6_fault_X5_latestFault : GoodIn wsX6_fault wsX5_latestFault := goodIn_r _ [6, 7, 17, 18, 19, 20, 21] (by decide +kernel) (by decide +kernel)
set_option maxRecDepth 20000 in
theorem gX6_fault_X5_latestFault : GoodIn wsX6_fault (wsV RX6 122 RX5 yX5_latestFault wsX5_latestFault) := goodIn_app (goodIn_of _ (by decide +kernel)) ggX6_fault_X5_latestFault
theorem dX6_fault_0 : decode cX6_fault 0 = .ok (.aload_n 0, 1) := by decide +kernel
theorem dX6_fault_1 : decode cX6_fault 1 = .ok (.getfield 19, 3) := by decide +kernel
theorem dX6_fault_4 : decode cX6_fault 4 = .ok (.invokevirtual 122, 3) := by decide +kernel
theorem dX6_fault_7 : decode cX6_fault 7 = .ok (.ireturn, 1) := by decide +kernel
set_option maxRecDepth 20000 in
theorem ggX6_days_X2_stands : GoodIn wsX6_days wsX2_stands := goodIn_r _ [11, 12, 77, 78, 79, 80, 81, 82, 83, 84, 85] (by decide +kernel) (by decide +kernel)
set_option maxRecDepth 20000 in
theorem gX6_days_X2_stands : GoodIn wsX6_days (wsV RX6 126 RX2 yX2_stands wsX2_stands) := goodIn_app (goodIn_of _ (by decide +kernel)) ggX6_days_X2_stands
set_option maxRecDepth 20000 in
theorem ggX6_days_X6_isWithin : GoodIn wsX6_days wsX6_isWithin := goodIn_r _ [16] (by decide +kernel) (by decide +kernel)
set_option maxRecDepth 20000 in
theorem gX6_days_X6_isWithin : GoodIn wsX6_days (va_wsS RX6 62 yX6_isWithin wsX6_isWithin) := goodIn_app (goodIn_of _ (by decide +kernel)) ggX6_days_X6_isWithin
set_option maxRecDepth 20000 in
theorem ggX6_days_X0_keep : GoodIn wsX6_days wsX0_keep := goodIn_r _ [21, 22, 23, 24, 25, 26, 27, 28, 29, 30, 86, 87, 88, 89, 90] (by decide +kernel) (by decide +kernel)
set_option maxRecDepth 20000 in
theorem gX6_days_X0_keep : GoodIn wsX6_days (wsV RX6 133 RX0 yX0_keep wsX0_keep) := goodIn_app (goodIn_of _ (by decide +kernel)) ggX6_days_X0_keep
set_option maxRecDepth 20000 in
theorem ggX6_days_X2_leftOn : GoodIn wsX6_days wsX2_leftOn := goodIn_r _ [34, 35, 36, 37, 10, 38, 39, 40, 41, 42, 43, 44, 45, 46, 47, 48, 49, 50, 51, 52, 53, 54, 55, 12, 56, 15, 57, 58, 59, 60, 61, 62, 63, 64, 65, 66, 67, 77, 78, 79, 80, 81, 82, 83, 84, 85] (by decide +kernel) (by decide +kernel)
set_option maxRecDepth 20000 in
theorem gX6_days_X2_leftOn : GoodIn wsX6_days (wsV RX6 136 RX2 yX2_leftOn wsX2_leftOn) := goodIn_app (goodIn_of _ (by decide +kernel)) ggX6_days_X2_leftOn
theorem dX6_days_0 : decode cX6_days 0 = .ok (.aload_n 0, 1) := by decide +kernel
theorem dX6_days_1 : decode cX6_days 1 = .ok (.getfield 47, 3) := by decide +kernel
theorem dX6_days_4 : decode cX6_days 4 = .ok (.invokevirtual 126, 3) := by decide +kernel
theorem dX6_days_7 : decode cX6_days 7 = .ok (.ifCond .ne 6, 3) := by decide +kernel
theorem dX6_days_10 : decode cX6_days 10 = .ok (.ldc 129, 2) := by decide +kernel
theorem dX6_days_12 : decode cX6_days 12 = .ok (.ireturn, 1) := by decide +kernel
theorem dX6_days_13 : decode cX6_days 13 = .ok (.iload_n 1, 1) := by decide +kernel
theorem dX6_days_14 : decode cX6_days 14 = .ok (.iconst 1, 1) := by decide +kernel
theorem dX6_days_15 : decode cX6_days 15 = .ok (.bipush 24, 2) := by decide +kernel
theorem dX6_days_17 : decode cX6_days 17 = .ok (.invokestatic 62, 3) := by decide +kernel
theorem dX6_days_20 : decode cX6_days 20 = .ok (.ifCond .ne 6, 3) := by decide +kernel
theorem dX6_days_23 : decode cX6_days 23 = .ok (.ldc 66, 2) := by decide +kernel
theorem dX6_days_25 : decode cX6_days 25 = .ok (.ireturn, 1) := by decide +kernel
theorem dX6_days_26 : decode cX6_days 26 = .ok (.aload_n 0, 1) := by decide +kernel
theorem dX6_days_27 : decode cX6_days 27 = .ok (.getfield 47, 3) := by decide +kernel
theorem dX6_days_30 : decode cX6_days 30 = .ok (.getfield 130, 3) := by decide +kernel
theorem dX6_days_33 : decode cX6_days 33 = .ok (.iload_n 1, 1) := by decide +kernel
theorem dX6_days_34 : decode cX6_days 34 = .ok (.iadd, 1) := by decide +kernel
theorem dX6_days_35 : decode cX6_days 35 = .ok (.sipush 999, 3) := by decide +kernel
theorem dX6_days_38 : decode cX6_days 38 = .ok (.if_icmp .le 6, 3) := by decide +kernel
theorem dX6_days_41 : decode cX6_days 41 = .ok (.ldc 102, 2) := by decide +kernel
theorem dX6_days_43 : decode cX6_days 43 = .ok (.ireturn, 1) := by decide +kernel
theorem dX6_days_44 : decode cX6_days 44 = .ok (.iconst 0, 1) := by decide +kernel
theorem dX6_days_45 : decode cX6_days 45 = .ok (.istore_n 2, 1) := by decide +kernel
theorem dX6_days_46 : decode cX6_days 46 = .ok (.iload_n 2, 1) := by decide +kernel
theorem dX6_days_47 : decode cX6_days 47 = .ok (.iload_n 1, 1) := by decide +kernel
theorem dX6_days_48 : decode cX6_days 48 = .ok (.if_icmp .ge 19, 3) := by decide +kernel
theorem dX6_days_51 : decode cX6_days 51 = .ok (.aload_n 0, 1) := by decide +kernel
theorem dX6_days_52 : decode cX6_days 52 = .ok (.getfield 26, 3) := by decide +kernel
theorem dX6_days_55 : decode cX6_days 55 = .ok (.iconst 0, 1) := by decide +kernel
theorem dX6_days_56 : decode cX6_days 56 = .ok (.iconst 0, 1) := by decide +kernel
theorem dX6_days_57 : decode cX6_days 57 = .ok (.iconst 0, 1) := by decide +kernel
theorem dX6_days_58 : decode cX6_days 58 = .ok (.invokevirtual 133, 3) := by decide +kernel
theorem dX6_days_61 : decode cX6_days 61 = .ok (.iinc 2 1, 3) := by decide +kernel
theorem dX6_days_64 : decode cX6_days 64 = .ok (.goto (-18), 3) := by decide +kernel
theorem dX6_days_67 : decode cX6_days 67 = .ok (.aload_n 0, 1) := by decide +kernel
theorem dX6_days_68 : decode cX6_days 68 = .ok (.getfield 47, 3) := by decide +kernel
theorem dX6_days_71 : decode cX6_days 71 = .ok (.dup, 1) := by decide +kernel
theorem dX6_days_72 : decode cX6_days 72 = .ok (.getfield 130, 3) := by decide +kernel
theorem dX6_days_75 : decode cX6_days 75 = .ok (.iload_n 1, 1) := by decide +kernel
theorem dX6_days_76 : decode cX6_days 76 = .ok (.iadd, 1) := by decide +kernel
theorem dX6_days_77 : decode cX6_days 77 = .ok (.putfield 130, 3) := by decide +kernel
theorem dX6_days_80 : decode cX6_days 80 = .ok (.aload_n 0, 1) := by decide +kernel
theorem dX6_days_81 : decode cX6_days 81 = .ok (.getfield 47, 3) := by decide +kernel
theorem dX6_days_84 : decode cX6_days 84 = .ok (.aload_n 0, 1) := by decide +kernel
theorem dX6_days_85 : decode cX6_days 85 = .ok (.getfield 47, 3) := by decide +kernel
theorem dX6_days_88 : decode cX6_days 88 = .ok (.getfield 130, 3) := by decide +kernel
theorem dX6_days_91 : decode cX6_days 91 = .ok (.invokevirtual 136, 3) := by decide +kernel
theorem dX6_days_94 : decode cX6_days 94 = .ok (.ireturn, 1) := by decide +kernel
set_option maxRecDepth 20000 in
theorem ggX6_bribe_X2_has : GoodIn wsX6_bribe wsX2_has := goodIn_r _ [10, 11, 46, 47, 48, 49, 50, 51, 52, 53, 54] (by decide +kernel) (by decide +kernel)
set_option maxRecDepth 20000 in
theorem gX6_bribe_X2_has : GoodIn wsX6_bribe (wsV RX6 139 RX2 yX2_has wsX2_has) := goodIn_app (goodIn_of _ (by decide +kernel)) ggX6_bribe_X2_has
set_option maxRecDepth 20000 in
theorem ggX6_bribe_X6_isWithin : GoodIn wsX6_bribe wsX6_isWithin := goodIn_r _ [15] (by decide +kernel) (by decide +kernel)
set_option maxRecDepth 20000 in
theorem gX6_bribe_X6_isWithin : GoodIn wsX6_bribe (va_wsS RX6 62 yX6_isWithin wsX6_isWithin) := goodIn_app (goodIn_of _ (by decide +kernel)) ggX6_bribe_X6_isWithin
set_option maxRecDepth 20000 in
theorem ggX6_bribe_X2_isBribed : GoodIn wsX6_bribe wsX2_isBribed := goodIn_r _ [19, 20, 21, 14, 22, 46, 47, 48, 49, 50, 51, 52, 53, 54] (by decide +kernel) (by decide +kernel)
set_option maxRecDepth 20000 in
theorem gX6_bribe_X2_isBribed : GoodIn wsX6_bribe (wsV RX6 142 RX2 yX2_isBribed wsX2_isBribed) := goodIn_app (goodIn_of _ (by decide +kernel)) ggX6_bribe_X2_isBribed
set_option maxRecDepth 20000 in
theorem ggX6_bribe_X0_keep : GoodIn wsX6_bribe wsX0_keep := goodIn_r _ [27, 28, 29, 30, 31, 32, 33, 34, 35, 36, 55, 56, 57, 58, 59] (by decide +kernel) (by decide +kernel)
set_option maxRecDepth 20000 in
theorem gX6_bribe_X0_keep : GoodIn wsX6_bribe (wsV RX6 133 RX0 yX0_keep wsX0_keep) := goodIn_app (goodIn_of _ (by decide +kernel)) ggX6_bribe_X0_keep
theorem dX6_bribe_0 : decode cX6_bribe 0 = .ok (.aload_n 0, 1) := by decide +kernel
theorem dX6_bribe_1 : decode cX6_bribe 1 = .ok (.getfield 47, 3) := by decide +kernel
theorem dX6_bribe_4 : decode cX6_bribe 4 = .ok (.iload_n 1, 1) := by decide +kernel
theorem dX6_bribe_5 : decode cX6_bribe 5 = .ok (.invokevirtual 139, 3) := by decide +kernel
theorem dX6_bribe_8 : decode cX6_bribe 8 = .ok (.ifCond .eq 12, 3) := by decide +kernel
theorem dX6_bribe_11 : decode cX6_bribe 11 = .ok (.iload_n 2, 1) := by decide +kernel
theorem dX6_bribe_12 : decode cX6_bribe 12 = .ok (.iconst 0, 1) := by decide +kernel
theorem dX6_bribe_13 : decode cX6_bribe 13 = .ok (.iconst 1, 1) := by decide +kernel
theorem dX6_bribe_14 : decode cX6_bribe 14 = .ok (.invokestatic 62, 3) := by decide +kernel
theorem dX6_bribe_17 : decode cX6_bribe 17 = .ok (.ifCond .ne 6, 3) := by decide +kernel
theorem dX6_bribe_20 : decode cX6_bribe 20 = .ok (.ldc 66, 2) := by decide +kernel
theorem dX6_bribe_22 : decode cX6_bribe 22 = .ok (.ireturn, 1) := by decide +kernel
theorem dX6_bribe_23 : decode cX6_bribe 23 = .ok (.aload_n 0, 1) := by decide +kernel
theorem dX6_bribe_24 : decode cX6_bribe 24 = .ok (.getfield 47, 3) := by decide +kernel
theorem dX6_bribe_27 : decode cX6_bribe 27 = .ok (.iload_n 1, 1) := by decide +kernel
theorem dX6_bribe_28 : decode cX6_bribe 28 = .ok (.invokevirtual 142, 3) := by decide +kernel
theorem dX6_bribe_31 : decode cX6_bribe 31 = .ok (.iload_n 2, 1) := by decide +kernel
theorem dX6_bribe_32 : decode cX6_bribe 32 = .ok (.iconst 1, 1) := by decide +kernel
theorem dX6_bribe_33 : decode cX6_bribe 33 = .ok (.if_icmp .ne 7, 3) := by decide +kernel
theorem dX6_bribe_36 : decode cX6_bribe 36 = .ok (.iconst 1, 1) := by decide +kernel
theorem dX6_bribe_37 : decode cX6_bribe 37 = .ok (.goto 4, 3) := by decide +kernel
theorem dX6_bribe_40 : decode cX6_bribe 40 = .ok (.iconst 0, 1) := by decide +kernel
theorem dX6_bribe_41 : decode cX6_bribe 41 = .ok (.if_icmp .ne 6, 3) := by decide +kernel
theorem dX6_bribe_44 : decode cX6_bribe 44 = .ok (.ldc 129, 2) := by decide +kernel
theorem dX6_bribe_46 : decode cX6_bribe 46 = .ok (.ireturn, 1) := by decide +kernel
theorem dX6_bribe_47 : decode cX6_bribe 47 = .ok (.aload_n 0, 1) := by decide +kernel
theorem dX6_bribe_48 : decode cX6_bribe 48 = .ok (.getfield 26, 3) := by decide +kernel
theorem dX6_bribe_51 : decode cX6_bribe 51 = .ok (.iconst 1, 1) := by decide +kernel
theorem dX6_bribe_52 : decode cX6_bribe 52 = .ok (.iload_n 1, 1) := by decide +kernel
theorem dX6_bribe_53 : decode cX6_bribe 53 = .ok (.aload_n 0, 1) := by decide +kernel
theorem dX6_bribe_54 : decode cX6_bribe 54 = .ok (.getfield 47, 3) := by decide +kernel
theorem dX6_bribe_57 : decode cX6_bribe 57 = .ok (.getfield 145, 3) := by decide +kernel
theorem dX6_bribe_60 : decode cX6_bribe 60 = .ok (.invokevirtual 133, 3) := by decide +kernel
theorem dX6_bribe_63 : decode cX6_bribe 63 = .ok (.aload_n 0, 1) := by decide +kernel
theorem dX6_bribe_64 : decode cX6_bribe 64 = .ok (.getfield 47, 3) := by decide +kernel
theorem dX6_bribe_67 : decode cX6_bribe 67 = .ok (.dup, 1) := by decide +kernel
theorem dX6_bribe_68 : decode cX6_bribe 68 = .ok (.getfield 145, 3) := by decide +kernel
theorem dX6_bribe_71 : decode cX6_bribe 71 = .ok (.iconst 1, 1) := by decide +kernel
theorem dX6_bribe_72 : decode cX6_bribe 72 = .ok (.iload_n 1, 1) := by decide +kernel
theorem dX6_bribe_73 : decode cX6_bribe 73 = .ok (.ishl, 1) := by decide +kernel
theorem dX6_bribe_74 : decode cX6_bribe 74 = .ok (.ixor, 1) := by decide +kernel
theorem dX6_bribe_75 : decode cX6_bribe 75 = .ok (.putfield 145, 3) := by decide +kernel
theorem dX6_bribe_78 : decode cX6_bribe 78 = .ok (.aload_n 0, 1) := by decide +kernel
theorem dX6_bribe_79 : decode cX6_bribe 79 = .ok (.getfield 47, 3) := by decide +kernel
theorem dX6_bribe_82 : decode cX6_bribe 82 = .ok (.getfield 145, 3) := by decide +kernel
theorem dX6_bribe_85 : decode cX6_bribe 85 = .ok (.ireturn, 1) := by decide +kernel
set_option maxRecDepth 20000 in
theorem ggX6_learn_X2_has : GoodIn wsX6_learn wsX2_has := goodIn_r _ [9, 10, 43, 44, 45, 46, 47, 48, 49, 50, 51] (by decide +kernel) (by decide +kernel)
set_option maxRecDepth 20000 in
theorem gX6_learn_X2_has : GoodIn wsX6_learn (wsV RX6 139 RX2 yX2_has wsX2_has) := goodIn_app (goodIn_of _ (by decide +kernel)) ggX6_learn_X2_has
set_option maxRecDepth 20000 in
theorem ggX6_learn_X2_everyone : GoodIn wsX6_learn wsX2_everyone := goodIn_r _ [14, 15, 43, 44, 45, 46, 47, 48, 49, 50, 51] (by decide +kernel) (by decide +kernel)
set_option maxRecDepth 20000 in
theorem gX6_learn_X2_everyone : GoodIn wsX6_learn (wsV RX6 148 RX2 yX2_everyone wsX2_everyone) := goodIn_app (goodIn_of _ (by decide +kernel)) ggX6_learn_X2_everyone
set_option maxRecDepth 20000 in
theorem ggX6_learn_X6_isWithin : GoodIn wsX6_learn wsX6_isWithin := goodIn_r _ [19] (by decide +kernel) (by decide +kernel)
set_option maxRecDepth 20000 in
theorem gX6_learn_X6_isWithin : GoodIn wsX6_learn (va_wsS RX6 62 yX6_isWithin wsX6_isWithin) := goodIn_app (goodIn_of _ (by decide +kernel)) ggX6_learn_X6_isWithin
set_option maxRecDepth 20000 in
theorem ggX6_learn_X0_keep : GoodIn wsX6_learn wsX0_keep := goodIn_r _ [24, 25, 26, 27, 28, 29, 30, 31, 32, 33, 52, 53, 54, 55, 56] (by decide +kernel) (by decide +kernel)
set_option maxRecDepth 20000 in
theorem gX6_learn_X0_keep : GoodIn wsX6_learn (wsV RX6 133 RX0 yX0_keep wsX0_keep) := goodIn_app (goodIn_of _ (by decide +kernel)) ggX6_learn_X0_keep
theorem dX6_learn_0 : decode cX6_learn 0 = .ok (.aload_n 0, 1) := by decide +kernel
theorem dX6_learn_1 : decode cX6_learn 1 = .ok (.getfield 47, 3) := by decide +kernel
theorem dX6_learn_4 : decode cX6_learn 4 = .ok (.iload_n 1, 1) := by decide +kernel
theorem dX6_learn_5 : decode cX6_learn 5 = .ok (.invokevirtual 139, 3) := by decide +kernel
theorem dX6_learn_8 : decode cX6_learn 8 = .ok (.ifCond .eq 18, 3) := by decide +kernel
theorem dX6_learn_11 : decode cX6_learn 11 = .ok (.iload_n 2, 1) := by decide +kernel
theorem dX6_learn_12 : decode cX6_learn 12 = .ok (.iconst 1, 1) := by decide +kernel
theorem dX6_learn_13 : decode cX6_learn 13 = .ok (.aload_n 0, 1) := by decide +kernel
theorem dX6_learn_14 : decode cX6_learn 14 = .ok (.getfield 47, 3) := by decide +kernel
theorem dX6_learn_17 : decode cX6_learn 17 = .ok (.invokevirtual 148, 3) := by decide +kernel
theorem dX6_learn_20 : decode cX6_learn 20 = .ok (.invokestatic 62, 3) := by decide +kernel
theorem dX6_learn_23 : decode cX6_learn 23 = .ok (.ifCond .ne 6, 3) := by decide +kernel
theorem dX6_learn_26 : decode cX6_learn 26 = .ok (.ldc 66, 2) := by decide +kernel
theorem dX6_learn_28 : decode cX6_learn 28 = .ok (.ireturn, 1) := by decide +kernel
theorem dX6_learn_29 : decode cX6_learn 29 = .ok (.aload_n 0, 1) := by decide +kernel
theorem dX6_learn_30 : decode cX6_learn 30 = .ok (.getfield 47, 3) := by decide +kernel
theorem dX6_learn_33 : decode cX6_learn 33 = .ok (.getfield 151, 3) := by decide +kernel
theorem dX6_learn_36 : decode cX6_learn 36 = .ok (.iload_n 1, 1) := by decide +kernel
theorem dX6_learn_37 : decode cX6_learn 37 = .ok (.iaload, 1) := by decide +kernel
theorem dX6_learn_38 : decode cX6_learn 38 = .ok (.istore_n 3, 1) := by decide +kernel
theorem dX6_learn_39 : decode cX6_learn 39 = .ok (.aload_n 0, 1) := by decide +kernel
theorem dX6_learn_40 : decode cX6_learn 40 = .ok (.getfield 26, 3) := by decide +kernel
theorem dX6_learn_43 : decode cX6_learn 43 = .ok (.iconst 2, 1) := by decide +kernel
theorem dX6_learn_44 : decode cX6_learn 44 = .ok (.iload_n 1, 1) := by decide +kernel
theorem dX6_learn_45 : decode cX6_learn 45 = .ok (.iload_n 3, 1) := by decide +kernel
theorem dX6_learn_46 : decode cX6_learn 46 = .ok (.invokevirtual 133, 3) := by decide +kernel
theorem dX6_learn_49 : decode cX6_learn 49 = .ok (.aload_n 0, 1) := by decide +kernel
theorem dX6_learn_50 : decode cX6_learn 50 = .ok (.getfield 47, 3) := by decide +kernel
theorem dX6_learn_53 : decode cX6_learn 53 = .ok (.getfield 151, 3) := by decide +kernel
theorem dX6_learn_56 : decode cX6_learn 56 = .ok (.iload_n 1, 1) := by decide +kernel
theorem dX6_learn_57 : decode cX6_learn 57 = .ok (.iload_n 2, 1) := by decide +kernel
theorem dX6_learn_58 : decode cX6_learn 58 = .ok (.iastore, 1) := by decide +kernel
theorem dX6_learn_59 : decode cX6_learn 59 = .ok (.iload_n 3, 1) := by decide +kernel
theorem dX6_learn_60 : decode cX6_learn 60 = .ok (.ireturn, 1) := by decide +kernel
set_option maxRecDepth 20000 in
theorem ggX6_shift_X2_has : GoodIn wsX6_shift wsX2_has := goodIn_r _ [10, 11, 39, 40, 41, 42, 43, 44, 45, 46, 47] (by decide +kernel) (by decide +kernel)
set_option maxRecDepth 20000 in
theorem gX6_shift_X2_has : GoodIn wsX6_shift (wsV RX6 139 RX2 yX2_has wsX2_has) := goodIn_app (goodIn_of _ (by decide +kernel)) ggX6_shift_X2_has
set_option maxRecDepth 20000 in
theorem ggX6_shift_X6_isWithin : GoodIn wsX6_shift wsX6_isWithin := goodIn_r _ [15] (by decide +kernel) (by decide +kernel)
set_option maxRecDepth 20000 in
theorem gX6_shift_X6_isWithin : GoodIn wsX6_shift (va_wsS RX6 62 yX6_isWithin wsX6_isWithin) := goodIn_app (goodIn_of _ (by decide +kernel)) ggX6_shift_X6_isWithin
set_option maxRecDepth 20000 in
theorem ggX6_shift_X0_keep : GoodIn wsX6_shift wsX0_keep := goodIn_r _ [20, 21, 22, 23, 24, 25, 26, 27, 28, 29, 48, 49, 50, 51, 52] (by decide +kernel) (by decide +kernel)
set_option maxRecDepth 20000 in
theorem gX6_shift_X0_keep : GoodIn wsX6_shift (wsV RX6 133 RX0 yX0_keep wsX0_keep) := goodIn_app (goodIn_of _ (by decide +kernel)) ggX6_shift_X0_keep
theorem dX6_shift_0 : decode cX6_shift 0 = .ok (.aload_n 0, 1) := by decide +kernel
theorem dX6_shift_1 : decode cX6_shift 1 = .ok (.getfield 47, 3) := by decide +kernel
theorem dX6_shift_4 : decode cX6_shift 4 = .ok (.iload_n 1, 1) := by decide +kernel
theorem dX6_shift_5 : decode cX6_shift 5 = .ok (.invokevirtual 139, 3) := by decide +kernel
theorem dX6_shift_8 : decode cX6_shift 8 = .ok (.ifCond .eq 22, 3) := by decide +kernel
theorem dX6_shift_11 : decode cX6_shift 11 = .ok (.iload_n 2, 1) := by decide +kernel
theorem dX6_shift_12 : decode cX6_shift 12 = .ok (.iconst 0, 1) := by decide +kernel
theorem dX6_shift_13 : decode cX6_shift 13 = .ok (.aload_n 0, 1) := by decide +kernel
theorem dX6_shift_14 : decode cX6_shift 14 = .ok (.getfield 47, 3) := by decide +kernel
theorem dX6_shift_17 : decode cX6_shift 17 = .ok (.getfield 155, 3) := by decide +kernel
theorem dX6_shift_20 : decode cX6_shift 20 = .ok (.iload_n 1, 1) := by decide +kernel
theorem dX6_shift_21 : decode cX6_shift 21 = .ok (.iaload, 1) := by decide +kernel
theorem dX6_shift_22 : decode cX6_shift 22 = .ok (.iconst 1, 1) := by decide +kernel
theorem dX6_shift_23 : decode cX6_shift 23 = .ok (.isub, 1) := by decide +kernel
theorem dX6_shift_24 : decode cX6_shift 24 = .ok (.invokestatic 62, 3) := by decide +kernel
theorem dX6_shift_27 : decode cX6_shift 27 = .ok (.ifCond .ne 6, 3) := by decide +kernel
theorem dX6_shift_30 : decode cX6_shift 30 = .ok (.ldc 66, 2) := by decide +kernel
theorem dX6_shift_32 : decode cX6_shift 32 = .ok (.ireturn, 1) := by decide +kernel
theorem dX6_shift_33 : decode cX6_shift 33 = .ok (.aload_n 0, 1) := by decide +kernel
theorem dX6_shift_34 : decode cX6_shift 34 = .ok (.getfield 47, 3) := by decide +kernel
theorem dX6_shift_37 : decode cX6_shift 37 = .ok (.getfield 158, 3) := by decide +kernel
theorem dX6_shift_40 : decode cX6_shift 40 = .ok (.iload_n 1, 1) := by decide +kernel
theorem dX6_shift_41 : decode cX6_shift 41 = .ok (.iaload, 1) := by decide +kernel
theorem dX6_shift_42 : decode cX6_shift 42 = .ok (.istore_n 3, 1) := by decide +kernel
theorem dX6_shift_43 : decode cX6_shift 43 = .ok (.aload_n 0, 1) := by decide +kernel
theorem dX6_shift_44 : decode cX6_shift 44 = .ok (.getfield 26, 3) := by decide +kernel
theorem dX6_shift_47 : decode cX6_shift 47 = .ok (.iconst 3, 1) := by decide +kernel
theorem dX6_shift_48 : decode cX6_shift 48 = .ok (.iload_n 1, 1) := by decide +kernel
theorem dX6_shift_49 : decode cX6_shift 49 = .ok (.iload_n 3, 1) := by decide +kernel
theorem dX6_shift_50 : decode cX6_shift 50 = .ok (.invokevirtual 133, 3) := by decide +kernel
theorem dX6_shift_53 : decode cX6_shift 53 = .ok (.aload_n 0, 1) := by decide +kernel
theorem dX6_shift_54 : decode cX6_shift 54 = .ok (.getfield 47, 3) := by decide +kernel
theorem dX6_shift_57 : decode cX6_shift 57 = .ok (.getfield 158, 3) := by decide +kernel
theorem dX6_shift_60 : decode cX6_shift 60 = .ok (.iload_n 1, 1) := by decide +kernel
theorem dX6_shift_61 : decode cX6_shift 61 = .ok (.iload_n 2, 1) := by decide +kernel
theorem dX6_shift_62 : decode cX6_shift 62 = .ok (.iastore, 1) := by decide +kernel
theorem dX6_shift_63 : decode cX6_shift 63 = .ok (.iload_n 3, 1) := by decide +kernel
theorem dX6_shift_64 : decode cX6_shift 64 = .ok (.ireturn, 1) := by decide +kernel
set_option maxRecDepth 20000 in
theorem ggX6_undo_X0_kept : GoodIn wsX6_undo wsX0_kept := goodIn_r _ [8, 9, 31, 32, 33, 34, 35] (by decide +kernel) (by decide +kernel)
set_option maxRecDepth 20000 in
theorem gX6_undo_X0_kept : GoodIn wsX6_undo (wsV RX6 161 RX0 yX0_kept wsX0_kept) := goodIn_app (goodIn_of _ (by decide +kernel)) ggX6_undo_X0_kept
set_option maxRecDepth 20000 in
theorem ggX6_undo_X0_takeBack : GoodIn wsX6_undo wsX0_takeBack := goodIn_r _ [13, 14, 9, 15, 16, 17, 18, 19, 20, 21, 31, 32, 33, 34, 35, 36, 37, 38, 39, 40, 41, 42, 43, 44] (by decide +kernel) (by decide +kernel)
set_option maxRecDepth 20000 in
theorem gX6_undo_X0_takeBack : GoodIn wsX6_undo (wsV RX6 164 RX0 yX0_takeBack wsX0_takeBack) := goodIn_app (goodIn_of _ (by decide +kernel)) ggX6_undo_X0_takeBack
theorem dX6_undo_0 : decode cX6_undo 0 = .ok (.aload_n 0, 1) := by decide +kernel
theorem dX6_undo_1 : decode cX6_undo 1 = .ok (.getfield 26, 3) := by decide +kernel
theorem dX6_undo_4 : decode cX6_undo 4 = .ok (.invokevirtual 161, 3) := by decide +kernel
theorem dX6_undo_7 : decode cX6_undo 7 = .ok (.ifCond .ne 6, 3) := by decide +kernel
theorem dX6_undo_10 : decode cX6_undo 10 = .ok (.ldc 129, 2) := by decide +kernel
theorem dX6_undo_12 : decode cX6_undo 12 = .ok (.ireturn, 1) := by decide +kernel
theorem dX6_undo_13 : decode cX6_undo 13 = .ok (.aload_n 0, 1) := by decide +kernel
theorem dX6_undo_14 : decode cX6_undo 14 = .ok (.getfield 26, 3) := by decide +kernel
theorem dX6_undo_17 : decode cX6_undo 17 = .ok (.aload_n 0, 1) := by decide +kernel
theorem dX6_undo_18 : decode cX6_undo 18 = .ok (.getfield 47, 3) := by decide +kernel
theorem dX6_undo_21 : decode cX6_undo 21 = .ok (.invokevirtual 164, 3) := by decide +kernel
theorem dX6_undo_24 : decode cX6_undo 24 = .ok (.aload_n 0, 1) := by decide +kernel
theorem dX6_undo_25 : decode cX6_undo 25 = .ok (.getfield 26, 3) := by decide +kernel
theorem dX6_undo_28 : decode cX6_undo 28 = .ok (.invokevirtual 161, 3) := by decide +kernel
theorem dX6_undo_31 : decode cX6_undo 31 = .ok (.ireturn, 1) := by decide +kernel
set_option maxRecDepth 20000 in
theorem ggX6_clue_X2_has : GoodIn wsX6_clue wsX2_has := goodIn_r _ [11, 12, 49, 50, 51, 52, 53, 54, 55, 56, 57] (by decide +kernel) (by decide +kernel)
set_option maxRecDepth 20000 in
theorem gX6_clue_X2_has : GoodIn wsX6_clue (wsV RX6 139 RX2 yX2_has wsX2_has) := goodIn_app (goodIn_of _ (by decide +kernel)) ggX6_clue_X2_has
set_option maxRecDepth 20000 in
theorem ggX6_clue_X2_isBribed : GoodIn wsX6_clue wsX2_isBribed := goodIn_r _ [16, 17, 18, 19, 20, 49, 50, 51, 52, 53, 54, 55, 56, 57] (by decide +kernel) (by decide +kernel)
set_option maxRecDepth 20000 in
theorem gX6_clue_X2_isBribed : GoodIn wsX6_clue (wsV RX6 142 RX2 yX2_isBribed wsX2_isBribed) := goodIn_app (goodIn_of _ (by decide +kernel)) ggX6_clue_X2_isBribed
set_option maxRecDepth 20000 in
theorem ggX6_clue_X2_worksOn : GoodIn wsX6_clue wsX2_worksOn := goodIn_r _ [24, 25, 26, 27, 28, 49, 50, 51, 52, 53, 54, 55, 56, 57] (by decide +kernel) (by decide +kernel)
set_option maxRecDepth 20000 in
theorem gX6_clue_X2_worksOn : GoodIn wsX6_clue (wsV RX6 167 RX2 yX2_worksOn wsX2_worksOn) := goodIn_app (goodIn_of _ (by decide +kernel)) ggX6_clue_X2_worksOn
set_option maxRecDepth 20000 in
theorem ggX6_clue_X2_leftByOne : GoodIn wsX6_clue wsX2_leftByOne := goodIn_r _ [32, 33, 25, 34, 14, 15, 10, 16, 17, 18, 19, 20, 35, 36, 37, 38, 39, 49, 50, 51, 52, 53, 54, 55, 56, 57] (by decide +kernel) (by decide +kernel)
set_option maxRecDepth 20000 in
theorem gX6_clue_X2_leftByOne : GoodIn wsX6_clue (wsV RX6 171 RX2 yX2_leftByOne wsX2_leftByOne) := goodIn_app (goodIn_of _ (by decide +kernel)) ggX6_clue_X2_leftByOne
theorem dX6_clue_0 : decode cX6_clue 0 = .ok (.aload_n 0, 1) := by decide +kernel
theorem dX6_clue_1 : decode cX6_clue 1 = .ok (.getfield 47, 3) := by decide +kernel
theorem dX6_clue_4 : decode cX6_clue 4 = .ok (.iload_n 1, 1) := by decide +kernel
theorem dX6_clue_5 : decode cX6_clue 5 = .ok (.invokevirtual 139, 3) := by decide +kernel
theorem dX6_clue_8 : decode cX6_clue 8 = .ok (.ifCond .ne 6, 3) := by decide +kernel
theorem dX6_clue_11 : decode cX6_clue 11 = .ok (.ldc 66, 2) := by decide +kernel
theorem dX6_clue_13 : decode cX6_clue 13 = .ok (.ireturn, 1) := by decide +kernel
theorem dX6_clue_14 : decode cX6_clue 14 = .ok (.iload_n 2, 1) := by decide +kernel
theorem dX6_clue_15 : decode cX6_clue 15 = .ok (.tableswitch 117 0 5 #[37, 47, 57, 67, 84, 108], 37) := by decide +kernel
theorem dX6_clue_52 : decode cX6_clue 52 = .ok (.aload_n 0, 1) := by decide +kernel
theorem dX6_clue_53 : decode cX6_clue 53 = .ok (.getfield 47, 3) := by decide +kernel
theorem dX6_clue_56 : decode cX6_clue 56 = .ok (.getfield 151, 3) := by decide +kernel
theorem dX6_clue_59 : decode cX6_clue 59 = .ok (.iload_n 1, 1) := by decide +kernel
theorem dX6_clue_60 : decode cX6_clue 60 = .ok (.iaload, 1) := by decide +kernel
theorem dX6_clue_61 : decode cX6_clue 61 = .ok (.ireturn, 1) := by decide +kernel
theorem dX6_clue_62 : decode cX6_clue 62 = .ok (.aload_n 0, 1) := by decide +kernel
theorem dX6_clue_63 : decode cX6_clue 63 = .ok (.getfield 47, 3) := by decide +kernel
theorem dX6_clue_66 : decode cX6_clue 66 = .ok (.getfield 155, 3) := by decide +kernel
theorem dX6_clue_69 : decode cX6_clue 69 = .ok (.iload_n 1, 1) := by decide +kernel
theorem dX6_clue_70 : decode cX6_clue 70 = .ok (.iaload, 1) := by decide +kernel
theorem dX6_clue_71 : decode cX6_clue 71 = .ok (.ireturn, 1) := by decide +kernel
theorem dX6_clue_72 : decode cX6_clue 72 = .ok (.aload_n 0, 1) := by decide +kernel
theorem dX6_clue_73 : decode cX6_clue 73 = .ok (.getfield 47, 3) := by decide +kernel
theorem dX6_clue_76 : decode cX6_clue 76 = .ok (.getfield 158, 3) := by decide +kernel
theorem dX6_clue_79 : decode cX6_clue 79 = .ok (.iload_n 1, 1) := by decide +kernel
theorem dX6_clue_80 : decode cX6_clue 80 = .ok (.iaload, 1) := by decide +kernel
theorem dX6_clue_81 : decode cX6_clue 81 = .ok (.ireturn, 1) := by decide +kernel
theorem dX6_clue_82 : decode cX6_clue 82 = .ok (.aload_n 0, 1) := by decide +kernel
theorem dX6_clue_83 : decode cX6_clue 83 = .ok (.getfield 47, 3) := by decide +kernel
theorem dX6_clue_86 : decode cX6_clue 86 = .ok (.iload_n 1, 1) := by decide +kernel
theorem dX6_clue_87 : decode cX6_clue 87 = .ok (.invokevirtual 142, 3) := by decide +kernel
theorem dX6_clue_90 : decode cX6_clue 90 = .ok (.ifCond .eq 7, 3) := by decide +kernel
theorem dX6_clue_93 : decode cX6_clue 93 = .ok (.iconst 1, 1) := by decide +kernel
theorem dX6_clue_94 : decode cX6_clue 94 = .ok (.goto 4, 3) := by decide +kernel
theorem dX6_clue_97 : decode cX6_clue 97 = .ok (.iconst 0, 1) := by decide +kernel
theorem dX6_clue_98 : decode cX6_clue 98 = .ok (.ireturn, 1) := by decide +kernel
theorem dX6_clue_99 : decode cX6_clue 99 = .ok (.aload_n 0, 1) := by decide +kernel
theorem dX6_clue_100 : decode cX6_clue 100 = .ok (.getfield 47, 3) := by decide +kernel
theorem dX6_clue_103 : decode cX6_clue 103 = .ok (.iload_n 1, 1) := by decide +kernel
theorem dX6_clue_104 : decode cX6_clue 104 = .ok (.aload_n 0, 1) := by decide +kernel
theorem dX6_clue_105 : decode cX6_clue 105 = .ok (.getfield 47, 3) := by decide +kernel
theorem dX6_clue_108 : decode cX6_clue 108 = .ok (.getfield 130, 3) := by decide +kernel
theorem dX6_clue_111 : decode cX6_clue 111 = .ok (.invokevirtual 167, 3) := by decide +kernel
theorem dX6_clue_114 : decode cX6_clue 114 = .ok (.ifCond .eq 7, 3) := by decide +kernel
theorem dX6_clue_117 : decode cX6_clue 117 = .ok (.iconst 1, 1) := by decide +kernel
theorem dX6_clue_118 : decode cX6_clue 118 = .ok (.goto 4, 3) := by decide +kernel
theorem dX6_clue_121 : decode cX6_clue 121 = .ok (.iconst 0, 1) := by decide +kernel
theorem dX6_clue_122 : decode cX6_clue 122 = .ok (.ireturn, 1) := by decide +kernel
theorem dX6_clue_123 : decode cX6_clue 123 = .ok (.aload_n 0, 1) := by decide +kernel
theorem dX6_clue_124 : decode cX6_clue 124 = .ok (.getfield 47, 3) := by decide +kernel
theorem dX6_clue_127 : decode cX6_clue 127 = .ok (.iload_n 1, 1) := by decide +kernel
theorem dX6_clue_128 : decode cX6_clue 128 = .ok (.invokevirtual 171, 3) := by decide +kernel
theorem dX6_clue_131 : decode cX6_clue 131 = .ok (.ireturn, 1) := by decide +kernel
theorem dX6_clue_132 : decode cX6_clue 132 = .ok (.ldc 66, 2) := by decide +kernel
theorem dX6_clue_134 : decode cX6_clue 134 = .ok (.ireturn, 1) := by decide +kernel
set_option maxRecDepth 20000 in
theorem ggX6_ahead_X2_stands : GoodIn wsX6_ahead wsX2_stands := goodIn_r _ [9, 10, 77, 78, 79, 80, 81, 82, 83, 84, 85] (by decide +kernel) (by decide +kernel)
set_option maxRecDepth 20000 in
theorem gX6_ahead_X2_stands : GoodIn wsX6_ahead (wsV RX6 126 RX2 yX2_stands wsX2_stands) := goodIn_app (goodIn_of _ (by decide +kernel)) ggX6_ahead_X2_stands
set_option maxRecDepth 20000 in
theorem ggX6_ahead_X6_isWithin : GoodIn wsX6_ahead wsX6_isWithin := goodIn_r _ [14] (by decide +kernel) (by decide +kernel)
set_option maxRecDepth 20000 in
theorem gX6_ahead_X6_isWithin : GoodIn wsX6_ahead (va_wsS RX6 62 yX6_isWithin wsX6_isWithin) := goodIn_app (goodIn_of _ (by decide +kernel)) ggX6_ahead_X6_isWithin
set_option maxRecDepth 20000 in
theorem ggX6_ahead_X2_leftOn : GoodIn wsX6_ahead wsX2_leftOn := goodIn_r _ [18, 19, 20, 21, 8, 22, 23, 24, 25, 26, 27, 28, 29, 30, 31, 32, 33, 34, 35, 36, 37, 38, 39, 10, 40, 13, 41, 42, 43, 44, 45, 46, 47, 48, 49, 50, 51, 77, 78, 79, 80, 81, 82, 83, 84, 85] (by decide +kernel) (by decide +kernel)
set_option maxRecDepth 20000 in
theorem gX6_ahead_X2_leftOn : GoodIn wsX6_ahead (wsV RX6 136 RX2 yX2_leftOn wsX2_leftOn) := goodIn_app (goodIn_of _ (by decide +kernel)) ggX6_ahead_X2_leftOn
set_option maxRecDepth 20000 in
theorem ggX6_ahead_X2_workersOn : GoodIn wsX6_ahead wsX2_workersOn := goodIn_r _ [22, 23, 24, 25, 26, 8, 27, 28, 29, 30, 31, 77, 78, 79, 80, 81, 82, 83, 84, 85] (by decide +kernel) (by decide +kernel)
set_option maxRecDepth 20000 in
theorem gX6_ahead_X2_workersOn : GoodIn wsX6_ahead (wsV RX6 174 RX2 yX2_workersOn wsX2_workersOn) := goodIn_app (goodIn_of _ (by decide +kernel)) ggX6_ahead_X2_workersOn
set_option maxRecDepth 20000 in
theorem ggX6_ahead_X6_onlyOne : GoodIn wsX6_ahead wsX6_onlyOne := goodIn_r _ [55, 56, 57, 58, 59, 60, 61, 62, 63, 64, 65, 66, 67] (by decide +kernel) (by decide +kernel)
set_option maxRecDepth 20000 in
theorem gX6_ahead_X6_onlyOne : GoodIn wsX6_ahead (va_wsS RX6 177 yX6_onlyOne wsX6_onlyOne) := goodIn_app (goodIn_of _ (by decide +kernel)) ggX6_ahead_X6_onlyOne
theorem dX6_ahead_0 : decode cX6_ahead 0 = .ok (.aload_n 0, 1) := by decide +kernel
theorem dX6_ahead_1 : decode cX6_ahead 1 = .ok (.getfield 47, 3) := by decide +kernel
theorem dX6_ahead_4 : decode cX6_ahead 4 = .ok (.invokevirtual 126, 3) := by decide +kernel
theorem dX6_ahead_7 : decode cX6_ahead 7 = .ok (.ifCond .ne 6, 3) := by decide +kernel
theorem dX6_ahead_10 : decode cX6_ahead 10 = .ok (.ldc 129, 2) := by decide +kernel
theorem dX6_ahead_12 : decode cX6_ahead 12 = .ok (.ireturn, 1) := by decide +kernel
theorem dX6_ahead_13 : decode cX6_ahead 13 = .ok (.iload_n 1, 1) := by decide +kernel
theorem dX6_ahead_14 : decode cX6_ahead 14 = .ok (.iconst 0, 1) := by decide +kernel
theorem dX6_ahead_15 : decode cX6_ahead 15 = .ok (.bipush 99, 2) := by decide +kernel
theorem dX6_ahead_17 : decode cX6_ahead 17 = .ok (.invokestatic 62, 3) := by decide +kernel
theorem dX6_ahead_20 : decode cX6_ahead 20 = .ok (.ifCond .eq 12, 3) := by decide +kernel
theorem dX6_ahead_23 : decode cX6_ahead 23 = .ok (.iload_n 2, 1) := by decide +kernel
theorem dX6_ahead_24 : decode cX6_ahead 24 = .ok (.iconst 0, 1) := by decide +kernel
theorem dX6_ahead_25 : decode cX6_ahead 25 = .ok (.iconst 2, 1) := by decide +kernel
theorem dX6_ahead_26 : decode cX6_ahead 26 = .ok (.invokestatic 62, 3) := by decide +kernel
theorem dX6_ahead_29 : decode cX6_ahead 29 = .ok (.ifCond .ne 6, 3) := by decide +kernel
theorem dX6_ahead_32 : decode cX6_ahead 32 = .ok (.ldc 66, 2) := by decide +kernel
theorem dX6_ahead_34 : decode cX6_ahead 34 = .ok (.ireturn, 1) := by decide +kernel
theorem dX6_ahead_35 : decode cX6_ahead 35 = .ok (.aload_n 0, 1) := by decide +kernel
theorem dX6_ahead_36 : decode cX6_ahead 36 = .ok (.getfield 47, 3) := by decide +kernel
theorem dX6_ahead_39 : decode cX6_ahead 39 = .ok (.getfield 130, 3) := by decide +kernel
theorem dX6_ahead_42 : decode cX6_ahead 42 = .ok (.iload_n 1, 1) := by decide +kernel
theorem dX6_ahead_43 : decode cX6_ahead 43 = .ok (.iadd, 1) := by decide +kernel
theorem dX6_ahead_44 : decode cX6_ahead 44 = .ok (.istore_n 3, 1) := by decide +kernel
theorem dX6_ahead_45 : decode cX6_ahead 45 = .ok (.iload_n 2, 1) := by decide +kernel
theorem dX6_ahead_46 : decode cX6_ahead 46 = .ok (.ifCond .ne 12, 3) := by decide +kernel
theorem dX6_ahead_49 : decode cX6_ahead 49 = .ok (.aload_n 0, 1) := by decide +kernel
theorem dX6_ahead_50 : decode cX6_ahead 50 = .ok (.getfield 47, 3) := by decide +kernel
theorem dX6_ahead_53 : decode cX6_ahead 53 = .ok (.iload_n 3, 1) := by decide +kernel
theorem dX6_ahead_54 : decode cX6_ahead 54 = .ok (.invokevirtual 136, 3) := by decide +kernel
theorem dX6_ahead_57 : decode cX6_ahead 57 = .ok (.ireturn, 1) := by decide +kernel
theorem dX6_ahead_58 : decode cX6_ahead 58 = .ok (.iload_n 2, 1) := by decide +kernel
theorem dX6_ahead_59 : decode cX6_ahead 59 = .ok (.iconst 1, 1) := by decide +kernel
theorem dX6_ahead_60 : decode cX6_ahead 60 = .ok (.if_icmp .ne 14, 3) := by decide +kernel
theorem dX6_ahead_63 : decode cX6_ahead 63 = .ok (.aload_n 0, 1) := by decide +kernel
theorem dX6_ahead_64 : decode cX6_ahead 64 = .ok (.getfield 47, 3) := by decide +kernel
theorem dX6_ahead_67 : decode cX6_ahead 67 = .ok (.iload_n 3, 1) := by decide +kernel
theorem dX6_ahead_68 : decode cX6_ahead 68 = .ok (.invokevirtual 174, 3) := by decide +kernel
theorem dX6_ahead_71 : decode cX6_ahead 71 = .ok (.goto 14, 3) := by decide +kernel
theorem dX6_ahead_74 : decode cX6_ahead 74 = .ok (.aload_n 0, 1) := by decide +kernel
theorem dX6_ahead_75 : decode cX6_ahead 75 = .ok (.getfield 47, 3) := by decide +kernel
theorem dX6_ahead_78 : decode cX6_ahead 78 = .ok (.iload_n 3, 1) := by decide +kernel
theorem dX6_ahead_79 : decode cX6_ahead 79 = .ok (.invokevirtual 136, 3) := by decide +kernel
theorem dX6_ahead_82 : decode cX6_ahead 82 = .ok (.invokestatic 177, 3) := by decide +kernel
theorem dX6_ahead_85 : decode cX6_ahead 85 = .ok (.ireturn, 1) := by decide +kernel
set_option maxRecDepth 20000 in
theorem ggX6_first_X2_stands : GoodIn wsX6_first wsX2_stands := goodIn_r _ [10, 11, 69, 70, 71, 72, 73, 74, 75, 76, 77] (by decide +kernel) (by decide +kernel)
set_option maxRecDepth 20000 in
theorem gX6_first_X2_stands : GoodIn wsX6_first (wsV RX6 126 RX2 yX2_stands wsX2_stands) := goodIn_app (goodIn_of _ (by decide +kernel)) ggX6_first_X2_stands
set_option maxRecDepth 20000 in
theorem ggX6_first_X6_isWithin : GoodIn wsX6_first wsX6_isWithin := goodIn_r _ [15] (by decide +kernel) (by decide +kernel)
set_option maxRecDepth 20000 in
theorem gX6_first_X6_isWithin : GoodIn wsX6_first (va_wsS RX6 62 yX6_isWithin wsX6_isWithin) := goodIn_app (goodIn_of _ (by decide +kernel)) ggX6_first_X6_isWithin
set_option maxRecDepth 20000 in
theorem ggX6_first_X2_leftOn : GoodIn wsX6_first wsX2_leftOn := goodIn_r _ [19, 20, 21, 22, 9, 23, 24, 25, 26, 27, 28, 29, 30, 31, 32, 33, 34, 35, 36, 37, 38, 39, 40, 11, 41, 14, 42, 43, 44, 45, 46, 47, 48, 49, 50, 51, 52, 69, 70, 71, 72, 73, 74, 75, 76, 77] (by decide +kernel) (by decide +kernel)
set_option maxRecDepth 20000 in
theorem gX6_first_X2_leftOn : GoodIn wsX6_first (wsV RX6 136 RX2 yX2_leftOn wsX2_leftOn) := goodIn_app (goodIn_of _ (by decide +kernel)) ggX6_first_X2_leftOn
set_option maxRecDepth 20000 in
theorem ggX6_first_J6_bitCount_0f7a4 : GoodIn wsX6_first wsJ6_bitCount_0f7a4 := goodIn_r _ [56, 57, 58, 59] (by decide +kernel) (by decide +kernel)
set_option maxRecDepth 20000 in
theorem gX6_first_J6_bitCount_0f7a4 : GoodIn wsX6_first (va_wsS RX6 180 yJ6_bitCount_0f7a4 wsJ6_bitCount_0f7a4) := goodIn_app (goodIn_of _ (by decide +kernel)) ggX6_first_J6_bitCount_0f7a4
theorem dX6_first_0 : decode cX6_first 0 = .ok (.aload_n 0, 1) := by decide +kernel
theorem dX6_first_1 : decode cX6_first 1 = .ok (.getfield 47, 3) := by decide +kernel
theorem dX6_first_4 : decode cX6_first 4 = .ok (.invokevirtual 126, 3) := by decide +kernel
theorem dX6_first_7 : decode cX6_first 7 = .ok (.ifCond .ne 6, 3) := by decide +kernel
theorem dX6_first_10 : decode cX6_first 10 = .ok (.ldc 129, 2) := by decide +kernel
theorem dX6_first_12 : decode cX6_first 12 = .ok (.ireturn, 1) := by decide +kernel
theorem dX6_first_13 : decode cX6_first 13 = .ok (.iload_n 1, 1) := by decide +kernel
theorem dX6_first_14 : decode cX6_first 14 = .ok (.iconst 0, 1) := by decide +kernel
theorem dX6_first_15 : decode cX6_first 15 = .ok (.iconst 1, 1) := by decide +kernel
theorem dX6_first_16 : decode cX6_first 16 = .ok (.invokestatic 62, 3) := by decide +kernel
theorem dX6_first_19 : decode cX6_first 19 = .ok (.ifCond .ne 6, 3) := by decide +kernel
theorem dX6_first_22 : decode cX6_first 22 = .ok (.ldc 66, 2) := by decide +kernel
theorem dX6_first_24 : decode cX6_first 24 = .ok (.ireturn, 1) := by decide +kernel
theorem dX6_first_25 : decode cX6_first 25 = .ok (.iload_n 1, 1) := by decide +kernel
theorem dX6_first_26 : decode cX6_first 26 = .ok (.iconst 1, 1) := by decide +kernel
theorem dX6_first_27 : decode cX6_first 27 = .ok (.if_icmp .ne 7, 3) := by decide +kernel
theorem dX6_first_30 : decode cX6_first 30 = .ok (.iconst 0, 1) := by decide +kernel
theorem dX6_first_31 : decode cX6_first 31 = .ok (.goto 4, 3) := by decide +kernel
theorem dX6_first_34 : decode cX6_first 34 = .ok (.iconst 1, 1) := by decide +kernel
theorem dX6_first_35 : decode cX6_first 35 = .ok (.istore_n 2, 1) := by decide +kernel
theorem dX6_first_36 : decode cX6_first 36 = .ok (.iconst 0, 1) := by decide +kernel
theorem dX6_first_37 : decode cX6_first 37 = .ok (.istore_n 3, 1) := by decide +kernel
theorem dX6_first_38 : decode cX6_first 38 = .ok (.iload_n 3, 1) := by decide +kernel
theorem dX6_first_39 : decode cX6_first 39 = .ok (.bipush 99, 2) := by decide +kernel
theorem dX6_first_41 : decode cX6_first 41 = .ok (.if_icmp .gt 34, 3) := by decide +kernel
theorem dX6_first_44 : decode cX6_first 44 = .ok (.aload_n 0, 1) := by decide +kernel
theorem dX6_first_45 : decode cX6_first 45 = .ok (.getfield 47, 3) := by decide +kernel
theorem dX6_first_48 : decode cX6_first 48 = .ok (.aload_n 0, 1) := by decide +kernel
theorem dX6_first_49 : decode cX6_first 49 = .ok (.getfield 47, 3) := by decide +kernel
theorem dX6_first_52 : decode cX6_first 52 = .ok (.getfield 130, 3) := by decide +kernel
theorem dX6_first_55 : decode cX6_first 55 = .ok (.iload_n 3, 1) := by decide +kernel
theorem dX6_first_56 : decode cX6_first 56 = .ok (.iadd, 1) := by decide +kernel
theorem dX6_first_57 : decode cX6_first 57 = .ok (.invokevirtual 136, 3) := by decide +kernel
theorem dX6_first_60 : decode cX6_first 60 = .ok (.invokestatic 180, 3) := by decide +kernel
theorem dX6_first_63 : decode cX6_first 63 = .ok (.iload_n 2, 1) := by decide +kernel
theorem dX6_first_64 : decode cX6_first 64 = .ok (.if_icmp .ne 5, 3) := by decide +kernel
theorem dX6_first_67 : decode cX6_first 67 = .ok (.iload_n 3, 1) := by decide +kernel
theorem dX6_first_68 : decode cX6_first 68 = .ok (.ireturn, 1) := by decide +kernel
theorem dX6_first_69 : decode cX6_first 69 = .ok (.iinc 3 1, 3) := by decide +kernel
theorem dX6_first_72 : decode cX6_first 72 = .ok (.goto (-34), 3) := by decide +kernel
theorem dX6_first_75 : decode cX6_first 75 = .ok (.ldc 185, 2) := by decide +kernel
theorem dX6_first_77 : decode cX6_first 77 = .ok (.ireturn, 1) := by decide +kernel
set_option maxRecDepth 20000 in
theorem ggX6_rota_X2_stands : GoodIn wsX6_rota wsX2_stands := goodIn_r _ [12, 13, 113, 114, 115, 116, 117, 118, 119, 120, 121] (by decide +kernel) (by decide +kernel)
set_option maxRecDepth 20000 in
theorem gX6_rota_X2_stands : GoodIn wsX6_rota (wsV RX6 126 RX2 yX2_stands wsX2_stands) := goodIn_app (goodIn_of _ (by decide +kernel)) ggX6_rota_X2_stands
set_option maxRecDepth 20000 in
theorem ggX6_rota_X6_isWithin : GoodIn wsX6_rota wsX6_isWithin := goodIn_r _ [17] (by decide +kernel) (by decide +kernel)
set_option maxRecDepth 20000 in
theorem gX6_rota_X6_isWithin : GoodIn wsX6_rota (va_wsS RX6 62 yX6_isWithin wsX6_isWithin) := goodIn_app (goodIn_of _ (by decide +kernel)) ggX6_rota_X6_isWithin
set_option maxRecDepth 20000 in
theorem ggX6_rota_X2_become : GoodIn wsX6_rota wsX2_become := goodIn_r _ [21, 13, 22, 23, 24, 25, 26, 27, 28, 29, 30, 31, 32, 33, 113, 114, 115, 116, 117, 118, 119, 120, 121] (by decide +kernel) (by decide +kernel)
set_option maxRecDepth 20000 in
theorem gX6_rota_X2_become : GoodIn wsX6_rota (wsV RX6 111 RX2 yX2_become wsX2_become) := goodIn_app (goodIn_of _ (by decide +kernel)) ggX6_rota_X2_become
set_option maxRecDepth 20000 in
theorem ggX6_rota_X3_run : GoodIn wsX6_rota wsX3_run := goodIn_r _ [38, 39, 40, 41, 42, 43, 28, 29, 30, 44, 45, 46, 37, 47, 48, 49, 50, 51, 52, 53, 54, 55, 56, 57, 58, 11, 59, 26, 22, 32, 33, 60, 61, 62, 63, 31, 64, 65, 66, 67, 25, 68, 16, 69, 70, 71, 72, 73, 13, 74, 75, 76, 77, 78, 79, 80, 81, 82, 83, 84, 85, 86, 87, 88, 89, 90, 91, 92, 93, 94, 95, 113, 114, 115, 116, 117, 118, 119, 120, 121, 122, 123, 124, 125] (by decide +kernel) (by decide +kernel)
set_option maxRecDepth 20000 in
theorem gX6_rota_X3_run : GoodIn wsX6_rota (wsV RX6 186 RX3 yX3_run wsX3_run) := goodIn_app (goodIn_of _ (by decide +kernel)) ggX6_rota_X3_run
set_option maxRecDepth 20000 in
theorem ggX6_rota_X3_mostSure : GoodIn wsX6_rota wsX3_mostSure := goodIn_r _ [99, 41, 122, 123, 124, 125] (by decide +kernel) (by decide +kernel)
set_option maxRecDepth 20000 in
theorem gX6_rota_X3_mostSure : GoodIn wsX6_rota (wsV RX6 190 RX3 yX3_mostSure wsX3_mostSure) := goodIn_app (goodIn_of _ (by decide +kernel)) ggX6_rota_X3_mostSure
set_option maxRecDepth 20000 in
theorem ggX6_rota_X3_bestOff : GoodIn wsX6_rota wsX3_bestOff := goodIn_r _ [103, 42, 122, 123, 124, 125] (by decide +kernel) (by decide +kernel)
set_option maxRecDepth 20000 in
theorem gX6_rota_X3_bestOff : GoodIn wsX6_rota (wsV RX6 193 RX3 yX3_bestOff wsX3_bestOff) := goodIn_app (goodIn_of _ (by decide +kernel)) ggX6_rota_X3_bestOff
theorem dX6_rota_0 : decode cX6_rota 0 = .ok (.aload_n 0, 1) := by decide +kernel
theorem dX6_rota_1 : decode cX6_rota 1 = .ok (.getfield 47, 3) := by decide +kernel
theorem dX6_rota_4 : decode cX6_rota 4 = .ok (.invokevirtual 126, 3) := by decide +kernel
theorem dX6_rota_7 : decode cX6_rota 7 = .ok (.ifCond .ne 6, 3) := by decide +kernel
theorem dX6_rota_10 : decode cX6_rota 10 = .ok (.ldc 129, 2) := by decide +kernel
theorem dX6_rota_12 : decode cX6_rota 12 = .ok (.ireturn, 1) := by decide +kernel
theorem dX6_rota_13 : decode cX6_rota 13 = .ok (.iload_n 1, 1) := by decide +kernel
theorem dX6_rota_14 : decode cX6_rota 14 = .ok (.iconst 1, 1) := by decide +kernel
theorem dX6_rota_15 : decode cX6_rota 15 = .ok (.bipush 14, 2) := by decide +kernel
theorem dX6_rota_17 : decode cX6_rota 17 = .ok (.invokestatic 62, 3) := by decide +kernel
theorem dX6_rota_20 : decode cX6_rota 20 = .ok (.ifCond .eq 12, 3) := by decide +kernel
theorem dX6_rota_23 : decode cX6_rota 23 = .ok (.iload_n 2, 1) := by decide +kernel
theorem dX6_rota_24 : decode cX6_rota 24 = .ok (.iconst (-1), 1) := by decide +kernel
theorem dX6_rota_25 : decode cX6_rota 25 = .ok (.iconst 5, 1) := by decide +kernel
theorem dX6_rota_26 : decode cX6_rota 26 = .ok (.invokestatic 62, 3) := by decide +kernel
theorem dX6_rota_29 : decode cX6_rota 29 = .ok (.ifCond .ne 6, 3) := by decide +kernel
theorem dX6_rota_32 : decode cX6_rota 32 = .ok (.ldc 66, 2) := by decide +kernel
theorem dX6_rota_34 : decode cX6_rota 34 = .ok (.ireturn, 1) := by decide +kernel
theorem dX6_rota_35 : decode cX6_rota 35 = .ok (.iload_n 2, 1) := by decide +kernel
theorem dX6_rota_36 : decode cX6_rota 36 = .ok (.aload_n 0, 1) := by decide +kernel
theorem dX6_rota_37 : decode cX6_rota 37 = .ok (.getfield 47, 3) := by decide +kernel
theorem dX6_rota_40 : decode cX6_rota 40 = .ok (.getfield 118, 3) := by decide +kernel
theorem dX6_rota_43 : decode cX6_rota 43 = .ok (.if_icmp .lt 6, 3) := by decide +kernel
theorem dX6_rota_46 : decode cX6_rota 46 = .ok (.ldc 185, 2) := by decide +kernel
theorem dX6_rota_48 : decode cX6_rota 48 = .ok (.ireturn, 1) := by decide +kernel
theorem dX6_rota_49 : decode cX6_rota 49 = .ok (.aload_n 0, 1) := by decide +kernel
theorem dX6_rota_50 : decode cX6_rota 50 = .ok (.getfield 51, 3) := by decide +kernel
theorem dX6_rota_53 : decode cX6_rota 53 = .ok (.aload_n 0, 1) := by decide +kernel
theorem dX6_rota_54 : decode cX6_rota 54 = .ok (.getfield 47, 3) := by decide +kernel
theorem dX6_rota_57 : decode cX6_rota 57 = .ok (.invokevirtual 111, 3) := by decide +kernel
theorem dX6_rota_60 : decode cX6_rota 60 = .ok (.aload_n 0, 1) := by decide +kernel
theorem dX6_rota_61 : decode cX6_rota 61 = .ok (.getfield 33, 3) := by decide +kernel
theorem dX6_rota_64 : decode cX6_rota 64 = .ok (.aload_n 0, 1) := by decide +kernel
theorem dX6_rota_65 : decode cX6_rota 65 = .ok (.getfield 51, 3) := by decide +kernel
theorem dX6_rota_68 : decode cX6_rota 68 = .ok (.iload_n 1, 1) := by decide +kernel
theorem dX6_rota_69 : decode cX6_rota 69 = .ok (.invokevirtual 186, 3) := by decide +kernel
theorem dX6_rota_72 : decode cX6_rota 72 = .ok (.iload_n 2, 1) := by decide +kernel
theorem dX6_rota_73 : decode cX6_rota 73 = .ok (.ifCond .ge 13, 3) := by decide +kernel
theorem dX6_rota_76 : decode cX6_rota 76 = .ok (.aload_n 0, 1) := by decide +kernel
theorem dX6_rota_77 : decode cX6_rota 77 = .ok (.getfield 33, 3) := by decide +kernel
theorem dX6_rota_80 : decode cX6_rota 80 = .ok (.invokevirtual 190, 3) := by decide +kernel
theorem dX6_rota_83 : decode cX6_rota 83 = .ok (.goto 11, 3) := by decide +kernel
theorem dX6_rota_86 : decode cX6_rota 86 = .ok (.aload_n 0, 1) := by decide +kernel
theorem dX6_rota_87 : decode cX6_rota 87 = .ok (.getfield 33, 3) := by decide +kernel
theorem dX6_rota_90 : decode cX6_rota 90 = .ok (.iload_n 2, 1) := by decide +kernel
theorem dX6_rota_91 : decode cX6_rota 91 = .ok (.invokevirtual 193, 3) := by decide +kernel
theorem dX6_rota_94 : decode cX6_rota 94 = .ok (.ireturn, 1) := by decide +kernel
set_option maxRecDepth 20000 in
theorem ggX6_when_X6_isWithin : GoodIn wsX6_when wsX6_isWithin := goodIn_r _ [9] (by decide +kernel) (by decide +kernel)
set_option maxRecDepth 20000 in
theorem gX6_when_X6_isWithin : GoodIn wsX6_when (va_wsS RX6 62 yX6_isWithin wsX6_isWithin) := goodIn_app (goodIn_of _ (by decide +kernel)) ggX6_when_X6_isWithin
set_option maxRecDepth 20000 in
theorem ggX6_when_X2_leftOn : GoodIn wsX6_when wsX2_leftOn := goodIn_r _ [14, 15, 16, 17, 13, 18, 19, 20, 21, 22, 23, 24, 25, 26, 27, 28, 29, 30, 31, 32, 33, 34, 35, 36, 37, 8, 38, 39, 40, 41, 42, 43, 44, 45, 46, 47, 48, 66, 67, 68, 69, 70, 71, 72, 73, 74] (by decide +kernel) (by decide +kernel)
set_option maxRecDepth 20000 in
theorem gX6_when_X2_leftOn : GoodIn wsX6_when (wsV RX6 136 RX2 yX2_leftOn wsX2_leftOn) := goodIn_app (goodIn_of _ (by decide +kernel)) ggX6_when_X2_leftOn
set_option maxRecDepth 20000 in
theorem ggX6_when_X6_isIn : GoodIn wsX6_when wsX6_isIn := goodIn_r _ [38] (by decide +kernel) (by decide +kernel)
set_option maxRecDepth 20000 in
theorem gX6_when_X6_isIn : GoodIn wsX6_when (va_wsS RX6 199 yX6_isIn wsX6_isIn) := goodIn_app (goodIn_of _ (by decide +kernel)) ggX6_when_X6_isIn
set_option maxRecDepth 20000 in
theorem ggX6_when_J6_bitCount_0f7a4 : GoodIn wsX6_when wsJ6_bitCount_0f7a4 := goodIn_r _ [53, 54, 55, 56] (by decide +kernel) (by decide +kernel)
set_option maxRecDepth 20000 in
theorem gX6_when_J6_bitCount_0f7a4 : GoodIn wsX6_when (va_wsS RX6 180 yJ6_bitCount_0f7a4 wsJ6_bitCount_0f7a4) := goodIn_app (goodIn_of _ (by decide +kernel)) ggX6_when_J6_bitCount_0f7a4
theorem dX6_when_0 : decode cX6_when 0 = .ok (.iload_n 1, 1) := by decide +kernel
theorem dX6_when_1 : decode cX6_when 1 = .ok (.iconst 0, 1) := by decide +kernel
theorem dX6_when_2 : decode cX6_when 2 = .ok (.aload_n 0, 1) := by decide +kernel
theorem dX6_when_3 : decode cX6_when 3 = .ok (.getfield 47, 3) := by decide +kernel
theorem dX6_when_6 : decode cX6_when 6 = .ok (.getfield 196, 3) := by decide +kernel
theorem dX6_when_9 : decode cX6_when 9 = .ok (.iconst 1, 1) := by decide +kernel
theorem dX6_when_10 : decode cX6_when 10 = .ok (.isub, 1) := by decide +kernel
theorem dX6_when_11 : decode cX6_when 11 = .ok (.invokestatic 62, 3) := by decide +kernel
theorem dX6_when_14 : decode cX6_when 14 = .ok (.ifCond .eq 13, 3) := by decide +kernel
theorem dX6_when_17 : decode cX6_when 17 = .ok (.iload_n 2, 1) := by decide +kernel
theorem dX6_when_18 : decode cX6_when 18 = .ok (.iconst 1, 1) := by decide +kernel
theorem dX6_when_19 : decode cX6_when 19 = .ok (.bipush 60, 2) := by decide +kernel
theorem dX6_when_21 : decode cX6_when 21 = .ok (.invokestatic 62, 3) := by decide +kernel
theorem dX6_when_24 : decode cX6_when 24 = .ok (.ifCond .ne 6, 3) := by decide +kernel
theorem dX6_when_27 : decode cX6_when 27 = .ok (.ldc 66, 2) := by decide +kernel
theorem dX6_when_29 : decode cX6_when 29 = .ok (.ireturn, 1) := by decide +kernel
theorem dX6_when_30 : decode cX6_when 30 = .ok (.ldc 185, 2) := by decide +kernel
theorem dX6_when_32 : decode cX6_when 32 = .ok (.istore_n 3, 1) := by decide +kernel
theorem dX6_when_33 : decode cX6_when 33 = .ok (.iconst 1, 1) := by decide +kernel
theorem dX6_when_34 : decode cX6_when 34 = .ok (.istore 4, 2) := by decide +kernel
theorem dX6_when_36 : decode cX6_when 36 = .ok (.iconst 0, 1) := by decide +kernel
theorem dX6_when_37 : decode cX6_when 37 = .ok (.istore 5, 2) := by decide +kernel
theorem dX6_when_39 : decode cX6_when 39 = .ok (.iload 5, 2) := by decide +kernel
theorem dX6_when_41 : decode cX6_when 41 = .ok (.iload_n 2, 1) := by decide +kernel
theorem dX6_when_42 : decode cX6_when 42 = .ok (.if_icmp .ge 57, 3) := by decide +kernel
theorem dX6_when_45 : decode cX6_when 45 = .ok (.aload_n 0, 1) := by decide +kernel
theorem dX6_when_46 : decode cX6_when 46 = .ok (.getfield 47, 3) := by decide +kernel
theorem dX6_when_49 : decode cX6_when 49 = .ok (.aload_n 0, 1) := by decide +kernel
theorem dX6_when_50 : decode cX6_when 50 = .ok (.getfield 47, 3) := by decide +kernel
theorem dX6_when_53 : decode cX6_when 53 = .ok (.getfield 130, 3) := by decide +kernel
theorem dX6_when_56 : decode cX6_when 56 = .ok (.iload 5, 2) := by decide +kernel
theorem dX6_when_58 : decode cX6_when 58 = .ok (.iadd, 1) := by decide +kernel
theorem dX6_when_59 : decode cX6_when 59 = .ok (.invokevirtual 136, 3) := by decide +kernel
theorem dX6_when_62 : decode cX6_when 62 = .ok (.istore 6, 2) := by decide +kernel
theorem dX6_when_64 : decode cX6_when 64 = .ok (.iload 6, 2) := by decide +kernel
theorem dX6_when_66 : decode cX6_when 66 = .ok (.iload_n 1, 1) := by decide +kernel
theorem dX6_when_67 : decode cX6_when 67 = .ok (.invokestatic 199, 3) := by decide +kernel
theorem dX6_when_70 : decode cX6_when 70 = .ok (.ifCond .eq 23, 3) := by decide +kernel
theorem dX6_when_73 : decode cX6_when 73 = .ok (.iload 6, 2) := by decide +kernel
theorem dX6_when_75 : decode cX6_when 75 = .ok (.invokestatic 180, 3) := by decide +kernel
theorem dX6_when_78 : decode cX6_when 78 = .ok (.iload 4, 2) := by decide +kernel
theorem dX6_when_80 : decode cX6_when 80 = .ok (.if_icmp .le 13, 3) := by decide +kernel
theorem dX6_when_83 : decode cX6_when 83 = .ok (.iload 6, 2) := by decide +kernel
theorem dX6_when_85 : decode cX6_when 85 = .ok (.invokestatic 180, 3) := by decide +kernel
theorem dX6_when_88 : decode cX6_when 88 = .ok (.istore 4, 2) := by decide +kernel
theorem dX6_when_90 : decode cX6_when 90 = .ok (.iload 5, 2) := by decide +kernel
theorem dX6_when_92 : decode cX6_when 92 = .ok (.istore_n 3, 1) := by decide +kernel
theorem dX6_when_93 : decode cX6_when 93 = .ok (.iinc 5 1, 3) := by decide +kernel
theorem dX6_when_96 : decode cX6_when 96 = .ok (.goto (-57), 3) := by decide +kernel
theorem dX6_when_99 : decode cX6_when 99 = .ok (.iload_n 3, 1) := by decide +kernel
theorem dX6_when_100 : decode cX6_when 100 = .ok (.ireturn, 1) := by decide +kernel
set_option maxRecDepth 20000 in
theorem ggX6_enough_X2_stands : GoodIn wsX6_enough wsX2_stands := goodIn_r _ [9, 10, 75, 76, 77, 78, 79, 80, 81, 82, 83] (by decide +kernel) (by decide +kernel)
set_option maxRecDepth 20000 in
theorem gX6_enough_X2_stands : GoodIn wsX6_enough (wsV RX6 126 RX2 yX2_stands wsX2_stands) := goodIn_app (goodIn_of _ (by decide +kernel)) ggX6_enough_X2_stands
set_option maxRecDepth 20000 in
theorem ggX6_enough_X6_isWithin : GoodIn wsX6_enough wsX6_isWithin := goodIn_r _ [14] (by decide +kernel) (by decide +kernel)
set_option maxRecDepth 20000 in
theorem gX6_enough_X6_isWithin : GoodIn wsX6_enough (va_wsS RX6 62 yX6_isWithin wsX6_isWithin) := goodIn_app (goodIn_of _ (by decide +kernel)) ggX6_enough_X6_isWithin
set_option maxRecDepth 20000 in
theorem ggX6_enough_X2_workersOn : GoodIn wsX6_enough wsX2_workersOn := goodIn_r _ [18, 19, 20, 21, 22, 8, 23, 24, 25, 26, 27, 75, 76, 77, 78, 79, 80, 81, 82, 83] (by decide +kernel) (by decide +kernel)
set_option maxRecDepth 20000 in
theorem gX6_enough_X2_workersOn : GoodIn wsX6_enough (wsV RX6 174 RX2 yX2_workersOn wsX2_workersOn) := goodIn_app (goodIn_of _ (by decide +kernel)) ggX6_enough_X2_workersOn
set_option maxRecDepth 20000 in
theorem ggX6_enough_X2_leftBy : GoodIn wsX6_enough wsX2_leftBy := goodIn_r _ [31, 19, 32, 33, 34, 8, 35, 10, 36, 13, 37, 38, 39, 40, 41, 42, 24, 43, 44, 45, 46, 47, 75, 76, 77, 78, 79, 80, 81, 82, 83] (by decide +kernel) (by decide +kernel)
set_option maxRecDepth 20000 in
theorem gX6_enough_X2_leftBy : GoodIn wsX6_enough (wsV RX6 202 RX2 yX2_leftBy wsX2_leftBy) := goodIn_app (goodIn_of _ (by decide +kernel)) ggX6_enough_X2_leftBy
set_option maxRecDepth 20000 in
theorem ggX6_enough_X2_fewestThatLeave : GoodIn wsX6_enough wsX2_fewestThatLeave := goodIn_r _ [51, 52, 53, 54, 55, 56, 57, 58, 59, 60, 29, 30, 8, 31, 19, 32, 33, 34, 35, 10, 36, 13, 37, 38, 39, 40, 41, 42, 24, 43, 44, 45, 46, 47, 75, 76, 77, 78, 79, 80, 81, 82, 83] (by decide +kernel) (by decide +kernel)
set_option maxRecDepth 20000 in
theorem gX6_enough_X2_fewestThatLeave : GoodIn wsX6_enough (wsV RX6 205 RX2 yX2_fewestThatLeave wsX2_fewestThatLeave) := goodIn_app (goodIn_of _ (by decide +kernel)) ggX6_enough_X2_fewestThatLeave
set_option maxRecDepth 20000 in
theorem ggX6_enough_X6_tellSet : GoodIn wsX6_enough wsX6_tellSet := goodIn_r _ [63, 64, 65, 54, 55, 56, 57, 58, 59] (by decide +kernel) (by decide +kernel)
set_option maxRecDepth 20000 in
theorem gX6_enough_X6_tellSet : GoodIn wsX6_enough (va_wsS RX6 209 yX6_tellSet wsX6_tellSet) := goodIn_app (goodIn_of _ (by decide +kernel)) ggX6_enough_X6_tellSet
theorem dX6_enough_0 : decode cX6_enough 0 = .ok (.aload_n 0, 1) := by decide +kernel
theorem dX6_enough_1 : decode cX6_enough 1 = .ok (.getfield 47, 3) := by decide +kernel
theorem dX6_enough_4 : decode cX6_enough 4 = .ok (.invokevirtual 126, 3) := by decide +kernel
theorem dX6_enough_7 : decode cX6_enough 7 = .ok (.ifCond .ne 6, 3) := by decide +kernel
theorem dX6_enough_10 : decode cX6_enough 10 = .ok (.ldc 129, 2) := by decide +kernel
theorem dX6_enough_12 : decode cX6_enough 12 = .ok (.ireturn, 1) := by decide +kernel
theorem dX6_enough_13 : decode cX6_enough 13 = .ok (.iload_n 1, 1) := by decide +kernel
theorem dX6_enough_14 : decode cX6_enough 14 = .ok (.iconst 0, 1) := by decide +kernel
theorem dX6_enough_15 : decode cX6_enough 15 = .ok (.bipush 99, 2) := by decide +kernel
theorem dX6_enough_17 : decode cX6_enough 17 = .ok (.invokestatic 62, 3) := by decide +kernel
theorem dX6_enough_20 : decode cX6_enough 20 = .ok (.ifCond .eq 12, 3) := by decide +kernel
theorem dX6_enough_23 : decode cX6_enough 23 = .ok (.iload_n 2, 1) := by decide +kernel
theorem dX6_enough_24 : decode cX6_enough 24 = .ok (.iconst 0, 1) := by decide +kernel
theorem dX6_enough_25 : decode cX6_enough 25 = .ok (.iconst 1, 1) := by decide +kernel
