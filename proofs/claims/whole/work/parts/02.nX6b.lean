theorem dX6_enough_26 : decode cX6_enough 26 = .ok (.invokestatic 62, 3) := by decide +kernel
theorem dX6_enough_29 : decode cX6_enough 29 = .ok (.ifCond .ne 6, 3) := by decide +kernel
theorem dX6_enough_32 : decode cX6_enough 32 = .ok (.ldc 66, 2) := by decide +kernel
theorem dX6_enough_34 : decode cX6_enough 34 = .ok (.ireturn, 1) := by decide +kernel
theorem dX6_enough_35 : decode cX6_enough 35 = .ok (.aload_n 0, 1) := by decide +kernel
theorem dX6_enough_36 : decode cX6_enough 36 = .ok (.getfield 47, 3) := by decide +kernel
theorem dX6_enough_39 : decode cX6_enough 39 = .ok (.aload_n 0, 1) := by decide +kernel
theorem dX6_enough_40 : decode cX6_enough 40 = .ok (.getfield 47, 3) := by decide +kernel
theorem dX6_enough_43 : decode cX6_enough 43 = .ok (.getfield 130, 3) := by decide +kernel
theorem dX6_enough_46 : decode cX6_enough 46 = .ok (.iload_n 1, 1) := by decide +kernel
theorem dX6_enough_47 : decode cX6_enough 47 = .ok (.iadd, 1) := by decide +kernel
theorem dX6_enough_48 : decode cX6_enough 48 = .ok (.invokevirtual 174, 3) := by decide +kernel
theorem dX6_enough_51 : decode cX6_enough 51 = .ok (.istore_n 3, 1) := by decide +kernel
theorem dX6_enough_52 : decode cX6_enough 52 = .ok (.aload_n 0, 1) := by decide +kernel
theorem dX6_enough_53 : decode cX6_enough 53 = .ok (.getfield 47, 3) := by decide +kernel
theorem dX6_enough_56 : decode cX6_enough 56 = .ok (.iload_n 3, 1) := by decide +kernel
theorem dX6_enough_57 : decode cX6_enough 57 = .ok (.aload_n 0, 1) := by decide +kernel
theorem dX6_enough_58 : decode cX6_enough 58 = .ok (.getfield 47, 3) := by decide +kernel
theorem dX6_enough_61 : decode cX6_enough 61 = .ok (.iload_n 3, 1) := by decide +kernel
theorem dX6_enough_62 : decode cX6_enough 62 = .ok (.invokevirtual 202, 3) := by decide +kernel
theorem dX6_enough_65 : decode cX6_enough 65 = .ok (.invokevirtual 205, 3) := by decide +kernel
theorem dX6_enough_68 : decode cX6_enough 68 = .ok (.iload_n 2, 1) := by decide +kernel
theorem dX6_enough_69 : decode cX6_enough 69 = .ok (.invokestatic 209, 3) := by decide +kernel
theorem dX6_enough_72 : decode cX6_enough 72 = .ok (.ireturn, 1) := by decide +kernel
set_option maxRecDepth 20000 in
theorem ggX6_clash_X2_stands : GoodIn wsX6_clash wsX2_stands := goodIn_r _ [9, 10, 74, 75, 76, 77, 78, 79, 80, 81, 82] (by decide +kernel) (by decide +kernel)
set_option maxRecDepth 20000 in
theorem gX6_clash_X2_stands : GoodIn wsX6_clash (wsV RX6 126 RX2 yX2_stands wsX2_stands) := goodIn_app (goodIn_of _ (by decide +kernel)) ggX6_clash_X2_stands
set_option maxRecDepth 20000 in
theorem ggX6_clash_X6_isWithin : GoodIn wsX6_clash wsX6_isWithin := goodIn_r _ [14] (by decide +kernel) (by decide +kernel)
set_option maxRecDepth 20000 in
theorem gX6_clash_X6_isWithin : GoodIn wsX6_clash (va_wsS RX6 62 yX6_isWithin wsX6_isWithin) := goodIn_app (goodIn_of _ (by decide +kernel)) ggX6_clash_X6_isWithin
set_option maxRecDepth 20000 in
theorem ggX6_clash_X2_workersOn : GoodIn wsX6_clash wsX2_workersOn := goodIn_r _ [18, 19, 20, 21, 22, 8, 23, 24, 25, 26, 27, 74, 75, 76, 77, 78, 79, 80, 81, 82] (by decide +kernel) (by decide +kernel)
set_option maxRecDepth 20000 in
theorem gX6_clash_X2_workersOn : GoodIn wsX6_clash (wsV RX6 174 RX2 yX2_workersOn wsX2_workersOn) := goodIn_app (goodIn_of _ (by decide +kernel)) ggX6_clash_X2_workersOn
set_option maxRecDepth 20000 in
theorem ggX6_clash_X2_fewestThatLeave : GoodIn wsX6_clash wsX2_fewestThatLeave := goodIn_r _ [31, 32, 33, 34, 35, 36, 37, 38, 39, 40, 41, 42, 8, 43, 19, 44, 45, 46, 47, 10, 48, 13, 49, 50, 51, 52, 53, 54, 24, 55, 56, 57, 58, 59, 74, 75, 76, 77, 78, 79, 80, 81, 82] (by decide +kernel) (by decide +kernel)
set_option maxRecDepth 20000 in
theorem gX6_clash_X2_fewestThatLeave : GoodIn wsX6_clash (wsV RX6 205 RX2 yX2_fewestThatLeave wsX2_fewestThatLeave) := goodIn_app (goodIn_of _ (by decide +kernel)) ggX6_clash_X2_fewestThatLeave
set_option maxRecDepth 20000 in
theorem ggX6_clash_X6_tellSet : GoodIn wsX6_clash wsX6_tellSet := goodIn_r _ [62, 63, 64, 34, 35, 36, 37, 38, 39] (by decide +kernel) (by decide +kernel)
set_option maxRecDepth 20000 in
theorem gX6_clash_X6_tellSet : GoodIn wsX6_clash (va_wsS RX6 209 yX6_tellSet wsX6_tellSet) := goodIn_app (goodIn_of _ (by decide +kernel)) ggX6_clash_X6_tellSet
theorem dX6_clash_0 : decode cX6_clash 0 = .ok (.aload_n 0, 1) := by decide +kernel
theorem dX6_clash_1 : decode cX6_clash 1 = .ok (.getfield 47, 3) := by decide +kernel
theorem dX6_clash_4 : decode cX6_clash 4 = .ok (.invokevirtual 126, 3) := by decide +kernel
theorem dX6_clash_7 : decode cX6_clash 7 = .ok (.ifCond .ne 6, 3) := by decide +kernel
theorem dX6_clash_10 : decode cX6_clash 10 = .ok (.ldc 129, 2) := by decide +kernel
theorem dX6_clash_12 : decode cX6_clash 12 = .ok (.ireturn, 1) := by decide +kernel
theorem dX6_clash_13 : decode cX6_clash 13 = .ok (.iload_n 1, 1) := by decide +kernel
theorem dX6_clash_14 : decode cX6_clash 14 = .ok (.iconst 0, 1) := by decide +kernel
theorem dX6_clash_15 : decode cX6_clash 15 = .ok (.bipush 99, 2) := by decide +kernel
theorem dX6_clash_17 : decode cX6_clash 17 = .ok (.invokestatic 62, 3) := by decide +kernel
theorem dX6_clash_20 : decode cX6_clash 20 = .ok (.ifCond .eq 12, 3) := by decide +kernel
theorem dX6_clash_23 : decode cX6_clash 23 = .ok (.iload_n 2, 1) := by decide +kernel
theorem dX6_clash_24 : decode cX6_clash 24 = .ok (.iconst 0, 1) := by decide +kernel
theorem dX6_clash_25 : decode cX6_clash 25 = .ok (.iconst 1, 1) := by decide +kernel
theorem dX6_clash_26 : decode cX6_clash 26 = .ok (.invokestatic 62, 3) := by decide +kernel
theorem dX6_clash_29 : decode cX6_clash 29 = .ok (.ifCond .ne 6, 3) := by decide +kernel
theorem dX6_clash_32 : decode cX6_clash 32 = .ok (.ldc 66, 2) := by decide +kernel
theorem dX6_clash_34 : decode cX6_clash 34 = .ok (.ireturn, 1) := by decide +kernel
theorem dX6_clash_35 : decode cX6_clash 35 = .ok (.aload_n 0, 1) := by decide +kernel
theorem dX6_clash_36 : decode cX6_clash 36 = .ok (.getfield 47, 3) := by decide +kernel
theorem dX6_clash_39 : decode cX6_clash 39 = .ok (.aload_n 0, 1) := by decide +kernel
theorem dX6_clash_40 : decode cX6_clash 40 = .ok (.getfield 47, 3) := by decide +kernel
theorem dX6_clash_43 : decode cX6_clash 43 = .ok (.aload_n 0, 1) := by decide +kernel
theorem dX6_clash_44 : decode cX6_clash 44 = .ok (.getfield 47, 3) := by decide +kernel
theorem dX6_clash_47 : decode cX6_clash 47 = .ok (.getfield 130, 3) := by decide +kernel
theorem dX6_clash_50 : decode cX6_clash 50 = .ok (.iload_n 1, 1) := by decide +kernel
theorem dX6_clash_51 : decode cX6_clash 51 = .ok (.iadd, 1) := by decide +kernel
theorem dX6_clash_52 : decode cX6_clash 52 = .ok (.invokevirtual 174, 3) := by decide +kernel
theorem dX6_clash_55 : decode cX6_clash 55 = .ok (.iconst 0, 1) := by decide +kernel
theorem dX6_clash_56 : decode cX6_clash 56 = .ok (.invokevirtual 205, 3) := by decide +kernel
theorem dX6_clash_59 : decode cX6_clash 59 = .ok (.iload_n 2, 1) := by decide +kernel
theorem dX6_clash_60 : decode cX6_clash 60 = .ok (.invokestatic 209, 3) := by decide +kernel
theorem dX6_clash_63 : decode cX6_clash 63 = .ok (.ireturn, 1) := by decide +kernel
set_option maxRecDepth 20000 in
theorem ggX6_bribes_X2_stands : GoodIn wsX6_bribes wsX2_stands := goodIn_r _ [12, 13, 108, 109, 110, 111, 112, 113, 114, 115, 116] (by decide +kernel) (by decide +kernel)
set_option maxRecDepth 20000 in
theorem gX6_bribes_X2_stands : GoodIn wsX6_bribes (wsV RX6 126 RX2 yX2_stands wsX2_stands) := goodIn_app (goodIn_of _ (by decide +kernel)) ggX6_bribes_X2_stands
set_option maxRecDepth 20000 in
theorem ggX6_bribes_X4_isRow : GoodIn wsX6_bribes wsX4_isRow := goodIn_r _ [18] (by decide +kernel) (by decide +kernel)
set_option maxRecDepth 20000 in
theorem gX6_bribes_X4_isRow : GoodIn wsX6_bribes (wsV RX6 58 RX4 yX4_isRow wsX4_isRow) := goodIn_app (goodIn_of _ (by decide +kernel)) ggX6_bribes_X4_isRow
set_option maxRecDepth 20000 in
theorem ggX6_bribes_X6_isWithin : GoodIn wsX6_bribes wsX6_isWithin := goodIn_r _ [22] (by decide +kernel) (by decide +kernel)
set_option maxRecDepth 20000 in
theorem gX6_bribes_X6_isWithin : GoodIn wsX6_bribes (va_wsS RX6 62 yX6_isWithin wsX6_isWithin) := goodIn_app (goodIn_of _ (by decide +kernel)) ggX6_bribes_X6_isWithin
set_option maxRecDepth 20000 in
theorem ggX6_bribes_X4_isMissing : GoodIn wsX6_bribes wsX4_isMissing := goodIn_r _ [26, 27, 117, 118, 119] (by decide +kernel) (by decide +kernel)
set_option maxRecDepth 20000 in
theorem gX6_bribes_X4_isMissing : GoodIn wsX6_bribes (wsV RX6 78 RX4 yX4_isMissing wsX4_isMissing) := goodIn_app (goodIn_of _ (by decide +kernel)) ggX6_bribes_X4_isMissing
set_option maxRecDepth 20000 in
theorem ggX6_bribes_X6_found : GoodIn wsX6_bribes wsX6_found := goodIn_r _ [31, 32, 33, 99, 100, 101, 102, 103, 104, 105, 106, 107] (by decide +kernel) (by decide +kernel)
set_option maxRecDepth 20000 in
theorem gX6_bribes_X6_found : GoodIn wsX6_bribes (wsV RX6 67 RX6 yX6_found wsX6_found) := goodIn_app (goodIn_of _ (by decide +kernel)) ggX6_bribes_X6_found
set_option maxRecDepth 20000 in
theorem ggX6_bribes_X4_hasPlaces : GoodIn wsX6_bribes wsX4_hasPlaces := goodIn_r _ [37, 38, 117, 118, 119] (by decide +kernel) (by decide +kernel)
set_option maxRecDepth 20000 in
theorem gX6_bribes_X4_hasPlaces : GoodIn wsX6_bribes (wsV RX6 81 RX4 yX4_hasPlaces wsX4_hasPlaces) := goodIn_app (goodIn_of _ (by decide +kernel)) ggX6_bribes_X4_hasPlaces
set_option maxRecDepth 20000 in
theorem ggX6_bribes_X6_isAsTold : GoodIn wsX6_bribes wsX6_isAsTold := goodIn_r _ [42, 43, 3, 44, 45, 46, 11, 47, 48, 49, 50, 51, 52, 53, 54, 55, 56, 57, 58, 59, 60, 61, 62, 63, 64, 65, 66, 67, 68, 13, 69, 21, 70, 71, 72, 73, 74, 75, 76, 77, 78, 79, 80, 81, 82, 83, 17, 84, 85, 108, 109, 110, 111, 112, 113, 114, 115, 116, 99, 100, 101, 102, 103, 104, 105, 106, 107, 117, 118, 119] (by decide +kernel) (by decide +kernel)
set_option maxRecDepth 20000 in
theorem gX6_bribes_X6_isAsTold : GoodIn wsX6_bribes (wsV RX6 212 RX6 yX6_isAsTold wsX6_isAsTold) := goodIn_app (goodIn_of _ (by decide +kernel)) ggX6_bribes_X6_isAsTold
set_option maxRecDepth 20000 in
theorem ggX6_bribes_X2_become : GoodIn wsX6_bribes wsX2_become := goodIn_r _ [89, 13, 58, 90, 52, 80, 57, 91, 92, 93, 94, 75, 59, 60, 108, 109, 110, 111, 112, 113, 114, 115, 116] (by decide +kernel) (by decide +kernel)
set_option maxRecDepth 20000 in
theorem gX6_bribes_X2_become : GoodIn wsX6_bribes (wsV RX6 111 RX2 yX2_become wsX2_become) := goodIn_app (goodIn_of _ (by decide +kernel)) ggX6_bribes_X2_become
set_option maxRecDepth 20000 in
theorem ggX6_bribes_X6_sound : GoodIn wsX6_bribes wsX6_sound := goodIn_r _ [98, 32, 99, 100, 101, 102, 103, 104, 105, 106, 107] (by decide +kernel) (by decide +kernel)
set_option maxRecDepth 20000 in
theorem gX6_bribes_X6_sound : GoodIn wsX6_bribes (wsV RX6 75 RX6 yX6_sound wsX6_sound) := goodIn_app (goodIn_of _ (by decide +kernel)) ggX6_bribes_X6_sound
theorem dX6_bribes_0 : decode cX6_bribes 0 = .ok (.aload_n 0, 1) := by decide +kernel
theorem dX6_bribes_1 : decode cX6_bribes 1 = .ok (.getfield 47, 3) := by decide +kernel
theorem dX6_bribes_4 : decode cX6_bribes 4 = .ok (.invokevirtual 126, 3) := by decide +kernel
theorem dX6_bribes_7 : decode cX6_bribes 7 = .ok (.ifCond .ne 6, 3) := by decide +kernel
theorem dX6_bribes_10 : decode cX6_bribes 10 = .ok (.ldc 129, 2) := by decide +kernel
theorem dX6_bribes_12 : decode cX6_bribes 12 = .ok (.ireturn, 1) := by decide +kernel
theorem dX6_bribes_13 : decode cX6_bribes 13 = .ok (.aload_n 0, 1) := by decide +kernel
theorem dX6_bribes_14 : decode cX6_bribes 14 = .ok (.getfield 10, 3) := by decide +kernel
theorem dX6_bribes_17 : decode cX6_bribes 17 = .ok (.iload_n 1, 1) := by decide +kernel
theorem dX6_bribes_18 : decode cX6_bribes 18 = .ok (.invokevirtual 58, 3) := by decide +kernel
theorem dX6_bribes_21 : decode cX6_bribes 21 = .ok (.ifCond .eq 13, 3) := by decide +kernel
theorem dX6_bribes_24 : decode cX6_bribes 24 = .ok (.iload_n 3, 1) := by decide +kernel
theorem dX6_bribes_25 : decode cX6_bribes 25 = .ok (.iconst 1, 1) := by decide +kernel
theorem dX6_bribes_26 : decode cX6_bribes 26 = .ok (.bipush 16, 2) := by decide +kernel
theorem dX6_bribes_28 : decode cX6_bribes 28 = .ok (.invokestatic 62, 3) := by decide +kernel
theorem dX6_bribes_31 : decode cX6_bribes 31 = .ok (.ifCond .ne 6, 3) := by decide +kernel
theorem dX6_bribes_34 : decode cX6_bribes 34 = .ok (.ldc 66, 2) := by decide +kernel
theorem dX6_bribes_36 : decode cX6_bribes 36 = .ok (.ireturn, 1) := by decide +kernel
theorem dX6_bribes_37 : decode cX6_bribes 37 = .ok (.aload_n 0, 1) := by decide +kernel
theorem dX6_bribes_38 : decode cX6_bribes 38 = .ok (.getfield 10, 3) := by decide +kernel
theorem dX6_bribes_41 : decode cX6_bribes 41 = .ok (.iload_n 1, 1) := by decide +kernel
theorem dX6_bribes_42 : decode cX6_bribes 42 = .ok (.invokevirtual 78, 3) := by decide +kernel
theorem dX6_bribes_45 : decode cX6_bribes 45 = .ok (.ifCond .eq 9, 3) := by decide +kernel
theorem dX6_bribes_48 : decode cX6_bribes 48 = .ok (.aload_n 0, 1) := by decide +kernel
theorem dX6_bribes_49 : decode cX6_bribes 49 = .ok (.iconst 1, 1) := by decide +kernel
theorem dX6_bribes_50 : decode cX6_bribes 50 = .ok (.invokevirtual 67, 3) := by decide +kernel
theorem dX6_bribes_53 : decode cX6_bribes 53 = .ok (.ireturn, 1) := by decide +kernel
theorem dX6_bribes_54 : decode cX6_bribes 54 = .ok (.aload_n 0, 1) := by decide +kernel
theorem dX6_bribes_55 : decode cX6_bribes 55 = .ok (.getfield 10, 3) := by decide +kernel
theorem dX6_bribes_58 : decode cX6_bribes 58 = .ok (.iload_n 1, 1) := by decide +kernel
theorem dX6_bribes_59 : decode cX6_bribes 59 = .ok (.iload_n 2, 1) := by decide +kernel
theorem dX6_bribes_60 : decode cX6_bribes 60 = .ok (.iload_n 3, 1) := by decide +kernel
theorem dX6_bribes_61 : decode cX6_bribes 61 = .ok (.invokevirtual 81, 3) := by decide +kernel
theorem dX6_bribes_64 : decode cX6_bribes 64 = .ok (.ifCond .ne 9, 3) := by decide +kernel
theorem dX6_bribes_67 : decode cX6_bribes 67 = .ok (.aload_n 0, 1) := by decide +kernel
theorem dX6_bribes_68 : decode cX6_bribes 68 = .ok (.iconst 2, 1) := by decide +kernel
theorem dX6_bribes_69 : decode cX6_bribes 69 = .ok (.invokevirtual 67, 3) := by decide +kernel
theorem dX6_bribes_72 : decode cX6_bribes 72 = .ok (.ireturn, 1) := by decide +kernel
theorem dX6_bribes_73 : decode cX6_bribes 73 = .ok (.aload_n 0, 1) := by decide +kernel
theorem dX6_bribes_74 : decode cX6_bribes 74 = .ok (.aload_n 0, 1) := by decide +kernel
theorem dX6_bribes_75 : decode cX6_bribes 75 = .ok (.getfield 47, 3) := by decide +kernel
theorem dX6_bribes_78 : decode cX6_bribes 78 = .ok (.iload_n 1, 1) := by decide +kernel
theorem dX6_bribes_79 : decode cX6_bribes 79 = .ok (.iload_n 2, 1) := by decide +kernel
theorem dX6_bribes_80 : decode cX6_bribes 80 = .ok (.iload_n 3, 1) := by decide +kernel
theorem dX6_bribes_81 : decode cX6_bribes 81 = .ok (.invokevirtual 212, 3) := by decide +kernel
theorem dX6_bribes_84 : decode cX6_bribes 84 = .ok (.ifCond .eq 8, 3) := by decide +kernel
theorem dX6_bribes_87 : decode cX6_bribes 87 = .ok (.bipush 64, 2) := by decide +kernel
theorem dX6_bribes_89 : decode cX6_bribes 89 = .ok (.goto 4, 3) := by decide +kernel
theorem dX6_bribes_92 : decode cX6_bribes 92 = .ok (.iconst 0, 1) := by decide +kernel
theorem dX6_bribes_93 : decode cX6_bribes 93 = .ok (.istore 4, 2) := by decide +kernel
theorem dX6_bribes_95 : decode cX6_bribes 95 = .ok (.iconst 0, 1) := by decide +kernel
theorem dX6_bribes_96 : decode cX6_bribes 96 = .ok (.istore 5, 2) := by decide +kernel
theorem dX6_bribes_98 : decode cX6_bribes 98 = .ok (.iload 5, 2) := by decide +kernel
theorem dX6_bribes_100 : decode cX6_bribes 100 = .ok (.aload_n 0, 1) := by decide +kernel
theorem dX6_bribes_101 : decode cX6_bribes 101 = .ok (.getfield 47, 3) := by decide +kernel
theorem dX6_bribes_104 : decode cX6_bribes 104 = .ok (.getfield 118, 3) := by decide +kernel
theorem dX6_bribes_107 : decode cX6_bribes 107 = .ok (.if_icmp .ge 59, 3) := by decide +kernel
theorem dX6_bribes_110 : decode cX6_bribes 110 = .ok (.aload_n 0, 1) := by decide +kernel
theorem dX6_bribes_111 : decode cX6_bribes 111 = .ok (.getfield 51, 3) := by decide +kernel
theorem dX6_bribes_114 : decode cX6_bribes 114 = .ok (.aload_n 0, 1) := by decide +kernel
theorem dX6_bribes_115 : decode cX6_bribes 115 = .ok (.getfield 47, 3) := by decide +kernel
theorem dX6_bribes_118 : decode cX6_bribes 118 = .ok (.invokevirtual 111, 3) := by decide +kernel
theorem dX6_bribes_121 : decode cX6_bribes 121 = .ok (.aload_n 0, 1) := by decide +kernel
theorem dX6_bribes_122 : decode cX6_bribes 122 = .ok (.getfield 51, 3) := by decide +kernel
theorem dX6_bribes_125 : decode cX6_bribes 125 = .ok (.dup, 1) := by decide +kernel
theorem dX6_bribes_126 : decode cX6_bribes 126 = .ok (.getfield 145, 3) := by decide +kernel
theorem dX6_bribes_129 : decode cX6_bribes 129 = .ok (.iconst 1, 1) := by decide +kernel
theorem dX6_bribes_130 : decode cX6_bribes 130 = .ok (.iload 5, 2) := by decide +kernel
theorem dX6_bribes_132 : decode cX6_bribes 132 = .ok (.ishl, 1) := by decide +kernel
theorem dX6_bribes_133 : decode cX6_bribes 133 = .ok (.ixor, 1) := by decide +kernel
theorem dX6_bribes_134 : decode cX6_bribes 134 = .ok (.putfield 145, 3) := by decide +kernel
theorem dX6_bribes_137 : decode cX6_bribes 137 = .ok (.aload_n 0, 1) := by decide +kernel
theorem dX6_bribes_138 : decode cX6_bribes 138 = .ok (.aload_n 0, 1) := by decide +kernel
theorem dX6_bribes_139 : decode cX6_bribes 139 = .ok (.getfield 51, 3) := by decide +kernel
theorem dX6_bribes_142 : decode cX6_bribes 142 = .ok (.iload_n 1, 1) := by decide +kernel
theorem dX6_bribes_143 : decode cX6_bribes 143 = .ok (.iload_n 2, 1) := by decide +kernel
theorem dX6_bribes_144 : decode cX6_bribes 144 = .ok (.iload_n 3, 1) := by decide +kernel
theorem dX6_bribes_145 : decode cX6_bribes 145 = .ok (.invokevirtual 212, 3) := by decide +kernel
theorem dX6_bribes_148 : decode cX6_bribes 148 = .ok (.ifCond .eq 12, 3) := by decide +kernel
theorem dX6_bribes_151 : decode cX6_bribes 151 = .ok (.iload 4, 2) := by decide +kernel
theorem dX6_bribes_153 : decode cX6_bribes 153 = .ok (.iconst 1, 1) := by decide +kernel
theorem dX6_bribes_154 : decode cX6_bribes 154 = .ok (.iload 5, 2) := by decide +kernel
theorem dX6_bribes_156 : decode cX6_bribes 156 = .ok (.ishl, 1) := by decide +kernel
theorem dX6_bribes_157 : decode cX6_bribes 157 = .ok (.ior, 1) := by decide +kernel
theorem dX6_bribes_158 : decode cX6_bribes 158 = .ok (.istore 4, 2) := by decide +kernel
theorem dX6_bribes_160 : decode cX6_bribes 160 = .ok (.iinc 5 1, 3) := by decide +kernel
theorem dX6_bribes_163 : decode cX6_bribes 163 = .ok (.goto (-65), 3) := by decide +kernel
theorem dX6_bribes_166 : decode cX6_bribes 166 = .ok (.aload_n 0, 1) := by decide +kernel
theorem dX6_bribes_167 : decode cX6_bribes 167 = .ok (.iload 4, 2) := by decide +kernel
theorem dX6_bribes_169 : decode cX6_bribes 169 = .ok (.invokevirtual 75, 3) := by decide +kernel
theorem dX6_bribes_172 : decode cX6_bribes 172 = .ok (.ireturn, 1) := by decide +kernel
set_option maxRecDepth 20000 in
theorem ggX6_fits_X2_has : GoodIn wsX6_fits wsX2_has := goodIn_r _ [12, 13, 108, 109, 110, 111, 112, 113, 114, 115, 116] (by decide +kernel) (by decide +kernel)
set_option maxRecDepth 20000 in
theorem gX6_fits_X2_has : GoodIn wsX6_fits (wsV RX6 139 RX2 yX2_has wsX2_has) := goodIn_app (goodIn_of _ (by decide +kernel)) ggX6_fits_X2_has
set_option maxRecDepth 20000 in
theorem ggX6_fits_X4_isRow : GoodIn wsX6_fits wsX4_isRow := goodIn_r _ [18] (by decide +kernel) (by decide +kernel)
set_option maxRecDepth 20000 in
theorem gX6_fits_X4_isRow : GoodIn wsX6_fits (wsV RX6 58 RX4 yX4_isRow wsX4_isRow) := goodIn_app (goodIn_of _ (by decide +kernel)) ggX6_fits_X4_isRow
set_option maxRecDepth 20000 in
theorem ggX6_fits_X6_isWithin : GoodIn wsX6_fits wsX6_isWithin := goodIn_r _ [22] (by decide +kernel) (by decide +kernel)
set_option maxRecDepth 20000 in
theorem gX6_fits_X6_isWithin : GoodIn wsX6_fits (va_wsS RX6 62 yX6_isWithin wsX6_isWithin) := goodIn_app (goodIn_of _ (by decide +kernel)) ggX6_fits_X6_isWithin
set_option maxRecDepth 20000 in
theorem ggX6_fits_X4_isMissing : GoodIn wsX6_fits wsX4_isMissing := goodIn_r _ [26, 27, 117, 118, 119] (by decide +kernel) (by decide +kernel)
set_option maxRecDepth 20000 in
theorem gX6_fits_X4_isMissing : GoodIn wsX6_fits (wsV RX6 78 RX4 yX4_isMissing wsX4_isMissing) := goodIn_app (goodIn_of _ (by decide +kernel)) ggX6_fits_X4_isMissing
set_option maxRecDepth 20000 in
theorem ggX6_fits_X6_found : GoodIn wsX6_fits wsX6_found := goodIn_r _ [31, 32, 33, 99, 100, 101, 102, 103, 104, 105, 106, 107] (by decide +kernel) (by decide +kernel)
set_option maxRecDepth 20000 in
theorem gX6_fits_X6_found : GoodIn wsX6_fits (wsV RX6 67 RX6 yX6_found wsX6_found) := goodIn_app (goodIn_of _ (by decide +kernel)) ggX6_fits_X6_found
set_option maxRecDepth 20000 in
theorem ggX6_fits_X4_hasPlaces : GoodIn wsX6_fits wsX4_hasPlaces := goodIn_r _ [37, 38, 117, 118, 119] (by decide +kernel) (by decide +kernel)
set_option maxRecDepth 20000 in
theorem gX6_fits_X4_hasPlaces : GoodIn wsX6_fits (wsV RX6 81 RX4 yX4_hasPlaces wsX4_hasPlaces) := goodIn_app (goodIn_of _ (by decide +kernel)) ggX6_fits_X4_hasPlaces
set_option maxRecDepth 20000 in
theorem ggX6_fits_X2_become : GoodIn wsX6_fits wsX2_become := goodIn_r _ [42, 43, 44, 45, 13, 46, 47, 48, 49, 50, 51, 52, 53, 54, 108, 109, 110, 111, 112, 113, 114, 115, 116] (by decide +kernel) (by decide +kernel)
set_option maxRecDepth 20000 in
theorem gX6_fits_X2_become : GoodIn wsX6_fits (wsV RX6 111 RX2 yX2_become wsX2_become) := goodIn_app (goodIn_of _ (by decide +kernel)) ggX6_fits_X2_become
set_option maxRecDepth 20000 in
theorem ggX6_fits_X6_isAsTold : GoodIn wsX6_fits wsX6_isAsTold := goodIn_r _ [58, 59, 2, 60, 61, 62, 11, 63, 64, 65, 66, 67, 13, 68, 69, 70, 71, 47, 44, 53, 54, 72, 73, 74, 75, 76, 77, 78, 79, 43, 80, 21, 81, 82, 83, 84, 85, 52, 86, 87, 88, 89, 46, 90, 91, 92, 17, 93, 94, 108, 109, 110, 111, 112, 113, 114, 115, 116, 99, 100, 101, 102, 103, 104, 105, 106, 107, 117, 118, 119] (by decide +kernel) (by decide +kernel)
set_option maxRecDepth 20000 in
theorem gX6_fits_X6_isAsTold : GoodIn wsX6_fits (wsV RX6 212 RX6 yX6_isAsTold wsX6_isAsTold) := goodIn_app (goodIn_of _ (by decide +kernel)) ggX6_fits_X6_isAsTold
set_option maxRecDepth 20000 in
theorem ggX6_fits_X6_sound : GoodIn wsX6_fits wsX6_sound := goodIn_r _ [98, 32, 99, 100, 101, 102, 103, 104, 105, 106, 107] (by decide +kernel) (by decide +kernel)
set_option maxRecDepth 20000 in
theorem gX6_fits_X6_sound : GoodIn wsX6_fits (wsV RX6 75 RX6 yX6_sound wsX6_sound) := goodIn_app (goodIn_of _ (by decide +kernel)) ggX6_fits_X6_sound
theorem dX6_fits_0 : decode cX6_fits 0 = .ok (.aload_n 0, 1) := by decide +kernel
theorem dX6_fits_1 : decode cX6_fits 1 = .ok (.getfield 47, 3) := by decide +kernel
theorem dX6_fits_4 : decode cX6_fits 4 = .ok (.iload_n 1, 1) := by decide +kernel
theorem dX6_fits_5 : decode cX6_fits 5 = .ok (.invokevirtual 139, 3) := by decide +kernel
theorem dX6_fits_8 : decode cX6_fits 8 = .ok (.ifCond .eq 35, 3) := by decide +kernel
theorem dX6_fits_11 : decode cX6_fits 11 = .ok (.aload_n 0, 1) := by decide +kernel
theorem dX6_fits_12 : decode cX6_fits 12 = .ok (.getfield 10, 3) := by decide +kernel
theorem dX6_fits_15 : decode cX6_fits 15 = .ok (.iload_n 2, 1) := by decide +kernel
theorem dX6_fits_16 : decode cX6_fits 16 = .ok (.invokevirtual 58, 3) := by decide +kernel
theorem dX6_fits_19 : decode cX6_fits 19 = .ok (.ifCond .eq 24, 3) := by decide +kernel
theorem dX6_fits_22 : decode cX6_fits 22 = .ok (.iload 4, 2) := by decide +kernel
theorem dX6_fits_24 : decode cX6_fits 24 = .ok (.iconst 1, 1) := by decide +kernel
theorem dX6_fits_25 : decode cX6_fits 25 = .ok (.bipush 16, 2) := by decide +kernel
theorem dX6_fits_27 : decode cX6_fits 27 = .ok (.invokestatic 62, 3) := by decide +kernel
theorem dX6_fits_30 : decode cX6_fits 30 = .ok (.ifCond .eq 13, 3) := by decide +kernel
theorem dX6_fits_33 : decode cX6_fits 33 = .ok (.iload 5, 2) := by decide +kernel
theorem dX6_fits_35 : decode cX6_fits 35 = .ok (.iconst 0, 1) := by decide +kernel
theorem dX6_fits_36 : decode cX6_fits 36 = .ok (.iconst 1, 1) := by decide +kernel
theorem dX6_fits_37 : decode cX6_fits 37 = .ok (.invokestatic 62, 3) := by decide +kernel
theorem dX6_fits_40 : decode cX6_fits 40 = .ok (.ifCond .ne 6, 3) := by decide +kernel
theorem dX6_fits_43 : decode cX6_fits 43 = .ok (.ldc 66, 2) := by decide +kernel
theorem dX6_fits_45 : decode cX6_fits 45 = .ok (.ireturn, 1) := by decide +kernel
theorem dX6_fits_46 : decode cX6_fits 46 = .ok (.aload_n 0, 1) := by decide +kernel
theorem dX6_fits_47 : decode cX6_fits 47 = .ok (.getfield 10, 3) := by decide +kernel
theorem dX6_fits_50 : decode cX6_fits 50 = .ok (.iload_n 2, 1) := by decide +kernel
theorem dX6_fits_51 : decode cX6_fits 51 = .ok (.invokevirtual 78, 3) := by decide +kernel
theorem dX6_fits_54 : decode cX6_fits 54 = .ok (.ifCond .eq 9, 3) := by decide +kernel
theorem dX6_fits_57 : decode cX6_fits 57 = .ok (.aload_n 0, 1) := by decide +kernel
theorem dX6_fits_58 : decode cX6_fits 58 = .ok (.iconst 1, 1) := by decide +kernel
theorem dX6_fits_59 : decode cX6_fits 59 = .ok (.invokevirtual 67, 3) := by decide +kernel
theorem dX6_fits_62 : decode cX6_fits 62 = .ok (.ireturn, 1) := by decide +kernel
theorem dX6_fits_63 : decode cX6_fits 63 = .ok (.aload_n 0, 1) := by decide +kernel
theorem dX6_fits_64 : decode cX6_fits 64 = .ok (.getfield 10, 3) := by decide +kernel
theorem dX6_fits_67 : decode cX6_fits 67 = .ok (.iload_n 2, 1) := by decide +kernel
theorem dX6_fits_68 : decode cX6_fits 68 = .ok (.iload_n 3, 1) := by decide +kernel
theorem dX6_fits_69 : decode cX6_fits 69 = .ok (.iload 4, 2) := by decide +kernel
theorem dX6_fits_71 : decode cX6_fits 71 = .ok (.invokevirtual 81, 3) := by decide +kernel
theorem dX6_fits_74 : decode cX6_fits 74 = .ok (.ifCond .ne 9, 3) := by decide +kernel
theorem dX6_fits_77 : decode cX6_fits 77 = .ok (.aload_n 0, 1) := by decide +kernel
theorem dX6_fits_78 : decode cX6_fits 78 = .ok (.iconst 2, 1) := by decide +kernel
theorem dX6_fits_79 : decode cX6_fits 79 = .ok (.invokevirtual 67, 3) := by decide +kernel
theorem dX6_fits_82 : decode cX6_fits 82 = .ok (.ireturn, 1) := by decide +kernel
theorem dX6_fits_83 : decode cX6_fits 83 = .ok (.aload_n 0, 1) := by decide +kernel
theorem dX6_fits_84 : decode cX6_fits 84 = .ok (.getfield 51, 3) := by decide +kernel
theorem dX6_fits_87 : decode cX6_fits 87 = .ok (.aload_n 0, 1) := by decide +kernel
theorem dX6_fits_88 : decode cX6_fits 88 = .ok (.getfield 47, 3) := by decide +kernel
theorem dX6_fits_91 : decode cX6_fits 91 = .ok (.invokevirtual 111, 3) := by decide +kernel
theorem dX6_fits_94 : decode cX6_fits 94 = .ok (.iconst 0, 1) := by decide +kernel
theorem dX6_fits_95 : decode cX6_fits 95 = .ok (.istore 6, 2) := by decide +kernel
theorem dX6_fits_97 : decode cX6_fits 97 = .ok (.iload 5, 2) := by decide +kernel
theorem dX6_fits_99 : decode cX6_fits 99 = .ok (.ifCond .ne 7, 3) := by decide +kernel
theorem dX6_fits_102 : decode cX6_fits 102 = .ok (.iconst 1, 1) := by decide +kernel
theorem dX6_fits_103 : decode cX6_fits 103 = .ok (.goto 4, 3) := by decide +kernel
theorem dX6_fits_106 : decode cX6_fits 106 = .ok (.iconst 0, 1) := by decide +kernel
theorem dX6_fits_107 : decode cX6_fits 107 = .ok (.istore 7, 2) := by decide +kernel
theorem dX6_fits_109 : decode cX6_fits 109 = .ok (.iload 5, 2) := by decide +kernel
theorem dX6_fits_111 : decode cX6_fits 111 = .ok (.ifCond .ne 7, 3) := by decide +kernel
theorem dX6_fits_114 : decode cX6_fits 114 = .ok (.iconst 5, 1) := by decide +kernel
theorem dX6_fits_115 : decode cX6_fits 115 = .ok (.goto 14, 3) := by decide +kernel
theorem dX6_fits_118 : decode cX6_fits 118 = .ok (.aload_n 0, 1) := by decide +kernel
theorem dX6_fits_119 : decode cX6_fits 119 = .ok (.getfield 47, 3) := by decide +kernel
theorem dX6_fits_122 : decode cX6_fits 122 = .ok (.getfield 155, 3) := by decide +kernel
theorem dX6_fits_125 : decode cX6_fits 125 = .ok (.iload_n 1, 1) := by decide +kernel
theorem dX6_fits_126 : decode cX6_fits 126 = .ok (.iaload, 1) := by decide +kernel
theorem dX6_fits_127 : decode cX6_fits 127 = .ok (.iconst 1, 1) := by decide +kernel
theorem dX6_fits_128 : decode cX6_fits 128 = .ok (.isub, 1) := by decide +kernel
theorem dX6_fits_129 : decode cX6_fits 129 = .ok (.istore 8, 2) := by decide +kernel
theorem dX6_fits_131 : decode cX6_fits 131 = .ok (.iload 7, 2) := by decide +kernel
theorem dX6_fits_133 : decode cX6_fits 133 = .ok (.istore 9, 2) := by decide +kernel
theorem dX6_fits_135 : decode cX6_fits 135 = .ok (.iload 9, 2) := by decide +kernel
theorem dX6_fits_137 : decode cX6_fits 137 = .ok (.iload 8, 2) := by decide +kernel
theorem dX6_fits_139 : decode cX6_fits 139 = .ok (.if_icmp .gt 63, 3) := by decide +kernel
theorem dX6_fits_142 : decode cX6_fits 142 = .ok (.iload 5, 2) := by decide +kernel
theorem dX6_fits_144 : decode cX6_fits 144 = .ok (.ifCond .ne 17, 3) := by decide +kernel
theorem dX6_fits_147 : decode cX6_fits 147 = .ok (.aload_n 0, 1) := by decide +kernel
theorem dX6_fits_148 : decode cX6_fits 148 = .ok (.getfield 51, 3) := by decide +kernel
theorem dX6_fits_151 : decode cX6_fits 151 = .ok (.getfield 216, 3) := by decide +kernel
theorem dX6_fits_154 : decode cX6_fits 154 = .ok (.iload_n 1, 1) := by decide +kernel
theorem dX6_fits_155 : decode cX6_fits 155 = .ok (.iload 9, 2) := by decide +kernel
theorem dX6_fits_157 : decode cX6_fits 157 = .ok (.iastore, 1) := by decide +kernel
theorem dX6_fits_158 : decode cX6_fits 158 = .ok (.goto 14, 3) := by decide +kernel
theorem dX6_fits_161 : decode cX6_fits 161 = .ok (.aload_n 0, 1) := by decide +kernel
theorem dX6_fits_162 : decode cX6_fits 162 = .ok (.getfield 51, 3) := by decide +kernel
theorem dX6_fits_165 : decode cX6_fits 165 = .ok (.getfield 158, 3) := by decide +kernel
theorem dX6_fits_168 : decode cX6_fits 168 = .ok (.iload_n 1, 1) := by decide +kernel
theorem dX6_fits_169 : decode cX6_fits 169 = .ok (.iload 9, 2) := by decide +kernel
theorem dX6_fits_171 : decode cX6_fits 171 = .ok (.iastore, 1) := by decide +kernel
theorem dX6_fits_172 : decode cX6_fits 172 = .ok (.aload_n 0, 1) := by decide +kernel
theorem dX6_fits_173 : decode cX6_fits 173 = .ok (.aload_n 0, 1) := by decide +kernel
theorem dX6_fits_174 : decode cX6_fits 174 = .ok (.getfield 51, 3) := by decide +kernel
theorem dX6_fits_177 : decode cX6_fits 177 = .ok (.iload_n 2, 1) := by decide +kernel
theorem dX6_fits_178 : decode cX6_fits 178 = .ok (.iload_n 3, 1) := by decide +kernel
theorem dX6_fits_179 : decode cX6_fits 179 = .ok (.iload 4, 2) := by decide +kernel
theorem dX6_fits_181 : decode cX6_fits 181 = .ok (.invokevirtual 212, 3) := by decide +kernel
theorem dX6_fits_184 : decode cX6_fits 184 = .ok (.ifCond .eq 12, 3) := by decide +kernel
theorem dX6_fits_187 : decode cX6_fits 187 = .ok (.iload 6, 2) := by decide +kernel
theorem dX6_fits_189 : decode cX6_fits 189 = .ok (.iconst 1, 1) := by decide +kernel
theorem dX6_fits_190 : decode cX6_fits 190 = .ok (.iload 9, 2) := by decide +kernel
theorem dX6_fits_192 : decode cX6_fits 192 = .ok (.ishl, 1) := by decide +kernel
theorem dX6_fits_193 : decode cX6_fits 193 = .ok (.ior, 1) := by decide +kernel
theorem dX6_fits_194 : decode cX6_fits 194 = .ok (.istore 6, 2) := by decide +kernel
theorem dX6_fits_196 : decode cX6_fits 196 = .ok (.iinc 9 1, 3) := by decide +kernel
theorem dX6_fits_199 : decode cX6_fits 199 = .ok (.goto (-64), 3) := by decide +kernel
theorem dX6_fits_202 : decode cX6_fits 202 = .ok (.aload_n 0, 1) := by decide +kernel
theorem dX6_fits_203 : decode cX6_fits 203 = .ok (.iload 6, 2) := by decide +kernel
theorem dX6_fits_205 : decode cX6_fits 205 = .ok (.invokevirtual 75, 3) := by decide +kernel
theorem dX6_fits_208 : decode cX6_fits 208 = .ok (.ireturn, 1) := by decide +kernel
set_option maxRecDepth 20000 in
theorem ggX6_strike_X2_stands : GoodIn wsX6_strike wsX2_stands := goodIn_r _ [13, 14, 87, 88, 89, 90, 91, 92, 93, 94, 95] (by decide +kernel) (by decide +kernel)
set_option maxRecDepth 20000 in
theorem gX6_strike_X2_stands : GoodIn wsX6_strike (wsV RX6 126 RX2 yX2_stands wsX2_stands) := goodIn_app (goodIn_of _ (by decide +kernel)) ggX6_strike_X2_stands
set_option maxRecDepth 20000 in
theorem ggX6_strike_X6_isWithin : GoodIn wsX6_strike wsX6_isWithin := goodIn_r _ [18] (by decide +kernel) (by decide +kernel)
set_option maxRecDepth 20000 in
theorem gX6_strike_X6_isWithin : GoodIn wsX6_strike (va_wsS RX6 62 yX6_isWithin wsX6_isWithin) := goodIn_app (goodIn_of _ (by decide +kernel)) ggX6_strike_X6_isWithin
set_option maxRecDepth 20000 in
theorem ggX6_strike_X2_workersOn : GoodIn wsX6_strike wsX2_workersOn := goodIn_r _ [22, 23, 24, 25, 26, 12, 27, 28, 29, 30, 31, 87, 88, 89, 90, 91, 92, 93, 94, 95] (by decide +kernel) (by decide +kernel)
set_option maxRecDepth 20000 in
theorem gX6_strike_X2_workersOn : GoodIn wsX6_strike (wsV RX6 174 RX2 yX2_workersOn wsX2_workersOn) := goodIn_app (goodIn_of _ (by decide +kernel)) ggX6_strike_X2_workersOn
set_option maxRecDepth 20000 in
theorem ggX6_strike_X2_tenthsSure : GoodIn wsX6_strike wsX2_tenthsSure := goodIn_r _ [35, 36, 37, 38, 39, 12, 40, 23, 41, 42, 43, 44, 14, 45, 17, 46, 47, 48, 49, 50, 51, 28, 52, 53, 54, 55, 56, 57, 58, 59, 60, 61, 62, 63, 64, 65, 66, 67, 68, 69, 70, 71, 72, 73, 87, 88, 89, 90, 91, 92, 93, 94, 95] (by decide +kernel) (by decide +kernel)
set_option maxRecDepth 20000 in
theorem gX6_strike_X2_tenthsSure : GoodIn wsX6_strike (wsV RX6 219 RX2 yX2_tenthsSure wsX2_tenthsSure) := goodIn_app (goodIn_of _ (by decide +kernel)) ggX6_strike_X2_tenthsSure
set_option maxRecDepth 20000 in
theorem ggX6_strike_J6_bitCount_0f7a4 : GoodIn wsX6_strike wsJ6_bitCount_0f7a4 := goodIn_r _ [63, 64, 65, 66] (by decide +kernel) (by decide +kernel)
set_option maxRecDepth 20000 in
theorem gX6_strike_J6_bitCount_0f7a4 : GoodIn wsX6_strike (va_wsS RX6 180 yJ6_bitCount_0f7a4 wsJ6_bitCount_0f7a4) := goodIn_app (goodIn_of _ (by decide +kernel)) ggX6_strike_J6_bitCount_0f7a4
set_option maxRecDepth 20000 in
theorem ggX6_strike_X6_power : GoodIn wsX6_strike wsX6_power := goodIn_r _ [73] (by decide +kernel) (by decide +kernel)
set_option maxRecDepth 20000 in
theorem gX6_strike_X6_power : GoodIn wsX6_strike (va_wsS RX6 222 yX6_power wsX6_power) := goodIn_app (goodIn_of _ (by decide +kernel)) ggX6_strike_X6_power
set_option maxRecDepth 20000 in
theorem ggX6_strike_X6_greatestDivisor : GoodIn wsX6_strike wsX6_greatestDivisor := goodIn_r _ [77] (by decide +kernel) (by decide +kernel)
set_option maxRecDepth 20000 in
theorem gX6_strike_X6_greatestDivisor : GoodIn wsX6_strike (va_wsS RX6 225 yX6_greatestDivisor wsX6_greatestDivisor) := goodIn_app (goodIn_of _ (by decide +kernel)) ggX6_strike_X6_greatestDivisor
theorem dX6_strike_0 : decode cX6_strike 0 = .ok (.aload_n 0, 1) := by decide +kernel
theorem dX6_strike_1 : decode cX6_strike 1 = .ok (.getfield 47, 3) := by decide +kernel
theorem dX6_strike_4 : decode cX6_strike 4 = .ok (.invokevirtual 126, 3) := by decide +kernel
theorem dX6_strike_7 : decode cX6_strike 7 = .ok (.ifCond .ne 6, 3) := by decide +kernel
theorem dX6_strike_10 : decode cX6_strike 10 = .ok (.ldc 129, 2) := by decide +kernel
theorem dX6_strike_12 : decode cX6_strike 12 = .ok (.ireturn, 1) := by decide +kernel
theorem dX6_strike_13 : decode cX6_strike 13 = .ok (.iload_n 1, 1) := by decide +kernel
theorem dX6_strike_14 : decode cX6_strike 14 = .ok (.iconst 0, 1) := by decide +kernel
theorem dX6_strike_15 : decode cX6_strike 15 = .ok (.bipush 99, 2) := by decide +kernel
theorem dX6_strike_17 : decode cX6_strike 17 = .ok (.invokestatic 62, 3) := by decide +kernel
theorem dX6_strike_20 : decode cX6_strike 20 = .ok (.ifCond .eq 22, 3) := by decide +kernel
theorem dX6_strike_23 : decode cX6_strike 23 = .ok (.iload_n 2, 1) := by decide +kernel
theorem dX6_strike_24 : decode cX6_strike 24 = .ok (.iconst 0, 1) := by decide +kernel
theorem dX6_strike_25 : decode cX6_strike 25 = .ok (.bipush 10, 2) := by decide +kernel
theorem dX6_strike_27 : decode cX6_strike 27 = .ok (.invokestatic 62, 3) := by decide +kernel
theorem dX6_strike_30 : decode cX6_strike 30 = .ok (.ifCond .eq 12, 3) := by decide +kernel
theorem dX6_strike_33 : decode cX6_strike 33 = .ok (.iload_n 3, 1) := by decide +kernel
theorem dX6_strike_34 : decode cX6_strike 34 = .ok (.iconst 0, 1) := by decide +kernel
theorem dX6_strike_35 : decode cX6_strike 35 = .ok (.iconst 1, 1) := by decide +kernel
theorem dX6_strike_36 : decode cX6_strike 36 = .ok (.invokestatic 62, 3) := by decide +kernel
theorem dX6_strike_39 : decode cX6_strike 39 = .ok (.ifCond .ne 6, 3) := by decide +kernel
theorem dX6_strike_42 : decode cX6_strike 42 = .ok (.ldc 66, 2) := by decide +kernel
theorem dX6_strike_44 : decode cX6_strike 44 = .ok (.ireturn, 1) := by decide +kernel
theorem dX6_strike_45 : decode cX6_strike 45 = .ok (.aload_n 0, 1) := by decide +kernel
theorem dX6_strike_46 : decode cX6_strike 46 = .ok (.getfield 47, 3) := by decide +kernel
theorem dX6_strike_49 : decode cX6_strike 49 = .ok (.aload_n 0, 1) := by decide +kernel
theorem dX6_strike_50 : decode cX6_strike 50 = .ok (.getfield 47, 3) := by decide +kernel
theorem dX6_strike_53 : decode cX6_strike 53 = .ok (.getfield 130, 3) := by decide +kernel
theorem dX6_strike_56 : decode cX6_strike 56 = .ok (.iload_n 1, 1) := by decide +kernel
theorem dX6_strike_57 : decode cX6_strike 57 = .ok (.iadd, 1) := by decide +kernel
theorem dX6_strike_58 : decode cX6_strike 58 = .ok (.invokevirtual 174, 3) := by decide +kernel
theorem dX6_strike_61 : decode cX6_strike 61 = .ok (.istore 4, 2) := by decide +kernel
theorem dX6_strike_63 : decode cX6_strike 63 = .ok (.aload_n 0, 1) := by decide +kernel
theorem dX6_strike_64 : decode cX6_strike 64 = .ok (.getfield 47, 3) := by decide +kernel
theorem dX6_strike_67 : decode cX6_strike 67 = .ok (.iload 4, 2) := by decide +kernel
theorem dX6_strike_69 : decode cX6_strike 69 = .ok (.iload_n 2, 1) := by decide +kernel
theorem dX6_strike_70 : decode cX6_strike 70 = .ok (.invokevirtual 219, 3) := by decide +kernel
theorem dX6_strike_73 : decode cX6_strike 73 = .ok (.istore 5, 2) := by decide +kernel
theorem dX6_strike_75 : decode cX6_strike 75 = .ok (.bipush 10, 2) := by decide +kernel
theorem dX6_strike_77 : decode cX6_strike 77 = .ok (.iload 4, 2) := by decide +kernel
theorem dX6_strike_79 : decode cX6_strike 79 = .ok (.invokestatic 180, 3) := by decide +kernel
theorem dX6_strike_82 : decode cX6_strike 82 = .ok (.invokestatic 222, 3) := by decide +kernel
theorem dX6_strike_85 : decode cX6_strike 85 = .ok (.istore 6, 2) := by decide +kernel
theorem dX6_strike_87 : decode cX6_strike 87 = .ok (.iconst 1, 1) := by decide +kernel
theorem dX6_strike_88 : decode cX6_strike 88 = .ok (.iload 5, 2) := by decide +kernel
theorem dX6_strike_90 : decode cX6_strike 90 = .ok (.iload 6, 2) := by decide +kernel
theorem dX6_strike_92 : decode cX6_strike 92 = .ok (.invokestatic 225, 3) := by decide +kernel
theorem dX6_strike_95 : decode cX6_strike 95 = .ok (.invokestatic 228, 3) := by decide +kernel
theorem dX6_strike_98 : decode cX6_strike 98 = .ok (.istore 7, 2) := by decide +kernel
theorem dX6_strike_100 : decode cX6_strike 100 = .ok (.iload_n 3, 1) := by decide +kernel
theorem dX6_strike_101 : decode cX6_strike 101 = .ok (.ifCond .ne 8, 3) := by decide +kernel
theorem dX6_strike_104 : decode cX6_strike 104 = .ok (.iload 5, 2) := by decide +kernel
theorem dX6_strike_106 : decode cX6_strike 106 = .ok (.goto 5, 3) := by decide +kernel
theorem dX6_strike_109 : decode cX6_strike 109 = .ok (.iload 6, 2) := by decide +kernel
theorem dX6_strike_111 : decode cX6_strike 111 = .ok (.iload 7, 2) := by decide +kernel
theorem dX6_strike_113 : decode cX6_strike 113 = .ok (.idiv, 1) := by decide +kernel
theorem dX6_strike_114 : decode cX6_strike 114 = .ok (.ireturn, 1) := by decide +kernel
set_option maxRecDepth 20000 in
theorem ggX6_drawn_X2_stands : GoodIn wsX6_drawn wsX2_stands := goodIn_r _ [18, 19, 84, 85, 86, 87, 88, 89, 90, 91, 92] (by decide +kernel) (by decide +kernel)
set_option maxRecDepth 20000 in
theorem gX6_drawn_X2_stands : GoodIn wsX6_drawn (wsV RX6 126 RX2 yX2_stands wsX2_stands) := goodIn_app (goodIn_of _ (by decide +kernel)) ggX6_drawn_X2_stands
set_option maxRecDepth 20000 in
theorem ggX6_drawn_X6_isWithin : GoodIn wsX6_drawn wsX6_isWithin := goodIn_r _ [23] (by decide +kernel) (by decide +kernel)
set_option maxRecDepth 20000 in
theorem gX6_drawn_X6_isWithin : GoodIn wsX6_drawn (va_wsS RX6 62 yX6_isWithin wsX6_isWithin) := goodIn_app (goodIn_of _ (by decide +kernel)) ggX6_drawn_X6_isWithin
set_option maxRecDepth 20000 in
theorem ggX6_drawn_X2_leftOn : GoodIn wsX6_drawn wsX2_leftOn := goodIn_r _ [27, 28, 29, 30, 17, 31, 32, 33, 34, 35, 36, 37, 38, 39, 40, 41, 42, 43, 44, 45, 46, 47, 48, 19, 49, 22, 50, 51, 52, 53, 54, 55, 56, 57, 58, 59, 60, 84, 85, 86, 87, 88, 89, 90, 91, 92] (by decide +kernel) (by decide +kernel)
set_option maxRecDepth 20000 in
theorem gX6_drawn_X2_leftOn : GoodIn wsX6_drawn (wsV RX6 136 RX2 yX2_leftOn wsX2_leftOn) := goodIn_app (goodIn_of _ (by decide +kernel)) ggX6_drawn_X2_leftOn
set_option maxRecDepth 20000 in
theorem ggX6_drawn_X6_onlyOne : GoodIn wsX6_drawn wsX6_onlyOne := goodIn_r _ [63, 13, 64, 65, 66, 67, 68, 69, 70, 71, 72, 73, 74] (by decide +kernel) (by decide +kernel)
set_option maxRecDepth 20000 in
theorem gX6_drawn_X6_onlyOne : GoodIn wsX6_drawn (va_wsS RX6 177 yX6_onlyOne wsX6_onlyOne) := goodIn_app (goodIn_of _ (by decide +kernel)) ggX6_drawn_X6_onlyOne
theorem dX6_drawn_0 : decode cX6_drawn 0 = .ok (.aload_n 0, 1) := by decide +kernel
theorem dX6_drawn_1 : decode cX6_drawn 1 = .ok (.getfield 47, 3) := by decide +kernel
theorem dX6_drawn_4 : decode cX6_drawn 4 = .ok (.invokevirtual 126, 3) := by decide +kernel
theorem dX6_drawn_7 : decode cX6_drawn 7 = .ok (.ifCond .ne 6, 3) := by decide +kernel
theorem dX6_drawn_10 : decode cX6_drawn 10 = .ok (.ldc 129, 2) := by decide +kernel
theorem dX6_drawn_12 : decode cX6_drawn 12 = .ok (.ireturn, 1) := by decide +kernel
theorem dX6_drawn_13 : decode cX6_drawn 13 = .ok (.iload_n 1, 1) := by decide +kernel
theorem dX6_drawn_14 : decode cX6_drawn 14 = .ok (.iconst 0, 1) := by decide +kernel
theorem dX6_drawn_15 : decode cX6_drawn 15 = .ok (.bipush 60, 2) := by decide +kernel
theorem dX6_drawn_17 : decode cX6_drawn 17 = .ok (.invokestatic 62, 3) := by decide +kernel
theorem dX6_drawn_20 : decode cX6_drawn 20 = .ok (.ifCond .eq 22, 3) := by decide +kernel
theorem dX6_drawn_23 : decode cX6_drawn 23 = .ok (.iload_n 2, 1) := by decide +kernel
theorem dX6_drawn_24 : decode cX6_drawn 24 = .ok (.iconst 1, 1) := by decide +kernel
theorem dX6_drawn_25 : decode cX6_drawn 25 = .ok (.ldc 233, 2) := by decide +kernel
theorem dX6_drawn_27 : decode cX6_drawn 27 = .ok (.invokestatic 62, 3) := by decide +kernel
theorem dX6_drawn_30 : decode cX6_drawn 30 = .ok (.ifCond .eq 12, 3) := by decide +kernel
theorem dX6_drawn_33 : decode cX6_drawn 33 = .ok (.iload_n 3, 1) := by decide +kernel
theorem dX6_drawn_34 : decode cX6_drawn 34 = .ok (.iconst 0, 1) := by decide +kernel
theorem dX6_drawn_35 : decode cX6_drawn 35 = .ok (.iconst 1, 1) := by decide +kernel
theorem dX6_drawn_36 : decode cX6_drawn 36 = .ok (.invokestatic 62, 3) := by decide +kernel
theorem dX6_drawn_39 : decode cX6_drawn 39 = .ok (.ifCond .ne 6, 3) := by decide +kernel
theorem dX6_drawn_42 : decode cX6_drawn 42 = .ok (.ldc 66, 2) := by decide +kernel
theorem dX6_drawn_44 : decode cX6_drawn 44 = .ok (.ireturn, 1) := by decide +kernel
theorem dX6_drawn_45 : decode cX6_drawn 45 = .ok (.iload_n 2, 1) := by decide +kernel
theorem dX6_drawn_46 : decode cX6_drawn 46 = .ok (.i2l, 1) := by decide +kernel
theorem dX6_drawn_47 : decode cX6_drawn 47 = .ok (.lstore 4, 2) := by decide +kernel
theorem dX6_drawn_49 : decode cX6_drawn 49 = .ok (.iconst 0, 1) := by decide +kernel
theorem dX6_drawn_50 : decode cX6_drawn 50 = .ok (.istore 6, 2) := by decide +kernel
theorem dX6_drawn_52 : decode cX6_drawn 52 = .ok (.iconst 0, 1) := by decide +kernel
theorem dX6_drawn_53 : decode cX6_drawn 53 = .ok (.istore 7, 2) := by decide +kernel
theorem dX6_drawn_55 : decode cX6_drawn 55 = .ok (.iload 7, 2) := by decide +kernel
theorem dX6_drawn_57 : decode cX6_drawn 57 = .ok (.iload_n 1, 1) := by decide +kernel
theorem dX6_drawn_58 : decode cX6_drawn 58 = .ok (.if_icmp .ge 95, 3) := by decide +kernel
theorem dX6_drawn_61 : decode cX6_drawn 61 = .ok (.lload 4, 2) := by decide +kernel
theorem dX6_drawn_63 : decode cX6_drawn 63 = .ok (.ldc2_w 234, 3) := by decide +kernel
theorem dX6_drawn_66 : decode cX6_drawn 66 = .ok (.lmul, 1) := by decide +kernel
theorem dX6_drawn_67 : decode cX6_drawn 67 = .ok (.ldc2_w 236, 3) := by decide +kernel
theorem dX6_drawn_70 : decode cX6_drawn 70 = .ok (.lrem, 1) := by decide +kernel
theorem dX6_drawn_71 : decode cX6_drawn 71 = .ok (.lstore 4, 2) := by decide +kernel
theorem dX6_drawn_73 : decode cX6_drawn 73 = .ok (.lload 4, 2) := by decide +kernel
theorem dX6_drawn_75 : decode cX6_drawn 75 = .ok (.iconst 1, 1) := by decide +kernel
theorem dX6_drawn_76 : decode cX6_drawn 76 = .ok (.aload_n 0, 1) := by decide +kernel
theorem dX6_drawn_77 : decode cX6_drawn 77 = .ok (.getfield 47, 3) := by decide +kernel
theorem dX6_drawn_80 : decode cX6_drawn 80 = .ok (.getfield 196, 3) := by decide +kernel
theorem dX6_drawn_83 : decode cX6_drawn 83 = .ok (.invokestatic 228, 3) := by decide +kernel
theorem dX6_drawn_86 : decode cX6_drawn 86 = .ok (.i2l, 1) := by decide +kernel
theorem dX6_drawn_87 : decode cX6_drawn 87 = .ok (.lrem, 1) := by decide +kernel
theorem dX6_drawn_88 : decode cX6_drawn 88 = .ok (.l2i, 1) := by decide +kernel
theorem dX6_drawn_89 : decode cX6_drawn 89 = .ok (.istore 8, 2) := by decide +kernel
theorem dX6_drawn_91 : decode cX6_drawn 91 = .ok (.aload_n 0, 1) := by decide +kernel
theorem dX6_drawn_92 : decode cX6_drawn 92 = .ok (.getfield 47, 3) := by decide +kernel
theorem dX6_drawn_95 : decode cX6_drawn 95 = .ok (.aload_n 0, 1) := by decide +kernel
theorem dX6_drawn_96 : decode cX6_drawn 96 = .ok (.getfield 47, 3) := by decide +kernel
theorem dX6_drawn_99 : decode cX6_drawn 99 = .ok (.getfield 130, 3) := by decide +kernel
theorem dX6_drawn_102 : decode cX6_drawn 102 = .ok (.iload 7, 2) := by decide +kernel
theorem dX6_drawn_104 : decode cX6_drawn 104 = .ok (.iadd, 1) := by decide +kernel
theorem dX6_drawn_105 : decode cX6_drawn 105 = .ok (.invokevirtual 136, 3) := by decide +kernel
theorem dX6_drawn_108 : decode cX6_drawn 108 = .ok (.invokestatic 177, 3) := by decide +kernel
theorem dX6_drawn_111 : decode cX6_drawn 111 = .ok (.istore 9, 2) := by decide +kernel
theorem dX6_drawn_113 : decode cX6_drawn 113 = .ok (.iload 9, 2) := by decide +kernel
theorem dX6_drawn_115 : decode cX6_drawn 115 = .ok (.ldc 185, 2) := by decide +kernel
theorem dX6_drawn_117 : decode cX6_drawn 117 = .ok (.if_icmp .eq 30, 3) := by decide +kernel
theorem dX6_drawn_120 : decode cX6_drawn 120 = .ok (.iload 9, 2) := by decide +kernel
theorem dX6_drawn_122 : decode cX6_drawn 122 = .ok (.iload 8, 2) := by decide +kernel
theorem dX6_drawn_124 : decode cX6_drawn 124 = .ok (.if_icmp .ne 7, 3) := by decide +kernel
theorem dX6_drawn_127 : decode cX6_drawn 127 = .ok (.iconst 1, 1) := by decide +kernel
theorem dX6_drawn_128 : decode cX6_drawn 128 = .ok (.goto 4, 3) := by decide +kernel
theorem dX6_drawn_131 : decode cX6_drawn 131 = .ok (.iconst 0, 1) := by decide +kernel
theorem dX6_drawn_132 : decode cX6_drawn 132 = .ok (.iload_n 3, 1) := by decide +kernel
theorem dX6_drawn_133 : decode cX6_drawn 133 = .ok (.ifCond .ne 7, 3) := by decide +kernel
theorem dX6_drawn_136 : decode cX6_drawn 136 = .ok (.iconst 1, 1) := by decide +kernel
theorem dX6_drawn_137 : decode cX6_drawn 137 = .ok (.goto 4, 3) := by decide +kernel
theorem dX6_drawn_140 : decode cX6_drawn 140 = .ok (.iconst 0, 1) := by decide +kernel
theorem dX6_drawn_141 : decode cX6_drawn 141 = .ok (.if_icmp .ne 6, 3) := by decide +kernel
theorem dX6_drawn_144 : decode cX6_drawn 144 = .ok (.iinc 6 1, 3) := by decide +kernel
theorem dX6_drawn_147 : decode cX6_drawn 147 = .ok (.iinc 7 1, 3) := by decide +kernel
theorem dX6_drawn_150 : decode cX6_drawn 150 = .ok (.goto (-95), 3) := by decide +kernel
theorem dX6_drawn_153 : decode cX6_drawn 153 = .ok (.iload 6, 2) := by decide +kernel
theorem dX6_drawn_155 : decode cX6_drawn 155 = .ok (.ireturn, 1) := by decide +kernel
set_option maxRecDepth 20000 in
theorem ggX6_image_X6_isWithin : GoodIn wsX6_image wsX6_isWithin := goodIn_r _ [8] (by decide +kernel) (by decide +kernel)
set_option maxRecDepth 20000 in
theorem gX6_image_X6_isWithin : GoodIn wsX6_image (va_wsS RX6 62 yX6_isWithin wsX6_isWithin) := goodIn_app (goodIn_of _ (by decide +kernel)) ggX6_image_X6_isWithin
set_option maxRecDepth 20000 in
theorem ggX6_image_X2_stands : GoodIn wsX6_image wsX2_stands := goodIn_r _ [13, 14, 40, 41, 42, 43, 44, 45, 46, 47, 48] (by decide +kernel) (by decide +kernel)
set_option maxRecDepth 20000 in
theorem gX6_image_X2_stands : GoodIn wsX6_image (wsV RX6 126 RX2 yX2_stands wsX2_stands) := goodIn_app (goodIn_of _ (by decide +kernel)) ggX6_image_X2_stands
set_option maxRecDepth 20000 in
theorem ggX6_image_X2_become : GoodIn wsX6_image wsX2_become := goodIn_r _ [18, 14, 19, 20, 21, 22, 23, 24, 25, 26, 27, 28, 29, 30, 40, 41, 42, 43, 44, 45, 46, 47, 48] (by decide +kernel) (by decide +kernel)
set_option maxRecDepth 20000 in
theorem gX6_image_X2_become : GoodIn wsX6_image (wsV RX6 111 RX2 yX2_become wsX2_become) := goodIn_app (goodIn_of _ (by decide +kernel)) ggX6_image_X2_become
theorem dX6_image_0 : decode cX6_image 0 = .ok (.iload_n 1, 1) := by decide +kernel
theorem dX6_image_1 : decode cX6_image 1 = .ok (.iconst 0, 1) := by decide +kernel
theorem dX6_image_2 : decode cX6_image 2 = .ok (.aload_n 0, 1) := by decide +kernel
theorem dX6_image_3 : decode cX6_image 3 = .ok (.getfield 54, 3) := by decide +kernel
theorem dX6_image_6 : decode cX6_image 6 = .ok (.arraylength, 1) := by decide +kernel
theorem dX6_image_7 : decode cX6_image 7 = .ok (.iconst 1, 1) := by decide +kernel
theorem dX6_image_8 : decode cX6_image 8 = .ok (.isub, 1) := by decide +kernel
theorem dX6_image_9 : decode cX6_image 9 = .ok (.invokestatic 62, 3) := by decide +kernel
theorem dX6_image_12 : decode cX6_image 12 = .ok (.ifCond .ne 6, 3) := by decide +kernel
theorem dX6_image_15 : decode cX6_image 15 = .ok (.ldc 66, 2) := by decide +kernel
theorem dX6_image_17 : decode cX6_image 17 = .ok (.ireturn, 1) := by decide +kernel
theorem dX6_image_18 : decode cX6_image 18 = .ok (.aload_n 0, 1) := by decide +kernel
theorem dX6_image_19 : decode cX6_image 19 = .ok (.getfield 47, 3) := by decide +kernel
theorem dX6_image_22 : decode cX6_image 22 = .ok (.invokevirtual 126, 3) := by decide +kernel
theorem dX6_image_25 : decode cX6_image 25 = .ok (.ifCond .ne 6, 3) := by decide +kernel
theorem dX6_image_28 : decode cX6_image 28 = .ok (.ldc 129, 2) := by decide +kernel
theorem dX6_image_30 : decode cX6_image 30 = .ok (.ireturn, 1) := by decide +kernel
theorem dX6_image_31 : decode cX6_image 31 = .ok (.aload_n 0, 1) := by decide +kernel
theorem dX6_image_32 : decode cX6_image 32 = .ok (.getfield 54, 3) := by decide +kernel
theorem dX6_image_35 : decode cX6_image 35 = .ok (.iload_n 1, 1) := by decide +kernel
theorem dX6_image_36 : decode cX6_image 36 = .ok (.aaload, 1) := by decide +kernel
theorem dX6_image_37 : decode cX6_image 37 = .ok (.aload_n 0, 1) := by decide +kernel
theorem dX6_image_38 : decode cX6_image 38 = .ok (.getfield 47, 3) := by decide +kernel
theorem dX6_image_41 : decode cX6_image 41 = .ok (.invokevirtual 111, 3) := by decide +kernel
theorem dX6_image_44 : decode cX6_image 44 = .ok (.iconst 1, 1) := by decide +kernel
theorem dX6_image_45 : decode cX6_image 45 = .ok (.ireturn, 1) := by decide +kernel
set_option maxRecDepth 20000 in
theorem ggX6_restore_X6_isWithin : GoodIn wsX6_restore wsX6_isWithin := goodIn_r _ [9] (by decide +kernel) (by decide +kernel)
set_option maxRecDepth 20000 in
theorem gX6_restore_X6_isWithin : GoodIn wsX6_restore (va_wsS RX6 62 yX6_isWithin wsX6_isWithin) := goodIn_app (goodIn_of _ (by decide +kernel)) ggX6_restore_X6_isWithin
set_option maxRecDepth 20000 in
theorem ggX6_restore_X2_stands : GoodIn wsX6_restore wsX2_stands := goodIn_r _ [14, 15, 47, 48, 49, 50, 51, 52, 53, 54, 55] (by decide +kernel) (by decide +kernel)
set_option maxRecDepth 20000 in
theorem gX6_restore_X2_stands : GoodIn wsX6_restore (wsV RX6 126 RX2 yX2_stands wsX2_stands) := goodIn_app (goodIn_of _ (by decide +kernel)) ggX6_restore_X2_stands
set_option maxRecDepth 20000 in
theorem ggX6_restore_X2_become : GoodIn wsX6_restore wsX2_become := goodIn_r _ [19, 15, 20, 21, 22, 23, 24, 25, 26, 27, 28, 29, 30, 31, 47, 48, 49, 50, 51, 52, 53, 54, 55] (by decide +kernel) (by decide +kernel)
set_option maxRecDepth 20000 in
theorem gX6_restore_X2_become : GoodIn wsX6_restore (wsV RX6 111 RX2 yX2_become wsX2_become) := goodIn_app (goodIn_of _ (by decide +kernel)) ggX6_restore_X2_become
set_option maxRecDepth 20000 in
theorem ggX6_restore_X0_forgetAll : GoodIn wsX6_restore wsX0_forgetAll := goodIn_r _ [36, 37, 56, 57, 58, 59, 60] (by decide +kernel) (by decide +kernel)
set_option maxRecDepth 20000 in
theorem gX6_restore_X0_forgetAll : GoodIn wsX6_restore (wsV RX6 115 RX0 yX0_forgetAll wsX0_forgetAll) := goodIn_app (goodIn_of _ (by decide +kernel)) ggX6_restore_X0_forgetAll
theorem dX6_restore_0 : decode cX6_restore 0 = .ok (.iload_n 1, 1) := by decide +kernel
theorem dX6_restore_1 : decode cX6_restore 1 = .ok (.iconst 0, 1) := by decide +kernel
theorem dX6_restore_2 : decode cX6_restore 2 = .ok (.aload_n 0, 1) := by decide +kernel
theorem dX6_restore_3 : decode cX6_restore 3 = .ok (.getfield 54, 3) := by decide +kernel
theorem dX6_restore_6 : decode cX6_restore 6 = .ok (.arraylength, 1) := by decide +kernel
theorem dX6_restore_7 : decode cX6_restore 7 = .ok (.iconst 1, 1) := by decide +kernel
theorem dX6_restore_8 : decode cX6_restore 8 = .ok (.isub, 1) := by decide +kernel
theorem dX6_restore_9 : decode cX6_restore 9 = .ok (.invokestatic 62, 3) := by decide +kernel
theorem dX6_restore_12 : decode cX6_restore 12 = .ok (.ifCond .ne 6, 3) := by decide +kernel
theorem dX6_restore_15 : decode cX6_restore 15 = .ok (.ldc 66, 2) := by decide +kernel
theorem dX6_restore_17 : decode cX6_restore 17 = .ok (.ireturn, 1) := by decide +kernel
theorem dX6_restore_18 : decode cX6_restore 18 = .ok (.aload_n 0, 1) := by decide +kernel
theorem dX6_restore_19 : decode cX6_restore 19 = .ok (.getfield 54, 3) := by decide +kernel
theorem dX6_restore_22 : decode cX6_restore 22 = .ok (.iload_n 1, 1) := by decide +kernel
theorem dX6_restore_23 : decode cX6_restore 23 = .ok (.aaload, 1) := by decide +kernel
theorem dX6_restore_24 : decode cX6_restore 24 = .ok (.invokevirtual 126, 3) := by decide +kernel
theorem dX6_restore_27 : decode cX6_restore 27 = .ok (.ifCond .ne 6, 3) := by decide +kernel
theorem dX6_restore_30 : decode cX6_restore 30 = .ok (.ldc 129, 2) := by decide +kernel
theorem dX6_restore_32 : decode cX6_restore 32 = .ok (.ireturn, 1) := by decide +kernel
theorem dX6_restore_33 : decode cX6_restore 33 = .ok (.aload_n 0, 1) := by decide +kernel
theorem dX6_restore_34 : decode cX6_restore 34 = .ok (.getfield 47, 3) := by decide +kernel
theorem dX6_restore_37 : decode cX6_restore 37 = .ok (.aload_n 0, 1) := by decide +kernel
theorem dX6_restore_38 : decode cX6_restore 38 = .ok (.getfield 54, 3) := by decide +kernel
theorem dX6_restore_41 : decode cX6_restore 41 = .ok (.iload_n 1, 1) := by decide +kernel
theorem dX6_restore_42 : decode cX6_restore 42 = .ok (.aaload, 1) := by decide +kernel
theorem dX6_restore_43 : decode cX6_restore 43 = .ok (.invokevirtual 111, 3) := by decide +kernel
theorem dX6_restore_46 : decode cX6_restore 46 = .ok (.aload_n 0, 1) := by decide +kernel
theorem dX6_restore_47 : decode cX6_restore 47 = .ok (.getfield 26, 3) := by decide +kernel
theorem dX6_restore_50 : decode cX6_restore 50 = .ok (.invokevirtual 115, 3) := by decide +kernel
theorem dX6_restore_53 : decode cX6_restore 53 = .ok (.iconst 1, 1) := by decide +kernel
theorem dX6_restore_54 : decode cX6_restore 54 = .ok (.ireturn, 1) := by decide +kernel
set_option maxRecDepth 20000 in
theorem ggX6_kind_X2_has : GoodIn wsX6_kind wsX2_has := goodIn_r _ [8, 9, 19, 20, 21, 22, 23, 24, 25, 26, 27] (by decide +kernel) (by decide +kernel)
set_option maxRecDepth 20000 in
theorem gX6_kind_X2_has : GoodIn wsX6_kind (wsV RX6 139 RX2 yX2_has wsX2_has) := goodIn_app (goodIn_of _ (by decide +kernel)) ggX6_kind_X2_has
theorem dX6_kind_0 : decode cX6_kind 0 = .ok (.aload_n 0, 1) := by decide +kernel
theorem dX6_kind_1 : decode cX6_kind 1 = .ok (.getfield 47, 3) := by decide +kernel
theorem dX6_kind_4 : decode cX6_kind 4 = .ok (.iload_n 1, 1) := by decide +kernel
theorem dX6_kind_5 : decode cX6_kind 5 = .ok (.invokevirtual 139, 3) := by decide +kernel
theorem dX6_kind_8 : decode cX6_kind 8 = .ok (.ifCond .eq 15, 3) := by decide +kernel
theorem dX6_kind_11 : decode cX6_kind 11 = .ok (.aload_n 0, 1) := by decide +kernel
theorem dX6_kind_12 : decode cX6_kind 12 = .ok (.getfield 47, 3) := by decide +kernel
theorem dX6_kind_15 : decode cX6_kind 15 = .ok (.getfield 216, 3) := by decide +kernel
theorem dX6_kind_18 : decode cX6_kind 18 = .ok (.iload_n 1, 1) := by decide +kernel
theorem dX6_kind_19 : decode cX6_kind 19 = .ok (.iaload, 1) := by decide +kernel
theorem dX6_kind_20 : decode cX6_kind 20 = .ok (.goto 5, 3) := by decide +kernel
theorem dX6_kind_23 : decode cX6_kind 23 = .ok (.ldc 66, 2) := by decide +kernel
theorem dX6_kind_25 : decode cX6_kind 25 = .ok (.ireturn, 1) := by decide +kernel
set_option maxRecDepth 20000 in
theorem ggX6_as_X2_has : GoodIn wsX6_as wsX2_has := goodIn_r _ [9, 10, 37, 38, 39, 40, 41, 42, 43, 44, 45] (by decide +kernel) (by decide +kernel)
set_option maxRecDepth 20000 in
theorem gX6_as_X2_has : GoodIn wsX6_as (wsV RX6 139 RX2 yX2_has wsX2_has) := goodIn_app (goodIn_of _ (by decide +kernel)) ggX6_as_X2_has
set_option maxRecDepth 20000 in
theorem ggX6_as_X6_isWithin : GoodIn wsX6_as wsX6_isWithin := goodIn_r _ [14] (by decide +kernel) (by decide +kernel)
set_option maxRecDepth 20000 in
theorem gX6_as_X6_isWithin : GoodIn wsX6_as (va_wsS RX6 62 yX6_isWithin wsX6_isWithin) := goodIn_app (goodIn_of _ (by decide +kernel)) ggX6_as_X6_isWithin
set_option maxRecDepth 20000 in
theorem ggX6_as_X6_isIn : GoodIn wsX6_as wsX6_isIn := goodIn_r _ [17] (by decide +kernel) (by decide +kernel)
set_option maxRecDepth 20000 in
theorem gX6_as_X6_isIn : GoodIn wsX6_as (va_wsS RX6 199 yX6_isIn wsX6_isIn) := goodIn_app (goodIn_of _ (by decide +kernel)) ggX6_as_X6_isIn
set_option maxRecDepth 20000 in
theorem ggX6_as_X6_found : GoodIn wsX6_as wsX6_found := goodIn_r _ [21, 22, 23, 28, 29, 30, 31, 32, 33, 34, 35, 36] (by decide +kernel) (by decide +kernel)
set_option maxRecDepth 20000 in
theorem gX6_as_X6_found : GoodIn wsX6_as (wsV RX6 67 RX6 yX6_found wsX6_found) := goodIn_app (goodIn_of _ (by decide +kernel)) ggX6_as_X6_found
set_option maxRecDepth 20000 in
theorem ggX6_as_X6_sound : GoodIn wsX6_as wsX6_sound := goodIn_r _ [27, 22, 28, 29, 30, 31, 32, 33, 34, 35, 36] (by decide +kernel) (by decide +kernel)
set_option maxRecDepth 20000 in
theorem gX6_as_X6_sound : GoodIn wsX6_as (wsV RX6 75 RX6 yX6_sound wsX6_sound) := goodIn_app (goodIn_of _ (by decide +kernel)) ggX6_as_X6_sound
theorem dX6_as_0 : decode cX6_as 0 = .ok (.aload_n 0, 1) := by decide +kernel
theorem dX6_as_1 : decode cX6_as 1 = .ok (.getfield 47, 3) := by decide +kernel
theorem dX6_as_4 : decode cX6_as 4 = .ok (.iload_n 1, 1) := by decide +kernel
theorem dX6_as_5 : decode cX6_as 5 = .ok (.invokevirtual 139, 3) := by decide +kernel
theorem dX6_as_8 : decode cX6_as 8 = .ok (.ifCond .eq 12, 3) := by decide +kernel
theorem dX6_as_11 : decode cX6_as 11 = .ok (.iload_n 2, 1) := by decide +kernel
theorem dX6_as_12 : decode cX6_as 12 = .ok (.iconst 0, 1) := by decide +kernel
theorem dX6_as_13 : decode cX6_as 13 = .ok (.iconst 5, 1) := by decide +kernel
theorem dX6_as_14 : decode cX6_as 14 = .ok (.invokestatic 62, 3) := by decide +kernel
theorem dX6_as_17 : decode cX6_as 17 = .ok (.ifCond .ne 6, 3) := by decide +kernel
theorem dX6_as_20 : decode cX6_as 20 = .ok (.ldc 66, 2) := by decide +kernel
theorem dX6_as_22 : decode cX6_as 22 = .ok (.ireturn, 1) := by decide +kernel
theorem dX6_as_23 : decode cX6_as 23 = .ok (.getstatic 238, 3) := by decide +kernel
theorem dX6_as_26 : decode cX6_as 26 = .ok (.aload_n 0, 1) := by decide +kernel
theorem dX6_as_27 : decode cX6_as 27 = .ok (.getfield 47, 3) := by decide +kernel
theorem dX6_as_30 : decode cX6_as 30 = .ok (.getfield 216, 3) := by decide +kernel
theorem dX6_as_33 : decode cX6_as 33 = .ok (.iload_n 1, 1) := by decide +kernel
theorem dX6_as_34 : decode cX6_as 34 = .ok (.iaload, 1) := by decide +kernel
theorem dX6_as_35 : decode cX6_as 35 = .ok (.iaload, 1) := by decide +kernel
theorem dX6_as_36 : decode cX6_as 36 = .ok (.iload_n 2, 1) := by decide +kernel
theorem dX6_as_37 : decode cX6_as 37 = .ok (.invokestatic 199, 3) := by decide +kernel
theorem dX6_as_40 : decode cX6_as 40 = .ok (.ifCond .ne 9, 3) := by decide +kernel
theorem dX6_as_43 : decode cX6_as 43 = .ok (.aload_n 0, 1) := by decide +kernel
theorem dX6_as_44 : decode cX6_as 44 = .ok (.iconst 3, 1) := by decide +kernel
theorem dX6_as_45 : decode cX6_as 45 = .ok (.invokevirtual 67, 3) := by decide +kernel
theorem dX6_as_48 : decode cX6_as 48 = .ok (.ireturn, 1) := by decide +kernel
theorem dX6_as_49 : decode cX6_as 49 = .ok (.aload_n 0, 1) := by decide +kernel
theorem dX6_as_50 : decode cX6_as 50 = .ok (.iload_n 1, 1) := by decide +kernel
theorem dX6_as_51 : decode cX6_as 51 = .ok (.invokevirtual 75, 3) := by decide +kernel
theorem dX6_as_54 : decode cX6_as 54 = .ok (.ireturn, 1) := by decide +kernel
set_option maxRecDepth 20000 in
theorem ggX6_ask_X2_has : GoodIn wsX6_ask wsX2_has := goodIn_r _ [8, 9, 47, 48, 49, 50, 51, 52, 53, 54, 55] (by decide +kernel) (by decide +kernel)
set_option maxRecDepth 20000 in
theorem gX6_ask_X2_has : GoodIn wsX6_ask (wsV RX6 139 RX2 yX2_has wsX2_has) := goodIn_app (goodIn_of _ (by decide +kernel)) ggX6_ask_X2_has
set_option maxRecDepth 20000 in
theorem ggX6_ask_X6_isWithin : GoodIn wsX6_ask wsX6_isWithin := goodIn_r _ [13] (by decide +kernel) (by decide +kernel)
set_option maxRecDepth 20000 in
theorem gX6_ask_X6_isWithin : GoodIn wsX6_ask (va_wsS RX6 62 yX6_isWithin wsX6_isWithin) := goodIn_app (goodIn_of _ (by decide +kernel)) ggX6_ask_X6_isWithin
set_option maxRecDepth 20000 in
theorem ggX6_ask_X1_answer : GoodIn wsX6_ask wsX1_answer := goodIn_r _ [18, 19, 20, 21, 22, 17, 23, 24, 25, 26, 27, 28, 29, 30, 31, 32, 33, 34, 35, 36, 37, 56, 57, 47, 48, 49, 50, 51, 52, 53, 54, 55] (by decide +kernel) (by decide +kernel)
set_option maxRecDepth 20000 in
theorem gX6_ask_X1_answer : GoodIn wsX6_ask (wsV RX6 241 RX1 yX1_answer wsX1_answer) := goodIn_app (goodIn_of _ (by decide +kernel)) ggX6_ask_X1_answer
theorem dX6_ask_0 : decode cX6_ask 0 = .ok (.aload_n 0, 1) := by decide +kernel
theorem dX6_ask_1 : decode cX6_ask 1 = .ok (.getfield 47, 3) := by decide +kernel
theorem dX6_ask_4 : decode cX6_ask 4 = .ok (.iload_n 1, 1) := by decide +kernel
theorem dX6_ask_5 : decode cX6_ask 5 = .ok (.invokevirtual 139, 3) := by decide +kernel
theorem dX6_ask_8 : decode cX6_ask 8 = .ok (.ifCond .eq 12, 3) := by decide +kernel
theorem dX6_ask_11 : decode cX6_ask 11 = .ok (.iload_n 2, 1) := by decide +kernel
theorem dX6_ask_12 : decode cX6_ask 12 = .ok (.iconst 0, 1) := by decide +kernel
theorem dX6_ask_13 : decode cX6_ask 13 = .ok (.iconst 1, 1) := by decide +kernel
theorem dX6_ask_14 : decode cX6_ask 14 = .ok (.invokestatic 62, 3) := by decide +kernel
theorem dX6_ask_17 : decode cX6_ask 17 = .ok (.ifCond .ne 6, 3) := by decide +kernel
theorem dX6_ask_20 : decode cX6_ask 20 = .ok (.ldc 66, 2) := by decide +kernel
theorem dX6_ask_22 : decode cX6_ask 22 = .ok (.ireturn, 1) := by decide +kernel
theorem dX6_ask_23 : decode cX6_ask 23 = .ok (.aload_n 0, 1) := by decide +kernel
theorem dX6_ask_24 : decode cX6_ask 24 = .ok (.getfield 40, 3) := by decide +kernel
theorem dX6_ask_27 : decode cX6_ask 27 = .ok (.aload_n 0, 1) := by decide +kernel
theorem dX6_ask_28 : decode cX6_ask 28 = .ok (.getfield 47, 3) := by decide +kernel
theorem dX6_ask_31 : decode cX6_ask 31 = .ok (.iload_n 1, 1) := by decide +kernel
theorem dX6_ask_32 : decode cX6_ask 32 = .ok (.iload_n 2, 1) := by decide +kernel
theorem dX6_ask_33 : decode cX6_ask 33 = .ok (.invokevirtual 241, 3) := by decide +kernel
theorem dX6_ask_36 : decode cX6_ask 36 = .ok (.ireturn, 1) := by decide +kernel
set_option maxRecDepth 20000 in
theorem ggX6_trace_X1_traceAt : GoodIn wsX6_trace wsX1_traceAt := goodIn_r _ [6, 7, 8, 9, 19, 20] (by decide +kernel) (by decide +kernel)
set_option maxRecDepth 20000 in
theorem gX6_trace_X1_traceAt : GoodIn wsX6_trace (wsV RX6 245 RX1 yX1_traceAt wsX1_traceAt) := goodIn_app (goodIn_of _ (by decide +kernel)) ggX6_trace_X1_traceAt
theorem dX6_trace_0 : decode cX6_trace 0 = .ok (.aload_n 0, 1) := by decide +kernel
theorem dX6_trace_1 : decode cX6_trace 1 = .ok (.getfield 40, 3) := by decide +kernel
theorem dX6_trace_4 : decode cX6_trace 4 = .ok (.iload_n 1, 1) := by decide +kernel
theorem dX6_trace_5 : decode cX6_trace 5 = .ok (.invokevirtual 245, 3) := by decide +kernel
theorem dX6_trace_8 : decode cX6_trace 8 = .ok (.ireturn, 1) := by decide +kernel
set_option maxRecDepth 20000 in
theorem ggX6_count_X4_present : GoodIn wsX6_count wsX4_present := goodIn_r _ [15, 16, 17, 18, 14, 19, 20, 51, 52, 53] (by decide +kernel) (by decide +kernel)
set_option maxRecDepth 20000 in
theorem gX6_count_X4_present : GoodIn wsX6_count (wsV RX6 248 RX4 yX4_present wsX4_present) := goodIn_app (goodIn_of _ (by decide +kernel)) ggX6_count_X4_present
set_option maxRecDepth 20000 in
theorem ggX6_count_X0_kept : GoodIn wsX6_count wsX0_kept := goodIn_r _ [25, 26, 54, 55, 56, 57, 58] (by decide +kernel) (by decide +kernel)
set_option maxRecDepth 20000 in
theorem gX6_count_X0_kept : GoodIn wsX6_count (wsV RX6 161 RX0 yX0_kept wsX0_kept) := goodIn_app (goodIn_of _ (by decide +kernel)) ggX6_count_X0_kept
set_option maxRecDepth 20000 in
theorem ggX6_count_X5_size : GoodIn wsX6_count wsX5_size := goodIn_r _ [31, 32, 59, 60, 61, 62, 63] (by decide +kernel) (by decide +kernel)
set_option maxRecDepth 20000 in
theorem gX6_count_X5_size : GoodIn wsX6_count (wsV RX6 254 RX5 yX5_size wsX5_size) := goodIn_app (goodIn_of _ (by decide +kernel)) ggX6_count_X5_size
theorem dX6_count_0 : decode cX6_count 0 = .ok (.iload_n 1, 1) := by decide +kernel
theorem dX6_count_1 : decode cX6_count 1 = .ok (.tableswitch 111 0 7 #[47, 55, 63, 71, 79, 87, 95, 103], 47) := by decide +kernel
theorem dX6_count_48 : decode cX6_count 48 = .ok (.aload_n 0, 1) := by decide +kernel
theorem dX6_count_49 : decode cX6_count 49 = .ok (.getfield 10, 3) := by decide +kernel
theorem dX6_count_52 : decode cX6_count 52 = .ok (.invokevirtual 248, 3) := by decide +kernel
theorem dX6_count_55 : decode cX6_count 55 = .ok (.ireturn, 1) := by decide +kernel
theorem dX6_count_56 : decode cX6_count 56 = .ok (.aload_n 0, 1) := by decide +kernel
theorem dX6_count_57 : decode cX6_count 57 = .ok (.getfield 47, 3) := by decide +kernel
theorem dX6_count_60 : decode cX6_count 60 = .ok (.getfield 118, 3) := by decide +kernel
theorem dX6_count_63 : decode cX6_count 63 = .ok (.ireturn, 1) := by decide +kernel
theorem dX6_count_64 : decode cX6_count 64 = .ok (.aload_n 0, 1) := by decide +kernel
theorem dX6_count_65 : decode cX6_count 65 = .ok (.getfield 47, 3) := by decide +kernel
theorem dX6_count_68 : decode cX6_count 68 = .ok (.getfield 196, 3) := by decide +kernel
theorem dX6_count_71 : decode cX6_count 71 = .ok (.ireturn, 1) := by decide +kernel
theorem dX6_count_72 : decode cX6_count 72 = .ok (.aload_n 0, 1) := by decide +kernel
theorem dX6_count_73 : decode cX6_count 73 = .ok (.getfield 47, 3) := by decide +kernel
theorem dX6_count_76 : decode cX6_count 76 = .ok (.getfield 130, 3) := by decide +kernel
theorem dX6_count_79 : decode cX6_count 79 = .ok (.ireturn, 1) := by decide +kernel
theorem dX6_count_80 : decode cX6_count 80 = .ok (.aload_n 0, 1) := by decide +kernel
theorem dX6_count_81 : decode cX6_count 81 = .ok (.getfield 47, 3) := by decide +kernel
theorem dX6_count_84 : decode cX6_count 84 = .ok (.getfield 251, 3) := by decide +kernel
theorem dX6_count_87 : decode cX6_count 87 = .ok (.ireturn, 1) := by decide +kernel
theorem dX6_count_88 : decode cX6_count 88 = .ok (.aload_n 0, 1) := by decide +kernel
theorem dX6_count_89 : decode cX6_count 89 = .ok (.getfield 47, 3) := by decide +kernel
theorem dX6_count_92 : decode cX6_count 92 = .ok (.getfield 145, 3) := by decide +kernel
theorem dX6_count_95 : decode cX6_count 95 = .ok (.ireturn, 1) := by decide +kernel
theorem dX6_count_96 : decode cX6_count 96 = .ok (.aload_n 0, 1) := by decide +kernel
theorem dX6_count_97 : decode cX6_count 97 = .ok (.getfield 26, 3) := by decide +kernel
theorem dX6_count_100 : decode cX6_count 100 = .ok (.invokevirtual 161, 3) := by decide +kernel
theorem dX6_count_103 : decode cX6_count 103 = .ok (.ireturn, 1) := by decide +kernel
theorem dX6_count_104 : decode cX6_count 104 = .ok (.aload_n 0, 1) := by decide +kernel
theorem dX6_count_105 : decode cX6_count 105 = .ok (.getfield 19, 3) := by decide +kernel
theorem dX6_count_108 : decode cX6_count 108 = .ok (.invokevirtual 254, 3) := by decide +kernel
theorem dX6_count_111 : decode cX6_count 111 = .ok (.ireturn, 1) := by decide +kernel
theorem dX6_count_112 : decode cX6_count 112 = .ok (.ldc 66, 2) := by decide +kernel
theorem dX6_count_114 : decode cX6_count 114 = .ok (.ireturn, 1) := by decide +kernel
theorem dX6_status_0 : decode cX6_status 0 = .ok (.aload_n 0, 1) := by decide +kernel
theorem dX6_status_1 : decode cX6_status 1 = .ok (.getfield 257, 3) := by decide +kernel
theorem dX6_status_4 : decode cX6_status 4 = .ok (.ireturn, 1) := by decide +kernel
theorem dX6_found_0 : decode cX6_found 0 = .ok (.aload_n 0, 1) := by decide +kernel
theorem dX6_found_1 : decode cX6_found 1 = .ok (.iload_n 1, 1) := by decide +kernel
theorem dX6_found_2 : decode cX6_found 2 = .ok (.putfield 257, 3) := by decide +kernel
theorem dX6_found_5 : decode cX6_found 5 = .ok (.ldc_w 260, 3) := by decide +kernel
theorem dX6_found_8 : decode cX6_found 8 = .ok (.iload_n 1, 1) := by decide +kernel
theorem dX6_found_9 : decode cX6_found 9 = .ok (.isub, 1) := by decide +kernel
theorem dX6_found_10 : decode cX6_found 10 = .ok (.ireturn, 1) := by decide +kernel
theorem dX6_sound_0 : decode cX6_sound 0 = .ok (.aload_n 0, 1) := by decide +kernel
theorem dX6_sound_1 : decode cX6_sound 1 = .ok (.iconst 0, 1) := by decide +kernel
theorem dX6_sound_2 : decode cX6_sound 2 = .ok (.putfield 257, 3) := by decide +kernel
theorem dX6_sound_5 : decode cX6_sound 5 = .ok (.iload_n 1, 1) := by decide +kernel
theorem dX6_sound_6 : decode cX6_sound 6 = .ok (.ireturn, 1) := by decide +kernel
set_option maxRecDepth 20000 in
theorem ggX6_isAsTold_X2_leftOn : GoodIn wsX6_isAsTold wsX2_leftOn := goodIn_r _ [7, 8, 9, 10, 6, 11, 12, 13, 14, 15, 16, 17, 18, 19, 20, 21, 22, 23, 24, 25, 26, 27, 28, 29, 30, 31, 32, 33, 34, 35, 36, 37, 38, 39, 40, 41, 42, 49, 50, 51, 52, 53, 54, 55, 56, 57] (by decide +kernel) (by decide +kernel)
set_option maxRecDepth 20000 in
theorem gX6_isAsTold_X2_leftOn : GoodIn wsX6_isAsTold (wsV RX6 136 RX2 yX2_leftOn wsX2_leftOn) := goodIn_app (goodIn_of _ (by decide +kernel)) ggX6_isAsTold_X2_leftOn
set_option maxRecDepth 20000 in
theorem ggX6_isAsTold_X4_itemAt : GoodIn wsX6_isAsTold wsX4_itemAt := goodIn_r _ [47, 48, 67, 68, 69] (by decide +kernel) (by decide +kernel)
set_option maxRecDepth 20000 in
theorem gX6_isAsTold_X4_itemAt : GoodIn wsX6_isAsTold (wsV RX6 261 RX4 yX4_itemAt wsX4_itemAt) := goodIn_app (goodIn_of _ (by decide +kernel)) ggX6_isAsTold_X4_itemAt
theorem dX6_isAsTold_0 : decode cX6_isAsTold 0 = .ok (.iconst 0, 1) := by decide +kernel
theorem dX6_isAsTold_1 : decode cX6_isAsTold 1 = .ok (.istore 5, 2) := by decide +kernel
theorem dX6_isAsTold_3 : decode cX6_isAsTold 3 = .ok (.iload 5, 2) := by decide +kernel
theorem dX6_isAsTold_5 : decode cX6_isAsTold 5 = .ok (.iload 4, 2) := by decide +kernel
theorem dX6_isAsTold_7 : decode cX6_isAsTold 7 = .ok (.if_icmp .ge 37, 3) := by decide +kernel
theorem dX6_isAsTold_10 : decode cX6_isAsTold 10 = .ok (.aload_n 1, 1) := by decide +kernel
theorem dX6_isAsTold_11 : decode cX6_isAsTold 11 = .ok (.aload_n 1, 1) := by decide +kernel
theorem dX6_isAsTold_12 : decode cX6_isAsTold 12 = .ok (.getfield 130, 3) := by decide +kernel
theorem dX6_isAsTold_15 : decode cX6_isAsTold 15 = .ok (.iload 5, 2) := by decide +kernel
theorem dX6_isAsTold_17 : decode cX6_isAsTold 17 = .ok (.iadd, 1) := by decide +kernel
theorem dX6_isAsTold_18 : decode cX6_isAsTold 18 = .ok (.invokevirtual 136, 3) := by decide +kernel
theorem dX6_isAsTold_21 : decode cX6_isAsTold 21 = .ok (.aload_n 0, 1) := by decide +kernel
theorem dX6_isAsTold_22 : decode cX6_isAsTold 22 = .ok (.getfield 10, 3) := by decide +kernel
theorem dX6_isAsTold_25 : decode cX6_isAsTold 25 = .ok (.iload_n 2, 1) := by decide +kernel
theorem dX6_isAsTold_26 : decode cX6_isAsTold 26 = .ok (.iload_n 3, 1) := by decide +kernel
theorem dX6_isAsTold_27 : decode cX6_isAsTold 27 = .ok (.iload 5, 2) := by decide +kernel
theorem dX6_isAsTold_29 : decode cX6_isAsTold 29 = .ok (.iadd, 1) := by decide +kernel
theorem dX6_isAsTold_30 : decode cX6_isAsTold 30 = .ok (.invokevirtual 261, 3) := by decide +kernel
theorem dX6_isAsTold_33 : decode cX6_isAsTold 33 = .ok (.if_icmp .eq 5, 3) := by decide +kernel
theorem dX6_isAsTold_36 : decode cX6_isAsTold 36 = .ok (.iconst 0, 1) := by decide +kernel
theorem dX6_isAsTold_37 : decode cX6_isAsTold 37 = .ok (.ireturn, 1) := by decide +kernel
theorem dX6_isAsTold_38 : decode cX6_isAsTold 38 = .ok (.iinc 5 1, 3) := by decide +kernel
theorem dX6_isAsTold_41 : decode cX6_isAsTold 41 = .ok (.goto (-38), 3) := by decide +kernel
theorem dX6_isAsTold_44 : decode cX6_isAsTold 44 = .ok (.iconst 1, 1) := by decide +kernel
theorem dX6_isAsTold_45 : decode cX6_isAsTold 45 = .ok (.ireturn, 1) := by decide +kernel
