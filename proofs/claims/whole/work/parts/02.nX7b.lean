theorem dX7_city_134 : decode cX7_city 134 = .ok (.invokevirtual 127, 3) := by decide +kernel
theorem dX7_city_137 : decode cX7_city 137 = .ok (.goto (-29), 3) := by decide +kernel
theorem dX7_city_140 : decode cX7_city 140 = .ok (.aload_n 0, 1) := by decide +kernel
theorem dX7_city_141 : decode cX7_city 141 = .ok (.invokevirtual 104, 3) := by decide +kernel
theorem dX7_city_144 : decode cX7_city 144 = .ok (.ifCond .eq 17, 3) := by decide +kernel
theorem dX7_city_147 : decode cX7_city 147 = .ok (.aload_n 0, 1) := by decide +kernel
theorem dX7_city_148 : decode cX7_city 148 = .ok (.getfield 98, 3) := by decide +kernel
theorem dX7_city_151 : decode cX7_city 151 = .ok (.ifCond .eq 10, 3) := by decide +kernel
theorem dX7_city_154 : decode cX7_city 154 = .ok (.aload_n 0, 1) := by decide +kernel
theorem dX7_city_155 : decode cX7_city 155 = .ok (.iconst 0, 1) := by decide +kernel
theorem dX7_city_156 : decode cX7_city 156 = .ok (.iconst 1, 1) := by decide +kernel
theorem dX7_city_157 : decode cX7_city 157 = .ok (.invokevirtual 114, 3) := by decide +kernel
theorem dX7_city_160 : decode cX7_city 160 = .ok (.pop, 1) := by decide +kernel
theorem dX7_city_161 : decode cX7_city 161 = .ok (.aload_n 0, 1) := by decide +kernel
theorem dX7_city_162 : decode cX7_city 162 = .ok (.iconst 0, 1) := by decide +kernel
theorem dX7_city_163 : decode cX7_city 163 = .ok (.putfield 82, 3) := by decide +kernel
theorem dX7_city_166 : decode cX7_city 166 = .ok (.aload_n 0, 1) := by decide +kernel
theorem dX7_city_167 : decode cX7_city 167 = .ok (.invokevirtual 104, 3) := by decide +kernel
theorem dX7_city_170 : decode cX7_city 170 = .ok (.ifCond .ne 11, 3) := by decide +kernel
theorem dX7_city_173 : decode cX7_city 173 = .ok (.ldc 130, 2) := by decide +kernel
theorem dX7_city_175 : decode cX7_city 175 = .ok (.aload_n 0, 1) := by decide +kernel
theorem dX7_city_176 : decode cX7_city 176 = .ok (.getfield 101, 3) := by decide +kernel
theorem dX7_city_179 : decode cX7_city 179 = .ok (.isub, 1) := by decide +kernel
theorem dX7_city_180 : decode cX7_city 180 = .ok (.ireturn, 1) := by decide +kernel
theorem dX7_city_181 : decode cX7_city 181 = .ok (.aload_n 0, 1) := by decide +kernel
theorem dX7_city_182 : decode cX7_city 182 = .ok (.getfield 28, 3) := by decide +kernel
theorem dX7_city_185 : decode cX7_city 185 = .ok (.iconst 0, 1) := by decide +kernel
theorem dX7_city_186 : decode cX7_city 186 = .ok (.aload_n 0, 1) := by decide +kernel
theorem dX7_city_187 : decode cX7_city 187 = .ok (.getfield 25, 3) := by decide +kernel
theorem dX7_city_190 : decode cX7_city 190 = .ok (.iconst 0, 1) := by decide +kernel
theorem dX7_city_191 : decode cX7_city 191 = .ok (.invokestatic 131, 3) := by decide +kernel
theorem dX7_city_194 : decode cX7_city 194 = .ok (.aload_n 0, 1) := by decide +kernel
theorem dX7_city_195 : decode cX7_city 195 = .ok (.iconst 0, 1) := by decide +kernel
theorem dX7_city_196 : decode cX7_city 196 = .ok (.putfield 135, 3) := by decide +kernel
theorem dX7_city_199 : decode cX7_city 199 = .ok (.aload_n 0, 1) := by decide +kernel
theorem dX7_city_200 : decode cX7_city 200 = .ok (.getfield 25, 3) := by decide +kernel
theorem dX7_city_203 : decode cX7_city 203 = .ok (.iconst 4, 1) := by decide +kernel
theorem dX7_city_204 : decode cX7_city 204 = .ok (.iaload, 1) := by decide +kernel
theorem dX7_city_205 : decode cX7_city 205 = .ok (.ireturn, 1) := by decide +kernel
theorem dX7_fault_0 : decode cX7_fault 0 = .ok (.aload_n 0, 1) := by decide +kernel
theorem dX7_fault_1 : decode cX7_fault 1 = .ok (.getfield 108, 3) := by decide +kernel
theorem dX7_fault_4 : decode cX7_fault 4 = .ok (.ireturn, 1) := by decide +kernel
theorem dX7_isCity_0 : decode cX7_isCity 0 = .ok (.aload_n 0, 1) := by decide +kernel
theorem dX7_isCity_1 : decode cX7_isCity 1 = .ok (.getfield 25, 3) := by decide +kernel
theorem dX7_isCity_4 : decode cX7_isCity 4 = .ok (.iconst 0, 1) := by decide +kernel
theorem dX7_isCity_5 : decode cX7_isCity 5 = .ok (.iaload, 1) := by decide +kernel
theorem dX7_isCity_6 : decode cX7_isCity 6 = .ok (.ifCond .le 7, 3) := by decide +kernel
theorem dX7_isCity_9 : decode cX7_isCity 9 = .ok (.iconst 1, 1) := by decide +kernel
theorem dX7_isCity_10 : decode cX7_isCity 10 = .ok (.goto 4, 3) := by decide +kernel
theorem dX7_isCity_13 : decode cX7_isCity 13 = .ok (.iconst 0, 1) := by decide +kernel
theorem dX7_isCity_14 : decode cX7_isCity 14 = .ok (.ireturn, 1) := by decide +kernel
set_option maxRecDepth 20000 in
theorem ggX7_isClue_X7_in : GoodIn wsX7_isClue wsX7_in := goodIn_r _ [5] (by decide +kernel) (by decide +kernel)
set_option maxRecDepth 20000 in
theorem gX7_isClue_X7_in : GoodIn wsX7_isClue (va_wsS RX7 56 yX7_in wsX7_in) := goodIn_app (goodIn_of _ (by decide +kernel)) ggX7_isClue_X7_in
theorem dX7_isClue_0 : decode cX7_isClue 0 = .ok (.iload_n 1, 1) := by decide +kernel
theorem dX7_isClue_1 : decode cX7_isClue 1 = .ok (.iconst 0, 1) := by decide +kernel
theorem dX7_isClue_2 : decode cX7_isClue 2 = .ok (.aload_n 0, 1) := by decide +kernel
theorem dX7_isClue_3 : decode cX7_isClue 3 = .ok (.getfield 25, 3) := by decide +kernel
theorem dX7_isClue_6 : decode cX7_isClue 6 = .ok (.iconst 4, 1) := by decide +kernel
theorem dX7_isClue_7 : decode cX7_isClue 7 = .ok (.iaload, 1) := by decide +kernel
theorem dX7_isClue_8 : decode cX7_isClue 8 = .ok (.iconst 1, 1) := by decide +kernel
theorem dX7_isClue_9 : decode cX7_isClue 9 = .ok (.isub, 1) := by decide +kernel
theorem dX7_isClue_10 : decode cX7_isClue 10 = .ok (.invokestatic 56, 3) := by decide +kernel
theorem dX7_isClue_13 : decode cX7_isClue 13 = .ok (.ireturn, 1) := by decide +kernel
set_option maxRecDepth 20000 in
theorem ggX7_isFar_X7_in : GoodIn wsX7_isFar wsX7_in := goodIn_r _ [4] (by decide +kernel) (by decide +kernel)
set_option maxRecDepth 20000 in
theorem gX7_isFar_X7_in : GoodIn wsX7_isFar (va_wsS RX7 56 yX7_in wsX7_in) := goodIn_app (goodIn_of _ (by decide +kernel)) ggX7_isFar_X7_in
theorem dX7_isFar_0 : decode cX7_isFar 0 = .ok (.iload_n 0, 1) := by decide +kernel
theorem dX7_isFar_1 : decode cX7_isFar 1 = .ok (.iconst 0, 1) := by decide +kernel
theorem dX7_isFar_2 : decode cX7_isFar 2 = .ok (.bipush 99, 2) := by decide +kernel
theorem dX7_isFar_4 : decode cX7_isFar 4 = .ok (.invokestatic 56, 3) := by decide +kernel
theorem dX7_isFar_7 : decode cX7_isFar 7 = .ok (.ireturn, 1) := by decide +kernel
theorem dX7_all_0 : decode cX7_all 0 = .ok (.iconst 1, 1) := by decide +kernel
theorem dX7_all_1 : decode cX7_all 1 = .ok (.aload_n 0, 1) := by decide +kernel
theorem dX7_all_2 : decode cX7_all 2 = .ok (.iconst 0, 1) := by decide +kernel
theorem dX7_all_3 : decode cX7_all 3 = .ok (.iaload, 1) := by decide +kernel
theorem dX7_all_4 : decode cX7_all 4 = .ok (.ishl, 1) := by decide +kernel
theorem dX7_all_5 : decode cX7_all 5 = .ok (.iconst 1, 1) := by decide +kernel
theorem dX7_all_6 : decode cX7_all 6 = .ok (.isub, 1) := by decide +kernel
theorem dX7_all_7 : decode cX7_all 7 = .ok (.ireturn, 1) := by decide +kernel
theorem dX7_isAtWork_0 : decode cX7_isAtWork 0 = .ok (.iconst 5, 1) := by decide +kernel
theorem dX7_isAtWork_1 : decode cX7_isAtWork 1 = .ok (.iconst 4, 1) := by decide +kernel
theorem dX7_isAtWork_2 : decode cX7_isAtWork 2 = .ok (.iload_n 1, 1) := by decide +kernel
theorem dX7_isAtWork_3 : decode cX7_isAtWork 3 = .ok (.imul, 1) := by decide +kernel
theorem dX7_isAtWork_4 : decode cX7_isAtWork 4 = .ok (.iadd, 1) := by decide +kernel
theorem dX7_isAtWork_5 : decode cX7_isAtWork 5 = .ok (.istore_n 3, 1) := by decide +kernel
theorem dX7_isAtWork_6 : decode cX7_isAtWork 6 = .ok (.iload_n 2, 1) := by decide +kernel
theorem dX7_isAtWork_7 : decode cX7_isAtWork 7 = .ok (.aload_n 0, 1) := by decide +kernel
theorem dX7_isAtWork_8 : decode cX7_isAtWork 8 = .ok (.iload_n 3, 1) := by decide +kernel
theorem dX7_isAtWork_9 : decode cX7_isAtWork 9 = .ok (.iconst 2, 1) := by decide +kernel
theorem dX7_isAtWork_10 : decode cX7_isAtWork 10 = .ok (.iadd, 1) := by decide +kernel
theorem dX7_isAtWork_11 : decode cX7_isAtWork 11 = .ok (.iaload, 1) := by decide +kernel
theorem dX7_isAtWork_12 : decode cX7_isAtWork 12 = .ok (.irem, 1) := by decide +kernel
theorem dX7_isAtWork_13 : decode cX7_isAtWork 13 = .ok (.aload_n 0, 1) := by decide +kernel
theorem dX7_isAtWork_14 : decode cX7_isAtWork 14 = .ok (.iload_n 3, 1) := by decide +kernel
theorem dX7_isAtWork_15 : decode cX7_isAtWork 15 = .ok (.iconst 3, 1) := by decide +kernel
theorem dX7_isAtWork_16 : decode cX7_isAtWork 16 = .ok (.iadd, 1) := by decide +kernel
theorem dX7_isAtWork_17 : decode cX7_isAtWork 17 = .ok (.iaload, 1) := by decide +kernel
theorem dX7_isAtWork_18 : decode cX7_isAtWork 18 = .ok (.if_icmp .eq 7, 3) := by decide +kernel
theorem dX7_isAtWork_21 : decode cX7_isAtWork 21 = .ok (.iconst 1, 1) := by decide +kernel
theorem dX7_isAtWork_22 : decode cX7_isAtWork 22 = .ok (.goto 4, 3) := by decide +kernel
theorem dX7_isAtWork_25 : decode cX7_isAtWork 25 = .ok (.iconst 0, 1) := by decide +kernel
theorem dX7_isAtWork_26 : decode cX7_isAtWork 26 = .ok (.istore 4, 2) := by decide +kernel
theorem dX7_isAtWork_28 : decode cX7_isAtWork 28 = .ok (.aload_n 0, 1) := by decide +kernel
theorem dX7_isAtWork_29 : decode cX7_isAtWork 29 = .ok (.iload_n 3, 1) := by decide +kernel
theorem dX7_isAtWork_30 : decode cX7_isAtWork 30 = .ok (.iaload, 1) := by decide +kernel
theorem dX7_isAtWork_31 : decode cX7_isAtWork 31 = .ok (.iconst 5, 1) := by decide +kernel
theorem dX7_isAtWork_32 : decode cX7_isAtWork 32 = .ok (.if_icmp .eq 25, 3) := by decide +kernel
theorem dX7_isAtWork_35 : decode cX7_isAtWork 35 = .ok (.iload 4, 2) := by decide +kernel
theorem dX7_isAtWork_37 : decode cX7_isAtWork 37 = .ok (.ifCond .eq 24, 3) := by decide +kernel
theorem dX7_isAtWork_40 : decode cX7_isAtWork 40 = .ok (.aload_n 0, 1) := by decide +kernel
theorem dX7_isAtWork_41 : decode cX7_isAtWork 41 = .ok (.iload_n 3, 1) := by decide +kernel
theorem dX7_isAtWork_42 : decode cX7_isAtWork 42 = .ok (.iaload, 1) := by decide +kernel
theorem dX7_isAtWork_43 : decode cX7_isAtWork 43 = .ok (.iconst 2, 1) := by decide +kernel
theorem dX7_isAtWork_44 : decode cX7_isAtWork 44 = .ok (.if_icmp .ne 13, 3) := by decide +kernel
theorem dX7_isAtWork_47 : decode cX7_isAtWork 47 = .ok (.iload_n 2, 1) := by decide +kernel
theorem dX7_isAtWork_48 : decode cX7_isAtWork 48 = .ok (.bipush 7, 2) := by decide +kernel
theorem dX7_isAtWork_50 : decode cX7_isAtWork 50 = .ok (.irem, 1) := by decide +kernel
theorem dX7_isAtWork_51 : decode cX7_isAtWork 51 = .ok (.aload_n 0, 1) := by decide +kernel
theorem dX7_isAtWork_52 : decode cX7_isAtWork 52 = .ok (.iconst 1, 1) := by decide +kernel
theorem dX7_isAtWork_53 : decode cX7_isAtWork 53 = .ok (.iaload, 1) := by decide +kernel
theorem dX7_isAtWork_54 : decode cX7_isAtWork 54 = .ok (.if_icmp .eq 7, 3) := by decide +kernel
theorem dX7_isAtWork_57 : decode cX7_isAtWork 57 = .ok (.iconst 1, 1) := by decide +kernel
theorem dX7_isAtWork_58 : decode cX7_isAtWork 58 = .ok (.goto 4, 3) := by decide +kernel
theorem dX7_isAtWork_61 : decode cX7_isAtWork 61 = .ok (.iconst 0, 1) := by decide +kernel
theorem dX7_isAtWork_62 : decode cX7_isAtWork 62 = .ok (.ireturn, 1) := by decide +kernel
set_option maxRecDepth 20000 in
theorem ggX7_leaves_X7_has : GoodIn wsX7_leaves wsX7_has := goodIn_r _ [4] (by decide +kernel) (by decide +kernel)
set_option maxRecDepth 20000 in
theorem gX7_leaves_X7_has : GoodIn wsX7_leaves (va_wsS RX7 138 yX7_has wsX7_has) := goodIn_app (goodIn_of _ (by decide +kernel)) ggX7_leaves_X7_has
set_option maxRecDepth 20000 in
theorem ggX7_leaves_X7_all : GoodIn wsX7_leaves wsX7_all := goodIn_r _ [7] (by decide +kernel) (by decide +kernel)
set_option maxRecDepth 20000 in
theorem gX7_leaves_X7_all : GoodIn wsX7_leaves (va_wsS RX7 142 yX7_all wsX7_all) := goodIn_app (goodIn_of _ (by decide +kernel)) ggX7_leaves_X7_all
theorem dX7_leaves_0 : decode cX7_leaves 0 = .ok (.iconst 5, 1) := by decide +kernel
theorem dX7_leaves_1 : decode cX7_leaves 1 = .ok (.iconst 4, 1) := by decide +kernel
theorem dX7_leaves_2 : decode cX7_leaves 2 = .ok (.iload_n 1, 1) := by decide +kernel
theorem dX7_leaves_3 : decode cX7_leaves 3 = .ok (.imul, 1) := by decide +kernel
theorem dX7_leaves_4 : decode cX7_leaves 4 = .ok (.iadd, 1) := by decide +kernel
theorem dX7_leaves_5 : decode cX7_leaves 5 = .ok (.istore_n 2, 1) := by decide +kernel
theorem dX7_leaves_6 : decode cX7_leaves 6 = .ok (.aload_n 0, 1) := by decide +kernel
theorem dX7_leaves_7 : decode cX7_leaves 7 = .ok (.iconst 3, 1) := by decide +kernel
theorem dX7_leaves_8 : decode cX7_leaves 8 = .ok (.iaload, 1) := by decide +kernel
theorem dX7_leaves_9 : decode cX7_leaves 9 = .ok (.iload_n 1, 1) := by decide +kernel
theorem dX7_leaves_10 : decode cX7_leaves 10 = .ok (.invokestatic 138, 3) := by decide +kernel
theorem dX7_leaves_13 : decode cX7_leaves 13 = .ok (.istore_n 3, 1) := by decide +kernel
theorem dX7_leaves_14 : decode cX7_leaves 14 = .ok (.aload_n 0, 1) := by decide +kernel
theorem dX7_leaves_15 : decode cX7_leaves 15 = .ok (.invokestatic 142, 3) := by decide +kernel
theorem dX7_leaves_18 : decode cX7_leaves 18 = .ok (.aload_n 0, 1) := by decide +kernel
theorem dX7_leaves_19 : decode cX7_leaves 19 = .ok (.iload_n 2, 1) := by decide +kernel
theorem dX7_leaves_20 : decode cX7_leaves 20 = .ok (.iconst 1, 1) := by decide +kernel
theorem dX7_leaves_21 : decode cX7_leaves 21 = .ok (.iadd, 1) := by decide +kernel
theorem dX7_leaves_22 : decode cX7_leaves 22 = .ok (.iaload, 1) := by decide +kernel
theorem dX7_leaves_23 : decode cX7_leaves 23 = .ok (.iconst (-1), 1) := by decide +kernel
theorem dX7_leaves_24 : decode cX7_leaves 24 = .ok (.ixor, 1) := by decide +kernel
theorem dX7_leaves_25 : decode cX7_leaves 25 = .ok (.iand, 1) := by decide +kernel
theorem dX7_leaves_26 : decode cX7_leaves 26 = .ok (.istore 4, 2) := by decide +kernel
theorem dX7_leaves_28 : decode cX7_leaves 28 = .ok (.aload_n 0, 1) := by decide +kernel
theorem dX7_leaves_29 : decode cX7_leaves 29 = .ok (.iload_n 2, 1) := by decide +kernel
theorem dX7_leaves_30 : decode cX7_leaves 30 = .ok (.iaload, 1) := by decide +kernel
theorem dX7_leaves_31 : decode cX7_leaves 31 = .ok (.iconst 3, 1) := by decide +kernel
theorem dX7_leaves_32 : decode cX7_leaves 32 = .ok (.if_icmp .ne 18, 3) := by decide +kernel
theorem dX7_leaves_35 : decode cX7_leaves 35 = .ok (.iload_n 3, 1) := by decide +kernel
theorem dX7_leaves_36 : decode cX7_leaves 36 = .ok (.ifCond .eq 8, 3) := by decide +kernel
theorem dX7_leaves_39 : decode cX7_leaves 39 = .ok (.iload 4, 2) := by decide +kernel
theorem dX7_leaves_41 : decode cX7_leaves 41 = .ok (.goto 8, 3) := by decide +kernel
theorem dX7_leaves_44 : decode cX7_leaves 44 = .ok (.aload_n 0, 1) := by decide +kernel
theorem dX7_leaves_45 : decode cX7_leaves 45 = .ok (.iload_n 2, 1) := by decide +kernel
theorem dX7_leaves_46 : decode cX7_leaves 46 = .ok (.iconst 1, 1) := by decide +kernel
theorem dX7_leaves_47 : decode cX7_leaves 47 = .ok (.iadd, 1) := by decide +kernel
theorem dX7_leaves_48 : decode cX7_leaves 48 = .ok (.iaload, 1) := by decide +kernel
theorem dX7_leaves_49 : decode cX7_leaves 49 = .ok (.ireturn, 1) := by decide +kernel
theorem dX7_leaves_50 : decode cX7_leaves 50 = .ok (.iload_n 3, 1) := by decide +kernel
theorem dX7_leaves_51 : decode cX7_leaves 51 = .ok (.ifCond .eq 10, 3) := by decide +kernel
theorem dX7_leaves_54 : decode cX7_leaves 54 = .ok (.aload_n 0, 1) := by decide +kernel
theorem dX7_leaves_55 : decode cX7_leaves 55 = .ok (.invokestatic 142, 3) := by decide +kernel
theorem dX7_leaves_58 : decode cX7_leaves 58 = .ok (.goto 20, 3) := by decide +kernel
theorem dX7_leaves_61 : decode cX7_leaves 61 = .ok (.aload_n 0, 1) := by decide +kernel
theorem dX7_leaves_62 : decode cX7_leaves 62 = .ok (.iload_n 2, 1) := by decide +kernel
theorem dX7_leaves_63 : decode cX7_leaves 63 = .ok (.iaload, 1) := by decide +kernel
theorem dX7_leaves_64 : decode cX7_leaves 64 = .ok (.iconst 4, 1) := by decide +kernel
theorem dX7_leaves_65 : decode cX7_leaves 65 = .ok (.if_icmp .lt 8, 3) := by decide +kernel
theorem dX7_leaves_68 : decode cX7_leaves 68 = .ok (.iload 4, 2) := by decide +kernel
theorem dX7_leaves_70 : decode cX7_leaves 70 = .ok (.goto 8, 3) := by decide +kernel
theorem dX7_leaves_73 : decode cX7_leaves 73 = .ok (.aload_n 0, 1) := by decide +kernel
theorem dX7_leaves_74 : decode cX7_leaves 74 = .ok (.iload_n 2, 1) := by decide +kernel
theorem dX7_leaves_75 : decode cX7_leaves 75 = .ok (.iconst 1, 1) := by decide +kernel
theorem dX7_leaves_76 : decode cX7_leaves 76 = .ok (.iadd, 1) := by decide +kernel
theorem dX7_leaves_77 : decode cX7_leaves 77 = .ok (.iaload, 1) := by decide +kernel
theorem dX7_leaves_78 : decode cX7_leaves 78 = .ok (.ireturn, 1) := by decide +kernel
set_option maxRecDepth 20000 in
theorem ggX7_workers_X7_isAtWork : GoodIn wsX7_workers wsX7_isAtWork := goodIn_r _ [4] (by decide +kernel) (by decide +kernel)
set_option maxRecDepth 20000 in
theorem gX7_workers_X7_isAtWork : GoodIn wsX7_workers (va_wsS RX7 146 yX7_isAtWork wsX7_isAtWork) := goodIn_app (goodIn_of _ (by decide +kernel)) ggX7_workers_X7_isAtWork
theorem dX7_workers_0 : decode cX7_workers 0 = .ok (.iconst 0, 1) := by decide +kernel
theorem dX7_workers_1 : decode cX7_workers 1 = .ok (.istore_n 2, 1) := by decide +kernel
theorem dX7_workers_2 : decode cX7_workers 2 = .ok (.iconst 0, 1) := by decide +kernel
theorem dX7_workers_3 : decode cX7_workers 3 = .ok (.istore_n 3, 1) := by decide +kernel
theorem dX7_workers_4 : decode cX7_workers 4 = .ok (.iload_n 3, 1) := by decide +kernel
theorem dX7_workers_5 : decode cX7_workers 5 = .ok (.aload_n 0, 1) := by decide +kernel
theorem dX7_workers_6 : decode cX7_workers 6 = .ok (.iconst 4, 1) := by decide +kernel
theorem dX7_workers_7 : decode cX7_workers 7 = .ok (.iaload, 1) := by decide +kernel
theorem dX7_workers_8 : decode cX7_workers 8 = .ok (.if_icmp .ge 28, 3) := by decide +kernel
theorem dX7_workers_11 : decode cX7_workers 11 = .ok (.iload_n 2, 1) := by decide +kernel
theorem dX7_workers_12 : decode cX7_workers 12 = .ok (.aload_n 0, 1) := by decide +kernel
theorem dX7_workers_13 : decode cX7_workers 13 = .ok (.iload_n 3, 1) := by decide +kernel
theorem dX7_workers_14 : decode cX7_workers 14 = .ok (.iload_n 1, 1) := by decide +kernel
theorem dX7_workers_15 : decode cX7_workers 15 = .ok (.invokestatic 146, 3) := by decide +kernel
theorem dX7_workers_18 : decode cX7_workers 18 = .ok (.ifCond .eq 9, 3) := by decide +kernel
theorem dX7_workers_21 : decode cX7_workers 21 = .ok (.iconst 1, 1) := by decide +kernel
theorem dX7_workers_22 : decode cX7_workers 22 = .ok (.iload_n 3, 1) := by decide +kernel
theorem dX7_workers_23 : decode cX7_workers 23 = .ok (.ishl, 1) := by decide +kernel
theorem dX7_workers_24 : decode cX7_workers 24 = .ok (.goto 4, 3) := by decide +kernel
theorem dX7_workers_27 : decode cX7_workers 27 = .ok (.iconst 0, 1) := by decide +kernel
theorem dX7_workers_28 : decode cX7_workers 28 = .ok (.ior, 1) := by decide +kernel
theorem dX7_workers_29 : decode cX7_workers 29 = .ok (.istore_n 2, 1) := by decide +kernel
theorem dX7_workers_30 : decode cX7_workers 30 = .ok (.iinc 3 1, 3) := by decide +kernel
theorem dX7_workers_33 : decode cX7_workers 33 = .ok (.goto (-29), 3) := by decide +kernel
theorem dX7_workers_36 : decode cX7_workers 36 = .ok (.iload_n 2, 1) := by decide +kernel
theorem dX7_workers_37 : decode cX7_workers 37 = .ok (.ireturn, 1) := by decide +kernel
set_option maxRecDepth 20000 in
theorem ggX7_leftBy_X7_all : GoodIn wsX7_leftBy wsX7_all := goodIn_r _ [4] (by decide +kernel) (by decide +kernel)
set_option maxRecDepth 20000 in
theorem gX7_leftBy_X7_all : GoodIn wsX7_leftBy (va_wsS RX7 142 yX7_all wsX7_all) := goodIn_app (goodIn_of _ (by decide +kernel)) ggX7_leftBy_X7_all
set_option maxRecDepth 20000 in
theorem ggX7_leftBy_X7_has : GoodIn wsX7_leftBy wsX7_has := goodIn_r _ [7] (by decide +kernel) (by decide +kernel)
set_option maxRecDepth 20000 in
theorem gX7_leftBy_X7_has : GoodIn wsX7_leftBy (va_wsS RX7 138 yX7_has wsX7_has) := goodIn_app (goodIn_of _ (by decide +kernel)) ggX7_leftBy_X7_has
set_option maxRecDepth 20000 in
theorem ggX7_leftBy_X7_leaves : GoodIn wsX7_leftBy wsX7_leaves := goodIn_r _ [10, 5, 6, 3, 7, 1, 2, 4] (by decide +kernel) (by decide +kernel)
set_option maxRecDepth 20000 in
theorem gX7_leftBy_X7_leaves : GoodIn wsX7_leftBy (va_wsS RX7 150 yX7_leaves wsX7_leaves) := goodIn_app (goodIn_of _ (by decide +kernel)) ggX7_leftBy_X7_leaves
theorem dX7_leftBy_0 : decode cX7_leftBy 0 = .ok (.aload_n 0, 1) := by decide +kernel
theorem dX7_leftBy_1 : decode cX7_leftBy 1 = .ok (.invokestatic 142, 3) := by decide +kernel
theorem dX7_leftBy_4 : decode cX7_leftBy 4 = .ok (.istore_n 2, 1) := by decide +kernel
theorem dX7_leftBy_5 : decode cX7_leftBy 5 = .ok (.iconst 0, 1) := by decide +kernel
theorem dX7_leftBy_6 : decode cX7_leftBy 6 = .ok (.istore_n 3, 1) := by decide +kernel
theorem dX7_leftBy_7 : decode cX7_leftBy 7 = .ok (.iload_n 3, 1) := by decide +kernel
theorem dX7_leftBy_8 : decode cX7_leftBy 8 = .ok (.aload_n 0, 1) := by decide +kernel
theorem dX7_leftBy_9 : decode cX7_leftBy 9 = .ok (.iconst 4, 1) := by decide +kernel
theorem dX7_leftBy_10 : decode cX7_leftBy 10 = .ok (.iaload, 1) := by decide +kernel
theorem dX7_leftBy_11 : decode cX7_leftBy 11 = .ok (.if_icmp .ge 29, 3) := by decide +kernel
theorem dX7_leftBy_14 : decode cX7_leftBy 14 = .ok (.iload_n 2, 1) := by decide +kernel
theorem dX7_leftBy_15 : decode cX7_leftBy 15 = .ok (.iload_n 1, 1) := by decide +kernel
theorem dX7_leftBy_16 : decode cX7_leftBy 16 = .ok (.iload_n 3, 1) := by decide +kernel
theorem dX7_leftBy_17 : decode cX7_leftBy 17 = .ok (.invokestatic 138, 3) := by decide +kernel
theorem dX7_leftBy_20 : decode cX7_leftBy 20 = .ok (.ifCond .eq 11, 3) := by decide +kernel
theorem dX7_leftBy_23 : decode cX7_leftBy 23 = .ok (.aload_n 0, 1) := by decide +kernel
theorem dX7_leftBy_24 : decode cX7_leftBy 24 = .ok (.iload_n 3, 1) := by decide +kernel
theorem dX7_leftBy_25 : decode cX7_leftBy 25 = .ok (.invokestatic 150, 3) := by decide +kernel
theorem dX7_leftBy_28 : decode cX7_leftBy 28 = .ok (.goto 4, 3) := by decide +kernel
theorem dX7_leftBy_31 : decode cX7_leftBy 31 = .ok (.iconst (-1), 1) := by decide +kernel
theorem dX7_leftBy_32 : decode cX7_leftBy 32 = .ok (.iand, 1) := by decide +kernel
theorem dX7_leftBy_33 : decode cX7_leftBy 33 = .ok (.istore_n 2, 1) := by decide +kernel
theorem dX7_leftBy_34 : decode cX7_leftBy 34 = .ok (.iinc 3 1, 3) := by decide +kernel
theorem dX7_leftBy_37 : decode cX7_leftBy 37 = .ok (.goto (-30), 3) := by decide +kernel
theorem dX7_leftBy_40 : decode cX7_leftBy 40 = .ok (.iload_n 2, 1) := by decide +kernel
theorem dX7_leftBy_41 : decode cX7_leftBy 41 = .ok (.ireturn, 1) := by decide +kernel
set_option maxRecDepth 20000 in
theorem ggX7_leftOn_X7_workers : GoodIn wsX7_leftOn wsX7_workers := goodIn_r _ [4, 5, 6, 3, 7] (by decide +kernel) (by decide +kernel)
set_option maxRecDepth 20000 in
theorem gX7_leftOn_X7_workers : GoodIn wsX7_leftOn (va_wsS RX7 154 yX7_workers wsX7_workers) := goodIn_app (goodIn_of _ (by decide +kernel)) ggX7_leftOn_X7_workers
set_option maxRecDepth 20000 in
theorem ggX7_leftOn_X7_leftBy : GoodIn wsX7_leftOn wsX7_leftBy := goodIn_r _ [10, 11, 12, 3, 13, 14, 15, 16, 17, 18, 19] (by decide +kernel) (by decide +kernel)
set_option maxRecDepth 20000 in
theorem gX7_leftOn_X7_leftBy : GoodIn wsX7_leftOn (va_wsS RX7 157 yX7_leftBy wsX7_leftBy) := goodIn_app (goodIn_of _ (by decide +kernel)) ggX7_leftOn_X7_leftBy
theorem dX7_leftOn_0 : decode cX7_leftOn 0 = .ok (.aload_n 0, 1) := by decide +kernel
theorem dX7_leftOn_1 : decode cX7_leftOn 1 = .ok (.aload_n 0, 1) := by decide +kernel
theorem dX7_leftOn_2 : decode cX7_leftOn 2 = .ok (.iload_n 1, 1) := by decide +kernel
theorem dX7_leftOn_3 : decode cX7_leftOn 3 = .ok (.invokestatic 154, 3) := by decide +kernel
theorem dX7_leftOn_6 : decode cX7_leftOn 6 = .ok (.invokestatic 157, 3) := by decide +kernel
theorem dX7_leftOn_9 : decode cX7_leftOn 9 = .ok (.ireturn, 1) := by decide +kernel
theorem dX7_only_0 : decode cX7_only 0 = .ok (.iconst 0, 1) := by decide +kernel
theorem dX7_only_1 : decode cX7_only 1 = .ok (.istore_n 1, 1) := by decide +kernel
theorem dX7_only_2 : decode cX7_only 2 = .ok (.iload_n 1, 1) := by decide +kernel
theorem dX7_only_3 : decode cX7_only 3 = .ok (.bipush 6, 2) := by decide +kernel
theorem dX7_only_5 : decode cX7_only 5 = .ok (.if_icmp .ge 18, 3) := by decide +kernel
theorem dX7_only_8 : decode cX7_only 8 = .ok (.iload_n 0, 1) := by decide +kernel
theorem dX7_only_9 : decode cX7_only 9 = .ok (.iconst 1, 1) := by decide +kernel
theorem dX7_only_10 : decode cX7_only 10 = .ok (.iload_n 1, 1) := by decide +kernel
theorem dX7_only_11 : decode cX7_only 11 = .ok (.ishl, 1) := by decide +kernel
theorem dX7_only_12 : decode cX7_only 12 = .ok (.if_icmp .ne 5, 3) := by decide +kernel
theorem dX7_only_15 : decode cX7_only 15 = .ok (.iload_n 1, 1) := by decide +kernel
theorem dX7_only_16 : decode cX7_only 16 = .ok (.ireturn, 1) := by decide +kernel
theorem dX7_only_17 : decode cX7_only 17 = .ok (.iinc 1 1, 3) := by decide +kernel
theorem dX7_only_20 : decode cX7_only 20 = .ok (.goto (-18), 3) := by decide +kernel
theorem dX7_only_23 : decode cX7_only 23 = .ok (.ldc 50, 2) := by decide +kernel
theorem dX7_only_25 : decode cX7_only 25 = .ok (.ireturn, 1) := by decide +kernel
set_option maxRecDepth 20000 in
theorem ggX7_notes_X7_copies : GoodIn wsX7_notes wsX7_copies := goodIn_r _ [7] (by decide +kernel) (by decide +kernel)
set_option maxRecDepth 20000 in
theorem gX7_notes_X7_copies : GoodIn wsX7_notes (va_wsS RX7 131 yX7_copies wsX7_copies) := goodIn_app (goodIn_of _ (by decide +kernel)) ggX7_notes_X7_copies
theorem dX7_notes_0 : decode cX7_notes 0 = .ok (.aload_n 0, 1) := by decide +kernel
theorem dX7_notes_1 : decode cX7_notes 1 = .ok (.getfield 135, 3) := by decide +kernel
theorem dX7_notes_4 : decode cX7_notes 4 = .ok (.bipush 24, 2) := by decide +kernel
theorem dX7_notes_6 : decode cX7_notes 6 = .ok (.if_icmp .ne 43, 3) := by decide +kernel
theorem dX7_notes_9 : decode cX7_notes 9 = .ok (.iconst 0, 1) := by decide +kernel
theorem dX7_notes_10 : decode cX7_notes 10 = .ok (.istore_n 1, 1) := by decide +kernel
theorem dX7_notes_11 : decode cX7_notes 11 = .ok (.iload_n 1, 1) := by decide +kernel
theorem dX7_notes_12 : decode cX7_notes 12 = .ok (.sipush 667, 3) := by decide +kernel
theorem dX7_notes_15 : decode cX7_notes 15 = .ok (.if_icmp .ge 24, 3) := by decide +kernel
theorem dX7_notes_18 : decode cX7_notes 18 = .ok (.aload_n 0, 1) := by decide +kernel
theorem dX7_notes_19 : decode cX7_notes 19 = .ok (.getfield 34, 3) := by decide +kernel
theorem dX7_notes_22 : decode cX7_notes 22 = .ok (.iload_n 1, 1) := by decide +kernel
theorem dX7_notes_23 : decode cX7_notes 23 = .ok (.aload_n 0, 1) := by decide +kernel
theorem dX7_notes_24 : decode cX7_notes 24 = .ok (.getfield 34, 3) := by decide +kernel
theorem dX7_notes_27 : decode cX7_notes 27 = .ok (.iload_n 1, 1) := by decide +kernel
theorem dX7_notes_28 : decode cX7_notes 28 = .ok (.bipush 29, 2) := by decide +kernel
theorem dX7_notes_30 : decode cX7_notes 30 = .ok (.iadd, 1) := by decide +kernel
theorem dX7_notes_31 : decode cX7_notes 31 = .ok (.iaload, 1) := by decide +kernel
theorem dX7_notes_32 : decode cX7_notes 32 = .ok (.iastore, 1) := by decide +kernel
theorem dX7_notes_33 : decode cX7_notes 33 = .ok (.iinc 1 1, 3) := by decide +kernel
theorem dX7_notes_36 : decode cX7_notes 36 = .ok (.goto (-25), 3) := by decide +kernel
theorem dX7_notes_39 : decode cX7_notes 39 = .ok (.aload_n 0, 1) := by decide +kernel
theorem dX7_notes_40 : decode cX7_notes 40 = .ok (.dup, 1) := by decide +kernel
theorem dX7_notes_41 : decode cX7_notes 41 = .ok (.getfield 135, 3) := by decide +kernel
theorem dX7_notes_44 : decode cX7_notes 44 = .ok (.iconst 1, 1) := by decide +kernel
theorem dX7_notes_45 : decode cX7_notes 45 = .ok (.isub, 1) := by decide +kernel
theorem dX7_notes_46 : decode cX7_notes 46 = .ok (.putfield 135, 3) := by decide +kernel
theorem dX7_notes_49 : decode cX7_notes 49 = .ok (.aload_n 0, 1) := by decide +kernel
theorem dX7_notes_50 : decode cX7_notes 50 = .ok (.getfield 25, 3) := by decide +kernel
theorem dX7_notes_53 : decode cX7_notes 53 = .ok (.iconst 0, 1) := by decide +kernel
theorem dX7_notes_54 : decode cX7_notes 54 = .ok (.aload_n 0, 1) := by decide +kernel
theorem dX7_notes_55 : decode cX7_notes 55 = .ok (.getfield 34, 3) := by decide +kernel
theorem dX7_notes_58 : decode cX7_notes 58 = .ok (.bipush 29, 2) := by decide +kernel
theorem dX7_notes_60 : decode cX7_notes 60 = .ok (.aload_n 0, 1) := by decide +kernel
theorem dX7_notes_61 : decode cX7_notes 61 = .ok (.getfield 135, 3) := by decide +kernel
theorem dX7_notes_64 : decode cX7_notes 64 = .ok (.imul, 1) := by decide +kernel
theorem dX7_notes_65 : decode cX7_notes 65 = .ok (.invokestatic 131, 3) := by decide +kernel
theorem dX7_notes_68 : decode cX7_notes 68 = .ok (.aload_n 0, 1) := by decide +kernel
theorem dX7_notes_69 : decode cX7_notes 69 = .ok (.dup, 1) := by decide +kernel
theorem dX7_notes_70 : decode cX7_notes 70 = .ok (.getfield 135, 3) := by decide +kernel
theorem dX7_notes_73 : decode cX7_notes 73 = .ok (.iconst 1, 1) := by decide +kernel
theorem dX7_notes_74 : decode cX7_notes 74 = .ok (.iadd, 1) := by decide +kernel
theorem dX7_notes_75 : decode cX7_notes 75 = .ok (.putfield 135, 3) := by decide +kernel
theorem dX7_notes_78 : decode cX7_notes 78 = .ok (.return_, 1) := by decide +kernel
set_option maxRecDepth 20000 in
theorem ggX7_days_X7_isCity : GoodIn wsX7_days wsX7_isCity := goodIn_r _ [9, 3, 43, 44, 45, 46, 47, 48, 49, 50, 51, 52, 53, 54, 55, 56, 57, 58, 59, 60, 61, 62, 63, 64, 65] (by decide +kernel) (by decide +kernel)
set_option maxRecDepth 20000 in
theorem gX7_days_X7_isCity : GoodIn wsX7_days (wsV RX7 160 RX7 yX7_isCity wsX7_isCity) := goodIn_app (goodIn_of _ (by decide +kernel)) ggX7_days_X7_isCity
set_option maxRecDepth 20000 in
theorem ggX7_days_X7_in : GoodIn wsX7_days wsX7_in := goodIn_r _ [12] (by decide +kernel) (by decide +kernel)
set_option maxRecDepth 20000 in
theorem gX7_days_X7_in : GoodIn wsX7_days (va_wsS RX7 56 yX7_in wsX7_in) := goodIn_app (goodIn_of _ (by decide +kernel)) ggX7_days_X7_in
set_option maxRecDepth 20000 in
theorem ggX7_days_X7_notes : GoodIn wsX7_days wsX7_notes := goodIn_r _ [16, 17, 18, 3, 19, 20, 8, 21, 43, 44, 45, 46, 47, 48, 49, 50, 51, 52, 53, 54, 55, 56, 57, 58, 59, 60, 61, 62, 63, 64, 65] (by decide +kernel) (by decide +kernel)
set_option maxRecDepth 20000 in
theorem gX7_days_X7_notes : GoodIn wsX7_days (wsV RX7 164 RX7 yX7_notes wsX7_notes) := goodIn_app (goodIn_of _ (by decide +kernel)) ggX7_days_X7_notes
set_option maxRecDepth 20000 in
theorem ggX7_days_X7_leftOn : GoodIn wsX7_days wsX7_leftOn := goodIn_r _ [24, 25, 26, 8, 27, 28, 29, 30, 31, 32, 33, 34, 35, 36, 37, 38, 39, 40, 41, 42] (by decide +kernel) (by decide +kernel)
set_option maxRecDepth 20000 in
theorem gX7_days_X7_leftOn : GoodIn wsX7_days (va_wsS RX7 167 yX7_leftOn wsX7_leftOn) := goodIn_app (goodIn_of _ (by decide +kernel)) ggX7_days_X7_leftOn
theorem dX7_days_0 : decode cX7_days 0 = .ok (.aload_n 0, 1) := by decide +kernel
theorem dX7_days_1 : decode cX7_days 1 = .ok (.invokevirtual 160, 3) := by decide +kernel
theorem dX7_days_4 : decode cX7_days 4 = .ok (.ifCond .ne 6, 3) := by decide +kernel
theorem dX7_days_7 : decode cX7_days 7 = .ok (.ldc 163, 2) := by decide +kernel
theorem dX7_days_9 : decode cX7_days 9 = .ok (.ireturn, 1) := by decide +kernel
theorem dX7_days_10 : decode cX7_days 10 = .ok (.iload_n 1, 1) := by decide +kernel
theorem dX7_days_11 : decode cX7_days 11 = .ok (.iconst 1, 1) := by decide +kernel
theorem dX7_days_12 : decode cX7_days 12 = .ok (.bipush 24, 2) := by decide +kernel
theorem dX7_days_14 : decode cX7_days 14 = .ok (.invokestatic 56, 3) := by decide +kernel
theorem dX7_days_17 : decode cX7_days 17 = .ok (.ifCond .ne 6, 3) := by decide +kernel
theorem dX7_days_20 : decode cX7_days 20 = .ok (.ldc 64, 2) := by decide +kernel
theorem dX7_days_22 : decode cX7_days 22 = .ok (.ireturn, 1) := by decide +kernel
theorem dX7_days_23 : decode cX7_days 23 = .ok (.aload_n 0, 1) := by decide +kernel
theorem dX7_days_24 : decode cX7_days 24 = .ok (.getfield 25, 3) := by decide +kernel
theorem dX7_days_27 : decode cX7_days 27 = .ok (.iconst 2, 1) := by decide +kernel
theorem dX7_days_28 : decode cX7_days 28 = .ok (.iaload, 1) := by decide +kernel
theorem dX7_days_29 : decode cX7_days 29 = .ok (.iload_n 1, 1) := by decide +kernel
theorem dX7_days_30 : decode cX7_days 30 = .ok (.iadd, 1) := by decide +kernel
theorem dX7_days_31 : decode cX7_days 31 = .ok (.sipush 999, 3) := by decide +kernel
theorem dX7_days_34 : decode cX7_days 34 = .ok (.if_icmp .le 6, 3) := by decide +kernel
theorem dX7_days_37 : decode cX7_days 37 = .ok (.ldc 85, 2) := by decide +kernel
theorem dX7_days_39 : decode cX7_days 39 = .ok (.ireturn, 1) := by decide +kernel
theorem dX7_days_40 : decode cX7_days 40 = .ok (.iconst 0, 1) := by decide +kernel
theorem dX7_days_41 : decode cX7_days 41 = .ok (.istore_n 2, 1) := by decide +kernel
theorem dX7_days_42 : decode cX7_days 42 = .ok (.iload_n 2, 1) := by decide +kernel
theorem dX7_days_43 : decode cX7_days 43 = .ok (.iload_n 1, 1) := by decide +kernel
theorem dX7_days_44 : decode cX7_days 44 = .ok (.if_icmp .ge 23, 3) := by decide +kernel
theorem dX7_days_47 : decode cX7_days 47 = .ok (.aload_n 0, 1) := by decide +kernel
theorem dX7_days_48 : decode cX7_days 48 = .ok (.invokevirtual 164, 3) := by decide +kernel
theorem dX7_days_51 : decode cX7_days 51 = .ok (.aload_n 0, 1) := by decide +kernel
theorem dX7_days_52 : decode cX7_days 52 = .ok (.getfield 25, 3) := by decide +kernel
theorem dX7_days_55 : decode cX7_days 55 = .ok (.iconst 2, 1) := by decide +kernel
theorem dX7_days_56 : decode cX7_days 56 = .ok (.dup2, 1) := by decide +kernel
theorem dX7_days_57 : decode cX7_days 57 = .ok (.iaload, 1) := by decide +kernel
theorem dX7_days_58 : decode cX7_days 58 = .ok (.iconst 1, 1) := by decide +kernel
theorem dX7_days_59 : decode cX7_days 59 = .ok (.iadd, 1) := by decide +kernel
theorem dX7_days_60 : decode cX7_days 60 = .ok (.iastore, 1) := by decide +kernel
theorem dX7_days_61 : decode cX7_days 61 = .ok (.iinc 2 1, 3) := by decide +kernel
theorem dX7_days_64 : decode cX7_days 64 = .ok (.goto (-22), 3) := by decide +kernel
theorem dX7_days_67 : decode cX7_days 67 = .ok (.aload_n 0, 1) := by decide +kernel
theorem dX7_days_68 : decode cX7_days 68 = .ok (.getfield 25, 3) := by decide +kernel
theorem dX7_days_71 : decode cX7_days 71 = .ok (.aload_n 0, 1) := by decide +kernel
theorem dX7_days_72 : decode cX7_days 72 = .ok (.getfield 25, 3) := by decide +kernel
theorem dX7_days_75 : decode cX7_days 75 = .ok (.iconst 2, 1) := by decide +kernel
theorem dX7_days_76 : decode cX7_days 76 = .ok (.iaload, 1) := by decide +kernel
theorem dX7_days_77 : decode cX7_days 77 = .ok (.invokestatic 167, 3) := by decide +kernel
theorem dX7_days_80 : decode cX7_days 80 = .ok (.ireturn, 1) := by decide +kernel
set_option maxRecDepth 20000 in
theorem ggX7_bribe_X7_isClue : GoodIn wsX7_bribe wsX7_isClue := goodIn_r _ [8, 2, 9, 10, 7, 11, 21, 22, 23, 24, 25, 26, 27, 28, 29, 30, 31, 32, 33, 34, 35, 36, 37, 38, 39, 40, 41, 42, 43] (by decide +kernel) (by decide +kernel)
set_option maxRecDepth 20000 in
theorem gX7_bribe_X7_isClue : GoodIn wsX7_bribe (wsV RX7 170 RX7 yX7_isClue wsX7_isClue) := goodIn_app (goodIn_of _ (by decide +kernel)) ggX7_bribe_X7_isClue
set_option maxRecDepth 20000 in
theorem ggX7_bribe_X7_in : GoodIn wsX7_bribe wsX7_in := goodIn_r _ [11] (by decide +kernel) (by decide +kernel)
set_option maxRecDepth 20000 in
theorem gX7_bribe_X7_in : GoodIn wsX7_bribe (va_wsS RX7 56 yX7_in wsX7_in) := goodIn_app (goodIn_of _ (by decide +kernel)) ggX7_bribe_X7_in
set_option maxRecDepth 20000 in
theorem ggX7_bribe_X7_notes : GoodIn wsX7_bribe wsX7_notes := goodIn_r _ [15, 16, 17, 2, 18, 19, 7, 20, 21, 22, 23, 24, 25, 26, 27, 28, 29, 30, 31, 32, 33, 34, 35, 36, 37, 38, 39, 40, 41, 42, 43] (by decide +kernel) (by decide +kernel)
set_option maxRecDepth 20000 in
theorem gX7_bribe_X7_notes : GoodIn wsX7_bribe (wsV RX7 164 RX7 yX7_notes wsX7_notes) := goodIn_app (goodIn_of _ (by decide +kernel)) ggX7_bribe_X7_notes
theorem dX7_bribe_0 : decode cX7_bribe 0 = .ok (.aload_n 0, 1) := by decide +kernel
theorem dX7_bribe_1 : decode cX7_bribe 1 = .ok (.iload_n 1, 1) := by decide +kernel
theorem dX7_bribe_2 : decode cX7_bribe 2 = .ok (.invokevirtual 170, 3) := by decide +kernel
theorem dX7_bribe_5 : decode cX7_bribe 5 = .ok (.ifCond .eq 12, 3) := by decide +kernel
theorem dX7_bribe_8 : decode cX7_bribe 8 = .ok (.iload_n 2, 1) := by decide +kernel
theorem dX7_bribe_9 : decode cX7_bribe 9 = .ok (.iconst 0, 1) := by decide +kernel
theorem dX7_bribe_10 : decode cX7_bribe 10 = .ok (.iconst 1, 1) := by decide +kernel
theorem dX7_bribe_11 : decode cX7_bribe 11 = .ok (.invokestatic 56, 3) := by decide +kernel
theorem dX7_bribe_14 : decode cX7_bribe 14 = .ok (.ifCond .ne 6, 3) := by decide +kernel
theorem dX7_bribe_17 : decode cX7_bribe 17 = .ok (.ldc 64, 2) := by decide +kernel
theorem dX7_bribe_19 : decode cX7_bribe 19 = .ok (.ireturn, 1) := by decide +kernel
theorem dX7_bribe_20 : decode cX7_bribe 20 = .ok (.aload_n 0, 1) := by decide +kernel
theorem dX7_bribe_21 : decode cX7_bribe 21 = .ok (.getfield 25, 3) := by decide +kernel
theorem dX7_bribe_24 : decode cX7_bribe 24 = .ok (.iconst 3, 1) := by decide +kernel
theorem dX7_bribe_25 : decode cX7_bribe 25 = .ok (.iaload, 1) := by decide +kernel
theorem dX7_bribe_26 : decode cX7_bribe 26 = .ok (.iload_n 1, 1) := by decide +kernel
theorem dX7_bribe_27 : decode cX7_bribe 27 = .ok (.ishr, 1) := by decide +kernel
theorem dX7_bribe_28 : decode cX7_bribe 28 = .ok (.iconst 1, 1) := by decide +kernel
theorem dX7_bribe_29 : decode cX7_bribe 29 = .ok (.iand, 1) := by decide +kernel
theorem dX7_bribe_30 : decode cX7_bribe 30 = .ok (.iload_n 2, 1) := by decide +kernel
theorem dX7_bribe_31 : decode cX7_bribe 31 = .ok (.if_icmp .ne 6, 3) := by decide +kernel
theorem dX7_bribe_34 : decode cX7_bribe 34 = .ok (.ldc 163, 2) := by decide +kernel
theorem dX7_bribe_36 : decode cX7_bribe 36 = .ok (.ireturn, 1) := by decide +kernel
theorem dX7_bribe_37 : decode cX7_bribe 37 = .ok (.aload_n 0, 1) := by decide +kernel
theorem dX7_bribe_38 : decode cX7_bribe 38 = .ok (.invokevirtual 164, 3) := by decide +kernel
theorem dX7_bribe_41 : decode cX7_bribe 41 = .ok (.aload_n 0, 1) := by decide +kernel
theorem dX7_bribe_42 : decode cX7_bribe 42 = .ok (.getfield 25, 3) := by decide +kernel
theorem dX7_bribe_45 : decode cX7_bribe 45 = .ok (.iconst 3, 1) := by decide +kernel
theorem dX7_bribe_46 : decode cX7_bribe 46 = .ok (.dup2, 1) := by decide +kernel
theorem dX7_bribe_47 : decode cX7_bribe 47 = .ok (.iaload, 1) := by decide +kernel
theorem dX7_bribe_48 : decode cX7_bribe 48 = .ok (.iconst 1, 1) := by decide +kernel
theorem dX7_bribe_49 : decode cX7_bribe 49 = .ok (.iload_n 1, 1) := by decide +kernel
theorem dX7_bribe_50 : decode cX7_bribe 50 = .ok (.ishl, 1) := by decide +kernel
theorem dX7_bribe_51 : decode cX7_bribe 51 = .ok (.ixor, 1) := by decide +kernel
theorem dX7_bribe_52 : decode cX7_bribe 52 = .ok (.iastore, 1) := by decide +kernel
theorem dX7_bribe_53 : decode cX7_bribe 53 = .ok (.aload_n 0, 1) := by decide +kernel
theorem dX7_bribe_54 : decode cX7_bribe 54 = .ok (.getfield 25, 3) := by decide +kernel
theorem dX7_bribe_57 : decode cX7_bribe 57 = .ok (.iconst 3, 1) := by decide +kernel
theorem dX7_bribe_58 : decode cX7_bribe 58 = .ok (.iaload, 1) := by decide +kernel
theorem dX7_bribe_59 : decode cX7_bribe 59 = .ok (.ireturn, 1) := by decide +kernel
set_option maxRecDepth 20000 in
theorem ggX7_puts_X7_notes : GoodIn wsX7_puts wsX7_notes := goodIn_r _ [6, 7, 8, 1, 9, 10, 5, 11, 12, 13, 14, 15, 16, 17, 18, 19, 20, 21, 22, 23, 24, 25, 26, 27, 28, 29, 30, 31, 32, 33, 34] (by decide +kernel) (by decide +kernel)
set_option maxRecDepth 20000 in
theorem gX7_puts_X7_notes : GoodIn wsX7_puts (wsV RX7 164 RX7 yX7_notes wsX7_notes) := goodIn_app (goodIn_of _ (by decide +kernel)) ggX7_puts_X7_notes
theorem dX7_puts_0 : decode cX7_puts 0 = .ok (.aload_n 0, 1) := by decide +kernel
theorem dX7_puts_1 : decode cX7_puts 1 = .ok (.invokevirtual 164, 3) := by decide +kernel
theorem dX7_puts_4 : decode cX7_puts 4 = .ok (.aload_n 0, 1) := by decide +kernel
theorem dX7_puts_5 : decode cX7_puts 5 = .ok (.getfield 25, 3) := by decide +kernel
theorem dX7_puts_8 : decode cX7_puts 8 = .ok (.iload_n 1, 1) := by decide +kernel
theorem dX7_puts_9 : decode cX7_puts 9 = .ok (.iaload, 1) := by decide +kernel
theorem dX7_puts_10 : decode cX7_puts 10 = .ok (.istore_n 3, 1) := by decide +kernel
theorem dX7_puts_11 : decode cX7_puts 11 = .ok (.aload_n 0, 1) := by decide +kernel
theorem dX7_puts_12 : decode cX7_puts 12 = .ok (.getfield 25, 3) := by decide +kernel
theorem dX7_puts_15 : decode cX7_puts 15 = .ok (.iload_n 1, 1) := by decide +kernel
theorem dX7_puts_16 : decode cX7_puts 16 = .ok (.iload_n 2, 1) := by decide +kernel
theorem dX7_puts_17 : decode cX7_puts 17 = .ok (.iastore, 1) := by decide +kernel
theorem dX7_puts_18 : decode cX7_puts 18 = .ok (.iload_n 3, 1) := by decide +kernel
theorem dX7_puts_19 : decode cX7_puts 19 = .ok (.ireturn, 1) := by decide +kernel
set_option maxRecDepth 20000 in
theorem ggX7_learn_X7_isClue : GoodIn wsX7_learn wsX7_isClue := goodIn_r _ [7, 1, 8, 9, 6, 10, 27, 28, 29, 30, 31, 32, 33, 34, 35, 36, 37, 38, 39, 40, 41, 42, 43, 44, 45, 46, 47, 48, 49] (by decide +kernel) (by decide +kernel)
set_option maxRecDepth 20000 in
theorem gX7_learn_X7_isClue : GoodIn wsX7_learn (wsV RX7 170 RX7 yX7_isClue wsX7_isClue) := goodIn_app (goodIn_of _ (by decide +kernel)) ggX7_learn_X7_isClue
set_option maxRecDepth 20000 in
theorem ggX7_learn_X7_all : GoodIn wsX7_learn wsX7_all := goodIn_r _ [13] (by decide +kernel) (by decide +kernel)
set_option maxRecDepth 20000 in
theorem gX7_learn_X7_all : GoodIn wsX7_learn (va_wsS RX7 142 yX7_all wsX7_all) := goodIn_app (goodIn_of _ (by decide +kernel)) ggX7_learn_X7_all
set_option maxRecDepth 20000 in
theorem ggX7_learn_X7_in : GoodIn wsX7_learn wsX7_in := goodIn_r _ [10] (by decide +kernel) (by decide +kernel)
set_option maxRecDepth 20000 in
theorem gX7_learn_X7_in : GoodIn wsX7_learn (va_wsS RX7 56 yX7_in wsX7_in) := goodIn_app (goodIn_of _ (by decide +kernel)) ggX7_learn_X7_in
set_option maxRecDepth 20000 in
theorem ggX7_learn_X7_puts : GoodIn wsX7_learn wsX7_puts := goodIn_r _ [17, 1, 18, 19, 20, 6, 21, 22, 23, 24, 25, 26, 27, 28, 29, 30, 31, 32, 33, 34, 35, 36, 37, 38, 39, 40, 41, 42, 43, 44, 45, 46, 47, 48, 49] (by decide +kernel) (by decide +kernel)
set_option maxRecDepth 20000 in
theorem gX7_learn_X7_puts : GoodIn wsX7_learn (wsV RX7 173 RX7 yX7_puts wsX7_puts) := goodIn_app (goodIn_of _ (by decide +kernel)) ggX7_learn_X7_puts
theorem dX7_learn_0 : decode cX7_learn 0 = .ok (.aload_n 0, 1) := by decide +kernel
theorem dX7_learn_1 : decode cX7_learn 1 = .ok (.iload_n 1, 1) := by decide +kernel
theorem dX7_learn_2 : decode cX7_learn 2 = .ok (.invokevirtual 170, 3) := by decide +kernel
theorem dX7_learn_5 : decode cX7_learn 5 = .ok (.ifCond .eq 33, 3) := by decide +kernel
theorem dX7_learn_8 : decode cX7_learn 8 = .ok (.iload_n 2, 1) := by decide +kernel
theorem dX7_learn_9 : decode cX7_learn 9 = .ok (.iconst 1, 1) := by decide +kernel
theorem dX7_learn_10 : decode cX7_learn 10 = .ok (.aload_n 0, 1) := by decide +kernel
theorem dX7_learn_11 : decode cX7_learn 11 = .ok (.getfield 25, 3) := by decide +kernel
theorem dX7_learn_14 : decode cX7_learn 14 = .ok (.invokestatic 142, 3) := by decide +kernel
theorem dX7_learn_17 : decode cX7_learn 17 = .ok (.invokestatic 56, 3) := by decide +kernel
theorem dX7_learn_20 : decode cX7_learn 20 = .ok (.ifCond .eq 18, 3) := by decide +kernel
theorem dX7_learn_23 : decode cX7_learn 23 = .ok (.aload_n 0, 1) := by decide +kernel
theorem dX7_learn_24 : decode cX7_learn 24 = .ok (.iconst 5, 1) := by decide +kernel
theorem dX7_learn_25 : decode cX7_learn 25 = .ok (.iconst 4, 1) := by decide +kernel
theorem dX7_learn_26 : decode cX7_learn 26 = .ok (.iload_n 1, 1) := by decide +kernel
theorem dX7_learn_27 : decode cX7_learn 27 = .ok (.imul, 1) := by decide +kernel
theorem dX7_learn_28 : decode cX7_learn 28 = .ok (.iadd, 1) := by decide +kernel
theorem dX7_learn_29 : decode cX7_learn 29 = .ok (.iconst 1, 1) := by decide +kernel
theorem dX7_learn_30 : decode cX7_learn 30 = .ok (.iadd, 1) := by decide +kernel
theorem dX7_learn_31 : decode cX7_learn 31 = .ok (.iload_n 2, 1) := by decide +kernel
theorem dX7_learn_32 : decode cX7_learn 32 = .ok (.invokevirtual 173, 3) := by decide +kernel
theorem dX7_learn_35 : decode cX7_learn 35 = .ok (.goto 5, 3) := by decide +kernel
theorem dX7_learn_38 : decode cX7_learn 38 = .ok (.ldc 64, 2) := by decide +kernel
theorem dX7_learn_40 : decode cX7_learn 40 = .ok (.ireturn, 1) := by decide +kernel
set_option maxRecDepth 20000 in
theorem ggX7_shift_X7_isClue : GoodIn wsX7_shift wsX7_isClue := goodIn_r _ [7, 1, 8, 9, 6, 10, 24, 25, 26, 27, 28, 29, 30, 31, 32, 33, 34, 35, 36, 37, 38, 39, 40, 41, 42, 43, 44, 45, 46] (by decide +kernel) (by decide +kernel)
set_option maxRecDepth 20000 in
theorem gX7_shift_X7_isClue : GoodIn wsX7_shift (wsV RX7 170 RX7 yX7_isClue wsX7_isClue) := goodIn_app (goodIn_of _ (by decide +kernel)) ggX7_shift_X7_isClue
set_option maxRecDepth 20000 in
theorem ggX7_shift_X7_in : GoodIn wsX7_shift wsX7_in := goodIn_r _ [10] (by decide +kernel) (by decide +kernel)
set_option maxRecDepth 20000 in
theorem gX7_shift_X7_in : GoodIn wsX7_shift (va_wsS RX7 56 yX7_in wsX7_in) := goodIn_app (goodIn_of _ (by decide +kernel)) ggX7_shift_X7_in
set_option maxRecDepth 20000 in
theorem ggX7_shift_X7_puts : GoodIn wsX7_shift wsX7_puts := goodIn_r _ [14, 1, 15, 16, 17, 6, 18, 19, 20, 21, 22, 23, 24, 25, 26, 27, 28, 29, 30, 31, 32, 33, 34, 35, 36, 37, 38, 39, 40, 41, 42, 43, 44, 45, 46] (by decide +kernel) (by decide +kernel)
set_option maxRecDepth 20000 in
theorem gX7_shift_X7_puts : GoodIn wsX7_shift (wsV RX7 173 RX7 yX7_puts wsX7_puts) := goodIn_app (goodIn_of _ (by decide +kernel)) ggX7_shift_X7_puts
theorem dX7_shift_0 : decode cX7_shift 0 = .ok (.aload_n 0, 1) := by decide +kernel
theorem dX7_shift_1 : decode cX7_shift 1 = .ok (.iload_n 1, 1) := by decide +kernel
theorem dX7_shift_2 : decode cX7_shift 2 = .ok (.invokevirtual 170, 3) := by decide +kernel
theorem dX7_shift_5 : decode cX7_shift 5 = .ok (.ifCond .eq 40, 3) := by decide +kernel
theorem dX7_shift_8 : decode cX7_shift 8 = .ok (.iload_n 2, 1) := by decide +kernel
theorem dX7_shift_9 : decode cX7_shift 9 = .ok (.iconst 0, 1) := by decide +kernel
theorem dX7_shift_10 : decode cX7_shift 10 = .ok (.aload_n 0, 1) := by decide +kernel
theorem dX7_shift_11 : decode cX7_shift 11 = .ok (.getfield 25, 3) := by decide +kernel
theorem dX7_shift_14 : decode cX7_shift 14 = .ok (.iconst 5, 1) := by decide +kernel
theorem dX7_shift_15 : decode cX7_shift 15 = .ok (.iconst 4, 1) := by decide +kernel
theorem dX7_shift_16 : decode cX7_shift 16 = .ok (.iload_n 1, 1) := by decide +kernel
theorem dX7_shift_17 : decode cX7_shift 17 = .ok (.imul, 1) := by decide +kernel
theorem dX7_shift_18 : decode cX7_shift 18 = .ok (.iadd, 1) := by decide +kernel
theorem dX7_shift_19 : decode cX7_shift 19 = .ok (.iconst 2, 1) := by decide +kernel
theorem dX7_shift_20 : decode cX7_shift 20 = .ok (.iadd, 1) := by decide +kernel
theorem dX7_shift_21 : decode cX7_shift 21 = .ok (.iaload, 1) := by decide +kernel
theorem dX7_shift_22 : decode cX7_shift 22 = .ok (.iconst 1, 1) := by decide +kernel
theorem dX7_shift_23 : decode cX7_shift 23 = .ok (.isub, 1) := by decide +kernel
theorem dX7_shift_24 : decode cX7_shift 24 = .ok (.invokestatic 56, 3) := by decide +kernel
theorem dX7_shift_27 : decode cX7_shift 27 = .ok (.ifCond .eq 18, 3) := by decide +kernel
theorem dX7_shift_30 : decode cX7_shift 30 = .ok (.aload_n 0, 1) := by decide +kernel
theorem dX7_shift_31 : decode cX7_shift 31 = .ok (.iconst 5, 1) := by decide +kernel
theorem dX7_shift_32 : decode cX7_shift 32 = .ok (.iconst 4, 1) := by decide +kernel
theorem dX7_shift_33 : decode cX7_shift 33 = .ok (.iload_n 1, 1) := by decide +kernel
theorem dX7_shift_34 : decode cX7_shift 34 = .ok (.imul, 1) := by decide +kernel
theorem dX7_shift_35 : decode cX7_shift 35 = .ok (.iadd, 1) := by decide +kernel
theorem dX7_shift_36 : decode cX7_shift 36 = .ok (.iconst 3, 1) := by decide +kernel
theorem dX7_shift_37 : decode cX7_shift 37 = .ok (.iadd, 1) := by decide +kernel
theorem dX7_shift_38 : decode cX7_shift 38 = .ok (.iload_n 2, 1) := by decide +kernel
theorem dX7_shift_39 : decode cX7_shift 39 = .ok (.invokevirtual 173, 3) := by decide +kernel
theorem dX7_shift_42 : decode cX7_shift 42 = .ok (.goto 5, 3) := by decide +kernel
theorem dX7_shift_45 : decode cX7_shift 45 = .ok (.ldc 64, 2) := by decide +kernel
theorem dX7_shift_47 : decode cX7_shift 47 = .ok (.ireturn, 1) := by decide +kernel
set_option maxRecDepth 20000 in
theorem ggX7_undo_X7_copies : GoodIn wsX7_undo wsX7_copies := goodIn_r _ [8] (by decide +kernel) (by decide +kernel)
set_option maxRecDepth 20000 in
theorem gX7_undo_X7_copies : GoodIn wsX7_undo (va_wsS RX7 131 yX7_copies wsX7_copies) := goodIn_app (goodIn_of _ (by decide +kernel)) ggX7_undo_X7_copies
theorem dX7_undo_0 : decode cX7_undo 0 = .ok (.aload_n 0, 1) := by decide +kernel
theorem dX7_undo_1 : decode cX7_undo 1 = .ok (.getfield 135, 3) := by decide +kernel
theorem dX7_undo_4 : decode cX7_undo 4 = .ok (.ifCond .ne 6, 3) := by decide +kernel
theorem dX7_undo_7 : decode cX7_undo 7 = .ok (.ldc 163, 2) := by decide +kernel
theorem dX7_undo_9 : decode cX7_undo 9 = .ok (.ireturn, 1) := by decide +kernel
theorem dX7_undo_10 : decode cX7_undo 10 = .ok (.aload_n 0, 1) := by decide +kernel
theorem dX7_undo_11 : decode cX7_undo 11 = .ok (.dup, 1) := by decide +kernel
theorem dX7_undo_12 : decode cX7_undo 12 = .ok (.getfield 135, 3) := by decide +kernel
theorem dX7_undo_15 : decode cX7_undo 15 = .ok (.iconst 1, 1) := by decide +kernel
theorem dX7_undo_16 : decode cX7_undo 16 = .ok (.isub, 1) := by decide +kernel
theorem dX7_undo_17 : decode cX7_undo 17 = .ok (.putfield 135, 3) := by decide +kernel
theorem dX7_undo_20 : decode cX7_undo 20 = .ok (.aload_n 0, 1) := by decide +kernel
theorem dX7_undo_21 : decode cX7_undo 21 = .ok (.getfield 34, 3) := by decide +kernel
theorem dX7_undo_24 : decode cX7_undo 24 = .ok (.bipush 29, 2) := by decide +kernel
theorem dX7_undo_26 : decode cX7_undo 26 = .ok (.aload_n 0, 1) := by decide +kernel
theorem dX7_undo_27 : decode cX7_undo 27 = .ok (.getfield 135, 3) := by decide +kernel
theorem dX7_undo_30 : decode cX7_undo 30 = .ok (.imul, 1) := by decide +kernel
theorem dX7_undo_31 : decode cX7_undo 31 = .ok (.aload_n 0, 1) := by decide +kernel
theorem dX7_undo_32 : decode cX7_undo 32 = .ok (.getfield 25, 3) := by decide +kernel
theorem dX7_undo_35 : decode cX7_undo 35 = .ok (.iconst 0, 1) := by decide +kernel
theorem dX7_undo_36 : decode cX7_undo 36 = .ok (.invokestatic 131, 3) := by decide +kernel
theorem dX7_undo_39 : decode cX7_undo 39 = .ok (.aload_n 0, 1) := by decide +kernel
theorem dX7_undo_40 : decode cX7_undo 40 = .ok (.getfield 135, 3) := by decide +kernel
theorem dX7_undo_43 : decode cX7_undo 43 = .ok (.ireturn, 1) := by decide +kernel
set_option maxRecDepth 20000 in
theorem ggX7_clue_X7_isClue : GoodIn wsX7_clue wsX7_isClue := goodIn_r _ [7, 2, 8, 9, 6, 10, 23, 24, 25, 26, 27, 28, 29, 30, 31, 32, 33, 34, 35, 36, 37, 38, 39, 40, 41, 42, 43, 44, 45] (by decide +kernel) (by decide +kernel)
set_option maxRecDepth 20000 in
theorem gX7_clue_X7_isClue : GoodIn wsX7_clue (wsV RX7 170 RX7 yX7_isClue wsX7_isClue) := goodIn_app (goodIn_of _ (by decide +kernel)) ggX7_clue_X7_isClue
set_option maxRecDepth 20000 in
theorem ggX7_clue_X7_isAtWork : GoodIn wsX7_clue wsX7_isAtWork := goodIn_r _ [13] (by decide +kernel) (by decide +kernel)
set_option maxRecDepth 20000 in
theorem gX7_clue_X7_isAtWork : GoodIn wsX7_clue (va_wsS RX7 146 yX7_isAtWork wsX7_isAtWork) := goodIn_app (goodIn_of _ (by decide +kernel)) ggX7_clue_X7_isAtWork
set_option maxRecDepth 20000 in
theorem ggX7_clue_X7_leaves : GoodIn wsX7_clue wsX7_leaves := goodIn_r _ [16, 17, 18, 6, 19, 20, 21, 22] (by decide +kernel) (by decide +kernel)
set_option maxRecDepth 20000 in
theorem gX7_clue_X7_leaves : GoodIn wsX7_clue (va_wsS RX7 150 yX7_leaves wsX7_leaves) := goodIn_app (goodIn_of _ (by decide +kernel)) ggX7_clue_X7_leaves
theorem dX7_clue_0 : decode cX7_clue 0 = .ok (.aload_n 0, 1) := by decide +kernel
theorem dX7_clue_1 : decode cX7_clue 1 = .ok (.iload_n 1, 1) := by decide +kernel
theorem dX7_clue_2 : decode cX7_clue 2 = .ok (.invokevirtual 170, 3) := by decide +kernel
theorem dX7_clue_5 : decode cX7_clue 5 = .ok (.ifCond .ne 6, 3) := by decide +kernel
theorem dX7_clue_8 : decode cX7_clue 8 = .ok (.ldc 64, 2) := by decide +kernel
theorem dX7_clue_10 : decode cX7_clue 10 = .ok (.ireturn, 1) := by decide +kernel
theorem dX7_clue_11 : decode cX7_clue 11 = .ok (.iload_n 2, 1) := by decide +kernel
theorem dX7_clue_12 : decode cX7_clue 12 = .ok (.tableswitch 122 0 5 #[40, 53, 66, 79, 90, 113], 40) := by decide +kernel
theorem dX7_clue_52 : decode cX7_clue 52 = .ok (.aload_n 0, 1) := by decide +kernel
theorem dX7_clue_53 : decode cX7_clue 53 = .ok (.getfield 25, 3) := by decide +kernel
theorem dX7_clue_56 : decode cX7_clue 56 = .ok (.iconst 5, 1) := by decide +kernel
theorem dX7_clue_57 : decode cX7_clue 57 = .ok (.iconst 4, 1) := by decide +kernel
theorem dX7_clue_58 : decode cX7_clue 58 = .ok (.iload_n 1, 1) := by decide +kernel
theorem dX7_clue_59 : decode cX7_clue 59 = .ok (.imul, 1) := by decide +kernel
theorem dX7_clue_60 : decode cX7_clue 60 = .ok (.iadd, 1) := by decide +kernel
theorem dX7_clue_61 : decode cX7_clue 61 = .ok (.iconst 1, 1) := by decide +kernel
theorem dX7_clue_62 : decode cX7_clue 62 = .ok (.iadd, 1) := by decide +kernel
theorem dX7_clue_63 : decode cX7_clue 63 = .ok (.iaload, 1) := by decide +kernel
theorem dX7_clue_64 : decode cX7_clue 64 = .ok (.ireturn, 1) := by decide +kernel
theorem dX7_clue_65 : decode cX7_clue 65 = .ok (.aload_n 0, 1) := by decide +kernel
theorem dX7_clue_66 : decode cX7_clue 66 = .ok (.getfield 25, 3) := by decide +kernel
theorem dX7_clue_69 : decode cX7_clue 69 = .ok (.iconst 5, 1) := by decide +kernel
theorem dX7_clue_70 : decode cX7_clue 70 = .ok (.iconst 4, 1) := by decide +kernel
theorem dX7_clue_71 : decode cX7_clue 71 = .ok (.iload_n 1, 1) := by decide +kernel
theorem dX7_clue_72 : decode cX7_clue 72 = .ok (.imul, 1) := by decide +kernel
theorem dX7_clue_73 : decode cX7_clue 73 = .ok (.iadd, 1) := by decide +kernel
theorem dX7_clue_74 : decode cX7_clue 74 = .ok (.iconst 2, 1) := by decide +kernel
theorem dX7_clue_75 : decode cX7_clue 75 = .ok (.iadd, 1) := by decide +kernel
theorem dX7_clue_76 : decode cX7_clue 76 = .ok (.iaload, 1) := by decide +kernel
theorem dX7_clue_77 : decode cX7_clue 77 = .ok (.ireturn, 1) := by decide +kernel
theorem dX7_clue_78 : decode cX7_clue 78 = .ok (.aload_n 0, 1) := by decide +kernel
theorem dX7_clue_79 : decode cX7_clue 79 = .ok (.getfield 25, 3) := by decide +kernel
theorem dX7_clue_82 : decode cX7_clue 82 = .ok (.iconst 5, 1) := by decide +kernel
theorem dX7_clue_83 : decode cX7_clue 83 = .ok (.iconst 4, 1) := by decide +kernel
theorem dX7_clue_84 : decode cX7_clue 84 = .ok (.iload_n 1, 1) := by decide +kernel
theorem dX7_clue_85 : decode cX7_clue 85 = .ok (.imul, 1) := by decide +kernel
theorem dX7_clue_86 : decode cX7_clue 86 = .ok (.iadd, 1) := by decide +kernel
theorem dX7_clue_87 : decode cX7_clue 87 = .ok (.iconst 3, 1) := by decide +kernel
theorem dX7_clue_88 : decode cX7_clue 88 = .ok (.iadd, 1) := by decide +kernel
theorem dX7_clue_89 : decode cX7_clue 89 = .ok (.iaload, 1) := by decide +kernel
theorem dX7_clue_90 : decode cX7_clue 90 = .ok (.ireturn, 1) := by decide +kernel
theorem dX7_clue_91 : decode cX7_clue 91 = .ok (.aload_n 0, 1) := by decide +kernel
theorem dX7_clue_92 : decode cX7_clue 92 = .ok (.getfield 25, 3) := by decide +kernel
theorem dX7_clue_95 : decode cX7_clue 95 = .ok (.iconst 3, 1) := by decide +kernel
theorem dX7_clue_96 : decode cX7_clue 96 = .ok (.iaload, 1) := by decide +kernel
theorem dX7_clue_97 : decode cX7_clue 97 = .ok (.iload_n 1, 1) := by decide +kernel
theorem dX7_clue_98 : decode cX7_clue 98 = .ok (.ishr, 1) := by decide +kernel
theorem dX7_clue_99 : decode cX7_clue 99 = .ok (.iconst 1, 1) := by decide +kernel
theorem dX7_clue_100 : decode cX7_clue 100 = .ok (.iand, 1) := by decide +kernel
theorem dX7_clue_101 : decode cX7_clue 101 = .ok (.ireturn, 1) := by decide +kernel
theorem dX7_clue_102 : decode cX7_clue 102 = .ok (.aload_n 0, 1) := by decide +kernel
theorem dX7_clue_103 : decode cX7_clue 103 = .ok (.getfield 25, 3) := by decide +kernel
theorem dX7_clue_106 : decode cX7_clue 106 = .ok (.iload_n 1, 1) := by decide +kernel
theorem dX7_clue_107 : decode cX7_clue 107 = .ok (.aload_n 0, 1) := by decide +kernel
theorem dX7_clue_108 : decode cX7_clue 108 = .ok (.getfield 25, 3) := by decide +kernel
theorem dX7_clue_111 : decode cX7_clue 111 = .ok (.iconst 2, 1) := by decide +kernel
theorem dX7_clue_112 : decode cX7_clue 112 = .ok (.iaload, 1) := by decide +kernel
theorem dX7_clue_113 : decode cX7_clue 113 = .ok (.invokestatic 146, 3) := by decide +kernel
theorem dX7_clue_116 : decode cX7_clue 116 = .ok (.ifCond .eq 7, 3) := by decide +kernel
theorem dX7_clue_119 : decode cX7_clue 119 = .ok (.iconst 1, 1) := by decide +kernel
theorem dX7_clue_120 : decode cX7_clue 120 = .ok (.goto 4, 3) := by decide +kernel
theorem dX7_clue_123 : decode cX7_clue 123 = .ok (.iconst 0, 1) := by decide +kernel
theorem dX7_clue_124 : decode cX7_clue 124 = .ok (.ireturn, 1) := by decide +kernel
theorem dX7_clue_125 : decode cX7_clue 125 = .ok (.aload_n 0, 1) := by decide +kernel
theorem dX7_clue_126 : decode cX7_clue 126 = .ok (.getfield 25, 3) := by decide +kernel
theorem dX7_clue_129 : decode cX7_clue 129 = .ok (.iload_n 1, 1) := by decide +kernel
theorem dX7_clue_130 : decode cX7_clue 130 = .ok (.invokestatic 150, 3) := by decide +kernel
theorem dX7_clue_133 : decode cX7_clue 133 = .ok (.ireturn, 1) := by decide +kernel
theorem dX7_clue_134 : decode cX7_clue 134 = .ok (.ldc 64, 2) := by decide +kernel
theorem dX7_clue_136 : decode cX7_clue 136 = .ok (.ireturn, 1) := by decide +kernel
set_option maxRecDepth 20000 in
theorem ggX7_ahead_X7_isCity : GoodIn wsX7_ahead wsX7_isCity := goodIn_r _ [8, 3, 40, 41, 42, 43, 44, 45, 46, 47, 48, 49, 50, 51, 52, 53, 54, 55, 56, 57, 58, 59, 60, 61, 62] (by decide +kernel) (by decide +kernel)
set_option maxRecDepth 20000 in
theorem gX7_ahead_X7_isCity : GoodIn wsX7_ahead (wsV RX7 160 RX7 yX7_isCity wsX7_isCity) := goodIn_app (goodIn_of _ (by decide +kernel)) ggX7_ahead_X7_isCity
set_option maxRecDepth 20000 in
theorem ggX7_ahead_X7_isFar : GoodIn wsX7_ahead wsX7_isFar := goodIn_r _ [11, 12, 13, 7, 14] (by decide +kernel) (by decide +kernel)
set_option maxRecDepth 20000 in
theorem gX7_ahead_X7_isFar : GoodIn wsX7_ahead (va_wsS RX7 176 yX7_isFar wsX7_isFar) := goodIn_app (goodIn_of _ (by decide +kernel)) ggX7_ahead_X7_isFar
set_option maxRecDepth 20000 in
theorem ggX7_ahead_X7_in : GoodIn wsX7_ahead wsX7_in := goodIn_r _ [14] (by decide +kernel) (by decide +kernel)
set_option maxRecDepth 20000 in
theorem gX7_ahead_X7_in : GoodIn wsX7_ahead (va_wsS RX7 56 yX7_in wsX7_in) := goodIn_app (goodIn_of _ (by decide +kernel)) ggX7_ahead_X7_in
set_option maxRecDepth 20000 in
theorem ggX7_ahead_X7_leftOn : GoodIn wsX7_ahead wsX7_leftOn := goodIn_r _ [17, 18, 19, 7, 20, 21, 22, 23, 24, 25, 26, 27, 28, 29, 30, 31, 32, 33, 34, 35] (by decide +kernel) (by decide +kernel)
set_option maxRecDepth 20000 in
theorem gX7_ahead_X7_leftOn : GoodIn wsX7_ahead (va_wsS RX7 167 yX7_leftOn wsX7_leftOn) := goodIn_app (goodIn_of _ (by decide +kernel)) ggX7_ahead_X7_leftOn
set_option maxRecDepth 20000 in
theorem ggX7_ahead_X7_workers : GoodIn wsX7_ahead wsX7_workers := goodIn_r _ [20, 21, 22, 7, 23] (by decide +kernel) (by decide +kernel)
set_option maxRecDepth 20000 in
theorem gX7_ahead_X7_workers : GoodIn wsX7_ahead (va_wsS RX7 154 yX7_workers wsX7_workers) := goodIn_app (goodIn_of _ (by decide +kernel)) ggX7_ahead_X7_workers
set_option maxRecDepth 20000 in
theorem ggX7_ahead_X7_only : GoodIn wsX7_ahead wsX7_only := goodIn_r _ [38, 39] (by decide +kernel) (by decide +kernel)
set_option maxRecDepth 20000 in
theorem gX7_ahead_X7_only : GoodIn wsX7_ahead (va_wsS RX7 179 yX7_only wsX7_only) := goodIn_app (goodIn_of _ (by decide +kernel)) ggX7_ahead_X7_only
theorem dX7_ahead_0 : decode cX7_ahead 0 = .ok (.aload_n 0, 1) := by decide +kernel
theorem dX7_ahead_1 : decode cX7_ahead 1 = .ok (.invokevirtual 160, 3) := by decide +kernel
theorem dX7_ahead_4 : decode cX7_ahead 4 = .ok (.ifCond .ne 6, 3) := by decide +kernel
theorem dX7_ahead_7 : decode cX7_ahead 7 = .ok (.ldc 163, 2) := by decide +kernel
theorem dX7_ahead_9 : decode cX7_ahead 9 = .ok (.ireturn, 1) := by decide +kernel
theorem dX7_ahead_10 : decode cX7_ahead 10 = .ok (.iload_n 1, 1) := by decide +kernel
theorem dX7_ahead_11 : decode cX7_ahead 11 = .ok (.invokestatic 176, 3) := by decide +kernel
theorem dX7_ahead_14 : decode cX7_ahead 14 = .ok (.ifCond .eq 12, 3) := by decide +kernel
theorem dX7_ahead_17 : decode cX7_ahead 17 = .ok (.iload_n 2, 1) := by decide +kernel
theorem dX7_ahead_18 : decode cX7_ahead 18 = .ok (.iconst 0, 1) := by decide +kernel
theorem dX7_ahead_19 : decode cX7_ahead 19 = .ok (.iconst 2, 1) := by decide +kernel
theorem dX7_ahead_20 : decode cX7_ahead 20 = .ok (.invokestatic 56, 3) := by decide +kernel
theorem dX7_ahead_23 : decode cX7_ahead 23 = .ok (.ifCond .ne 6, 3) := by decide +kernel
theorem dX7_ahead_26 : decode cX7_ahead 26 = .ok (.ldc 64, 2) := by decide +kernel
theorem dX7_ahead_28 : decode cX7_ahead 28 = .ok (.ireturn, 1) := by decide +kernel
theorem dX7_ahead_29 : decode cX7_ahead 29 = .ok (.aload_n 0, 1) := by decide +kernel
theorem dX7_ahead_30 : decode cX7_ahead 30 = .ok (.getfield 25, 3) := by decide +kernel
theorem dX7_ahead_33 : decode cX7_ahead 33 = .ok (.aload_n 0, 1) := by decide +kernel
theorem dX7_ahead_34 : decode cX7_ahead 34 = .ok (.getfield 25, 3) := by decide +kernel
theorem dX7_ahead_37 : decode cX7_ahead 37 = .ok (.iconst 2, 1) := by decide +kernel
theorem dX7_ahead_38 : decode cX7_ahead 38 = .ok (.iaload, 1) := by decide +kernel
theorem dX7_ahead_39 : decode cX7_ahead 39 = .ok (.iload_n 1, 1) := by decide +kernel
theorem dX7_ahead_40 : decode cX7_ahead 40 = .ok (.iadd, 1) := by decide +kernel
theorem dX7_ahead_41 : decode cX7_ahead 41 = .ok (.invokestatic 167, 3) := by decide +kernel
theorem dX7_ahead_44 : decode cX7_ahead 44 = .ok (.istore_n 3, 1) := by decide +kernel
theorem dX7_ahead_45 : decode cX7_ahead 45 = .ok (.iload_n 2, 1) := by decide +kernel
theorem dX7_ahead_46 : decode cX7_ahead 46 = .ok (.ifCond .ne 7, 3) := by decide +kernel
theorem dX7_ahead_49 : decode cX7_ahead 49 = .ok (.iload_n 3, 1) := by decide +kernel
theorem dX7_ahead_50 : decode cX7_ahead 50 = .ok (.goto 30, 3) := by decide +kernel
theorem dX7_ahead_53 : decode cX7_ahead 53 = .ok (.iload_n 2, 1) := by decide +kernel
theorem dX7_ahead_54 : decode cX7_ahead 54 = .ok (.iconst 1, 1) := by decide +kernel
theorem dX7_ahead_55 : decode cX7_ahead 55 = .ok (.if_icmp .ne 21, 3) := by decide +kernel
theorem dX7_ahead_58 : decode cX7_ahead 58 = .ok (.aload_n 0, 1) := by decide +kernel
theorem dX7_ahead_59 : decode cX7_ahead 59 = .ok (.getfield 25, 3) := by decide +kernel
theorem dX7_ahead_62 : decode cX7_ahead 62 = .ok (.aload_n 0, 1) := by decide +kernel
theorem dX7_ahead_63 : decode cX7_ahead 63 = .ok (.getfield 25, 3) := by decide +kernel
theorem dX7_ahead_66 : decode cX7_ahead 66 = .ok (.iconst 2, 1) := by decide +kernel
theorem dX7_ahead_67 : decode cX7_ahead 67 = .ok (.iaload, 1) := by decide +kernel
theorem dX7_ahead_68 : decode cX7_ahead 68 = .ok (.iload_n 1, 1) := by decide +kernel
theorem dX7_ahead_69 : decode cX7_ahead 69 = .ok (.iadd, 1) := by decide +kernel
theorem dX7_ahead_70 : decode cX7_ahead 70 = .ok (.invokestatic 154, 3) := by decide +kernel
theorem dX7_ahead_73 : decode cX7_ahead 73 = .ok (.goto 7, 3) := by decide +kernel
theorem dX7_ahead_76 : decode cX7_ahead 76 = .ok (.iload_n 3, 1) := by decide +kernel
theorem dX7_ahead_77 : decode cX7_ahead 77 = .ok (.invokestatic 179, 3) := by decide +kernel
theorem dX7_ahead_80 : decode cX7_ahead 80 = .ok (.ireturn, 1) := by decide +kernel
set_option maxRecDepth 20000 in
theorem ggX7_first_X7_isCity : GoodIn wsX7_first wsX7_isCity := goodIn_r _ [9, 3, 37, 38, 39, 40, 41, 42, 43, 44, 45, 46, 47, 48, 49, 50, 51, 52, 53, 54, 55, 56, 57, 58, 59] (by decide +kernel) (by decide +kernel)
set_option maxRecDepth 20000 in
theorem gX7_first_X7_isCity : GoodIn wsX7_first (wsV RX7 160 RX7 yX7_isCity wsX7_isCity) := goodIn_app (goodIn_of _ (by decide +kernel)) ggX7_first_X7_isCity
set_option maxRecDepth 20000 in
theorem ggX7_first_X7_in : GoodIn wsX7_first wsX7_in := goodIn_r _ [12] (by decide +kernel) (by decide +kernel)
set_option maxRecDepth 20000 in
theorem gX7_first_X7_in : GoodIn wsX7_first (va_wsS RX7 56 yX7_in wsX7_in) := goodIn_app (goodIn_of _ (by decide +kernel)) ggX7_first_X7_in
set_option maxRecDepth 20000 in
theorem ggX7_first_X7_leftOn : GoodIn wsX7_first wsX7_leftOn := goodIn_r _ [15, 16, 17, 8, 18, 19, 20, 21, 22, 23, 24, 25, 26, 27, 28, 29, 30, 31, 32, 33] (by decide +kernel) (by decide +kernel)
set_option maxRecDepth 20000 in
theorem gX7_first_X7_leftOn : GoodIn wsX7_first (va_wsS RX7 167 yX7_leftOn wsX7_leftOn) := goodIn_app (goodIn_of _ (by decide +kernel)) ggX7_first_X7_leftOn
set_option maxRecDepth 20000 in
theorem ggX7_first_X7_ones : GoodIn wsX7_first wsX7_ones := goodIn_r _ [36] (by decide +kernel) (by decide +kernel)
set_option maxRecDepth 20000 in
theorem gX7_first_X7_ones : GoodIn wsX7_first (va_wsS RX7 182 yX7_ones wsX7_ones) := goodIn_app (goodIn_of _ (by decide +kernel)) ggX7_first_X7_ones
theorem dX7_first_0 : decode cX7_first 0 = .ok (.aload_n 0, 1) := by decide +kernel
theorem dX7_first_1 : decode cX7_first 1 = .ok (.invokevirtual 160, 3) := by decide +kernel
theorem dX7_first_4 : decode cX7_first 4 = .ok (.ifCond .ne 6, 3) := by decide +kernel
theorem dX7_first_7 : decode cX7_first 7 = .ok (.ldc 163, 2) := by decide +kernel
theorem dX7_first_9 : decode cX7_first 9 = .ok (.ireturn, 1) := by decide +kernel
theorem dX7_first_10 : decode cX7_first 10 = .ok (.iload_n 1, 1) := by decide +kernel
theorem dX7_first_11 : decode cX7_first 11 = .ok (.iconst 0, 1) := by decide +kernel
theorem dX7_first_12 : decode cX7_first 12 = .ok (.iconst 1, 1) := by decide +kernel
theorem dX7_first_13 : decode cX7_first 13 = .ok (.invokestatic 56, 3) := by decide +kernel
theorem dX7_first_16 : decode cX7_first 16 = .ok (.ifCond .ne 6, 3) := by decide +kernel
theorem dX7_first_19 : decode cX7_first 19 = .ok (.ldc 64, 2) := by decide +kernel
theorem dX7_first_21 : decode cX7_first 21 = .ok (.ireturn, 1) := by decide +kernel
theorem dX7_first_22 : decode cX7_first 22 = .ok (.iconst 0, 1) := by decide +kernel
theorem dX7_first_23 : decode cX7_first 23 = .ok (.istore_n 2, 1) := by decide +kernel
theorem dX7_first_24 : decode cX7_first 24 = .ok (.iload_n 2, 1) := by decide +kernel
theorem dX7_first_25 : decode cX7_first 25 = .ok (.bipush 100, 2) := by decide +kernel
theorem dX7_first_27 : decode cX7_first 27 = .ok (.if_icmp .ge 35, 3) := by decide +kernel
theorem dX7_first_30 : decode cX7_first 30 = .ok (.aload_n 0, 1) := by decide +kernel
theorem dX7_first_31 : decode cX7_first 31 = .ok (.getfield 25, 3) := by decide +kernel
theorem dX7_first_34 : decode cX7_first 34 = .ok (.aload_n 0, 1) := by decide +kernel
theorem dX7_first_35 : decode cX7_first 35 = .ok (.getfield 25, 3) := by decide +kernel
theorem dX7_first_38 : decode cX7_first 38 = .ok (.iconst 2, 1) := by decide +kernel
theorem dX7_first_39 : decode cX7_first 39 = .ok (.iaload, 1) := by decide +kernel
theorem dX7_first_40 : decode cX7_first 40 = .ok (.iload_n 2, 1) := by decide +kernel
theorem dX7_first_41 : decode cX7_first 41 = .ok (.iadd, 1) := by decide +kernel
theorem dX7_first_42 : decode cX7_first 42 = .ok (.invokestatic 167, 3) := by decide +kernel
theorem dX7_first_45 : decode cX7_first 45 = .ok (.invokestatic 182, 3) := by decide +kernel
theorem dX7_first_48 : decode cX7_first 48 = .ok (.iconst 1, 1) := by decide +kernel
theorem dX7_first_49 : decode cX7_first 49 = .ok (.iload_n 1, 1) := by decide +kernel
theorem dX7_first_50 : decode cX7_first 50 = .ok (.isub, 1) := by decide +kernel
theorem dX7_first_51 : decode cX7_first 51 = .ok (.if_icmp .ne 5, 3) := by decide +kernel
theorem dX7_first_54 : decode cX7_first 54 = .ok (.iload_n 2, 1) := by decide +kernel
theorem dX7_first_55 : decode cX7_first 55 = .ok (.ireturn, 1) := by decide +kernel
theorem dX7_first_56 : decode cX7_first 56 = .ok (.iinc 2 1, 3) := by decide +kernel
theorem dX7_first_59 : decode cX7_first 59 = .ok (.goto (-35), 3) := by decide +kernel
theorem dX7_first_62 : decode cX7_first 62 = .ok (.ldc 50, 2) := by decide +kernel
theorem dX7_first_64 : decode cX7_first 64 = .ok (.ireturn, 1) := by decide +kernel
set_option maxRecDepth 20000 in
theorem ggX7_sureDays_X7_leftOn : GoodIn wsX7_sureDays wsX7_leftOn := goodIn_r _ [5, 6, 7, 4, 8, 9, 10, 11, 12, 13, 14, 15, 16, 17, 18, 19, 20, 21, 22, 23] (by decide +kernel) (by decide +kernel)
set_option maxRecDepth 20000 in
theorem gX7_sureDays_X7_leftOn : GoodIn wsX7_sureDays (va_wsS RX7 167 yX7_leftOn wsX7_leftOn) := goodIn_app (goodIn_of _ (by decide +kernel)) ggX7_sureDays_X7_leftOn
set_option maxRecDepth 20000 in
theorem ggX7_sureDays_X7_ones : GoodIn wsX7_sureDays wsX7_ones := goodIn_r _ [26] (by decide +kernel) (by decide +kernel)
set_option maxRecDepth 20000 in
theorem gX7_sureDays_X7_ones : GoodIn wsX7_sureDays (va_wsS RX7 182 yX7_ones wsX7_ones) := goodIn_app (goodIn_of _ (by decide +kernel)) ggX7_sureDays_X7_ones
theorem dX7_sureDays_0 : decode cX7_sureDays 0 = .ok (.iconst 0, 1) := by decide +kernel
theorem dX7_sureDays_1 : decode cX7_sureDays 1 = .ok (.istore_n 2, 1) := by decide +kernel
theorem dX7_sureDays_2 : decode cX7_sureDays 2 = .ok (.iconst 0, 1) := by decide +kernel
theorem dX7_sureDays_3 : decode cX7_sureDays 3 = .ok (.istore_n 3, 1) := by decide +kernel
theorem dX7_sureDays_4 : decode cX7_sureDays 4 = .ok (.iload_n 3, 1) := by decide +kernel
theorem dX7_sureDays_5 : decode cX7_sureDays 5 = .ok (.iload_n 1, 1) := by decide +kernel
theorem dX7_sureDays_6 : decode cX7_sureDays 6 = .ok (.if_icmp .ge 39, 3) := by decide +kernel
theorem dX7_sureDays_9 : decode cX7_sureDays 9 = .ok (.iload_n 2, 1) := by decide +kernel
theorem dX7_sureDays_10 : decode cX7_sureDays 10 = .ok (.aload_n 0, 1) := by decide +kernel
theorem dX7_sureDays_11 : decode cX7_sureDays 11 = .ok (.getfield 31, 3) := by decide +kernel
theorem dX7_sureDays_14 : decode cX7_sureDays 14 = .ok (.aload_n 0, 1) := by decide +kernel
theorem dX7_sureDays_15 : decode cX7_sureDays 15 = .ok (.getfield 31, 3) := by decide +kernel
theorem dX7_sureDays_18 : decode cX7_sureDays 18 = .ok (.iconst 2, 1) := by decide +kernel
theorem dX7_sureDays_19 : decode cX7_sureDays 19 = .ok (.iaload, 1) := by decide +kernel
theorem dX7_sureDays_20 : decode cX7_sureDays 20 = .ok (.iload_n 3, 1) := by decide +kernel
theorem dX7_sureDays_21 : decode cX7_sureDays 21 = .ok (.iadd, 1) := by decide +kernel
theorem dX7_sureDays_22 : decode cX7_sureDays 22 = .ok (.invokestatic 167, 3) := by decide +kernel
theorem dX7_sureDays_25 : decode cX7_sureDays 25 = .ok (.invokestatic 182, 3) := by decide +kernel
theorem dX7_sureDays_28 : decode cX7_sureDays 28 = .ok (.iconst 1, 1) := by decide +kernel
theorem dX7_sureDays_29 : decode cX7_sureDays 29 = .ok (.if_icmp .ne 7, 3) := by decide +kernel
theorem dX7_sureDays_32 : decode cX7_sureDays 32 = .ok (.iconst 1, 1) := by decide +kernel
theorem dX7_sureDays_33 : decode cX7_sureDays 33 = .ok (.goto 4, 3) := by decide +kernel
theorem dX7_sureDays_36 : decode cX7_sureDays 36 = .ok (.iconst 0, 1) := by decide +kernel
theorem dX7_sureDays_37 : decode cX7_sureDays 37 = .ok (.iadd, 1) := by decide +kernel
theorem dX7_sureDays_38 : decode cX7_sureDays 38 = .ok (.istore_n 2, 1) := by decide +kernel
theorem dX7_sureDays_39 : decode cX7_sureDays 39 = .ok (.iinc 3 1, 3) := by decide +kernel
theorem dX7_sureDays_42 : decode cX7_sureDays 42 = .ok (.goto (-38), 3) := by decide +kernel
theorem dX7_sureDays_45 : decode cX7_sureDays 45 = .ok (.iload_n 2, 1) := by decide +kernel
theorem dX7_sureDays_46 : decode cX7_sureDays 46 = .ok (.ireturn, 1) := by decide +kernel
theorem dX7_counts_0 : decode cX7_counts 0 = .ok (.aload_n 0, 1) := by decide +kernel
theorem dX7_counts_1 : decode cX7_counts 1 = .ok (.getfield 31, 3) := by decide +kernel
theorem dX7_counts_4 : decode cX7_counts 4 = .ok (.iconst 4, 1) := by decide +kernel
theorem dX7_counts_5 : decode cX7_counts 5 = .ok (.iaload, 1) := by decide +kernel
theorem dX7_counts_6 : decode cX7_counts 6 = .ok (.iconst 1, 1) := by decide +kernel
theorem dX7_counts_7 : decode cX7_counts 7 = .ok (.isub, 1) := by decide +kernel
theorem dX7_counts_8 : decode cX7_counts 8 = .ok (.istore_n 1, 1) := by decide +kernel
theorem dX7_counts_9 : decode cX7_counts 9 = .ok (.iload_n 1, 1) := by decide +kernel
theorem dX7_counts_10 : decode cX7_counts 10 = .ok (.ifCond .lt 57, 3) := by decide +kernel
theorem dX7_counts_13 : decode cX7_counts 13 = .ok (.iconst 5, 1) := by decide +kernel
theorem dX7_counts_14 : decode cX7_counts 14 = .ok (.iconst 4, 1) := by decide +kernel
theorem dX7_counts_15 : decode cX7_counts 15 = .ok (.iload_n 1, 1) := by decide +kernel
theorem dX7_counts_16 : decode cX7_counts 16 = .ok (.imul, 1) := by decide +kernel
theorem dX7_counts_17 : decode cX7_counts 17 = .ok (.iadd, 1) := by decide +kernel
theorem dX7_counts_18 : decode cX7_counts 18 = .ok (.istore_n 2, 1) := by decide +kernel
theorem dX7_counts_19 : decode cX7_counts 19 = .ok (.aload_n 0, 1) := by decide +kernel
theorem dX7_counts_20 : decode cX7_counts 20 = .ok (.getfield 31, 3) := by decide +kernel
theorem dX7_counts_23 : decode cX7_counts 23 = .ok (.iload_n 2, 1) := by decide +kernel
theorem dX7_counts_24 : decode cX7_counts 24 = .ok (.iconst 3, 1) := by decide +kernel
theorem dX7_counts_25 : decode cX7_counts 25 = .ok (.iadd, 1) := by decide +kernel
theorem dX7_counts_26 : decode cX7_counts 26 = .ok (.dup2, 1) := by decide +kernel
theorem dX7_counts_27 : decode cX7_counts 27 = .ok (.iaload, 1) := by decide +kernel
theorem dX7_counts_28 : decode cX7_counts 28 = .ok (.iconst 1, 1) := by decide +kernel
theorem dX7_counts_29 : decode cX7_counts 29 = .ok (.iadd, 1) := by decide +kernel
theorem dX7_counts_30 : decode cX7_counts 30 = .ok (.iastore, 1) := by decide +kernel
theorem dX7_counts_31 : decode cX7_counts 31 = .ok (.aload_n 0, 1) := by decide +kernel
theorem dX7_counts_32 : decode cX7_counts 32 = .ok (.getfield 31, 3) := by decide +kernel
theorem dX7_counts_35 : decode cX7_counts 35 = .ok (.iload_n 2, 1) := by decide +kernel
theorem dX7_counts_36 : decode cX7_counts 36 = .ok (.iconst 3, 1) := by decide +kernel
theorem dX7_counts_37 : decode cX7_counts 37 = .ok (.iadd, 1) := by decide +kernel
theorem dX7_counts_38 : decode cX7_counts 38 = .ok (.iaload, 1) := by decide +kernel
theorem dX7_counts_39 : decode cX7_counts 39 = .ok (.aload_n 0, 1) := by decide +kernel
theorem dX7_counts_40 : decode cX7_counts 40 = .ok (.getfield 31, 3) := by decide +kernel
theorem dX7_counts_43 : decode cX7_counts 43 = .ok (.iload_n 2, 1) := by decide +kernel
theorem dX7_counts_44 : decode cX7_counts 44 = .ok (.iconst 2, 1) := by decide +kernel
theorem dX7_counts_45 : decode cX7_counts 45 = .ok (.iadd, 1) := by decide +kernel
theorem dX7_counts_46 : decode cX7_counts 46 = .ok (.iaload, 1) := by decide +kernel
theorem dX7_counts_47 : decode cX7_counts 47 = .ok (.if_icmp .ge 5, 3) := by decide +kernel
theorem dX7_counts_50 : decode cX7_counts 50 = .ok (.iconst 1, 1) := by decide +kernel
theorem dX7_counts_51 : decode cX7_counts 51 = .ok (.ireturn, 1) := by decide +kernel
theorem dX7_counts_52 : decode cX7_counts 52 = .ok (.aload_n 0, 1) := by decide +kernel
theorem dX7_counts_53 : decode cX7_counts 53 = .ok (.getfield 31, 3) := by decide +kernel
theorem dX7_counts_56 : decode cX7_counts 56 = .ok (.iload_n 2, 1) := by decide +kernel
theorem dX7_counts_57 : decode cX7_counts 57 = .ok (.iconst 3, 1) := by decide +kernel
theorem dX7_counts_58 : decode cX7_counts 58 = .ok (.iadd, 1) := by decide +kernel
theorem dX7_counts_59 : decode cX7_counts 59 = .ok (.iconst 0, 1) := by decide +kernel
theorem dX7_counts_60 : decode cX7_counts 60 = .ok (.iastore, 1) := by decide +kernel
theorem dX7_counts_61 : decode cX7_counts 61 = .ok (.iinc 1 (-1), 3) := by decide +kernel
theorem dX7_counts_64 : decode cX7_counts 64 = .ok (.goto (-55), 3) := by decide +kernel
theorem dX7_counts_67 : decode cX7_counts 67 = .ok (.iconst 0, 1) := by decide +kernel
theorem dX7_counts_68 : decode cX7_counts 68 = .ok (.ireturn, 1) := by decide +kernel
set_option maxRecDepth 20000 in
theorem ggX7_rota_X7_isCity : GoodIn wsX7_rota wsX7_isCity := goodIn_r _ [11, 3, 54, 55, 56, 57, 58, 59, 60, 61, 62, 63, 64, 65, 66, 67, 68, 69, 70, 71, 72, 73, 74, 75, 76] (by decide +kernel) (by decide +kernel)
set_option maxRecDepth 20000 in
theorem gX7_rota_X7_isCity : GoodIn wsX7_rota (wsV RX7 160 RX7 yX7_isCity wsX7_isCity) := goodIn_app (goodIn_of _ (by decide +kernel)) ggX7_rota_X7_isCity
set_option maxRecDepth 20000 in
theorem ggX7_rota_X7_in : GoodIn wsX7_rota wsX7_in := goodIn_r _ [14] (by decide +kernel) (by decide +kernel)
set_option maxRecDepth 20000 in
theorem gX7_rota_X7_in : GoodIn wsX7_rota (va_wsS RX7 56 yX7_in wsX7_in) := goodIn_app (goodIn_of _ (by decide +kernel)) ggX7_rota_X7_in
set_option maxRecDepth 20000 in
theorem ggX7_rota_X7_copies : GoodIn wsX7_rota wsX7_copies := goodIn_r _ [17] (by decide +kernel) (by decide +kernel)
set_option maxRecDepth 20000 in
theorem gX7_rota_X7_copies : GoodIn wsX7_rota (va_wsS RX7 131 yX7_copies wsX7_copies) := goodIn_app (goodIn_of _ (by decide +kernel)) ggX7_rota_X7_copies
set_option maxRecDepth 20000 in
theorem ggX7_rota_X7_sureDays : GoodIn wsX7_rota wsX7_sureDays := goodIn_r _ [21, 4, 22, 23, 10, 24, 25, 26, 27, 28, 29, 30, 31, 32, 33, 34, 35, 36, 37, 38, 39, 40, 41, 42, 43, 44, 45, 54, 55, 56, 57, 58, 59, 60, 61, 62, 63, 64, 65, 66, 67, 68, 69, 70, 71, 72, 73, 74, 75, 76] (by decide +kernel) (by decide +kernel)
set_option maxRecDepth 20000 in
theorem gX7_rota_X7_sureDays : GoodIn wsX7_rota (wsV RX7 185 RX7 yX7_sureDays wsX7_sureDays) := goodIn_app (goodIn_of _ (by decide +kernel)) ggX7_rota_X7_sureDays
set_option maxRecDepth 20000 in
theorem ggX7_rota_X7_counts : GoodIn wsX7_rota wsX7_counts := goodIn_r _ [49, 4, 54, 55, 56, 57, 58, 59, 60, 61, 62, 63, 64, 65, 66, 67, 68, 69, 70, 71, 72, 73, 74, 75, 76] (by decide +kernel) (by decide +kernel)
set_option maxRecDepth 20000 in
theorem gX7_rota_X7_counts : GoodIn wsX7_rota (wsV RX7 188 RX7 yX7_counts wsX7_counts) := goodIn_app (goodIn_of _ (by decide +kernel)) ggX7_rota_X7_counts
set_option maxRecDepth 20000 in
theorem ggX7_rota_X7_isClue : GoodIn wsX7_rota wsX7_isClue := goodIn_r _ [53, 3, 12, 13, 10, 14, 54, 55, 56, 57, 58, 59, 60, 61, 62, 63, 64, 65, 66, 67, 68, 69, 70, 71, 72, 73, 74, 75, 76] (by decide +kernel) (by decide +kernel)
set_option maxRecDepth 20000 in
theorem gX7_rota_X7_isClue : GoodIn wsX7_rota (wsV RX7 170 RX7 yX7_isClue wsX7_isClue) := goodIn_app (goodIn_of _ (by decide +kernel)) ggX7_rota_X7_isClue
theorem dX7_rota_0 : decode cX7_rota 0 = .ok (.aload_n 0, 1) := by decide +kernel
theorem dX7_rota_1 : decode cX7_rota 1 = .ok (.invokevirtual 160, 3) := by decide +kernel
theorem dX7_rota_4 : decode cX7_rota 4 = .ok (.ifCond .ne 6, 3) := by decide +kernel
theorem dX7_rota_7 : decode cX7_rota 7 = .ok (.ldc 163, 2) := by decide +kernel
theorem dX7_rota_9 : decode cX7_rota 9 = .ok (.ireturn, 1) := by decide +kernel
theorem dX7_rota_10 : decode cX7_rota 10 = .ok (.iload_n 1, 1) := by decide +kernel
theorem dX7_rota_11 : decode cX7_rota 11 = .ok (.iconst 1, 1) := by decide +kernel
theorem dX7_rota_12 : decode cX7_rota 12 = .ok (.bipush 14, 2) := by decide +kernel
theorem dX7_rota_14 : decode cX7_rota 14 = .ok (.invokestatic 56, 3) := by decide +kernel
theorem dX7_rota_17 : decode cX7_rota 17 = .ok (.ifCond .eq 12, 3) := by decide +kernel
theorem dX7_rota_20 : decode cX7_rota 20 = .ok (.iload_n 2, 1) := by decide +kernel
theorem dX7_rota_21 : decode cX7_rota 21 = .ok (.iconst (-1), 1) := by decide +kernel
theorem dX7_rota_22 : decode cX7_rota 22 = .ok (.iconst 5, 1) := by decide +kernel
theorem dX7_rota_23 : decode cX7_rota 23 = .ok (.invokestatic 56, 3) := by decide +kernel
theorem dX7_rota_26 : decode cX7_rota 26 = .ok (.ifCond .ne 6, 3) := by decide +kernel
theorem dX7_rota_29 : decode cX7_rota 29 = .ok (.ldc 64, 2) := by decide +kernel
theorem dX7_rota_31 : decode cX7_rota 31 = .ok (.ireturn, 1) := by decide +kernel
theorem dX7_rota_32 : decode cX7_rota 32 = .ok (.aload_n 0, 1) := by decide +kernel
theorem dX7_rota_33 : decode cX7_rota 33 = .ok (.getfield 25, 3) := by decide +kernel
theorem dX7_rota_36 : decode cX7_rota 36 = .ok (.iconst 0, 1) := by decide +kernel
theorem dX7_rota_37 : decode cX7_rota 37 = .ok (.aload_n 0, 1) := by decide +kernel
theorem dX7_rota_38 : decode cX7_rota 38 = .ok (.getfield 31, 3) := by decide +kernel
theorem dX7_rota_41 : decode cX7_rota 41 = .ok (.iconst 0, 1) := by decide +kernel
theorem dX7_rota_42 : decode cX7_rota 42 = .ok (.invokestatic 131, 3) := by decide +kernel
theorem dX7_rota_45 : decode cX7_rota 45 = .ok (.iconst 0, 1) := by decide +kernel
theorem dX7_rota_46 : decode cX7_rota 46 = .ok (.istore_n 3, 1) := by decide +kernel
theorem dX7_rota_47 : decode cX7_rota 47 = .ok (.iload_n 3, 1) := by decide +kernel
theorem dX7_rota_48 : decode cX7_rota 48 = .ok (.aload_n 0, 1) := by decide +kernel
theorem dX7_rota_49 : decode cX7_rota 49 = .ok (.getfield 25, 3) := by decide +kernel
theorem dX7_rota_52 : decode cX7_rota 52 = .ok (.iconst 4, 1) := by decide +kernel
theorem dX7_rota_53 : decode cX7_rota 53 = .ok (.iaload, 1) := by decide +kernel
theorem dX7_rota_54 : decode cX7_rota 54 = .ok (.if_icmp .ge 22, 3) := by decide +kernel
theorem dX7_rota_57 : decode cX7_rota 57 = .ok (.aload_n 0, 1) := by decide +kernel
theorem dX7_rota_58 : decode cX7_rota 58 = .ok (.getfield 31, 3) := by decide +kernel
theorem dX7_rota_61 : decode cX7_rota 61 = .ok (.iconst 5, 1) := by decide +kernel
theorem dX7_rota_62 : decode cX7_rota 62 = .ok (.iconst 4, 1) := by decide +kernel
theorem dX7_rota_63 : decode cX7_rota 63 = .ok (.iload_n 3, 1) := by decide +kernel
theorem dX7_rota_64 : decode cX7_rota 64 = .ok (.imul, 1) := by decide +kernel
theorem dX7_rota_65 : decode cX7_rota 65 = .ok (.iadd, 1) := by decide +kernel
theorem dX7_rota_66 : decode cX7_rota 66 = .ok (.iconst 3, 1) := by decide +kernel
theorem dX7_rota_67 : decode cX7_rota 67 = .ok (.iadd, 1) := by decide +kernel
theorem dX7_rota_68 : decode cX7_rota 68 = .ok (.iconst 0, 1) := by decide +kernel
theorem dX7_rota_69 : decode cX7_rota 69 = .ok (.iastore, 1) := by decide +kernel
theorem dX7_rota_70 : decode cX7_rota 70 = .ok (.iinc 3 1, 3) := by decide +kernel
theorem dX7_rota_73 : decode cX7_rota 73 = .ok (.goto (-26), 3) := by decide +kernel
theorem dX7_rota_76 : decode cX7_rota 76 = .ok (.ldc 50, 2) := by decide +kernel
theorem dX7_rota_78 : decode cX7_rota 78 = .ok (.istore_n 3, 1) := by decide +kernel
theorem dX7_rota_79 : decode cX7_rota 79 = .ok (.iconst 1, 1) := by decide +kernel
theorem dX7_rota_80 : decode cX7_rota 80 = .ok (.istore 4, 2) := by decide +kernel
theorem dX7_rota_82 : decode cX7_rota 82 = .ok (.iload 4, 2) := by decide +kernel
theorem dX7_rota_84 : decode cX7_rota 84 = .ok (.ifCond .eq 78, 3) := by decide +kernel
theorem dX7_rota_87 : decode cX7_rota 87 = .ok (.aload_n 0, 1) := by decide +kernel
theorem dX7_rota_88 : decode cX7_rota 88 = .ok (.iload_n 1, 1) := by decide +kernel
theorem dX7_rota_89 : decode cX7_rota 89 = .ok (.invokevirtual 185, 3) := by decide +kernel
theorem dX7_rota_92 : decode cX7_rota 92 = .ok (.istore 5, 2) := by decide +kernel
theorem dX7_rota_94 : decode cX7_rota 94 = .ok (.iconst 0, 1) := by decide +kernel
theorem dX7_rota_95 : decode cX7_rota 95 = .ok (.istore 6, 2) := by decide +kernel
theorem dX7_rota_97 : decode cX7_rota 97 = .ok (.iload 6, 2) := by decide +kernel
theorem dX7_rota_99 : decode cX7_rota 99 = .ok (.aload_n 0, 1) := by decide +kernel
theorem dX7_rota_100 : decode cX7_rota 100 = .ok (.getfield 25, 3) := by decide +kernel
theorem dX7_rota_103 : decode cX7_rota 103 = .ok (.iconst 4, 1) := by decide +kernel
theorem dX7_rota_104 : decode cX7_rota 104 = .ok (.iaload, 1) := by decide +kernel
theorem dX7_rota_105 : decode cX7_rota 105 = .ok (.if_icmp .ge 35, 3) := by decide +kernel
theorem dX7_rota_108 : decode cX7_rota 108 = .ok (.iload 5, 2) := by decide +kernel
theorem dX7_rota_110 : decode cX7_rota 110 = .ok (.iload_n 3, 1) := by decide +kernel
theorem dX7_rota_111 : decode cX7_rota 111 = .ok (.if_icmp .le 29, 3) := by decide +kernel
theorem dX7_rota_114 : decode cX7_rota 114 = .ok (.aload_n 0, 1) := by decide +kernel
theorem dX7_rota_115 : decode cX7_rota 115 = .ok (.getfield 44, 3) := by decide +kernel
theorem dX7_rota_118 : decode cX7_rota 118 = .ok (.iload 6, 2) := by decide +kernel
theorem dX7_rota_120 : decode cX7_rota 120 = .ok (.aload_n 0, 1) := by decide +kernel
theorem dX7_rota_121 : decode cX7_rota 121 = .ok (.getfield 31, 3) := by decide +kernel
theorem dX7_rota_124 : decode cX7_rota 124 = .ok (.iconst 5, 1) := by decide +kernel
theorem dX7_rota_125 : decode cX7_rota 125 = .ok (.iconst 4, 1) := by decide +kernel
theorem dX7_rota_126 : decode cX7_rota 126 = .ok (.iload 6, 2) := by decide +kernel
theorem dX7_rota_128 : decode cX7_rota 128 = .ok (.imul, 1) := by decide +kernel
theorem dX7_rota_129 : decode cX7_rota 129 = .ok (.iadd, 1) := by decide +kernel
theorem dX7_rota_130 : decode cX7_rota 130 = .ok (.iconst 3, 1) := by decide +kernel
theorem dX7_rota_131 : decode cX7_rota 131 = .ok (.iadd, 1) := by decide +kernel
theorem dX7_rota_132 : decode cX7_rota 132 = .ok (.iaload, 1) := by decide +kernel
theorem dX7_rota_133 : decode cX7_rota 133 = .ok (.iastore, 1) := by decide +kernel
theorem dX7_rota_134 : decode cX7_rota 134 = .ok (.iinc 6 1, 3) := by decide +kernel
theorem dX7_rota_137 : decode cX7_rota 137 = .ok (.goto (-40), 3) := by decide +kernel
theorem dX7_rota_140 : decode cX7_rota 140 = .ok (.iload 5, 2) := by decide +kernel
theorem dX7_rota_142 : decode cX7_rota 142 = .ok (.iload_n 3, 1) := by decide +kernel
theorem dX7_rota_143 : decode cX7_rota 143 = .ok (.if_icmp .le 8, 3) := by decide +kernel
theorem dX7_rota_146 : decode cX7_rota 146 = .ok (.iload 5, 2) := by decide +kernel
theorem dX7_rota_148 : decode cX7_rota 148 = .ok (.goto 4, 3) := by decide +kernel
theorem dX7_rota_151 : decode cX7_rota 151 = .ok (.iload_n 3, 1) := by decide +kernel
theorem dX7_rota_152 : decode cX7_rota 152 = .ok (.istore_n 3, 1) := by decide +kernel
theorem dX7_rota_153 : decode cX7_rota 153 = .ok (.aload_n 0, 1) := by decide +kernel
theorem dX7_rota_154 : decode cX7_rota 154 = .ok (.invokevirtual 188, 3) := by decide +kernel
theorem dX7_rota_157 : decode cX7_rota 157 = .ok (.istore 4, 2) := by decide +kernel
theorem dX7_rota_159 : decode cX7_rota 159 = .ok (.goto (-77), 3) := by decide +kernel
theorem dX7_rota_162 : decode cX7_rota 162 = .ok (.iload_n 2, 1) := by decide +kernel
theorem dX7_rota_163 : decode cX7_rota 163 = .ok (.iconst (-1), 1) := by decide +kernel
theorem dX7_rota_164 : decode cX7_rota 164 = .ok (.if_icmp .ne 7, 3) := by decide +kernel
theorem dX7_rota_167 : decode cX7_rota 167 = .ok (.iload_n 3, 1) := by decide +kernel
theorem dX7_rota_168 : decode cX7_rota 168 = .ok (.goto 22, 3) := by decide +kernel
theorem dX7_rota_171 : decode cX7_rota 171 = .ok (.aload_n 0, 1) := by decide +kernel
theorem dX7_rota_172 : decode cX7_rota 172 = .ok (.iload_n 2, 1) := by decide +kernel
theorem dX7_rota_173 : decode cX7_rota 173 = .ok (.invokevirtual 170, 3) := by decide +kernel
theorem dX7_rota_176 : decode cX7_rota 176 = .ok (.ifCond .eq 12, 3) := by decide +kernel
theorem dX7_rota_179 : decode cX7_rota 179 = .ok (.aload_n 0, 1) := by decide +kernel
theorem dX7_rota_180 : decode cX7_rota 180 = .ok (.getfield 44, 3) := by decide +kernel
theorem dX7_rota_183 : decode cX7_rota 183 = .ok (.iload_n 2, 1) := by decide +kernel
theorem dX7_rota_184 : decode cX7_rota 184 = .ok (.iaload, 1) := by decide +kernel
theorem dX7_rota_185 : decode cX7_rota 185 = .ok (.goto 5, 3) := by decide +kernel
theorem dX7_rota_188 : decode cX7_rota 188 = .ok (.ldc 50, 2) := by decide +kernel
theorem dX7_rota_190 : decode cX7_rota 190 = .ok (.ireturn, 1) := by decide +kernel
set_option maxRecDepth 20000 in
theorem ggX7_when_X7_in : GoodIn wsX7_when wsX7_in := goodIn_r _ [7] (by decide +kernel) (by decide +kernel)
set_option maxRecDepth 20000 in
theorem gX7_when_X7_in : GoodIn wsX7_when (va_wsS RX7 56 yX7_in wsX7_in) := goodIn_app (goodIn_of _ (by decide +kernel)) ggX7_when_X7_in
set_option maxRecDepth 20000 in
theorem ggX7_when_X7_leftOn : GoodIn wsX7_when wsX7_leftOn := goodIn_r _ [10, 11, 12, 6, 13, 14, 15, 16, 17, 18, 19, 20, 21, 22, 23, 24, 25, 26, 27, 28] (by decide +kernel) (by decide +kernel)
set_option maxRecDepth 20000 in
theorem gX7_when_X7_leftOn : GoodIn wsX7_when (va_wsS RX7 167 yX7_leftOn wsX7_leftOn) := goodIn_app (goodIn_of _ (by decide +kernel)) ggX7_when_X7_leftOn
set_option maxRecDepth 20000 in
theorem ggX7_when_X7_has : GoodIn wsX7_when wsX7_has := goodIn_r _ [25] (by decide +kernel) (by decide +kernel)
set_option maxRecDepth 20000 in
theorem gX7_when_X7_has : GoodIn wsX7_when (va_wsS RX7 138 yX7_has wsX7_has) := goodIn_app (goodIn_of _ (by decide +kernel)) ggX7_when_X7_has
set_option maxRecDepth 20000 in
theorem ggX7_when_X7_ones : GoodIn wsX7_when wsX7_ones := goodIn_r _ [31] (by decide +kernel) (by decide +kernel)
set_option maxRecDepth 20000 in
theorem gX7_when_X7_ones : GoodIn wsX7_when (va_wsS RX7 182 yX7_ones wsX7_ones) := goodIn_app (goodIn_of _ (by decide +kernel)) ggX7_when_X7_ones
theorem dX7_when_0 : decode cX7_when 0 = .ok (.iload_n 1, 1) := by decide +kernel
theorem dX7_when_1 : decode cX7_when 1 = .ok (.iconst 0, 1) := by decide +kernel
theorem dX7_when_2 : decode cX7_when 2 = .ok (.aload_n 0, 1) := by decide +kernel
theorem dX7_when_3 : decode cX7_when 3 = .ok (.getfield 25, 3) := by decide +kernel
theorem dX7_when_6 : decode cX7_when 6 = .ok (.iconst 0, 1) := by decide +kernel
theorem dX7_when_7 : decode cX7_when 7 = .ok (.iaload, 1) := by decide +kernel
theorem dX7_when_8 : decode cX7_when 8 = .ok (.iconst 1, 1) := by decide +kernel
theorem dX7_when_9 : decode cX7_when 9 = .ok (.isub, 1) := by decide +kernel
theorem dX7_when_10 : decode cX7_when 10 = .ok (.invokestatic 56, 3) := by decide +kernel
theorem dX7_when_13 : decode cX7_when 13 = .ok (.ifCond .eq 13, 3) := by decide +kernel
theorem dX7_when_16 : decode cX7_when 16 = .ok (.iload_n 2, 1) := by decide +kernel
theorem dX7_when_17 : decode cX7_when 17 = .ok (.iconst 1, 1) := by decide +kernel
theorem dX7_when_18 : decode cX7_when 18 = .ok (.bipush 60, 2) := by decide +kernel
theorem dX7_when_20 : decode cX7_when 20 = .ok (.invokestatic 56, 3) := by decide +kernel
