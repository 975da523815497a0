theorem dX2_init_0 : decode cX2_init 0 = .ok (.aload_n 0, 1) := by decide +kernel
theorem dX2_init_1 : decode cX2_init 1 = .ok (.invokespecial 3, 3) := by decide +kernel
theorem dX2_init_4 : decode cX2_init 4 = .ok (.aload_n 0, 1) := by decide +kernel
theorem dX2_init_5 : decode cX2_init 5 = .ok (.bipush 6, 2) := by decide +kernel
theorem dX2_init_7 : decode cX2_init 7 = .ok (.newarray .int, 2) := by decide +kernel
theorem dX2_init_9 : decode cX2_init 9 = .ok (.putfield 9, 3) := by decide +kernel
theorem dX2_init_12 : decode cX2_init 12 = .ok (.aload_n 0, 1) := by decide +kernel
theorem dX2_init_13 : decode cX2_init 13 = .ok (.bipush 6, 2) := by decide +kernel
theorem dX2_init_15 : decode cX2_init 15 = .ok (.newarray .int, 2) := by decide +kernel
theorem dX2_init_17 : decode cX2_init 17 = .ok (.putfield 15, 3) := by decide +kernel
theorem dX2_init_20 : decode cX2_init 20 = .ok (.aload_n 0, 1) := by decide +kernel
theorem dX2_init_21 : decode cX2_init 21 = .ok (.bipush 6, 2) := by decide +kernel
theorem dX2_init_23 : decode cX2_init 23 = .ok (.newarray .int, 2) := by decide +kernel
theorem dX2_init_25 : decode cX2_init 25 = .ok (.putfield 18, 3) := by decide +kernel
theorem dX2_init_28 : decode cX2_init 28 = .ok (.aload_n 0, 1) := by decide +kernel
theorem dX2_init_29 : decode cX2_init 29 = .ok (.bipush 6, 2) := by decide +kernel
theorem dX2_init_31 : decode cX2_init 31 = .ok (.newarray .int, 2) := by decide +kernel
theorem dX2_init_33 : decode cX2_init 33 = .ok (.putfield 21, 3) := by decide +kernel
theorem dX2_init_36 : decode cX2_init 36 = .ok (.return_, 1) := by decide +kernel
theorem dX2_stands_0 : decode cX2_stands 0 = .ok (.aload_n 0, 1) := by decide +kernel
theorem dX2_stands_1 : decode cX2_stands 1 = .ok (.getfield 24, 3) := by decide +kernel
theorem dX2_stands_4 : decode cX2_stands 4 = .ok (.ifCond .le 7, 3) := by decide +kernel
theorem dX2_stands_7 : decode cX2_stands 7 = .ok (.iconst 1, 1) := by decide +kernel
theorem dX2_stands_8 : decode cX2_stands 8 = .ok (.goto 4, 3) := by decide +kernel
theorem dX2_stands_11 : decode cX2_stands 11 = .ok (.iconst 0, 1) := by decide +kernel
theorem dX2_stands_12 : decode cX2_stands 12 = .ok (.ireturn, 1) := by decide +kernel
theorem dX2_has_0 : decode cX2_has 0 = .ok (.iload_n 1, 1) := by decide +kernel
theorem dX2_has_1 : decode cX2_has 1 = .ok (.ifCond .lt 15, 3) := by decide +kernel
theorem dX2_has_4 : decode cX2_has 4 = .ok (.iload_n 1, 1) := by decide +kernel
theorem dX2_has_5 : decode cX2_has 5 = .ok (.aload_n 0, 1) := by decide +kernel
theorem dX2_has_6 : decode cX2_has 6 = .ok (.getfield 28, 3) := by decide +kernel
theorem dX2_has_9 : decode cX2_has 9 = .ok (.if_icmp .ge 7, 3) := by decide +kernel
theorem dX2_has_12 : decode cX2_has 12 = .ok (.iconst 1, 1) := by decide +kernel
theorem dX2_has_13 : decode cX2_has 13 = .ok (.goto 4, 3) := by decide +kernel
theorem dX2_has_16 : decode cX2_has 16 = .ok (.iconst 0, 1) := by decide +kernel
theorem dX2_has_17 : decode cX2_has 17 = .ok (.ireturn, 1) := by decide +kernel
theorem dX2_clear_0 : decode cX2_clear 0 = .ok (.aload_n 0, 1) := by decide +kernel
theorem dX2_clear_1 : decode cX2_clear 1 = .ok (.iconst 0, 1) := by decide +kernel
theorem dX2_clear_2 : decode cX2_clear 2 = .ok (.putfield 24, 3) := by decide +kernel
theorem dX2_clear_5 : decode cX2_clear 5 = .ok (.aload_n 0, 1) := by decide +kernel
theorem dX2_clear_6 : decode cX2_clear 6 = .ok (.iconst 0, 1) := by decide +kernel
theorem dX2_clear_7 : decode cX2_clear 7 = .ok (.putfield 31, 3) := by decide +kernel
theorem dX2_clear_10 : decode cX2_clear 10 = .ok (.aload_n 0, 1) := by decide +kernel
theorem dX2_clear_11 : decode cX2_clear 11 = .ok (.iconst 0, 1) := by decide +kernel
theorem dX2_clear_12 : decode cX2_clear 12 = .ok (.putfield 34, 3) := by decide +kernel
theorem dX2_clear_15 : decode cX2_clear 15 = .ok (.aload_n 0, 1) := by decide +kernel
theorem dX2_clear_16 : decode cX2_clear 16 = .ok (.iconst 0, 1) := by decide +kernel
theorem dX2_clear_17 : decode cX2_clear 17 = .ok (.putfield 28, 3) := by decide +kernel
theorem dX2_clear_20 : decode cX2_clear 20 = .ok (.aload_n 0, 1) := by decide +kernel
theorem dX2_clear_21 : decode cX2_clear 21 = .ok (.iconst 0, 1) := by decide +kernel
theorem dX2_clear_22 : decode cX2_clear 22 = .ok (.putfield 37, 3) := by decide +kernel
theorem dX2_clear_25 : decode cX2_clear 25 = .ok (.return_, 1) := by decide +kernel
theorem dX2_add_0 : decode cX2_add 0 = .ok (.aload_n 0, 1) := by decide +kernel
theorem dX2_add_1 : decode cX2_add 1 = .ok (.getfield 9, 3) := by decide +kernel
theorem dX2_add_4 : decode cX2_add 4 = .ok (.aload_n 0, 1) := by decide +kernel
theorem dX2_add_5 : decode cX2_add 5 = .ok (.getfield 28, 3) := by decide +kernel
theorem dX2_add_8 : decode cX2_add 8 = .ok (.iload_n 1, 1) := by decide +kernel
theorem dX2_add_9 : decode cX2_add 9 = .ok (.iastore, 1) := by decide +kernel
theorem dX2_add_10 : decode cX2_add 10 = .ok (.aload_n 0, 1) := by decide +kernel
theorem dX2_add_11 : decode cX2_add 11 = .ok (.getfield 15, 3) := by decide +kernel
theorem dX2_add_14 : decode cX2_add 14 = .ok (.aload_n 0, 1) := by decide +kernel
theorem dX2_add_15 : decode cX2_add 15 = .ok (.getfield 28, 3) := by decide +kernel
theorem dX2_add_18 : decode cX2_add 18 = .ok (.iload_n 2, 1) := by decide +kernel
theorem dX2_add_19 : decode cX2_add 19 = .ok (.iastore, 1) := by decide +kernel
theorem dX2_add_20 : decode cX2_add 20 = .ok (.aload_n 0, 1) := by decide +kernel
theorem dX2_add_21 : decode cX2_add 21 = .ok (.getfield 18, 3) := by decide +kernel
theorem dX2_add_24 : decode cX2_add 24 = .ok (.aload_n 0, 1) := by decide +kernel
theorem dX2_add_25 : decode cX2_add 25 = .ok (.getfield 28, 3) := by decide +kernel
theorem dX2_add_28 : decode cX2_add 28 = .ok (.iload_n 3, 1) := by decide +kernel
theorem dX2_add_29 : decode cX2_add 29 = .ok (.iastore, 1) := by decide +kernel
theorem dX2_add_30 : decode cX2_add 30 = .ok (.aload_n 0, 1) := by decide +kernel
theorem dX2_add_31 : decode cX2_add 31 = .ok (.getfield 21, 3) := by decide +kernel
theorem dX2_add_34 : decode cX2_add 34 = .ok (.aload_n 0, 1) := by decide +kernel
theorem dX2_add_35 : decode cX2_add 35 = .ok (.getfield 28, 3) := by decide +kernel
theorem dX2_add_38 : decode cX2_add 38 = .ok (.iload 4, 2) := by decide +kernel
theorem dX2_add_40 : decode cX2_add 40 = .ok (.iastore, 1) := by decide +kernel
theorem dX2_add_41 : decode cX2_add 41 = .ok (.aload_n 0, 1) := by decide +kernel
theorem dX2_add_42 : decode cX2_add 42 = .ok (.dup, 1) := by decide +kernel
theorem dX2_add_43 : decode cX2_add 43 = .ok (.getfield 28, 3) := by decide +kernel
theorem dX2_add_46 : decode cX2_add 46 = .ok (.iconst 1, 1) := by decide +kernel
theorem dX2_add_47 : decode cX2_add 47 = .ok (.iadd, 1) := by decide +kernel
theorem dX2_add_48 : decode cX2_add 48 = .ok (.putfield 28, 3) := by decide +kernel
theorem dX2_add_51 : decode cX2_add 51 = .ok (.return_, 1) := by decide +kernel
theorem dX2_become_0 : decode cX2_become 0 = .ok (.aload_n 0, 1) := by decide +kernel
theorem dX2_become_1 : decode cX2_become 1 = .ok (.aload_n 1, 1) := by decide +kernel
theorem dX2_become_2 : decode cX2_become 2 = .ok (.getfield 24, 3) := by decide +kernel
theorem dX2_become_5 : decode cX2_become 5 = .ok (.putfield 24, 3) := by decide +kernel
theorem dX2_become_8 : decode cX2_become 8 = .ok (.aload_n 0, 1) := by decide +kernel
theorem dX2_become_9 : decode cX2_become 9 = .ok (.aload_n 1, 1) := by decide +kernel
theorem dX2_become_10 : decode cX2_become 10 = .ok (.getfield 31, 3) := by decide +kernel
theorem dX2_become_13 : decode cX2_become 13 = .ok (.putfield 31, 3) := by decide +kernel
theorem dX2_become_16 : decode cX2_become 16 = .ok (.aload_n 0, 1) := by decide +kernel
theorem dX2_become_17 : decode cX2_become 17 = .ok (.aload_n 1, 1) := by decide +kernel
theorem dX2_become_18 : decode cX2_become 18 = .ok (.getfield 34, 3) := by decide +kernel
theorem dX2_become_21 : decode cX2_become 21 = .ok (.putfield 34, 3) := by decide +kernel
theorem dX2_become_24 : decode cX2_become 24 = .ok (.aload_n 0, 1) := by decide +kernel
theorem dX2_become_25 : decode cX2_become 25 = .ok (.aload_n 1, 1) := by decide +kernel
theorem dX2_become_26 : decode cX2_become 26 = .ok (.getfield 28, 3) := by decide +kernel
theorem dX2_become_29 : decode cX2_become 29 = .ok (.putfield 28, 3) := by decide +kernel
theorem dX2_become_32 : decode cX2_become 32 = .ok (.aload_n 0, 1) := by decide +kernel
theorem dX2_become_33 : decode cX2_become 33 = .ok (.aload_n 1, 1) := by decide +kernel
theorem dX2_become_34 : decode cX2_become 34 = .ok (.getfield 37, 3) := by decide +kernel
theorem dX2_become_37 : decode cX2_become 37 = .ok (.putfield 37, 3) := by decide +kernel
theorem dX2_become_40 : decode cX2_become 40 = .ok (.aload_n 1, 1) := by decide +kernel
theorem dX2_become_41 : decode cX2_become 41 = .ok (.getfield 9, 3) := by decide +kernel
theorem dX2_become_44 : decode cX2_become 44 = .ok (.iconst 0, 1) := by decide +kernel
theorem dX2_become_45 : decode cX2_become 45 = .ok (.aload_n 0, 1) := by decide +kernel
theorem dX2_become_46 : decode cX2_become 46 = .ok (.getfield 9, 3) := by decide +kernel
theorem dX2_become_49 : decode cX2_become 49 = .ok (.iconst 0, 1) := by decide +kernel
theorem dX2_become_50 : decode cX2_become 50 = .ok (.bipush 6, 2) := by decide +kernel
theorem dX2_become_52 : decode cX2_become 52 = .ok (.invokestatic 40, 3) := by decide +kernel
theorem dX2_become_55 : decode cX2_become 55 = .ok (.aload_n 1, 1) := by decide +kernel
theorem dX2_become_56 : decode cX2_become 56 = .ok (.getfield 15, 3) := by decide +kernel
theorem dX2_become_59 : decode cX2_become 59 = .ok (.iconst 0, 1) := by decide +kernel
theorem dX2_become_60 : decode cX2_become 60 = .ok (.aload_n 0, 1) := by decide +kernel
theorem dX2_become_61 : decode cX2_become 61 = .ok (.getfield 15, 3) := by decide +kernel
theorem dX2_become_64 : decode cX2_become 64 = .ok (.iconst 0, 1) := by decide +kernel
theorem dX2_become_65 : decode cX2_become 65 = .ok (.bipush 6, 2) := by decide +kernel
theorem dX2_become_67 : decode cX2_become 67 = .ok (.invokestatic 40, 3) := by decide +kernel
theorem dX2_become_70 : decode cX2_become 70 = .ok (.aload_n 1, 1) := by decide +kernel
theorem dX2_become_71 : decode cX2_become 71 = .ok (.getfield 18, 3) := by decide +kernel
theorem dX2_become_74 : decode cX2_become 74 = .ok (.iconst 0, 1) := by decide +kernel
theorem dX2_become_75 : decode cX2_become 75 = .ok (.aload_n 0, 1) := by decide +kernel
theorem dX2_become_76 : decode cX2_become 76 = .ok (.getfield 18, 3) := by decide +kernel
theorem dX2_become_79 : decode cX2_become 79 = .ok (.iconst 0, 1) := by decide +kernel
theorem dX2_become_80 : decode cX2_become 80 = .ok (.bipush 6, 2) := by decide +kernel
theorem dX2_become_82 : decode cX2_become 82 = .ok (.invokestatic 40, 3) := by decide +kernel
theorem dX2_become_85 : decode cX2_become 85 = .ok (.aload_n 1, 1) := by decide +kernel
theorem dX2_become_86 : decode cX2_become 86 = .ok (.getfield 21, 3) := by decide +kernel
theorem dX2_become_89 : decode cX2_become 89 = .ok (.iconst 0, 1) := by decide +kernel
theorem dX2_become_90 : decode cX2_become 90 = .ok (.aload_n 0, 1) := by decide +kernel
theorem dX2_become_91 : decode cX2_become 91 = .ok (.getfield 21, 3) := by decide +kernel
theorem dX2_become_94 : decode cX2_become 94 = .ok (.iconst 0, 1) := by decide +kernel
theorem dX2_become_95 : decode cX2_become 95 = .ok (.bipush 6, 2) := by decide +kernel
theorem dX2_become_97 : decode cX2_become 97 = .ok (.invokestatic 40, 3) := by decide +kernel
theorem dX2_become_100 : decode cX2_become 100 = .ok (.return_, 1) := by decide +kernel
theorem dX2_everyone_0 : decode cX2_everyone 0 = .ok (.iconst 1, 1) := by decide +kernel
theorem dX2_everyone_1 : decode cX2_everyone 1 = .ok (.aload_n 0, 1) := by decide +kernel
theorem dX2_everyone_2 : decode cX2_everyone 2 = .ok (.getfield 24, 3) := by decide +kernel
theorem dX2_everyone_5 : decode cX2_everyone 5 = .ok (.ishl, 1) := by decide +kernel
theorem dX2_everyone_6 : decode cX2_everyone 6 = .ok (.iconst 1, 1) := by decide +kernel
theorem dX2_everyone_7 : decode cX2_everyone 7 = .ok (.isub, 1) := by decide +kernel
theorem dX2_everyone_8 : decode cX2_everyone 8 = .ok (.ireturn, 1) := by decide +kernel
set_option maxRecDepth 20000 in
theorem ggX2_isBribed_X6_isIn : GoodIn wsX2_isBribed wsX6_isIn := goodIn_r _ [4] (by decide +kernel) (by decide +kernel)
set_option maxRecDepth 20000 in
theorem gX2_isBribed_X6_isIn_n46 : GoodIn wsX2_isBribed (wsX6_isIn) := ggX2_isBribed_X6_isIn
theorem dX2_isBribed_0 : decode cX2_isBribed 0 = .ok (.aload_n 0, 1) := by decide +kernel
theorem dX2_isBribed_1 : decode cX2_isBribed 1 = .ok (.getfield 37, 3) := by decide +kernel
theorem dX2_isBribed_4 : decode cX2_isBribed 4 = .ok (.iload_n 1, 1) := by decide +kernel
theorem dX2_isBribed_5 : decode cX2_isBribed 5 = .ok (.invokestatic 46, 3) := by decide +kernel
theorem dX2_isBribed_8 : decode cX2_isBribed 8 = .ok (.ireturn, 1) := by decide +kernel
theorem dX2_worksOn_0 : decode cX2_worksOn 0 = .ok (.aload_n 0, 1) := by decide +kernel
theorem dX2_worksOn_1 : decode cX2_worksOn 1 = .ok (.getfield 9, 3) := by decide +kernel
theorem dX2_worksOn_4 : decode cX2_worksOn 4 = .ok (.iload_n 1, 1) := by decide +kernel
theorem dX2_worksOn_5 : decode cX2_worksOn 5 = .ok (.iaload, 1) := by decide +kernel
theorem dX2_worksOn_6 : decode cX2_worksOn 6 = .ok (.iconst 5, 1) := by decide +kernel
theorem dX2_worksOn_7 : decode cX2_worksOn 7 = .ok (.if_icmp .ne 5, 3) := by decide +kernel
theorem dX2_worksOn_10 : decode cX2_worksOn 10 = .ok (.iconst 1, 1) := by decide +kernel
theorem dX2_worksOn_11 : decode cX2_worksOn 11 = .ok (.ireturn, 1) := by decide +kernel
theorem dX2_worksOn_12 : decode cX2_worksOn 12 = .ok (.aload_n 0, 1) := by decide +kernel
theorem dX2_worksOn_13 : decode cX2_worksOn 13 = .ok (.getfield 9, 3) := by decide +kernel
theorem dX2_worksOn_16 : decode cX2_worksOn 16 = .ok (.iload_n 1, 1) := by decide +kernel
theorem dX2_worksOn_17 : decode cX2_worksOn 17 = .ok (.iaload, 1) := by decide +kernel
theorem dX2_worksOn_18 : decode cX2_worksOn 18 = .ok (.iconst 2, 1) := by decide +kernel
theorem dX2_worksOn_19 : decode cX2_worksOn 19 = .ok (.if_icmp .ne 16, 3) := by decide +kernel
theorem dX2_worksOn_22 : decode cX2_worksOn 22 = .ok (.iload_n 2, 1) := by decide +kernel
theorem dX2_worksOn_23 : decode cX2_worksOn 23 = .ok (.bipush 7, 2) := by decide +kernel
theorem dX2_worksOn_25 : decode cX2_worksOn 25 = .ok (.irem, 1) := by decide +kernel
theorem dX2_worksOn_26 : decode cX2_worksOn 26 = .ok (.aload_n 0, 1) := by decide +kernel
theorem dX2_worksOn_27 : decode cX2_worksOn 27 = .ok (.getfield 31, 3) := by decide +kernel
theorem dX2_worksOn_30 : decode cX2_worksOn 30 = .ok (.if_icmp .ne 5, 3) := by decide +kernel
theorem dX2_worksOn_33 : decode cX2_worksOn 33 = .ok (.iconst 0, 1) := by decide +kernel
theorem dX2_worksOn_34 : decode cX2_worksOn 34 = .ok (.ireturn, 1) := by decide +kernel
theorem dX2_worksOn_35 : decode cX2_worksOn 35 = .ok (.aload_n 0, 1) := by decide +kernel
theorem dX2_worksOn_36 : decode cX2_worksOn 36 = .ok (.getfield 18, 3) := by decide +kernel
theorem dX2_worksOn_39 : decode cX2_worksOn 39 = .ok (.iload_n 1, 1) := by decide +kernel
theorem dX2_worksOn_40 : decode cX2_worksOn 40 = .ok (.iaload, 1) := by decide +kernel
theorem dX2_worksOn_41 : decode cX2_worksOn 41 = .ok (.ifCond .le 20, 3) := by decide +kernel
theorem dX2_worksOn_44 : decode cX2_worksOn 44 = .ok (.iload_n 2, 1) := by decide +kernel
theorem dX2_worksOn_45 : decode cX2_worksOn 45 = .ok (.aload_n 0, 1) := by decide +kernel
theorem dX2_worksOn_46 : decode cX2_worksOn 46 = .ok (.getfield 18, 3) := by decide +kernel
theorem dX2_worksOn_49 : decode cX2_worksOn 49 = .ok (.iload_n 1, 1) := by decide +kernel
theorem dX2_worksOn_50 : decode cX2_worksOn 50 = .ok (.iaload, 1) := by decide +kernel
theorem dX2_worksOn_51 : decode cX2_worksOn 51 = .ok (.irem, 1) := by decide +kernel
theorem dX2_worksOn_52 : decode cX2_worksOn 52 = .ok (.aload_n 0, 1) := by decide +kernel
theorem dX2_worksOn_53 : decode cX2_worksOn 53 = .ok (.getfield 21, 3) := by decide +kernel
theorem dX2_worksOn_56 : decode cX2_worksOn 56 = .ok (.iload_n 1, 1) := by decide +kernel
theorem dX2_worksOn_57 : decode cX2_worksOn 57 = .ok (.iaload, 1) := by decide +kernel
theorem dX2_worksOn_58 : decode cX2_worksOn 58 = .ok (.if_icmp .eq 7, 3) := by decide +kernel
theorem dX2_worksOn_61 : decode cX2_worksOn 61 = .ok (.iconst 1, 1) := by decide +kernel
theorem dX2_worksOn_62 : decode cX2_worksOn 62 = .ok (.goto 4, 3) := by decide +kernel
theorem dX2_worksOn_65 : decode cX2_worksOn 65 = .ok (.iconst 0, 1) := by decide +kernel
theorem dX2_worksOn_66 : decode cX2_worksOn 66 = .ok (.ireturn, 1) := by decide +kernel
set_option maxRecDepth 20000 in
theorem ggX2_workersOn_X2_worksOn : GoodIn wsX2_workersOn wsX2_worksOn := goodIn_r _ [6, 7, 8, 9, 10, 11, 12, 13, 14, 15, 16, 17, 18, 19] (by decide +kernel) (by decide +kernel)
set_option maxRecDepth 20000 in
theorem gX2_workersOn_X2_worksOn : GoodIn wsX2_workersOn (wsV RX2 50 RX2 yX2_worksOn wsX2_worksOn) := goodIn_app (goodIn_of _ (by decide +kernel)) ggX2_workersOn_X2_worksOn
theorem dX2_workersOn_0 : decode cX2_workersOn 0 = .ok (.iconst 0, 1) := by decide +kernel
theorem dX2_workersOn_1 : decode cX2_workersOn 1 = .ok (.istore_n 2, 1) := by decide +kernel
theorem dX2_workersOn_2 : decode cX2_workersOn 2 = .ok (.iconst 0, 1) := by decide +kernel
theorem dX2_workersOn_3 : decode cX2_workersOn 3 = .ok (.istore_n 3, 1) := by decide +kernel
theorem dX2_workersOn_4 : decode cX2_workersOn 4 = .ok (.iload_n 3, 1) := by decide +kernel
theorem dX2_workersOn_5 : decode cX2_workersOn 5 = .ok (.aload_n 0, 1) := by decide +kernel
theorem dX2_workersOn_6 : decode cX2_workersOn 6 = .ok (.getfield 28, 3) := by decide +kernel
theorem dX2_workersOn_9 : decode cX2_workersOn 9 = .ok (.if_icmp .ge 24, 3) := by decide +kernel
theorem dX2_workersOn_12 : decode cX2_workersOn 12 = .ok (.aload_n 0, 1) := by decide +kernel
theorem dX2_workersOn_13 : decode cX2_workersOn 13 = .ok (.iload_n 3, 1) := by decide +kernel
theorem dX2_workersOn_14 : decode cX2_workersOn 14 = .ok (.iload_n 1, 1) := by decide +kernel
theorem dX2_workersOn_15 : decode cX2_workersOn 15 = .ok (.invokevirtual 50, 3) := by decide +kernel
theorem dX2_workersOn_18 : decode cX2_workersOn 18 = .ok (.ifCond .eq 9, 3) := by decide +kernel
theorem dX2_workersOn_21 : decode cX2_workersOn 21 = .ok (.iload_n 2, 1) := by decide +kernel
theorem dX2_workersOn_22 : decode cX2_workersOn 22 = .ok (.iconst 1, 1) := by decide +kernel
theorem dX2_workersOn_23 : decode cX2_workersOn 23 = .ok (.iload_n 3, 1) := by decide +kernel
theorem dX2_workersOn_24 : decode cX2_workersOn 24 = .ok (.ishl, 1) := by decide +kernel
theorem dX2_workersOn_25 : decode cX2_workersOn 25 = .ok (.ior, 1) := by decide +kernel
theorem dX2_workersOn_26 : decode cX2_workersOn 26 = .ok (.istore_n 2, 1) := by decide +kernel
theorem dX2_workersOn_27 : decode cX2_workersOn 27 = .ok (.iinc 3 1, 3) := by decide +kernel
theorem dX2_workersOn_30 : decode cX2_workersOn 30 = .ok (.goto (-26), 3) := by decide +kernel
theorem dX2_workersOn_33 : decode cX2_workersOn 33 = .ok (.iload_n 2, 1) := by decide +kernel
theorem dX2_workersOn_34 : decode cX2_workersOn 34 = .ok (.ireturn, 1) := by decide +kernel
set_option maxRecDepth 20000 in
theorem ggX2_leftByOne_X2_isBribed : GoodIn wsX2_leftByOne wsX2_isBribed := goodIn_r _ [7, 8, 9, 10, 11, 17, 18, 19, 20, 21, 22, 23, 24, 25] (by decide +kernel) (by decide +kernel)
set_option maxRecDepth 20000 in
theorem gX2_leftByOne_X2_isBribed : GoodIn wsX2_leftByOne (wsV RX2 53 RX2 yX2_isBribed wsX2_isBribed) := goodIn_app (goodIn_of _ (by decide +kernel)) ggX2_leftByOne_X2_isBribed
set_option maxRecDepth 20000 in
theorem ggX2_leftByOne_X2_everyone : GoodIn wsX2_leftByOne wsX2_everyone := goodIn_r _ [15, 16, 17, 18, 19, 20, 21, 22, 23, 24, 25] (by decide +kernel) (by decide +kernel)
set_option maxRecDepth 20000 in
theorem gX2_leftByOne_X2_everyone : GoodIn wsX2_leftByOne (wsV RX2 57 RX2 yX2_everyone wsX2_everyone) := goodIn_app (goodIn_of _ (by decide +kernel)) ggX2_leftByOne_X2_everyone
theorem dX2_leftByOne_0 : decode cX2_leftByOne 0 = .ok (.aload_n 0, 1) := by decide +kernel
theorem dX2_leftByOne_1 : decode cX2_leftByOne 1 = .ok (.iload_n 1, 1) := by decide +kernel
theorem dX2_leftByOne_2 : decode cX2_leftByOne 2 = .ok (.invokevirtual 53, 3) := by decide +kernel
theorem dX2_leftByOne_5 : decode cX2_leftByOne 5 = .ok (.istore_n 2, 1) := by decide +kernel
theorem dX2_leftByOne_6 : decode cX2_leftByOne 6 = .ok (.aload_n 0, 1) := by decide +kernel
theorem dX2_leftByOne_7 : decode cX2_leftByOne 7 = .ok (.invokevirtual 57, 3) := by decide +kernel
theorem dX2_leftByOne_10 : decode cX2_leftByOne 10 = .ok (.aload_n 0, 1) := by decide +kernel
theorem dX2_leftByOne_11 : decode cX2_leftByOne 11 = .ok (.getfield 15, 3) := by decide +kernel
theorem dX2_leftByOne_14 : decode cX2_leftByOne 14 = .ok (.iload_n 1, 1) := by decide +kernel
theorem dX2_leftByOne_15 : decode cX2_leftByOne 15 = .ok (.iaload, 1) := by decide +kernel
theorem dX2_leftByOne_16 : decode cX2_leftByOne 16 = .ok (.iconst (-1), 1) := by decide +kernel
theorem dX2_leftByOne_17 : decode cX2_leftByOne 17 = .ok (.ixor, 1) := by decide +kernel
theorem dX2_leftByOne_18 : decode cX2_leftByOne 18 = .ok (.iand, 1) := by decide +kernel
theorem dX2_leftByOne_19 : decode cX2_leftByOne 19 = .ok (.istore_n 3, 1) := by decide +kernel
theorem dX2_leftByOne_20 : decode cX2_leftByOne 20 = .ok (.aload_n 0, 1) := by decide +kernel
theorem dX2_leftByOne_21 : decode cX2_leftByOne 21 = .ok (.getfield 9, 3) := by decide +kernel
theorem dX2_leftByOne_24 : decode cX2_leftByOne 24 = .ok (.iload_n 1, 1) := by decide +kernel
theorem dX2_leftByOne_25 : decode cX2_leftByOne 25 = .ok (.iaload, 1) := by decide +kernel
theorem dX2_leftByOne_26 : decode cX2_leftByOne 26 = .ok (.tableswitch 54 3 5 #[26, 41, 41], 26) := by decide +kernel
theorem dX2_leftByOne_52 : decode cX2_leftByOne 52 = .ok (.iload_n 2, 1) := by decide +kernel
theorem dX2_leftByOne_53 : decode cX2_leftByOne 53 = .ok (.ifCond .eq 7, 3) := by decide +kernel
theorem dX2_leftByOne_56 : decode cX2_leftByOne 56 = .ok (.iload_n 3, 1) := by decide +kernel
theorem dX2_leftByOne_57 : decode cX2_leftByOne 57 = .ok (.goto 9, 3) := by decide +kernel
theorem dX2_leftByOne_60 : decode cX2_leftByOne 60 = .ok (.aload_n 0, 1) := by decide +kernel
theorem dX2_leftByOne_61 : decode cX2_leftByOne 61 = .ok (.getfield 15, 3) := by decide +kernel
theorem dX2_leftByOne_64 : decode cX2_leftByOne 64 = .ok (.iload_n 1, 1) := by decide +kernel
theorem dX2_leftByOne_65 : decode cX2_leftByOne 65 = .ok (.iaload, 1) := by decide +kernel
theorem dX2_leftByOne_66 : decode cX2_leftByOne 66 = .ok (.ireturn, 1) := by decide +kernel
theorem dX2_leftByOne_67 : decode cX2_leftByOne 67 = .ok (.iload_n 2, 1) := by decide +kernel
theorem dX2_leftByOne_68 : decode cX2_leftByOne 68 = .ok (.ifCond .eq 10, 3) := by decide +kernel
theorem dX2_leftByOne_71 : decode cX2_leftByOne 71 = .ok (.aload_n 0, 1) := by decide +kernel
theorem dX2_leftByOne_72 : decode cX2_leftByOne 72 = .ok (.invokevirtual 57, 3) := by decide +kernel
theorem dX2_leftByOne_75 : decode cX2_leftByOne 75 = .ok (.goto 4, 3) := by decide +kernel
theorem dX2_leftByOne_78 : decode cX2_leftByOne 78 = .ok (.iload_n 3, 1) := by decide +kernel
theorem dX2_leftByOne_79 : decode cX2_leftByOne 79 = .ok (.ireturn, 1) := by decide +kernel
theorem dX2_leftByOne_80 : decode cX2_leftByOne 80 = .ok (.iload_n 2, 1) := by decide +kernel
theorem dX2_leftByOne_81 : decode cX2_leftByOne 81 = .ok (.ifCond .eq 10, 3) := by decide +kernel
theorem dX2_leftByOne_84 : decode cX2_leftByOne 84 = .ok (.aload_n 0, 1) := by decide +kernel
theorem dX2_leftByOne_85 : decode cX2_leftByOne 85 = .ok (.invokevirtual 57, 3) := by decide +kernel
theorem dX2_leftByOne_88 : decode cX2_leftByOne 88 = .ok (.goto 9, 3) := by decide +kernel
theorem dX2_leftByOne_91 : decode cX2_leftByOne 91 = .ok (.aload_n 0, 1) := by decide +kernel
theorem dX2_leftByOne_92 : decode cX2_leftByOne 92 = .ok (.getfield 15, 3) := by decide +kernel
theorem dX2_leftByOne_95 : decode cX2_leftByOne 95 = .ok (.iload_n 1, 1) := by decide +kernel
theorem dX2_leftByOne_96 : decode cX2_leftByOne 96 = .ok (.iaload, 1) := by decide +kernel
theorem dX2_leftByOne_97 : decode cX2_leftByOne 97 = .ok (.ireturn, 1) := by decide +kernel
set_option maxRecDepth 20000 in
theorem ggX2_leftBy_X2_everyone : GoodIn wsX2_leftBy wsX2_everyone := goodIn_r _ [6, 7, 22, 23, 24, 25, 26, 27, 28, 29, 30] (by decide +kernel) (by decide +kernel)
set_option maxRecDepth 20000 in
theorem gX2_leftBy_X2_everyone : GoodIn wsX2_leftBy (wsV RX2 57 RX2 yX2_everyone wsX2_everyone) := goodIn_app (goodIn_of _ (by decide +kernel)) ggX2_leftBy_X2_everyone
set_option maxRecDepth 20000 in
theorem ggX2_leftBy_X6_isIn : GoodIn wsX2_leftBy wsX6_isIn := goodIn_r _ [10] (by decide +kernel) (by decide +kernel)
set_option maxRecDepth 20000 in
theorem gX2_leftBy_X6_isIn_n46 : GoodIn wsX2_leftBy (wsX6_isIn) := ggX2_leftBy_X6_isIn
set_option maxRecDepth 20000 in
theorem ggX2_leftBy_X2_leftByOne : GoodIn wsX2_leftBy wsX2_leftByOne := goodIn_r _ [14, 15, 16, 17, 18, 19, 5, 20, 21, 8, 9, 10, 2, 3, 4, 6, 7, 22, 23, 24, 25, 26, 27, 28, 29, 30] (by decide +kernel) (by decide +kernel)
set_option maxRecDepth 20000 in
theorem gX2_leftBy_X2_leftByOne : GoodIn wsX2_leftBy (wsV RX2 61 RX2 yX2_leftByOne wsX2_leftByOne) := goodIn_app (goodIn_of _ (by decide +kernel)) ggX2_leftBy_X2_leftByOne
theorem dX2_leftBy_0 : decode cX2_leftBy 0 = .ok (.aload_n 0, 1) := by decide +kernel
theorem dX2_leftBy_1 : decode cX2_leftBy 1 = .ok (.invokevirtual 57, 3) := by decide +kernel
theorem dX2_leftBy_4 : decode cX2_leftBy 4 = .ok (.istore_n 2, 1) := by decide +kernel
theorem dX2_leftBy_5 : decode cX2_leftBy 5 = .ok (.iconst 0, 1) := by decide +kernel
theorem dX2_leftBy_6 : decode cX2_leftBy 6 = .ok (.istore_n 3, 1) := by decide +kernel
theorem dX2_leftBy_7 : decode cX2_leftBy 7 = .ok (.iload_n 3, 1) := by decide +kernel
theorem dX2_leftBy_8 : decode cX2_leftBy 8 = .ok (.aload_n 0, 1) := by decide +kernel
theorem dX2_leftBy_9 : decode cX2_leftBy 9 = .ok (.getfield 28, 3) := by decide +kernel
theorem dX2_leftBy_12 : decode cX2_leftBy 12 = .ok (.if_icmp .ge 25, 3) := by decide +kernel
theorem dX2_leftBy_15 : decode cX2_leftBy 15 = .ok (.iload_n 1, 1) := by decide +kernel
theorem dX2_leftBy_16 : decode cX2_leftBy 16 = .ok (.iload_n 3, 1) := by decide +kernel
theorem dX2_leftBy_17 : decode cX2_leftBy 17 = .ok (.invokestatic 46, 3) := by decide +kernel
theorem dX2_leftBy_20 : decode cX2_leftBy 20 = .ok (.ifCond .eq 11, 3) := by decide +kernel
theorem dX2_leftBy_23 : decode cX2_leftBy 23 = .ok (.iload_n 2, 1) := by decide +kernel
theorem dX2_leftBy_24 : decode cX2_leftBy 24 = .ok (.aload_n 0, 1) := by decide +kernel
theorem dX2_leftBy_25 : decode cX2_leftBy 25 = .ok (.iload_n 3, 1) := by decide +kernel
theorem dX2_leftBy_26 : decode cX2_leftBy 26 = .ok (.invokevirtual 61, 3) := by decide +kernel
theorem dX2_leftBy_29 : decode cX2_leftBy 29 = .ok (.iand, 1) := by decide +kernel
theorem dX2_leftBy_30 : decode cX2_leftBy 30 = .ok (.istore_n 2, 1) := by decide +kernel
theorem dX2_leftBy_31 : decode cX2_leftBy 31 = .ok (.iinc 3 1, 3) := by decide +kernel
theorem dX2_leftBy_34 : decode cX2_leftBy 34 = .ok (.goto (-27), 3) := by decide +kernel
theorem dX2_leftBy_37 : decode cX2_leftBy 37 = .ok (.iload_n 2, 1) := by decide +kernel
theorem dX2_leftBy_38 : decode cX2_leftBy 38 = .ok (.ireturn, 1) := by decide +kernel
set_option maxRecDepth 20000 in
theorem ggX2_leftOn_X2_workersOn : GoodIn wsX2_leftOn wsX2_workersOn := goodIn_r _ [5, 6, 7, 8, 9, 4, 10, 11, 12, 13, 14, 37, 38, 39, 40, 41, 42, 43, 44, 45] (by decide +kernel) (by decide +kernel)
set_option maxRecDepth 20000 in
theorem gX2_leftOn_X2_workersOn : GoodIn wsX2_leftOn (wsV RX2 65 RX2 yX2_workersOn wsX2_workersOn) := goodIn_app (goodIn_of _ (by decide +kernel)) ggX2_leftOn_X2_workersOn
set_option maxRecDepth 20000 in
theorem ggX2_leftOn_X2_leftBy : GoodIn wsX2_leftOn wsX2_leftBy := goodIn_r _ [18, 6, 19, 20, 21, 4, 22, 23, 24, 25, 26, 27, 28, 29, 30, 31, 11, 32, 33, 34, 35, 36, 37, 38, 39, 40, 41, 42, 43, 44, 45] (by decide +kernel) (by decide +kernel)
set_option maxRecDepth 20000 in
theorem gX2_leftOn_X2_leftBy : GoodIn wsX2_leftOn (wsV RX2 68 RX2 yX2_leftBy wsX2_leftBy) := goodIn_app (goodIn_of _ (by decide +kernel)) ggX2_leftOn_X2_leftBy
theorem dX2_leftOn_0 : decode cX2_leftOn 0 = .ok (.aload_n 0, 1) := by decide +kernel
theorem dX2_leftOn_1 : decode cX2_leftOn 1 = .ok (.aload_n 0, 1) := by decide +kernel
theorem dX2_leftOn_2 : decode cX2_leftOn 2 = .ok (.iload_n 1, 1) := by decide +kernel
theorem dX2_leftOn_3 : decode cX2_leftOn 3 = .ok (.invokevirtual 65, 3) := by decide +kernel
theorem dX2_leftOn_6 : decode cX2_leftOn 6 = .ok (.invokevirtual 68, 3) := by decide +kernel
theorem dX2_leftOn_9 : decode cX2_leftOn 9 = .ok (.ireturn, 1) := by decide +kernel
set_option maxRecDepth 20000 in
theorem ggX2_fewestThatLeave_J6_bitCount_0f7a4 : GoodIn wsX2_fewestThatLeave wsJ6_bitCount_0f7a4 := goodIn_r _ [5, 6, 7, 8] (by decide +kernel) (by decide +kernel)
set_option maxRecDepth 20000 in
theorem gX2_fewestThatLeave_J6_bitCount_0f7a4 : GoodIn wsX2_fewestThatLeave (va_wsS RX2 72 yJ6_bitCount_0f7a4 wsJ6_bitCount_0f7a4) := goodIn_app (goodIn_of _ (by decide +kernel)) ggX2_fewestThatLeave_J6_bitCount_0f7a4
set_option maxRecDepth 20000 in
theorem ggX2_fewestThatLeave_X2_leftBy : GoodIn wsX2_fewestThatLeave wsX2_leftBy := goodIn_r _ [13, 14, 15, 16, 17, 12, 18, 19, 20, 21, 22, 23, 24, 25, 26, 27, 28, 29, 30, 31, 32, 33, 34, 35, 36, 37, 38, 39, 40, 41, 42] (by decide +kernel) (by decide +kernel)
set_option maxRecDepth 20000 in
theorem gX2_fewestThatLeave_X2_leftBy : GoodIn wsX2_fewestThatLeave (wsV RX2 68 RX2 yX2_leftBy wsX2_leftBy) := goodIn_app (goodIn_of _ (by decide +kernel)) ggX2_fewestThatLeave_X2_leftBy
theorem dX2_fewestThatLeave_0 : decode cX2_fewestThatLeave 0 = .ok (.ldc 71, 2) := by decide +kernel
theorem dX2_fewestThatLeave_2 : decode cX2_fewestThatLeave 2 = .ok (.istore_n 3, 1) := by decide +kernel
theorem dX2_fewestThatLeave_3 : decode cX2_fewestThatLeave 3 = .ok (.iconst 0, 1) := by decide +kernel
theorem dX2_fewestThatLeave_4 : decode cX2_fewestThatLeave 4 = .ok (.istore 4, 2) := by decide +kernel
theorem dX2_fewestThatLeave_6 : decode cX2_fewestThatLeave 6 = .ok (.iload 4, 2) := by decide +kernel
theorem dX2_fewestThatLeave_8 : decode cX2_fewestThatLeave 8 = .ok (.iload_n 1, 1) := by decide +kernel
theorem dX2_fewestThatLeave_9 : decode cX2_fewestThatLeave 9 = .ok (.if_icmp .gt 61, 3) := by decide +kernel
theorem dX2_fewestThatLeave_12 : decode cX2_fewestThatLeave 12 = .ok (.iload_n 3, 1) := by decide +kernel
theorem dX2_fewestThatLeave_13 : decode cX2_fewestThatLeave 13 = .ok (.ldc 71, 2) := by decide +kernel
theorem dX2_fewestThatLeave_15 : decode cX2_fewestThatLeave 15 = .ok (.if_icmp .eq 15, 3) := by decide +kernel
theorem dX2_fewestThatLeave_18 : decode cX2_fewestThatLeave 18 = .ok (.iload 4, 2) := by decide +kernel
theorem dX2_fewestThatLeave_20 : decode cX2_fewestThatLeave 20 = .ok (.invokestatic 72, 3) := by decide +kernel
theorem dX2_fewestThatLeave_23 : decode cX2_fewestThatLeave 23 = .ok (.iload_n 3, 1) := by decide +kernel
theorem dX2_fewestThatLeave_24 : decode cX2_fewestThatLeave 24 = .ok (.invokestatic 72, 3) := by decide +kernel
theorem dX2_fewestThatLeave_27 : decode cX2_fewestThatLeave 27 = .ok (.if_icmp .ge 7, 3) := by decide +kernel
theorem dX2_fewestThatLeave_30 : decode cX2_fewestThatLeave 30 = .ok (.iconst 1, 1) := by decide +kernel
theorem dX2_fewestThatLeave_31 : decode cX2_fewestThatLeave 31 = .ok (.goto 4, 3) := by decide +kernel
theorem dX2_fewestThatLeave_34 : decode cX2_fewestThatLeave 34 = .ok (.iconst 0, 1) := by decide +kernel
theorem dX2_fewestThatLeave_35 : decode cX2_fewestThatLeave 35 = .ok (.istore 5, 2) := by decide +kernel
theorem dX2_fewestThatLeave_37 : decode cX2_fewestThatLeave 37 = .ok (.iload 4, 2) := by decide +kernel
theorem dX2_fewestThatLeave_39 : decode cX2_fewestThatLeave 39 = .ok (.iload_n 1, 1) := by decide +kernel
theorem dX2_fewestThatLeave_40 : decode cX2_fewestThatLeave 40 = .ok (.iconst (-1), 1) := by decide +kernel
theorem dX2_fewestThatLeave_41 : decode cX2_fewestThatLeave 41 = .ok (.ixor, 1) := by decide +kernel
theorem dX2_fewestThatLeave_42 : decode cX2_fewestThatLeave 42 = .ok (.iand, 1) := by decide +kernel
theorem dX2_fewestThatLeave_43 : decode cX2_fewestThatLeave 43 = .ok (.ifCond .ne 21, 3) := by decide +kernel
theorem dX2_fewestThatLeave_46 : decode cX2_fewestThatLeave 46 = .ok (.iload 5, 2) := by decide +kernel
theorem dX2_fewestThatLeave_48 : decode cX2_fewestThatLeave 48 = .ok (.ifCond .eq 16, 3) := by decide +kernel
theorem dX2_fewestThatLeave_51 : decode cX2_fewestThatLeave 51 = .ok (.aload_n 0, 1) := by decide +kernel
theorem dX2_fewestThatLeave_52 : decode cX2_fewestThatLeave 52 = .ok (.iload 4, 2) := by decide +kernel
theorem dX2_fewestThatLeave_54 : decode cX2_fewestThatLeave 54 = .ok (.invokevirtual 68, 3) := by decide +kernel
theorem dX2_fewestThatLeave_57 : decode cX2_fewestThatLeave 57 = .ok (.iload_n 2, 1) := by decide +kernel
theorem dX2_fewestThatLeave_58 : decode cX2_fewestThatLeave 58 = .ok (.if_icmp .ne 6, 3) := by decide +kernel
theorem dX2_fewestThatLeave_61 : decode cX2_fewestThatLeave 61 = .ok (.iload 4, 2) := by decide +kernel
theorem dX2_fewestThatLeave_63 : decode cX2_fewestThatLeave 63 = .ok (.istore_n 3, 1) := by decide +kernel
theorem dX2_fewestThatLeave_64 : decode cX2_fewestThatLeave 64 = .ok (.iinc 4 1, 3) := by decide +kernel
theorem dX2_fewestThatLeave_67 : decode cX2_fewestThatLeave 67 = .ok (.goto (-61), 3) := by decide +kernel
theorem dX2_fewestThatLeave_70 : decode cX2_fewestThatLeave 70 = .ok (.iload_n 3, 1) := by decide +kernel
theorem dX2_fewestThatLeave_71 : decode cX2_fewestThatLeave 71 = .ok (.ireturn, 1) := by decide +kernel
set_option maxRecDepth 20000 in
theorem ggX2_tenthsSure_X2_leftBy : GoodIn wsX2_tenthsSure wsX2_leftBy := goodIn_r _ [6, 7, 8, 9, 10, 5, 11, 12, 13, 14, 15, 16, 17, 18, 19, 20, 21, 22, 23, 24, 25, 26, 44, 45, 46, 47, 48, 49, 50, 51, 52] (by decide +kernel) (by decide +kernel)
set_option maxRecDepth 20000 in
theorem gX2_tenthsSure_X2_leftBy : GoodIn wsX2_tenthsSure (wsV RX2 68 RX2 yX2_leftBy wsX2_leftBy) := goodIn_app (goodIn_of _ (by decide +kernel)) ggX2_tenthsSure_X2_leftBy
set_option maxRecDepth 20000 in
theorem ggX2_tenthsSure_X6_onlyOne : GoodIn wsX2_tenthsSure wsX6_onlyOne := goodIn_r _ [28, 29, 30, 31, 32, 33, 34, 35, 36, 37, 38, 39, 40] (by decide +kernel) (by decide +kernel)
set_option maxRecDepth 20000 in
theorem gX2_tenthsSure_X6_onlyOne_n77 : GoodIn wsX2_tenthsSure (wsX6_onlyOne) := ggX2_tenthsSure_X6_onlyOne
set_option maxRecDepth 20000 in
theorem ggX2_tenthsSure_J6_bitCount_0f7a4 : GoodIn wsX2_tenthsSure wsJ6_bitCount_0f7a4 := goodIn_r _ [33, 34, 35, 36] (by decide +kernel) (by decide +kernel)
set_option maxRecDepth 20000 in
theorem gX2_tenthsSure_J6_bitCount_0f7a4 : GoodIn wsX2_tenthsSure (va_wsS RX2 72 yJ6_bitCount_0f7a4 wsJ6_bitCount_0f7a4) := goodIn_app (goodIn_of _ (by decide +kernel)) ggX2_tenthsSure_J6_bitCount_0f7a4
set_option maxRecDepth 20000 in
theorem ggX2_tenthsSure_X6_power : GoodIn wsX2_tenthsSure wsX6_power := goodIn_r _ [43] (by decide +kernel) (by decide +kernel)
set_option maxRecDepth 20000 in
theorem gX2_tenthsSure_X6_power_n80 : GoodIn wsX2_tenthsSure (wsX6_power) := ggX2_tenthsSure_X6_power
theorem dX2_tenthsSure_0 : decode cX2_tenthsSure 0 = .ok (.iconst 0, 1) := by decide +kernel
theorem dX2_tenthsSure_1 : decode cX2_tenthsSure 1 = .ok (.istore_n 3, 1) := by decide +kernel
theorem dX2_tenthsSure_2 : decode cX2_tenthsSure 2 = .ok (.iconst 0, 1) := by decide +kernel
theorem dX2_tenthsSure_3 : decode cX2_tenthsSure 3 = .ok (.istore 4, 2) := by decide +kernel
theorem dX2_tenthsSure_5 : decode cX2_tenthsSure 5 = .ok (.iload 4, 2) := by decide +kernel
theorem dX2_tenthsSure_7 : decode cX2_tenthsSure 7 = .ok (.iload_n 1, 1) := by decide +kernel
theorem dX2_tenthsSure_8 : decode cX2_tenthsSure 8 = .ok (.if_icmp .gt 63, 3) := by decide +kernel
theorem dX2_tenthsSure_11 : decode cX2_tenthsSure 11 = .ok (.iload 4, 2) := by decide +kernel
theorem dX2_tenthsSure_13 : decode cX2_tenthsSure 13 = .ok (.iload_n 1, 1) := by decide +kernel
theorem dX2_tenthsSure_14 : decode cX2_tenthsSure 14 = .ok (.iconst (-1), 1) := by decide +kernel
theorem dX2_tenthsSure_15 : decode cX2_tenthsSure 15 = .ok (.ixor, 1) := by decide +kernel
theorem dX2_tenthsSure_16 : decode cX2_tenthsSure 16 = .ok (.iand, 1) := by decide +kernel
theorem dX2_tenthsSure_17 : decode cX2_tenthsSure 17 = .ok (.ifCond .ne 48, 3) := by decide +kernel
theorem dX2_tenthsSure_20 : decode cX2_tenthsSure 20 = .ok (.aload_n 0, 1) := by decide +kernel
theorem dX2_tenthsSure_21 : decode cX2_tenthsSure 21 = .ok (.iload 4, 2) := by decide +kernel
theorem dX2_tenthsSure_23 : decode cX2_tenthsSure 23 = .ok (.invokevirtual 68, 3) := by decide +kernel
theorem dX2_tenthsSure_26 : decode cX2_tenthsSure 26 = .ok (.invokestatic 77, 3) := by decide +kernel
theorem dX2_tenthsSure_29 : decode cX2_tenthsSure 29 = .ok (.ldc 71, 2) := by decide +kernel
theorem dX2_tenthsSure_31 : decode cX2_tenthsSure 31 = .ok (.if_icmp .eq 34, 3) := by decide +kernel
theorem dX2_tenthsSure_34 : decode cX2_tenthsSure 34 = .ok (.iload 4, 2) := by decide +kernel
theorem dX2_tenthsSure_36 : decode cX2_tenthsSure 36 = .ok (.invokestatic 72, 3) := by decide +kernel
theorem dX2_tenthsSure_39 : decode cX2_tenthsSure 39 = .ok (.istore 5, 2) := by decide +kernel
theorem dX2_tenthsSure_41 : decode cX2_tenthsSure 41 = .ok (.iload_n 3, 1) := by decide +kernel
theorem dX2_tenthsSure_42 : decode cX2_tenthsSure 42 = .ok (.bipush 10, 2) := by decide +kernel
theorem dX2_tenthsSure_44 : decode cX2_tenthsSure 44 = .ok (.iload_n 2, 1) := by decide +kernel
theorem dX2_tenthsSure_45 : decode cX2_tenthsSure 45 = .ok (.isub, 1) := by decide +kernel
theorem dX2_tenthsSure_46 : decode cX2_tenthsSure 46 = .ok (.iload 5, 2) := by decide +kernel
theorem dX2_tenthsSure_48 : decode cX2_tenthsSure 48 = .ok (.invokestatic 80, 3) := by decide +kernel
theorem dX2_tenthsSure_51 : decode cX2_tenthsSure 51 = .ok (.iload_n 2, 1) := by decide +kernel
theorem dX2_tenthsSure_52 : decode cX2_tenthsSure 52 = .ok (.iload_n 1, 1) := by decide +kernel
theorem dX2_tenthsSure_53 : decode cX2_tenthsSure 53 = .ok (.invokestatic 72, 3) := by decide +kernel
theorem dX2_tenthsSure_56 : decode cX2_tenthsSure 56 = .ok (.iload 5, 2) := by decide +kernel
theorem dX2_tenthsSure_58 : decode cX2_tenthsSure 58 = .ok (.isub, 1) := by decide +kernel
theorem dX2_tenthsSure_59 : decode cX2_tenthsSure 59 = .ok (.invokestatic 80, 3) := by decide +kernel
theorem dX2_tenthsSure_62 : decode cX2_tenthsSure 62 = .ok (.imul, 1) := by decide +kernel
theorem dX2_tenthsSure_63 : decode cX2_tenthsSure 63 = .ok (.iadd, 1) := by decide +kernel
theorem dX2_tenthsSure_64 : decode cX2_tenthsSure 64 = .ok (.istore_n 3, 1) := by decide +kernel
theorem dX2_tenthsSure_65 : decode cX2_tenthsSure 65 = .ok (.iinc 4 1, 3) := by decide +kernel
theorem dX2_tenthsSure_68 : decode cX2_tenthsSure 68 = .ok (.goto (-63), 3) := by decide +kernel
theorem dX2_tenthsSure_71 : decode cX2_tenthsSure 71 = .ok (.iload_n 3, 1) := by decide +kernel
theorem dX2_tenthsSure_72 : decode cX2_tenthsSure 72 = .ok (.ireturn, 1) := by decide +kernel
