theorem dX10_init_0 : decode cX10_init 0 = .ok (.aload_n 0, 1) := by decide +kernel
theorem dX10_init_1 : decode cX10_init 1 = .ok (.invokespecial 1, 3) := by decide +kernel
theorem dX10_init_4 : decode cX10_init 4 = .ok (.aload_n 0, 1) := by decide +kernel
theorem dX10_init_5 : decode cX10_init 5 = .ok (.sipush 605, 3) := by decide +kernel
theorem dX10_init_8 : decode cX10_init 8 = .ok (.newarray .int, 2) := by decide +kernel
theorem dX10_init_10 : decode cX10_init 10 = .ok (.putfield 7, 3) := by decide +kernel
theorem dX10_init_13 : decode cX10_init 13 = .ok (.aload_n 0, 1) := by decide +kernel
theorem dX10_init_14 : decode cX10_init 14 = .ok (.sipush 3025, 3) := by decide +kernel
theorem dX10_init_17 : decode cX10_init 17 = .ok (.newarray .int, 2) := by decide +kernel
theorem dX10_init_19 : decode cX10_init 19 = .ok (.putfield 13, 3) := by decide +kernel
theorem dX10_init_22 : decode cX10_init 22 = .ok (.aload_n 0, 1) := by decide +kernel
theorem dX10_init_23 : decode cX10_init 23 = .ok (.bipush 80, 2) := by decide +kernel
theorem dX10_init_25 : decode cX10_init 25 = .ok (.newarray .char, 2) := by decide +kernel
theorem dX10_init_27 : decode cX10_init 27 = .ok (.putfield 16, 3) := by decide +kernel
theorem dX10_init_30 : decode cX10_init 30 = .ok (.aload_n 0, 1) := by decide +kernel
theorem dX10_init_31 : decode cX10_init 31 = .ok (.bipush 120, 2) := by decide +kernel
theorem dX10_init_33 : decode cX10_init 33 = .ok (.newarray .int, 2) := by decide +kernel
theorem dX10_init_35 : decode cX10_init 35 = .ok (.putfield 20, 3) := by decide +kernel
theorem dX10_init_38 : decode cX10_init 38 = .ok (.aload_n 0, 1) := by decide +kernel
theorem dX10_init_39 : decode cX10_init 39 = .ok (.bipush 120, 2) := by decide +kernel
theorem dX10_init_41 : decode cX10_init 41 = .ok (.newarray .int, 2) := by decide +kernel
theorem dX10_init_43 : decode cX10_init 43 = .ok (.putfield 23, 3) := by decide +kernel
theorem dX10_init_46 : decode cX10_init 46 = .ok (.aload_n 0, 1) := by decide +kernel
theorem dX10_init_47 : decode cX10_init 47 = .ok (.iconst 2, 1) := by decide +kernel
theorem dX10_init_48 : decode cX10_init 48 = .ok (.newarray .int, 2) := by decide +kernel
theorem dX10_init_50 : decode cX10_init 50 = .ok (.putfield 26, 3) := by decide +kernel
theorem dX10_init_53 : decode cX10_init 53 = .ok (.aload_n 0, 1) := by decide +kernel
theorem dX10_init_54 : decode cX10_init 54 = .ok (.bipush 40, 2) := by decide +kernel
theorem dX10_init_56 : decode cX10_init 56 = .ok (.putfield 29, 3) := by decide +kernel
theorem dX10_init_59 : decode cX10_init 59 = .ok (.aload_n 0, 1) := by decide +kernel
theorem dX10_init_60 : decode cX10_init 60 = .ok (.iconst 2, 1) := by decide +kernel
theorem dX10_init_61 : decode cX10_init 61 = .ok (.putfield 33, 3) := by decide +kernel
theorem dX10_init_64 : decode cX10_init 64 = .ok (.aload_n 0, 1) := by decide +kernel
theorem dX10_init_65 : decode cX10_init 65 = .ok (.bipush 120, 2) := by decide +kernel
theorem dX10_init_67 : decode cX10_init 67 = .ok (.newarray .int, 2) := by decide +kernel
theorem dX10_init_69 : decode cX10_init 69 = .ok (.putfield 36, 3) := by decide +kernel
theorem dX10_init_72 : decode cX10_init 72 = .ok (.aload_n 0, 1) := by decide +kernel
theorem dX10_init_73 : decode cX10_init 73 = .ok (.bipush 120, 2) := by decide +kernel
theorem dX10_init_75 : decode cX10_init 75 = .ok (.newarray .int, 2) := by decide +kernel
theorem dX10_init_77 : decode cX10_init 77 = .ok (.putfield 39, 3) := by decide +kernel
theorem dX10_init_80 : decode cX10_init 80 = .ok (.aload_n 0, 1) := by decide +kernel
theorem dX10_init_81 : decode cX10_init 81 = .ok (.bipush 120, 2) := by decide +kernel
theorem dX10_init_83 : decode cX10_init 83 = .ok (.newarray .int, 2) := by decide +kernel
theorem dX10_init_85 : decode cX10_init 85 = .ok (.putfield 42, 3) := by decide +kernel
theorem dX10_init_88 : decode cX10_init 88 = .ok (.aload_n 0, 1) := by decide +kernel
theorem dX10_init_89 : decode cX10_init 89 = .ok (.bipush 120, 2) := by decide +kernel
theorem dX10_init_91 : decode cX10_init 91 = .ok (.newarray .int, 2) := by decide +kernel
theorem dX10_init_93 : decode cX10_init 93 = .ok (.putfield 45, 3) := by decide +kernel
theorem dX10_init_96 : decode cX10_init 96 = .ok (.return_, 1) := by decide +kernel
theorem dX10_in_0 : decode cX10_in 0 = .ok (.iload_n 0, 1) := by decide +kernel
theorem dX10_in_1 : decode cX10_in 1 = .ok (.iload_n 1, 1) := by decide +kernel
theorem dX10_in_2 : decode cX10_in 2 = .ok (.if_icmp .lt 12, 3) := by decide +kernel
theorem dX10_in_5 : decode cX10_in 5 = .ok (.iload_n 0, 1) := by decide +kernel
theorem dX10_in_6 : decode cX10_in 6 = .ok (.iload_n 2, 1) := by decide +kernel
theorem dX10_in_7 : decode cX10_in 7 = .ok (.if_icmp .gt 7, 3) := by decide +kernel
theorem dX10_in_10 : decode cX10_in 10 = .ok (.iconst 1, 1) := by decide +kernel
theorem dX10_in_11 : decode cX10_in 11 = .ok (.goto 4, 3) := by decide +kernel
theorem dX10_in_14 : decode cX10_in 14 = .ok (.iconst 0, 1) := by decide +kernel
theorem dX10_in_15 : decode cX10_in 15 = .ok (.ireturn, 1) := by decide +kernel
set_option maxRecDepth 20000 in
theorem ggX10_noBook_X10_in : GoodIn wsX10_noBook wsX10_in := goodIn_r _ [4] (by decide +kernel) (by decide +kernel)
set_option maxRecDepth 20000 in
theorem gX10_noBook_X10_in : GoodIn wsX10_noBook (va_wsS RX10 48 yX10_in wsX10_in) := goodIn_app (goodIn_of _ (by decide +kernel)) ggX10_noBook_X10_in
theorem dX10_noBook_0 : decode cX10_noBook 0 = .ok (.iload_n 0, 1) := by decide +kernel
theorem dX10_noBook_1 : decode cX10_noBook 1 = .ok (.iconst 0, 1) := by decide +kernel
theorem dX10_noBook_2 : decode cX10_noBook 2 = .ok (.iconst 1, 1) := by decide +kernel
theorem dX10_noBook_3 : decode cX10_noBook 3 = .ok (.invokestatic 48, 3) := by decide +kernel
theorem dX10_noBook_6 : decode cX10_noBook 6 = .ok (.ifCond .ne 7, 3) := by decide +kernel
theorem dX10_noBook_9 : decode cX10_noBook 9 = .ok (.iconst 1, 1) := by decide +kernel
theorem dX10_noBook_10 : decode cX10_noBook 10 = .ok (.goto 4, 3) := by decide +kernel
theorem dX10_noBook_13 : decode cX10_noBook 13 = .ok (.iconst 0, 1) := by decide +kernel
theorem dX10_noBook_14 : decode cX10_noBook 14 = .ok (.ireturn, 1) := by decide +kernel
theorem dX10_size_0 : decode cX10_size 0 = .ok (.aload_n 0, 1) := by decide +kernel
theorem dX10_size_1 : decode cX10_size 1 = .ok (.getfield 7, 3) := by decide +kernel
theorem dX10_size_4 : decode cX10_size 4 = .ok (.sipush 360, 3) := by decide +kernel
theorem dX10_size_7 : decode cX10_size 7 = .ok (.iload_n 1, 1) := by decide +kernel
theorem dX10_size_8 : decode cX10_size 8 = .ok (.iadd, 1) := by decide +kernel
theorem dX10_size_9 : decode cX10_size 9 = .ok (.iaload, 1) := by decide +kernel
theorem dX10_size_10 : decode cX10_size 10 = .ok (.ireturn, 1) := by decide +kernel
set_option maxRecDepth 20000 in
theorem ggX10_noVerse_X10_noBook : GoodIn wsX10_noVerse wsX10_noBook := goodIn_r _ [4, 5, 6, 3, 7] (by decide +kernel) (by decide +kernel)
set_option maxRecDepth 20000 in
theorem gX10_noVerse_X10_noBook : GoodIn wsX10_noVerse (va_wsS RX10 52 yX10_noBook wsX10_noBook) := goodIn_app (goodIn_of _ (by decide +kernel)) ggX10_noVerse_X10_noBook
set_option maxRecDepth 20000 in
theorem ggX10_noVerse_X10_size : GoodIn wsX10_noVerse wsX10_size := goodIn_r _ [11, 12, 13, 14, 15, 16, 17, 18, 19, 20, 21, 22, 23, 24, 25, 26, 27, 28, 29, 30, 31, 32, 33, 34, 35] (by decide +kernel) (by decide +kernel)
set_option maxRecDepth 20000 in
theorem gX10_noVerse_X10_size : GoodIn wsX10_noVerse (wsV RX10 56 RX10 yX10_size wsX10_size) := goodIn_app (goodIn_of _ (by decide +kernel)) ggX10_noVerse_X10_size
set_option maxRecDepth 20000 in
theorem ggX10_noVerse_X10_in : GoodIn wsX10_noVerse wsX10_in := goodIn_r _ [7] (by decide +kernel) (by decide +kernel)
set_option maxRecDepth 20000 in
theorem gX10_noVerse_X10_in : GoodIn wsX10_noVerse (va_wsS RX10 48 yX10_in wsX10_in) := goodIn_app (goodIn_of _ (by decide +kernel)) ggX10_noVerse_X10_in
theorem dX10_noVerse_0 : decode cX10_noVerse 0 = .ok (.iload_n 1, 1) := by decide +kernel
theorem dX10_noVerse_1 : decode cX10_noVerse 1 = .ok (.invokestatic 52, 3) := by decide +kernel
theorem dX10_noVerse_4 : decode cX10_noVerse 4 = .ok (.ifCond .ne 18, 3) := by decide +kernel
theorem dX10_noVerse_7 : decode cX10_noVerse 7 = .ok (.iload_n 2, 1) := by decide +kernel
theorem dX10_noVerse_8 : decode cX10_noVerse 8 = .ok (.iconst 0, 1) := by decide +kernel
theorem dX10_noVerse_9 : decode cX10_noVerse 9 = .ok (.aload_n 0, 1) := by decide +kernel
theorem dX10_noVerse_10 : decode cX10_noVerse 10 = .ok (.iload_n 1, 1) := by decide +kernel
theorem dX10_noVerse_11 : decode cX10_noVerse 11 = .ok (.invokevirtual 56, 3) := by decide +kernel
theorem dX10_noVerse_14 : decode cX10_noVerse 14 = .ok (.iconst 1, 1) := by decide +kernel
theorem dX10_noVerse_15 : decode cX10_noVerse 15 = .ok (.isub, 1) := by decide +kernel
theorem dX10_noVerse_16 : decode cX10_noVerse 16 = .ok (.invokestatic 48, 3) := by decide +kernel
theorem dX10_noVerse_19 : decode cX10_noVerse 19 = .ok (.ifCond .ne 7, 3) := by decide +kernel
theorem dX10_noVerse_22 : decode cX10_noVerse 22 = .ok (.iconst 1, 1) := by decide +kernel
theorem dX10_noVerse_23 : decode cX10_noVerse 23 = .ok (.goto 4, 3) := by decide +kernel
theorem dX10_noVerse_26 : decode cX10_noVerse 26 = .ok (.iconst 0, 1) := by decide +kernel
theorem dX10_noVerse_27 : decode cX10_noVerse 27 = .ok (.ireturn, 1) := by decide +kernel
theorem dX10_groups_0 : decode cX10_groups 0 = .ok (.aload_n 0, 1) := by decide +kernel
theorem dX10_groups_1 : decode cX10_groups 1 = .ok (.getfield 7, 3) := by decide +kernel
theorem dX10_groups_4 : decode cX10_groups 4 = .ok (.sipush 364, 3) := by decide +kernel
theorem dX10_groups_7 : decode cX10_groups 7 = .ok (.iaload, 1) := by decide +kernel
theorem dX10_groups_8 : decode cX10_groups 8 = .ok (.ireturn, 1) := by decide +kernel
set_option maxRecDepth 20000 in
theorem ggX10_noGroup_X10_groups : GoodIn wsX10_noGroup wsX10_groups := goodIn_r _ [5, 6, 10, 11, 12, 13, 14, 15, 16, 17, 18, 19, 20, 21, 22, 23, 24, 25, 26, 27, 28, 29, 30, 31, 32] (by decide +kernel) (by decide +kernel)
set_option maxRecDepth 20000 in
theorem gX10_noGroup_X10_groups : GoodIn wsX10_noGroup (wsV RX10 60 RX10 yX10_groups wsX10_groups) := goodIn_app (goodIn_of _ (by decide +kernel)) ggX10_noGroup_X10_groups
set_option maxRecDepth 20000 in
theorem ggX10_noGroup_X10_in : GoodIn wsX10_noGroup wsX10_in := goodIn_r _ [9] (by decide +kernel) (by decide +kernel)
set_option maxRecDepth 20000 in
theorem gX10_noGroup_X10_in : GoodIn wsX10_noGroup (va_wsS RX10 48 yX10_in wsX10_in) := goodIn_app (goodIn_of _ (by decide +kernel)) ggX10_noGroup_X10_in
theorem dX10_noGroup_0 : decode cX10_noGroup 0 = .ok (.iload_n 1, 1) := by decide +kernel
theorem dX10_noGroup_1 : decode cX10_noGroup 1 = .ok (.iconst 0, 1) := by decide +kernel
theorem dX10_noGroup_2 : decode cX10_noGroup 2 = .ok (.aload_n 0, 1) := by decide +kernel
theorem dX10_noGroup_3 : decode cX10_noGroup 3 = .ok (.invokevirtual 60, 3) := by decide +kernel
theorem dX10_noGroup_6 : decode cX10_noGroup 6 = .ok (.iconst 1, 1) := by decide +kernel
theorem dX10_noGroup_7 : decode cX10_noGroup 7 = .ok (.isub, 1) := by decide +kernel
theorem dX10_noGroup_8 : decode cX10_noGroup 8 = .ok (.invokestatic 48, 3) := by decide +kernel
theorem dX10_noGroup_11 : decode cX10_noGroup 11 = .ok (.ifCond .ne 7, 3) := by decide +kernel
theorem dX10_noGroup_14 : decode cX10_noGroup 14 = .ok (.iconst 1, 1) := by decide +kernel
theorem dX10_noGroup_15 : decode cX10_noGroup 15 = .ok (.goto 4, 3) := by decide +kernel
theorem dX10_noGroup_18 : decode cX10_noGroup 18 = .ok (.iconst 0, 1) := by decide +kernel
theorem dX10_noGroup_19 : decode cX10_noGroup 19 = .ok (.ireturn, 1) := by decide +kernel
theorem dX10_has_0 : decode cX10_has 0 = .ok (.aload_n 0, 1) := by decide +kernel
theorem dX10_has_1 : decode cX10_has 1 = .ok (.getfield 7, 3) := by decide +kernel
theorem dX10_has_4 : decode cX10_has 4 = .ok (.iload_n 2, 1) := by decide +kernel
theorem dX10_has_5 : decode cX10_has 5 = .ok (.ifCond .ne 9, 3) := by decide +kernel
theorem dX10_has_8 : decode cX10_has 8 = .ok (.sipush 365, 3) := by decide +kernel
theorem dX10_has_11 : decode cX10_has 11 = .ok (.goto 6, 3) := by decide +kernel
theorem dX10_has_14 : decode cX10_has 14 = .ok (.sipush 485, 3) := by decide +kernel
theorem dX10_has_17 : decode cX10_has 17 = .ok (.iload_n 1, 1) := by decide +kernel
theorem dX10_has_18 : decode cX10_has 18 = .ok (.iadd, 1) := by decide +kernel
theorem dX10_has_19 : decode cX10_has 19 = .ok (.iaload, 1) := by decide +kernel
theorem dX10_has_20 : decode cX10_has 20 = .ok (.ireturn, 1) := by decide +kernel
theorem dX10_record_0 : decode cX10_record 0 = .ok (.aload_n 0, 1) := by decide +kernel
theorem dX10_record_1 : decode cX10_record 1 = .ok (.getfield 64, 3) := by decide +kernel
theorem dX10_record_4 : decode cX10_record 4 = .ok (.iconst 5, 1) := by decide +kernel
theorem dX10_record_5 : decode cX10_record 5 = .ok (.if_icmp .ne 49, 3) := by decide +kernel
theorem dX10_record_8 : decode cX10_record 8 = .ok (.aload_n 0, 1) := by decide +kernel
theorem dX10_record_9 : decode cX10_record 9 = .ok (.dup, 1) := by decide +kernel
theorem dX10_record_10 : decode cX10_record 10 = .ok (.getfield 64, 3) := by decide +kernel
theorem dX10_record_13 : decode cX10_record 13 = .ok (.iconst 1, 1) := by decide +kernel
theorem dX10_record_14 : decode cX10_record 14 = .ok (.isub, 1) := by decide +kernel
theorem dX10_record_15 : decode cX10_record 15 = .ok (.putfield 64, 3) := by decide +kernel
theorem dX10_record_18 : decode cX10_record 18 = .ok (.iconst 0, 1) := by decide +kernel
theorem dX10_record_19 : decode cX10_record 19 = .ok (.istore_n 1, 1) := by decide +kernel
theorem dX10_record_20 : decode cX10_record 20 = .ok (.iload_n 1, 1) := by decide +kernel
theorem dX10_record_21 : decode cX10_record 21 = .ok (.sipush 605, 3) := by decide +kernel
theorem dX10_record_24 : decode cX10_record 24 = .ok (.aload_n 0, 1) := by decide +kernel
theorem dX10_record_25 : decode cX10_record 25 = .ok (.getfield 64, 3) := by decide +kernel
theorem dX10_record_28 : decode cX10_record 28 = .ok (.imul, 1) := by decide +kernel
theorem dX10_record_29 : decode cX10_record 29 = .ok (.if_icmp .ge 25, 3) := by decide +kernel
theorem dX10_record_32 : decode cX10_record 32 = .ok (.aload_n 0, 1) := by decide +kernel
theorem dX10_record_33 : decode cX10_record 33 = .ok (.getfield 13, 3) := by decide +kernel
theorem dX10_record_36 : decode cX10_record 36 = .ok (.iload_n 1, 1) := by decide +kernel
theorem dX10_record_37 : decode cX10_record 37 = .ok (.aload_n 0, 1) := by decide +kernel
theorem dX10_record_38 : decode cX10_record 38 = .ok (.getfield 13, 3) := by decide +kernel
theorem dX10_record_41 : decode cX10_record 41 = .ok (.iload_n 1, 1) := by decide +kernel
theorem dX10_record_42 : decode cX10_record 42 = .ok (.sipush 605, 3) := by decide +kernel
theorem dX10_record_45 : decode cX10_record 45 = .ok (.iadd, 1) := by decide +kernel
theorem dX10_record_46 : decode cX10_record 46 = .ok (.iaload, 1) := by decide +kernel
theorem dX10_record_47 : decode cX10_record 47 = .ok (.iastore, 1) := by decide +kernel
theorem dX10_record_48 : decode cX10_record 48 = .ok (.iinc 1 1, 3) := by decide +kernel
theorem dX10_record_51 : decode cX10_record 51 = .ok (.goto (-31), 3) := by decide +kernel
theorem dX10_record_54 : decode cX10_record 54 = .ok (.iconst 0, 1) := by decide +kernel
theorem dX10_record_55 : decode cX10_record 55 = .ok (.istore_n 1, 1) := by decide +kernel
theorem dX10_record_56 : decode cX10_record 56 = .ok (.iload_n 1, 1) := by decide +kernel
theorem dX10_record_57 : decode cX10_record 57 = .ok (.sipush 605, 3) := by decide +kernel
theorem dX10_record_60 : decode cX10_record 60 = .ok (.if_icmp .ge 30, 3) := by decide +kernel
theorem dX10_record_63 : decode cX10_record 63 = .ok (.aload_n 0, 1) := by decide +kernel
theorem dX10_record_64 : decode cX10_record 64 = .ok (.getfield 13, 3) := by decide +kernel
theorem dX10_record_67 : decode cX10_record 67 = .ok (.sipush 605, 3) := by decide +kernel
theorem dX10_record_70 : decode cX10_record 70 = .ok (.aload_n 0, 1) := by decide +kernel
theorem dX10_record_71 : decode cX10_record 71 = .ok (.getfield 64, 3) := by decide +kernel
theorem dX10_record_74 : decode cX10_record 74 = .ok (.imul, 1) := by decide +kernel
theorem dX10_record_75 : decode cX10_record 75 = .ok (.iload_n 1, 1) := by decide +kernel
theorem dX10_record_76 : decode cX10_record 76 = .ok (.iadd, 1) := by decide +kernel
theorem dX10_record_77 : decode cX10_record 77 = .ok (.aload_n 0, 1) := by decide +kernel
theorem dX10_record_78 : decode cX10_record 78 = .ok (.getfield 7, 3) := by decide +kernel
theorem dX10_record_81 : decode cX10_record 81 = .ok (.iload_n 1, 1) := by decide +kernel
theorem dX10_record_82 : decode cX10_record 82 = .ok (.iaload, 1) := by decide +kernel
theorem dX10_record_83 : decode cX10_record 83 = .ok (.iastore, 1) := by decide +kernel
theorem dX10_record_84 : decode cX10_record 84 = .ok (.iinc 1 1, 3) := by decide +kernel
theorem dX10_record_87 : decode cX10_record 87 = .ok (.goto (-31), 3) := by decide +kernel
theorem dX10_record_90 : decode cX10_record 90 = .ok (.aload_n 0, 1) := by decide +kernel
theorem dX10_record_91 : decode cX10_record 91 = .ok (.dup, 1) := by decide +kernel
theorem dX10_record_92 : decode cX10_record 92 = .ok (.getfield 64, 3) := by decide +kernel
theorem dX10_record_95 : decode cX10_record 95 = .ok (.iconst 1, 1) := by decide +kernel
theorem dX10_record_96 : decode cX10_record 96 = .ok (.iadd, 1) := by decide +kernel
theorem dX10_record_97 : decode cX10_record 97 = .ok (.putfield 64, 3) := by decide +kernel
theorem dX10_record_100 : decode cX10_record 100 = .ok (.return_, 1) := by decide +kernel
theorem dX10_undo_0 : decode cX10_undo 0 = .ok (.aload_n 0, 1) := by decide +kernel
theorem dX10_undo_1 : decode cX10_undo 1 = .ok (.getfield 64, 3) := by decide +kernel
theorem dX10_undo_4 : decode cX10_undo 4 = .ok (.ifCond .ne 6, 3) := by decide +kernel
theorem dX10_undo_7 : decode cX10_undo 7 = .ok (.bipush (-5), 2) := by decide +kernel
theorem dX10_undo_9 : decode cX10_undo 9 = .ok (.ireturn, 1) := by decide +kernel
theorem dX10_undo_10 : decode cX10_undo 10 = .ok (.aload_n 0, 1) := by decide +kernel
theorem dX10_undo_11 : decode cX10_undo 11 = .ok (.dup, 1) := by decide +kernel
theorem dX10_undo_12 : decode cX10_undo 12 = .ok (.getfield 64, 3) := by decide +kernel
theorem dX10_undo_15 : decode cX10_undo 15 = .ok (.iconst 1, 1) := by decide +kernel
theorem dX10_undo_16 : decode cX10_undo 16 = .ok (.isub, 1) := by decide +kernel
theorem dX10_undo_17 : decode cX10_undo 17 = .ok (.putfield 64, 3) := by decide +kernel
theorem dX10_undo_20 : decode cX10_undo 20 = .ok (.iconst 0, 1) := by decide +kernel
theorem dX10_undo_21 : decode cX10_undo 21 = .ok (.istore_n 1, 1) := by decide +kernel
theorem dX10_undo_22 : decode cX10_undo 22 = .ok (.iload_n 1, 1) := by decide +kernel
theorem dX10_undo_23 : decode cX10_undo 23 = .ok (.sipush 605, 3) := by decide +kernel
theorem dX10_undo_26 : decode cX10_undo 26 = .ok (.if_icmp .ge 30, 3) := by decide +kernel
theorem dX10_undo_29 : decode cX10_undo 29 = .ok (.aload_n 0, 1) := by decide +kernel
theorem dX10_undo_30 : decode cX10_undo 30 = .ok (.getfield 7, 3) := by decide +kernel
theorem dX10_undo_33 : decode cX10_undo 33 = .ok (.iload_n 1, 1) := by decide +kernel
theorem dX10_undo_34 : decode cX10_undo 34 = .ok (.aload_n 0, 1) := by decide +kernel
theorem dX10_undo_35 : decode cX10_undo 35 = .ok (.getfield 13, 3) := by decide +kernel
theorem dX10_undo_38 : decode cX10_undo 38 = .ok (.sipush 605, 3) := by decide +kernel
theorem dX10_undo_41 : decode cX10_undo 41 = .ok (.aload_n 0, 1) := by decide +kernel
theorem dX10_undo_42 : decode cX10_undo 42 = .ok (.getfield 64, 3) := by decide +kernel
theorem dX10_undo_45 : decode cX10_undo 45 = .ok (.imul, 1) := by decide +kernel
theorem dX10_undo_46 : decode cX10_undo 46 = .ok (.iload_n 1, 1) := by decide +kernel
theorem dX10_undo_47 : decode cX10_undo 47 = .ok (.iadd, 1) := by decide +kernel
theorem dX10_undo_48 : decode cX10_undo 48 = .ok (.iaload, 1) := by decide +kernel
theorem dX10_undo_49 : decode cX10_undo 49 = .ok (.iastore, 1) := by decide +kernel
theorem dX10_undo_50 : decode cX10_undo 50 = .ok (.iinc 1 1, 3) := by decide +kernel
theorem dX10_undo_53 : decode cX10_undo 53 = .ok (.goto (-31), 3) := by decide +kernel
theorem dX10_undo_56 : decode cX10_undo 56 = .ok (.aload_n 0, 1) := by decide +kernel
theorem dX10_undo_57 : decode cX10_undo 57 = .ok (.getfield 64, 3) := by decide +kernel
theorem dX10_undo_60 : decode cX10_undo 60 = .ok (.ireturn, 1) := by decide +kernel
set_option maxRecDepth 20000 in
theorem ggX10_addGroup_X10_groups : GoodIn wsX10_addGroup wsX10_groups := goodIn_r _ [6, 1, 7, 8, 9, 10, 11, 12, 13, 14, 15, 16, 17, 18, 19, 20, 21, 22, 23, 24, 25, 26, 27, 28, 29] (by decide +kernel) (by decide +kernel)
set_option maxRecDepth 20000 in
theorem gX10_addGroup_X10_groups : GoodIn wsX10_addGroup (wsV RX10 60 RX10 yX10_groups wsX10_groups) := goodIn_app (goodIn_of _ (by decide +kernel)) ggX10_addGroup_X10_groups
theorem dX10_addGroup_0 : decode cX10_addGroup 0 = .ok (.aload_n 0, 1) := by decide +kernel
theorem dX10_addGroup_1 : decode cX10_addGroup 1 = .ok (.getfield 7, 3) := by decide +kernel
theorem dX10_addGroup_4 : decode cX10_addGroup 4 = .ok (.sipush 365, 3) := by decide +kernel
theorem dX10_addGroup_7 : decode cX10_addGroup 7 = .ok (.aload_n 0, 1) := by decide +kernel
theorem dX10_addGroup_8 : decode cX10_addGroup 8 = .ok (.invokevirtual 60, 3) := by decide +kernel
theorem dX10_addGroup_11 : decode cX10_addGroup 11 = .ok (.iadd, 1) := by decide +kernel
theorem dX10_addGroup_12 : decode cX10_addGroup 12 = .ok (.iload_n 1, 1) := by decide +kernel
theorem dX10_addGroup_13 : decode cX10_addGroup 13 = .ok (.iastore, 1) := by decide +kernel
theorem dX10_addGroup_14 : decode cX10_addGroup 14 = .ok (.aload_n 0, 1) := by decide +kernel
theorem dX10_addGroup_15 : decode cX10_addGroup 15 = .ok (.getfield 7, 3) := by decide +kernel
theorem dX10_addGroup_18 : decode cX10_addGroup 18 = .ok (.sipush 485, 3) := by decide +kernel
theorem dX10_addGroup_21 : decode cX10_addGroup 21 = .ok (.aload_n 0, 1) := by decide +kernel
theorem dX10_addGroup_22 : decode cX10_addGroup 22 = .ok (.invokevirtual 60, 3) := by decide +kernel
theorem dX10_addGroup_25 : decode cX10_addGroup 25 = .ok (.iadd, 1) := by decide +kernel
theorem dX10_addGroup_26 : decode cX10_addGroup 26 = .ok (.iload_n 2, 1) := by decide +kernel
theorem dX10_addGroup_27 : decode cX10_addGroup 27 = .ok (.iastore, 1) := by decide +kernel
theorem dX10_addGroup_28 : decode cX10_addGroup 28 = .ok (.aload_n 0, 1) := by decide +kernel
theorem dX10_addGroup_29 : decode cX10_addGroup 29 = .ok (.getfield 7, 3) := by decide +kernel
theorem dX10_addGroup_32 : decode cX10_addGroup 32 = .ok (.sipush 364, 3) := by decide +kernel
theorem dX10_addGroup_35 : decode cX10_addGroup 35 = .ok (.dup2, 1) := by decide +kernel
theorem dX10_addGroup_36 : decode cX10_addGroup 36 = .ok (.iaload, 1) := by decide +kernel
theorem dX10_addGroup_37 : decode cX10_addGroup 37 = .ok (.iconst 1, 1) := by decide +kernel
theorem dX10_addGroup_38 : decode cX10_addGroup 38 = .ok (.iadd, 1) := by decide +kernel
theorem dX10_addGroup_39 : decode cX10_addGroup 39 = .ok (.iastore, 1) := by decide +kernel
theorem dX10_addGroup_40 : decode cX10_addGroup 40 = .ok (.return_, 1) := by decide +kernel
set_option maxRecDepth 20000 in
theorem ggX10_addChapter_X10_noBook : GoodIn wsX10_addChapter wsX10_noBook := goodIn_r _ [5, 6, 7, 4, 8] (by decide +kernel) (by decide +kernel)
set_option maxRecDepth 20000 in
theorem gX10_addChapter_X10_noBook : GoodIn wsX10_addChapter (va_wsS RX10 52 yX10_noBook wsX10_noBook) := goodIn_app (goodIn_of _ (by decide +kernel)) ggX10_addChapter_X10_noBook
set_option maxRecDepth 20000 in
theorem ggX10_addChapter_X10_in : GoodIn wsX10_addChapter wsX10_in := goodIn_r _ [8] (by decide +kernel) (by decide +kernel)
set_option maxRecDepth 20000 in
theorem gX10_addChapter_X10_in : GoodIn wsX10_addChapter (va_wsS RX10 48 yX10_in wsX10_in) := goodIn_app (goodIn_of _ (by decide +kernel)) ggX10_addChapter_X10_in
set_option maxRecDepth 20000 in
theorem ggX10_addChapter_X10_size : GoodIn wsX10_addChapter wsX10_size := goodIn_r _ [12, 1, 27, 28, 29, 30, 31, 32, 33, 34, 35, 36, 37, 38, 39, 40, 41, 42, 43, 44, 45, 46, 47, 48, 49] (by decide +kernel) (by decide +kernel)
set_option maxRecDepth 20000 in
theorem gX10_addChapter_X10_size : GoodIn wsX10_addChapter (wsV RX10 56 RX10 yX10_size wsX10_size) := goodIn_app (goodIn_of _ (by decide +kernel)) ggX10_addChapter_X10_size
set_option maxRecDepth 20000 in
theorem ggX10_addChapter_X10_record : GoodIn wsX10_addChapter wsX10_record := goodIn_r _ [16, 17, 18, 1, 27, 28, 29, 30, 31, 32, 33, 34, 35, 36, 37, 38, 39, 40, 41, 42, 43, 44, 45, 46, 47, 48, 49] (by decide +kernel) (by decide +kernel)
set_option maxRecDepth 20000 in
theorem gX10_addChapter_X10_record : GoodIn wsX10_addChapter (wsV RX10 67 RX10 yX10_record wsX10_record) := goodIn_app (goodIn_of _ (by decide +kernel)) ggX10_addChapter_X10_record
set_option maxRecDepth 20000 in
theorem ggX10_addChapter_X10_addGroup : GoodIn wsX10_addChapter wsX10_addGroup := goodIn_r _ [22, 1, 23, 24, 25, 4, 26, 27, 28, 29, 30, 31, 32, 33, 34, 35, 36, 37, 38, 39, 40, 41, 42, 43, 44, 45, 46, 47, 48, 49] (by decide +kernel) (by decide +kernel)
set_option maxRecDepth 20000 in
theorem gX10_addChapter_X10_addGroup : GoodIn wsX10_addChapter (wsV RX10 70 RX10 yX10_addGroup wsX10_addGroup) := goodIn_app (goodIn_of _ (by decide +kernel)) ggX10_addChapter_X10_addGroup
theorem dX10_addChapter_0 : decode cX10_addChapter 0 = .ok (.iload_n 1, 1) := by decide +kernel
theorem dX10_addChapter_1 : decode cX10_addChapter 1 = .ok (.invokestatic 52, 3) := by decide +kernel
theorem dX10_addChapter_4 : decode cX10_addChapter 4 = .ok (.ifCond .eq 5, 3) := by decide +kernel
theorem dX10_addChapter_7 : decode cX10_addChapter 7 = .ok (.iconst (-1), 1) := by decide +kernel
theorem dX10_addChapter_8 : decode cX10_addChapter 8 = .ok (.ireturn, 1) := by decide +kernel
theorem dX10_addChapter_9 : decode cX10_addChapter 9 = .ok (.iload_n 2, 1) := by decide +kernel
theorem dX10_addChapter_10 : decode cX10_addChapter 10 = .ok (.iconst 1, 1) := by decide +kernel
theorem dX10_addChapter_11 : decode cX10_addChapter 11 = .ok (.bipush 60, 2) := by decide +kernel
theorem dX10_addChapter_13 : decode cX10_addChapter 13 = .ok (.invokestatic 48, 3) := by decide +kernel
theorem dX10_addChapter_16 : decode cX10_addChapter 16 = .ok (.ifCond .eq 14, 3) := by decide +kernel
theorem dX10_addChapter_19 : decode cX10_addChapter 19 = .ok (.iload_n 3, 1) := by decide +kernel
theorem dX10_addChapter_20 : decode cX10_addChapter 20 = .ok (.iconst 1, 1) := by decide +kernel
theorem dX10_addChapter_21 : decode cX10_addChapter 21 = .ok (.sipush 2000, 3) := by decide +kernel
theorem dX10_addChapter_24 : decode cX10_addChapter 24 = .ok (.invokestatic 48, 3) := by decide +kernel
theorem dX10_addChapter_27 : decode cX10_addChapter 27 = .ok (.ifCond .ne 6, 3) := by decide +kernel
theorem dX10_addChapter_30 : decode cX10_addChapter 30 = .ok (.bipush (-2), 2) := by decide +kernel
theorem dX10_addChapter_32 : decode cX10_addChapter 32 = .ok (.ireturn, 1) := by decide +kernel
theorem dX10_addChapter_33 : decode cX10_addChapter 33 = .ok (.aload_n 0, 1) := by decide +kernel
theorem dX10_addChapter_34 : decode cX10_addChapter 34 = .ok (.getfield 7, 3) := by decide +kernel
theorem dX10_addChapter_37 : decode cX10_addChapter 37 = .ok (.sipush 362, 3) := by decide +kernel
theorem dX10_addChapter_40 : decode cX10_addChapter 40 = .ok (.iload_n 1, 1) := by decide +kernel
theorem dX10_addChapter_41 : decode cX10_addChapter 41 = .ok (.iadd, 1) := by decide +kernel
theorem dX10_addChapter_42 : decode cX10_addChapter 42 = .ok (.iaload, 1) := by decide +kernel
theorem dX10_addChapter_43 : decode cX10_addChapter 43 = .ok (.bipush 10, 2) := by decide +kernel
theorem dX10_addChapter_45 : decode cX10_addChapter 45 = .ok (.if_icmp .eq 15, 3) := by decide +kernel
theorem dX10_addChapter_48 : decode cX10_addChapter 48 = .ok (.aload_n 0, 1) := by decide +kernel
theorem dX10_addChapter_49 : decode cX10_addChapter 49 = .ok (.iload_n 1, 1) := by decide +kernel
theorem dX10_addChapter_50 : decode cX10_addChapter 50 = .ok (.invokevirtual 56, 3) := by decide +kernel
theorem dX10_addChapter_53 : decode cX10_addChapter 53 = .ok (.iload_n 2, 1) := by decide +kernel
theorem dX10_addChapter_54 : decode cX10_addChapter 54 = .ok (.iadd, 1) := by decide +kernel
theorem dX10_addChapter_55 : decode cX10_addChapter 55 = .ok (.bipush 60, 2) := by decide +kernel
theorem dX10_addChapter_57 : decode cX10_addChapter 57 = .ok (.if_icmp .le 6, 3) := by decide +kernel
theorem dX10_addChapter_60 : decode cX10_addChapter 60 = .ok (.bipush (-3), 2) := by decide +kernel
theorem dX10_addChapter_62 : decode cX10_addChapter 62 = .ok (.ireturn, 1) := by decide +kernel
theorem dX10_addChapter_63 : decode cX10_addChapter 63 = .ok (.aload_n 0, 1) := by decide +kernel
theorem dX10_addChapter_64 : decode cX10_addChapter 64 = .ok (.invokevirtual 67, 3) := by decide +kernel
theorem dX10_addChapter_67 : decode cX10_addChapter 67 = .ok (.aload_n 0, 1) := by decide +kernel
theorem dX10_addChapter_68 : decode cX10_addChapter 68 = .ok (.getfield 7, 3) := by decide +kernel
theorem dX10_addChapter_71 : decode cX10_addChapter 71 = .ok (.sipush 362, 3) := by decide +kernel
theorem dX10_addChapter_74 : decode cX10_addChapter 74 = .ok (.iload_n 1, 1) := by decide +kernel
theorem dX10_addChapter_75 : decode cX10_addChapter 75 = .ok (.iadd, 1) := by decide +kernel
theorem dX10_addChapter_76 : decode cX10_addChapter 76 = .ok (.dup2, 1) := by decide +kernel
theorem dX10_addChapter_77 : decode cX10_addChapter 77 = .ok (.iaload, 1) := by decide +kernel
theorem dX10_addChapter_78 : decode cX10_addChapter 78 = .ok (.iconst 1, 1) := by decide +kernel
theorem dX10_addChapter_79 : decode cX10_addChapter 79 = .ok (.iadd, 1) := by decide +kernel
theorem dX10_addChapter_80 : decode cX10_addChapter 80 = .ok (.iastore, 1) := by decide +kernel
theorem dX10_addChapter_81 : decode cX10_addChapter 81 = .ok (.iconst 0, 1) := by decide +kernel
theorem dX10_addChapter_82 : decode cX10_addChapter 82 = .ok (.istore 4, 2) := by decide +kernel
theorem dX10_addChapter_84 : decode cX10_addChapter 84 = .ok (.iload 4, 2) := by decide +kernel
theorem dX10_addChapter_86 : decode cX10_addChapter 86 = .ok (.iload_n 2, 1) := by decide +kernel
theorem dX10_addChapter_87 : decode cX10_addChapter 87 = .ok (.if_icmp .ge 83, 3) := by decide +kernel
theorem dX10_addChapter_90 : decode cX10_addChapter 90 = .ok (.bipush 60, 2) := by decide +kernel
theorem dX10_addChapter_92 : decode cX10_addChapter 92 = .ok (.iload_n 1, 1) := by decide +kernel
theorem dX10_addChapter_93 : decode cX10_addChapter 93 = .ok (.imul, 1) := by decide +kernel
theorem dX10_addChapter_94 : decode cX10_addChapter 94 = .ok (.aload_n 0, 1) := by decide +kernel
theorem dX10_addChapter_95 : decode cX10_addChapter 95 = .ok (.iload_n 1, 1) := by decide +kernel
theorem dX10_addChapter_96 : decode cX10_addChapter 96 = .ok (.invokevirtual 56, 3) := by decide +kernel
theorem dX10_addChapter_99 : decode cX10_addChapter 99 = .ok (.iadd, 1) := by decide +kernel
theorem dX10_addChapter_100 : decode cX10_addChapter 100 = .ok (.istore 5, 2) := by decide +kernel
theorem dX10_addChapter_102 : decode cX10_addChapter 102 = .ok (.aload_n 0, 1) := by decide +kernel
theorem dX10_addChapter_103 : decode cX10_addChapter 103 = .ok (.getfield 7, 3) := by decide +kernel
theorem dX10_addChapter_106 : decode cX10_addChapter 106 = .ok (.iload 5, 2) := by decide +kernel
theorem dX10_addChapter_108 : decode cX10_addChapter 108 = .ok (.iload_n 3, 1) := by decide +kernel
theorem dX10_addChapter_109 : decode cX10_addChapter 109 = .ok (.iastore, 1) := by decide +kernel
theorem dX10_addChapter_110 : decode cX10_addChapter 110 = .ok (.aload_n 0, 1) := by decide +kernel
theorem dX10_addChapter_111 : decode cX10_addChapter 111 = .ok (.getfield 7, 3) := by decide +kernel
theorem dX10_addChapter_114 : decode cX10_addChapter 114 = .ok (.bipush 120, 2) := by decide +kernel
theorem dX10_addChapter_116 : decode cX10_addChapter 116 = .ok (.iload 5, 2) := by decide +kernel
theorem dX10_addChapter_118 : decode cX10_addChapter 118 = .ok (.iadd, 1) := by decide +kernel
theorem dX10_addChapter_119 : decode cX10_addChapter 119 = .ok (.iconst 0, 1) := by decide +kernel
theorem dX10_addChapter_120 : decode cX10_addChapter 120 = .ok (.iastore, 1) := by decide +kernel
theorem dX10_addChapter_121 : decode cX10_addChapter 121 = .ok (.aload_n 0, 1) := by decide +kernel
theorem dX10_addChapter_122 : decode cX10_addChapter 122 = .ok (.getfield 7, 3) := by decide +kernel
theorem dX10_addChapter_125 : decode cX10_addChapter 125 = .ok (.sipush 240, 3) := by decide +kernel
theorem dX10_addChapter_128 : decode cX10_addChapter 128 = .ok (.iload 5, 2) := by decide +kernel
theorem dX10_addChapter_130 : decode cX10_addChapter 130 = .ok (.iadd, 1) := by decide +kernel
theorem dX10_addChapter_131 : decode cX10_addChapter 131 = .ok (.aload_n 0, 1) := by decide +kernel
theorem dX10_addChapter_132 : decode cX10_addChapter 132 = .ok (.getfield 7, 3) := by decide +kernel
theorem dX10_addChapter_135 : decode cX10_addChapter 135 = .ok (.sipush 362, 3) := by decide +kernel
theorem dX10_addChapter_138 : decode cX10_addChapter 138 = .ok (.iload_n 1, 1) := by decide +kernel
theorem dX10_addChapter_139 : decode cX10_addChapter 139 = .ok (.iadd, 1) := by decide +kernel
theorem dX10_addChapter_140 : decode cX10_addChapter 140 = .ok (.iaload, 1) := by decide +kernel
theorem dX10_addChapter_141 : decode cX10_addChapter 141 = .ok (.iastore, 1) := by decide +kernel
theorem dX10_addChapter_142 : decode cX10_addChapter 142 = .ok (.aload_n 0, 1) := by decide +kernel
theorem dX10_addChapter_143 : decode cX10_addChapter 143 = .ok (.getfield 7, 3) := by decide +kernel
theorem dX10_addChapter_146 : decode cX10_addChapter 146 = .ok (.sipush 360, 3) := by decide +kernel
theorem dX10_addChapter_149 : decode cX10_addChapter 149 = .ok (.iload_n 1, 1) := by decide +kernel
theorem dX10_addChapter_150 : decode cX10_addChapter 150 = .ok (.iadd, 1) := by decide +kernel
theorem dX10_addChapter_151 : decode cX10_addChapter 151 = .ok (.dup2, 1) := by decide +kernel
theorem dX10_addChapter_152 : decode cX10_addChapter 152 = .ok (.iaload, 1) := by decide +kernel
theorem dX10_addChapter_153 : decode cX10_addChapter 153 = .ok (.iconst 1, 1) := by decide +kernel
theorem dX10_addChapter_154 : decode cX10_addChapter 154 = .ok (.iadd, 1) := by decide +kernel
theorem dX10_addChapter_155 : decode cX10_addChapter 155 = .ok (.iastore, 1) := by decide +kernel
theorem dX10_addChapter_156 : decode cX10_addChapter 156 = .ok (.aload_n 0, 1) := by decide +kernel
theorem dX10_addChapter_157 : decode cX10_addChapter 157 = .ok (.iconst 1, 1) := by decide +kernel
theorem dX10_addChapter_158 : decode cX10_addChapter 158 = .ok (.iload_n 1, 1) := by decide +kernel
theorem dX10_addChapter_159 : decode cX10_addChapter 159 = .ok (.isub, 1) := by decide +kernel
theorem dX10_addChapter_160 : decode cX10_addChapter 160 = .ok (.iload_n 1, 1) := by decide +kernel
theorem dX10_addChapter_161 : decode cX10_addChapter 161 = .ok (.invokevirtual 70, 3) := by decide +kernel
theorem dX10_addChapter_164 : decode cX10_addChapter 164 = .ok (.iinc 4 1, 3) := by decide +kernel
theorem dX10_addChapter_167 : decode cX10_addChapter 167 = .ok (.goto (-83), 3) := by decide +kernel
theorem dX10_addChapter_170 : decode cX10_addChapter 170 = .ok (.aload_n 0, 1) := by decide +kernel
theorem dX10_addChapter_171 : decode cX10_addChapter 171 = .ok (.getfield 7, 3) := by decide +kernel
theorem dX10_addChapter_174 : decode cX10_addChapter 174 = .ok (.sipush 362, 3) := by decide +kernel
theorem dX10_addChapter_177 : decode cX10_addChapter 177 = .ok (.iload_n 1, 1) := by decide +kernel
theorem dX10_addChapter_178 : decode cX10_addChapter 178 = .ok (.iadd, 1) := by decide +kernel
theorem dX10_addChapter_179 : decode cX10_addChapter 179 = .ok (.iaload, 1) := by decide +kernel
theorem dX10_addChapter_180 : decode cX10_addChapter 180 = .ok (.ireturn, 1) := by decide +kernel
set_option maxRecDepth 20000 in
theorem ggX10_setVerse_X10_noVerse : GoodIn wsX10_setVerse wsX10_noVerse := goodIn_r _ [6, 7, 8, 5, 9, 10, 11, 12, 13, 14, 15, 16, 1, 23, 24, 25, 26, 27, 28, 29, 30, 31, 32, 33, 34, 35, 36, 37, 38, 39, 40, 41, 42, 43, 44, 45] (by decide +kernel) (by decide +kernel)
set_option maxRecDepth 20000 in
theorem gX10_setVerse_X10_noVerse : GoodIn wsX10_setVerse (wsV RX10 74 RX10 yX10_noVerse wsX10_noVerse) := goodIn_app (goodIn_of _ (by decide +kernel)) ggX10_setVerse_X10_noVerse
set_option maxRecDepth 20000 in
theorem ggX10_setVerse_X10_in : GoodIn wsX10_setVerse wsX10_in := goodIn_r _ [12] (by decide +kernel) (by decide +kernel)
set_option maxRecDepth 20000 in
theorem gX10_setVerse_X10_in : GoodIn wsX10_setVerse (va_wsS RX10 48 yX10_in wsX10_in) := goodIn_app (goodIn_of _ (by decide +kernel)) ggX10_setVerse_X10_in
set_option maxRecDepth 20000 in
theorem ggX10_setVerse_X10_record : GoodIn wsX10_setVerse wsX10_record := goodIn_r _ [20, 21, 22, 1, 23, 24, 25, 26, 27, 28, 29, 30, 31, 32, 33, 34, 35, 36, 37, 38, 39, 40, 41, 42, 43, 44, 45] (by decide +kernel) (by decide +kernel)
set_option maxRecDepth 20000 in
theorem gX10_setVerse_X10_record : GoodIn wsX10_setVerse (wsV RX10 67 RX10 yX10_record wsX10_record) := goodIn_app (goodIn_of _ (by decide +kernel)) ggX10_setVerse_X10_record
theorem dX10_setVerse_0 : decode cX10_setVerse 0 = .ok (.aload_n 0, 1) := by decide +kernel
theorem dX10_setVerse_1 : decode cX10_setVerse 1 = .ok (.iload_n 1, 1) := by decide +kernel
theorem dX10_setVerse_2 : decode cX10_setVerse 2 = .ok (.iload_n 2, 1) := by decide +kernel
theorem dX10_setVerse_3 : decode cX10_setVerse 3 = .ok (.invokevirtual 74, 3) := by decide +kernel
theorem dX10_setVerse_6 : decode cX10_setVerse 6 = .ok (.ifCond .eq 5, 3) := by decide +kernel
theorem dX10_setVerse_9 : decode cX10_setVerse 9 = .ok (.iconst (-1), 1) := by decide +kernel
theorem dX10_setVerse_10 : decode cX10_setVerse 10 = .ok (.ireturn, 1) := by decide +kernel
theorem dX10_setVerse_11 : decode cX10_setVerse 11 = .ok (.iload_n 3, 1) := by decide +kernel
theorem dX10_setVerse_12 : decode cX10_setVerse 12 = .ok (.iconst 1, 1) := by decide +kernel
theorem dX10_setVerse_13 : decode cX10_setVerse 13 = .ok (.sipush 2000, 3) := by decide +kernel
theorem dX10_setVerse_16 : decode cX10_setVerse 16 = .ok (.invokestatic 48, 3) := by decide +kernel
theorem dX10_setVerse_19 : decode cX10_setVerse 19 = .ok (.ifCond .eq 14, 3) := by decide +kernel
theorem dX10_setVerse_22 : decode cX10_setVerse 22 = .ok (.iload 4, 2) := by decide +kernel
theorem dX10_setVerse_24 : decode cX10_setVerse 24 = .ok (.iconst 0, 1) := by decide +kernel
theorem dX10_setVerse_25 : decode cX10_setVerse 25 = .ok (.bipush 10, 2) := by decide +kernel
theorem dX10_setVerse_27 : decode cX10_setVerse 27 = .ok (.invokestatic 48, 3) := by decide +kernel
theorem dX10_setVerse_30 : decode cX10_setVerse 30 = .ok (.ifCond .ne 6, 3) := by decide +kernel
theorem dX10_setVerse_33 : decode cX10_setVerse 33 = .ok (.bipush (-2), 2) := by decide +kernel
theorem dX10_setVerse_35 : decode cX10_setVerse 35 = .ok (.ireturn, 1) := by decide +kernel
theorem dX10_setVerse_36 : decode cX10_setVerse 36 = .ok (.aload_n 0, 1) := by decide +kernel
theorem dX10_setVerse_37 : decode cX10_setVerse 37 = .ok (.invokevirtual 67, 3) := by decide +kernel
theorem dX10_setVerse_40 : decode cX10_setVerse 40 = .ok (.bipush 60, 2) := by decide +kernel
theorem dX10_setVerse_42 : decode cX10_setVerse 42 = .ok (.iload_n 1, 1) := by decide +kernel
theorem dX10_setVerse_43 : decode cX10_setVerse 43 = .ok (.imul, 1) := by decide +kernel
theorem dX10_setVerse_44 : decode cX10_setVerse 44 = .ok (.iload_n 2, 1) := by decide +kernel
theorem dX10_setVerse_45 : decode cX10_setVerse 45 = .ok (.iadd, 1) := by decide +kernel
theorem dX10_setVerse_46 : decode cX10_setVerse 46 = .ok (.istore 5, 2) := by decide +kernel
theorem dX10_setVerse_48 : decode cX10_setVerse 48 = .ok (.aload_n 0, 1) := by decide +kernel
theorem dX10_setVerse_49 : decode cX10_setVerse 49 = .ok (.getfield 7, 3) := by decide +kernel
theorem dX10_setVerse_52 : decode cX10_setVerse 52 = .ok (.iload 5, 2) := by decide +kernel
theorem dX10_setVerse_54 : decode cX10_setVerse 54 = .ok (.iaload, 1) := by decide +kernel
theorem dX10_setVerse_55 : decode cX10_setVerse 55 = .ok (.istore 6, 2) := by decide +kernel
theorem dX10_setVerse_57 : decode cX10_setVerse 57 = .ok (.aload_n 0, 1) := by decide +kernel
theorem dX10_setVerse_58 : decode cX10_setVerse 58 = .ok (.getfield 7, 3) := by decide +kernel
theorem dX10_setVerse_61 : decode cX10_setVerse 61 = .ok (.iload 5, 2) := by decide +kernel
theorem dX10_setVerse_63 : decode cX10_setVerse 63 = .ok (.iload_n 3, 1) := by decide +kernel
theorem dX10_setVerse_64 : decode cX10_setVerse 64 = .ok (.iastore, 1) := by decide +kernel
theorem dX10_setVerse_65 : decode cX10_setVerse 65 = .ok (.aload_n 0, 1) := by decide +kernel
theorem dX10_setVerse_66 : decode cX10_setVerse 66 = .ok (.getfield 7, 3) := by decide +kernel
theorem dX10_setVerse_69 : decode cX10_setVerse 69 = .ok (.bipush 120, 2) := by decide +kernel
theorem dX10_setVerse_71 : decode cX10_setVerse 71 = .ok (.iload 5, 2) := by decide +kernel
theorem dX10_setVerse_73 : decode cX10_setVerse 73 = .ok (.iadd, 1) := by decide +kernel
theorem dX10_setVerse_74 : decode cX10_setVerse 74 = .ok (.iload 4, 2) := by decide +kernel
theorem dX10_setVerse_76 : decode cX10_setVerse 76 = .ok (.iastore, 1) := by decide +kernel
theorem dX10_setVerse_77 : decode cX10_setVerse 77 = .ok (.iload 6, 2) := by decide +kernel
theorem dX10_setVerse_79 : decode cX10_setVerse 79 = .ok (.ireturn, 1) := by decide +kernel
set_option maxRecDepth 20000 in
theorem ggX10_firstIn_X10_has : GoodIn wsX10_firstIn wsX10_has := goodIn_r _ [5, 6, 7, 8, 9, 10, 11, 12, 13, 14, 15, 16, 17, 18, 19, 20, 21, 22, 23, 24, 25, 26, 27, 28, 29] (by decide +kernel) (by decide +kernel)
set_option maxRecDepth 20000 in
theorem gX10_firstIn_X10_has : GoodIn wsX10_firstIn (wsV RX10 78 RX10 yX10_has wsX10_has) := goodIn_app (goodIn_of _ (by decide +kernel)) ggX10_firstIn_X10_has
theorem dX10_firstIn_0 : decode cX10_firstIn 0 = .ok (.iconst 0, 1) := by decide +kernel
theorem dX10_firstIn_1 : decode cX10_firstIn 1 = .ok (.istore_n 3, 1) := by decide +kernel
theorem dX10_firstIn_2 : decode cX10_firstIn 2 = .ok (.iconst 0, 1) := by decide +kernel
theorem dX10_firstIn_3 : decode cX10_firstIn 3 = .ok (.istore 4, 2) := by decide +kernel
theorem dX10_firstIn_5 : decode cX10_firstIn 5 = .ok (.iload 4, 2) := by decide +kernel
theorem dX10_firstIn_7 : decode cX10_firstIn 7 = .ok (.iload_n 1, 1) := by decide +kernel
theorem dX10_firstIn_8 : decode cX10_firstIn 8 = .ok (.if_icmp .ge 19, 3) := by decide +kernel
theorem dX10_firstIn_11 : decode cX10_firstIn 11 = .ok (.iload_n 3, 1) := by decide +kernel
theorem dX10_firstIn_12 : decode cX10_firstIn 12 = .ok (.aload_n 0, 1) := by decide +kernel
theorem dX10_firstIn_13 : decode cX10_firstIn 13 = .ok (.iload 4, 2) := by decide +kernel
theorem dX10_firstIn_15 : decode cX10_firstIn 15 = .ok (.iload_n 2, 1) := by decide +kernel
theorem dX10_firstIn_16 : decode cX10_firstIn 16 = .ok (.invokevirtual 78, 3) := by decide +kernel
theorem dX10_firstIn_19 : decode cX10_firstIn 19 = .ok (.iadd, 1) := by decide +kernel
theorem dX10_firstIn_20 : decode cX10_firstIn 20 = .ok (.istore_n 3, 1) := by decide +kernel
theorem dX10_firstIn_21 : decode cX10_firstIn 21 = .ok (.iinc 4 1, 3) := by decide +kernel
theorem dX10_firstIn_24 : decode cX10_firstIn 24 = .ok (.goto (-19), 3) := by decide +kernel
theorem dX10_firstIn_27 : decode cX10_firstIn 27 = .ok (.iload_n 3, 1) := by decide +kernel
theorem dX10_firstIn_28 : decode cX10_firstIn 28 = .ok (.ireturn, 1) := by decide +kernel
set_option maxRecDepth 20000 in
theorem ggX10_groupOf_X10_has : GoodIn wsX10_groupOf wsX10_has := goodIn_r _ [5, 6, 7, 8, 9, 10, 11, 12, 13, 14, 15, 16, 17, 18, 19, 20, 21, 22, 23, 24, 25, 26, 27, 28, 29] (by decide +kernel) (by decide +kernel)
set_option maxRecDepth 20000 in
theorem gX10_groupOf_X10_has : GoodIn wsX10_groupOf (wsV RX10 78 RX10 yX10_has wsX10_has) := goodIn_app (goodIn_of _ (by decide +kernel)) ggX10_groupOf_X10_has
theorem dX10_groupOf_0 : decode cX10_groupOf 0 = .ok (.iconst 0, 1) := by decide +kernel
theorem dX10_groupOf_1 : decode cX10_groupOf 1 = .ok (.istore_n 3, 1) := by decide +kernel
theorem dX10_groupOf_2 : decode cX10_groupOf 2 = .ok (.iload_n 2, 1) := by decide +kernel
theorem dX10_groupOf_3 : decode cX10_groupOf 3 = .ok (.istore 4, 2) := by decide +kernel
theorem dX10_groupOf_5 : decode cX10_groupOf 5 = .ok (.iload 4, 2) := by decide +kernel
theorem dX10_groupOf_7 : decode cX10_groupOf 7 = .ok (.aload_n 0, 1) := by decide +kernel
theorem dX10_groupOf_8 : decode cX10_groupOf 8 = .ok (.iload_n 3, 1) := by decide +kernel
theorem dX10_groupOf_9 : decode cX10_groupOf 9 = .ok (.iload_n 1, 1) := by decide +kernel
theorem dX10_groupOf_10 : decode cX10_groupOf 10 = .ok (.invokevirtual 78, 3) := by decide +kernel
theorem dX10_groupOf_13 : decode cX10_groupOf 13 = .ok (.if_icmp .lt 20, 3) := by decide +kernel
theorem dX10_groupOf_16 : decode cX10_groupOf 16 = .ok (.iload 4, 2) := by decide +kernel
theorem dX10_groupOf_18 : decode cX10_groupOf 18 = .ok (.aload_n 0, 1) := by decide +kernel
theorem dX10_groupOf_19 : decode cX10_groupOf 19 = .ok (.iload_n 3, 1) := by decide +kernel
theorem dX10_groupOf_20 : decode cX10_groupOf 20 = .ok (.iload_n 1, 1) := by decide +kernel
theorem dX10_groupOf_21 : decode cX10_groupOf 21 = .ok (.invokevirtual 78, 3) := by decide +kernel
theorem dX10_groupOf_24 : decode cX10_groupOf 24 = .ok (.isub, 1) := by decide +kernel
theorem dX10_groupOf_25 : decode cX10_groupOf 25 = .ok (.istore 4, 2) := by decide +kernel
theorem dX10_groupOf_27 : decode cX10_groupOf 27 = .ok (.iinc 3 1, 3) := by decide +kernel
theorem dX10_groupOf_30 : decode cX10_groupOf 30 = .ok (.goto (-25), 3) := by decide +kernel
theorem dX10_groupOf_33 : decode cX10_groupOf 33 = .ok (.iload_n 3, 1) := by decide +kernel
theorem dX10_groupOf_34 : decode cX10_groupOf 34 = .ok (.ireturn, 1) := by decide +kernel
set_option maxRecDepth 20000 in
theorem ggX10_joinGroups_X10_groups : GoodIn wsX10_joinGroups wsX10_groups := goodIn_r _ [6, 1, 7, 8, 9, 10, 11, 12, 13, 14, 15, 16, 17, 18, 19, 20, 21, 22, 23, 24, 25, 26, 27, 28, 29] (by decide +kernel) (by decide +kernel)
set_option maxRecDepth 20000 in
theorem gX10_joinGroups_X10_groups : GoodIn wsX10_joinGroups (wsV RX10 60 RX10 yX10_groups wsX10_groups) := goodIn_app (goodIn_of _ (by decide +kernel)) ggX10_joinGroups_X10_groups
theorem dX10_joinGroups_0 : decode cX10_joinGroups 0 = .ok (.iload_n 2, 1) := by decide +kernel
theorem dX10_joinGroups_1 : decode cX10_joinGroups 1 = .ok (.iload_n 1, 1) := by decide +kernel
theorem dX10_joinGroups_2 : decode cX10_joinGroups 2 = .ok (.isub, 1) := by decide +kernel
theorem dX10_joinGroups_3 : decode cX10_joinGroups 3 = .ok (.istore_n 3, 1) := by decide +kernel
theorem dX10_joinGroups_4 : decode cX10_joinGroups 4 = .ok (.iload_n 1, 1) := by decide +kernel
theorem dX10_joinGroups_5 : decode cX10_joinGroups 5 = .ok (.iconst 1, 1) := by decide +kernel
theorem dX10_joinGroups_6 : decode cX10_joinGroups 6 = .ok (.iadd, 1) := by decide +kernel
theorem dX10_joinGroups_7 : decode cX10_joinGroups 7 = .ok (.istore 4, 2) := by decide +kernel
theorem dX10_joinGroups_9 : decode cX10_joinGroups 9 = .ok (.iload 4, 2) := by decide +kernel
theorem dX10_joinGroups_11 : decode cX10_joinGroups 11 = .ok (.iload_n 2, 1) := by decide +kernel
theorem dX10_joinGroups_12 : decode cX10_joinGroups 12 = .ok (.if_icmp .gt 57, 3) := by decide +kernel
theorem dX10_joinGroups_15 : decode cX10_joinGroups 15 = .ok (.aload_n 0, 1) := by decide +kernel
theorem dX10_joinGroups_16 : decode cX10_joinGroups 16 = .ok (.getfield 7, 3) := by decide +kernel
theorem dX10_joinGroups_19 : decode cX10_joinGroups 19 = .ok (.sipush 365, 3) := by decide +kernel
theorem dX10_joinGroups_22 : decode cX10_joinGroups 22 = .ok (.iload_n 1, 1) := by decide +kernel
theorem dX10_joinGroups_23 : decode cX10_joinGroups 23 = .ok (.iadd, 1) := by decide +kernel
theorem dX10_joinGroups_24 : decode cX10_joinGroups 24 = .ok (.dup2, 1) := by decide +kernel
theorem dX10_joinGroups_25 : decode cX10_joinGroups 25 = .ok (.iaload, 1) := by decide +kernel
theorem dX10_joinGroups_26 : decode cX10_joinGroups 26 = .ok (.aload_n 0, 1) := by decide +kernel
theorem dX10_joinGroups_27 : decode cX10_joinGroups 27 = .ok (.getfield 7, 3) := by decide +kernel
theorem dX10_joinGroups_30 : decode cX10_joinGroups 30 = .ok (.sipush 365, 3) := by decide +kernel
theorem dX10_joinGroups_33 : decode cX10_joinGroups 33 = .ok (.iload 4, 2) := by decide +kernel
theorem dX10_joinGroups_35 : decode cX10_joinGroups 35 = .ok (.iadd, 1) := by decide +kernel
theorem dX10_joinGroups_36 : decode cX10_joinGroups 36 = .ok (.iaload, 1) := by decide +kernel
theorem dX10_joinGroups_37 : decode cX10_joinGroups 37 = .ok (.iadd, 1) := by decide +kernel
theorem dX10_joinGroups_38 : decode cX10_joinGroups 38 = .ok (.iastore, 1) := by decide +kernel
theorem dX10_joinGroups_39 : decode cX10_joinGroups 39 = .ok (.aload_n 0, 1) := by decide +kernel
theorem dX10_joinGroups_40 : decode cX10_joinGroups 40 = .ok (.getfield 7, 3) := by decide +kernel
theorem dX10_joinGroups_43 : decode cX10_joinGroups 43 = .ok (.sipush 485, 3) := by decide +kernel
theorem dX10_joinGroups_46 : decode cX10_joinGroups 46 = .ok (.iload_n 1, 1) := by decide +kernel
theorem dX10_joinGroups_47 : decode cX10_joinGroups 47 = .ok (.iadd, 1) := by decide +kernel
theorem dX10_joinGroups_48 : decode cX10_joinGroups 48 = .ok (.dup2, 1) := by decide +kernel
theorem dX10_joinGroups_49 : decode cX10_joinGroups 49 = .ok (.iaload, 1) := by decide +kernel
theorem dX10_joinGroups_50 : decode cX10_joinGroups 50 = .ok (.aload_n 0, 1) := by decide +kernel
theorem dX10_joinGroups_51 : decode cX10_joinGroups 51 = .ok (.getfield 7, 3) := by decide +kernel
theorem dX10_joinGroups_54 : decode cX10_joinGroups 54 = .ok (.sipush 485, 3) := by decide +kernel
theorem dX10_joinGroups_57 : decode cX10_joinGroups 57 = .ok (.iload 4, 2) := by decide +kernel
theorem dX10_joinGroups_59 : decode cX10_joinGroups 59 = .ok (.iadd, 1) := by decide +kernel
theorem dX10_joinGroups_60 : decode cX10_joinGroups 60 = .ok (.iaload, 1) := by decide +kernel
theorem dX10_joinGroups_61 : decode cX10_joinGroups 61 = .ok (.iadd, 1) := by decide +kernel
theorem dX10_joinGroups_62 : decode cX10_joinGroups 62 = .ok (.iastore, 1) := by decide +kernel
theorem dX10_joinGroups_63 : decode cX10_joinGroups 63 = .ok (.iinc 4 1, 3) := by decide +kernel
theorem dX10_joinGroups_66 : decode cX10_joinGroups 66 = .ok (.goto (-57), 3) := by decide +kernel
theorem dX10_joinGroups_69 : decode cX10_joinGroups 69 = .ok (.iload_n 1, 1) := by decide +kernel
theorem dX10_joinGroups_70 : decode cX10_joinGroups 70 = .ok (.iconst 1, 1) := by decide +kernel
theorem dX10_joinGroups_71 : decode cX10_joinGroups 71 = .ok (.iadd, 1) := by decide +kernel
theorem dX10_joinGroups_72 : decode cX10_joinGroups 72 = .ok (.istore 4, 2) := by decide +kernel
theorem dX10_joinGroups_74 : decode cX10_joinGroups 74 = .ok (.iload 4, 2) := by decide +kernel
theorem dX10_joinGroups_76 : decode cX10_joinGroups 76 = .ok (.iload_n 3, 1) := by decide +kernel
theorem dX10_joinGroups_77 : decode cX10_joinGroups 77 = .ok (.iadd, 1) := by decide +kernel
theorem dX10_joinGroups_78 : decode cX10_joinGroups 78 = .ok (.aload_n 0, 1) := by decide +kernel
theorem dX10_joinGroups_79 : decode cX10_joinGroups 79 = .ok (.invokevirtual 60, 3) := by decide +kernel
theorem dX10_joinGroups_82 : decode cX10_joinGroups 82 = .ok (.if_icmp .ge 57, 3) := by decide +kernel
theorem dX10_joinGroups_85 : decode cX10_joinGroups 85 = .ok (.aload_n 0, 1) := by decide +kernel
theorem dX10_joinGroups_86 : decode cX10_joinGroups 86 = .ok (.getfield 7, 3) := by decide +kernel
theorem dX10_joinGroups_89 : decode cX10_joinGroups 89 = .ok (.sipush 365, 3) := by decide +kernel
theorem dX10_joinGroups_92 : decode cX10_joinGroups 92 = .ok (.iload 4, 2) := by decide +kernel
theorem dX10_joinGroups_94 : decode cX10_joinGroups 94 = .ok (.iadd, 1) := by decide +kernel
theorem dX10_joinGroups_95 : decode cX10_joinGroups 95 = .ok (.aload_n 0, 1) := by decide +kernel
theorem dX10_joinGroups_96 : decode cX10_joinGroups 96 = .ok (.getfield 7, 3) := by decide +kernel
theorem dX10_joinGroups_99 : decode cX10_joinGroups 99 = .ok (.sipush 365, 3) := by decide +kernel
theorem dX10_joinGroups_102 : decode cX10_joinGroups 102 = .ok (.iload 4, 2) := by decide +kernel
theorem dX10_joinGroups_104 : decode cX10_joinGroups 104 = .ok (.iadd, 1) := by decide +kernel
theorem dX10_joinGroups_105 : decode cX10_joinGroups 105 = .ok (.iload_n 3, 1) := by decide +kernel
theorem dX10_joinGroups_106 : decode cX10_joinGroups 106 = .ok (.iadd, 1) := by decide +kernel
theorem dX10_joinGroups_107 : decode cX10_joinGroups 107 = .ok (.iaload, 1) := by decide +kernel
theorem dX10_joinGroups_108 : decode cX10_joinGroups 108 = .ok (.iastore, 1) := by decide +kernel
theorem dX10_joinGroups_109 : decode cX10_joinGroups 109 = .ok (.aload_n 0, 1) := by decide +kernel
theorem dX10_joinGroups_110 : decode cX10_joinGroups 110 = .ok (.getfield 7, 3) := by decide +kernel
theorem dX10_joinGroups_113 : decode cX10_joinGroups 113 = .ok (.sipush 485, 3) := by decide +kernel
theorem dX10_joinGroups_116 : decode cX10_joinGroups 116 = .ok (.iload 4, 2) := by decide +kernel
theorem dX10_joinGroups_118 : decode cX10_joinGroups 118 = .ok (.iadd, 1) := by decide +kernel
theorem dX10_joinGroups_119 : decode cX10_joinGroups 119 = .ok (.aload_n 0, 1) := by decide +kernel
theorem dX10_joinGroups_120 : decode cX10_joinGroups 120 = .ok (.getfield 7, 3) := by decide +kernel
theorem dX10_joinGroups_123 : decode cX10_joinGroups 123 = .ok (.sipush 485, 3) := by decide +kernel
theorem dX10_joinGroups_126 : decode cX10_joinGroups 126 = .ok (.iload 4, 2) := by decide +kernel
theorem dX10_joinGroups_128 : decode cX10_joinGroups 128 = .ok (.iadd, 1) := by decide +kernel
theorem dX10_joinGroups_129 : decode cX10_joinGroups 129 = .ok (.iload_n 3, 1) := by decide +kernel
theorem dX10_joinGroups_130 : decode cX10_joinGroups 130 = .ok (.iadd, 1) := by decide +kernel
theorem dX10_joinGroups_131 : decode cX10_joinGroups 131 = .ok (.iaload, 1) := by decide +kernel
theorem dX10_joinGroups_132 : decode cX10_joinGroups 132 = .ok (.iastore, 1) := by decide +kernel
theorem dX10_joinGroups_133 : decode cX10_joinGroups 133 = .ok (.iinc 4 1, 3) := by decide +kernel
theorem dX10_joinGroups_136 : decode cX10_joinGroups 136 = .ok (.goto (-62), 3) := by decide +kernel
theorem dX10_joinGroups_139 : decode cX10_joinGroups 139 = .ok (.aload_n 0, 1) := by decide +kernel
theorem dX10_joinGroups_140 : decode cX10_joinGroups 140 = .ok (.getfield 7, 3) := by decide +kernel
theorem dX10_joinGroups_143 : decode cX10_joinGroups 143 = .ok (.sipush 364, 3) := by decide +kernel
theorem dX10_joinGroups_146 : decode cX10_joinGroups 146 = .ok (.dup2, 1) := by decide +kernel
theorem dX10_joinGroups_147 : decode cX10_joinGroups 147 = .ok (.iaload, 1) := by decide +kernel
theorem dX10_joinGroups_148 : decode cX10_joinGroups 148 = .ok (.iload_n 3, 1) := by decide +kernel
theorem dX10_joinGroups_149 : decode cX10_joinGroups 149 = .ok (.isub, 1) := by decide +kernel
theorem dX10_joinGroups_150 : decode cX10_joinGroups 150 = .ok (.iastore, 1) := by decide +kernel
theorem dX10_joinGroups_151 : decode cX10_joinGroups 151 = .ok (.return_, 1) := by decide +kernel
theorem dX10_chapterOf_0 : decode cX10_chapterOf 0 = .ok (.aload_n 0, 1) := by decide +kernel
theorem dX10_chapterOf_1 : decode cX10_chapterOf 1 = .ok (.getfield 7, 3) := by decide +kernel
theorem dX10_chapterOf_4 : decode cX10_chapterOf 4 = .ok (.sipush 240, 3) := by decide +kernel
theorem dX10_chapterOf_7 : decode cX10_chapterOf 7 = .ok (.bipush 60, 2) := by decide +kernel
theorem dX10_chapterOf_9 : decode cX10_chapterOf 9 = .ok (.iload_n 1, 1) := by decide +kernel
theorem dX10_chapterOf_10 : decode cX10_chapterOf 10 = .ok (.imul, 1) := by decide +kernel
theorem dX10_chapterOf_11 : decode cX10_chapterOf 11 = .ok (.iadd, 1) := by decide +kernel
theorem dX10_chapterOf_12 : decode cX10_chapterOf 12 = .ok (.iload_n 2, 1) := by decide +kernel
theorem dX10_chapterOf_13 : decode cX10_chapterOf 13 = .ok (.iadd, 1) := by decide +kernel
theorem dX10_chapterOf_14 : decode cX10_chapterOf 14 = .ok (.iaload, 1) := by decide +kernel
theorem dX10_chapterOf_15 : decode cX10_chapterOf 15 = .ok (.ireturn, 1) := by decide +kernel
set_option maxRecDepth 20000 in
theorem ggX10_joinVerses_X10_noVerse : GoodIn wsX10_joinVerses wsX10_noVerse := goodIn_r _ [6, 7, 8, 5, 9, 10, 11, 12, 13, 14, 15, 16, 1, 47, 48, 49, 50, 51, 52, 53, 54, 55, 56, 57, 58, 59, 60, 61, 62, 63, 64, 65, 66, 67, 68, 69] (by decide +kernel) (by decide +kernel)
set_option maxRecDepth 20000 in
theorem gX10_joinVerses_X10_noVerse : GoodIn wsX10_joinVerses (wsV RX10 74 RX10 yX10_noVerse wsX10_noVerse) := goodIn_app (goodIn_of _ (by decide +kernel)) ggX10_joinVerses_X10_noVerse
set_option maxRecDepth 20000 in
theorem ggX10_joinVerses_X10_size : GoodIn wsX10_joinVerses wsX10_size := goodIn_r _ [16, 1, 47, 48, 49, 50, 51, 52, 53, 54, 55, 56, 57, 58, 59, 60, 61, 62, 63, 64, 65, 66, 67, 68, 69] (by decide +kernel) (by decide +kernel)
set_option maxRecDepth 20000 in
theorem gX10_joinVerses_X10_size : GoodIn wsX10_joinVerses (wsV RX10 56 RX10 yX10_size wsX10_size) := goodIn_app (goodIn_of _ (by decide +kernel)) ggX10_joinVerses_X10_size
set_option maxRecDepth 20000 in
theorem ggX10_joinVerses_X10_chapterOf : GoodIn wsX10_joinVerses wsX10_chapterOf := goodIn_r _ [20, 1, 47, 48, 49, 50, 51, 52, 53, 54, 55, 56, 57, 58, 59, 60, 61, 62, 63, 64, 65, 66, 67, 68, 69] (by decide +kernel) (by decide +kernel)
set_option maxRecDepth 20000 in
theorem gX10_joinVerses_X10_chapterOf : GoodIn wsX10_joinVerses (wsV RX10 82 RX10 yX10_chapterOf wsX10_chapterOf) := goodIn_app (goodIn_of _ (by decide +kernel)) ggX10_joinVerses_X10_chapterOf
set_option maxRecDepth 20000 in
theorem ggX10_joinVerses_X10_record : GoodIn wsX10_joinVerses wsX10_record := goodIn_r _ [24, 25, 26, 1, 47, 48, 49, 50, 51, 52, 53, 54, 55, 56, 57, 58, 59, 60, 61, 62, 63, 64, 65, 66, 67, 68, 69] (by decide +kernel) (by decide +kernel)
set_option maxRecDepth 20000 in
theorem gX10_joinVerses_X10_record : GoodIn wsX10_joinVerses (wsV RX10 67 RX10 yX10_record wsX10_record) := goodIn_app (goodIn_of _ (by decide +kernel)) ggX10_joinVerses_X10_record
set_option maxRecDepth 20000 in
theorem ggX10_joinVerses_X10_groupOf : GoodIn wsX10_joinVerses wsX10_groupOf := goodIn_r _ [30, 31, 32, 33, 5, 34, 1, 47, 48, 49, 50, 51, 52, 53, 54, 55, 56, 57, 58, 59, 60, 61, 62, 63, 64, 65, 66, 67, 68, 69] (by decide +kernel) (by decide +kernel)
set_option maxRecDepth 20000 in
theorem gX10_joinVerses_X10_groupOf : GoodIn wsX10_joinVerses (wsV RX10 85 RX10 yX10_groupOf wsX10_groupOf) := goodIn_app (goodIn_of _ (by decide +kernel)) ggX10_joinVerses_X10_groupOf
set_option maxRecDepth 20000 in
theorem ggX10_joinVerses_X10_joinGroups : GoodIn wsX10_joinVerses wsX10_joinGroups := goodIn_r _ [38, 1, 39, 40, 41, 5, 42, 47, 48, 49, 50, 51, 52, 53, 54, 55, 56, 57, 58, 59, 60, 61, 62, 63, 64, 65, 66, 67, 68, 69] (by decide +kernel) (by decide +kernel)
set_option maxRecDepth 20000 in
theorem gX10_joinVerses_X10_joinGroups : GoodIn wsX10_joinVerses (wsV RX10 88 RX10 yX10_joinGroups wsX10_joinGroups) := goodIn_app (goodIn_of _ (by decide +kernel)) ggX10_joinVerses_X10_joinGroups
set_option maxRecDepth 20000 in
theorem ggX10_joinVerses_X10_copyVerse : GoodIn wsX10_joinVerses wsX10_copyVerse := goodIn_r _ [46, 1, 47, 48, 49, 50, 51, 52, 53, 54, 55, 56, 57, 58, 59, 60, 61, 62, 63, 64, 65, 66, 67, 68, 69] (by decide +kernel) (by decide +kernel)
set_option maxRecDepth 20000 in
theorem gX10_joinVerses_X10_copyVerse : GoodIn wsX10_joinVerses (wsV RX10 91 RX10 yX10_copyVerse wsX10_copyVerse) := goodIn_app (goodIn_of _ (by decide +kernel)) ggX10_joinVerses_X10_copyVerse
theorem dX10_joinVerses_0 : decode cX10_joinVerses 0 = .ok (.aload_n 0, 1) := by decide +kernel
theorem dX10_joinVerses_1 : decode cX10_joinVerses 1 = .ok (.iload_n 1, 1) := by decide +kernel
theorem dX10_joinVerses_2 : decode cX10_joinVerses 2 = .ok (.iload_n 2, 1) := by decide +kernel
theorem dX10_joinVerses_3 : decode cX10_joinVerses 3 = .ok (.invokevirtual 74, 3) := by decide +kernel
theorem dX10_joinVerses_6 : decode cX10_joinVerses 6 = .ok (.ifCond .eq 5, 3) := by decide +kernel
theorem dX10_joinVerses_9 : decode cX10_joinVerses 9 = .ok (.iconst (-1), 1) := by decide +kernel
theorem dX10_joinVerses_10 : decode cX10_joinVerses 10 = .ok (.ireturn, 1) := by decide +kernel
theorem dX10_joinVerses_11 : decode cX10_joinVerses 11 = .ok (.iload_n 2, 1) := by decide +kernel
theorem dX10_joinVerses_12 : decode cX10_joinVerses 12 = .ok (.iconst 1, 1) := by decide +kernel
theorem dX10_joinVerses_13 : decode cX10_joinVerses 13 = .ok (.iadd, 1) := by decide +kernel
theorem dX10_joinVerses_14 : decode cX10_joinVerses 14 = .ok (.aload_n 0, 1) := by decide +kernel
theorem dX10_joinVerses_15 : decode cX10_joinVerses 15 = .ok (.iload_n 1, 1) := by decide +kernel
theorem dX10_joinVerses_16 : decode cX10_joinVerses 16 = .ok (.invokevirtual 56, 3) := by decide +kernel
theorem dX10_joinVerses_19 : decode cX10_joinVerses 19 = .ok (.if_icmp .eq 20, 3) := by decide +kernel
theorem dX10_joinVerses_22 : decode cX10_joinVerses 22 = .ok (.aload_n 0, 1) := by decide +kernel
theorem dX10_joinVerses_23 : decode cX10_joinVerses 23 = .ok (.iload_n 1, 1) := by decide +kernel
theorem dX10_joinVerses_24 : decode cX10_joinVerses 24 = .ok (.iload_n 2, 1) := by decide +kernel
theorem dX10_joinVerses_25 : decode cX10_joinVerses 25 = .ok (.invokevirtual 82, 3) := by decide +kernel
theorem dX10_joinVerses_28 : decode cX10_joinVerses 28 = .ok (.aload_n 0, 1) := by decide +kernel
theorem dX10_joinVerses_29 : decode cX10_joinVerses 29 = .ok (.iload_n 1, 1) := by decide +kernel
theorem dX10_joinVerses_30 : decode cX10_joinVerses 30 = .ok (.iload_n 2, 1) := by decide +kernel
theorem dX10_joinVerses_31 : decode cX10_joinVerses 31 = .ok (.iconst 1, 1) := by decide +kernel
theorem dX10_joinVerses_32 : decode cX10_joinVerses 32 = .ok (.iadd, 1) := by decide +kernel
theorem dX10_joinVerses_33 : decode cX10_joinVerses 33 = .ok (.invokevirtual 82, 3) := by decide +kernel
theorem dX10_joinVerses_36 : decode cX10_joinVerses 36 = .ok (.if_icmp .eq 6, 3) := by decide +kernel
theorem dX10_joinVerses_39 : decode cX10_joinVerses 39 = .ok (.bipush (-4), 2) := by decide +kernel
theorem dX10_joinVerses_41 : decode cX10_joinVerses 41 = .ok (.ireturn, 1) := by decide +kernel
theorem dX10_joinVerses_42 : decode cX10_joinVerses 42 = .ok (.aload_n 0, 1) := by decide +kernel
theorem dX10_joinVerses_43 : decode cX10_joinVerses 43 = .ok (.invokevirtual 67, 3) := by decide +kernel
theorem dX10_joinVerses_46 : decode cX10_joinVerses 46 = .ok (.aload_n 0, 1) := by decide +kernel
theorem dX10_joinVerses_47 : decode cX10_joinVerses 47 = .ok (.iload_n 1, 1) := by decide +kernel
theorem dX10_joinVerses_48 : decode cX10_joinVerses 48 = .ok (.iload_n 2, 1) := by decide +kernel
theorem dX10_joinVerses_49 : decode cX10_joinVerses 49 = .ok (.invokevirtual 85, 3) := by decide +kernel
theorem dX10_joinVerses_52 : decode cX10_joinVerses 52 = .ok (.istore_n 3, 1) := by decide +kernel
theorem dX10_joinVerses_53 : decode cX10_joinVerses 53 = .ok (.aload_n 0, 1) := by decide +kernel
theorem dX10_joinVerses_54 : decode cX10_joinVerses 54 = .ok (.iload_n 3, 1) := by decide +kernel
theorem dX10_joinVerses_55 : decode cX10_joinVerses 55 = .ok (.aload_n 0, 1) := by decide +kernel
theorem dX10_joinVerses_56 : decode cX10_joinVerses 56 = .ok (.iload_n 1, 1) := by decide +kernel
theorem dX10_joinVerses_57 : decode cX10_joinVerses 57 = .ok (.iload_n 2, 1) := by decide +kernel
theorem dX10_joinVerses_58 : decode cX10_joinVerses 58 = .ok (.iconst 1, 1) := by decide +kernel
theorem dX10_joinVerses_59 : decode cX10_joinVerses 59 = .ok (.iadd, 1) := by decide +kernel
theorem dX10_joinVerses_60 : decode cX10_joinVerses 60 = .ok (.invokevirtual 85, 3) := by decide +kernel
theorem dX10_joinVerses_63 : decode cX10_joinVerses 63 = .ok (.invokevirtual 88, 3) := by decide +kernel
theorem dX10_joinVerses_66 : decode cX10_joinVerses 66 = .ok (.bipush 60, 2) := by decide +kernel
theorem dX10_joinVerses_68 : decode cX10_joinVerses 68 = .ok (.iload_n 1, 1) := by decide +kernel
theorem dX10_joinVerses_69 : decode cX10_joinVerses 69 = .ok (.imul, 1) := by decide +kernel
theorem dX10_joinVerses_70 : decode cX10_joinVerses 70 = .ok (.iload_n 2, 1) := by decide +kernel
theorem dX10_joinVerses_71 : decode cX10_joinVerses 71 = .ok (.iadd, 1) := by decide +kernel
theorem dX10_joinVerses_72 : decode cX10_joinVerses 72 = .ok (.istore 4, 2) := by decide +kernel
theorem dX10_joinVerses_74 : decode cX10_joinVerses 74 = .ok (.aload_n 0, 1) := by decide +kernel
theorem dX10_joinVerses_75 : decode cX10_joinVerses 75 = .ok (.getfield 7, 3) := by decide +kernel
theorem dX10_joinVerses_78 : decode cX10_joinVerses 78 = .ok (.iload 4, 2) := by decide +kernel
theorem dX10_joinVerses_80 : decode cX10_joinVerses 80 = .ok (.iaload, 1) := by decide +kernel
theorem dX10_joinVerses_81 : decode cX10_joinVerses 81 = .ok (.aload_n 0, 1) := by decide +kernel
theorem dX10_joinVerses_82 : decode cX10_joinVerses 82 = .ok (.getfield 7, 3) := by decide +kernel
theorem dX10_joinVerses_85 : decode cX10_joinVerses 85 = .ok (.iload 4, 2) := by decide +kernel
theorem dX10_joinVerses_87 : decode cX10_joinVerses 87 = .ok (.iconst 1, 1) := by decide +kernel
theorem dX10_joinVerses_88 : decode cX10_joinVerses 88 = .ok (.iadd, 1) := by decide +kernel
theorem dX10_joinVerses_89 : decode cX10_joinVerses 89 = .ok (.iaload, 1) := by decide +kernel
theorem dX10_joinVerses_90 : decode cX10_joinVerses 90 = .ok (.iadd, 1) := by decide +kernel
theorem dX10_joinVerses_91 : decode cX10_joinVerses 91 = .ok (.istore 5, 2) := by decide +kernel
theorem dX10_joinVerses_93 : decode cX10_joinVerses 93 = .ok (.aload_n 0, 1) := by decide +kernel
theorem dX10_joinVerses_94 : decode cX10_joinVerses 94 = .ok (.getfield 7, 3) := by decide +kernel
theorem dX10_joinVerses_97 : decode cX10_joinVerses 97 = .ok (.bipush 120, 2) := by decide +kernel
theorem dX10_joinVerses_99 : decode cX10_joinVerses 99 = .ok (.iload 4, 2) := by decide +kernel
theorem dX10_joinVerses_101 : decode cX10_joinVerses 101 = .ok (.iadd, 1) := by decide +kernel
theorem dX10_joinVerses_102 : decode cX10_joinVerses 102 = .ok (.iaload, 1) := by decide +kernel
theorem dX10_joinVerses_103 : decode cX10_joinVerses 103 = .ok (.aload_n 0, 1) := by decide +kernel
theorem dX10_joinVerses_104 : decode cX10_joinVerses 104 = .ok (.getfield 7, 3) := by decide +kernel
theorem dX10_joinVerses_107 : decode cX10_joinVerses 107 = .ok (.bipush 120, 2) := by decide +kernel
theorem dX10_joinVerses_109 : decode cX10_joinVerses 109 = .ok (.iload 4, 2) := by decide +kernel
theorem dX10_joinVerses_111 : decode cX10_joinVerses 111 = .ok (.iadd, 1) := by decide +kernel
theorem dX10_joinVerses_112 : decode cX10_joinVerses 112 = .ok (.iconst 1, 1) := by decide +kernel
theorem dX10_joinVerses_113 : decode cX10_joinVerses 113 = .ok (.iadd, 1) := by decide +kernel
theorem dX10_joinVerses_114 : decode cX10_joinVerses 114 = .ok (.iaload, 1) := by decide +kernel
theorem dX10_joinVerses_115 : decode cX10_joinVerses 115 = .ok (.iadd, 1) := by decide +kernel
theorem dX10_joinVerses_116 : decode cX10_joinVerses 116 = .ok (.istore 6, 2) := by decide +kernel
theorem dX10_joinVerses_118 : decode cX10_joinVerses 118 = .ok (.aload_n 0, 1) := by decide +kernel
theorem dX10_joinVerses_119 : decode cX10_joinVerses 119 = .ok (.getfield 7, 3) := by decide +kernel
theorem dX10_joinVerses_122 : decode cX10_joinVerses 122 = .ok (.iload 4, 2) := by decide +kernel
theorem dX10_joinVerses_124 : decode cX10_joinVerses 124 = .ok (.iload 5, 2) := by decide +kernel
theorem dX10_joinVerses_126 : decode cX10_joinVerses 126 = .ok (.sipush 2000, 3) := by decide +kernel
theorem dX10_joinVerses_129 : decode cX10_joinVerses 129 = .ok (.if_icmp .le 9, 3) := by decide +kernel
theorem dX10_joinVerses_132 : decode cX10_joinVerses 132 = .ok (.sipush 2000, 3) := by decide +kernel
theorem dX10_joinVerses_135 : decode cX10_joinVerses 135 = .ok (.goto 5, 3) := by decide +kernel
theorem dX10_joinVerses_138 : decode cX10_joinVerses 138 = .ok (.iload 5, 2) := by decide +kernel
theorem dX10_joinVerses_140 : decode cX10_joinVerses 140 = .ok (.iastore, 1) := by decide +kernel
theorem dX10_joinVerses_141 : decode cX10_joinVerses 141 = .ok (.aload_n 0, 1) := by decide +kernel
theorem dX10_joinVerses_142 : decode cX10_joinVerses 142 = .ok (.getfield 7, 3) := by decide +kernel
theorem dX10_joinVerses_145 : decode cX10_joinVerses 145 = .ok (.bipush 120, 2) := by decide +kernel
theorem dX10_joinVerses_147 : decode cX10_joinVerses 147 = .ok (.iload 4, 2) := by decide +kernel
theorem dX10_joinVerses_149 : decode cX10_joinVerses 149 = .ok (.iadd, 1) := by decide +kernel
theorem dX10_joinVerses_150 : decode cX10_joinVerses 150 = .ok (.iload 6, 2) := by decide +kernel
theorem dX10_joinVerses_152 : decode cX10_joinVerses 152 = .ok (.bipush 10, 2) := by decide +kernel
theorem dX10_joinVerses_154 : decode cX10_joinVerses 154 = .ok (.if_icmp .le 8, 3) := by decide +kernel
theorem dX10_joinVerses_157 : decode cX10_joinVerses 157 = .ok (.bipush 10, 2) := by decide +kernel
theorem dX10_joinVerses_159 : decode cX10_joinVerses 159 = .ok (.goto 5, 3) := by decide +kernel
theorem dX10_joinVerses_162 : decode cX10_joinVerses 162 = .ok (.iload 6, 2) := by decide +kernel
theorem dX10_joinVerses_164 : decode cX10_joinVerses 164 = .ok (.iastore, 1) := by decide +kernel
theorem dX10_joinVerses_165 : decode cX10_joinVerses 165 = .ok (.aload_n 0, 1) := by decide +kernel
theorem dX10_joinVerses_166 : decode cX10_joinVerses 166 = .ok (.getfield 7, 3) := by decide +kernel
theorem dX10_joinVerses_169 : decode cX10_joinVerses 169 = .ok (.iload_n 1, 1) := by decide +kernel
theorem dX10_joinVerses_170 : decode cX10_joinVerses 170 = .ok (.ifCond .ne 9, 3) := by decide +kernel
theorem dX10_joinVerses_173 : decode cX10_joinVerses 173 = .ok (.sipush 365, 3) := by decide +kernel
theorem dX10_joinVerses_176 : decode cX10_joinVerses 176 = .ok (.goto 6, 3) := by decide +kernel
theorem dX10_joinVerses_179 : decode cX10_joinVerses 179 = .ok (.sipush 485, 3) := by decide +kernel
theorem dX10_joinVerses_182 : decode cX10_joinVerses 182 = .ok (.iload_n 3, 1) := by decide +kernel
theorem dX10_joinVerses_183 : decode cX10_joinVerses 183 = .ok (.iadd, 1) := by decide +kernel
theorem dX10_joinVerses_184 : decode cX10_joinVerses 184 = .ok (.dup2, 1) := by decide +kernel
theorem dX10_joinVerses_185 : decode cX10_joinVerses 185 = .ok (.iaload, 1) := by decide +kernel
theorem dX10_joinVerses_186 : decode cX10_joinVerses 186 = .ok (.iconst 1, 1) := by decide +kernel
theorem dX10_joinVerses_187 : decode cX10_joinVerses 187 = .ok (.isub, 1) := by decide +kernel
theorem dX10_joinVerses_188 : decode cX10_joinVerses 188 = .ok (.iastore, 1) := by decide +kernel
theorem dX10_joinVerses_189 : decode cX10_joinVerses 189 = .ok (.aload_n 0, 1) := by decide +kernel
theorem dX10_joinVerses_190 : decode cX10_joinVerses 190 = .ok (.getfield 7, 3) := by decide +kernel
theorem dX10_joinVerses_193 : decode cX10_joinVerses 193 = .ok (.sipush 360, 3) := by decide +kernel
theorem dX10_joinVerses_196 : decode cX10_joinVerses 196 = .ok (.iload_n 1, 1) := by decide +kernel
theorem dX10_joinVerses_197 : decode cX10_joinVerses 197 = .ok (.iadd, 1) := by decide +kernel
theorem dX10_joinVerses_198 : decode cX10_joinVerses 198 = .ok (.dup2, 1) := by decide +kernel
theorem dX10_joinVerses_199 : decode cX10_joinVerses 199 = .ok (.iaload, 1) := by decide +kernel
theorem dX10_joinVerses_200 : decode cX10_joinVerses 200 = .ok (.iconst 1, 1) := by decide +kernel
theorem dX10_joinVerses_201 : decode cX10_joinVerses 201 = .ok (.isub, 1) := by decide +kernel
theorem dX10_joinVerses_202 : decode cX10_joinVerses 202 = .ok (.iastore, 1) := by decide +kernel
theorem dX10_joinVerses_203 : decode cX10_joinVerses 203 = .ok (.iload_n 2, 1) := by decide +kernel
theorem dX10_joinVerses_204 : decode cX10_joinVerses 204 = .ok (.iconst 1, 1) := by decide +kernel
theorem dX10_joinVerses_205 : decode cX10_joinVerses 205 = .ok (.iadd, 1) := by decide +kernel
theorem dX10_joinVerses_206 : decode cX10_joinVerses 206 = .ok (.istore 7, 2) := by decide +kernel
theorem dX10_joinVerses_208 : decode cX10_joinVerses 208 = .ok (.iload 7, 2) := by decide +kernel
theorem dX10_joinVerses_210 : decode cX10_joinVerses 210 = .ok (.aload_n 0, 1) := by decide +kernel
theorem dX10_joinVerses_211 : decode cX10_joinVerses 211 = .ok (.iload_n 1, 1) := by decide +kernel
theorem dX10_joinVerses_212 : decode cX10_joinVerses 212 = .ok (.invokevirtual 56, 3) := by decide +kernel
theorem dX10_joinVerses_215 : decode cX10_joinVerses 215 = .ok (.if_icmp .ge 29, 3) := by decide +kernel
theorem dX10_joinVerses_218 : decode cX10_joinVerses 218 = .ok (.aload_n 0, 1) := by decide +kernel
theorem dX10_joinVerses_219 : decode cX10_joinVerses 219 = .ok (.bipush 60, 2) := by decide +kernel
theorem dX10_joinVerses_221 : decode cX10_joinVerses 221 = .ok (.iload_n 1, 1) := by decide +kernel
theorem dX10_joinVerses_222 : decode cX10_joinVerses 222 = .ok (.imul, 1) := by decide +kernel
theorem dX10_joinVerses_223 : decode cX10_joinVerses 223 = .ok (.iload 7, 2) := by decide +kernel
theorem dX10_joinVerses_225 : decode cX10_joinVerses 225 = .ok (.iadd, 1) := by decide +kernel
theorem dX10_joinVerses_226 : decode cX10_joinVerses 226 = .ok (.iconst 1, 1) := by decide +kernel
theorem dX10_joinVerses_227 : decode cX10_joinVerses 227 = .ok (.iadd, 1) := by decide +kernel
theorem dX10_joinVerses_228 : decode cX10_joinVerses 228 = .ok (.bipush 60, 2) := by decide +kernel
theorem dX10_joinVerses_230 : decode cX10_joinVerses 230 = .ok (.iload_n 1, 1) := by decide +kernel
theorem dX10_joinVerses_231 : decode cX10_joinVerses 231 = .ok (.imul, 1) := by decide +kernel
theorem dX10_joinVerses_232 : decode cX10_joinVerses 232 = .ok (.iload 7, 2) := by decide +kernel
theorem dX10_joinVerses_234 : decode cX10_joinVerses 234 = .ok (.iadd, 1) := by decide +kernel
theorem dX10_joinVerses_235 : decode cX10_joinVerses 235 = .ok (.invokevirtual 91, 3) := by decide +kernel
theorem dX10_joinVerses_238 : decode cX10_joinVerses 238 = .ok (.iinc 7 1, 3) := by decide +kernel
theorem dX10_joinVerses_241 : decode cX10_joinVerses 241 = .ok (.goto (-33), 3) := by decide +kernel
theorem dX10_joinVerses_244 : decode cX10_joinVerses 244 = .ok (.aload_n 0, 1) := by decide +kernel
theorem dX10_joinVerses_245 : decode cX10_joinVerses 245 = .ok (.iload_n 1, 1) := by decide +kernel
theorem dX10_joinVerses_246 : decode cX10_joinVerses 246 = .ok (.invokevirtual 56, 3) := by decide +kernel
theorem dX10_joinVerses_249 : decode cX10_joinVerses 249 = .ok (.ireturn, 1) := by decide +kernel
theorem dX10_copyVerse_0 : decode cX10_copyVerse 0 = .ok (.aload_n 0, 1) := by decide +kernel
theorem dX10_copyVerse_1 : decode cX10_copyVerse 1 = .ok (.getfield 7, 3) := by decide +kernel
theorem dX10_copyVerse_4 : decode cX10_copyVerse 4 = .ok (.iload_n 2, 1) := by decide +kernel
theorem dX10_copyVerse_5 : decode cX10_copyVerse 5 = .ok (.aload_n 0, 1) := by decide +kernel
theorem dX10_copyVerse_6 : decode cX10_copyVerse 6 = .ok (.getfield 7, 3) := by decide +kernel
theorem dX10_copyVerse_9 : decode cX10_copyVerse 9 = .ok (.iload_n 1, 1) := by decide +kernel
theorem dX10_copyVerse_10 : decode cX10_copyVerse 10 = .ok (.iaload, 1) := by decide +kernel
theorem dX10_copyVerse_11 : decode cX10_copyVerse 11 = .ok (.iastore, 1) := by decide +kernel
theorem dX10_copyVerse_12 : decode cX10_copyVerse 12 = .ok (.aload_n 0, 1) := by decide +kernel
theorem dX10_copyVerse_13 : decode cX10_copyVerse 13 = .ok (.getfield 7, 3) := by decide +kernel
theorem dX10_copyVerse_16 : decode cX10_copyVerse 16 = .ok (.bipush 120, 2) := by decide +kernel
theorem dX10_copyVerse_18 : decode cX10_copyVerse 18 = .ok (.iload_n 2, 1) := by decide +kernel
theorem dX10_copyVerse_19 : decode cX10_copyVerse 19 = .ok (.iadd, 1) := by decide +kernel
theorem dX10_copyVerse_20 : decode cX10_copyVerse 20 = .ok (.aload_n 0, 1) := by decide +kernel
theorem dX10_copyVerse_21 : decode cX10_copyVerse 21 = .ok (.getfield 7, 3) := by decide +kernel
theorem dX10_copyVerse_24 : decode cX10_copyVerse 24 = .ok (.bipush 120, 2) := by decide +kernel
theorem dX10_copyVerse_26 : decode cX10_copyVerse 26 = .ok (.iload_n 1, 1) := by decide +kernel
theorem dX10_copyVerse_27 : decode cX10_copyVerse 27 = .ok (.iadd, 1) := by decide +kernel
theorem dX10_copyVerse_28 : decode cX10_copyVerse 28 = .ok (.iaload, 1) := by decide +kernel
theorem dX10_copyVerse_29 : decode cX10_copyVerse 29 = .ok (.iastore, 1) := by decide +kernel
theorem dX10_copyVerse_30 : decode cX10_copyVerse 30 = .ok (.aload_n 0, 1) := by decide +kernel
theorem dX10_copyVerse_31 : decode cX10_copyVerse 31 = .ok (.getfield 7, 3) := by decide +kernel
theorem dX10_copyVerse_34 : decode cX10_copyVerse 34 = .ok (.sipush 240, 3) := by decide +kernel
theorem dX10_copyVerse_37 : decode cX10_copyVerse 37 = .ok (.iload_n 2, 1) := by decide +kernel
theorem dX10_copyVerse_38 : decode cX10_copyVerse 38 = .ok (.iadd, 1) := by decide +kernel
theorem dX10_copyVerse_39 : decode cX10_copyVerse 39 = .ok (.aload_n 0, 1) := by decide +kernel
theorem dX10_copyVerse_40 : decode cX10_copyVerse 40 = .ok (.getfield 7, 3) := by decide +kernel
theorem dX10_copyVerse_43 : decode cX10_copyVerse 43 = .ok (.sipush 240, 3) := by decide +kernel
theorem dX10_copyVerse_46 : decode cX10_copyVerse 46 = .ok (.iload_n 1, 1) := by decide +kernel
theorem dX10_copyVerse_47 : decode cX10_copyVerse 47 = .ok (.iadd, 1) := by decide +kernel
theorem dX10_copyVerse_48 : decode cX10_copyVerse 48 = .ok (.iaload, 1) := by decide +kernel
theorem dX10_copyVerse_49 : decode cX10_copyVerse 49 = .ok (.iastore, 1) := by decide +kernel
theorem dX10_copyVerse_50 : decode cX10_copyVerse 50 = .ok (.return_, 1) := by decide +kernel
set_option maxRecDepth 20000 in
theorem ggX10_splitVerse_X10_noVerse : GoodIn wsX10_splitVerse wsX10_noVerse := goodIn_r _ [6, 7, 8, 5, 9, 10, 11, 12, 13, 14, 15, 16, 1, 35, 36, 37, 38, 39, 40, 41, 42, 43, 44, 45, 46, 47, 48, 49, 50, 51, 52, 53, 54, 55, 56, 57] (by decide +kernel) (by decide +kernel)
set_option maxRecDepth 20000 in
theorem gX10_splitVerse_X10_noVerse : GoodIn wsX10_splitVerse (wsV RX10 74 RX10 yX10_noVerse wsX10_noVerse) := goodIn_app (goodIn_of _ (by decide +kernel)) ggX10_splitVerse_X10_noVerse
set_option maxRecDepth 20000 in
theorem ggX10_splitVerse_X10_in : GoodIn wsX10_splitVerse wsX10_in := goodIn_r _ [12] (by decide +kernel) (by decide +kernel)
set_option maxRecDepth 20000 in
theorem gX10_splitVerse_X10_in : GoodIn wsX10_splitVerse (va_wsS RX10 48 yX10_in wsX10_in) := goodIn_app (goodIn_of _ (by decide +kernel)) ggX10_splitVerse_X10_in
set_option maxRecDepth 20000 in
theorem ggX10_splitVerse_X10_size : GoodIn wsX10_splitVerse wsX10_size := goodIn_r _ [16, 1, 35, 36, 37, 38, 39, 40, 41, 42, 43, 44, 45, 46, 47, 48, 49, 50, 51, 52, 53, 54, 55, 56, 57] (by decide +kernel) (by decide +kernel)
set_option maxRecDepth 20000 in
theorem gX10_splitVerse_X10_size : GoodIn wsX10_splitVerse (wsV RX10 56 RX10 yX10_size wsX10_size) := goodIn_app (goodIn_of _ (by decide +kernel)) ggX10_splitVerse_X10_size
set_option maxRecDepth 20000 in
theorem ggX10_splitVerse_X10_record : GoodIn wsX10_splitVerse wsX10_record := goodIn_r _ [20, 21, 22, 1, 35, 36, 37, 38, 39, 40, 41, 42, 43, 44, 45, 46, 47, 48, 49, 50, 51, 52, 53, 54, 55, 56, 57] (by decide +kernel) (by decide +kernel)
set_option maxRecDepth 20000 in
theorem gX10_splitVerse_X10_record : GoodIn wsX10_splitVerse (wsV RX10 67 RX10 yX10_record wsX10_record) := goodIn_app (goodIn_of _ (by decide +kernel)) ggX10_splitVerse_X10_record
set_option maxRecDepth 20000 in
theorem ggX10_splitVerse_X10_groupOf : GoodIn wsX10_splitVerse wsX10_groupOf := goodIn_r _ [26, 27, 28, 29, 5, 30, 1, 35, 36, 37, 38, 39, 40, 41, 42, 43, 44, 45, 46, 47, 48, 49, 50, 51, 52, 53, 54, 55, 56, 57] (by decide +kernel) (by decide +kernel)
set_option maxRecDepth 20000 in
theorem gX10_splitVerse_X10_groupOf : GoodIn wsX10_splitVerse (wsV RX10 85 RX10 yX10_groupOf wsX10_groupOf) := goodIn_app (goodIn_of _ (by decide +kernel)) ggX10_splitVerse_X10_groupOf
set_option maxRecDepth 20000 in
theorem ggX10_splitVerse_X10_copyVerse : GoodIn wsX10_splitVerse wsX10_copyVerse := goodIn_r _ [34, 1, 35, 36, 37, 38, 39, 40, 41, 42, 43, 44, 45, 46, 47, 48, 49, 50, 51, 52, 53, 54, 55, 56, 57] (by decide +kernel) (by decide +kernel)
set_option maxRecDepth 20000 in
theorem gX10_splitVerse_X10_copyVerse : GoodIn wsX10_splitVerse (wsV RX10 91 RX10 yX10_copyVerse wsX10_copyVerse) := goodIn_app (goodIn_of _ (by decide +kernel)) ggX10_splitVerse_X10_copyVerse
theorem dX10_splitVerse_0 : decode cX10_splitVerse 0 = .ok (.aload_n 0, 1) := by decide +kernel
theorem dX10_splitVerse_1 : decode cX10_splitVerse 1 = .ok (.iload_n 1, 1) := by decide +kernel
theorem dX10_splitVerse_2 : decode cX10_splitVerse 2 = .ok (.iload_n 2, 1) := by decide +kernel
theorem dX10_splitVerse_3 : decode cX10_splitVerse 3 = .ok (.invokevirtual 74, 3) := by decide +kernel
theorem dX10_splitVerse_6 : decode cX10_splitVerse 6 = .ok (.ifCond .eq 5, 3) := by decide +kernel
theorem dX10_splitVerse_9 : decode cX10_splitVerse 9 = .ok (.iconst (-1), 1) := by decide +kernel
theorem dX10_splitVerse_10 : decode cX10_splitVerse 10 = .ok (.ireturn, 1) := by decide +kernel
theorem dX10_splitVerse_11 : decode cX10_splitVerse 11 = .ok (.iload_n 3, 1) := by decide +kernel
theorem dX10_splitVerse_12 : decode cX10_splitVerse 12 = .ok (.iconst 1, 1) := by decide +kernel
theorem dX10_splitVerse_13 : decode cX10_splitVerse 13 = .ok (.sipush 1999, 3) := by decide +kernel
theorem dX10_splitVerse_16 : decode cX10_splitVerse 16 = .ok (.invokestatic 48, 3) := by decide +kernel
theorem dX10_splitVerse_19 : decode cX10_splitVerse 19 = .ok (.ifCond .ne 6, 3) := by decide +kernel
theorem dX10_splitVerse_22 : decode cX10_splitVerse 22 = .ok (.bipush (-2), 2) := by decide +kernel
theorem dX10_splitVerse_24 : decode cX10_splitVerse 24 = .ok (.ireturn, 1) := by decide +kernel
theorem dX10_splitVerse_25 : decode cX10_splitVerse 25 = .ok (.bipush 60, 2) := by decide +kernel
theorem dX10_splitVerse_27 : decode cX10_splitVerse 27 = .ok (.iload_n 1, 1) := by decide +kernel
theorem dX10_splitVerse_28 : decode cX10_splitVerse 28 = .ok (.imul, 1) := by decide +kernel
theorem dX10_splitVerse_29 : decode cX10_splitVerse 29 = .ok (.iload_n 2, 1) := by decide +kernel
theorem dX10_splitVerse_30 : decode cX10_splitVerse 30 = .ok (.iadd, 1) := by decide +kernel
theorem dX10_splitVerse_31 : decode cX10_splitVerse 31 = .ok (.istore 4, 2) := by decide +kernel
theorem dX10_splitVerse_33 : decode cX10_splitVerse 33 = .ok (.iload_n 3, 1) := by decide +kernel
theorem dX10_splitVerse_34 : decode cX10_splitVerse 34 = .ok (.aload_n 0, 1) := by decide +kernel
theorem dX10_splitVerse_35 : decode cX10_splitVerse 35 = .ok (.getfield 7, 3) := by decide +kernel
theorem dX10_splitVerse_38 : decode cX10_splitVerse 38 = .ok (.iload 4, 2) := by decide +kernel
theorem dX10_splitVerse_40 : decode cX10_splitVerse 40 = .ok (.iaload, 1) := by decide +kernel
theorem dX10_splitVerse_41 : decode cX10_splitVerse 41 = .ok (.if_icmp .lt 6, 3) := by decide +kernel
theorem dX10_splitVerse_44 : decode cX10_splitVerse 44 = .ok (.bipush (-4), 2) := by decide +kernel
theorem dX10_splitVerse_46 : decode cX10_splitVerse 46 = .ok (.ireturn, 1) := by decide +kernel
theorem dX10_splitVerse_47 : decode cX10_splitVerse 47 = .ok (.aload_n 0, 1) := by decide +kernel
theorem dX10_splitVerse_48 : decode cX10_splitVerse 48 = .ok (.iload_n 1, 1) := by decide +kernel
theorem dX10_splitVerse_49 : decode cX10_splitVerse 49 = .ok (.invokevirtual 56, 3) := by decide +kernel
theorem dX10_splitVerse_52 : decode cX10_splitVerse 52 = .ok (.bipush 60, 2) := by decide +kernel
theorem dX10_splitVerse_54 : decode cX10_splitVerse 54 = .ok (.if_icmp .ne 6, 3) := by decide +kernel
theorem dX10_splitVerse_57 : decode cX10_splitVerse 57 = .ok (.bipush (-3), 2) := by decide +kernel
theorem dX10_splitVerse_59 : decode cX10_splitVerse 59 = .ok (.ireturn, 1) := by decide +kernel
theorem dX10_splitVerse_60 : decode cX10_splitVerse 60 = .ok (.aload_n 0, 1) := by decide +kernel
theorem dX10_splitVerse_61 : decode cX10_splitVerse 61 = .ok (.invokevirtual 67, 3) := by decide +kernel
theorem dX10_splitVerse_64 : decode cX10_splitVerse 64 = .ok (.aload_n 0, 1) := by decide +kernel
theorem dX10_splitVerse_65 : decode cX10_splitVerse 65 = .ok (.iload_n 1, 1) := by decide +kernel
theorem dX10_splitVerse_66 : decode cX10_splitVerse 66 = .ok (.iload_n 2, 1) := by decide +kernel
theorem dX10_splitVerse_67 : decode cX10_splitVerse 67 = .ok (.invokevirtual 85, 3) := by decide +kernel
theorem dX10_splitVerse_70 : decode cX10_splitVerse 70 = .ok (.istore 5, 2) := by decide +kernel
theorem dX10_splitVerse_72 : decode cX10_splitVerse 72 = .ok (.aload_n 0, 1) := by decide +kernel
theorem dX10_splitVerse_73 : decode cX10_splitVerse 73 = .ok (.iload_n 1, 1) := by decide +kernel
theorem dX10_splitVerse_74 : decode cX10_splitVerse 74 = .ok (.invokevirtual 56, 3) := by decide +kernel
theorem dX10_splitVerse_77 : decode cX10_splitVerse 77 = .ok (.istore 6, 2) := by decide +kernel
theorem dX10_splitVerse_79 : decode cX10_splitVerse 79 = .ok (.iload 6, 2) := by decide +kernel
theorem dX10_splitVerse_81 : decode cX10_splitVerse 81 = .ok (.iload_n 2, 1) := by decide +kernel
theorem dX10_splitVerse_82 : decode cX10_splitVerse 82 = .ok (.if_icmp .le 29, 3) := by decide +kernel
theorem dX10_splitVerse_85 : decode cX10_splitVerse 85 = .ok (.aload_n 0, 1) := by decide +kernel
theorem dX10_splitVerse_86 : decode cX10_splitVerse 86 = .ok (.bipush 60, 2) := by decide +kernel
theorem dX10_splitVerse_88 : decode cX10_splitVerse 88 = .ok (.iload_n 1, 1) := by decide +kernel
theorem dX10_splitVerse_89 : decode cX10_splitVerse 89 = .ok (.imul, 1) := by decide +kernel
theorem dX10_splitVerse_90 : decode cX10_splitVerse 90 = .ok (.iload 6, 2) := by decide +kernel
theorem dX10_splitVerse_92 : decode cX10_splitVerse 92 = .ok (.iadd, 1) := by decide +kernel
theorem dX10_splitVerse_93 : decode cX10_splitVerse 93 = .ok (.iconst 1, 1) := by decide +kernel
theorem dX10_splitVerse_94 : decode cX10_splitVerse 94 = .ok (.isub, 1) := by decide +kernel
theorem dX10_splitVerse_95 : decode cX10_splitVerse 95 = .ok (.bipush 60, 2) := by decide +kernel
theorem dX10_splitVerse_97 : decode cX10_splitVerse 97 = .ok (.iload_n 1, 1) := by decide +kernel
theorem dX10_splitVerse_98 : decode cX10_splitVerse 98 = .ok (.imul, 1) := by decide +kernel
theorem dX10_splitVerse_99 : decode cX10_splitVerse 99 = .ok (.iload 6, 2) := by decide +kernel
theorem dX10_splitVerse_101 : decode cX10_splitVerse 101 = .ok (.iadd, 1) := by decide +kernel
theorem dX10_splitVerse_102 : decode cX10_splitVerse 102 = .ok (.invokevirtual 91, 3) := by decide +kernel
theorem dX10_splitVerse_105 : decode cX10_splitVerse 105 = .ok (.iinc 6 (-1), 3) := by decide +kernel
theorem dX10_splitVerse_108 : decode cX10_splitVerse 108 = .ok (.goto (-29), 3) := by decide +kernel
theorem dX10_splitVerse_111 : decode cX10_splitVerse 111 = .ok (.aload_n 0, 1) := by decide +kernel
theorem dX10_splitVerse_112 : decode cX10_splitVerse 112 = .ok (.getfield 7, 3) := by decide +kernel
theorem dX10_splitVerse_115 : decode cX10_splitVerse 115 = .ok (.iload 4, 2) := by decide +kernel
theorem dX10_splitVerse_117 : decode cX10_splitVerse 117 = .ok (.iconst 1, 1) := by decide +kernel
theorem dX10_splitVerse_118 : decode cX10_splitVerse 118 = .ok (.iadd, 1) := by decide +kernel
theorem dX10_splitVerse_119 : decode cX10_splitVerse 119 = .ok (.aload_n 0, 1) := by decide +kernel
theorem dX10_splitVerse_120 : decode cX10_splitVerse 120 = .ok (.getfield 7, 3) := by decide +kernel
theorem dX10_splitVerse_123 : decode cX10_splitVerse 123 = .ok (.iload 4, 2) := by decide +kernel
theorem dX10_splitVerse_125 : decode cX10_splitVerse 125 = .ok (.iaload, 1) := by decide +kernel
theorem dX10_splitVerse_126 : decode cX10_splitVerse 126 = .ok (.iload_n 3, 1) := by decide +kernel
theorem dX10_splitVerse_127 : decode cX10_splitVerse 127 = .ok (.isub, 1) := by decide +kernel
theorem dX10_splitVerse_128 : decode cX10_splitVerse 128 = .ok (.iastore, 1) := by decide +kernel
theorem dX10_splitVerse_129 : decode cX10_splitVerse 129 = .ok (.aload_n 0, 1) := by decide +kernel
theorem dX10_splitVerse_130 : decode cX10_splitVerse 130 = .ok (.getfield 7, 3) := by decide +kernel
theorem dX10_splitVerse_133 : decode cX10_splitVerse 133 = .ok (.bipush 120, 2) := by decide +kernel
theorem dX10_splitVerse_135 : decode cX10_splitVerse 135 = .ok (.iload 4, 2) := by decide +kernel
theorem dX10_splitVerse_137 : decode cX10_splitVerse 137 = .ok (.iadd, 1) := by decide +kernel
theorem dX10_splitVerse_138 : decode cX10_splitVerse 138 = .ok (.iconst 1, 1) := by decide +kernel
theorem dX10_splitVerse_139 : decode cX10_splitVerse 139 = .ok (.iadd, 1) := by decide +kernel
theorem dX10_splitVerse_140 : decode cX10_splitVerse 140 = .ok (.iconst 0, 1) := by decide +kernel
theorem dX10_splitVerse_141 : decode cX10_splitVerse 141 = .ok (.iastore, 1) := by decide +kernel
theorem dX10_splitVerse_142 : decode cX10_splitVerse 142 = .ok (.aload_n 0, 1) := by decide +kernel
theorem dX10_splitVerse_143 : decode cX10_splitVerse 143 = .ok (.getfield 7, 3) := by decide +kernel
theorem dX10_splitVerse_146 : decode cX10_splitVerse 146 = .ok (.iload 4, 2) := by decide +kernel
theorem dX10_splitVerse_148 : decode cX10_splitVerse 148 = .ok (.iload_n 3, 1) := by decide +kernel
theorem dX10_splitVerse_149 : decode cX10_splitVerse 149 = .ok (.iastore, 1) := by decide +kernel
theorem dX10_splitVerse_150 : decode cX10_splitVerse 150 = .ok (.aload_n 0, 1) := by decide +kernel
theorem dX10_splitVerse_151 : decode cX10_splitVerse 151 = .ok (.getfield 7, 3) := by decide +kernel
theorem dX10_splitVerse_154 : decode cX10_splitVerse 154 = .ok (.iload_n 1, 1) := by decide +kernel
theorem dX10_splitVerse_155 : decode cX10_splitVerse 155 = .ok (.ifCond .ne 9, 3) := by decide +kernel
theorem dX10_splitVerse_158 : decode cX10_splitVerse 158 = .ok (.sipush 365, 3) := by decide +kernel
theorem dX10_splitVerse_161 : decode cX10_splitVerse 161 = .ok (.goto 6, 3) := by decide +kernel
theorem dX10_splitVerse_164 : decode cX10_splitVerse 164 = .ok (.sipush 485, 3) := by decide +kernel
theorem dX10_splitVerse_167 : decode cX10_splitVerse 167 = .ok (.iload 5, 2) := by decide +kernel
theorem dX10_splitVerse_169 : decode cX10_splitVerse 169 = .ok (.iadd, 1) := by decide +kernel
theorem dX10_splitVerse_170 : decode cX10_splitVerse 170 = .ok (.dup2, 1) := by decide +kernel
theorem dX10_splitVerse_171 : decode cX10_splitVerse 171 = .ok (.iaload, 1) := by decide +kernel
theorem dX10_splitVerse_172 : decode cX10_splitVerse 172 = .ok (.iconst 1, 1) := by decide +kernel
theorem dX10_splitVerse_173 : decode cX10_splitVerse 173 = .ok (.iadd, 1) := by decide +kernel
theorem dX10_splitVerse_174 : decode cX10_splitVerse 174 = .ok (.iastore, 1) := by decide +kernel
theorem dX10_splitVerse_175 : decode cX10_splitVerse 175 = .ok (.aload_n 0, 1) := by decide +kernel
theorem dX10_splitVerse_176 : decode cX10_splitVerse 176 = .ok (.getfield 7, 3) := by decide +kernel
theorem dX10_splitVerse_179 : decode cX10_splitVerse 179 = .ok (.sipush 360, 3) := by decide +kernel
theorem dX10_splitVerse_182 : decode cX10_splitVerse 182 = .ok (.iload_n 1, 1) := by decide +kernel
theorem dX10_splitVerse_183 : decode cX10_splitVerse 183 = .ok (.iadd, 1) := by decide +kernel
theorem dX10_splitVerse_184 : decode cX10_splitVerse 184 = .ok (.dup2, 1) := by decide +kernel
theorem dX10_splitVerse_185 : decode cX10_splitVerse 185 = .ok (.iaload, 1) := by decide +kernel
theorem dX10_splitVerse_186 : decode cX10_splitVerse 186 = .ok (.iconst 1, 1) := by decide +kernel
theorem dX10_splitVerse_187 : decode cX10_splitVerse 187 = .ok (.iadd, 1) := by decide +kernel
theorem dX10_splitVerse_188 : decode cX10_splitVerse 188 = .ok (.iastore, 1) := by decide +kernel
theorem dX10_splitVerse_189 : decode cX10_splitVerse 189 = .ok (.aload_n 0, 1) := by decide +kernel
theorem dX10_splitVerse_190 : decode cX10_splitVerse 190 = .ok (.iload_n 1, 1) := by decide +kernel
theorem dX10_splitVerse_191 : decode cX10_splitVerse 191 = .ok (.invokevirtual 56, 3) := by decide +kernel
theorem dX10_splitVerse_194 : decode cX10_splitVerse 194 = .ok (.ireturn, 1) := by decide +kernel
set_option maxRecDepth 20000 in
theorem ggX10_link_X10_noGroup : GoodIn wsX10_link wsX10_noGroup := goodIn_r _ [5, 6, 7, 8, 4, 9, 10, 11, 12, 13, 24, 25, 26, 27, 28, 29, 30, 31, 32, 33, 34, 35, 36, 37, 38, 39, 40, 41, 42, 43, 44, 45, 46] (by decide +kernel) (by decide +kernel)
set_option maxRecDepth 20000 in
theorem gX10_link_X10_noGroup : GoodIn wsX10_link (wsV RX10 94 RX10 yX10_noGroup wsX10_noGroup) := goodIn_app (goodIn_of _ (by decide +kernel)) ggX10_link_X10_noGroup
set_option maxRecDepth 20000 in
theorem ggX10_link_X10_groups : GoodIn wsX10_link wsX10_groups := goodIn_r _ [9, 10, 24, 25, 26, 27, 28, 29, 30, 31, 32, 33, 34, 35, 36, 37, 38, 39, 40, 41, 42, 43, 44, 45, 46] (by decide +kernel) (by decide +kernel)
set_option maxRecDepth 20000 in
theorem gX10_link_X10_groups : GoodIn wsX10_link (wsV RX10 60 RX10 yX10_groups wsX10_groups) := goodIn_app (goodIn_of _ (by decide +kernel)) ggX10_link_X10_groups
set_option maxRecDepth 20000 in
theorem ggX10_link_X10_record : GoodIn wsX10_link wsX10_record := goodIn_r _ [17, 18, 19, 10, 24, 25, 26, 27, 28, 29, 30, 31, 32, 33, 34, 35, 36, 37, 38, 39, 40, 41, 42, 43, 44, 45, 46] (by decide +kernel) (by decide +kernel)
set_option maxRecDepth 20000 in
theorem gX10_link_X10_record : GoodIn wsX10_link (wsV RX10 67 RX10 yX10_record wsX10_record) := goodIn_app (goodIn_of _ (by decide +kernel)) ggX10_link_X10_record
set_option maxRecDepth 20000 in
theorem ggX10_link_X10_joinGroups : GoodIn wsX10_link wsX10_joinGroups := goodIn_r _ [23, 10, 6, 7, 8, 4, 9, 24, 25, 26, 27, 28, 29, 30, 31, 32, 33, 34, 35, 36, 37, 38, 39, 40, 41, 42, 43, 44, 45, 46] (by decide +kernel) (by decide +kernel)
set_option maxRecDepth 20000 in
theorem gX10_link_X10_joinGroups : GoodIn wsX10_link (wsV RX10 88 RX10 yX10_joinGroups wsX10_joinGroups) := goodIn_app (goodIn_of _ (by decide +kernel)) ggX10_link_X10_joinGroups
theorem dX10_link_0 : decode cX10_link 0 = .ok (.aload_n 0, 1) := by decide +kernel
theorem dX10_link_1 : decode cX10_link 1 = .ok (.iload_n 1, 1) := by decide +kernel
theorem dX10_link_2 : decode cX10_link 2 = .ok (.invokevirtual 94, 3) := by decide +kernel
theorem dX10_link_5 : decode cX10_link 5 = .ok (.ifCond .eq 5, 3) := by decide +kernel
theorem dX10_link_8 : decode cX10_link 8 = .ok (.iconst (-1), 1) := by decide +kernel
theorem dX10_link_9 : decode cX10_link 9 = .ok (.ireturn, 1) := by decide +kernel
theorem dX10_link_10 : decode cX10_link 10 = .ok (.iload_n 1, 1) := by decide +kernel
theorem dX10_link_11 : decode cX10_link 11 = .ok (.iconst 1, 1) := by decide +kernel
theorem dX10_link_12 : decode cX10_link 12 = .ok (.iadd, 1) := by decide +kernel
theorem dX10_link_13 : decode cX10_link 13 = .ok (.aload_n 0, 1) := by decide +kernel
theorem dX10_link_14 : decode cX10_link 14 = .ok (.invokevirtual 60, 3) := by decide +kernel
theorem dX10_link_17 : decode cX10_link 17 = .ok (.if_icmp .ne 6, 3) := by decide +kernel
theorem dX10_link_20 : decode cX10_link 20 = .ok (.bipush (-4), 2) := by decide +kernel
theorem dX10_link_22 : decode cX10_link 22 = .ok (.ireturn, 1) := by decide +kernel
theorem dX10_link_23 : decode cX10_link 23 = .ok (.aload_n 0, 1) := by decide +kernel
theorem dX10_link_24 : decode cX10_link 24 = .ok (.invokevirtual 67, 3) := by decide +kernel
theorem dX10_link_27 : decode cX10_link 27 = .ok (.aload_n 0, 1) := by decide +kernel
theorem dX10_link_28 : decode cX10_link 28 = .ok (.iload_n 1, 1) := by decide +kernel
theorem dX10_link_29 : decode cX10_link 29 = .ok (.iload_n 1, 1) := by decide +kernel
theorem dX10_link_30 : decode cX10_link 30 = .ok (.iconst 1, 1) := by decide +kernel
theorem dX10_link_31 : decode cX10_link 31 = .ok (.iadd, 1) := by decide +kernel
theorem dX10_link_32 : decode cX10_link 32 = .ok (.invokevirtual 88, 3) := by decide +kernel
theorem dX10_link_35 : decode cX10_link 35 = .ok (.aload_n 0, 1) := by decide +kernel
theorem dX10_link_36 : decode cX10_link 36 = .ok (.invokevirtual 60, 3) := by decide +kernel
theorem dX10_link_39 : decode cX10_link 39 = .ok (.ireturn, 1) := by decide +kernel
set_option maxRecDepth 20000 in
theorem ggX10_part_X10_noGroup : GoodIn wsX10_part wsX10_noGroup := goodIn_r _ [6, 7, 8, 9, 5, 10, 1, 11, 12, 13, 24, 25, 26, 27, 28, 29, 30, 31, 32, 33, 34, 35, 36, 37, 38, 39, 40, 41, 42, 43, 44, 45, 46] (by decide +kernel) (by decide +kernel)
set_option maxRecDepth 20000 in
theorem gX10_part_X10_noGroup : GoodIn wsX10_part (wsV RX10 94 RX10 yX10_noGroup wsX10_noGroup) := goodIn_app (goodIn_of _ (by decide +kernel)) ggX10_part_X10_noGroup
set_option maxRecDepth 20000 in
theorem ggX10_part_X10_in : GoodIn wsX10_part wsX10_in := goodIn_r _ [13] (by decide +kernel) (by decide +kernel)
set_option maxRecDepth 20000 in
theorem gX10_part_X10_in : GoodIn wsX10_part (va_wsS RX10 48 yX10_in wsX10_in) := goodIn_app (goodIn_of _ (by decide +kernel)) ggX10_part_X10_in
set_option maxRecDepth 20000 in
theorem ggX10_part_X10_has : GoodIn wsX10_part wsX10_has := goodIn_r _ [17, 1, 24, 25, 26, 27, 28, 29, 30, 31, 32, 33, 34, 35, 36, 37, 38, 39, 40, 41, 42, 43, 44, 45, 46] (by decide +kernel) (by decide +kernel)
set_option maxRecDepth 20000 in
theorem gX10_part_X10_has : GoodIn wsX10_part (wsV RX10 78 RX10 yX10_has wsX10_has) := goodIn_app (goodIn_of _ (by decide +kernel)) ggX10_part_X10_has
set_option maxRecDepth 20000 in
theorem ggX10_part_X10_record : GoodIn wsX10_part wsX10_record := goodIn_r _ [21, 22, 23, 1, 24, 25, 26, 27, 28, 29, 30, 31, 32, 33, 34, 35, 36, 37, 38, 39, 40, 41, 42, 43, 44, 45, 46] (by decide +kernel) (by decide +kernel)
set_option maxRecDepth 20000 in
theorem gX10_part_X10_record : GoodIn wsX10_part (wsV RX10 67 RX10 yX10_record wsX10_record) := goodIn_app (goodIn_of _ (by decide +kernel)) ggX10_part_X10_record
set_option maxRecDepth 20000 in
theorem ggX10_part_X10_groups : GoodIn wsX10_part wsX10_groups := goodIn_r _ [10, 1, 24, 25, 26, 27, 28, 29, 30, 31, 32, 33, 34, 35, 36, 37, 38, 39, 40, 41, 42, 43, 44, 45, 46] (by decide +kernel) (by decide +kernel)
set_option maxRecDepth 20000 in
theorem gX10_part_X10_groups : GoodIn wsX10_part (wsV RX10 60 RX10 yX10_groups wsX10_groups) := goodIn_app (goodIn_of _ (by decide +kernel)) ggX10_part_X10_groups
theorem dX10_part_0 : decode cX10_part 0 = .ok (.aload_n 0, 1) := by decide +kernel
theorem dX10_part_1 : decode cX10_part 1 = .ok (.iload_n 1, 1) := by decide +kernel
theorem dX10_part_2 : decode cX10_part 2 = .ok (.invokevirtual 94, 3) := by decide +kernel
theorem dX10_part_5 : decode cX10_part 5 = .ok (.ifCond .eq 5, 3) := by decide +kernel
theorem dX10_part_8 : decode cX10_part 8 = .ok (.iconst (-1), 1) := by decide +kernel
theorem dX10_part_9 : decode cX10_part 9 = .ok (.ireturn, 1) := by decide +kernel
theorem dX10_part_10 : decode cX10_part 10 = .ok (.iload_n 2, 1) := by decide +kernel
theorem dX10_part_11 : decode cX10_part 11 = .ok (.iconst 0, 1) := by decide +kernel
theorem dX10_part_12 : decode cX10_part 12 = .ok (.bipush 60, 2) := by decide +kernel
theorem dX10_part_14 : decode cX10_part 14 = .ok (.invokestatic 48, 3) := by decide +kernel
theorem dX10_part_17 : decode cX10_part 17 = .ok (.ifCond .eq 13, 3) := by decide +kernel
theorem dX10_part_20 : decode cX10_part 20 = .ok (.iload_n 3, 1) := by decide +kernel
theorem dX10_part_21 : decode cX10_part 21 = .ok (.iconst 0, 1) := by decide +kernel
theorem dX10_part_22 : decode cX10_part 22 = .ok (.bipush 60, 2) := by decide +kernel
theorem dX10_part_24 : decode cX10_part 24 = .ok (.invokestatic 48, 3) := by decide +kernel
theorem dX10_part_27 : decode cX10_part 27 = .ok (.ifCond .ne 6, 3) := by decide +kernel
theorem dX10_part_30 : decode cX10_part 30 = .ok (.bipush (-2), 2) := by decide +kernel
theorem dX10_part_32 : decode cX10_part 32 = .ok (.ireturn, 1) := by decide +kernel
theorem dX10_part_33 : decode cX10_part 33 = .ok (.aload_n 0, 1) := by decide +kernel
theorem dX10_part_34 : decode cX10_part 34 = .ok (.iload_n 1, 1) := by decide +kernel
theorem dX10_part_35 : decode cX10_part 35 = .ok (.iconst 0, 1) := by decide +kernel
theorem dX10_part_36 : decode cX10_part 36 = .ok (.invokevirtual 78, 3) := by decide +kernel
theorem dX10_part_39 : decode cX10_part 39 = .ok (.iload_n 2, 1) := by decide +kernel
theorem dX10_part_40 : decode cX10_part 40 = .ok (.isub, 1) := by decide +kernel
theorem dX10_part_41 : decode cX10_part 41 = .ok (.istore 4, 2) := by decide +kernel
theorem dX10_part_43 : decode cX10_part 43 = .ok (.aload_n 0, 1) := by decide +kernel
theorem dX10_part_44 : decode cX10_part 44 = .ok (.iload_n 1, 1) := by decide +kernel
theorem dX10_part_45 : decode cX10_part 45 = .ok (.iconst 1, 1) := by decide +kernel
theorem dX10_part_46 : decode cX10_part 46 = .ok (.invokevirtual 78, 3) := by decide +kernel
theorem dX10_part_49 : decode cX10_part 49 = .ok (.iload_n 3, 1) := by decide +kernel
theorem dX10_part_50 : decode cX10_part 50 = .ok (.isub, 1) := by decide +kernel
theorem dX10_part_51 : decode cX10_part 51 = .ok (.istore 5, 2) := by decide +kernel
theorem dX10_part_53 : decode cX10_part 53 = .ok (.iload 4, 2) := by decide +kernel
theorem dX10_part_55 : decode cX10_part 55 = .ok (.ifCond .lt 22, 3) := by decide +kernel
theorem dX10_part_58 : decode cX10_part 58 = .ok (.iload 5, 2) := by decide +kernel
theorem dX10_part_60 : decode cX10_part 60 = .ok (.ifCond .lt 17, 3) := by decide +kernel
theorem dX10_part_63 : decode cX10_part 63 = .ok (.iload_n 2, 1) := by decide +kernel
theorem dX10_part_64 : decode cX10_part 64 = .ok (.iload_n 3, 1) := by decide +kernel
theorem dX10_part_65 : decode cX10_part 65 = .ok (.iadd, 1) := by decide +kernel
theorem dX10_part_66 : decode cX10_part 66 = .ok (.ifCond .eq 11, 3) := by decide +kernel
theorem dX10_part_69 : decode cX10_part 69 = .ok (.iload 4, 2) := by decide +kernel
theorem dX10_part_71 : decode cX10_part 71 = .ok (.iload 5, 2) := by decide +kernel
theorem dX10_part_73 : decode cX10_part 73 = .ok (.iadd, 1) := by decide +kernel
theorem dX10_part_74 : decode cX10_part 74 = .ok (.ifCond .ne 6, 3) := by decide +kernel
theorem dX10_part_77 : decode cX10_part 77 = .ok (.bipush (-4), 2) := by decide +kernel
theorem dX10_part_79 : decode cX10_part 79 = .ok (.ireturn, 1) := by decide +kernel
theorem dX10_part_80 : decode cX10_part 80 = .ok (.aload_n 0, 1) := by decide +kernel
theorem dX10_part_81 : decode cX10_part 81 = .ok (.invokevirtual 67, 3) := by decide +kernel
theorem dX10_part_84 : decode cX10_part 84 = .ok (.aload_n 0, 1) := by decide +kernel
theorem dX10_part_85 : decode cX10_part 85 = .ok (.invokevirtual 60, 3) := by decide +kernel
theorem dX10_part_88 : decode cX10_part 88 = .ok (.istore 6, 2) := by decide +kernel
theorem dX10_part_90 : decode cX10_part 90 = .ok (.iload 6, 2) := by decide +kernel
theorem dX10_part_92 : decode cX10_part 92 = .ok (.iload_n 1, 1) := by decide +kernel
theorem dX10_part_93 : decode cX10_part 93 = .ok (.iconst 1, 1) := by decide +kernel
theorem dX10_part_94 : decode cX10_part 94 = .ok (.iadd, 1) := by decide +kernel
theorem dX10_part_95 : decode cX10_part 95 = .ok (.if_icmp .le 57, 3) := by decide +kernel
theorem dX10_part_98 : decode cX10_part 98 = .ok (.aload_n 0, 1) := by decide +kernel
theorem dX10_part_99 : decode cX10_part 99 = .ok (.getfield 7, 3) := by decide +kernel
theorem dX10_part_102 : decode cX10_part 102 = .ok (.sipush 365, 3) := by decide +kernel
theorem dX10_part_105 : decode cX10_part 105 = .ok (.iload 6, 2) := by decide +kernel
theorem dX10_part_107 : decode cX10_part 107 = .ok (.iadd, 1) := by decide +kernel
theorem dX10_part_108 : decode cX10_part 108 = .ok (.aload_n 0, 1) := by decide +kernel
theorem dX10_part_109 : decode cX10_part 109 = .ok (.getfield 7, 3) := by decide +kernel
theorem dX10_part_112 : decode cX10_part 112 = .ok (.sipush 365, 3) := by decide +kernel
theorem dX10_part_115 : decode cX10_part 115 = .ok (.iload 6, 2) := by decide +kernel
theorem dX10_part_117 : decode cX10_part 117 = .ok (.iadd, 1) := by decide +kernel
theorem dX10_part_118 : decode cX10_part 118 = .ok (.iconst 1, 1) := by decide +kernel
theorem dX10_part_119 : decode cX10_part 119 = .ok (.isub, 1) := by decide +kernel
theorem dX10_part_120 : decode cX10_part 120 = .ok (.iaload, 1) := by decide +kernel
theorem dX10_part_121 : decode cX10_part 121 = .ok (.iastore, 1) := by decide +kernel
theorem dX10_part_122 : decode cX10_part 122 = .ok (.aload_n 0, 1) := by decide +kernel
theorem dX10_part_123 : decode cX10_part 123 = .ok (.getfield 7, 3) := by decide +kernel
theorem dX10_part_126 : decode cX10_part 126 = .ok (.sipush 485, 3) := by decide +kernel
theorem dX10_part_129 : decode cX10_part 129 = .ok (.iload 6, 2) := by decide +kernel
theorem dX10_part_131 : decode cX10_part 131 = .ok (.iadd, 1) := by decide +kernel
theorem dX10_part_132 : decode cX10_part 132 = .ok (.aload_n 0, 1) := by decide +kernel
theorem dX10_part_133 : decode cX10_part 133 = .ok (.getfield 7, 3) := by decide +kernel
theorem dX10_part_136 : decode cX10_part 136 = .ok (.sipush 485, 3) := by decide +kernel
theorem dX10_part_139 : decode cX10_part 139 = .ok (.iload 6, 2) := by decide +kernel
theorem dX10_part_141 : decode cX10_part 141 = .ok (.iadd, 1) := by decide +kernel
theorem dX10_part_142 : decode cX10_part 142 = .ok (.iconst 1, 1) := by decide +kernel
theorem dX10_part_143 : decode cX10_part 143 = .ok (.isub, 1) := by decide +kernel
theorem dX10_part_144 : decode cX10_part 144 = .ok (.iaload, 1) := by decide +kernel
theorem dX10_part_145 : decode cX10_part 145 = .ok (.iastore, 1) := by decide +kernel
theorem dX10_part_146 : decode cX10_part 146 = .ok (.iinc 6 (-1), 3) := by decide +kernel
theorem dX10_part_149 : decode cX10_part 149 = .ok (.goto (-59), 3) := by decide +kernel
theorem dX10_part_152 : decode cX10_part 152 = .ok (.aload_n 0, 1) := by decide +kernel
theorem dX10_part_153 : decode cX10_part 153 = .ok (.getfield 7, 3) := by decide +kernel
theorem dX10_part_156 : decode cX10_part 156 = .ok (.sipush 364, 3) := by decide +kernel
theorem dX10_part_159 : decode cX10_part 159 = .ok (.dup2, 1) := by decide +kernel
theorem dX10_part_160 : decode cX10_part 160 = .ok (.iaload, 1) := by decide +kernel
theorem dX10_part_161 : decode cX10_part 161 = .ok (.iconst 1, 1) := by decide +kernel
theorem dX10_part_162 : decode cX10_part 162 = .ok (.iadd, 1) := by decide +kernel
theorem dX10_part_163 : decode cX10_part 163 = .ok (.iastore, 1) := by decide +kernel
theorem dX10_part_164 : decode cX10_part 164 = .ok (.aload_n 0, 1) := by decide +kernel
theorem dX10_part_165 : decode cX10_part 165 = .ok (.getfield 7, 3) := by decide +kernel
theorem dX10_part_168 : decode cX10_part 168 = .ok (.sipush 365, 3) := by decide +kernel
theorem dX10_part_171 : decode cX10_part 171 = .ok (.iload_n 1, 1) := by decide +kernel
theorem dX10_part_172 : decode cX10_part 172 = .ok (.iadd, 1) := by decide +kernel
theorem dX10_part_173 : decode cX10_part 173 = .ok (.iload_n 2, 1) := by decide +kernel
theorem dX10_part_174 : decode cX10_part 174 = .ok (.iastore, 1) := by decide +kernel
theorem dX10_part_175 : decode cX10_part 175 = .ok (.aload_n 0, 1) := by decide +kernel
theorem dX10_part_176 : decode cX10_part 176 = .ok (.getfield 7, 3) := by decide +kernel
theorem dX10_part_179 : decode cX10_part 179 = .ok (.sipush 485, 3) := by decide +kernel
theorem dX10_part_182 : decode cX10_part 182 = .ok (.iload_n 1, 1) := by decide +kernel
theorem dX10_part_183 : decode cX10_part 183 = .ok (.iadd, 1) := by decide +kernel
theorem dX10_part_184 : decode cX10_part 184 = .ok (.iload_n 3, 1) := by decide +kernel
theorem dX10_part_185 : decode cX10_part 185 = .ok (.iastore, 1) := by decide +kernel
theorem dX10_part_186 : decode cX10_part 186 = .ok (.aload_n 0, 1) := by decide +kernel
theorem dX10_part_187 : decode cX10_part 187 = .ok (.getfield 7, 3) := by decide +kernel
theorem dX10_part_190 : decode cX10_part 190 = .ok (.sipush 365, 3) := by decide +kernel
theorem dX10_part_193 : decode cX10_part 193 = .ok (.iload_n 1, 1) := by decide +kernel
theorem dX10_part_194 : decode cX10_part 194 = .ok (.iadd, 1) := by decide +kernel
theorem dX10_part_195 : decode cX10_part 195 = .ok (.iconst 1, 1) := by decide +kernel
theorem dX10_part_196 : decode cX10_part 196 = .ok (.iadd, 1) := by decide +kernel
theorem dX10_part_197 : decode cX10_part 197 = .ok (.iload 4, 2) := by decide +kernel
theorem dX10_part_199 : decode cX10_part 199 = .ok (.iastore, 1) := by decide +kernel
theorem dX10_part_200 : decode cX10_part 200 = .ok (.aload_n 0, 1) := by decide +kernel
theorem dX10_part_201 : decode cX10_part 201 = .ok (.getfield 7, 3) := by decide +kernel
theorem dX10_part_204 : decode cX10_part 204 = .ok (.sipush 485, 3) := by decide +kernel
theorem dX10_part_207 : decode cX10_part 207 = .ok (.iload_n 1, 1) := by decide +kernel
theorem dX10_part_208 : decode cX10_part 208 = .ok (.iadd, 1) := by decide +kernel
theorem dX10_part_209 : decode cX10_part 209 = .ok (.iconst 1, 1) := by decide +kernel
theorem dX10_part_210 : decode cX10_part 210 = .ok (.iadd, 1) := by decide +kernel
theorem dX10_part_211 : decode cX10_part 211 = .ok (.iload 5, 2) := by decide +kernel
theorem dX10_part_213 : decode cX10_part 213 = .ok (.iastore, 1) := by decide +kernel
theorem dX10_part_214 : decode cX10_part 214 = .ok (.aload_n 0, 1) := by decide +kernel
theorem dX10_part_215 : decode cX10_part 215 = .ok (.invokevirtual 60, 3) := by decide +kernel
theorem dX10_part_218 : decode cX10_part 218 = .ok (.ireturn, 1) := by decide +kernel
set_option maxRecDepth 20000 in
theorem ggX10_pairAll_X10_record : GoodIn wsX10_pairAll wsX10_record := goodIn_r _ [6, 7, 8, 1, 21, 22, 23, 24, 25, 26, 27, 28, 29, 30, 31, 32, 33, 34, 35, 36, 37, 38, 39, 40, 41, 42, 43] (by decide +kernel) (by decide +kernel)
set_option maxRecDepth 20000 in
theorem gX10_pairAll_X10_record : GoodIn wsX10_pairAll (wsV RX10 67 RX10 yX10_record wsX10_record) := goodIn_app (goodIn_of _ (by decide +kernel)) ggX10_pairAll_X10_record
set_option maxRecDepth 20000 in
theorem ggX10_pairAll_X10_size : GoodIn wsX10_pairAll wsX10_size := goodIn_r _ [12, 1, 21, 22, 23, 24, 25, 26, 27, 28, 29, 30, 31, 32, 33, 34, 35, 36, 37, 38, 39, 40, 41, 42, 43] (by decide +kernel) (by decide +kernel)
set_option maxRecDepth 20000 in
theorem gX10_pairAll_X10_size : GoodIn wsX10_pairAll (wsV RX10 56 RX10 yX10_size wsX10_size) := goodIn_app (goodIn_of _ (by decide +kernel)) ggX10_pairAll_X10_size
set_option maxRecDepth 20000 in
theorem ggX10_pairAll_X10_addGroup : GoodIn wsX10_pairAll wsX10_addGroup := goodIn_r _ [16, 1, 17, 18, 19, 5, 20, 21, 22, 23, 24, 25, 26, 27, 28, 29, 30, 31, 32, 33, 34, 35, 36, 37, 38, 39, 40, 41, 42, 43] (by decide +kernel) (by decide +kernel)
set_option maxRecDepth 20000 in
theorem gX10_pairAll_X10_addGroup : GoodIn wsX10_pairAll (wsV RX10 70 RX10 yX10_addGroup wsX10_addGroup) := goodIn_app (goodIn_of _ (by decide +kernel)) ggX10_pairAll_X10_addGroup
set_option maxRecDepth 20000 in
theorem ggX10_pairAll_X10_groups : GoodIn wsX10_pairAll wsX10_groups := goodIn_r _ [20, 1, 21, 22, 23, 24, 25, 26, 27, 28, 29, 30, 31, 32, 33, 34, 35, 36, 37, 38, 39, 40, 41, 42, 43] (by decide +kernel) (by decide +kernel)
set_option maxRecDepth 20000 in
theorem gX10_pairAll_X10_groups : GoodIn wsX10_pairAll (wsV RX10 60 RX10 yX10_groups wsX10_groups) := goodIn_app (goodIn_of _ (by decide +kernel)) ggX10_pairAll_X10_groups
theorem dX10_pairAll_0 : decode cX10_pairAll 0 = .ok (.aload_n 0, 1) := by decide +kernel
theorem dX10_pairAll_1 : decode cX10_pairAll 1 = .ok (.invokevirtual 67, 3) := by decide +kernel
theorem dX10_pairAll_4 : decode cX10_pairAll 4 = .ok (.aload_n 0, 1) := by decide +kernel
theorem dX10_pairAll_5 : decode cX10_pairAll 5 = .ok (.getfield 7, 3) := by decide +kernel
theorem dX10_pairAll_8 : decode cX10_pairAll 8 = .ok (.sipush 364, 3) := by decide +kernel
theorem dX10_pairAll_11 : decode cX10_pairAll 11 = .ok (.iconst 0, 1) := by decide +kernel
theorem dX10_pairAll_12 : decode cX10_pairAll 12 = .ok (.iastore, 1) := by decide +kernel
theorem dX10_pairAll_13 : decode cX10_pairAll 13 = .ok (.aload_n 0, 1) := by decide +kernel
theorem dX10_pairAll_14 : decode cX10_pairAll 14 = .ok (.iconst 0, 1) := by decide +kernel
theorem dX10_pairAll_15 : decode cX10_pairAll 15 = .ok (.invokevirtual 56, 3) := by decide +kernel
theorem dX10_pairAll_18 : decode cX10_pairAll 18 = .ok (.aload_n 0, 1) := by decide +kernel
theorem dX10_pairAll_19 : decode cX10_pairAll 19 = .ok (.iconst 1, 1) := by decide +kernel
theorem dX10_pairAll_20 : decode cX10_pairAll 20 = .ok (.invokevirtual 56, 3) := by decide +kernel
theorem dX10_pairAll_23 : decode cX10_pairAll 23 = .ok (.if_icmp .ge 11, 3) := by decide +kernel
theorem dX10_pairAll_26 : decode cX10_pairAll 26 = .ok (.aload_n 0, 1) := by decide +kernel
theorem dX10_pairAll_27 : decode cX10_pairAll 27 = .ok (.iconst 0, 1) := by decide +kernel
theorem dX10_pairAll_28 : decode cX10_pairAll 28 = .ok (.invokevirtual 56, 3) := by decide +kernel
theorem dX10_pairAll_31 : decode cX10_pairAll 31 = .ok (.goto 8, 3) := by decide +kernel
theorem dX10_pairAll_34 : decode cX10_pairAll 34 = .ok (.aload_n 0, 1) := by decide +kernel
theorem dX10_pairAll_35 : decode cX10_pairAll 35 = .ok (.iconst 1, 1) := by decide +kernel
theorem dX10_pairAll_36 : decode cX10_pairAll 36 = .ok (.invokevirtual 56, 3) := by decide +kernel
theorem dX10_pairAll_39 : decode cX10_pairAll 39 = .ok (.istore_n 1, 1) := by decide +kernel
theorem dX10_pairAll_40 : decode cX10_pairAll 40 = .ok (.iconst 0, 1) := by decide +kernel
theorem dX10_pairAll_41 : decode cX10_pairAll 41 = .ok (.istore_n 2, 1) := by decide +kernel
theorem dX10_pairAll_42 : decode cX10_pairAll 42 = .ok (.iload_n 2, 1) := by decide +kernel
theorem dX10_pairAll_43 : decode cX10_pairAll 43 = .ok (.iload_n 1, 1) := by decide +kernel
theorem dX10_pairAll_44 : decode cX10_pairAll 44 = .ok (.if_icmp .ge 15, 3) := by decide +kernel
theorem dX10_pairAll_47 : decode cX10_pairAll 47 = .ok (.aload_n 0, 1) := by decide +kernel
theorem dX10_pairAll_48 : decode cX10_pairAll 48 = .ok (.iconst 1, 1) := by decide +kernel
theorem dX10_pairAll_49 : decode cX10_pairAll 49 = .ok (.iconst 1, 1) := by decide +kernel
theorem dX10_pairAll_50 : decode cX10_pairAll 50 = .ok (.invokevirtual 70, 3) := by decide +kernel
theorem dX10_pairAll_53 : decode cX10_pairAll 53 = .ok (.iinc 2 1, 3) := by decide +kernel
theorem dX10_pairAll_56 : decode cX10_pairAll 56 = .ok (.goto (-14), 3) := by decide +kernel
theorem dX10_pairAll_59 : decode cX10_pairAll 59 = .ok (.iload_n 1, 1) := by decide +kernel
theorem dX10_pairAll_60 : decode cX10_pairAll 60 = .ok (.istore_n 2, 1) := by decide +kernel
theorem dX10_pairAll_61 : decode cX10_pairAll 61 = .ok (.iload_n 2, 1) := by decide +kernel
theorem dX10_pairAll_62 : decode cX10_pairAll 62 = .ok (.aload_n 0, 1) := by decide +kernel
theorem dX10_pairAll_63 : decode cX10_pairAll 63 = .ok (.iconst 0, 1) := by decide +kernel
theorem dX10_pairAll_64 : decode cX10_pairAll 64 = .ok (.invokevirtual 56, 3) := by decide +kernel
theorem dX10_pairAll_67 : decode cX10_pairAll 67 = .ok (.if_icmp .lt 12, 3) := by decide +kernel
theorem dX10_pairAll_70 : decode cX10_pairAll 70 = .ok (.iload_n 2, 1) := by decide +kernel
theorem dX10_pairAll_71 : decode cX10_pairAll 71 = .ok (.aload_n 0, 1) := by decide +kernel
theorem dX10_pairAll_72 : decode cX10_pairAll 72 = .ok (.iconst 1, 1) := by decide +kernel
theorem dX10_pairAll_73 : decode cX10_pairAll 73 = .ok (.invokevirtual 56, 3) := by decide +kernel
theorem dX10_pairAll_76 : decode cX10_pairAll 76 = .ok (.if_icmp .ge 41, 3) := by decide +kernel
theorem dX10_pairAll_79 : decode cX10_pairAll 79 = .ok (.aload_n 0, 1) := by decide +kernel
theorem dX10_pairAll_80 : decode cX10_pairAll 80 = .ok (.iload_n 2, 1) := by decide +kernel
theorem dX10_pairAll_81 : decode cX10_pairAll 81 = .ok (.aload_n 0, 1) := by decide +kernel
theorem dX10_pairAll_82 : decode cX10_pairAll 82 = .ok (.iconst 0, 1) := by decide +kernel
theorem dX10_pairAll_83 : decode cX10_pairAll 83 = .ok (.invokevirtual 56, 3) := by decide +kernel
theorem dX10_pairAll_86 : decode cX10_pairAll 86 = .ok (.if_icmp .ge 7, 3) := by decide +kernel
theorem dX10_pairAll_89 : decode cX10_pairAll 89 = .ok (.iconst 1, 1) := by decide +kernel
theorem dX10_pairAll_90 : decode cX10_pairAll 90 = .ok (.goto 4, 3) := by decide +kernel
theorem dX10_pairAll_93 : decode cX10_pairAll 93 = .ok (.iconst 0, 1) := by decide +kernel
theorem dX10_pairAll_94 : decode cX10_pairAll 94 = .ok (.iload_n 2, 1) := by decide +kernel
theorem dX10_pairAll_95 : decode cX10_pairAll 95 = .ok (.aload_n 0, 1) := by decide +kernel
theorem dX10_pairAll_96 : decode cX10_pairAll 96 = .ok (.iconst 1, 1) := by decide +kernel
theorem dX10_pairAll_97 : decode cX10_pairAll 97 = .ok (.invokevirtual 56, 3) := by decide +kernel
theorem dX10_pairAll_100 : decode cX10_pairAll 100 = .ok (.if_icmp .ge 7, 3) := by decide +kernel
theorem dX10_pairAll_103 : decode cX10_pairAll 103 = .ok (.iconst 1, 1) := by decide +kernel
theorem dX10_pairAll_104 : decode cX10_pairAll 104 = .ok (.goto 4, 3) := by decide +kernel
theorem dX10_pairAll_107 : decode cX10_pairAll 107 = .ok (.iconst 0, 1) := by decide +kernel
theorem dX10_pairAll_108 : decode cX10_pairAll 108 = .ok (.invokevirtual 70, 3) := by decide +kernel
theorem dX10_pairAll_111 : decode cX10_pairAll 111 = .ok (.iinc 2 1, 3) := by decide +kernel
theorem dX10_pairAll_114 : decode cX10_pairAll 114 = .ok (.goto (-53), 3) := by decide +kernel
theorem dX10_pairAll_117 : decode cX10_pairAll 117 = .ok (.aload_n 0, 1) := by decide +kernel
theorem dX10_pairAll_118 : decode cX10_pairAll 118 = .ok (.invokevirtual 60, 3) := by decide +kernel
theorem dX10_pairAll_121 : decode cX10_pairAll 121 = .ok (.ireturn, 1) := by decide +kernel
theorem dX10_swap_0 : decode cX10_swap 0 = .ok (.aload_n 0, 1) := by decide +kernel
theorem dX10_swap_1 : decode cX10_swap 1 = .ok (.getfield 7, 3) := by decide +kernel
theorem dX10_swap_4 : decode cX10_swap 4 = .ok (.iload_n 1, 1) := by decide +kernel
theorem dX10_swap_5 : decode cX10_swap 5 = .ok (.iaload, 1) := by decide +kernel
theorem dX10_swap_6 : decode cX10_swap 6 = .ok (.istore_n 3, 1) := by decide +kernel
theorem dX10_swap_7 : decode cX10_swap 7 = .ok (.aload_n 0, 1) := by decide +kernel
theorem dX10_swap_8 : decode cX10_swap 8 = .ok (.getfield 7, 3) := by decide +kernel
theorem dX10_swap_11 : decode cX10_swap 11 = .ok (.iload_n 1, 1) := by decide +kernel
theorem dX10_swap_12 : decode cX10_swap 12 = .ok (.aload_n 0, 1) := by decide +kernel
theorem dX10_swap_13 : decode cX10_swap 13 = .ok (.getfield 7, 3) := by decide +kernel
theorem dX10_swap_16 : decode cX10_swap 16 = .ok (.iload_n 2, 1) := by decide +kernel
theorem dX10_swap_17 : decode cX10_swap 17 = .ok (.iaload, 1) := by decide +kernel
theorem dX10_swap_18 : decode cX10_swap 18 = .ok (.iastore, 1) := by decide +kernel
theorem dX10_swap_19 : decode cX10_swap 19 = .ok (.aload_n 0, 1) := by decide +kernel
theorem dX10_swap_20 : decode cX10_swap 20 = .ok (.getfield 7, 3) := by decide +kernel
theorem dX10_swap_23 : decode cX10_swap 23 = .ok (.iload_n 2, 1) := by decide +kernel
theorem dX10_swap_24 : decode cX10_swap 24 = .ok (.iload_n 3, 1) := by decide +kernel
theorem dX10_swap_25 : decode cX10_swap 25 = .ok (.iastore, 1) := by decide +kernel
theorem dX10_swap_26 : decode cX10_swap 26 = .ok (.return_, 1) := by decide +kernel
set_option maxRecDepth 20000 in
theorem ggX10_exchange_X10_record : GoodIn wsX10_exchange wsX10_record := goodIn_r _ [5, 6, 7, 8, 21, 22, 23, 24, 25, 26, 27, 28, 29, 30, 31, 32, 33, 34, 35, 36, 37, 38, 39, 40, 41, 42, 43] (by decide +kernel) (by decide +kernel)
set_option maxRecDepth 20000 in
theorem gX10_exchange_X10_record : GoodIn wsX10_exchange (wsV RX10 67 RX10 yX10_record wsX10_record) := goodIn_app (goodIn_of _ (by decide +kernel)) ggX10_exchange_X10_record
set_option maxRecDepth 20000 in
theorem ggX10_exchange_X10_swap : GoodIn wsX10_exchange wsX10_swap := goodIn_r _ [12, 8, 21, 22, 23, 24, 25, 26, 27, 28, 29, 30, 31, 32, 33, 34, 35, 36, 37, 38, 39, 40, 41, 42, 43] (by decide +kernel) (by decide +kernel)
set_option maxRecDepth 20000 in
theorem gX10_exchange_X10_swap : GoodIn wsX10_exchange (wsV RX10 97 RX10 yX10_swap wsX10_swap) := goodIn_app (goodIn_of _ (by decide +kernel)) ggX10_exchange_X10_swap
set_option maxRecDepth 20000 in
theorem ggX10_exchange_X10_groups : GoodIn wsX10_exchange wsX10_groups := goodIn_r _ [16, 8, 21, 22, 23, 24, 25, 26, 27, 28, 29, 30, 31, 32, 33, 34, 35, 36, 37, 38, 39, 40, 41, 42, 43] (by decide +kernel) (by decide +kernel)
set_option maxRecDepth 20000 in
theorem gX10_exchange_X10_groups : GoodIn wsX10_exchange (wsV RX10 60 RX10 yX10_groups wsX10_groups) := goodIn_app (goodIn_of _ (by decide +kernel)) ggX10_exchange_X10_groups
set_option maxRecDepth 20000 in
theorem ggX10_exchange_X10_has : GoodIn wsX10_exchange wsX10_has := goodIn_r _ [20, 8, 21, 22, 23, 24, 25, 26, 27, 28, 29, 30, 31, 32, 33, 34, 35, 36, 37, 38, 39, 40, 41, 42, 43] (by decide +kernel) (by decide +kernel)
set_option maxRecDepth 20000 in
theorem gX10_exchange_X10_has : GoodIn wsX10_exchange (wsV RX10 78 RX10 yX10_has wsX10_has) := goodIn_app (goodIn_of _ (by decide +kernel)) ggX10_exchange_X10_has
theorem dX10_exchange_0 : decode cX10_exchange 0 = .ok (.aload_n 0, 1) := by decide +kernel
theorem dX10_exchange_1 : decode cX10_exchange 1 = .ok (.invokevirtual 67, 3) := by decide +kernel
theorem dX10_exchange_4 : decode cX10_exchange 4 = .ok (.iconst 0, 1) := by decide +kernel
theorem dX10_exchange_5 : decode cX10_exchange 5 = .ok (.istore_n 1, 1) := by decide +kernel
theorem dX10_exchange_6 : decode cX10_exchange 6 = .ok (.iload_n 1, 1) := by decide +kernel
theorem dX10_exchange_7 : decode cX10_exchange 7 = .ok (.bipush 60, 2) := by decide +kernel
theorem dX10_exchange_9 : decode cX10_exchange 9 = .ok (.if_icmp .ge 45, 3) := by decide +kernel
theorem dX10_exchange_12 : decode cX10_exchange 12 = .ok (.aload_n 0, 1) := by decide +kernel
theorem dX10_exchange_13 : decode cX10_exchange 13 = .ok (.iload_n 1, 1) := by decide +kernel
theorem dX10_exchange_14 : decode cX10_exchange 14 = .ok (.bipush 60, 2) := by decide +kernel
theorem dX10_exchange_16 : decode cX10_exchange 16 = .ok (.iload_n 1, 1) := by decide +kernel
theorem dX10_exchange_17 : decode cX10_exchange 17 = .ok (.iadd, 1) := by decide +kernel
theorem dX10_exchange_18 : decode cX10_exchange 18 = .ok (.invokevirtual 97, 3) := by decide +kernel
theorem dX10_exchange_21 : decode cX10_exchange 21 = .ok (.aload_n 0, 1) := by decide +kernel
theorem dX10_exchange_22 : decode cX10_exchange 22 = .ok (.bipush 120, 2) := by decide +kernel
theorem dX10_exchange_24 : decode cX10_exchange 24 = .ok (.iload_n 1, 1) := by decide +kernel
theorem dX10_exchange_25 : decode cX10_exchange 25 = .ok (.iadd, 1) := by decide +kernel
theorem dX10_exchange_26 : decode cX10_exchange 26 = .ok (.sipush 180, 3) := by decide +kernel
theorem dX10_exchange_29 : decode cX10_exchange 29 = .ok (.iload_n 1, 1) := by decide +kernel
theorem dX10_exchange_30 : decode cX10_exchange 30 = .ok (.iadd, 1) := by decide +kernel
theorem dX10_exchange_31 : decode cX10_exchange 31 = .ok (.invokevirtual 97, 3) := by decide +kernel
theorem dX10_exchange_34 : decode cX10_exchange 34 = .ok (.aload_n 0, 1) := by decide +kernel
theorem dX10_exchange_35 : decode cX10_exchange 35 = .ok (.sipush 240, 3) := by decide +kernel
theorem dX10_exchange_38 : decode cX10_exchange 38 = .ok (.iload_n 1, 1) := by decide +kernel
theorem dX10_exchange_39 : decode cX10_exchange 39 = .ok (.iadd, 1) := by decide +kernel
theorem dX10_exchange_40 : decode cX10_exchange 40 = .ok (.sipush 300, 3) := by decide +kernel
theorem dX10_exchange_43 : decode cX10_exchange 43 = .ok (.iload_n 1, 1) := by decide +kernel
theorem dX10_exchange_44 : decode cX10_exchange 44 = .ok (.iadd, 1) := by decide +kernel
theorem dX10_exchange_45 : decode cX10_exchange 45 = .ok (.invokevirtual 97, 3) := by decide +kernel
theorem dX10_exchange_48 : decode cX10_exchange 48 = .ok (.iinc 1 1, 3) := by decide +kernel
theorem dX10_exchange_51 : decode cX10_exchange 51 = .ok (.goto (-45), 3) := by decide +kernel
theorem dX10_exchange_54 : decode cX10_exchange 54 = .ok (.aload_n 0, 1) := by decide +kernel
theorem dX10_exchange_55 : decode cX10_exchange 55 = .ok (.sipush 360, 3) := by decide +kernel
theorem dX10_exchange_58 : decode cX10_exchange 58 = .ok (.sipush 361, 3) := by decide +kernel
theorem dX10_exchange_61 : decode cX10_exchange 61 = .ok (.invokevirtual 97, 3) := by decide +kernel
theorem dX10_exchange_64 : decode cX10_exchange 64 = .ok (.aload_n 0, 1) := by decide +kernel
theorem dX10_exchange_65 : decode cX10_exchange 65 = .ok (.sipush 362, 3) := by decide +kernel
theorem dX10_exchange_68 : decode cX10_exchange 68 = .ok (.sipush 363, 3) := by decide +kernel
theorem dX10_exchange_71 : decode cX10_exchange 71 = .ok (.invokevirtual 97, 3) := by decide +kernel
theorem dX10_exchange_74 : decode cX10_exchange 74 = .ok (.iconst 0, 1) := by decide +kernel
theorem dX10_exchange_75 : decode cX10_exchange 75 = .ok (.istore_n 1, 1) := by decide +kernel
theorem dX10_exchange_76 : decode cX10_exchange 76 = .ok (.iconst 0, 1) := by decide +kernel
theorem dX10_exchange_77 : decode cX10_exchange 77 = .ok (.istore_n 2, 1) := by decide +kernel
theorem dX10_exchange_78 : decode cX10_exchange 78 = .ok (.iload_n 2, 1) := by decide +kernel
theorem dX10_exchange_79 : decode cX10_exchange 79 = .ok (.aload_n 0, 1) := by decide +kernel
theorem dX10_exchange_80 : decode cX10_exchange 80 = .ok (.invokevirtual 60, 3) := by decide +kernel
theorem dX10_exchange_83 : decode cX10_exchange 83 = .ok (.if_icmp .ge 46, 3) := by decide +kernel
theorem dX10_exchange_86 : decode cX10_exchange 86 = .ok (.aload_n 0, 1) := by decide +kernel
theorem dX10_exchange_87 : decode cX10_exchange 87 = .ok (.sipush 365, 3) := by decide +kernel
theorem dX10_exchange_90 : decode cX10_exchange 90 = .ok (.iload_n 2, 1) := by decide +kernel
theorem dX10_exchange_91 : decode cX10_exchange 91 = .ok (.iadd, 1) := by decide +kernel
theorem dX10_exchange_92 : decode cX10_exchange 92 = .ok (.sipush 485, 3) := by decide +kernel
theorem dX10_exchange_95 : decode cX10_exchange 95 = .ok (.iload_n 2, 1) := by decide +kernel
theorem dX10_exchange_96 : decode cX10_exchange 96 = .ok (.iadd, 1) := by decide +kernel
theorem dX10_exchange_97 : decode cX10_exchange 97 = .ok (.invokevirtual 97, 3) := by decide +kernel
theorem dX10_exchange_100 : decode cX10_exchange 100 = .ok (.iload_n 1, 1) := by decide +kernel
theorem dX10_exchange_101 : decode cX10_exchange 101 = .ok (.aload_n 0, 1) := by decide +kernel
theorem dX10_exchange_102 : decode cX10_exchange 102 = .ok (.iload_n 2, 1) := by decide +kernel
theorem dX10_exchange_103 : decode cX10_exchange 103 = .ok (.iconst 0, 1) := by decide +kernel
theorem dX10_exchange_104 : decode cX10_exchange 104 = .ok (.invokevirtual 78, 3) := by decide +kernel
theorem dX10_exchange_107 : decode cX10_exchange 107 = .ok (.aload_n 0, 1) := by decide +kernel
theorem dX10_exchange_108 : decode cX10_exchange 108 = .ok (.iload_n 2, 1) := by decide +kernel
theorem dX10_exchange_109 : decode cX10_exchange 109 = .ok (.iconst 1, 1) := by decide +kernel
theorem dX10_exchange_110 : decode cX10_exchange 110 = .ok (.invokevirtual 78, 3) := by decide +kernel
theorem dX10_exchange_113 : decode cX10_exchange 113 = .ok (.if_icmp .ne 7, 3) := by decide +kernel
theorem dX10_exchange_116 : decode cX10_exchange 116 = .ok (.iconst 1, 1) := by decide +kernel
theorem dX10_exchange_117 : decode cX10_exchange 117 = .ok (.goto 4, 3) := by decide +kernel
theorem dX10_exchange_120 : decode cX10_exchange 120 = .ok (.iconst 0, 1) := by decide +kernel
theorem dX10_exchange_121 : decode cX10_exchange 121 = .ok (.iadd, 1) := by decide +kernel
theorem dX10_exchange_122 : decode cX10_exchange 122 = .ok (.istore_n 1, 1) := by decide +kernel
theorem dX10_exchange_123 : decode cX10_exchange 123 = .ok (.iinc 2 1, 3) := by decide +kernel
theorem dX10_exchange_126 : decode cX10_exchange 126 = .ok (.goto (-48), 3) := by decide +kernel
theorem dX10_exchange_129 : decode cX10_exchange 129 = .ok (.iload_n 1, 1) := by decide +kernel
theorem dX10_exchange_130 : decode cX10_exchange 130 = .ok (.ireturn, 1) := by decide +kernel
theorem dX10_type_0 : decode cX10_type 0 = .ok (.aload_n 0, 1) := by decide +kernel
theorem dX10_type_1 : decode cX10_type 1 = .ok (.getfield 100, 3) := by decide +kernel
theorem dX10_type_4 : decode cX10_type 4 = .ok (.bipush 80, 2) := by decide +kernel
theorem dX10_type_6 : decode cX10_type 6 = .ok (.if_icmp .ne 6, 3) := by decide +kernel
theorem dX10_type_9 : decode cX10_type 9 = .ok (.bipush (-3), 2) := by decide +kernel
theorem dX10_type_11 : decode cX10_type 11 = .ok (.ireturn, 1) := by decide +kernel
theorem dX10_type_12 : decode cX10_type 12 = .ok (.aload_n 0, 1) := by decide +kernel
theorem dX10_type_13 : decode cX10_type 13 = .ok (.getfield 16, 3) := by decide +kernel
theorem dX10_type_16 : decode cX10_type 16 = .ok (.aload_n 0, 1) := by decide +kernel
theorem dX10_type_17 : decode cX10_type 17 = .ok (.getfield 100, 3) := by decide +kernel
theorem dX10_type_20 : decode cX10_type 20 = .ok (.iload_n 1, 1) := by decide +kernel
theorem dX10_type_21 : decode cX10_type 21 = .ok (.castore, 1) := by decide +kernel
theorem dX10_type_22 : decode cX10_type 22 = .ok (.aload_n 0, 1) := by decide +kernel
theorem dX10_type_23 : decode cX10_type 23 = .ok (.dup, 1) := by decide +kernel
theorem dX10_type_24 : decode cX10_type 24 = .ok (.getfield 100, 3) := by decide +kernel
theorem dX10_type_27 : decode cX10_type 27 = .ok (.iconst 1, 1) := by decide +kernel
theorem dX10_type_28 : decode cX10_type 28 = .ok (.iadd, 1) := by decide +kernel
theorem dX10_type_29 : decode cX10_type 29 = .ok (.putfield 100, 3) := by decide +kernel
theorem dX10_type_32 : decode cX10_type 32 = .ok (.aload_n 0, 1) := by decide +kernel
theorem dX10_type_33 : decode cX10_type 33 = .ok (.getfield 100, 3) := by decide +kernel
theorem dX10_type_36 : decode cX10_type 36 = .ok (.ireturn, 1) := by decide +kernel
theorem dX10_clearText_0 : decode cX10_clearText 0 = .ok (.aload_n 0, 1) := by decide +kernel
theorem dX10_clearText_1 : decode cX10_clearText 1 = .ok (.getfield 100, 3) := by decide +kernel
theorem dX10_clearText_4 : decode cX10_clearText 4 = .ok (.istore_n 1, 1) := by decide +kernel
theorem dX10_clearText_5 : decode cX10_clearText 5 = .ok (.aload_n 0, 1) := by decide +kernel
theorem dX10_clearText_6 : decode cX10_clearText 6 = .ok (.iconst 0, 1) := by decide +kernel
theorem dX10_clearText_7 : decode cX10_clearText 7 = .ok (.putfield 100, 3) := by decide +kernel
theorem dX10_clearText_10 : decode cX10_clearText 10 = .ok (.iload_n 1, 1) := by decide +kernel
theorem dX10_clearText_11 : decode cX10_clearText 11 = .ok (.ireturn, 1) := by decide +kernel
theorem dX10_isAt_0 : decode cX10_isAt 0 = .ok (.aload_n 0, 1) := by decide +kernel
theorem dX10_isAt_1 : decode cX10_isAt 1 = .ok (.getfield 103, 3) := by decide +kernel
theorem dX10_isAt_4 : decode cX10_isAt 4 = .ok (.aload_n 0, 1) := by decide +kernel
theorem dX10_isAt_5 : decode cX10_isAt 5 = .ok (.getfield 100, 3) := by decide +kernel
theorem dX10_isAt_8 : decode cX10_isAt 8 = .ok (.if_icmp .ge 33, 3) := by decide +kernel
theorem dX10_isAt_11 : decode cX10_isAt 11 = .ok (.aload_n 0, 1) := by decide +kernel
theorem dX10_isAt_12 : decode cX10_isAt 12 = .ok (.getfield 16, 3) := by decide +kernel
theorem dX10_isAt_15 : decode cX10_isAt 15 = .ok (.aload_n 0, 1) := by decide +kernel
theorem dX10_isAt_16 : decode cX10_isAt 16 = .ok (.getfield 103, 3) := by decide +kernel
theorem dX10_isAt_19 : decode cX10_isAt 19 = .ok (.caload, 1) := by decide +kernel
theorem dX10_isAt_20 : decode cX10_isAt 20 = .ok (.iload_n 1, 1) := by decide +kernel
theorem dX10_isAt_21 : decode cX10_isAt 21 = .ok (.if_icmp .lt 20, 3) := by decide +kernel
theorem dX10_isAt_24 : decode cX10_isAt 24 = .ok (.aload_n 0, 1) := by decide +kernel
theorem dX10_isAt_25 : decode cX10_isAt 25 = .ok (.getfield 16, 3) := by decide +kernel
theorem dX10_isAt_28 : decode cX10_isAt 28 = .ok (.aload_n 0, 1) := by decide +kernel
theorem dX10_isAt_29 : decode cX10_isAt 29 = .ok (.getfield 103, 3) := by decide +kernel
theorem dX10_isAt_32 : decode cX10_isAt 32 = .ok (.caload, 1) := by decide +kernel
theorem dX10_isAt_33 : decode cX10_isAt 33 = .ok (.iload_n 2, 1) := by decide +kernel
theorem dX10_isAt_34 : decode cX10_isAt 34 = .ok (.if_icmp .gt 7, 3) := by decide +kernel
theorem dX10_isAt_37 : decode cX10_isAt 37 = .ok (.iconst 1, 1) := by decide +kernel
theorem dX10_isAt_38 : decode cX10_isAt 38 = .ok (.goto 4, 3) := by decide +kernel
theorem dX10_isAt_41 : decode cX10_isAt 41 = .ok (.iconst 0, 1) := by decide +kernel
theorem dX10_isAt_42 : decode cX10_isAt 42 = .ok (.ireturn, 1) := by decide +kernel
set_option maxRecDepth 20000 in
theorem ggX10_number_X10_isAt : GoodIn wsX10_number wsX10_isAt := goodIn_r _ [9, 1, 10, 4, 11, 12, 13, 14, 15, 16, 17, 18, 19, 20, 21, 22, 23, 24, 25, 26, 27, 28, 29, 30, 31, 32, 33] (by decide +kernel) (by decide +kernel)
set_option maxRecDepth 20000 in
theorem gX10_number_X10_isAt : GoodIn wsX10_number (wsV RX10 113 RX10 yX10_isAt wsX10_isAt) := goodIn_app (goodIn_of _ (by decide +kernel)) ggX10_number_X10_isAt
theorem dX10_number_0 : decode cX10_number 0 = .ok (.aload_n 0, 1) := by decide +kernel
theorem dX10_number_1 : decode cX10_number 1 = .ok (.aload_n 0, 1) := by decide +kernel
theorem dX10_number_2 : decode cX10_number 2 = .ok (.getfield 103, 3) := by decide +kernel
theorem dX10_number_5 : decode cX10_number 5 = .ok (.putfield 106, 3) := by decide +kernel
theorem dX10_number_8 : decode cX10_number 8 = .ok (.iconst 0, 1) := by decide +kernel
theorem dX10_number_9 : decode cX10_number 9 = .ok (.istore_n 1, 1) := by decide +kernel
theorem dX10_number_10 : decode cX10_number 10 = .ok (.aload_n 0, 1) := by decide +kernel
theorem dX10_number_11 : decode cX10_number 11 = .ok (.getfield 109, 3) := by decide +kernel
theorem dX10_number_14 : decode cX10_number 14 = .ok (.ifCond .eq 74, 3) := by decide +kernel
theorem dX10_number_17 : decode cX10_number 17 = .ok (.aload_n 0, 1) := by decide +kernel
theorem dX10_number_18 : decode cX10_number 18 = .ok (.getfield 103, 3) := by decide +kernel
theorem dX10_number_21 : decode cX10_number 21 = .ok (.aload_n 0, 1) := by decide +kernel
theorem dX10_number_22 : decode cX10_number 22 = .ok (.getfield 106, 3) := by decide +kernel
theorem dX10_number_25 : decode cX10_number 25 = .ok (.iconst 2, 1) := by decide +kernel
theorem dX10_number_26 : decode cX10_number 26 = .ok (.iadd, 1) := by decide +kernel
theorem dX10_number_27 : decode cX10_number 27 = .ok (.if_icmp .ge 61, 3) := by decide +kernel
theorem dX10_number_30 : decode cX10_number 30 = .ok (.aload_n 0, 1) := by decide +kernel
theorem dX10_number_31 : decode cX10_number 31 = .ok (.aload_n 0, 1) := by decide +kernel
theorem dX10_number_32 : decode cX10_number 32 = .ok (.getfield 103, 3) := by decide +kernel
theorem dX10_number_35 : decode cX10_number 35 = .ok (.aload_n 0, 1) := by decide +kernel
theorem dX10_number_36 : decode cX10_number 36 = .ok (.getfield 106, 3) := by decide +kernel
theorem dX10_number_39 : decode cX10_number 39 = .ok (.if_icmp .ne 8, 3) := by decide +kernel
theorem dX10_number_42 : decode cX10_number 42 = .ok (.bipush 49, 2) := by decide +kernel
theorem dX10_number_44 : decode cX10_number 44 = .ok (.goto 5, 3) := by decide +kernel
theorem dX10_number_47 : decode cX10_number 47 = .ok (.bipush 48, 2) := by decide +kernel
theorem dX10_number_49 : decode cX10_number 49 = .ok (.bipush 57, 2) := by decide +kernel
theorem dX10_number_51 : decode cX10_number 51 = .ok (.invokevirtual 113, 3) := by decide +kernel
theorem dX10_number_54 : decode cX10_number 54 = .ok (.ifCond .eq 34, 3) := by decide +kernel
theorem dX10_number_57 : decode cX10_number 57 = .ok (.bipush 10, 2) := by decide +kernel
theorem dX10_number_59 : decode cX10_number 59 = .ok (.iload_n 1, 1) := by decide +kernel
theorem dX10_number_60 : decode cX10_number 60 = .ok (.imul, 1) := by decide +kernel
theorem dX10_number_61 : decode cX10_number 61 = .ok (.aload_n 0, 1) := by decide +kernel
theorem dX10_number_62 : decode cX10_number 62 = .ok (.getfield 16, 3) := by decide +kernel
theorem dX10_number_65 : decode cX10_number 65 = .ok (.aload_n 0, 1) := by decide +kernel
theorem dX10_number_66 : decode cX10_number 66 = .ok (.getfield 103, 3) := by decide +kernel
theorem dX10_number_69 : decode cX10_number 69 = .ok (.caload, 1) := by decide +kernel
theorem dX10_number_70 : decode cX10_number 70 = .ok (.iadd, 1) := by decide +kernel
theorem dX10_number_71 : decode cX10_number 71 = .ok (.bipush 48, 2) := by decide +kernel
theorem dX10_number_73 : decode cX10_number 73 = .ok (.isub, 1) := by decide +kernel
theorem dX10_number_74 : decode cX10_number 74 = .ok (.istore_n 1, 1) := by decide +kernel
theorem dX10_number_75 : decode cX10_number 75 = .ok (.aload_n 0, 1) := by decide +kernel
theorem dX10_number_76 : decode cX10_number 76 = .ok (.dup, 1) := by decide +kernel
theorem dX10_number_77 : decode cX10_number 77 = .ok (.getfield 103, 3) := by decide +kernel
theorem dX10_number_80 : decode cX10_number 80 = .ok (.iconst 1, 1) := by decide +kernel
theorem dX10_number_81 : decode cX10_number 81 = .ok (.iadd, 1) := by decide +kernel
theorem dX10_number_82 : decode cX10_number 82 = .ok (.putfield 103, 3) := by decide +kernel
theorem dX10_number_85 : decode cX10_number 85 = .ok (.goto (-75), 3) := by decide +kernel
theorem dX10_number_88 : decode cX10_number 88 = .ok (.aload_n 0, 1) := by decide +kernel
theorem dX10_number_89 : decode cX10_number 89 = .ok (.aload_n 0, 1) := by decide +kernel
theorem dX10_number_90 : decode cX10_number 90 = .ok (.getfield 109, 3) := by decide +kernel
theorem dX10_number_93 : decode cX10_number 93 = .ok (.ifCond .eq 29, 3) := by decide +kernel
theorem dX10_number_96 : decode cX10_number 96 = .ok (.aload_n 0, 1) := by decide +kernel
theorem dX10_number_97 : decode cX10_number 97 = .ok (.getfield 103, 3) := by decide +kernel
theorem dX10_number_100 : decode cX10_number 100 = .ok (.aload_n 0, 1) := by decide +kernel
theorem dX10_number_101 : decode cX10_number 101 = .ok (.getfield 106, 3) := by decide +kernel
theorem dX10_number_104 : decode cX10_number 104 = .ok (.if_icmp .le 18, 3) := by decide +kernel
theorem dX10_number_107 : decode cX10_number 107 = .ok (.aload_n 0, 1) := by decide +kernel
theorem dX10_number_108 : decode cX10_number 108 = .ok (.bipush 48, 2) := by decide +kernel
theorem dX10_number_110 : decode cX10_number 110 = .ok (.bipush 57, 2) := by decide +kernel
theorem dX10_number_112 : decode cX10_number 112 = .ok (.invokevirtual 113, 3) := by decide +kernel
theorem dX10_number_115 : decode cX10_number 115 = .ok (.ifCond .ne 7, 3) := by decide +kernel
theorem dX10_number_118 : decode cX10_number 118 = .ok (.iconst 1, 1) := by decide +kernel
theorem dX10_number_119 : decode cX10_number 119 = .ok (.goto 4, 3) := by decide +kernel
theorem dX10_number_122 : decode cX10_number 122 = .ok (.iconst 0, 1) := by decide +kernel
theorem dX10_number_123 : decode cX10_number 123 = .ok (.putfield 109, 3) := by decide +kernel
theorem dX10_number_126 : decode cX10_number 126 = .ok (.iload_n 1, 1) := by decide +kernel
theorem dX10_number_127 : decode cX10_number 127 = .ok (.ireturn, 1) := by decide +kernel
theorem dX10_needs_0 : decode cX10_needs 0 = .ok (.aload_n 0, 1) := by decide +kernel
theorem dX10_needs_1 : decode cX10_needs 1 = .ok (.getfield 109, 3) := by decide +kernel
theorem dX10_needs_4 : decode cX10_needs 4 = .ok (.ifCond .eq 20, 3) := by decide +kernel
theorem dX10_needs_7 : decode cX10_needs 7 = .ok (.iload_n 1, 1) := by decide +kernel
theorem dX10_needs_8 : decode cX10_needs 8 = .ok (.ifCond .ne 16, 3) := by decide +kernel
theorem dX10_needs_11 : decode cX10_needs 11 = .ok (.aload_n 0, 1) := by decide +kernel
theorem dX10_needs_12 : decode cX10_needs 12 = .ok (.iconst 0, 1) := by decide +kernel
theorem dX10_needs_13 : decode cX10_needs 13 = .ok (.putfield 109, 3) := by decide +kernel
theorem dX10_needs_16 : decode cX10_needs 16 = .ok (.aload_n 0, 1) := by decide +kernel
theorem dX10_needs_17 : decode cX10_needs 17 = .ok (.aload_n 0, 1) := by decide +kernel
theorem dX10_needs_18 : decode cX10_needs 18 = .ok (.getfield 106, 3) := by decide +kernel
theorem dX10_needs_21 : decode cX10_needs 21 = .ok (.putfield 103, 3) := by decide +kernel
theorem dX10_needs_24 : decode cX10_needs 24 = .ok (.return_, 1) := by decide +kernel
set_option maxRecDepth 20000 in
theorem ggX10_sign_X10_isAt : GoodIn wsX10_sign wsX10_isAt := goodIn_r _ [7, 2, 8, 9, 10, 11, 12, 13, 14, 15, 16, 17, 18, 19, 20, 21, 22, 23, 24, 25, 26, 27, 28, 29, 30, 31, 32] (by decide +kernel) (by decide +kernel)
set_option maxRecDepth 20000 in
theorem gX10_sign_X10_isAt : GoodIn wsX10_sign (wsV RX10 113 RX10 yX10_isAt wsX10_isAt) := goodIn_app (goodIn_of _ (by decide +kernel)) ggX10_sign_X10_isAt
theorem dX10_sign_0 : decode cX10_sign 0 = .ok (.aload_n 0, 1) := by decide +kernel
theorem dX10_sign_1 : decode cX10_sign 1 = .ok (.getfield 109, 3) := by decide +kernel
theorem dX10_sign_4 : decode cX10_sign 4 = .ok (.ifCond .eq 25, 3) := by decide +kernel
theorem dX10_sign_7 : decode cX10_sign 7 = .ok (.aload_n 0, 1) := by decide +kernel
theorem dX10_sign_8 : decode cX10_sign 8 = .ok (.iload_n 1, 1) := by decide +kernel
theorem dX10_sign_9 : decode cX10_sign 9 = .ok (.iload_n 1, 1) := by decide +kernel
theorem dX10_sign_10 : decode cX10_sign 10 = .ok (.invokevirtual 113, 3) := by decide +kernel
theorem dX10_sign_13 : decode cX10_sign 13 = .ok (.ifCond .eq 16, 3) := by decide +kernel
theorem dX10_sign_16 : decode cX10_sign 16 = .ok (.aload_n 0, 1) := by decide +kernel
theorem dX10_sign_17 : decode cX10_sign 17 = .ok (.dup, 1) := by decide +kernel
theorem dX10_sign_18 : decode cX10_sign 18 = .ok (.getfield 103, 3) := by decide +kernel
theorem dX10_sign_21 : decode cX10_sign 21 = .ok (.iconst 1, 1) := by decide +kernel
theorem dX10_sign_22 : decode cX10_sign 22 = .ok (.iadd, 1) := by decide +kernel
theorem dX10_sign_23 : decode cX10_sign 23 = .ok (.putfield 103, 3) := by decide +kernel
theorem dX10_sign_26 : decode cX10_sign 26 = .ok (.goto 8, 3) := by decide +kernel
theorem dX10_sign_29 : decode cX10_sign 29 = .ok (.aload_n 0, 1) := by decide +kernel
theorem dX10_sign_30 : decode cX10_sign 30 = .ok (.iconst 0, 1) := by decide +kernel
theorem dX10_sign_31 : decode cX10_sign 31 = .ok (.putfield 109, 3) := by decide +kernel
theorem dX10_sign_34 : decode cX10_sign 34 = .ok (.return_, 1) := by decide +kernel
theorem dX10_put_0 : decode cX10_put 0 = .ok (.aload_n 0, 1) := by decide +kernel
theorem dX10_put_1 : decode cX10_put 1 = .ok (.getfield 20, 3) := by decide +kernel
theorem dX10_put_4 : decode cX10_put 4 = .ok (.aload_n 0, 1) := by decide +kernel
theorem dX10_put_5 : decode cX10_put 5 = .ok (.getfield 117, 3) := by decide +kernel
theorem dX10_put_8 : decode cX10_put 8 = .ok (.iload_n 1, 1) := by decide +kernel
theorem dX10_put_9 : decode cX10_put 9 = .ok (.iastore, 1) := by decide +kernel
theorem dX10_put_10 : decode cX10_put 10 = .ok (.aload_n 0, 1) := by decide +kernel
theorem dX10_put_11 : decode cX10_put 11 = .ok (.getfield 23, 3) := by decide +kernel
theorem dX10_put_14 : decode cX10_put 14 = .ok (.aload_n 0, 1) := by decide +kernel
theorem dX10_put_15 : decode cX10_put 15 = .ok (.getfield 117, 3) := by decide +kernel
theorem dX10_put_18 : decode cX10_put 18 = .ok (.iload_n 2, 1) := by decide +kernel
theorem dX10_put_19 : decode cX10_put 19 = .ok (.iastore, 1) := by decide +kernel
theorem dX10_put_20 : decode cX10_put 20 = .ok (.aload_n 0, 1) := by decide +kernel
theorem dX10_put_21 : decode cX10_put 21 = .ok (.dup, 1) := by decide +kernel
theorem dX10_put_22 : decode cX10_put 22 = .ok (.getfield 117, 3) := by decide +kernel
theorem dX10_put_25 : decode cX10_put 25 = .ok (.iconst 1, 1) := by decide +kernel
theorem dX10_put_26 : decode cX10_put 26 = .ok (.iadd, 1) := by decide +kernel
theorem dX10_put_27 : decode cX10_put 27 = .ok (.putfield 117, 3) := by decide +kernel
theorem dX10_put_30 : decode cX10_put 30 = .ok (.aload_n 0, 1) := by decide +kernel
theorem dX10_put_31 : decode cX10_put 31 = .ok (.dup, 1) := by decide +kernel
theorem dX10_put_32 : decode cX10_put 32 = .ok (.getfield 120, 3) := by decide +kernel
theorem dX10_put_35 : decode cX10_put 35 = .ok (.iload_n 1, 1) := by decide +kernel
theorem dX10_put_36 : decode cX10_put 36 = .ok (.isub, 1) := by decide +kernel
theorem dX10_put_37 : decode cX10_put 37 = .ok (.putfield 120, 3) := by decide +kernel
theorem dX10_put_40 : decode cX10_put 40 = .ok (.aload_n 0, 1) := by decide +kernel
theorem dX10_put_41 : decode cX10_put 41 = .ok (.dup, 1) := by decide +kernel
theorem dX10_put_42 : decode cX10_put 42 = .ok (.getfield 123, 3) := by decide +kernel
theorem dX10_put_45 : decode cX10_put 45 = .ok (.iload_n 2, 1) := by decide +kernel
theorem dX10_put_46 : decode cX10_put 46 = .ok (.isub, 1) := by decide +kernel
theorem dX10_put_47 : decode cX10_put 47 = .ok (.putfield 123, 3) := by decide +kernel
theorem dX10_put_50 : decode cX10_put 50 = .ok (.return_, 1) := by decide +kernel
