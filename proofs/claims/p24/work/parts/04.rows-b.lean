set_option maxRecDepth 20000 in
theorem ggX4_readItem_X4_use : GoodIn wsX4_readItem wsX4_use := goodIn_r _ [56, 57, 58, 59, 60, 61, 5, 62, 8, 36, 37, 38, 39, 35, 86, 87, 88, 80, 81, 82, 83, 84, 85] (by decide +kernel) (by decide +kernel)
set_option maxRecDepth 20000 in
theorem gX4_readItem_X4_use : GoodIn wsX4_readItem (wsV RX4 83 RX4 yX4_use wsX4_use) := goodIn_app (goodIn_of _ (by decide +kernel)) ggX4_readItem_X4_use
set_option maxRecDepth 20000 in
theorem ggX4_readItem_X1_append : GoodIn wsX4_readItem wsX1_append := goodIn_r _ [68, 69, 70, 71, 72, 67, 73, 74, 75, 76, 77, 78, 79, 89, 90, 91] (by decide +kernel) (by decide +kernel)
set_option maxRecDepth 20000 in
theorem gX4_readItem_X1_append : GoodIn wsX4_readItem (wsV RX4 87 RX1 yX1_append wsX1_append) := goodIn_app (goodIn_of _ (by decide +kernel)) ggX4_readItem_X1_append
theorem dX4_readItem_0 : decode cX4_readItem 0 = .ok (.aload_n 1, 1) := by decide +kernel
theorem dX4_readItem_1 : decode cX4_readItem 1 = .ok (.invokevirtual 69, 3) := by decide +kernel
theorem dX4_readItem_4 : decode cX4_readItem 4 = .ok (.aload_n 1, 1) := by decide +kernel
theorem dX4_readItem_5 : decode cX4_readItem 5 = .ok (.getfield 72, 3) := by decide +kernel
theorem dX4_readItem_8 : decode cX4_readItem 8 = .ok (.istore_n 2, 1) := by decide +kernel
theorem dX4_readItem_9 : decode cX4_readItem 9 = .ok (.aload_n 1, 1) := by decide +kernel
theorem dX4_readItem_10 : decode cX4_readItem 10 = .ok (.invokevirtual 75, 3) := by decide +kernel
theorem dX4_readItem_13 : decode cX4_readItem 13 = .ok (.lookupswitch 112 #[(43, 76), (60, 54), (61, 43), (62, 65)], 43) := by decide +kernel
theorem dX4_readItem_56 : decode cX4_readItem 56 = .ok (.aload_n 0, 1) := by decide +kernel
theorem dX4_readItem_57 : decode cX4_readItem 57 = .ok (.aload_n 1, 1) := by decide +kernel
theorem dX4_readItem_58 : decode cX4_readItem 58 = .ok (.iload_n 2, 1) := by decide +kernel
theorem dX4_readItem_59 : decode cX4_readItem 59 = .ok (.iconst 1, 1) := by decide +kernel
theorem dX4_readItem_60 : decode cX4_readItem 60 = .ok (.iconst 1, 1) := by decide +kernel
theorem dX4_readItem_61 : decode cX4_readItem 61 = .ok (.invokevirtual 79, 3) := by decide +kernel
theorem dX4_readItem_64 : decode cX4_readItem 64 = .ok (.goto 61, 3) := by decide +kernel
theorem dX4_readItem_67 : decode cX4_readItem 67 = .ok (.aload_n 0, 1) := by decide +kernel
theorem dX4_readItem_68 : decode cX4_readItem 68 = .ok (.aload_n 1, 1) := by decide +kernel
theorem dX4_readItem_69 : decode cX4_readItem 69 = .ok (.iload_n 2, 1) := by decide +kernel
theorem dX4_readItem_70 : decode cX4_readItem 70 = .ok (.iconst 1, 1) := by decide +kernel
theorem dX4_readItem_71 : decode cX4_readItem 71 = .ok (.iconst 0, 1) := by decide +kernel
theorem dX4_readItem_72 : decode cX4_readItem 72 = .ok (.invokevirtual 79, 3) := by decide +kernel
theorem dX4_readItem_75 : decode cX4_readItem 75 = .ok (.goto 50, 3) := by decide +kernel
theorem dX4_readItem_78 : decode cX4_readItem 78 = .ok (.aload_n 0, 1) := by decide +kernel
theorem dX4_readItem_79 : decode cX4_readItem 79 = .ok (.aload_n 1, 1) := by decide +kernel
theorem dX4_readItem_80 : decode cX4_readItem 80 = .ok (.iload_n 2, 1) := by decide +kernel
theorem dX4_readItem_81 : decode cX4_readItem 81 = .ok (.iconst 0, 1) := by decide +kernel
theorem dX4_readItem_82 : decode cX4_readItem 82 = .ok (.iconst 1, 1) := by decide +kernel
theorem dX4_readItem_83 : decode cX4_readItem 83 = .ok (.invokevirtual 79, 3) := by decide +kernel
theorem dX4_readItem_86 : decode cX4_readItem 86 = .ok (.goto 39, 3) := by decide +kernel
theorem dX4_readItem_89 : decode cX4_readItem 89 = .ok (.aload_n 0, 1) := by decide +kernel
theorem dX4_readItem_90 : decode cX4_readItem 90 = .ok (.aload_n 1, 1) := by decide +kernel
theorem dX4_readItem_91 : decode cX4_readItem 91 = .ok (.iload_n 2, 1) := by decide +kernel
theorem dX4_readItem_92 : decode cX4_readItem 92 = .ok (.iconst 0, 1) := by decide +kernel
theorem dX4_readItem_93 : decode cX4_readItem 93 = .ok (.invokevirtual 83, 3) := by decide +kernel
theorem dX4_readItem_96 : decode cX4_readItem 96 = .ok (.aload_n 1, 1) := by decide +kernel
theorem dX4_readItem_97 : decode cX4_readItem 97 = .ok (.invokevirtual 69, 3) := by decide +kernel
theorem dX4_readItem_100 : decode cX4_readItem 100 = .ok (.aload_n 0, 1) := by decide +kernel
theorem dX4_readItem_101 : decode cX4_readItem 101 = .ok (.aload_n 1, 1) := by decide +kernel
theorem dX4_readItem_102 : decode cX4_readItem 102 = .ok (.iconst 0, 1) := by decide +kernel
theorem dX4_readItem_103 : decode cX4_readItem 103 = .ok (.aload_n 1, 1) := by decide +kernel
theorem dX4_readItem_104 : decode cX4_readItem 104 = .ok (.getfield 72, 3) := by decide +kernel
theorem dX4_readItem_107 : decode cX4_readItem 107 = .ok (.invokevirtual 83, 3) := by decide +kernel
theorem dX4_readItem_110 : decode cX4_readItem 110 = .ok (.aload_n 0, 1) := by decide +kernel
theorem dX4_readItem_111 : decode cX4_readItem 111 = .ok (.getfield 12, 3) := by decide +kernel
theorem dX4_readItem_114 : decode cX4_readItem 114 = .ok (.iload_n 2, 1) := by decide +kernel
theorem dX4_readItem_115 : decode cX4_readItem 115 = .ok (.aload_n 1, 1) := by decide +kernel
theorem dX4_readItem_116 : decode cX4_readItem 116 = .ok (.getfield 72, 3) := by decide +kernel
theorem dX4_readItem_119 : decode cX4_readItem 119 = .ok (.invokevirtual 87, 3) := by decide +kernel
theorem dX4_readItem_122 : decode cX4_readItem 122 = .ok (.goto 3, 3) := by decide +kernel
theorem dX4_readItem_125 : decode cX4_readItem 125 = .ok (.return_, 1) := by decide +kernel
set_option maxRecDepth 20000 in
theorem ggX4_addGroups_X4_use : GoodIn wsX4_addGroups wsX4_use := goodIn_r _ [6, 7, 8, 9, 10, 11, 12, 13, 14, 15, 16, 17, 18, 19, 40, 41, 42, 43, 44, 45, 46, 47, 48] (by decide +kernel) (by decide +kernel)
set_option maxRecDepth 20000 in
theorem gX4_addGroups_X4_use : GoodIn wsX4_addGroups (wsV RX4 83 RX4 yX4_use wsX4_use) := goodIn_app (goodIn_of _ (by decide +kernel)) ggX4_addGroups_X4_use
set_option maxRecDepth 20000 in
theorem ggX4_addGroups_X8_hasFault : GoodIn wsX4_addGroups wsX8_hasFault := goodIn_r _ [23, 19, 43, 44, 45, 46, 47, 48] (by decide +kernel) (by decide +kernel)
set_option maxRecDepth 20000 in
theorem gX4_addGroups_X8_hasFault : GoodIn wsX4_addGroups (wsV RX4 91 RX8 yX8_hasFault wsX8_hasFault) := goodIn_app (goodIn_of _ (by decide +kernel)) ggX4_addGroups_X8_hasFault
set_option maxRecDepth 20000 in
theorem ggX4_addGroups_X1_append : GoodIn wsX4_addGroups wsX1_append := goodIn_r _ [28, 29, 30, 31, 32, 27, 33, 34, 35, 36, 37, 38, 39, 49, 50, 51] (by decide +kernel) (by decide +kernel)
set_option maxRecDepth 20000 in
theorem gX4_addGroups_X1_append : GoodIn wsX4_addGroups (wsV RX4 87 RX1 yX1_append wsX1_append) := goodIn_app (goodIn_of _ (by decide +kernel)) ggX4_addGroups_X1_append
theorem dX4_addGroups_0 : decode cX4_addGroups 0 = .ok (.aload_n 0, 1) := by decide +kernel
theorem dX4_addGroups_1 : decode cX4_addGroups 1 = .ok (.aload_n 1, 1) := by decide +kernel
theorem dX4_addGroups_2 : decode cX4_addGroups 2 = .ok (.iload_n 2, 1) := by decide +kernel
theorem dX4_addGroups_3 : decode cX4_addGroups 3 = .ok (.iload_n 3, 1) := by decide +kernel
theorem dX4_addGroups_4 : decode cX4_addGroups 4 = .ok (.imul, 1) := by decide +kernel
theorem dX4_addGroups_5 : decode cX4_addGroups 5 = .ok (.iload_n 2, 1) := by decide +kernel
theorem dX4_addGroups_6 : decode cX4_addGroups 6 = .ok (.iload 4, 2) := by decide +kernel
theorem dX4_addGroups_8 : decode cX4_addGroups 8 = .ok (.imul, 1) := by decide +kernel
theorem dX4_addGroups_9 : decode cX4_addGroups 9 = .ok (.invokevirtual 83, 3) := by decide +kernel
theorem dX4_addGroups_12 : decode cX4_addGroups 12 = .ok (.iconst 0, 1) := by decide +kernel
theorem dX4_addGroups_13 : decode cX4_addGroups 13 = .ok (.istore 5, 2) := by decide +kernel
theorem dX4_addGroups_15 : decode cX4_addGroups 15 = .ok (.iload 5, 2) := by decide +kernel
theorem dX4_addGroups_17 : decode cX4_addGroups 17 = .ok (.iload_n 2, 1) := by decide +kernel
theorem dX4_addGroups_18 : decode cX4_addGroups 18 = .ok (.if_icmp .ge 26, 3) := by decide +kernel
theorem dX4_addGroups_21 : decode cX4_addGroups 21 = .ok (.aload_n 1, 1) := by decide +kernel
theorem dX4_addGroups_22 : decode cX4_addGroups 22 = .ok (.invokevirtual 91, 3) := by decide +kernel
theorem dX4_addGroups_25 : decode cX4_addGroups 25 = .ok (.ifCond .ne 19, 3) := by decide +kernel
theorem dX4_addGroups_28 : decode cX4_addGroups 28 = .ok (.aload_n 0, 1) := by decide +kernel
theorem dX4_addGroups_29 : decode cX4_addGroups 29 = .ok (.getfield 12, 3) := by decide +kernel
theorem dX4_addGroups_32 : decode cX4_addGroups 32 = .ok (.iload_n 3, 1) := by decide +kernel
theorem dX4_addGroups_33 : decode cX4_addGroups 33 = .ok (.iload 4, 2) := by decide +kernel
theorem dX4_addGroups_35 : decode cX4_addGroups 35 = .ok (.invokevirtual 87, 3) := by decide +kernel
theorem dX4_addGroups_38 : decode cX4_addGroups 38 = .ok (.iinc 5 1, 3) := by decide +kernel
theorem dX4_addGroups_41 : decode cX4_addGroups 41 = .ok (.goto (-26), 3) := by decide +kernel
theorem dX4_addGroups_44 : decode cX4_addGroups 44 = .ok (.return_, 1) := by decide +kernel
set_option maxRecDepth 20000 in
theorem ggX4_use_X8_failAtNumber : GoodIn wsX4_use wsX8_failAtNumber := goodIn_r _ [7, 8, 9, 10, 11, 6, 12, 13, 17, 18, 19, 20, 21, 22] (by decide +kernel) (by decide +kernel)
set_option maxRecDepth 20000 in
theorem gX4_use_X8_failAtNumber : GoodIn wsX4_use (wsV RX4 94 RX8 yX8_failAtNumber wsX8_failAtNumber) := goodIn_app (goodIn_of _ (by decide +kernel)) ggX4_use_X8_failAtNumber
theorem dX4_use_0 : decode cX4_use 0 = .ok (.iload_n 2, 1) := by decide +kernel
theorem dX4_use_1 : decode cX4_use 1 = .ok (.aload_n 0, 1) := by decide +kernel
theorem dX4_use_2 : decode cX4_use 2 = .ok (.getfield 38, 3) := by decide +kernel
theorem dX4_use_5 : decode cX4_use 5 = .ok (.if_icmp .gt 11, 3) := by decide +kernel
theorem dX4_use_8 : decode cX4_use 8 = .ok (.iload_n 3, 1) := by decide +kernel
theorem dX4_use_9 : decode cX4_use 9 = .ok (.aload_n 0, 1) := by decide +kernel
theorem dX4_use_10 : decode cX4_use 10 = .ok (.getfield 44, 3) := by decide +kernel
theorem dX4_use_13 : decode cX4_use 13 = .ok (.if_icmp .le 8, 3) := by decide +kernel
theorem dX4_use_16 : decode cX4_use 16 = .ok (.aload_n 1, 1) := by decide +kernel
theorem dX4_use_17 : decode cX4_use 17 = .ok (.invokevirtual 94, 3) := by decide +kernel
theorem dX4_use_20 : decode cX4_use 20 = .ok (.return_, 1) := by decide +kernel
theorem dX4_use_21 : decode cX4_use 21 = .ok (.aload_n 0, 1) := by decide +kernel
theorem dX4_use_22 : decode cX4_use 22 = .ok (.dup, 1) := by decide +kernel
theorem dX4_use_23 : decode cX4_use 23 = .ok (.getfield 38, 3) := by decide +kernel
theorem dX4_use_26 : decode cX4_use 26 = .ok (.iload_n 2, 1) := by decide +kernel
theorem dX4_use_27 : decode cX4_use 27 = .ok (.isub, 1) := by decide +kernel
theorem dX4_use_28 : decode cX4_use 28 = .ok (.putfield 38, 3) := by decide +kernel
theorem dX4_use_31 : decode cX4_use 31 = .ok (.aload_n 0, 1) := by decide +kernel
theorem dX4_use_32 : decode cX4_use 32 = .ok (.dup, 1) := by decide +kernel
theorem dX4_use_33 : decode cX4_use 33 = .ok (.getfield 44, 3) := by decide +kernel
theorem dX4_use_36 : decode cX4_use 36 = .ok (.iload_n 3, 1) := by decide +kernel
theorem dX4_use_37 : decode cX4_use 37 = .ok (.isub, 1) := by decide +kernel
theorem dX4_use_38 : decode cX4_use 38 = .ok (.putfield 44, 3) := by decide +kernel
theorem dX4_use_41 : decode cX4_use 41 = .ok (.return_, 1) := by decide +kernel
theorem dX5_init_0 : decode cX5_init 0 = .ok (.aload_n 0, 1) := by decide +kernel
theorem dX5_init_1 : decode cX5_init 1 = .ok (.invokespecial 3, 3) := by decide +kernel
theorem dX5_init_4 : decode cX5_init 4 = .ok (.return_, 1) := by decide +kernel
set_option maxRecDepth 20000 in
theorem ggX5_measure_X1_sizeOf : GoodIn wsX5_measure wsX1_sizeOf := goodIn_r _ [12, 13, 14, 15, 16, 17, 11, 18, 19, 20, 21, 22, 37, 38, 39] (by decide +kernel) (by decide +kernel)
set_option maxRecDepth 20000 in
theorem gX5_measure_X1_sizeOf : GoodIn wsX5_measure (wsV RX5 36 RX1 yX1_sizeOf wsX1_sizeOf) := goodIn_app (goodIn_of _ (by decide +kernel)) ggX5_measure_X1_sizeOf
set_option maxRecDepth 20000 in
theorem ggX5_measure_X9_otherBook : GoodIn wsX5_measure wsX9_otherBook := goodIn_r _ [24] (by decide +kernel) (by decide +kernel)
set_option maxRecDepth 20000 in
theorem gX5_measure_X9_otherBook_n40 : GoodIn wsX5_measure (wsX9_otherBook) := ggX5_measure_X9_otherBook
set_option maxRecDepth 20000 in
theorem ggX5_measure_X5_takeOther : GoodIn wsX5_measure wsX5_takeOther := goodIn_r _ [29, 6, 4, 5, 30, 31, 32, 33, 34, 35, 36] (by decide +kernel) (by decide +kernel)
set_option maxRecDepth 20000 in
theorem gX5_measure_X5_takeOther : GoodIn wsX5_measure (wsV RX5 44 RX5 yX5_takeOther wsX5_takeOther) := goodIn_app (goodIn_of _ (by decide +kernel)) ggX5_measure_X5_takeOther
theorem dX5_measure_0 : decode cX5_measure 0 = .ok (.aload_n 0, 1) := by decide +kernel
theorem dX5_measure_1 : decode cX5_measure 1 = .ok (.iload_n 3, 1) := by decide +kernel
theorem dX5_measure_2 : decode cX5_measure 2 = .ok (.putfield 9, 3) := by decide +kernel
theorem dX5_measure_5 : decode cX5_measure 5 = .ok (.aload_n 0, 1) := by decide +kernel
theorem dX5_measure_6 : decode cX5_measure 6 = .ok (.iload 4, 2) := by decide +kernel
theorem dX5_measure_8 : decode cX5_measure 8 = .ok (.putfield 15, 3) := by decide +kernel
theorem dX5_measure_11 : decode cX5_measure 11 = .ok (.aload_n 0, 1) := by decide +kernel
theorem dX5_measure_12 : decode cX5_measure 12 = .ok (.iconst 0, 1) := by decide +kernel
theorem dX5_measure_13 : decode cX5_measure 13 = .ok (.putfield 18, 3) := by decide +kernel
theorem dX5_measure_16 : decode cX5_measure 16 = .ok (.aload_n 0, 1) := by decide +kernel
theorem dX5_measure_17 : decode cX5_measure 17 = .ok (.bipush (-5), 2) := by decide +kernel
theorem dX5_measure_19 : decode cX5_measure 19 = .ok (.putfield 21, 3) := by decide +kernel
theorem dX5_measure_22 : decode cX5_measure 22 = .ok (.aload_n 0, 1) := by decide +kernel
theorem dX5_measure_23 : decode cX5_measure 23 = .ok (.bipush (-5), 2) := by decide +kernel
theorem dX5_measure_25 : decode cX5_measure 25 = .ok (.putfield 24, 3) := by decide +kernel
theorem dX5_measure_28 : decode cX5_measure 28 = .ok (.aload_n 0, 1) := by decide +kernel
theorem dX5_measure_29 : decode cX5_measure 29 = .ok (.iconst 0, 1) := by decide +kernel
theorem dX5_measure_30 : decode cX5_measure 30 = .ok (.putfield 27, 3) := by decide +kernel
theorem dX5_measure_33 : decode cX5_measure 33 = .ok (.aload_n 0, 1) := by decide +kernel
theorem dX5_measure_34 : decode cX5_measure 34 = .ok (.iconst 0, 1) := by decide +kernel
theorem dX5_measure_35 : decode cX5_measure 35 = .ok (.putfield 30, 3) := by decide +kernel
theorem dX5_measure_38 : decode cX5_measure 38 = .ok (.iconst 0, 1) := by decide +kernel
theorem dX5_measure_39 : decode cX5_measure 39 = .ok (.istore 5, 2) := by decide +kernel
theorem dX5_measure_41 : decode cX5_measure 41 = .ok (.iconst 0, 1) := by decide +kernel
theorem dX5_measure_42 : decode cX5_measure 42 = .ok (.istore 6, 2) := by decide +kernel
theorem dX5_measure_44 : decode cX5_measure 44 = .ok (.iconst 0, 1) := by decide +kernel
theorem dX5_measure_45 : decode cX5_measure 45 = .ok (.istore 7, 2) := by decide +kernel
theorem dX5_measure_47 : decode cX5_measure 47 = .ok (.iload 7, 2) := by decide +kernel
theorem dX5_measure_49 : decode cX5_measure 49 = .ok (.aload_n 1, 1) := by decide +kernel
theorem dX5_measure_50 : decode cX5_measure 50 = .ok (.getfield 33, 3) := by decide +kernel
theorem dX5_measure_53 : decode cX5_measure 53 = .ok (.if_icmp .ge 96, 3) := by decide +kernel
theorem dX5_measure_56 : decode cX5_measure 56 = .ok (.iload 5, 2) := by decide +kernel
theorem dX5_measure_58 : decode cX5_measure 58 = .ok (.aload_n 1, 1) := by decide +kernel
theorem dX5_measure_59 : decode cX5_measure 59 = .ok (.iload 7, 2) := by decide +kernel
theorem dX5_measure_61 : decode cX5_measure 61 = .ok (.iload_n 2, 1) := by decide +kernel
theorem dX5_measure_62 : decode cX5_measure 62 = .ok (.invokevirtual 36, 3) := by decide +kernel
theorem dX5_measure_65 : decode cX5_measure 65 = .ok (.iadd, 1) := by decide +kernel
theorem dX5_measure_66 : decode cX5_measure 66 = .ok (.istore 8, 2) := by decide +kernel
theorem dX5_measure_68 : decode cX5_measure 68 = .ok (.iload 6, 2) := by decide +kernel
theorem dX5_measure_70 : decode cX5_measure 70 = .ok (.aload_n 1, 1) := by decide +kernel
theorem dX5_measure_71 : decode cX5_measure 71 = .ok (.iload 7, 2) := by decide +kernel
theorem dX5_measure_73 : decode cX5_measure 73 = .ok (.iload_n 2, 1) := by decide +kernel
theorem dX5_measure_74 : decode cX5_measure 74 = .ok (.invokestatic 40, 3) := by decide +kernel
theorem dX5_measure_77 : decode cX5_measure 77 = .ok (.invokevirtual 36, 3) := by decide +kernel
theorem dX5_measure_80 : decode cX5_measure 80 = .ok (.iadd, 1) := by decide +kernel
theorem dX5_measure_81 : decode cX5_measure 81 = .ok (.istore 9, 2) := by decide +kernel
theorem dX5_measure_83 : decode cX5_measure 83 = .ok (.iload 5, 2) := by decide +kernel
theorem dX5_measure_85 : decode cX5_measure 85 = .ok (.iload 8, 2) := by decide +kernel
theorem dX5_measure_87 : decode cX5_measure 87 = .ok (.if_icmp .ge 48, 3) := by decide +kernel
theorem dX5_measure_90 : decode cX5_measure 90 = .ok (.iload 5, 2) := by decide +kernel
theorem dX5_measure_92 : decode cX5_measure 92 = .ok (.iload 4, 2) := by decide +kernel
theorem dX5_measure_94 : decode cX5_measure 94 = .ok (.if_icmp .gt 41, 3) := by decide +kernel
theorem dX5_measure_97 : decode cX5_measure 97 = .ok (.iload 8, 2) := by decide +kernel
theorem dX5_measure_99 : decode cX5_measure 99 = .ok (.iload_n 3, 1) := by decide +kernel
theorem dX5_measure_100 : decode cX5_measure 100 = .ok (.if_icmp .le 35, 3) := by decide +kernel
theorem dX5_measure_103 : decode cX5_measure 103 = .ok (.aload_n 0, 1) := by decide +kernel
theorem dX5_measure_104 : decode cX5_measure 104 = .ok (.dup, 1) := by decide +kernel
theorem dX5_measure_105 : decode cX5_measure 105 = .ok (.getfield 18, 3) := by decide +kernel
theorem dX5_measure_108 : decode cX5_measure 108 = .ok (.iconst 1, 1) := by decide +kernel
theorem dX5_measure_109 : decode cX5_measure 109 = .ok (.iadd, 1) := by decide +kernel
theorem dX5_measure_110 : decode cX5_measure 110 = .ok (.putfield 18, 3) := by decide +kernel
theorem dX5_measure_113 : decode cX5_measure 113 = .ok (.aload_n 0, 1) := by decide +kernel
theorem dX5_measure_114 : decode cX5_measure 114 = .ok (.dup, 1) := by decide +kernel
theorem dX5_measure_115 : decode cX5_measure 115 = .ok (.getfield 30, 3) := by decide +kernel
theorem dX5_measure_118 : decode cX5_measure 118 = .ok (.iload 8, 2) := by decide +kernel
theorem dX5_measure_120 : decode cX5_measure 120 = .ok (.iload 5, 2) := by decide +kernel
theorem dX5_measure_122 : decode cX5_measure 122 = .ok (.isub, 1) := by decide +kernel
theorem dX5_measure_123 : decode cX5_measure 123 = .ok (.iadd, 1) := by decide +kernel
theorem dX5_measure_124 : decode cX5_measure 124 = .ok (.putfield 30, 3) := by decide +kernel
theorem dX5_measure_127 : decode cX5_measure 127 = .ok (.aload_n 0, 1) := by decide +kernel
theorem dX5_measure_128 : decode cX5_measure 128 = .ok (.iload 6, 2) := by decide +kernel
theorem dX5_measure_130 : decode cX5_measure 130 = .ok (.iload 9, 2) := by decide +kernel
theorem dX5_measure_132 : decode cX5_measure 132 = .ok (.invokevirtual 44, 3) := by decide +kernel
theorem dX5_measure_135 : decode cX5_measure 135 = .ok (.iload 8, 2) := by decide +kernel
theorem dX5_measure_137 : decode cX5_measure 137 = .ok (.istore 5, 2) := by decide +kernel
theorem dX5_measure_139 : decode cX5_measure 139 = .ok (.iload 9, 2) := by decide +kernel
theorem dX5_measure_141 : decode cX5_measure 141 = .ok (.istore 6, 2) := by decide +kernel
theorem dX5_measure_143 : decode cX5_measure 143 = .ok (.iinc 7 1, 3) := by decide +kernel
theorem dX5_measure_146 : decode cX5_measure 146 = .ok (.goto (-99), 3) := by decide +kernel
theorem dX5_measure_149 : decode cX5_measure 149 = .ok (.return_, 1) := by decide +kernel
theorem dX5_takeOther_0 : decode cX5_takeOther 0 = .ok (.iload_n 1, 1) := by decide +kernel
theorem dX5_takeOther_1 : decode cX5_takeOther 1 = .ok (.iload_n 2, 1) := by decide +kernel
theorem dX5_takeOther_2 : decode cX5_takeOther 2 = .ok (.if_icmp .ne 4, 3) := by decide +kernel
theorem dX5_takeOther_5 : decode cX5_takeOther 5 = .ok (.return_, 1) := by decide +kernel
theorem dX5_takeOther_6 : decode cX5_takeOther 6 = .ok (.aload_n 0, 1) := by decide +kernel
theorem dX5_takeOther_7 : decode cX5_takeOther 7 = .ok (.getfield 27, 3) := by decide +kernel
theorem dX5_takeOther_10 : decode cX5_takeOther 10 = .ok (.ifCond .ne 8, 3) := by decide +kernel
theorem dX5_takeOther_13 : decode cX5_takeOther 13 = .ok (.aload_n 0, 1) := by decide +kernel
theorem dX5_takeOther_14 : decode cX5_takeOther 14 = .ok (.iload_n 1, 1) := by decide +kernel
theorem dX5_takeOther_15 : decode cX5_takeOther 15 = .ok (.putfield 21, 3) := by decide +kernel
theorem dX5_takeOther_18 : decode cX5_takeOther 18 = .ok (.aload_n 0, 1) := by decide +kernel
theorem dX5_takeOther_19 : decode cX5_takeOther 19 = .ok (.iload_n 2, 1) := by decide +kernel
theorem dX5_takeOther_20 : decode cX5_takeOther 20 = .ok (.iconst 1, 1) := by decide +kernel
theorem dX5_takeOther_21 : decode cX5_takeOther 21 = .ok (.isub, 1) := by decide +kernel
theorem dX5_takeOther_22 : decode cX5_takeOther 22 = .ok (.putfield 24, 3) := by decide +kernel
theorem dX5_takeOther_25 : decode cX5_takeOther 25 = .ok (.aload_n 0, 1) := by decide +kernel
theorem dX5_takeOther_26 : decode cX5_takeOther 26 = .ok (.dup, 1) := by decide +kernel
theorem dX5_takeOther_27 : decode cX5_takeOther 27 = .ok (.getfield 27, 3) := by decide +kernel
theorem dX5_takeOther_30 : decode cX5_takeOther 30 = .ok (.iload_n 2, 1) := by decide +kernel
theorem dX5_takeOther_31 : decode cX5_takeOther 31 = .ok (.iload_n 1, 1) := by decide +kernel
theorem dX5_takeOther_32 : decode cX5_takeOther 32 = .ok (.isub, 1) := by decide +kernel
theorem dX5_takeOther_33 : decode cX5_takeOther 33 = .ok (.iadd, 1) := by decide +kernel
theorem dX5_takeOther_34 : decode cX5_takeOther 34 = .ok (.putfield 27, 3) := by decide +kernel
theorem dX5_takeOther_37 : decode cX5_takeOther 37 = .ok (.return_, 1) := by decide +kernel
theorem dX5_property_0 : decode cX5_property 0 = .ok (.iload_n 1, 1) := by decide +kernel
theorem dX5_property_1 : decode cX5_property 1 = .ok (.tableswitch 69 0 5 #[39, 44, 49, 54, 59, 64], 39) := by decide +kernel
theorem dX5_property_40 : decode cX5_property 40 = .ok (.aload_n 0, 1) := by decide +kernel
theorem dX5_property_41 : decode cX5_property 41 = .ok (.getfield 9, 3) := by decide +kernel
theorem dX5_property_44 : decode cX5_property 44 = .ok (.ireturn, 1) := by decide +kernel
theorem dX5_property_45 : decode cX5_property 45 = .ok (.aload_n 0, 1) := by decide +kernel
theorem dX5_property_46 : decode cX5_property 46 = .ok (.getfield 15, 3) := by decide +kernel
theorem dX5_property_49 : decode cX5_property 49 = .ok (.ireturn, 1) := by decide +kernel
theorem dX5_property_50 : decode cX5_property 50 = .ok (.aload_n 0, 1) := by decide +kernel
theorem dX5_property_51 : decode cX5_property 51 = .ok (.getfield 21, 3) := by decide +kernel
theorem dX5_property_54 : decode cX5_property 54 = .ok (.ireturn, 1) := by decide +kernel
theorem dX5_property_55 : decode cX5_property 55 = .ok (.aload_n 0, 1) := by decide +kernel
theorem dX5_property_56 : decode cX5_property 56 = .ok (.getfield 24, 3) := by decide +kernel
theorem dX5_property_59 : decode cX5_property 59 = .ok (.ireturn, 1) := by decide +kernel
theorem dX5_property_60 : decode cX5_property 60 = .ok (.aload_n 0, 1) := by decide +kernel
theorem dX5_property_61 : decode cX5_property 61 = .ok (.getfield 18, 3) := by decide +kernel
theorem dX5_property_64 : decode cX5_property 64 = .ok (.ireturn, 1) := by decide +kernel
theorem dX5_property_65 : decode cX5_property 65 = .ok (.aload_n 0, 1) := by decide +kernel
theorem dX5_property_66 : decode cX5_property 66 = .ok (.getfield 27, 3) := by decide +kernel
theorem dX5_property_69 : decode cX5_property 69 = .ok (.ireturn, 1) := by decide +kernel
theorem dX5_property_70 : decode cX5_property 70 = .ok (.aload_n 0, 1) := by decide +kernel
theorem dX5_property_71 : decode cX5_property 71 = .ok (.getfield 30, 3) := by decide +kernel
theorem dX5_property_74 : decode cX5_property 74 = .ok (.aload_n 0, 1) := by decide +kernel
theorem dX5_property_75 : decode cX5_property 75 = .ok (.getfield 15, 3) := by decide +kernel
theorem dX5_property_78 : decode cX5_property 78 = .ok (.aload_n 0, 1) := by decide +kernel
theorem dX5_property_79 : decode cX5_property 79 = .ok (.getfield 9, 3) := by decide +kernel
theorem dX5_property_82 : decode cX5_property 82 = .ok (.isub, 1) := by decide +kernel
theorem dX5_property_83 : decode cX5_property 83 = .ok (.iconst 1, 1) := by decide +kernel
theorem dX5_property_84 : decode cX5_property 84 = .ok (.iadd, 1) := by decide +kernel
theorem dX5_property_85 : decode cX5_property 85 = .ok (.if_icmp .ne 7, 3) := by decide +kernel
theorem dX5_property_88 : decode cX5_property 88 = .ok (.iconst 1, 1) := by decide +kernel
theorem dX5_property_89 : decode cX5_property 89 = .ok (.goto 4, 3) := by decide +kernel
theorem dX5_property_92 : decode cX5_property 92 = .ok (.iconst 0, 1) := by decide +kernel
theorem dX5_property_93 : decode cX5_property 93 = .ok (.ireturn, 1) := by decide +kernel
theorem dX6_init_0 : decode cX6_init 0 = .ok (.aload_n 0, 1) := by decide +kernel
theorem dX6_init_1 : decode cX6_init 1 = .ok (.invokespecial 1, 3) := by decide +kernel
theorem dX6_init_4 : decode cX6_init 4 = .ok (.return_, 1) := by decide +kernel
set_option maxRecDepth 20000 in
theorem ggX6_read_X8_restart : GoodIn wsX6_read wsX8_restart := goodIn_r _ [7, 8, 9, 10, 11, 104, 105, 106, 107, 108, 109] (by decide +kernel) (by decide +kernel)
set_option maxRecDepth 20000 in
theorem gX6_read_X8_restart : GoodIn wsX6_read (wsV RX6 7 RX8 yX8_restart wsX8_restart) := goodIn_app (goodIn_of _ (by decide +kernel)) ggX6_read_X8_restart
set_option maxRecDepth 20000 in
theorem ggX6_read_X8_readNumber : GoodIn wsX6_read wsX8_readNumber := goodIn_r _ [15, 8, 11, 10, 16, 17, 18, 6, 19, 20, 21, 22, 23, 24, 25, 26, 27, 28, 29, 30, 31, 32, 33, 34, 35, 36, 37, 38, 39, 40, 9, 41, 42, 43, 44, 45, 46, 47, 48, 104, 105, 106, 107, 108, 109] (by decide +kernel) (by decide +kernel)
set_option maxRecDepth 20000 in
theorem gX6_read_X8_readNumber : GoodIn wsX6_read (wsV RX6 12 RX8 yX8_readNumber wsX8_readNumber) := goodIn_app (goodIn_of _ (by decide +kernel)) ggX6_read_X8_readNumber
set_option maxRecDepth 20000 in
theorem ggX6_read_X6_lookAtChapter : GoodIn wsX6_read wsX6_lookAtChapter := goodIn_r _ [53, 54, 55, 56, 57, 58, 59, 60, 61, 62, 63, 64, 65, 66, 67, 68, 69, 27, 70, 26, 28, 71, 72, 73, 6, 74, 11, 41, 42, 43, 44, 9, 104, 105, 106, 107, 108, 109, 110, 111, 112, 113] (by decide +kernel) (by decide +kernel)
set_option maxRecDepth 20000 in
theorem gX6_read_X6_lookAtChapter : GoodIn wsX6_read (wsV RX6 15 RX6 yX6_lookAtChapter wsX6_lookAtChapter) := goodIn_app (goodIn_of _ (by decide +kernel)) ggX6_read_X6_lookAtChapter
set_option maxRecDepth 20000 in
theorem ggX6_read_X8_skip : GoodIn wsX6_read wsX8_skip := goodIn_r _ [78, 8, 29, 30, 31, 6, 32, 33, 34, 35, 36, 24, 37, 38, 39, 40, 9, 20, 21, 22, 23, 25, 41, 42, 43, 44, 104, 105, 106, 107, 108, 109] (by decide +kernel) (by decide +kernel)
set_option maxRecDepth 20000 in
theorem gX6_read_X8_skip : GoodIn wsX6_read (wsV RX6 21 RX8 yX8_skip wsX8_skip) := goodIn_app (goodIn_of _ (by decide +kernel)) ggX6_read_X8_skip
set_option maxRecDepth 20000 in
theorem ggX6_read_X6_lookAtVerse : GoodIn wsX6_read wsX6_lookAtVerse := goodIn_r _ [82, 83, 84, 85, 57, 86, 87, 88, 89, 90, 59, 64, 69, 27, 70, 26, 28, 91, 92, 93, 94, 71, 72, 73, 6, 74, 11, 41, 42, 43, 44, 9, 104, 105, 106, 107, 108, 109, 110, 111, 112, 113] (by decide +kernel) (by decide +kernel)
set_option maxRecDepth 20000 in
theorem gX6_read_X6_lookAtVerse : GoodIn wsX6_read (wsV RX6 25 RX6 yX6_lookAtVerse wsX6_lookAtVerse) := goodIn_app (goodIn_of _ (by decide +kernel)) ggX6_read_X6_lookAtVerse
set_option maxRecDepth 20000 in
theorem ggX6_read_X8_goesOn : GoodIn wsX6_read wsX8_goesOn := goodIn_r _ [36, 8, 24, 37, 38, 39, 6, 40, 9, 104, 105, 106, 107, 108, 109] (by decide +kernel) (by decide +kernel)
set_option maxRecDepth 20000 in
theorem gX6_read_X8_goesOn : GoodIn wsX6_read (wsV RX6 36 RX8 yX8_goesOn wsX8_goesOn) := goodIn_app (goodIn_of _ (by decide +kernel)) ggX6_read_X8_goesOn
set_option maxRecDepth 20000 in
theorem ggX6_read_X6_readLast : GoodIn wsX6_read wsX6_readLast := goodIn_r _ [99, 1, 2, 12, 13, 14, 6, 15, 8, 11, 10, 16, 17, 18, 19, 20, 21, 22, 23, 24, 25, 26, 27, 28, 29, 30, 31, 32, 33, 34, 35, 36, 37, 38, 39, 40, 9, 41, 42, 43, 44, 45, 46, 47, 48, 100, 49, 50, 51, 52, 53, 54, 55, 56, 57, 58, 59, 60, 61, 62, 63, 64, 65, 66, 67, 68, 69, 70, 71, 72, 73, 74, 75, 76, 77, 78, 79, 80, 81, 82, 83, 84, 85, 86, 87, 88, 89, 90, 91, 92, 93, 94, 102, 103, 104, 105, 106, 107, 108, 109, 110, 111, 112, 113] (by decide +kernel) (by decide +kernel)
set_option maxRecDepth 20000 in
theorem gX6_read_X6_readLast : GoodIn wsX6_read (wsV RX6 40 RX6 yX6_readLast wsX6_readLast) := goodIn_app (goodIn_of _ (by decide +kernel)) ggX6_read_X6_readLast
set_option maxRecDepth 20000 in
theorem ggX6_read_X8_failAt : GoodIn wsX6_read wsX8_failAt := goodIn_r _ [44, 9, 104, 105, 106, 107, 108, 109] (by decide +kernel) (by decide +kernel)
set_option maxRecDepth 20000 in
theorem gX6_read_X8_failAt : GoodIn wsX6_read (wsV RX6 47 RX8 yX8_failAt wsX8_failAt) := goodIn_app (goodIn_of _ (by decide +kernel)) ggX6_read_X8_failAt
theorem dX6_read_0 : decode cX6_read 0 = .ok (.aload_n 1, 1) := by decide +kernel
theorem dX6_read_1 : decode cX6_read 1 = .ok (.invokevirtual 7, 3) := by decide +kernel
theorem dX6_read_4 : decode cX6_read 4 = .ok (.aload_n 1, 1) := by decide +kernel
theorem dX6_read_5 : decode cX6_read 5 = .ok (.invokevirtual 12, 3) := by decide +kernel
theorem dX6_read_8 : decode cX6_read 8 = .ok (.aload_n 0, 1) := by decide +kernel
theorem dX6_read_9 : decode cX6_read 9 = .ok (.aload_n 1, 1) := by decide +kernel
theorem dX6_read_10 : decode cX6_read 10 = .ok (.aload_n 2, 1) := by decide +kernel
theorem dX6_read_11 : decode cX6_read 11 = .ok (.iconst 1, 1) := by decide +kernel
theorem dX6_read_12 : decode cX6_read 12 = .ok (.invokevirtual 15, 3) := by decide +kernel
theorem dX6_read_15 : decode cX6_read 15 = .ok (.istore_n 3, 1) := by decide +kernel
theorem dX6_read_16 : decode cX6_read 16 = .ok (.aload_n 1, 1) := by decide +kernel
theorem dX6_read_17 : decode cX6_read 17 = .ok (.bipush 58, 2) := by decide +kernel
theorem dX6_read_19 : decode cX6_read 19 = .ok (.invokevirtual 21, 3) := by decide +kernel
theorem dX6_read_22 : decode cX6_read 22 = .ok (.aload_n 1, 1) := by decide +kernel
theorem dX6_read_23 : decode cX6_read 23 = .ok (.invokevirtual 12, 3) := by decide +kernel
theorem dX6_read_26 : decode cX6_read 26 = .ok (.aload_n 0, 1) := by decide +kernel
theorem dX6_read_27 : decode cX6_read 27 = .ok (.aload_n 0, 1) := by decide +kernel
theorem dX6_read_28 : decode cX6_read 28 = .ok (.aload_n 1, 1) := by decide +kernel
theorem dX6_read_29 : decode cX6_read 29 = .ok (.aload_n 2, 1) := by decide +kernel
theorem dX6_read_30 : decode cX6_read 30 = .ok (.iload_n 3, 1) := by decide +kernel
theorem dX6_read_31 : decode cX6_read 31 = .ok (.iconst 0, 1) := by decide +kernel
theorem dX6_read_32 : decode cX6_read 32 = .ok (.invokevirtual 25, 3) := by decide +kernel
theorem dX6_read_35 : decode cX6_read 35 = .ok (.putfield 29, 3) := by decide +kernel
theorem dX6_read_38 : decode cX6_read 38 = .ok (.aload_n 0, 1) := by decide +kernel
theorem dX6_read_39 : decode cX6_read 39 = .ok (.aload_n 0, 1) := by decide +kernel
theorem dX6_read_40 : decode cX6_read 40 = .ok (.getfield 29, 3) := by decide +kernel
theorem dX6_read_43 : decode cX6_read 43 = .ok (.putfield 33, 3) := by decide +kernel
theorem dX6_read_46 : decode cX6_read 46 = .ok (.aload_n 1, 1) := by decide +kernel
theorem dX6_read_47 : decode cX6_read 47 = .ok (.invokevirtual 36, 3) := by decide +kernel
theorem dX6_read_50 : decode cX6_read 50 = .ok (.ifCond .eq 16, 3) := by decide +kernel
theorem dX6_read_53 : decode cX6_read 53 = .ok (.aload_n 1, 1) := by decide +kernel
theorem dX6_read_54 : decode cX6_read 54 = .ok (.bipush 45, 2) := by decide +kernel
theorem dX6_read_56 : decode cX6_read 56 = .ok (.invokevirtual 21, 3) := by decide +kernel
theorem dX6_read_59 : decode cX6_read 59 = .ok (.aload_n 0, 1) := by decide +kernel
theorem dX6_read_60 : decode cX6_read 60 = .ok (.aload_n 1, 1) := by decide +kernel
theorem dX6_read_61 : decode cX6_read 61 = .ok (.aload_n 2, 1) := by decide +kernel
theorem dX6_read_62 : decode cX6_read 62 = .ok (.iload_n 3, 1) := by decide +kernel
theorem dX6_read_63 : decode cX6_read 63 = .ok (.invokevirtual 40, 3) := by decide +kernel
theorem dX6_read_66 : decode cX6_read 66 = .ok (.aload_n 1, 1) := by decide +kernel
theorem dX6_read_67 : decode cX6_read 67 = .ok (.invokevirtual 36, 3) := by decide +kernel
theorem dX6_read_70 : decode cX6_read 70 = .ok (.ifCond .eq 11, 3) := by decide +kernel
theorem dX6_read_73 : decode cX6_read 73 = .ok (.aload_n 1, 1) := by decide +kernel
theorem dX6_read_74 : decode cX6_read 74 = .ok (.aload_n 1, 1) := by decide +kernel
theorem dX6_read_75 : decode cX6_read 75 = .ok (.getfield 44, 3) := by decide +kernel
theorem dX6_read_78 : decode cX6_read 78 = .ok (.invokevirtual 47, 3) := by decide +kernel
theorem dX6_read_81 : decode cX6_read 81 = .ok (.aload_n 1, 1) := by decide +kernel
theorem dX6_read_82 : decode cX6_read 82 = .ok (.getfield 51, 3) := by decide +kernel
theorem dX6_read_85 : decode cX6_read 85 = .ok (.ireturn, 1) := by decide +kernel
set_option maxRecDepth 20000 in
theorem ggX6_readLast_X8_readNumber : GoodIn wsX6_readLast wsX8_readNumber := goodIn_r _ [7, 8, 9, 10, 11, 12, 13, 6, 14, 15, 16, 17, 18, 19, 20, 21, 22, 23, 24, 25, 26, 27, 28, 29, 30, 31, 32, 33, 34, 35, 36, 37, 38, 39, 40, 41, 42, 43, 44, 94, 95, 96, 97, 98, 99] (by decide +kernel) (by decide +kernel)
set_option maxRecDepth 20000 in
theorem gX6_readLast_X8_readNumber : GoodIn wsX6_readLast (wsV RX6 12 RX8 yX8_readNumber wsX8_readNumber) := goodIn_app (goodIn_of _ (by decide +kernel)) ggX6_readLast_X8_readNumber
set_option maxRecDepth 20000 in
theorem ggX6_readLast_X8_stands : GoodIn wsX6_readLast wsX8_stands := goodIn_r _ [27, 8, 28, 29, 30, 6, 31, 19, 32, 33, 34, 35, 36, 15, 16, 17, 18, 20, 94, 95, 96, 97, 98, 99] (by decide +kernel) (by decide +kernel)
set_option maxRecDepth 20000 in
theorem gX6_readLast_X8_stands : GoodIn wsX6_readLast (wsV RX6 54 RX8 yX8_stands wsX8_stands) := goodIn_app (goodIn_of _ (by decide +kernel)) ggX6_readLast_X8_stands
set_option maxRecDepth 20000 in
theorem ggX6_readLast_X6_lookAtChapter : GoodIn wsX6_readLast wsX6_lookAtChapter := goodIn_r _ [50, 51, 52, 53, 54, 55, 56, 57, 58, 59, 60, 61, 62, 63, 64, 65, 66, 22, 67, 21, 23, 68, 69, 70, 6, 71, 9, 37, 38, 39, 40, 36, 94, 95, 96, 97, 98, 99, 100, 101, 102, 103] (by decide +kernel) (by decide +kernel)
set_option maxRecDepth 20000 in
theorem gX6_readLast_X6_lookAtChapter : GoodIn wsX6_readLast (wsV RX6 15 RX6 yX6_lookAtChapter wsX6_lookAtChapter) := goodIn_app (goodIn_of _ (by decide +kernel)) ggX6_readLast_X6_lookAtChapter
set_option maxRecDepth 20000 in
theorem ggX6_readLast_X8_skip : GoodIn wsX6_readLast wsX8_skip := goodIn_r _ [75, 8, 24, 25, 26, 6, 27, 28, 29, 30, 31, 19, 32, 33, 34, 35, 36, 15, 16, 17, 18, 20, 37, 38, 39, 40, 94, 95, 96, 97, 98, 99] (by decide +kernel) (by decide +kernel)
set_option maxRecDepth 20000 in
theorem gX6_readLast_X8_skip : GoodIn wsX6_readLast (wsV RX6 21 RX8 yX8_skip wsX8_skip) := goodIn_app (goodIn_of _ (by decide +kernel)) ggX6_readLast_X8_skip
set_option maxRecDepth 20000 in
theorem ggX6_readLast_X6_lookAtVerse : GoodIn wsX6_readLast wsX6_lookAtVerse := goodIn_r _ [79, 80, 81, 82, 54, 83, 84, 85, 86, 87, 56, 61, 66, 22, 67, 21, 23, 88, 89, 90, 91, 68, 69, 70, 6, 71, 9, 37, 38, 39, 40, 36, 94, 95, 96, 97, 98, 99, 100, 101, 102, 103] (by decide +kernel) (by decide +kernel)
set_option maxRecDepth 20000 in
theorem gX6_readLast_X6_lookAtVerse : GoodIn wsX6_readLast (wsV RX6 25 RX6 yX6_lookAtVerse wsX6_lookAtVerse) := goodIn_app (goodIn_of _ (by decide +kernel)) ggX6_readLast_X6_lookAtVerse
theorem dX6_readLast_0 : decode cX6_readLast 0 = .ok (.aload_n 1, 1) := by decide +kernel
theorem dX6_readLast_1 : decode cX6_readLast 1 = .ok (.invokevirtual 12, 3) := by decide +kernel
theorem dX6_readLast_4 : decode cX6_readLast 4 = .ok (.iload_n 3, 1) := by decide +kernel
theorem dX6_readLast_5 : decode cX6_readLast 5 = .ok (.istore 4, 2) := by decide +kernel
theorem dX6_readLast_7 : decode cX6_readLast 7 = .ok (.aload_n 1, 1) := by decide +kernel
theorem dX6_readLast_8 : decode cX6_readLast 8 = .ok (.bipush 58, 2) := by decide +kernel
theorem dX6_readLast_10 : decode cX6_readLast 10 = .ok (.invokevirtual 54, 3) := by decide +kernel
theorem dX6_readLast_13 : decode cX6_readLast 13 = .ok (.ifCond .eq 22, 3) := by decide +kernel
theorem dX6_readLast_16 : decode cX6_readLast 16 = .ok (.aload_n 0, 1) := by decide +kernel
theorem dX6_readLast_17 : decode cX6_readLast 17 = .ok (.aload_n 1, 1) := by decide +kernel
theorem dX6_readLast_18 : decode cX6_readLast 18 = .ok (.aload_n 2, 1) := by decide +kernel
theorem dX6_readLast_19 : decode cX6_readLast 19 = .ok (.iload_n 3, 1) := by decide +kernel
theorem dX6_readLast_20 : decode cX6_readLast 20 = .ok (.invokevirtual 15, 3) := by decide +kernel
theorem dX6_readLast_23 : decode cX6_readLast 23 = .ok (.istore 4, 2) := by decide +kernel
theorem dX6_readLast_25 : decode cX6_readLast 25 = .ok (.aload_n 1, 1) := by decide +kernel
theorem dX6_readLast_26 : decode cX6_readLast 26 = .ok (.bipush 58, 2) := by decide +kernel
theorem dX6_readLast_28 : decode cX6_readLast 28 = .ok (.invokevirtual 21, 3) := by decide +kernel
theorem dX6_readLast_31 : decode cX6_readLast 31 = .ok (.aload_n 1, 1) := by decide +kernel
theorem dX6_readLast_32 : decode cX6_readLast 32 = .ok (.invokevirtual 12, 3) := by decide +kernel
theorem dX6_readLast_35 : decode cX6_readLast 35 = .ok (.aload_n 0, 1) := by decide +kernel
theorem dX6_readLast_36 : decode cX6_readLast 36 = .ok (.aload_n 0, 1) := by decide +kernel
theorem dX6_readLast_37 : decode cX6_readLast 37 = .ok (.aload_n 1, 1) := by decide +kernel
theorem dX6_readLast_38 : decode cX6_readLast 38 = .ok (.aload_n 2, 1) := by decide +kernel
theorem dX6_readLast_39 : decode cX6_readLast 39 = .ok (.iload 4, 2) := by decide +kernel
theorem dX6_readLast_41 : decode cX6_readLast 41 = .ok (.aload_n 0, 1) := by decide +kernel
theorem dX6_readLast_42 : decode cX6_readLast 42 = .ok (.getfield 29, 3) := by decide +kernel
theorem dX6_readLast_45 : decode cX6_readLast 45 = .ok (.invokevirtual 25, 3) := by decide +kernel
theorem dX6_readLast_48 : decode cX6_readLast 48 = .ok (.putfield 33, 3) := by decide +kernel
theorem dX6_readLast_51 : decode cX6_readLast 51 = .ok (.return_, 1) := by decide +kernel
set_option maxRecDepth 20000 in
theorem ggX6_lookAtChapter_X0_chapterTotal : GoodIn wsX6_lookAtChapter wsX0_chapterTotal := goodIn_r _ [5, 6, 7, 8, 9, 4, 10, 11, 12, 13, 14, 15, 16, 17, 18, 38, 39, 40, 41] (by decide +kernel) (by decide +kernel)
set_option maxRecDepth 20000 in
theorem gX6_lookAtChapter_X0_chapterTotal : GoodIn wsX6_lookAtChapter (wsV RX6 61 RX0 yX0_chapterTotal wsX0_chapterTotal) := goodIn_app (goodIn_of _ (by decide +kernel)) ggX6_lookAtChapter_X0_chapterTotal
set_option maxRecDepth 20000 in
theorem ggX6_lookAtChapter_X9_isWithin : GoodIn wsX6_lookAtChapter wsX9_isWithin := goodIn_r _ [20] (by decide +kernel) (by decide +kernel)
set_option maxRecDepth 20000 in
theorem gX6_lookAtChapter_X9_isWithin_n67 : GoodIn wsX6_lookAtChapter (wsX9_isWithin) := ggX6_lookAtChapter_X9_isWithin
set_option maxRecDepth 20000 in
theorem ggX6_lookAtChapter_X8_failAtNumber : GoodIn wsX6_lookAtChapter wsX8_failAtNumber := goodIn_r _ [25, 26, 27, 28, 29, 24, 30, 31, 32, 33, 34, 35, 36, 37] (by decide +kernel) (by decide +kernel)
set_option maxRecDepth 20000 in
theorem gX6_lookAtChapter_X8_failAtNumber : GoodIn wsX6_lookAtChapter (wsV RX6 73 RX8 yX8_failAtNumber wsX8_failAtNumber) := goodIn_app (goodIn_of _ (by decide +kernel)) ggX6_lookAtChapter_X8_failAtNumber
theorem dX6_lookAtChapter_0 : decode cX6_lookAtChapter 0 = .ok (.aload_n 1, 1) := by decide +kernel
theorem dX6_lookAtChapter_1 : decode cX6_lookAtChapter 1 = .ok (.getfield 58, 3) := by decide +kernel
theorem dX6_lookAtChapter_4 : decode cX6_lookAtChapter 4 = .ok (.iload_n 3, 1) := by decide +kernel
theorem dX6_lookAtChapter_5 : decode cX6_lookAtChapter 5 = .ok (.aload_n 2, 1) := by decide +kernel
theorem dX6_lookAtChapter_6 : decode cX6_lookAtChapter 6 = .ok (.invokevirtual 61, 3) := by decide +kernel
theorem dX6_lookAtChapter_9 : decode cX6_lookAtChapter 9 = .ok (.invokestatic 67, 3) := by decide +kernel
theorem dX6_lookAtChapter_12 : decode cX6_lookAtChapter 12 = .ok (.ifCond .ne 7, 3) := by decide +kernel
theorem dX6_lookAtChapter_15 : decode cX6_lookAtChapter 15 = .ok (.aload_n 1, 1) := by decide +kernel
theorem dX6_lookAtChapter_16 : decode cX6_lookAtChapter 16 = .ok (.invokevirtual 73, 3) := by decide +kernel
theorem dX6_lookAtChapter_19 : decode cX6_lookAtChapter 19 = .ok (.aload_n 1, 1) := by decide +kernel
theorem dX6_lookAtChapter_20 : decode cX6_lookAtChapter 20 = .ok (.getfield 58, 3) := by decide +kernel
theorem dX6_lookAtChapter_23 : decode cX6_lookAtChapter 23 = .ok (.ireturn, 1) := by decide +kernel
set_option maxRecDepth 20000 in
theorem ggX6_lookAtVerse_X0_find : GoodIn wsX6_lookAtVerse wsX0_find := goodIn_r _ [5, 6, 7, 8, 4, 9, 10, 11, 12, 13, 14, 15, 16, 17, 18, 19, 20, 38, 39, 40, 41] (by decide +kernel) (by decide +kernel)
set_option maxRecDepth 20000 in
theorem gX6_lookAtVerse_X0_find : GoodIn wsX6_lookAtVerse (wsV RX6 76 RX0 yX0_find wsX0_find) := goodIn_app (goodIn_of _ (by decide +kernel)) ggX6_lookAtVerse_X0_find
set_option maxRecDepth 20000 in
theorem ggX6_lookAtVerse_X8_failAtNumber : GoodIn wsX6_lookAtVerse wsX8_failAtNumber := goodIn_r _ [25, 26, 27, 28, 29, 24, 30, 31, 32, 33, 34, 35, 36, 37] (by decide +kernel) (by decide +kernel)
set_option maxRecDepth 20000 in
theorem gX6_lookAtVerse_X8_failAtNumber : GoodIn wsX6_lookAtVerse (wsV RX6 73 RX8 yX8_failAtNumber wsX8_failAtNumber) := goodIn_app (goodIn_of _ (by decide +kernel)) ggX6_lookAtVerse_X8_failAtNumber
theorem dX6_lookAtVerse_0 : decode cX6_lookAtVerse 0 = .ok (.aload_n 2, 1) := by decide +kernel
theorem dX6_lookAtVerse_1 : decode cX6_lookAtVerse 1 = .ok (.iload_n 3, 1) := by decide +kernel
theorem dX6_lookAtVerse_2 : decode cX6_lookAtVerse 2 = .ok (.aload_n 1, 1) := by decide +kernel
theorem dX6_lookAtVerse_3 : decode cX6_lookAtVerse 3 = .ok (.getfield 58, 3) := by decide +kernel
theorem dX6_lookAtVerse_6 : decode cX6_lookAtVerse 6 = .ok (.invokevirtual 76, 3) := by decide +kernel
theorem dX6_lookAtVerse_9 : decode cX6_lookAtVerse 9 = .ok (.istore 5, 2) := by decide +kernel
theorem dX6_lookAtVerse_11 : decode cX6_lookAtVerse 11 = .ok (.iload 5, 2) := by decide +kernel
theorem dX6_lookAtVerse_13 : decode cX6_lookAtVerse 13 = .ok (.iload 4, 2) := by decide +kernel
theorem dX6_lookAtVerse_15 : decode cX6_lookAtVerse 15 = .ok (.if_icmp .ge 7, 3) := by decide +kernel
theorem dX6_lookAtVerse_18 : decode cX6_lookAtVerse 18 = .ok (.aload_n 1, 1) := by decide +kernel
theorem dX6_lookAtVerse_19 : decode cX6_lookAtVerse 19 = .ok (.invokevirtual 73, 3) := by decide +kernel
theorem dX6_lookAtVerse_22 : decode cX6_lookAtVerse 22 = .ok (.iload 5, 2) := by decide +kernel
theorem dX6_lookAtVerse_24 : decode cX6_lookAtVerse 24 = .ok (.ireturn, 1) := by decide +kernel
set_option maxRecDepth 20000 in
theorem ggX7_init_X0_init : GoodIn wsX7_init wsX0_init := goodIn_r _ [14, 15, 2, 3, 16, 17, 18, 19, 25, 26, 27, 28] (by decide +kernel) (by decide +kernel)
set_option maxRecDepth 20000 in
theorem gX7_init_X0_init_n11 : GoodIn wsX7_init (wsX0_init) := ggX7_init_X0_init
set_option maxRecDepth 20000 in
theorem ggX7_init_X1_init : GoodIn wsX7_init wsX1_init := goodIn_r _ [21, 22, 2, 3, 16, 23, 24, 32, 33, 34] (by decide +kernel) (by decide +kernel)
set_option maxRecDepth 20000 in
theorem gX7_init_X1_init_n23 : GoodIn wsX7_init (wsX1_init) := ggX7_init_X1_init
theorem dX7_init_0 : decode cX7_init 0 = .ok (.aload_n 0, 1) := by decide +kernel
theorem dX7_init_1 : decode cX7_init 1 = .ok (.invokespecial 3, 3) := by decide +kernel
theorem dX7_init_4 : decode cX7_init 4 = .ok (.aload_n 0, 1) := by decide +kernel
theorem dX7_init_5 : decode cX7_init 5 = .ok (.new 9, 3) := by decide +kernel
theorem dX7_init_8 : decode cX7_init 8 = .ok (.dup, 1) := by decide +kernel
theorem dX7_init_9 : decode cX7_init 9 = .ok (.invokespecial 11, 3) := by decide +kernel
theorem dX7_init_12 : decode cX7_init 12 = .ok (.putfield 12, 3) := by decide +kernel
theorem dX7_init_15 : decode cX7_init 15 = .ok (.aload_n 0, 1) := by decide +kernel
theorem dX7_init_16 : decode cX7_init 16 = .ok (.new 9, 3) := by decide +kernel
theorem dX7_init_19 : decode cX7_init 19 = .ok (.dup, 1) := by decide +kernel
theorem dX7_init_20 : decode cX7_init 20 = .ok (.invokespecial 11, 3) := by decide +kernel
theorem dX7_init_23 : decode cX7_init 23 = .ok (.putfield 18, 3) := by decide +kernel
theorem dX7_init_26 : decode cX7_init 26 = .ok (.aload_n 0, 1) := by decide +kernel
theorem dX7_init_27 : decode cX7_init 27 = .ok (.new 21, 3) := by decide +kernel
theorem dX7_init_30 : decode cX7_init 30 = .ok (.dup, 1) := by decide +kernel
theorem dX7_init_31 : decode cX7_init 31 = .ok (.invokespecial 23, 3) := by decide +kernel
theorem dX7_init_34 : decode cX7_init 34 = .ok (.putfield 24, 3) := by decide +kernel
theorem dX7_init_37 : decode cX7_init 37 = .ok (.return_, 1) := by decide +kernel
theorem dX7_bookOf_0 : decode cX7_bookOf 0 = .ok (.iload_n 1, 1) := by decide +kernel
theorem dX7_bookOf_1 : decode cX7_bookOf 1 = .ok (.ifCond .ne 10, 3) := by decide +kernel
theorem dX7_bookOf_4 : decode cX7_bookOf 4 = .ok (.aload_n 0, 1) := by decide +kernel
theorem dX7_bookOf_5 : decode cX7_bookOf 5 = .ok (.getfield 12, 3) := by decide +kernel
theorem dX7_bookOf_8 : decode cX7_bookOf 8 = .ok (.goto 7, 3) := by decide +kernel
theorem dX7_bookOf_11 : decode cX7_bookOf 11 = .ok (.aload_n 0, 1) := by decide +kernel
theorem dX7_bookOf_12 : decode cX7_bookOf 12 = .ok (.getfield 18, 3) := by decide +kernel
theorem dX7_bookOf_15 : decode cX7_bookOf 15 = .ok (.areturn, 1) := by decide +kernel
set_option maxRecDepth 20000 in
theorem ggX7_copyFrom_X0_copyFrom : GoodIn wsX7_copyFrom wsX0_copyFrom := goodIn_r _ [8, 9, 10, 11, 12, 13, 14, 15, 16, 17, 18, 19, 20, 21, 22, 23, 35, 36, 37, 38] (by decide +kernel) (by decide +kernel)
set_option maxRecDepth 20000 in
theorem gX7_copyFrom_X0_copyFrom : GoodIn wsX7_copyFrom (wsV RX7 28 RX0 yX0_copyFrom wsX0_copyFrom) := goodIn_app (goodIn_of _ (by decide +kernel)) ggX7_copyFrom_X0_copyFrom
set_option maxRecDepth 20000 in
theorem ggX7_copyFrom_X1_copyFrom : GoodIn wsX7_copyFrom wsX1_copyFrom := goodIn_r _ [28, 29, 30, 31, 13, 14, 15, 16, 17, 18, 19, 20, 21, 22, 23, 39, 40, 41] (by decide +kernel) (by decide +kernel)
set_option maxRecDepth 20000 in
theorem gX7_copyFrom_X1_copyFrom : GoodIn wsX7_copyFrom (wsV RX7 32 RX1 yX1_copyFrom wsX1_copyFrom) := goodIn_app (goodIn_of _ (by decide +kernel)) ggX7_copyFrom_X1_copyFrom
theorem dX7_copyFrom_0 : decode cX7_copyFrom 0 = .ok (.aload_n 0, 1) := by decide +kernel
theorem dX7_copyFrom_1 : decode cX7_copyFrom 1 = .ok (.getfield 12, 3) := by decide +kernel
theorem dX7_copyFrom_4 : decode cX7_copyFrom 4 = .ok (.aload_n 1, 1) := by decide +kernel
theorem dX7_copyFrom_5 : decode cX7_copyFrom 5 = .ok (.getfield 12, 3) := by decide +kernel
theorem dX7_copyFrom_8 : decode cX7_copyFrom 8 = .ok (.invokevirtual 28, 3) := by decide +kernel
theorem dX7_copyFrom_11 : decode cX7_copyFrom 11 = .ok (.aload_n 0, 1) := by decide +kernel
theorem dX7_copyFrom_12 : decode cX7_copyFrom 12 = .ok (.getfield 18, 3) := by decide +kernel
theorem dX7_copyFrom_15 : decode cX7_copyFrom 15 = .ok (.aload_n 1, 1) := by decide +kernel
theorem dX7_copyFrom_16 : decode cX7_copyFrom 16 = .ok (.getfield 18, 3) := by decide +kernel
theorem dX7_copyFrom_19 : decode cX7_copyFrom 19 = .ok (.invokevirtual 28, 3) := by decide +kernel
theorem dX7_copyFrom_22 : decode cX7_copyFrom 22 = .ok (.aload_n 0, 1) := by decide +kernel
theorem dX7_copyFrom_23 : decode cX7_copyFrom 23 = .ok (.getfield 24, 3) := by decide +kernel
theorem dX7_copyFrom_26 : decode cX7_copyFrom 26 = .ok (.aload_n 1, 1) := by decide +kernel
theorem dX7_copyFrom_27 : decode cX7_copyFrom 27 = .ok (.getfield 24, 3) := by decide +kernel
theorem dX7_copyFrom_30 : decode cX7_copyFrom 30 = .ok (.invokevirtual 32, 3) := by decide +kernel
theorem dX7_copyFrom_33 : decode cX7_copyFrom 33 = .ok (.return_, 1) := by decide +kernel
set_option maxRecDepth 20000 in
theorem ggX7_swapBooks_X1_swapBooks : GoodIn wsX7_swapBooks wsX1_swapBooks := goodIn_r _ [8, 9, 10, 14, 15, 16] (by decide +kernel) (by decide +kernel)
set_option maxRecDepth 20000 in
theorem gX7_swapBooks_X1_swapBooks : GoodIn wsX7_swapBooks (wsV RX7 35 RX1 yX1_swapBooks wsX1_swapBooks) := goodIn_app (goodIn_of _ (by decide +kernel)) ggX7_swapBooks_X1_swapBooks
theorem dX7_swapBooks_0 : decode cX7_swapBooks 0 = .ok (.aload_n 0, 1) := by decide +kernel
theorem dX7_swapBooks_1 : decode cX7_swapBooks 1 = .ok (.getfield 12, 3) := by decide +kernel
theorem dX7_swapBooks_4 : decode cX7_swapBooks 4 = .ok (.astore_n 1, 1) := by decide +kernel
theorem dX7_swapBooks_5 : decode cX7_swapBooks 5 = .ok (.aload_n 0, 1) := by decide +kernel
theorem dX7_swapBooks_6 : decode cX7_swapBooks 6 = .ok (.aload_n 0, 1) := by decide +kernel
theorem dX7_swapBooks_7 : decode cX7_swapBooks 7 = .ok (.getfield 18, 3) := by decide +kernel
theorem dX7_swapBooks_10 : decode cX7_swapBooks 10 = .ok (.putfield 12, 3) := by decide +kernel
theorem dX7_swapBooks_13 : decode cX7_swapBooks 13 = .ok (.aload_n 0, 1) := by decide +kernel
theorem dX7_swapBooks_14 : decode cX7_swapBooks 14 = .ok (.aload_n 1, 1) := by decide +kernel
theorem dX7_swapBooks_15 : decode cX7_swapBooks 15 = .ok (.putfield 18, 3) := by decide +kernel
theorem dX7_swapBooks_18 : decode cX7_swapBooks 18 = .ok (.aload_n 0, 1) := by decide +kernel
theorem dX7_swapBooks_19 : decode cX7_swapBooks 19 = .ok (.getfield 24, 3) := by decide +kernel
theorem dX7_swapBooks_22 : decode cX7_swapBooks 22 = .ok (.invokevirtual 35, 3) := by decide +kernel
theorem dX7_swapBooks_25 : decode cX7_swapBooks 25 = .ok (.return_, 1) := by decide +kernel
theorem dX8_init_0 : decode cX8_init 0 = .ok (.aload_n 0, 1) := by decide +kernel
theorem dX8_init_1 : decode cX8_init 1 = .ok (.invokespecial 3, 3) := by decide +kernel
theorem dX8_init_4 : decode cX8_init 4 = .ok (.aload_n 0, 1) := by decide +kernel
theorem dX8_init_5 : decode cX8_init 5 = .ok (.bipush 80, 2) := by decide +kernel
theorem dX8_init_7 : decode cX8_init 7 = .ok (.newarray .char, 2) := by decide +kernel
theorem dX8_init_9 : decode cX8_init 9 = .ok (.putfield 9, 3) := by decide +kernel
theorem dX8_init_12 : decode cX8_init 12 = .ok (.return_, 1) := by decide +kernel
set_option maxRecDepth 20000 in
theorem ggX8_append_X9_isWithin : GoodIn wsX8_append wsX9_isWithin := goodIn_r _ [5] (by decide +kernel) (by decide +kernel)
set_option maxRecDepth 20000 in
theorem gX8_append_X9_isWithin_n19 : GoodIn wsX8_append (wsX9_isWithin) := ggX8_append_X9_isWithin
theorem dX8_append_0 : decode cX8_append 0 = .ok (.aload_n 0, 1) := by decide +kernel
theorem dX8_append_1 : decode cX8_append 1 = .ok (.getfield 15, 3) := by decide +kernel
theorem dX8_append_4 : decode cX8_append 4 = .ok (.iconst 0, 1) := by decide +kernel
theorem dX8_append_5 : decode cX8_append 5 = .ok (.bipush 79, 2) := by decide +kernel
theorem dX8_append_7 : decode cX8_append 7 = .ok (.invokestatic 19, 3) := by decide +kernel
theorem dX8_append_10 : decode cX8_append 10 = .ok (.ifCond .ne 5, 3) := by decide +kernel
theorem dX8_append_13 : decode cX8_append 13 = .ok (.iconst 0, 1) := by decide +kernel
theorem dX8_append_14 : decode cX8_append 14 = .ok (.ireturn, 1) := by decide +kernel
theorem dX8_append_15 : decode cX8_append 15 = .ok (.aload_n 0, 1) := by decide +kernel
theorem dX8_append_16 : decode cX8_append 16 = .ok (.getfield 9, 3) := by decide +kernel
theorem dX8_append_19 : decode cX8_append 19 = .ok (.aload_n 0, 1) := by decide +kernel
theorem dX8_append_20 : decode cX8_append 20 = .ok (.getfield 15, 3) := by decide +kernel
theorem dX8_append_23 : decode cX8_append 23 = .ok (.iload_n 1, 1) := by decide +kernel
theorem dX8_append_24 : decode cX8_append 24 = .ok (.castore, 1) := by decide +kernel
theorem dX8_append_25 : decode cX8_append 25 = .ok (.aload_n 0, 1) := by decide +kernel
theorem dX8_append_26 : decode cX8_append 26 = .ok (.dup, 1) := by decide +kernel
theorem dX8_append_27 : decode cX8_append 27 = .ok (.getfield 15, 3) := by decide +kernel
theorem dX8_append_30 : decode cX8_append 30 = .ok (.iconst 1, 1) := by decide +kernel
theorem dX8_append_31 : decode cX8_append 31 = .ok (.iadd, 1) := by decide +kernel
theorem dX8_append_32 : decode cX8_append 32 = .ok (.putfield 15, 3) := by decide +kernel
theorem dX8_append_35 : decode cX8_append 35 = .ok (.iconst 1, 1) := by decide +kernel
theorem dX8_append_36 : decode cX8_append 36 = .ok (.ireturn, 1) := by decide +kernel
theorem dX8_clear_0 : decode cX8_clear 0 = .ok (.aload_n 0, 1) := by decide +kernel
theorem dX8_clear_1 : decode cX8_clear 1 = .ok (.iconst 0, 1) := by decide +kernel
theorem dX8_clear_2 : decode cX8_clear 2 = .ok (.putfield 15, 3) := by decide +kernel
theorem dX8_clear_5 : decode cX8_clear 5 = .ok (.return_, 1) := by decide +kernel
theorem dX8_restart_0 : decode cX8_restart 0 = .ok (.aload_n 0, 1) := by decide +kernel
theorem dX8_restart_1 : decode cX8_restart 1 = .ok (.iconst 0, 1) := by decide +kernel
theorem dX8_restart_2 : decode cX8_restart 2 = .ok (.putfield 23, 3) := by decide +kernel
theorem dX8_restart_5 : decode cX8_restart 5 = .ok (.aload_n 0, 1) := by decide +kernel
theorem dX8_restart_6 : decode cX8_restart 6 = .ok (.iconst (-1), 1) := by decide +kernel
theorem dX8_restart_7 : decode cX8_restart 7 = .ok (.putfield 26, 3) := by decide +kernel
theorem dX8_restart_10 : decode cX8_restart 10 = .ok (.aload_n 0, 1) := by decide +kernel
theorem dX8_restart_11 : decode cX8_restart 11 = .ok (.iconst 0, 1) := by decide +kernel
theorem dX8_restart_12 : decode cX8_restart 12 = .ok (.putfield 29, 3) := by decide +kernel
theorem dX8_restart_15 : decode cX8_restart 15 = .ok (.aload_n 0, 1) := by decide +kernel
theorem dX8_restart_16 : decode cX8_restart 16 = .ok (.iconst 0, 1) := by decide +kernel
theorem dX8_restart_17 : decode cX8_restart 17 = .ok (.putfield 32, 3) := by decide +kernel
theorem dX8_restart_20 : decode cX8_restart 20 = .ok (.return_, 1) := by decide +kernel
theorem dX8_hasFault_0 : decode cX8_hasFault 0 = .ok (.aload_n 0, 1) := by decide +kernel
theorem dX8_hasFault_1 : decode cX8_hasFault 1 = .ok (.getfield 26, 3) := by decide +kernel
theorem dX8_hasFault_4 : decode cX8_hasFault 4 = .ok (.iconst (-1), 1) := by decide +kernel
theorem dX8_hasFault_5 : decode cX8_hasFault 5 = .ok (.if_icmp .eq 7, 3) := by decide +kernel
theorem dX8_hasFault_8 : decode cX8_hasFault 8 = .ok (.iconst 1, 1) := by decide +kernel
theorem dX8_hasFault_9 : decode cX8_hasFault 9 = .ok (.goto 4, 3) := by decide +kernel
theorem dX8_hasFault_12 : decode cX8_hasFault 12 = .ok (.iconst 0, 1) := by decide +kernel
theorem dX8_hasFault_13 : decode cX8_hasFault 13 = .ok (.ireturn, 1) := by decide +kernel
set_option maxRecDepth 20000 in
theorem ggX8_goesOn_X8_hasFault : GoodIn wsX8_goesOn wsX8_hasFault := goodIn_r _ [7, 8, 9, 10, 11, 12, 13, 14] (by decide +kernel) (by decide +kernel)
set_option maxRecDepth 20000 in
theorem gX8_goesOn_X8_hasFault : GoodIn wsX8_goesOn (wsV RX8 35 RX8 yX8_hasFault wsX8_hasFault) := goodIn_app (goodIn_of _ (by decide +kernel)) ggX8_goesOn_X8_hasFault
theorem dX8_goesOn_0 : decode cX8_goesOn 0 = .ok (.aload_n 0, 1) := by decide +kernel
theorem dX8_goesOn_1 : decode cX8_goesOn 1 = .ok (.invokevirtual 35, 3) := by decide +kernel
theorem dX8_goesOn_4 : decode cX8_goesOn 4 = .ok (.ifCond .ne 18, 3) := by decide +kernel
theorem dX8_goesOn_7 : decode cX8_goesOn 7 = .ok (.aload_n 0, 1) := by decide +kernel
theorem dX8_goesOn_8 : decode cX8_goesOn 8 = .ok (.getfield 23, 3) := by decide +kernel
theorem dX8_goesOn_11 : decode cX8_goesOn 11 = .ok (.aload_n 0, 1) := by decide +kernel
theorem dX8_goesOn_12 : decode cX8_goesOn 12 = .ok (.getfield 15, 3) := by decide +kernel
theorem dX8_goesOn_15 : decode cX8_goesOn 15 = .ok (.if_icmp .ge 7, 3) := by decide +kernel
theorem dX8_goesOn_18 : decode cX8_goesOn 18 = .ok (.iconst 1, 1) := by decide +kernel
theorem dX8_goesOn_19 : decode cX8_goesOn 19 = .ok (.goto 4, 3) := by decide +kernel
theorem dX8_goesOn_22 : decode cX8_goesOn 22 = .ok (.iconst 0, 1) := by decide +kernel
theorem dX8_goesOn_23 : decode cX8_goesOn 23 = .ok (.ireturn, 1) := by decide +kernel
set_option maxRecDepth 20000 in
theorem ggX8_stands_X8_goesOn : GoodIn wsX8_stands wsX8_goesOn := goodIn_r _ [6, 1, 7, 8, 9, 10, 5, 11, 12, 18, 19, 20, 21, 22, 23] (by decide +kernel) (by decide +kernel)
set_option maxRecDepth 20000 in
theorem gX8_stands_X8_goesOn : GoodIn wsX8_stands (wsV RX8 39 RX8 yX8_goesOn wsX8_goesOn) := goodIn_app (goodIn_of _ (by decide +kernel)) ggX8_stands_X8_goesOn
set_option maxRecDepth 20000 in
theorem ggX8_stands_X8_signAt : GoodIn wsX8_stands wsX8_signAt := goodIn_r _ [16, 7, 17, 18, 19, 20, 21, 22, 23] (by decide +kernel) (by decide +kernel)
set_option maxRecDepth 20000 in
theorem gX8_stands_X8_signAt : GoodIn wsX8_stands (wsV RX8 42 RX8 yX8_signAt wsX8_signAt) := goodIn_app (goodIn_of _ (by decide +kernel)) ggX8_stands_X8_signAt
theorem dX8_stands_0 : decode cX8_stands 0 = .ok (.aload_n 0, 1) := by decide +kernel
theorem dX8_stands_1 : decode cX8_stands 1 = .ok (.invokevirtual 39, 3) := by decide +kernel
theorem dX8_stands_4 : decode cX8_stands 4 = .ok (.ifCond .eq 19, 3) := by decide +kernel
theorem dX8_stands_7 : decode cX8_stands 7 = .ok (.aload_n 0, 1) := by decide +kernel
theorem dX8_stands_8 : decode cX8_stands 8 = .ok (.aload_n 0, 1) := by decide +kernel
theorem dX8_stands_9 : decode cX8_stands 9 = .ok (.getfield 23, 3) := by decide +kernel
theorem dX8_stands_12 : decode cX8_stands 12 = .ok (.invokevirtual 42, 3) := by decide +kernel
theorem dX8_stands_15 : decode cX8_stands 15 = .ok (.iload_n 1, 1) := by decide +kernel
theorem dX8_stands_16 : decode cX8_stands 16 = .ok (.if_icmp .ne 7, 3) := by decide +kernel
theorem dX8_stands_19 : decode cX8_stands 19 = .ok (.iconst 1, 1) := by decide +kernel
theorem dX8_stands_20 : decode cX8_stands 20 = .ok (.goto 4, 3) := by decide +kernel
theorem dX8_stands_23 : decode cX8_stands 23 = .ok (.iconst 0, 1) := by decide +kernel
theorem dX8_stands_24 : decode cX8_stands 24 = .ok (.ireturn, 1) := by decide +kernel
theorem dX8_failAt_0 : decode cX8_failAt 0 = .ok (.aload_n 0, 1) := by decide +kernel
theorem dX8_failAt_1 : decode cX8_failAt 1 = .ok (.getfield 26, 3) := by decide +kernel
theorem dX8_failAt_4 : decode cX8_failAt 4 = .ok (.iconst (-1), 1) := by decide +kernel
theorem dX8_failAt_5 : decode cX8_failAt 5 = .ok (.if_icmp .ne 8, 3) := by decide +kernel
theorem dX8_failAt_8 : decode cX8_failAt 8 = .ok (.aload_n 0, 1) := by decide +kernel
theorem dX8_failAt_9 : decode cX8_failAt 9 = .ok (.iload_n 1, 1) := by decide +kernel
theorem dX8_failAt_10 : decode cX8_failAt 10 = .ok (.putfield 26, 3) := by decide +kernel
theorem dX8_failAt_13 : decode cX8_failAt 13 = .ok (.return_, 1) := by decide +kernel
set_option maxRecDepth 20000 in
theorem ggX8_failAtNumber_X8_failAt : GoodIn wsX8_failAtNumber wsX8_failAt := goodIn_r _ [6, 7, 8, 9, 10, 11, 12, 13] (by decide +kernel) (by decide +kernel)
set_option maxRecDepth 20000 in
theorem gX8_failAtNumber_X8_failAt : GoodIn wsX8_failAtNumber (wsV RX8 46 RX8 yX8_failAt wsX8_failAt) := goodIn_app (goodIn_of _ (by decide +kernel)) ggX8_failAtNumber_X8_failAt
theorem dX8_failAtNumber_0 : decode cX8_failAtNumber 0 = .ok (.aload_n 0, 1) := by decide +kernel
theorem dX8_failAtNumber_1 : decode cX8_failAtNumber 1 = .ok (.aload_n 0, 1) := by decide +kernel
theorem dX8_failAtNumber_2 : decode cX8_failAtNumber 2 = .ok (.getfield 32, 3) := by decide +kernel
theorem dX8_failAtNumber_5 : decode cX8_failAtNumber 5 = .ok (.invokevirtual 46, 3) := by decide +kernel
theorem dX8_failAtNumber_8 : decode cX8_failAtNumber 8 = .ok (.return_, 1) := by decide +kernel
set_option maxRecDepth 20000 in
theorem ggX8_skip_X8_stands : GoodIn wsX8_skip wsX8_stands := goodIn_r _ [6, 1, 7, 8, 9, 5, 10, 11, 12, 13, 14, 15, 16, 17, 18, 19, 20, 21, 26, 27, 28, 29, 30, 31] (by decide +kernel) (by decide +kernel)
set_option maxRecDepth 20000 in
theorem gX8_skip_X8_stands : GoodIn wsX8_skip (wsV RX8 50 RX8 yX8_stands wsX8_stands) := goodIn_app (goodIn_of _ (by decide +kernel)) ggX8_skip_X8_stands
set_option maxRecDepth 20000 in
theorem ggX8_skip_X8_failAt : GoodIn wsX8_skip wsX8_failAt := goodIn_r _ [25, 16, 26, 27, 28, 29, 30, 31] (by decide +kernel) (by decide +kernel)
set_option maxRecDepth 20000 in
theorem gX8_skip_X8_failAt : GoodIn wsX8_skip (wsV RX8 46 RX8 yX8_failAt wsX8_failAt) := goodIn_app (goodIn_of _ (by decide +kernel)) ggX8_skip_X8_failAt
theorem dX8_skip_0 : decode cX8_skip 0 = .ok (.aload_n 0, 1) := by decide +kernel
theorem dX8_skip_1 : decode cX8_skip 1 = .ok (.iload_n 1, 1) := by decide +kernel
theorem dX8_skip_2 : decode cX8_skip 2 = .ok (.invokevirtual 50, 3) := by decide +kernel
theorem dX8_skip_5 : decode cX8_skip 5 = .ok (.ifCond .eq 16, 3) := by decide +kernel
theorem dX8_skip_8 : decode cX8_skip 8 = .ok (.aload_n 0, 1) := by decide +kernel
theorem dX8_skip_9 : decode cX8_skip 9 = .ok (.dup, 1) := by decide +kernel
theorem dX8_skip_10 : decode cX8_skip 10 = .ok (.getfield 23, 3) := by decide +kernel
theorem dX8_skip_13 : decode cX8_skip 13 = .ok (.iconst 1, 1) := by decide +kernel
theorem dX8_skip_14 : decode cX8_skip 14 = .ok (.iadd, 1) := by decide +kernel
theorem dX8_skip_15 : decode cX8_skip 15 = .ok (.putfield 23, 3) := by decide +kernel
theorem dX8_skip_18 : decode cX8_skip 18 = .ok (.goto 11, 3) := by decide +kernel
theorem dX8_skip_21 : decode cX8_skip 21 = .ok (.aload_n 0, 1) := by decide +kernel
theorem dX8_skip_22 : decode cX8_skip 22 = .ok (.aload_n 0, 1) := by decide +kernel
theorem dX8_skip_23 : decode cX8_skip 23 = .ok (.getfield 23, 3) := by decide +kernel
theorem dX8_skip_26 : decode cX8_skip 26 = .ok (.invokevirtual 46, 3) := by decide +kernel
theorem dX8_skip_29 : decode cX8_skip 29 = .ok (.return_, 1) := by decide +kernel
set_option maxRecDepth 20000 in
theorem ggX8_readSign_X8_stands : GoodIn wsX8_readSign wsX8_stands := goodIn_r _ [6, 1, 7, 8, 9, 5, 10, 11, 12, 13, 14, 15, 16, 17, 18, 19, 20, 21, 26, 27, 28, 29, 30, 31] (by decide +kernel) (by decide +kernel)
set_option maxRecDepth 20000 in
theorem gX8_readSign_X8_stands : GoodIn wsX8_readSign (wsV RX8 50 RX8 yX8_stands wsX8_stands) := goodIn_app (goodIn_of _ (by decide +kernel)) ggX8_readSign_X8_stands
set_option maxRecDepth 20000 in
theorem ggX8_readSign_X8_signAt : GoodIn wsX8_readSign wsX8_signAt := goodIn_r _ [20, 11, 21, 26, 27, 28, 29, 30, 31] (by decide +kernel) (by decide +kernel)
set_option maxRecDepth 20000 in
theorem gX8_readSign_X8_signAt : GoodIn wsX8_readSign (wsV RX8 42 RX8 yX8_signAt wsX8_signAt) := goodIn_app (goodIn_of _ (by decide +kernel)) ggX8_readSign_X8_signAt
set_option maxRecDepth 20000 in
theorem ggX8_readSign_X8_failAt : GoodIn wsX8_readSign wsX8_failAt := goodIn_r _ [25, 16, 26, 27, 28, 29, 30, 31] (by decide +kernel) (by decide +kernel)
set_option maxRecDepth 20000 in
theorem gX8_readSign_X8_failAt : GoodIn wsX8_readSign (wsV RX8 46 RX8 yX8_failAt wsX8_failAt) := goodIn_app (goodIn_of _ (by decide +kernel)) ggX8_readSign_X8_failAt
theorem dX8_readSign_0 : decode cX8_readSign 0 = .ok (.aload_n 0, 1) := by decide +kernel
theorem dX8_readSign_1 : decode cX8_readSign 1 = .ok (.bipush 61, 2) := by decide +kernel
theorem dX8_readSign_3 : decode cX8_readSign 3 = .ok (.invokevirtual 50, 3) := by decide +kernel
theorem dX8_readSign_6 : decode cX8_readSign 6 = .ok (.ifCond .ne 30, 3) := by decide +kernel
theorem dX8_readSign_9 : decode cX8_readSign 9 = .ok (.aload_n 0, 1) := by decide +kernel
theorem dX8_readSign_10 : decode cX8_readSign 10 = .ok (.bipush 60, 2) := by decide +kernel
theorem dX8_readSign_12 : decode cX8_readSign 12 = .ok (.invokevirtual 50, 3) := by decide +kernel
theorem dX8_readSign_15 : decode cX8_readSign 15 = .ok (.ifCond .ne 21, 3) := by decide +kernel
theorem dX8_readSign_18 : decode cX8_readSign 18 = .ok (.aload_n 0, 1) := by decide +kernel
theorem dX8_readSign_19 : decode cX8_readSign 19 = .ok (.bipush 62, 2) := by decide +kernel
theorem dX8_readSign_21 : decode cX8_readSign 21 = .ok (.invokevirtual 50, 3) := by decide +kernel
theorem dX8_readSign_24 : decode cX8_readSign 24 = .ok (.ifCond .ne 12, 3) := by decide +kernel
theorem dX8_readSign_27 : decode cX8_readSign 27 = .ok (.aload_n 0, 1) := by decide +kernel
theorem dX8_readSign_28 : decode cX8_readSign 28 = .ok (.bipush 43, 2) := by decide +kernel
theorem dX8_readSign_30 : decode cX8_readSign 30 = .ok (.invokevirtual 50, 3) := by decide +kernel
theorem dX8_readSign_33 : decode cX8_readSign 33 = .ok (.ifCond .eq 24, 3) := by decide +kernel
theorem dX8_readSign_36 : decode cX8_readSign 36 = .ok (.aload_n 0, 1) := by decide +kernel
theorem dX8_readSign_37 : decode cX8_readSign 37 = .ok (.dup, 1) := by decide +kernel
theorem dX8_readSign_38 : decode cX8_readSign 38 = .ok (.getfield 23, 3) := by decide +kernel
theorem dX8_readSign_41 : decode cX8_readSign 41 = .ok (.iconst 1, 1) := by decide +kernel
theorem dX8_readSign_42 : decode cX8_readSign 42 = .ok (.iadd, 1) := by decide +kernel
theorem dX8_readSign_43 : decode cX8_readSign 43 = .ok (.putfield 23, 3) := by decide +kernel
theorem dX8_readSign_46 : decode cX8_readSign 46 = .ok (.aload_n 0, 1) := by decide +kernel
theorem dX8_readSign_47 : decode cX8_readSign 47 = .ok (.aload_n 0, 1) := by decide +kernel
theorem dX8_readSign_48 : decode cX8_readSign 48 = .ok (.getfield 23, 3) := by decide +kernel
theorem dX8_readSign_51 : decode cX8_readSign 51 = .ok (.iconst 1, 1) := by decide +kernel
theorem dX8_readSign_52 : decode cX8_readSign 52 = .ok (.isub, 1) := by decide +kernel
theorem dX8_readSign_53 : decode cX8_readSign 53 = .ok (.invokevirtual 42, 3) := by decide +kernel
theorem dX8_readSign_56 : decode cX8_readSign 56 = .ok (.ireturn, 1) := by decide +kernel
theorem dX8_readSign_57 : decode cX8_readSign 57 = .ok (.aload_n 0, 1) := by decide +kernel
theorem dX8_readSign_58 : decode cX8_readSign 58 = .ok (.aload_n 0, 1) := by decide +kernel
theorem dX8_readSign_59 : decode cX8_readSign 59 = .ok (.getfield 23, 3) := by decide +kernel
theorem dX8_readSign_62 : decode cX8_readSign 62 = .ok (.invokevirtual 46, 3) := by decide +kernel
theorem dX8_readSign_65 : decode cX8_readSign 65 = .ok (.iconst 0, 1) := by decide +kernel
theorem dX8_readSign_66 : decode cX8_readSign 66 = .ok (.ireturn, 1) := by decide +kernel
set_option maxRecDepth 20000 in
theorem ggX8_readNumber_X8_isDigit : GoodIn wsX8_readNumber wsX8_isDigit := goodIn_r _ [8, 9, 10, 11, 7, 12, 13, 14, 15, 16, 17, 39, 40, 41, 42, 43, 44] (by decide +kernel) (by decide +kernel)
set_option maxRecDepth 20000 in
theorem gX8_readNumber_X8_isDigit : GoodIn wsX8_readNumber (wsV RX8 54 RX8 yX8_isDigit wsX8_isDigit) := goodIn_app (goodIn_of _ (by decide +kernel)) ggX8_readNumber_X8_isDigit
set_option maxRecDepth 20000 in
theorem ggX8_readNumber_X8_stands : GoodIn wsX8_readNumber wsX8_stands := goodIn_r _ [21, 1, 22, 23, 24, 7, 25, 13, 26, 27, 28, 29, 30, 9, 10, 11, 12, 14, 39, 40, 41, 42, 43, 44] (by decide +kernel) (by decide +kernel)
set_option maxRecDepth 20000 in
theorem gX8_readNumber_X8_stands : GoodIn wsX8_readNumber (wsV RX8 50 RX8 yX8_stands wsX8_stands) := goodIn_app (goodIn_of _ (by decide +kernel)) ggX8_readNumber_X8_stands
set_option maxRecDepth 20000 in
theorem ggX8_readNumber_X8_failAt : GoodIn wsX8_readNumber wsX8_failAt := goodIn_r _ [34, 30, 39, 40, 41, 42, 43, 44] (by decide +kernel) (by decide +kernel)
set_option maxRecDepth 20000 in
theorem gX8_readNumber_X8_failAt : GoodIn wsX8_readNumber (wsV RX8 46 RX8 yX8_failAt wsX8_failAt) := goodIn_app (goodIn_of _ (by decide +kernel)) ggX8_readNumber_X8_failAt
set_option maxRecDepth 20000 in
theorem ggX8_readNumber_X8_takeDigit : GoodIn wsX8_readNumber wsX8_takeDigit := goodIn_r _ [38, 3, 1, 9, 10, 11, 7, 12, 13, 14, 39, 40, 41, 42, 43, 44] (by decide +kernel) (by decide +kernel)
set_option maxRecDepth 20000 in
theorem gX8_readNumber_X8_takeDigit : GoodIn wsX8_readNumber (wsV RX8 58 RX8 yX8_takeDigit wsX8_takeDigit) := goodIn_app (goodIn_of _ (by decide +kernel)) ggX8_readNumber_X8_takeDigit
theorem dX8_readNumber_0 : decode cX8_readNumber 0 = .ok (.aload_n 0, 1) := by decide +kernel
theorem dX8_readNumber_1 : decode cX8_readNumber 1 = .ok (.aload_n 0, 1) := by decide +kernel
theorem dX8_readNumber_2 : decode cX8_readNumber 2 = .ok (.getfield 23, 3) := by decide +kernel
theorem dX8_readNumber_5 : decode cX8_readNumber 5 = .ok (.putfield 32, 3) := by decide +kernel
theorem dX8_readNumber_8 : decode cX8_readNumber 8 = .ok (.aload_n 0, 1) := by decide +kernel
theorem dX8_readNumber_9 : decode cX8_readNumber 9 = .ok (.iconst 0, 1) := by decide +kernel
theorem dX8_readNumber_10 : decode cX8_readNumber 10 = .ok (.putfield 29, 3) := by decide +kernel
theorem dX8_readNumber_13 : decode cX8_readNumber 13 = .ok (.aload_n 0, 1) := by decide +kernel
theorem dX8_readNumber_14 : decode cX8_readNumber 14 = .ok (.aload_n 0, 1) := by decide +kernel
theorem dX8_readNumber_15 : decode cX8_readNumber 15 = .ok (.getfield 23, 3) := by decide +kernel
theorem dX8_readNumber_18 : decode cX8_readNumber 18 = .ok (.invokevirtual 54, 3) := by decide +kernel
theorem dX8_readNumber_21 : decode cX8_readNumber 21 = .ok (.ifCond .eq 12, 3) := by decide +kernel
theorem dX8_readNumber_24 : decode cX8_readNumber 24 = .ok (.aload_n 0, 1) := by decide +kernel
theorem dX8_readNumber_25 : decode cX8_readNumber 25 = .ok (.bipush 48, 2) := by decide +kernel
theorem dX8_readNumber_27 : decode cX8_readNumber 27 = .ok (.invokevirtual 50, 3) := by decide +kernel
theorem dX8_readNumber_30 : decode cX8_readNumber 30 = .ok (.ifCond .eq 12, 3) := by decide +kernel
theorem dX8_readNumber_33 : decode cX8_readNumber 33 = .ok (.aload_n 0, 1) := by decide +kernel
theorem dX8_readNumber_34 : decode cX8_readNumber 34 = .ok (.aload_n 0, 1) := by decide +kernel
theorem dX8_readNumber_35 : decode cX8_readNumber 35 = .ok (.getfield 23, 3) := by decide +kernel
theorem dX8_readNumber_38 : decode cX8_readNumber 38 = .ok (.invokevirtual 46, 3) := by decide +kernel
theorem dX8_readNumber_41 : decode cX8_readNumber 41 = .ok (.return_, 1) := by decide +kernel
theorem dX8_readNumber_42 : decode cX8_readNumber 42 = .ok (.aload_n 0, 1) := by decide +kernel
theorem dX8_readNumber_43 : decode cX8_readNumber 43 = .ok (.invokevirtual 58, 3) := by decide +kernel
theorem dX8_readNumber_46 : decode cX8_readNumber 46 = .ok (.aload_n 0, 1) := by decide +kernel
theorem dX8_readNumber_47 : decode cX8_readNumber 47 = .ok (.aload_n 0, 1) := by decide +kernel
theorem dX8_readNumber_48 : decode cX8_readNumber 48 = .ok (.getfield 23, 3) := by decide +kernel
theorem dX8_readNumber_51 : decode cX8_readNumber 51 = .ok (.invokevirtual 54, 3) := by decide +kernel
theorem dX8_readNumber_54 : decode cX8_readNumber 54 = .ok (.ifCond .eq 7, 3) := by decide +kernel
theorem dX8_readNumber_57 : decode cX8_readNumber 57 = .ok (.aload_n 0, 1) := by decide +kernel
theorem dX8_readNumber_58 : decode cX8_readNumber 58 = .ok (.invokevirtual 58, 3) := by decide +kernel
theorem dX8_readNumber_61 : decode cX8_readNumber 61 = .ok (.aload_n 0, 1) := by decide +kernel
theorem dX8_readNumber_62 : decode cX8_readNumber 62 = .ok (.aload_n 0, 1) := by decide +kernel
theorem dX8_readNumber_63 : decode cX8_readNumber 63 = .ok (.getfield 23, 3) := by decide +kernel
theorem dX8_readNumber_66 : decode cX8_readNumber 66 = .ok (.invokevirtual 54, 3) := by decide +kernel
theorem dX8_readNumber_69 : decode cX8_readNumber 69 = .ok (.ifCond .eq 11, 3) := by decide +kernel
theorem dX8_readNumber_72 : decode cX8_readNumber 72 = .ok (.aload_n 0, 1) := by decide +kernel
theorem dX8_readNumber_73 : decode cX8_readNumber 73 = .ok (.aload_n 0, 1) := by decide +kernel
theorem dX8_readNumber_74 : decode cX8_readNumber 74 = .ok (.getfield 23, 3) := by decide +kernel
theorem dX8_readNumber_77 : decode cX8_readNumber 77 = .ok (.invokevirtual 46, 3) := by decide +kernel
theorem dX8_readNumber_80 : decode cX8_readNumber 80 = .ok (.return_, 1) := by decide +kernel
set_option maxRecDepth 20000 in
theorem ggX8_takeDigit_X8_signAt : GoodIn wsX8_takeDigit wsX8_signAt := goodIn_r _ [7, 8, 9, 10, 11, 12, 13, 14, 15] (by decide +kernel) (by decide +kernel)
set_option maxRecDepth 20000 in
theorem gX8_takeDigit_X8_signAt : GoodIn wsX8_takeDigit (wsV RX8 42 RX8 yX8_signAt wsX8_signAt) := goodIn_app (goodIn_of _ (by decide +kernel)) ggX8_takeDigit_X8_signAt
theorem dX8_takeDigit_0 : decode cX8_takeDigit 0 = .ok (.aload_n 0, 1) := by decide +kernel
theorem dX8_takeDigit_1 : decode cX8_takeDigit 1 = .ok (.bipush 10, 2) := by decide +kernel
theorem dX8_takeDigit_3 : decode cX8_takeDigit 3 = .ok (.aload_n 0, 1) := by decide +kernel
theorem dX8_takeDigit_4 : decode cX8_takeDigit 4 = .ok (.getfield 29, 3) := by decide +kernel
theorem dX8_takeDigit_7 : decode cX8_takeDigit 7 = .ok (.imul, 1) := by decide +kernel
theorem dX8_takeDigit_8 : decode cX8_takeDigit 8 = .ok (.aload_n 0, 1) := by decide +kernel
theorem dX8_takeDigit_9 : decode cX8_takeDigit 9 = .ok (.aload_n 0, 1) := by decide +kernel
theorem dX8_takeDigit_10 : decode cX8_takeDigit 10 = .ok (.getfield 23, 3) := by decide +kernel
theorem dX8_takeDigit_13 : decode cX8_takeDigit 13 = .ok (.invokevirtual 42, 3) := by decide +kernel
theorem dX8_takeDigit_16 : decode cX8_takeDigit 16 = .ok (.iadd, 1) := by decide +kernel
theorem dX8_takeDigit_17 : decode cX8_takeDigit 17 = .ok (.bipush 48, 2) := by decide +kernel
theorem dX8_takeDigit_19 : decode cX8_takeDigit 19 = .ok (.isub, 1) := by decide +kernel
theorem dX8_takeDigit_20 : decode cX8_takeDigit 20 = .ok (.putfield 29, 3) := by decide +kernel
theorem dX8_takeDigit_23 : decode cX8_takeDigit 23 = .ok (.aload_n 0, 1) := by decide +kernel
theorem dX8_takeDigit_24 : decode cX8_takeDigit 24 = .ok (.dup, 1) := by decide +kernel
theorem dX8_takeDigit_25 : decode cX8_takeDigit 25 = .ok (.getfield 23, 3) := by decide +kernel
theorem dX8_takeDigit_28 : decode cX8_takeDigit 28 = .ok (.iconst 1, 1) := by decide +kernel
theorem dX8_takeDigit_29 : decode cX8_takeDigit 29 = .ok (.iadd, 1) := by decide +kernel
theorem dX8_takeDigit_30 : decode cX8_takeDigit 30 = .ok (.putfield 23, 3) := by decide +kernel
theorem dX8_takeDigit_33 : decode cX8_takeDigit 33 = .ok (.return_, 1) := by decide +kernel
set_option maxRecDepth 20000 in
theorem ggX8_isDigit_X8_signAt : GoodIn wsX8_isDigit wsX8_signAt := goodIn_r _ [5, 6, 7, 11, 12, 13, 14, 15, 16] (by decide +kernel) (by decide +kernel)
set_option maxRecDepth 20000 in
theorem gX8_isDigit_X8_signAt : GoodIn wsX8_isDigit (wsV RX8 42 RX8 yX8_signAt wsX8_signAt) := goodIn_app (goodIn_of _ (by decide +kernel)) ggX8_isDigit_X8_signAt
set_option maxRecDepth 20000 in
theorem ggX8_isDigit_X9_isWithin : GoodIn wsX8_isDigit wsX9_isWithin := goodIn_r _ [10] (by decide +kernel) (by decide +kernel)
set_option maxRecDepth 20000 in
theorem gX8_isDigit_X9_isWithin_n19 : GoodIn wsX8_isDigit (wsX9_isWithin) := ggX8_isDigit_X9_isWithin
theorem dX8_isDigit_0 : decode cX8_isDigit 0 = .ok (.aload_n 0, 1) := by decide +kernel
theorem dX8_isDigit_1 : decode cX8_isDigit 1 = .ok (.iload_n 1, 1) := by decide +kernel
theorem dX8_isDigit_2 : decode cX8_isDigit 2 = .ok (.invokevirtual 42, 3) := by decide +kernel
theorem dX8_isDigit_5 : decode cX8_isDigit 5 = .ok (.bipush 48, 2) := by decide +kernel
theorem dX8_isDigit_7 : decode cX8_isDigit 7 = .ok (.bipush 57, 2) := by decide +kernel
theorem dX8_isDigit_9 : decode cX8_isDigit 9 = .ok (.invokestatic 19, 3) := by decide +kernel
theorem dX8_isDigit_12 : decode cX8_isDigit 12 = .ok (.ireturn, 1) := by decide +kernel
theorem dX8_signAt_0 : decode cX8_signAt 0 = .ok (.iload_n 1, 1) := by decide +kernel
theorem dX8_signAt_1 : decode cX8_signAt 1 = .ok (.ifCond .lt 26, 3) := by decide +kernel
theorem dX8_signAt_4 : decode cX8_signAt 4 = .ok (.iload_n 1, 1) := by decide +kernel
theorem dX8_signAt_5 : decode cX8_signAt 5 = .ok (.aload_n 0, 1) := by decide +kernel
theorem dX8_signAt_6 : decode cX8_signAt 6 = .ok (.getfield 15, 3) := by decide +kernel
theorem dX8_signAt_9 : decode cX8_signAt 9 = .ok (.if_icmp .ge 18, 3) := by decide +kernel
theorem dX8_signAt_12 : decode cX8_signAt 12 = .ok (.iload_n 1, 1) := by decide +kernel
theorem dX8_signAt_13 : decode cX8_signAt 13 = .ok (.bipush 80, 2) := by decide +kernel
theorem dX8_signAt_15 : decode cX8_signAt 15 = .ok (.if_icmp .ge 12, 3) := by decide +kernel
theorem dX8_signAt_18 : decode cX8_signAt 18 = .ok (.aload_n 0, 1) := by decide +kernel
theorem dX8_signAt_19 : decode cX8_signAt 19 = .ok (.getfield 9, 3) := by decide +kernel
theorem dX8_signAt_22 : decode cX8_signAt 22 = .ok (.iload_n 1, 1) := by decide +kernel
theorem dX8_signAt_23 : decode cX8_signAt 23 = .ok (.caload, 1) := by decide +kernel
theorem dX8_signAt_24 : decode cX8_signAt 24 = .ok (.goto 4, 3) := by decide +kernel
theorem dX8_signAt_27 : decode cX8_signAt 27 = .ok (.iconst 0, 1) := by decide +kernel
theorem dX8_signAt_28 : decode cX8_signAt 28 = .ok (.ireturn, 1) := by decide +kernel
set_option maxRecDepth 20000 in
theorem ggX9_init_X7_init : GoodIn wsX9_init wsX7_init := goodIn_r _ [33, 34, 2, 3, 35, 36, 37, 38, 39, 40, 41, 42, 43, 44, 45, 46, 47, 48, 49, 50, 51, 52, 53, 54, 55, 130, 131, 132, 133, 89, 90, 91, 134, 135, 136] (by decide +kernel) (by decide +kernel)
set_option maxRecDepth 20000 in
theorem gX9_init_X7_init_n11 : GoodIn wsX9_init (wsX7_init) := ggX9_init_X7_init
set_option maxRecDepth 20000 in
theorem ggX9_init_X2_init : GoodIn wsX9_init wsX2_init := goodIn_r _ [58, 59, 2, 3, 60, 61, 5, 6, 32, 33, 34, 35, 36, 37, 38, 39, 40, 41, 42, 43, 44, 45, 46, 47, 48, 49, 50, 51, 52, 53, 54, 55, 99, 100, 89, 90, 91, 130, 131, 132, 133, 134, 135, 136] (by decide +kernel) (by decide +kernel)
set_option maxRecDepth 20000 in
theorem gX9_init_X2_init : GoodIn wsX9_init (wsX2_init) := ggX9_init_X2_init
set_option maxRecDepth 20000 in
theorem ggX9_init_X8_init : GoodIn wsX9_init wsX8_init := goodIn_r _ [63, 64, 2, 3, 65, 66, 101, 102, 103, 104, 105, 106] (by decide +kernel) (by decide +kernel)
set_option maxRecDepth 20000 in
theorem gX9_init_X8_init_n25 : GoodIn wsX9_init (wsX8_init) := ggX9_init_X8_init
set_option maxRecDepth 20000 in
theorem ggX9_init_X6_init : GoodIn wsX9_init wsX6_init := goodIn_r _ [68, 69, 2, 3] (by decide +kernel) (by decide +kernel)
set_option maxRecDepth 20000 in
theorem gX9_init_X6_init_n32 : GoodIn wsX9_init (wsX6_init) := ggX9_init_X6_init
set_option maxRecDepth 20000 in
theorem ggX9_init_X4_init : GoodIn wsX9_init wsX4_init := goodIn_r _ [71, 72, 2, 3, 73, 41, 42, 74, 51, 52, 53, 47, 54, 55, 134, 135, 136, 109, 110, 111] (by decide +kernel) (by decide +kernel)
set_option maxRecDepth 20000 in
theorem gX9_init_X4_init_n39 : GoodIn wsX9_init (wsX4_init) := ggX9_init_X4_init
set_option maxRecDepth 20000 in
theorem ggX9_init_X5_init : GoodIn wsX9_init wsX5_init := goodIn_r _ [76, 77, 2, 3] (by decide +kernel) (by decide +kernel)
set_option maxRecDepth 20000 in
theorem gX9_init_X5_init_n46 : GoodIn wsX9_init (wsX5_init) := ggX9_init_X5_init
set_option maxRecDepth 20000 in
theorem ggX9_init_X3_init : GoodIn wsX9_init wsX3_init := goodIn_r _ [79, 80, 2, 3, 81, 82, 83, 84, 47, 85, 86, 87, 88, 119, 120, 121, 122, 123, 124, 125, 126, 127, 128, 129] (by decide +kernel) (by decide +kernel)
set_option maxRecDepth 20000 in
theorem gX9_init_X3_init_n53 : GoodIn wsX9_init (wsX3_init) := ggX9_init_X3_init
theorem dX9_init_0 : decode cX9_init 0 = .ok (.aload_n 0, 1) := by decide +kernel
theorem dX9_init_1 : decode cX9_init 1 = .ok (.invokespecial 3, 3) := by decide +kernel
theorem dX9_init_4 : decode cX9_init 4 = .ok (.aload_n 0, 1) := by decide +kernel
theorem dX9_init_5 : decode cX9_init 5 = .ok (.new 9, 3) := by decide +kernel
theorem dX9_init_8 : decode cX9_init 8 = .ok (.dup, 1) := by decide +kernel
theorem dX9_init_9 : decode cX9_init 9 = .ok (.invokespecial 11, 3) := by decide +kernel
theorem dX9_init_12 : decode cX9_init 12 = .ok (.putfield 12, 3) := by decide +kernel
theorem dX9_init_15 : decode cX9_init 15 = .ok (.aload_n 0, 1) := by decide +kernel
theorem dX9_init_16 : decode cX9_init 16 = .ok (.new 16, 3) := by decide +kernel
theorem dX9_init_19 : decode cX9_init 19 = .ok (.dup, 1) := by decide +kernel
theorem dX9_init_20 : decode cX9_init 20 = .ok (.invokespecial 18, 3) := by decide +kernel
theorem dX9_init_23 : decode cX9_init 23 = .ok (.putfield 19, 3) := by decide +kernel
theorem dX9_init_26 : decode cX9_init 26 = .ok (.aload_n 0, 1) := by decide +kernel
theorem dX9_init_27 : decode cX9_init 27 = .ok (.new 23, 3) := by decide +kernel
theorem dX9_init_30 : decode cX9_init 30 = .ok (.dup, 1) := by decide +kernel
theorem dX9_init_31 : decode cX9_init 31 = .ok (.invokespecial 25, 3) := by decide +kernel
theorem dX9_init_34 : decode cX9_init 34 = .ok (.putfield 26, 3) := by decide +kernel
theorem dX9_init_37 : decode cX9_init 37 = .ok (.aload_n 0, 1) := by decide +kernel
theorem dX9_init_38 : decode cX9_init 38 = .ok (.new 30, 3) := by decide +kernel
theorem dX9_init_41 : decode cX9_init 41 = .ok (.dup, 1) := by decide +kernel
theorem dX9_init_42 : decode cX9_init 42 = .ok (.invokespecial 32, 3) := by decide +kernel
theorem dX9_init_45 : decode cX9_init 45 = .ok (.putfield 33, 3) := by decide +kernel
theorem dX9_init_48 : decode cX9_init 48 = .ok (.aload_n 0, 1) := by decide +kernel
theorem dX9_init_49 : decode cX9_init 49 = .ok (.new 37, 3) := by decide +kernel
theorem dX9_init_52 : decode cX9_init 52 = .ok (.dup, 1) := by decide +kernel
theorem dX9_init_53 : decode cX9_init 53 = .ok (.invokespecial 39, 3) := by decide +kernel
theorem dX9_init_56 : decode cX9_init 56 = .ok (.putfield 40, 3) := by decide +kernel
theorem dX9_init_59 : decode cX9_init 59 = .ok (.aload_n 0, 1) := by decide +kernel
theorem dX9_init_60 : decode cX9_init 60 = .ok (.new 44, 3) := by decide +kernel
theorem dX9_init_63 : decode cX9_init 63 = .ok (.dup, 1) := by decide +kernel
theorem dX9_init_64 : decode cX9_init 64 = .ok (.invokespecial 46, 3) := by decide +kernel
theorem dX9_init_67 : decode cX9_init 67 = .ok (.putfield 47, 3) := by decide +kernel
theorem dX9_init_70 : decode cX9_init 70 = .ok (.aload_n 0, 1) := by decide +kernel
theorem dX9_init_71 : decode cX9_init 71 = .ok (.new 51, 3) := by decide +kernel
theorem dX9_init_74 : decode cX9_init 74 = .ok (.dup, 1) := by decide +kernel
theorem dX9_init_75 : decode cX9_init 75 = .ok (.invokespecial 53, 3) := by decide +kernel
theorem dX9_init_78 : decode cX9_init 78 = .ok (.putfield 54, 3) := by decide +kernel
theorem dX9_init_81 : decode cX9_init 81 = .ok (.return_, 1) := by decide +kernel
set_option maxRecDepth 20000 in
theorem ggX9_addChapter_X9_isBook : GoodIn wsX9_addChapter wsX9_isBook := goodIn_r _ [6] (by decide +kernel) (by decide +kernel)
set_option maxRecDepth 20000 in
theorem gX9_addChapter_X9_isBook : GoodIn wsX9_addChapter (va_wsS RX9 58 yX9_isBook wsX9_isBook) := goodIn_app (goodIn_of _ (by decide +kernel)) ggX9_addChapter_X9_isBook
set_option maxRecDepth 20000 in
theorem ggX9_addChapter_X9_isWithin : GoodIn wsX9_addChapter wsX9_isWithin := goodIn_r _ [9] (by decide +kernel) (by decide +kernel)
set_option maxRecDepth 20000 in
theorem gX9_addChapter_X9_isWithin : GoodIn wsX9_addChapter (va_wsS RX9 62 yX9_isWithin wsX9_isWithin) := goodIn_app (goodIn_of _ (by decide +kernel)) ggX9_addChapter_X9_isWithin
set_option maxRecDepth 20000 in
theorem ggX9_addChapter_X7_bookOf : GoodIn wsX9_addChapter wsX7_bookOf := goodIn_r _ [14, 15, 16, 107, 108, 109] (by decide +kernel) (by decide +kernel)
set_option maxRecDepth 20000 in
theorem gX9_addChapter_X7_bookOf : GoodIn wsX9_addChapter (wsV RX9 66 RX7 yX7_bookOf wsX7_bookOf) := goodIn_app (goodIn_of _ (by decide +kernel)) ggX9_addChapter_X7_bookOf
set_option maxRecDepth 20000 in
theorem ggX9_addChapter_X0_chapterTotal : GoodIn wsX9_addChapter wsX0_chapterTotal := goodIn_r _ [21, 22, 23, 24, 25, 20, 26, 27, 28, 29, 30, 31, 32, 5, 33, 103, 104, 105, 106] (by decide +kernel) (by decide +kernel)
set_option maxRecDepth 20000 in
theorem gX9_addChapter_X0_chapterTotal : GoodIn wsX9_addChapter (wsV RX9 70 RX0 yX0_chapterTotal wsX0_chapterTotal) := goodIn_app (goodIn_of _ (by decide +kernel)) ggX9_addChapter_X0_chapterTotal
set_option maxRecDepth 20000 in
theorem ggX9_addChapter_X2_record : GoodIn wsX9_addChapter wsX2_record := goodIn_r _ [38, 39, 40, 41, 42, 43, 37, 44, 8, 5, 9, 45, 46, 47, 13, 48, 15, 16, 49, 50, 51, 52, 20, 53, 27, 54, 55, 22, 56, 57, 58, 59, 60, 61, 62, 63, 64, 65, 66, 67, 68, 69, 70, 71, 72, 73, 110, 111, 107, 108, 109, 103, 104, 105, 106, 112, 113, 114] (by decide +kernel) (by decide +kernel)
set_option maxRecDepth 20000 in
theorem gX9_addChapter_X2_record : GoodIn wsX9_addChapter (wsV RX9 80 RX2 yX2_record wsX2_record) := goodIn_app (goodIn_of _ (by decide +kernel)) ggX9_addChapter_X2_record
set_option maxRecDepth 20000 in
theorem ggX9_addChapter_X0_insertAt : GoodIn wsX9_addChapter wsX0_insertAt := goodIn_r _ [77, 22, 27, 54, 55, 78, 5, 79, 62, 63, 64, 65, 7, 8, 9, 80, 81, 82, 20, 83, 28, 29, 30, 31, 103, 104, 105, 106] (by decide +kernel) (by decide +kernel)
set_option maxRecDepth 20000 in
theorem gX9_addChapter_X0_insertAt : GoodIn wsX9_addChapter (wsV RX9 84 RX0 yX0_insertAt wsX0_insertAt) := goodIn_app (goodIn_of _ (by decide +kernel)) ggX9_addChapter_X0_insertAt
set_option maxRecDepth 20000 in
theorem ggX9_addChapter_X1_append : GoodIn wsX9_addChapter wsX1_append := goodIn_r _ [87, 73, 88, 89, 90, 69, 91, 71, 72, 92, 93, 94, 95, 112, 113, 114] (by decide +kernel) (by decide +kernel)
set_option maxRecDepth 20000 in
theorem gX9_addChapter_X1_append : GoodIn wsX9_addChapter (wsV RX9 92 RX1 yX1_append wsX1_append) := goodIn_app (goodIn_of _ (by decide +kernel)) ggX9_addChapter_X1_append
theorem dX9_addChapter_0 : decode cX9_addChapter 0 = .ok (.iload_n 1, 1) := by decide +kernel
theorem dX9_addChapter_1 : decode cX9_addChapter 1 = .ok (.invokestatic 58, 3) := by decide +kernel
theorem dX9_addChapter_4 : decode cX9_addChapter 4 = .ok (.ifCond .ne 5, 3) := by decide +kernel
theorem dX9_addChapter_7 : decode cX9_addChapter 7 = .ok (.iconst (-1), 1) := by decide +kernel
theorem dX9_addChapter_8 : decode cX9_addChapter 8 = .ok (.ireturn, 1) := by decide +kernel
theorem dX9_addChapter_9 : decode cX9_addChapter 9 = .ok (.iload_n 2, 1) := by decide +kernel
theorem dX9_addChapter_10 : decode cX9_addChapter 10 = .ok (.iconst 1, 1) := by decide +kernel
theorem dX9_addChapter_11 : decode cX9_addChapter 11 = .ok (.bipush 60, 2) := by decide +kernel
theorem dX9_addChapter_13 : decode cX9_addChapter 13 = .ok (.invokestatic 62, 3) := by decide +kernel
theorem dX9_addChapter_16 : decode cX9_addChapter 16 = .ok (.ifCond .eq 14, 3) := by decide +kernel
theorem dX9_addChapter_19 : decode cX9_addChapter 19 = .ok (.iload_n 3, 1) := by decide +kernel
theorem dX9_addChapter_20 : decode cX9_addChapter 20 = .ok (.iconst 1, 1) := by decide +kernel
theorem dX9_addChapter_21 : decode cX9_addChapter 21 = .ok (.sipush 2000, 3) := by decide +kernel
theorem dX9_addChapter_24 : decode cX9_addChapter 24 = .ok (.invokestatic 62, 3) := by decide +kernel
theorem dX9_addChapter_27 : decode cX9_addChapter 27 = .ok (.ifCond .ne 6, 3) := by decide +kernel
theorem dX9_addChapter_30 : decode cX9_addChapter 30 = .ok (.bipush (-2), 2) := by decide +kernel
theorem dX9_addChapter_32 : decode cX9_addChapter 32 = .ok (.ireturn, 1) := by decide +kernel
theorem dX9_addChapter_33 : decode cX9_addChapter 33 = .ok (.aload_n 0, 1) := by decide +kernel
theorem dX9_addChapter_34 : decode cX9_addChapter 34 = .ok (.getfield 12, 3) := by decide +kernel
theorem dX9_addChapter_37 : decode cX9_addChapter 37 = .ok (.iload_n 1, 1) := by decide +kernel
theorem dX9_addChapter_38 : decode cX9_addChapter 38 = .ok (.invokevirtual 66, 3) := by decide +kernel
theorem dX9_addChapter_41 : decode cX9_addChapter 41 = .ok (.astore 4, 2) := by decide +kernel
theorem dX9_addChapter_43 : decode cX9_addChapter 43 = .ok (.aload 4, 2) := by decide +kernel
theorem dX9_addChapter_45 : decode cX9_addChapter 45 = .ok (.invokevirtual 70, 3) := by decide +kernel
theorem dX9_addChapter_48 : decode cX9_addChapter 48 = .ok (.iconst 1, 1) := by decide +kernel
theorem dX9_addChapter_49 : decode cX9_addChapter 49 = .ok (.iadd, 1) := by decide +kernel
theorem dX9_addChapter_50 : decode cX9_addChapter 50 = .ok (.istore 5, 2) := by decide +kernel
theorem dX9_addChapter_52 : decode cX9_addChapter 52 = .ok (.iload 5, 2) := by decide +kernel
theorem dX9_addChapter_54 : decode cX9_addChapter 54 = .ok (.bipush 10, 2) := by decide +kernel
theorem dX9_addChapter_56 : decode cX9_addChapter 56 = .ok (.if_icmp .gt 15, 3) := by decide +kernel
theorem dX9_addChapter_59 : decode cX9_addChapter 59 = .ok (.aload 4, 2) := by decide +kernel
theorem dX9_addChapter_61 : decode cX9_addChapter 61 = .ok (.getfield 76, 3) := by decide +kernel
theorem dX9_addChapter_64 : decode cX9_addChapter 64 = .ok (.iload_n 2, 1) := by decide +kernel
theorem dX9_addChapter_65 : decode cX9_addChapter 65 = .ok (.iadd, 1) := by decide +kernel
theorem dX9_addChapter_66 : decode cX9_addChapter 66 = .ok (.bipush 60, 2) := by decide +kernel
theorem dX9_addChapter_68 : decode cX9_addChapter 68 = .ok (.if_icmp .le 6, 3) := by decide +kernel
theorem dX9_addChapter_71 : decode cX9_addChapter 71 = .ok (.bipush (-3), 2) := by decide +kernel
theorem dX9_addChapter_73 : decode cX9_addChapter 73 = .ok (.ireturn, 1) := by decide +kernel
theorem dX9_addChapter_74 : decode cX9_addChapter 74 = .ok (.aload_n 0, 1) := by decide +kernel
theorem dX9_addChapter_75 : decode cX9_addChapter 75 = .ok (.getfield 19, 3) := by decide +kernel
theorem dX9_addChapter_78 : decode cX9_addChapter 78 = .ok (.aload_n 0, 1) := by decide +kernel
theorem dX9_addChapter_79 : decode cX9_addChapter 79 = .ok (.getfield 12, 3) := by decide +kernel
theorem dX9_addChapter_82 : decode cX9_addChapter 82 = .ok (.invokevirtual 80, 3) := by decide +kernel
theorem dX9_addChapter_85 : decode cX9_addChapter 85 = .ok (.iconst 0, 1) := by decide +kernel
theorem dX9_addChapter_86 : decode cX9_addChapter 86 = .ok (.istore 6, 2) := by decide +kernel
theorem dX9_addChapter_88 : decode cX9_addChapter 88 = .ok (.iload 6, 2) := by decide +kernel
theorem dX9_addChapter_90 : decode cX9_addChapter 90 = .ok (.iload_n 2, 1) := by decide +kernel
theorem dX9_addChapter_91 : decode cX9_addChapter 91 = .ok (.if_icmp .ge 52, 3) := by decide +kernel
theorem dX9_addChapter_94 : decode cX9_addChapter 94 = .ok (.aload 4, 2) := by decide +kernel
theorem dX9_addChapter_96 : decode cX9_addChapter 96 = .ok (.aload 4, 2) := by decide +kernel
theorem dX9_addChapter_98 : decode cX9_addChapter 98 = .ok (.getfield 76, 3) := by decide +kernel
theorem dX9_addChapter_101 : decode cX9_addChapter 101 = .ok (.iload 5, 2) := by decide +kernel
theorem dX9_addChapter_103 : decode cX9_addChapter 103 = .ok (.iload_n 3, 1) := by decide +kernel
theorem dX9_addChapter_104 : decode cX9_addChapter 104 = .ok (.iconst 0, 1) := by decide +kernel
theorem dX9_addChapter_105 : decode cX9_addChapter 105 = .ok (.invokevirtual 84, 3) := by decide +kernel
theorem dX9_addChapter_108 : decode cX9_addChapter 108 = .ok (.aload_n 0, 1) := by decide +kernel
theorem dX9_addChapter_109 : decode cX9_addChapter 109 = .ok (.getfield 12, 3) := by decide +kernel
theorem dX9_addChapter_112 : decode cX9_addChapter 112 = .ok (.getfield 88, 3) := by decide +kernel
theorem dX9_addChapter_115 : decode cX9_addChapter 115 = .ok (.iload_n 1, 1) := by decide +kernel
theorem dX9_addChapter_116 : decode cX9_addChapter 116 = .ok (.ifCond .ne 7, 3) := by decide +kernel
theorem dX9_addChapter_119 : decode cX9_addChapter 119 = .ok (.iconst 1, 1) := by decide +kernel
theorem dX9_addChapter_120 : decode cX9_addChapter 120 = .ok (.goto 4, 3) := by decide +kernel
theorem dX9_addChapter_123 : decode cX9_addChapter 123 = .ok (.iconst 0, 1) := by decide +kernel
theorem dX9_addChapter_124 : decode cX9_addChapter 124 = .ok (.iload_n 1, 1) := by decide +kernel
theorem dX9_addChapter_125 : decode cX9_addChapter 125 = .ok (.iconst 1, 1) := by decide +kernel
theorem dX9_addChapter_126 : decode cX9_addChapter 126 = .ok (.if_icmp .ne 7, 3) := by decide +kernel
theorem dX9_addChapter_129 : decode cX9_addChapter 129 = .ok (.iconst 1, 1) := by decide +kernel
theorem dX9_addChapter_130 : decode cX9_addChapter 130 = .ok (.goto 4, 3) := by decide +kernel
theorem dX9_addChapter_133 : decode cX9_addChapter 133 = .ok (.iconst 0, 1) := by decide +kernel
theorem dX9_addChapter_134 : decode cX9_addChapter 134 = .ok (.invokevirtual 92, 3) := by decide +kernel
theorem dX9_addChapter_137 : decode cX9_addChapter 137 = .ok (.iinc 6 1, 3) := by decide +kernel
theorem dX9_addChapter_140 : decode cX9_addChapter 140 = .ok (.goto (-52), 3) := by decide +kernel
theorem dX9_addChapter_143 : decode cX9_addChapter 143 = .ok (.iload 5, 2) := by decide +kernel
theorem dX9_addChapter_145 : decode cX9_addChapter 145 = .ok (.ireturn, 1) := by decide +kernel
set_option maxRecDepth 20000 in
theorem ggX9_setVerse_X9_isVerse : GoodIn wsX9_setVerse wsX9_isVerse := goodIn_r _ [7, 2, 8, 9, 6, 10, 11, 12, 13, 14, 15, 16, 17, 18, 19, 20, 21, 22, 23, 79, 80, 81, 82, 83, 84, 85, 86, 87, 88, 89, 90, 91, 92] (by decide +kernel) (by decide +kernel)
set_option maxRecDepth 20000 in
theorem gX9_setVerse_X9_isVerse : GoodIn wsX9_setVerse (wsV RX9 98 RX9 yX9_isVerse wsX9_isVerse) := goodIn_app (goodIn_of _ (by decide +kernel)) ggX9_setVerse_X9_isVerse
set_option maxRecDepth 20000 in
theorem ggX9_setVerse_X9_isWithin : GoodIn wsX9_setVerse wsX9_isWithin := goodIn_r _ [26] (by decide +kernel) (by decide +kernel)
set_option maxRecDepth 20000 in
theorem gX9_setVerse_X9_isWithin : GoodIn wsX9_setVerse (va_wsS RX9 62 yX9_isWithin wsX9_isWithin) := goodIn_app (goodIn_of _ (by decide +kernel)) ggX9_setVerse_X9_isWithin
set_option maxRecDepth 20000 in
theorem ggX9_setVerse_X2_record : GoodIn wsX9_setVerse wsX2_record := goodIn_r _ [31, 32, 33, 34, 35, 36, 30, 37, 25, 6, 26, 38, 39, 40, 14, 41, 16, 17, 42, 43, 44, 45, 21, 46, 47, 48, 49, 23, 50, 51, 52, 53, 54, 55, 56, 57, 58, 59, 60, 61, 62, 63, 64, 65, 66, 67, 93, 94, 86, 87, 88, 89, 90, 91, 92, 95, 96, 97] (by decide +kernel) (by decide +kernel)
set_option maxRecDepth 20000 in
theorem gX9_setVerse_X2_record : GoodIn wsX9_setVerse (wsV RX9 80 RX2 yX2_record wsX2_record) := goodIn_app (goodIn_of _ (by decide +kernel)) ggX9_setVerse_X2_record
set_option maxRecDepth 20000 in
theorem ggX9_setVerse_X7_bookOf : GoodIn wsX9_setVerse wsX7_bookOf := goodIn_r _ [15, 16, 17, 86, 87, 88] (by decide +kernel) (by decide +kernel)
set_option maxRecDepth 20000 in
theorem gX9_setVerse_X7_bookOf : GoodIn wsX9_setVerse (wsV RX9 66 RX7 yX7_bookOf wsX7_bookOf) := goodIn_app (goodIn_of _ (by decide +kernel)) ggX9_setVerse_X7_bookOf
set_option maxRecDepth 20000 in
theorem ggX9_setVerse_X0_lettersOf : GoodIn wsX9_setVerse wsX0_lettersOf := goodIn_r _ [71, 48, 72, 19, 20, 21, 22, 23, 73, 6, 74, 89, 90, 91, 92] (by decide +kernel) (by decide +kernel)
set_option maxRecDepth 20000 in
theorem gX9_setVerse_X0_lettersOf : GoodIn wsX9_setVerse (wsV RX9 102 RX0 yX0_lettersOf wsX0_lettersOf) := goodIn_app (goodIn_of _ (by decide +kernel)) ggX9_setVerse_X0_lettersOf
set_option maxRecDepth 20000 in
theorem ggX9_setVerse_X0_put : GoodIn wsX9_setVerse wsX0_put := goodIn_r _ [78, 48, 49, 72, 19, 20, 21, 22, 23, 89, 90, 91, 92] (by decide +kernel) (by decide +kernel)
set_option maxRecDepth 20000 in
theorem gX9_setVerse_X0_put : GoodIn wsX9_setVerse (wsV RX9 106 RX0 yX0_put wsX0_put) := goodIn_app (goodIn_of _ (by decide +kernel)) ggX9_setVerse_X0_put
theorem dX9_setVerse_0 : decode cX9_setVerse 0 = .ok (.aload_n 0, 1) := by decide +kernel
theorem dX9_setVerse_1 : decode cX9_setVerse 1 = .ok (.iload_n 1, 1) := by decide +kernel
theorem dX9_setVerse_2 : decode cX9_setVerse 2 = .ok (.iload_n 2, 1) := by decide +kernel
theorem dX9_setVerse_3 : decode cX9_setVerse 3 = .ok (.invokevirtual 98, 3) := by decide +kernel
theorem dX9_setVerse_6 : decode cX9_setVerse 6 = .ok (.ifCond .ne 5, 3) := by decide +kernel
theorem dX9_setVerse_9 : decode cX9_setVerse 9 = .ok (.iconst (-1), 1) := by decide +kernel
theorem dX9_setVerse_10 : decode cX9_setVerse 10 = .ok (.ireturn, 1) := by decide +kernel
theorem dX9_setVerse_11 : decode cX9_setVerse 11 = .ok (.iload_n 3, 1) := by decide +kernel
theorem dX9_setVerse_12 : decode cX9_setVerse 12 = .ok (.iconst 1, 1) := by decide +kernel
theorem dX9_setVerse_13 : decode cX9_setVerse 13 = .ok (.sipush 2000, 3) := by decide +kernel
theorem dX9_setVerse_16 : decode cX9_setVerse 16 = .ok (.invokestatic 62, 3) := by decide +kernel
theorem dX9_setVerse_19 : decode cX9_setVerse 19 = .ok (.ifCond .eq 14, 3) := by decide +kernel
theorem dX9_setVerse_22 : decode cX9_setVerse 22 = .ok (.iload 4, 2) := by decide +kernel
theorem dX9_setVerse_24 : decode cX9_setVerse 24 = .ok (.iconst 0, 1) := by decide +kernel
theorem dX9_setVerse_25 : decode cX9_setVerse 25 = .ok (.bipush 10, 2) := by decide +kernel
theorem dX9_setVerse_27 : decode cX9_setVerse 27 = .ok (.invokestatic 62, 3) := by decide +kernel
theorem dX9_setVerse_30 : decode cX9_setVerse 30 = .ok (.ifCond .ne 6, 3) := by decide +kernel
theorem dX9_setVerse_33 : decode cX9_setVerse 33 = .ok (.bipush (-2), 2) := by decide +kernel
theorem dX9_setVerse_35 : decode cX9_setVerse 35 = .ok (.ireturn, 1) := by decide +kernel
theorem dX9_setVerse_36 : decode cX9_setVerse 36 = .ok (.aload_n 0, 1) := by decide +kernel
theorem dX9_setVerse_37 : decode cX9_setVerse 37 = .ok (.getfield 19, 3) := by decide +kernel
theorem dX9_setVerse_40 : decode cX9_setVerse 40 = .ok (.aload_n 0, 1) := by decide +kernel
theorem dX9_setVerse_41 : decode cX9_setVerse 41 = .ok (.getfield 12, 3) := by decide +kernel
theorem dX9_setVerse_44 : decode cX9_setVerse 44 = .ok (.invokevirtual 80, 3) := by decide +kernel
theorem dX9_setVerse_47 : decode cX9_setVerse 47 = .ok (.aload_n 0, 1) := by decide +kernel
theorem dX9_setVerse_48 : decode cX9_setVerse 48 = .ok (.getfield 12, 3) := by decide +kernel
theorem dX9_setVerse_51 : decode cX9_setVerse 51 = .ok (.iload_n 1, 1) := by decide +kernel
theorem dX9_setVerse_52 : decode cX9_setVerse 52 = .ok (.invokevirtual 66, 3) := by decide +kernel
theorem dX9_setVerse_55 : decode cX9_setVerse 55 = .ok (.astore 5, 2) := by decide +kernel
theorem dX9_setVerse_57 : decode cX9_setVerse 57 = .ok (.aload 5, 2) := by decide +kernel
theorem dX9_setVerse_59 : decode cX9_setVerse 59 = .ok (.iload_n 2, 1) := by decide +kernel
theorem dX9_setVerse_60 : decode cX9_setVerse 60 = .ok (.invokevirtual 102, 3) := by decide +kernel
theorem dX9_setVerse_63 : decode cX9_setVerse 63 = .ok (.istore 6, 2) := by decide +kernel
theorem dX9_setVerse_65 : decode cX9_setVerse 65 = .ok (.aload 5, 2) := by decide +kernel
theorem dX9_setVerse_67 : decode cX9_setVerse 67 = .ok (.iload_n 2, 1) := by decide +kernel
theorem dX9_setVerse_68 : decode cX9_setVerse 68 = .ok (.iload_n 3, 1) := by decide +kernel
theorem dX9_setVerse_69 : decode cX9_setVerse 69 = .ok (.iload 4, 2) := by decide +kernel
theorem dX9_setVerse_71 : decode cX9_setVerse 71 = .ok (.invokevirtual 106, 3) := by decide +kernel
theorem dX9_setVerse_74 : decode cX9_setVerse 74 = .ok (.iload 6, 2) := by decide +kernel
theorem dX9_setVerse_76 : decode cX9_setVerse 76 = .ok (.ireturn, 1) := by decide +kernel
set_option maxRecDepth 20000 in
theorem ggX9_joinVerses_X9_isVerse : GoodIn wsX9_joinVerses wsX9_isVerse := goodIn_r _ [7, 1, 8, 9, 6, 10, 11, 12, 13, 14, 15, 16, 17, 18, 19, 20, 21, 22, 23, 122, 123, 124, 125, 126, 127, 128, 129, 130, 131, 132, 133, 134, 135] (by decide +kernel) (by decide +kernel)
set_option maxRecDepth 20000 in
theorem gX9_joinVerses_X9_isVerse : GoodIn wsX9_joinVerses (wsV RX9 98 RX9 yX9_isVerse wsX9_isVerse) := goodIn_app (goodIn_of _ (by decide +kernel)) ggX9_joinVerses_X9_isVerse
set_option maxRecDepth 20000 in
theorem ggX9_joinVerses_X7_bookOf : GoodIn wsX9_joinVerses wsX7_bookOf := goodIn_r _ [15, 16, 17, 129, 130, 131] (by decide +kernel) (by decide +kernel)
set_option maxRecDepth 20000 in
theorem gX9_joinVerses_X7_bookOf : GoodIn wsX9_joinVerses (wsV RX9 66 RX7 yX7_bookOf wsX7_bookOf) := goodIn_app (goodIn_of _ (by decide +kernel)) ggX9_joinVerses_X7_bookOf
set_option maxRecDepth 20000 in
theorem ggX9_joinVerses_X0_chapterOf : GoodIn wsX9_joinVerses wsX0_chapterOf := goodIn_r _ [27, 28, 29, 19, 20, 21, 22, 23, 30, 6, 31, 132, 133, 134, 135] (by decide +kernel) (by decide +kernel)
set_option maxRecDepth 20000 in
theorem gX9_joinVerses_X0_chapterOf : GoodIn wsX9_joinVerses (wsV RX9 110 RX0 yX0_chapterOf wsX0_chapterOf) := goodIn_app (goodIn_of _ (by decide +kernel)) ggX9_joinVerses_X0_chapterOf
set_option maxRecDepth 20000 in
theorem ggX9_joinVerses_X2_record : GoodIn wsX9_joinVerses wsX2_record := goodIn_r _ [36, 37, 38, 39, 40, 41, 35, 42, 43, 6, 44, 45, 46, 47, 14, 48, 16, 17, 49, 50, 51, 52, 21, 53, 28, 54, 55, 23, 56, 57, 58, 59, 60, 61, 62, 63, 64, 65, 66, 67, 68, 69, 70, 71, 72, 73, 136, 137, 129, 130, 131, 132, 133, 134, 135, 138, 139, 140] (by decide +kernel) (by decide +kernel)
set_option maxRecDepth 20000 in
theorem gX9_joinVerses_X2_record : GoodIn wsX9_joinVerses (wsV RX9 80 RX2 yX2_record wsX2_record) := goodIn_app (goodIn_of _ (by decide +kernel)) ggX9_joinVerses_X2_record
set_option maxRecDepth 20000 in
theorem ggX9_joinVerses_X1_groupOf : GoodIn wsX9_joinVerses wsX1_groupOf := goodIn_r _ [77, 73, 78, 79, 80, 69, 81, 71, 72, 82, 83, 84, 85, 30, 6, 31, 138, 139, 140] (by decide +kernel) (by decide +kernel)
set_option maxRecDepth 20000 in
theorem gX9_joinVerses_X1_groupOf : GoodIn wsX9_joinVerses (wsV RX9 113 RX1 yX1_groupOf wsX1_groupOf) := goodIn_app (goodIn_of _ (by decide +kernel)) ggX9_joinVerses_X1_groupOf
set_option maxRecDepth 20000 in
theorem ggX9_joinVerses_X1_merge : GoodIn wsX9_joinVerses wsX1_merge := goodIn_r _ [89, 71, 73, 72, 82, 83, 84, 69, 85, 90, 91, 92, 93, 78, 79, 80, 81, 30, 6, 31, 94, 95, 96, 97, 98, 99, 62, 63, 64, 65, 100, 43, 44, 138, 139, 140] (by decide +kernel) (by decide +kernel)
set_option maxRecDepth 20000 in
theorem gX9_joinVerses_X1_merge : GoodIn wsX9_joinVerses (wsV RX9 117 RX1 yX1_merge wsX1_merge) := goodIn_app (goodIn_of _ (by decide +kernel)) ggX9_joinVerses_X1_merge
set_option maxRecDepth 20000 in
theorem ggX9_joinVerses_X1_resize : GoodIn wsX9_joinVerses wsX1_resize := goodIn_r _ [104, 78, 79, 80, 69, 81, 71, 72, 82, 83, 84, 85, 73, 30, 6, 31, 94, 95, 96, 97, 138, 139, 140] (by decide +kernel) (by decide +kernel)
set_option maxRecDepth 20000 in
theorem gX9_joinVerses_X1_resize : GoodIn wsX9_joinVerses (wsV RX9 120 RX1 yX1_resize wsX1_resize) := goodIn_app (goodIn_of _ (by decide +kernel)) ggX9_joinVerses_X1_resize
set_option maxRecDepth 20000 in
theorem ggX9_joinVerses_X0_joinWithNext : GoodIn wsX9_joinVerses wsX0_joinWithNext := goodIn_r _ [108, 109, 59, 60, 61, 28, 23, 54, 55, 29, 19, 20, 21, 22, 110, 111, 112, 113, 30, 6, 31, 114, 115, 116, 117, 118, 119, 120, 121, 98, 99, 62, 63, 64, 65, 100, 43, 44, 132, 133, 134, 135] (by decide +kernel) (by decide +kernel)
set_option maxRecDepth 20000 in
theorem gX9_joinVerses_X0_joinWithNext : GoodIn wsX9_joinVerses (wsV RX9 123 RX0 yX0_joinWithNext wsX0_joinWithNext) := goodIn_app (goodIn_of _ (by decide +kernel)) ggX9_joinVerses_X0_joinWithNext
theorem dX9_joinVerses_0 : decode cX9_joinVerses 0 = .ok (.aload_n 0, 1) := by decide +kernel
theorem dX9_joinVerses_1 : decode cX9_joinVerses 1 = .ok (.iload_n 1, 1) := by decide +kernel
theorem dX9_joinVerses_2 : decode cX9_joinVerses 2 = .ok (.iload_n 2, 1) := by decide +kernel
theorem dX9_joinVerses_3 : decode cX9_joinVerses 3 = .ok (.invokevirtual 98, 3) := by decide +kernel
theorem dX9_joinVerses_6 : decode cX9_joinVerses 6 = .ok (.ifCond .ne 5, 3) := by decide +kernel
theorem dX9_joinVerses_9 : decode cX9_joinVerses 9 = .ok (.iconst (-1), 1) := by decide +kernel
theorem dX9_joinVerses_10 : decode cX9_joinVerses 10 = .ok (.ireturn, 1) := by decide +kernel
theorem dX9_joinVerses_11 : decode cX9_joinVerses 11 = .ok (.aload_n 0, 1) := by decide +kernel
theorem dX9_joinVerses_12 : decode cX9_joinVerses 12 = .ok (.getfield 12, 3) := by decide +kernel
theorem dX9_joinVerses_15 : decode cX9_joinVerses 15 = .ok (.iload_n 1, 1) := by decide +kernel
theorem dX9_joinVerses_16 : decode cX9_joinVerses 16 = .ok (.invokevirtual 66, 3) := by decide +kernel
theorem dX9_joinVerses_19 : decode cX9_joinVerses 19 = .ok (.astore_n 3, 1) := by decide +kernel
theorem dX9_joinVerses_20 : decode cX9_joinVerses 20 = .ok (.aload_n 3, 1) := by decide +kernel
theorem dX9_joinVerses_21 : decode cX9_joinVerses 21 = .ok (.iload_n 2, 1) := by decide +kernel
theorem dX9_joinVerses_22 : decode cX9_joinVerses 22 = .ok (.invokevirtual 110, 3) := by decide +kernel
theorem dX9_joinVerses_25 : decode cX9_joinVerses 25 = .ok (.aload_n 3, 1) := by decide +kernel
theorem dX9_joinVerses_26 : decode cX9_joinVerses 26 = .ok (.iload_n 2, 1) := by decide +kernel
theorem dX9_joinVerses_27 : decode cX9_joinVerses 27 = .ok (.iconst 1, 1) := by decide +kernel
theorem dX9_joinVerses_28 : decode cX9_joinVerses 28 = .ok (.iadd, 1) := by decide +kernel
theorem dX9_joinVerses_29 : decode cX9_joinVerses 29 = .ok (.invokevirtual 110, 3) := by decide +kernel
theorem dX9_joinVerses_32 : decode cX9_joinVerses 32 = .ok (.if_icmp .eq 6, 3) := by decide +kernel
theorem dX9_joinVerses_35 : decode cX9_joinVerses 35 = .ok (.bipush (-4), 2) := by decide +kernel
theorem dX9_joinVerses_37 : decode cX9_joinVerses 37 = .ok (.ireturn, 1) := by decide +kernel
theorem dX9_joinVerses_38 : decode cX9_joinVerses 38 = .ok (.aload_n 0, 1) := by decide +kernel
theorem dX9_joinVerses_39 : decode cX9_joinVerses 39 = .ok (.getfield 19, 3) := by decide +kernel
theorem dX9_joinVerses_42 : decode cX9_joinVerses 42 = .ok (.aload_n 0, 1) := by decide +kernel
theorem dX9_joinVerses_43 : decode cX9_joinVerses 43 = .ok (.getfield 12, 3) := by decide +kernel
theorem dX9_joinVerses_46 : decode cX9_joinVerses 46 = .ok (.invokevirtual 80, 3) := by decide +kernel
theorem dX9_joinVerses_49 : decode cX9_joinVerses 49 = .ok (.aload_n 0, 1) := by decide +kernel
theorem dX9_joinVerses_50 : decode cX9_joinVerses 50 = .ok (.getfield 12, 3) := by decide +kernel
theorem dX9_joinVerses_53 : decode cX9_joinVerses 53 = .ok (.getfield 88, 3) := by decide +kernel
theorem dX9_joinVerses_56 : decode cX9_joinVerses 56 = .ok (.iload_n 1, 1) := by decide +kernel
theorem dX9_joinVerses_57 : decode cX9_joinVerses 57 = .ok (.iload_n 2, 1) := by decide +kernel
theorem dX9_joinVerses_58 : decode cX9_joinVerses 58 = .ok (.invokevirtual 113, 3) := by decide +kernel
theorem dX9_joinVerses_61 : decode cX9_joinVerses 61 = .ok (.istore 4, 2) := by decide +kernel
theorem dX9_joinVerses_63 : decode cX9_joinVerses 63 = .ok (.aload_n 0, 1) := by decide +kernel
theorem dX9_joinVerses_64 : decode cX9_joinVerses 64 = .ok (.getfield 12, 3) := by decide +kernel
theorem dX9_joinVerses_67 : decode cX9_joinVerses 67 = .ok (.getfield 88, 3) := by decide +kernel
theorem dX9_joinVerses_70 : decode cX9_joinVerses 70 = .ok (.iload 4, 2) := by decide +kernel
theorem dX9_joinVerses_72 : decode cX9_joinVerses 72 = .ok (.aload_n 0, 1) := by decide +kernel
theorem dX9_joinVerses_73 : decode cX9_joinVerses 73 = .ok (.getfield 12, 3) := by decide +kernel
theorem dX9_joinVerses_76 : decode cX9_joinVerses 76 = .ok (.getfield 88, 3) := by decide +kernel
theorem dX9_joinVerses_79 : decode cX9_joinVerses 79 = .ok (.iload_n 1, 1) := by decide +kernel
theorem dX9_joinVerses_80 : decode cX9_joinVerses 80 = .ok (.iload_n 2, 1) := by decide +kernel
theorem dX9_joinVerses_81 : decode cX9_joinVerses 81 = .ok (.iconst 1, 1) := by decide +kernel
theorem dX9_joinVerses_82 : decode cX9_joinVerses 82 = .ok (.iadd, 1) := by decide +kernel
theorem dX9_joinVerses_83 : decode cX9_joinVerses 83 = .ok (.invokevirtual 113, 3) := by decide +kernel
theorem dX9_joinVerses_86 : decode cX9_joinVerses 86 = .ok (.invokevirtual 117, 3) := by decide +kernel
theorem dX9_joinVerses_89 : decode cX9_joinVerses 89 = .ok (.aload_n 0, 1) := by decide +kernel
theorem dX9_joinVerses_90 : decode cX9_joinVerses 90 = .ok (.getfield 12, 3) := by decide +kernel
theorem dX9_joinVerses_93 : decode cX9_joinVerses 93 = .ok (.getfield 88, 3) := by decide +kernel
theorem dX9_joinVerses_96 : decode cX9_joinVerses 96 = .ok (.iload 4, 2) := by decide +kernel
theorem dX9_joinVerses_98 : decode cX9_joinVerses 98 = .ok (.iload_n 1, 1) := by decide +kernel
theorem dX9_joinVerses_99 : decode cX9_joinVerses 99 = .ok (.iconst (-1), 1) := by decide +kernel
theorem dX9_joinVerses_100 : decode cX9_joinVerses 100 = .ok (.invokevirtual 120, 3) := by decide +kernel
theorem dX9_joinVerses_103 : decode cX9_joinVerses 103 = .ok (.aload_n 3, 1) := by decide +kernel
theorem dX9_joinVerses_104 : decode cX9_joinVerses 104 = .ok (.iload_n 2, 1) := by decide +kernel
theorem dX9_joinVerses_105 : decode cX9_joinVerses 105 = .ok (.invokevirtual 123, 3) := by decide +kernel
theorem dX9_joinVerses_108 : decode cX9_joinVerses 108 = .ok (.aload_n 3, 1) := by decide +kernel
theorem dX9_joinVerses_109 : decode cX9_joinVerses 109 = .ok (.getfield 76, 3) := by decide +kernel
theorem dX9_joinVerses_112 : decode cX9_joinVerses 112 = .ok (.ireturn, 1) := by decide +kernel
set_option maxRecDepth 20000 in
theorem ggX9_splitVerse_X9_isVerse : GoodIn wsX9_splitVerse wsX9_isVerse := goodIn_r _ [7, 1, 8, 9, 6, 10, 11, 12, 13, 14, 15, 16, 17, 18, 19, 20, 21, 22, 23, 118, 119, 120, 121, 122, 123, 124, 129, 130, 131, 125, 126, 127, 128] (by decide +kernel) (by decide +kernel)
set_option maxRecDepth 20000 in
theorem gX9_splitVerse_X9_isVerse : GoodIn wsX9_splitVerse (wsV RX9 98 RX9 yX9_isVerse wsX9_isVerse) := goodIn_app (goodIn_of _ (by decide +kernel)) ggX9_splitVerse_X9_isVerse
set_option maxRecDepth 20000 in
theorem ggX9_splitVerse_X9_isWithin : GoodIn wsX9_splitVerse wsX9_isWithin := goodIn_r _ [26] (by decide +kernel) (by decide +kernel)
set_option maxRecDepth 20000 in
theorem gX9_splitVerse_X9_isWithin : GoodIn wsX9_splitVerse (va_wsS RX9 62 yX9_isWithin wsX9_isWithin) := goodIn_app (goodIn_of _ (by decide +kernel)) ggX9_splitVerse_X9_isWithin
set_option maxRecDepth 20000 in
theorem ggX9_splitVerse_X7_bookOf : GoodIn wsX9_splitVerse wsX7_bookOf := goodIn_r _ [15, 16, 17, 129, 130, 131] (by decide +kernel) (by decide +kernel)
set_option maxRecDepth 20000 in
theorem gX9_splitVerse_X7_bookOf : GoodIn wsX9_splitVerse (wsV RX9 66 RX7 yX7_bookOf wsX7_bookOf) := goodIn_app (goodIn_of _ (by decide +kernel)) ggX9_splitVerse_X7_bookOf
set_option maxRecDepth 20000 in
theorem ggX9_splitVerse_X0_lettersOf : GoodIn wsX9_splitVerse wsX0_lettersOf := goodIn_r _ [30, 31, 32, 19, 20, 21, 22, 23, 33, 6, 34, 125, 126, 127, 128] (by decide +kernel) (by decide +kernel)
set_option maxRecDepth 20000 in
theorem gX9_splitVerse_X0_lettersOf : GoodIn wsX9_splitVerse (wsV RX9 102 RX0 yX0_lettersOf wsX0_lettersOf) := goodIn_app (goodIn_of _ (by decide +kernel)) ggX9_splitVerse_X0_lettersOf
set_option maxRecDepth 20000 in
theorem ggX9_splitVerse_X2_record : GoodIn wsX9_splitVerse wsX2_record := goodIn_r _ [39, 40, 41, 42, 43, 44, 38, 45, 25, 6, 26, 46, 47, 48, 14, 49, 16, 17, 50, 51, 52, 53, 21, 54, 55, 31, 56, 23, 57, 58, 59, 60, 61, 62, 63, 64, 65, 66, 67, 68, 69, 70, 71, 72, 73, 74, 132, 133, 129, 130, 131, 125, 126, 127, 128, 134, 135, 136] (by decide +kernel) (by decide +kernel)
set_option maxRecDepth 20000 in
theorem gX9_splitVerse_X2_record : GoodIn wsX9_splitVerse (wsV RX9 80 RX2 yX2_record wsX2_record) := goodIn_app (goodIn_of _ (by decide +kernel)) ggX9_splitVerse_X2_record
set_option maxRecDepth 20000 in
theorem ggX9_splitVerse_X1_groupOf : GoodIn wsX9_splitVerse wsX1_groupOf := goodIn_r _ [78, 74, 79, 80, 81, 70, 82, 72, 73, 83, 84, 85, 86, 33, 6, 34, 134, 135, 136] (by decide +kernel) (by decide +kernel)
set_option maxRecDepth 20000 in
theorem gX9_splitVerse_X1_groupOf : GoodIn wsX9_splitVerse (wsV RX9 113 RX1 yX1_groupOf wsX1_groupOf) := goodIn_app (goodIn_of _ (by decide +kernel)) ggX9_splitVerse_X1_groupOf
set_option maxRecDepth 20000 in
theorem ggX9_splitVerse_X1_resize : GoodIn wsX9_splitVerse wsX1_resize := goodIn_r _ [90, 79, 80, 81, 70, 82, 72, 73, 83, 84, 85, 86, 74, 33, 6, 34, 91, 92, 93, 94, 134, 135, 136] (by decide +kernel) (by decide +kernel)
set_option maxRecDepth 20000 in
theorem gX9_splitVerse_X1_resize : GoodIn wsX9_splitVerse (wsV RX9 120 RX1 yX1_resize wsX1_resize) := goodIn_app (goodIn_of _ (by decide +kernel)) ggX9_splitVerse_X1_resize
set_option maxRecDepth 20000 in
theorem ggX9_splitVerse_X0_splitBehind : GoodIn wsX9_splitVerse wsX0_splitBehind := goodIn_r _ [98, 99, 28, 29, 21, 30, 31, 32, 19, 20, 22, 23, 33, 6, 34, 100, 101, 102, 103, 56, 104, 105, 106, 107, 108, 109, 110, 111, 55, 112, 113, 114, 115, 116, 117, 63, 64, 65, 66, 24, 25, 26, 125, 126, 127, 128] (by decide +kernel) (by decide +kernel)
set_option maxRecDepth 20000 in
theorem gX9_splitVerse_X0_splitBehind : GoodIn wsX9_splitVerse (wsV RX9 127 RX0 yX0_splitBehind wsX0_splitBehind) := goodIn_app (goodIn_of _ (by decide +kernel)) ggX9_splitVerse_X0_splitBehind
theorem dX9_splitVerse_0 : decode cX9_splitVerse 0 = .ok (.aload_n 0, 1) := by decide +kernel
theorem dX9_splitVerse_1 : decode cX9_splitVerse 1 = .ok (.iload_n 1, 1) := by decide +kernel
theorem dX9_splitVerse_2 : decode cX9_splitVerse 2 = .ok (.iload_n 2, 1) := by decide +kernel
theorem dX9_splitVerse_3 : decode cX9_splitVerse 3 = .ok (.invokevirtual 98, 3) := by decide +kernel
theorem dX9_splitVerse_6 : decode cX9_splitVerse 6 = .ok (.ifCond .ne 5, 3) := by decide +kernel
theorem dX9_splitVerse_9 : decode cX9_splitVerse 9 = .ok (.iconst (-1), 1) := by decide +kernel
theorem dX9_splitVerse_10 : decode cX9_splitVerse 10 = .ok (.ireturn, 1) := by decide +kernel
theorem dX9_splitVerse_11 : decode cX9_splitVerse 11 = .ok (.iload_n 3, 1) := by decide +kernel
theorem dX9_splitVerse_12 : decode cX9_splitVerse 12 = .ok (.iconst 1, 1) := by decide +kernel
theorem dX9_splitVerse_13 : decode cX9_splitVerse 13 = .ok (.sipush 1999, 3) := by decide +kernel
theorem dX9_splitVerse_16 : decode cX9_splitVerse 16 = .ok (.invokestatic 62, 3) := by decide +kernel
theorem dX9_splitVerse_19 : decode cX9_splitVerse 19 = .ok (.ifCond .ne 6, 3) := by decide +kernel
theorem dX9_splitVerse_22 : decode cX9_splitVerse 22 = .ok (.bipush (-2), 2) := by decide +kernel
theorem dX9_splitVerse_24 : decode cX9_splitVerse 24 = .ok (.ireturn, 1) := by decide +kernel
theorem dX9_splitVerse_25 : decode cX9_splitVerse 25 = .ok (.aload_n 0, 1) := by decide +kernel
theorem dX9_splitVerse_26 : decode cX9_splitVerse 26 = .ok (.getfield 12, 3) := by decide +kernel
theorem dX9_splitVerse_29 : decode cX9_splitVerse 29 = .ok (.iload_n 1, 1) := by decide +kernel
theorem dX9_splitVerse_30 : decode cX9_splitVerse 30 = .ok (.invokevirtual 66, 3) := by decide +kernel
theorem dX9_splitVerse_33 : decode cX9_splitVerse 33 = .ok (.astore 4, 2) := by decide +kernel
theorem dX9_splitVerse_35 : decode cX9_splitVerse 35 = .ok (.iload_n 3, 1) := by decide +kernel
theorem dX9_splitVerse_36 : decode cX9_splitVerse 36 = .ok (.aload 4, 2) := by decide +kernel
theorem dX9_splitVerse_38 : decode cX9_splitVerse 38 = .ok (.iload_n 2, 1) := by decide +kernel
theorem dX9_splitVerse_39 : decode cX9_splitVerse 39 = .ok (.invokevirtual 102, 3) := by decide +kernel
theorem dX9_splitVerse_42 : decode cX9_splitVerse 42 = .ok (.if_icmp .lt 6, 3) := by decide +kernel
theorem dX9_splitVerse_45 : decode cX9_splitVerse 45 = .ok (.bipush (-4), 2) := by decide +kernel
theorem dX9_splitVerse_47 : decode cX9_splitVerse 47 = .ok (.ireturn, 1) := by decide +kernel
theorem dX9_splitVerse_48 : decode cX9_splitVerse 48 = .ok (.aload 4, 2) := by decide +kernel
theorem dX9_splitVerse_50 : decode cX9_splitVerse 50 = .ok (.getfield 76, 3) := by decide +kernel
theorem dX9_splitVerse_53 : decode cX9_splitVerse 53 = .ok (.bipush 60, 2) := by decide +kernel
theorem dX9_splitVerse_55 : decode cX9_splitVerse 55 = .ok (.if_icmp .lt 6, 3) := by decide +kernel
theorem dX9_splitVerse_58 : decode cX9_splitVerse 58 = .ok (.bipush (-3), 2) := by decide +kernel
theorem dX9_splitVerse_60 : decode cX9_splitVerse 60 = .ok (.ireturn, 1) := by decide +kernel
theorem dX9_splitVerse_61 : decode cX9_splitVerse 61 = .ok (.aload_n 0, 1) := by decide +kernel
theorem dX9_splitVerse_62 : decode cX9_splitVerse 62 = .ok (.getfield 19, 3) := by decide +kernel
theorem dX9_splitVerse_65 : decode cX9_splitVerse 65 = .ok (.aload_n 0, 1) := by decide +kernel
theorem dX9_splitVerse_66 : decode cX9_splitVerse 66 = .ok (.getfield 12, 3) := by decide +kernel
theorem dX9_splitVerse_69 : decode cX9_splitVerse 69 = .ok (.invokevirtual 80, 3) := by decide +kernel
theorem dX9_splitVerse_72 : decode cX9_splitVerse 72 = .ok (.aload_n 0, 1) := by decide +kernel
theorem dX9_splitVerse_73 : decode cX9_splitVerse 73 = .ok (.getfield 12, 3) := by decide +kernel
theorem dX9_splitVerse_76 : decode cX9_splitVerse 76 = .ok (.getfield 88, 3) := by decide +kernel
theorem dX9_splitVerse_79 : decode cX9_splitVerse 79 = .ok (.aload_n 0, 1) := by decide +kernel
theorem dX9_splitVerse_80 : decode cX9_splitVerse 80 = .ok (.getfield 12, 3) := by decide +kernel
theorem dX9_splitVerse_83 : decode cX9_splitVerse 83 = .ok (.getfield 88, 3) := by decide +kernel
theorem dX9_splitVerse_86 : decode cX9_splitVerse 86 = .ok (.iload_n 1, 1) := by decide +kernel
theorem dX9_splitVerse_87 : decode cX9_splitVerse 87 = .ok (.iload_n 2, 1) := by decide +kernel
theorem dX9_splitVerse_88 : decode cX9_splitVerse 88 = .ok (.invokevirtual 113, 3) := by decide +kernel
theorem dX9_splitVerse_91 : decode cX9_splitVerse 91 = .ok (.iload_n 1, 1) := by decide +kernel
theorem dX9_splitVerse_92 : decode cX9_splitVerse 92 = .ok (.iconst 1, 1) := by decide +kernel
theorem dX9_splitVerse_93 : decode cX9_splitVerse 93 = .ok (.invokevirtual 120, 3) := by decide +kernel
theorem dX9_splitVerse_96 : decode cX9_splitVerse 96 = .ok (.aload 4, 2) := by decide +kernel
theorem dX9_splitVerse_98 : decode cX9_splitVerse 98 = .ok (.iload_n 2, 1) := by decide +kernel
theorem dX9_splitVerse_99 : decode cX9_splitVerse 99 = .ok (.iload_n 3, 1) := by decide +kernel
theorem dX9_splitVerse_100 : decode cX9_splitVerse 100 = .ok (.invokevirtual 127, 3) := by decide +kernel
theorem dX9_splitVerse_103 : decode cX9_splitVerse 103 = .ok (.aload 4, 2) := by decide +kernel
theorem dX9_splitVerse_105 : decode cX9_splitVerse 105 = .ok (.getfield 76, 3) := by decide +kernel
theorem dX9_splitVerse_108 : decode cX9_splitVerse 108 = .ok (.ireturn, 1) := by decide +kernel
set_option maxRecDepth 20000 in
theorem ggX9_link_X1_has : GoodIn wsX9_link wsX1_has := goodIn_r _ [7, 8, 88, 89, 90] (by decide +kernel) (by decide +kernel)
set_option maxRecDepth 20000 in
theorem gX9_link_X1_has : GoodIn wsX9_link (wsV RX9 130 RX1 yX1_has wsX1_has) := goodIn_app (goodIn_of _ (by decide +kernel)) ggX9_link_X1_has
set_option maxRecDepth 20000 in
theorem ggX9_link_X2_record : GoodIn wsX9_link wsX2_record := goodIn_r _ [13, 14, 15, 16, 17, 18, 12, 19, 20, 21, 22, 23, 24, 25, 26, 27, 28, 29, 30, 31, 32, 33, 34, 35, 36, 37, 38, 39, 40, 41, 42, 43, 44, 45, 46, 47, 48, 49, 50, 51, 52, 6, 53, 54, 55, 8, 91, 92, 85, 86, 87, 93, 94, 95, 96, 88, 89, 90] (by decide +kernel) (by decide +kernel)
set_option maxRecDepth 20000 in
theorem gX9_link_X2_record : GoodIn wsX9_link (wsV RX9 80 RX2 yX2_record wsX2_record) := goodIn_app (goodIn_of _ (by decide +kernel)) ggX9_link_X2_record
set_option maxRecDepth 20000 in
theorem ggX9_link_X1_merge : GoodIn wsX9_link wsX1_merge := goodIn_r _ [59, 54, 8, 55, 60, 4, 5, 6, 7, 61, 62, 63, 64, 65, 66, 67, 68, 69, 21, 70, 71, 72, 73, 74, 75, 76, 46, 47, 48, 49, 77, 20, 22, 88, 89, 90] (by decide +kernel) (by decide +kernel)
set_option maxRecDepth 20000 in
theorem gX9_link_X1_merge : GoodIn wsX9_link (wsV RX9 117 RX1 yX1_merge wsX1_merge) := goodIn_app (goodIn_of _ (by decide +kernel)) ggX9_link_X1_merge
theorem dX9_link_0 : decode cX9_link 0 = .ok (.aload_n 0, 1) := by decide +kernel
theorem dX9_link_1 : decode cX9_link 1 = .ok (.getfield 12, 3) := by decide +kernel
theorem dX9_link_4 : decode cX9_link 4 = .ok (.getfield 88, 3) := by decide +kernel
theorem dX9_link_7 : decode cX9_link 7 = .ok (.iload_n 1, 1) := by decide +kernel
theorem dX9_link_8 : decode cX9_link 8 = .ok (.invokevirtual 130, 3) := by decide +kernel
theorem dX9_link_11 : decode cX9_link 11 = .ok (.ifCond .ne 5, 3) := by decide +kernel
theorem dX9_link_14 : decode cX9_link 14 = .ok (.iconst (-1), 1) := by decide +kernel
theorem dX9_link_15 : decode cX9_link 15 = .ok (.ireturn, 1) := by decide +kernel
theorem dX9_link_16 : decode cX9_link 16 = .ok (.aload_n 0, 1) := by decide +kernel
theorem dX9_link_17 : decode cX9_link 17 = .ok (.getfield 12, 3) := by decide +kernel
theorem dX9_link_20 : decode cX9_link 20 = .ok (.getfield 88, 3) := by decide +kernel
theorem dX9_link_23 : decode cX9_link 23 = .ok (.iload_n 1, 1) := by decide +kernel
theorem dX9_link_24 : decode cX9_link 24 = .ok (.iconst 1, 1) := by decide +kernel
theorem dX9_link_25 : decode cX9_link 25 = .ok (.iadd, 1) := by decide +kernel
theorem dX9_link_26 : decode cX9_link 26 = .ok (.invokevirtual 130, 3) := by decide +kernel
theorem dX9_link_29 : decode cX9_link 29 = .ok (.ifCond .ne 6, 3) := by decide +kernel
theorem dX9_link_32 : decode cX9_link 32 = .ok (.bipush (-4), 2) := by decide +kernel
theorem dX9_link_34 : decode cX9_link 34 = .ok (.ireturn, 1) := by decide +kernel
theorem dX9_link_35 : decode cX9_link 35 = .ok (.aload_n 0, 1) := by decide +kernel
theorem dX9_link_36 : decode cX9_link 36 = .ok (.getfield 19, 3) := by decide +kernel
theorem dX9_link_39 : decode cX9_link 39 = .ok (.aload_n 0, 1) := by decide +kernel
theorem dX9_link_40 : decode cX9_link 40 = .ok (.getfield 12, 3) := by decide +kernel
theorem dX9_link_43 : decode cX9_link 43 = .ok (.invokevirtual 80, 3) := by decide +kernel
theorem dX9_link_46 : decode cX9_link 46 = .ok (.aload_n 0, 1) := by decide +kernel
theorem dX9_link_47 : decode cX9_link 47 = .ok (.getfield 12, 3) := by decide +kernel
theorem dX9_link_50 : decode cX9_link 50 = .ok (.getfield 88, 3) := by decide +kernel
theorem dX9_link_53 : decode cX9_link 53 = .ok (.iload_n 1, 1) := by decide +kernel
theorem dX9_link_54 : decode cX9_link 54 = .ok (.iload_n 1, 1) := by decide +kernel
theorem dX9_link_55 : decode cX9_link 55 = .ok (.iconst 1, 1) := by decide +kernel
theorem dX9_link_56 : decode cX9_link 56 = .ok (.iadd, 1) := by decide +kernel
theorem dX9_link_57 : decode cX9_link 57 = .ok (.invokevirtual 117, 3) := by decide +kernel
theorem dX9_link_60 : decode cX9_link 60 = .ok (.aload_n 0, 1) := by decide +kernel
theorem dX9_link_61 : decode cX9_link 61 = .ok (.getfield 12, 3) := by decide +kernel
theorem dX9_link_64 : decode cX9_link 64 = .ok (.getfield 88, 3) := by decide +kernel
theorem dX9_link_67 : decode cX9_link 67 = .ok (.getfield 133, 3) := by decide +kernel
theorem dX9_link_70 : decode cX9_link 70 = .ok (.ireturn, 1) := by decide +kernel
set_option maxRecDepth 20000 in
theorem ggX9_part_X1_has : GoodIn wsX9_part wsX1_has := goodIn_r _ [7, 8, 85, 86, 87] (by decide +kernel) (by decide +kernel)
set_option maxRecDepth 20000 in
theorem gX9_part_X1_has : GoodIn wsX9_part (wsV RX9 130 RX1 yX1_has wsX1_has) := goodIn_app (goodIn_of _ (by decide +kernel)) ggX9_part_X1_has
set_option maxRecDepth 20000 in
theorem ggX9_part_X9_isWithin : GoodIn wsX9_part wsX9_isWithin := goodIn_r _ [12] (by decide +kernel) (by decide +kernel)
set_option maxRecDepth 20000 in
theorem gX9_part_X9_isWithin : GoodIn wsX9_part (va_wsS RX9 62 yX9_isWithin wsX9_isWithin) := goodIn_app (goodIn_of _ (by decide +kernel)) ggX9_part_X9_isWithin
set_option maxRecDepth 20000 in
theorem ggX9_part_X1_sizeOf : GoodIn wsX9_part wsX1_sizeOf := goodIn_r _ [16, 17, 18, 19, 4, 5, 6, 7, 8, 20, 11, 21, 85, 86, 87] (by decide +kernel) (by decide +kernel)
set_option maxRecDepth 20000 in
theorem gX9_part_X1_sizeOf : GoodIn wsX9_part (wsV RX9 136 RX1 yX1_sizeOf wsX1_sizeOf) := goodIn_app (goodIn_of _ (by decide +kernel)) ggX9_part_X1_sizeOf
set_option maxRecDepth 20000 in
theorem ggX9_part_X2_record : GoodIn wsX9_part wsX2_record := goodIn_r _ [26, 27, 28, 29, 30, 31, 25, 32, 10, 11, 12, 33, 34, 35, 36, 37, 38, 39, 40, 41, 42, 43, 44, 45, 46, 47, 48, 49, 50, 51, 52, 53, 54, 55, 56, 57, 58, 59, 60, 61, 62, 6, 63, 17, 18, 8, 88, 89, 82, 83, 84, 90, 91, 92, 93, 85, 86, 87] (by decide +kernel) (by decide +kernel)
set_option maxRecDepth 20000 in
theorem gX9_part_X2_record : GoodIn wsX9_part (wsV RX9 80 RX2 yX2_record wsX2_record) := goodIn_app (goodIn_of _ (by decide +kernel)) ggX9_part_X2_record
set_option maxRecDepth 20000 in
theorem ggX9_part_X1_cut : GoodIn wsX9_part wsX1_cut := goodIn_r _ [67, 8, 17, 18, 19, 4, 5, 6, 7, 68, 14, 15, 16, 20, 11, 21, 69, 70, 56, 57, 58, 59, 9, 10, 12, 71, 72, 73, 74, 85, 86, 87] (by decide +kernel) (by decide +kernel)
set_option maxRecDepth 20000 in
theorem gX9_part_X1_cut : GoodIn wsX9_part (wsV RX9 139 RX1 yX1_cut wsX1_cut) := goodIn_app (goodIn_of _ (by decide +kernel)) ggX9_part_X1_cut
theorem dX9_part_0 : decode cX9_part 0 = .ok (.aload_n 0, 1) := by decide +kernel
theorem dX9_part_1 : decode cX9_part 1 = .ok (.getfield 12, 3) := by decide +kernel
theorem dX9_part_4 : decode cX9_part 4 = .ok (.getfield 88, 3) := by decide +kernel
theorem dX9_part_7 : decode cX9_part 7 = .ok (.iload_n 1, 1) := by decide +kernel
theorem dX9_part_8 : decode cX9_part 8 = .ok (.invokevirtual 130, 3) := by decide +kernel
theorem dX9_part_11 : decode cX9_part 11 = .ok (.ifCond .ne 5, 3) := by decide +kernel
theorem dX9_part_14 : decode cX9_part 14 = .ok (.iconst (-1), 1) := by decide +kernel
theorem dX9_part_15 : decode cX9_part 15 = .ok (.ireturn, 1) := by decide +kernel
theorem dX9_part_16 : decode cX9_part 16 = .ok (.iload_n 2, 1) := by decide +kernel
theorem dX9_part_17 : decode cX9_part 17 = .ok (.iconst 0, 1) := by decide +kernel
theorem dX9_part_18 : decode cX9_part 18 = .ok (.bipush 60, 2) := by decide +kernel
theorem dX9_part_20 : decode cX9_part 20 = .ok (.invokestatic 62, 3) := by decide +kernel
theorem dX9_part_23 : decode cX9_part 23 = .ok (.ifCond .eq 13, 3) := by decide +kernel
theorem dX9_part_26 : decode cX9_part 26 = .ok (.iload_n 3, 1) := by decide +kernel
theorem dX9_part_27 : decode cX9_part 27 = .ok (.iconst 0, 1) := by decide +kernel
theorem dX9_part_28 : decode cX9_part 28 = .ok (.bipush 60, 2) := by decide +kernel
theorem dX9_part_30 : decode cX9_part 30 = .ok (.invokestatic 62, 3) := by decide +kernel
theorem dX9_part_33 : decode cX9_part 33 = .ok (.ifCond .ne 6, 3) := by decide +kernel
theorem dX9_part_36 : decode cX9_part 36 = .ok (.bipush (-2), 2) := by decide +kernel
theorem dX9_part_38 : decode cX9_part 38 = .ok (.ireturn, 1) := by decide +kernel
theorem dX9_part_39 : decode cX9_part 39 = .ok (.aload_n 0, 1) := by decide +kernel
theorem dX9_part_40 : decode cX9_part 40 = .ok (.getfield 12, 3) := by decide +kernel
theorem dX9_part_43 : decode cX9_part 43 = .ok (.getfield 88, 3) := by decide +kernel
theorem dX9_part_46 : decode cX9_part 46 = .ok (.iload_n 1, 1) := by decide +kernel
theorem dX9_part_47 : decode cX9_part 47 = .ok (.iconst 0, 1) := by decide +kernel
theorem dX9_part_48 : decode cX9_part 48 = .ok (.invokevirtual 136, 3) := by decide +kernel
theorem dX9_part_51 : decode cX9_part 51 = .ok (.iload_n 2, 1) := by decide +kernel
theorem dX9_part_52 : decode cX9_part 52 = .ok (.isub, 1) := by decide +kernel
theorem dX9_part_53 : decode cX9_part 53 = .ok (.istore 4, 2) := by decide +kernel
theorem dX9_part_55 : decode cX9_part 55 = .ok (.aload_n 0, 1) := by decide +kernel
theorem dX9_part_56 : decode cX9_part 56 = .ok (.getfield 12, 3) := by decide +kernel
theorem dX9_part_59 : decode cX9_part 59 = .ok (.getfield 88, 3) := by decide +kernel
theorem dX9_part_62 : decode cX9_part 62 = .ok (.iload_n 1, 1) := by decide +kernel
theorem dX9_part_63 : decode cX9_part 63 = .ok (.iconst 1, 1) := by decide +kernel
theorem dX9_part_64 : decode cX9_part 64 = .ok (.invokevirtual 136, 3) := by decide +kernel
theorem dX9_part_67 : decode cX9_part 67 = .ok (.iload_n 3, 1) := by decide +kernel
theorem dX9_part_68 : decode cX9_part 68 = .ok (.isub, 1) := by decide +kernel
theorem dX9_part_69 : decode cX9_part 69 = .ok (.istore 5, 2) := by decide +kernel
theorem dX9_part_71 : decode cX9_part 71 = .ok (.iload 4, 2) := by decide +kernel
theorem dX9_part_73 : decode cX9_part 73 = .ok (.ifCond .lt 22, 3) := by decide +kernel
theorem dX9_part_76 : decode cX9_part 76 = .ok (.iload 5, 2) := by decide +kernel
theorem dX9_part_78 : decode cX9_part 78 = .ok (.ifCond .lt 17, 3) := by decide +kernel
theorem dX9_part_81 : decode cX9_part 81 = .ok (.iload_n 2, 1) := by decide +kernel
theorem dX9_part_82 : decode cX9_part 82 = .ok (.iload_n 3, 1) := by decide +kernel
theorem dX9_part_83 : decode cX9_part 83 = .ok (.iadd, 1) := by decide +kernel
theorem dX9_part_84 : decode cX9_part 84 = .ok (.ifCond .eq 11, 3) := by decide +kernel
theorem dX9_part_87 : decode cX9_part 87 = .ok (.iload 4, 2) := by decide +kernel
theorem dX9_part_89 : decode cX9_part 89 = .ok (.iload 5, 2) := by decide +kernel
theorem dX9_part_91 : decode cX9_part 91 = .ok (.iadd, 1) := by decide +kernel
theorem dX9_part_92 : decode cX9_part 92 = .ok (.ifCond .ne 6, 3) := by decide +kernel
theorem dX9_part_95 : decode cX9_part 95 = .ok (.bipush (-4), 2) := by decide +kernel
theorem dX9_part_97 : decode cX9_part 97 = .ok (.ireturn, 1) := by decide +kernel
theorem dX9_part_98 : decode cX9_part 98 = .ok (.aload_n 0, 1) := by decide +kernel
theorem dX9_part_99 : decode cX9_part 99 = .ok (.getfield 19, 3) := by decide +kernel
theorem dX9_part_102 : decode cX9_part 102 = .ok (.aload_n 0, 1) := by decide +kernel
theorem dX9_part_103 : decode cX9_part 103 = .ok (.getfield 12, 3) := by decide +kernel
theorem dX9_part_106 : decode cX9_part 106 = .ok (.invokevirtual 80, 3) := by decide +kernel
theorem dX9_part_109 : decode cX9_part 109 = .ok (.aload_n 0, 1) := by decide +kernel
theorem dX9_part_110 : decode cX9_part 110 = .ok (.getfield 12, 3) := by decide +kernel
theorem dX9_part_113 : decode cX9_part 113 = .ok (.getfield 88, 3) := by decide +kernel
theorem dX9_part_116 : decode cX9_part 116 = .ok (.iload_n 1, 1) := by decide +kernel
theorem dX9_part_117 : decode cX9_part 117 = .ok (.iload_n 2, 1) := by decide +kernel
theorem dX9_part_118 : decode cX9_part 118 = .ok (.iload_n 3, 1) := by decide +kernel
theorem dX9_part_119 : decode cX9_part 119 = .ok (.invokevirtual 139, 3) := by decide +kernel
theorem dX9_part_122 : decode cX9_part 122 = .ok (.aload_n 0, 1) := by decide +kernel
theorem dX9_part_123 : decode cX9_part 123 = .ok (.getfield 12, 3) := by decide +kernel
theorem dX9_part_126 : decode cX9_part 126 = .ok (.getfield 88, 3) := by decide +kernel
theorem dX9_part_129 : decode cX9_part 129 = .ok (.getfield 133, 3) := by decide +kernel
theorem dX9_part_132 : decode cX9_part 132 = .ok (.ireturn, 1) := by decide +kernel
set_option maxRecDepth 20000 in
theorem ggX9_readMap_X4_read : GoodIn wsX9_readMap wsX4_read := goodIn_r _ [9, 10, 11, 12, 13, 14, 15, 16, 17, 18, 19, 20, 21, 22, 23, 24, 25, 26, 27, 28, 29, 30, 8, 31, 32, 33, 34, 35, 36, 37, 38, 39, 40, 41, 42, 43, 44, 45, 46, 47, 48, 49, 50, 51, 52, 53, 54, 55, 56, 57, 58, 59, 60, 61, 62, 63, 64, 65, 66, 67, 68, 69, 70, 71, 72, 73, 74, 75, 76, 77, 78, 79, 80, 81, 82, 83, 84, 85, 86, 87, 88, 89, 90, 91, 92, 93, 94, 95, 96, 97, 98, 99, 100, 101, 102, 103, 104, 105, 159, 160, 161, 156, 157, 158, 165, 166, 167, 168, 169, 170, 171, 172, 173, 174, 162, 163, 164] (by decide +kernel) (by decide +kernel)
set_option maxRecDepth 20000 in
theorem gX9_readMap_X4_read : GoodIn wsX9_readMap (wsV RX9 142 RX4 yX4_read wsX4_read) := goodIn_app (goodIn_of _ (by decide +kernel)) ggX9_readMap_X4_read
set_option maxRecDepth 20000 in
theorem ggX9_readMap_X2_record : GoodIn wsX9_readMap wsX2_record := goodIn_r _ [110, 111, 112, 113, 114, 115, 109, 116, 46, 47, 48, 117, 118, 119, 120, 121, 122, 123, 124, 125, 126, 127, 128, 129, 130, 131, 132, 133, 134, 135, 136, 137, 138, 139, 140, 141, 142, 143, 144, 145, 146, 25, 147, 94, 95, 27, 175, 176, 156, 157, 158, 165, 166, 167, 168, 162, 163, 164] (by decide +kernel) (by decide +kernel)
set_option maxRecDepth 20000 in
theorem gX9_readMap_X2_record : GoodIn wsX9_readMap (wsV RX9 80 RX2 yX2_record wsX2_record) := goodIn_app (goodIn_of _ (by decide +kernel)) ggX9_readMap_X2_record
set_option maxRecDepth 20000 in
theorem ggX9_readMap_X1_copyFrom : GoodIn wsX9_readMap wsX1_copyFrom := goodIn_r _ [147, 94, 95, 27, 134, 47, 135, 136, 137, 138, 139, 140, 141, 142, 143, 162, 163, 164] (by decide +kernel) (by decide +kernel)
set_option maxRecDepth 20000 in
theorem gX9_readMap_X1_copyFrom : GoodIn wsX9_readMap (wsV RX9 147 RX1 yX1_copyFrom wsX1_copyFrom) := goodIn_app (goodIn_of _ (by decide +kernel)) ggX9_readMap_X1_copyFrom
theorem dX9_readMap_0 : decode cX9_readMap 0 = .ok (.aload_n 0, 1) := by decide +kernel
theorem dX9_readMap_1 : decode cX9_readMap 1 = .ok (.getfield 40, 3) := by decide +kernel
theorem dX9_readMap_4 : decode cX9_readMap 4 = .ok (.aload_n 0, 1) := by decide +kernel
theorem dX9_readMap_5 : decode cX9_readMap 5 = .ok (.getfield 26, 3) := by decide +kernel
theorem dX9_readMap_8 : decode cX9_readMap 8 = .ok (.aload_n 0, 1) := by decide +kernel
theorem dX9_readMap_9 : decode cX9_readMap 9 = .ok (.getfield 12, 3) := by decide +kernel
theorem dX9_readMap_12 : decode cX9_readMap 12 = .ok (.invokevirtual 142, 3) := by decide +kernel
theorem dX9_readMap_15 : decode cX9_readMap 15 = .ok (.istore_n 1, 1) := by decide +kernel
theorem dX9_readMap_16 : decode cX9_readMap 16 = .ok (.iload_n 1, 1) := by decide +kernel
theorem dX9_readMap_17 : decode cX9_readMap 17 = .ok (.iconst (-1), 1) := by decide +kernel
theorem dX9_readMap_18 : decode cX9_readMap 18 = .ok (.if_icmp .eq 8, 3) := by decide +kernel
theorem dX9_readMap_21 : decode cX9_readMap 21 = .ok (.bipush (-100), 2) := by decide +kernel
theorem dX9_readMap_23 : decode cX9_readMap 23 = .ok (.iload_n 1, 1) := by decide +kernel
theorem dX9_readMap_24 : decode cX9_readMap 24 = .ok (.isub, 1) := by decide +kernel
theorem dX9_readMap_25 : decode cX9_readMap 25 = .ok (.ireturn, 1) := by decide +kernel
theorem dX9_readMap_26 : decode cX9_readMap 26 = .ok (.aload_n 0, 1) := by decide +kernel
theorem dX9_readMap_27 : decode cX9_readMap 27 = .ok (.getfield 19, 3) := by decide +kernel
theorem dX9_readMap_30 : decode cX9_readMap 30 = .ok (.aload_n 0, 1) := by decide +kernel
theorem dX9_readMap_31 : decode cX9_readMap 31 = .ok (.getfield 12, 3) := by decide +kernel
theorem dX9_readMap_34 : decode cX9_readMap 34 = .ok (.invokevirtual 80, 3) := by decide +kernel
theorem dX9_readMap_37 : decode cX9_readMap 37 = .ok (.aload_n 0, 1) := by decide +kernel
theorem dX9_readMap_38 : decode cX9_readMap 38 = .ok (.getfield 12, 3) := by decide +kernel
theorem dX9_readMap_41 : decode cX9_readMap 41 = .ok (.getfield 88, 3) := by decide +kernel
theorem dX9_readMap_44 : decode cX9_readMap 44 = .ok (.aload_n 0, 1) := by decide +kernel
theorem dX9_readMap_45 : decode cX9_readMap 45 = .ok (.getfield 40, 3) := by decide +kernel
theorem dX9_readMap_48 : decode cX9_readMap 48 = .ok (.getfield 146, 3) := by decide +kernel
theorem dX9_readMap_51 : decode cX9_readMap 51 = .ok (.invokevirtual 147, 3) := by decide +kernel
theorem dX9_readMap_54 : decode cX9_readMap 54 = .ok (.aload_n 0, 1) := by decide +kernel
theorem dX9_readMap_55 : decode cX9_readMap 55 = .ok (.getfield 12, 3) := by decide +kernel
theorem dX9_readMap_58 : decode cX9_readMap 58 = .ok (.getfield 88, 3) := by decide +kernel
theorem dX9_readMap_61 : decode cX9_readMap 61 = .ok (.getfield 133, 3) := by decide +kernel
theorem dX9_readMap_64 : decode cX9_readMap 64 = .ok (.ireturn, 1) := by decide +kernel
set_option maxRecDepth 20000 in
theorem ggX9_pairAll_X2_record : GoodIn wsX9_pairAll wsX2_record := goodIn_r _ [11, 12, 13, 14, 15, 16, 10, 17, 18, 19, 20, 21, 22, 23, 24, 25, 26, 27, 28, 29, 30, 31, 32, 33, 34, 35, 36, 37, 38, 39, 40, 41, 5, 42, 43, 44, 45, 46, 47, 48, 49, 50, 51, 52, 53, 54, 88, 89, 78, 79, 80, 81, 82, 83, 84, 85, 86, 87] (by decide +kernel) (by decide +kernel)
set_option maxRecDepth 20000 in
theorem gX9_pairAll_X2_record : GoodIn wsX9_pairAll (wsV RX9 80 RX2 yX2_record wsX2_record) := goodIn_app (goodIn_of _ (by decide +kernel)) ggX9_pairAll_X2_record
set_option maxRecDepth 20000 in
theorem ggX9_pairAll_X1_clear : GoodIn wsX9_pairAll wsX1_clear := goodIn_r _ [58, 54, 85, 86, 87] (by decide +kernel) (by decide +kernel)
set_option maxRecDepth 20000 in
theorem gX9_pairAll_X1_clear : GoodIn wsX9_pairAll (wsV RX9 151 RX1 yX1_clear wsX1_clear) := goodIn_app (goodIn_of _ (by decide +kernel)) ggX9_pairAll_X1_clear
set_option maxRecDepth 20000 in
theorem ggX9_pairAll_X1_append : GoodIn wsX9_pairAll wsX1_append := goodIn_r _ [62, 54, 63, 64, 65, 50, 66, 52, 53, 67, 68, 69, 70, 85, 86, 87] (by decide +kernel) (by decide +kernel)
set_option maxRecDepth 20000 in
theorem gX9_pairAll_X1_append : GoodIn wsX9_pairAll (wsV RX9 92 RX1 yX1_append wsX1_append) := goodIn_app (goodIn_of _ (by decide +kernel)) ggX9_pairAll_X1_append
theorem dX9_pairAll_0 : decode cX9_pairAll 0 = .ok (.aload_n 0, 1) := by decide +kernel
theorem dX9_pairAll_1 : decode cX9_pairAll 1 = .ok (.getfield 19, 3) := by decide +kernel
theorem dX9_pairAll_4 : decode cX9_pairAll 4 = .ok (.aload_n 0, 1) := by decide +kernel
theorem dX9_pairAll_5 : decode cX9_pairAll 5 = .ok (.getfield 12, 3) := by decide +kernel
theorem dX9_pairAll_8 : decode cX9_pairAll 8 = .ok (.invokevirtual 80, 3) := by decide +kernel
theorem dX9_pairAll_11 : decode cX9_pairAll 11 = .ok (.aload_n 0, 1) := by decide +kernel
theorem dX9_pairAll_12 : decode cX9_pairAll 12 = .ok (.getfield 12, 3) := by decide +kernel
theorem dX9_pairAll_15 : decode cX9_pairAll 15 = .ok (.getfield 88, 3) := by decide +kernel
theorem dX9_pairAll_18 : decode cX9_pairAll 18 = .ok (.invokevirtual 151, 3) := by decide +kernel
theorem dX9_pairAll_21 : decode cX9_pairAll 21 = .ok (.aload_n 0, 1) := by decide +kernel
theorem dX9_pairAll_22 : decode cX9_pairAll 22 = .ok (.getfield 12, 3) := by decide +kernel
theorem dX9_pairAll_25 : decode cX9_pairAll 25 = .ok (.getfield 154, 3) := by decide +kernel
theorem dX9_pairAll_28 : decode cX9_pairAll 28 = .ok (.getfield 76, 3) := by decide +kernel
theorem dX9_pairAll_31 : decode cX9_pairAll 31 = .ok (.aload_n 0, 1) := by decide +kernel
theorem dX9_pairAll_32 : decode cX9_pairAll 32 = .ok (.getfield 12, 3) := by decide +kernel
theorem dX9_pairAll_35 : decode cX9_pairAll 35 = .ok (.getfield 158, 3) := by decide +kernel
theorem dX9_pairAll_38 : decode cX9_pairAll 38 = .ok (.getfield 76, 3) := by decide +kernel
theorem dX9_pairAll_41 : decode cX9_pairAll 41 = .ok (.invokestatic 161, 3) := by decide +kernel
theorem dX9_pairAll_44 : decode cX9_pairAll 44 = .ok (.istore_n 1, 1) := by decide +kernel
theorem dX9_pairAll_45 : decode cX9_pairAll 45 = .ok (.iconst 0, 1) := by decide +kernel
theorem dX9_pairAll_46 : decode cX9_pairAll 46 = .ok (.istore_n 2, 1) := by decide +kernel
theorem dX9_pairAll_47 : decode cX9_pairAll 47 = .ok (.iload_n 2, 1) := by decide +kernel
theorem dX9_pairAll_48 : decode cX9_pairAll 48 = .ok (.iload_n 1, 1) := by decide +kernel
theorem dX9_pairAll_49 : decode cX9_pairAll 49 = .ok (.if_icmp .ge 57, 3) := by decide +kernel
theorem dX9_pairAll_52 : decode cX9_pairAll 52 = .ok (.aload_n 0, 1) := by decide +kernel
theorem dX9_pairAll_53 : decode cX9_pairAll 53 = .ok (.getfield 12, 3) := by decide +kernel
theorem dX9_pairAll_56 : decode cX9_pairAll 56 = .ok (.getfield 88, 3) := by decide +kernel
theorem dX9_pairAll_59 : decode cX9_pairAll 59 = .ok (.iload_n 2, 1) := by decide +kernel
theorem dX9_pairAll_60 : decode cX9_pairAll 60 = .ok (.aload_n 0, 1) := by decide +kernel
theorem dX9_pairAll_61 : decode cX9_pairAll 61 = .ok (.getfield 12, 3) := by decide +kernel
theorem dX9_pairAll_64 : decode cX9_pairAll 64 = .ok (.getfield 154, 3) := by decide +kernel
theorem dX9_pairAll_67 : decode cX9_pairAll 67 = .ok (.getfield 76, 3) := by decide +kernel
theorem dX9_pairAll_70 : decode cX9_pairAll 70 = .ok (.if_icmp .ge 7, 3) := by decide +kernel
theorem dX9_pairAll_73 : decode cX9_pairAll 73 = .ok (.iconst 1, 1) := by decide +kernel
theorem dX9_pairAll_74 : decode cX9_pairAll 74 = .ok (.goto 4, 3) := by decide +kernel
theorem dX9_pairAll_77 : decode cX9_pairAll 77 = .ok (.iconst 0, 1) := by decide +kernel
theorem dX9_pairAll_78 : decode cX9_pairAll 78 = .ok (.iload_n 2, 1) := by decide +kernel
theorem dX9_pairAll_79 : decode cX9_pairAll 79 = .ok (.aload_n 0, 1) := by decide +kernel
theorem dX9_pairAll_80 : decode cX9_pairAll 80 = .ok (.getfield 12, 3) := by decide +kernel
theorem dX9_pairAll_83 : decode cX9_pairAll 83 = .ok (.getfield 158, 3) := by decide +kernel
theorem dX9_pairAll_86 : decode cX9_pairAll 86 = .ok (.getfield 76, 3) := by decide +kernel
theorem dX9_pairAll_89 : decode cX9_pairAll 89 = .ok (.if_icmp .ge 7, 3) := by decide +kernel
theorem dX9_pairAll_92 : decode cX9_pairAll 92 = .ok (.iconst 1, 1) := by decide +kernel
theorem dX9_pairAll_93 : decode cX9_pairAll 93 = .ok (.goto 4, 3) := by decide +kernel
theorem dX9_pairAll_96 : decode cX9_pairAll 96 = .ok (.iconst 0, 1) := by decide +kernel
theorem dX9_pairAll_97 : decode cX9_pairAll 97 = .ok (.invokevirtual 92, 3) := by decide +kernel
theorem dX9_pairAll_100 : decode cX9_pairAll 100 = .ok (.iinc 2 1, 3) := by decide +kernel
theorem dX9_pairAll_103 : decode cX9_pairAll 103 = .ok (.goto (-56), 3) := by decide +kernel
theorem dX9_pairAll_106 : decode cX9_pairAll 106 = .ok (.aload_n 0, 1) := by decide +kernel
theorem dX9_pairAll_107 : decode cX9_pairAll 107 = .ok (.getfield 12, 3) := by decide +kernel
theorem dX9_pairAll_110 : decode cX9_pairAll 110 = .ok (.getfield 88, 3) := by decide +kernel
theorem dX9_pairAll_113 : decode cX9_pairAll 113 = .ok (.getfield 133, 3) := by decide +kernel
theorem dX9_pairAll_116 : decode cX9_pairAll 116 = .ok (.ireturn, 1) := by decide +kernel
set_option maxRecDepth 20000 in
theorem ggX9_exchange_X2_record : GoodIn wsX9_exchange wsX2_record := goodIn_r _ [7, 8, 9, 10, 11, 12, 6, 13, 14, 15, 16, 17, 18, 19, 20, 21, 22, 23, 24, 25, 26, 27, 28, 29, 30, 31, 32, 33, 34, 35, 36, 37, 38, 39, 40, 41, 42, 43, 44, 45, 46, 47, 48, 49, 50, 51, 84, 85, 81, 82, 83, 86, 87, 88, 89, 90, 91, 92] (by decide +kernel) (by decide +kernel)
set_option maxRecDepth 20000 in
theorem gX9_exchange_X2_record : GoodIn wsX9_exchange (wsV RX9 80 RX2 yX2_record wsX2_record) := goodIn_app (goodIn_of _ (by decide +kernel)) ggX9_exchange_X2_record
set_option maxRecDepth 20000 in
theorem ggX9_exchange_X7_swapBooks : GoodIn wsX9_exchange wsX7_swapBooks := goodIn_r _ [55, 22, 23, 24, 56, 57, 58, 47, 59, 49, 50, 81, 82, 83, 90, 91, 92] (by decide +kernel) (by decide +kernel)
set_option maxRecDepth 20000 in
theorem gX9_exchange_X7_swapBooks : GoodIn wsX9_exchange (wsV RX9 166 RX7 yX7_swapBooks wsX7_swapBooks) := goodIn_app (goodIn_of _ (by decide +kernel)) ggX9_exchange_X7_swapBooks
set_option maxRecDepth 20000 in
theorem ggX9_exchange_X1_alikeTotal : GoodIn wsX9_exchange wsX1_alikeTotal := goodIn_r _ [63, 51, 64, 65, 66, 47, 67, 49, 50, 68, 69, 70, 71, 72, 15, 73, 90, 91, 92] (by decide +kernel) (by decide +kernel)
set_option maxRecDepth 20000 in
theorem gX9_exchange_X1_alikeTotal : GoodIn wsX9_exchange (wsV RX9 169 RX1 yX1_alikeTotal wsX1_alikeTotal) := goodIn_app (goodIn_of _ (by decide +kernel)) ggX9_exchange_X1_alikeTotal
theorem dX9_exchange_0 : decode cX9_exchange 0 = .ok (.aload_n 0, 1) := by decide +kernel
theorem dX9_exchange_1 : decode cX9_exchange 1 = .ok (.getfield 19, 3) := by decide +kernel
theorem dX9_exchange_4 : decode cX9_exchange 4 = .ok (.aload_n 0, 1) := by decide +kernel
theorem dX9_exchange_5 : decode cX9_exchange 5 = .ok (.getfield 12, 3) := by decide +kernel
theorem dX9_exchange_8 : decode cX9_exchange 8 = .ok (.invokevirtual 80, 3) := by decide +kernel
theorem dX9_exchange_11 : decode cX9_exchange 11 = .ok (.aload_n 0, 1) := by decide +kernel
theorem dX9_exchange_12 : decode cX9_exchange 12 = .ok (.getfield 12, 3) := by decide +kernel
theorem dX9_exchange_15 : decode cX9_exchange 15 = .ok (.invokevirtual 166, 3) := by decide +kernel
theorem dX9_exchange_18 : decode cX9_exchange 18 = .ok (.aload_n 0, 1) := by decide +kernel
theorem dX9_exchange_19 : decode cX9_exchange 19 = .ok (.getfield 12, 3) := by decide +kernel
theorem dX9_exchange_22 : decode cX9_exchange 22 = .ok (.getfield 88, 3) := by decide +kernel
theorem dX9_exchange_25 : decode cX9_exchange 25 = .ok (.invokevirtual 169, 3) := by decide +kernel
theorem dX9_exchange_28 : decode cX9_exchange 28 = .ok (.ireturn, 1) := by decide +kernel
set_option maxRecDepth 20000 in
theorem ggX9_undo_X2_restore : GoodIn wsX9_undo wsX2_restore := goodIn_r _ [7, 8, 9, 10, 11, 12, 13, 14, 15, 16, 17, 18, 19, 20, 21, 22, 23, 24, 25, 26, 27, 28, 29, 30, 31, 32, 33, 34, 35, 36, 37, 38, 39, 40, 41, 42, 43, 44, 45, 53, 54, 55, 56, 57, 58, 59, 60, 61, 62, 63, 64] (by decide +kernel) (by decide +kernel)
set_option maxRecDepth 20000 in
theorem gX9_undo_X2_restore : GoodIn wsX9_undo (wsV RX9 175 RX2 yX2_restore wsX2_restore) := goodIn_app (goodIn_of _ (by decide +kernel)) ggX9_undo_X2_restore
theorem dX9_undo_0 : decode cX9_undo 0 = .ok (.aload_n 0, 1) := by decide +kernel
theorem dX9_undo_1 : decode cX9_undo 1 = .ok (.getfield 19, 3) := by decide +kernel
theorem dX9_undo_4 : decode cX9_undo 4 = .ok (.getfield 172, 3) := by decide +kernel
theorem dX9_undo_7 : decode cX9_undo 7 = .ok (.ifCond .ne 6, 3) := by decide +kernel
theorem dX9_undo_10 : decode cX9_undo 10 = .ok (.bipush (-5), 2) := by decide +kernel
theorem dX9_undo_12 : decode cX9_undo 12 = .ok (.ireturn, 1) := by decide +kernel
theorem dX9_undo_13 : decode cX9_undo 13 = .ok (.aload_n 0, 1) := by decide +kernel
theorem dX9_undo_14 : decode cX9_undo 14 = .ok (.getfield 19, 3) := by decide +kernel
theorem dX9_undo_17 : decode cX9_undo 17 = .ok (.aload_n 0, 1) := by decide +kernel
theorem dX9_undo_18 : decode cX9_undo 18 = .ok (.getfield 12, 3) := by decide +kernel
theorem dX9_undo_21 : decode cX9_undo 21 = .ok (.invokevirtual 175, 3) := by decide +kernel
theorem dX9_undo_24 : decode cX9_undo 24 = .ok (.aload_n 0, 1) := by decide +kernel
theorem dX9_undo_25 : decode cX9_undo 25 = .ok (.getfield 19, 3) := by decide +kernel
theorem dX9_undo_28 : decode cX9_undo 28 = .ok (.getfield 172, 3) := by decide +kernel
theorem dX9_undo_31 : decode cX9_undo 31 = .ok (.ireturn, 1) := by decide +kernel
set_option maxRecDepth 20000 in
theorem ggX9_type_X8_append : GoodIn wsX9_type wsX8_append := goodIn_r _ [6, 7, 8, 9, 10, 11, 19, 20, 21, 22, 23, 24] (by decide +kernel) (by decide +kernel)
set_option maxRecDepth 20000 in
theorem gX9_type_X8_append : GoodIn wsX9_type (wsV RX9 178 RX8 yX8_append wsX8_append) := goodIn_app (goodIn_of _ (by decide +kernel)) ggX9_type_X8_append
theorem dX9_type_0 : decode cX9_type 0 = .ok (.aload_n 0, 1) := by decide +kernel
theorem dX9_type_1 : decode cX9_type 1 = .ok (.getfield 26, 3) := by decide +kernel
theorem dX9_type_4 : decode cX9_type 4 = .ok (.iload_n 1, 1) := by decide +kernel
theorem dX9_type_5 : decode cX9_type 5 = .ok (.invokevirtual 178, 3) := by decide +kernel
theorem dX9_type_8 : decode cX9_type 8 = .ok (.ifCond .eq 13, 3) := by decide +kernel
theorem dX9_type_11 : decode cX9_type 11 = .ok (.aload_n 0, 1) := by decide +kernel
theorem dX9_type_12 : decode cX9_type 12 = .ok (.getfield 26, 3) := by decide +kernel
theorem dX9_type_15 : decode cX9_type 15 = .ok (.getfield 181, 3) := by decide +kernel
theorem dX9_type_18 : decode cX9_type 18 = .ok (.goto 5, 3) := by decide +kernel
theorem dX9_type_21 : decode cX9_type 21 = .ok (.bipush (-3), 2) := by decide +kernel
theorem dX9_type_23 : decode cX9_type 23 = .ok (.ireturn, 1) := by decide +kernel
set_option maxRecDepth 20000 in
theorem ggX9_clearText_X8_clear : GoodIn wsX9_clearText wsX8_clear := goodIn_r _ [6, 7, 15, 16, 17, 18, 19, 20] (by decide +kernel) (by decide +kernel)
set_option maxRecDepth 20000 in
theorem gX9_clearText_X8_clear : GoodIn wsX9_clearText (wsV RX9 184 RX8 yX8_clear wsX8_clear) := goodIn_app (goodIn_of _ (by decide +kernel)) ggX9_clearText_X8_clear
theorem dX9_clearText_0 : decode cX9_clearText 0 = .ok (.aload_n 0, 1) := by decide +kernel
theorem dX9_clearText_1 : decode cX9_clearText 1 = .ok (.getfield 26, 3) := by decide +kernel
theorem dX9_clearText_4 : decode cX9_clearText 4 = .ok (.getfield 181, 3) := by decide +kernel
theorem dX9_clearText_7 : decode cX9_clearText 7 = .ok (.istore_n 1, 1) := by decide +kernel
theorem dX9_clearText_8 : decode cX9_clearText 8 = .ok (.aload_n 0, 1) := by decide +kernel
theorem dX9_clearText_9 : decode cX9_clearText 9 = .ok (.getfield 26, 3) := by decide +kernel
theorem dX9_clearText_12 : decode cX9_clearText 12 = .ok (.invokevirtual 184, 3) := by decide +kernel
theorem dX9_clearText_15 : decode cX9_clearText 15 = .ok (.iload_n 1, 1) := by decide +kernel
theorem dX9_clearText_16 : decode cX9_clearText 16 = .ok (.ireturn, 1) := by decide +kernel
set_option maxRecDepth 20000 in
theorem ggX9_refer_X9_isBook : GoodIn wsX9_refer wsX9_isBook := goodIn_r _ [8] (by decide +kernel) (by decide +kernel)
set_option maxRecDepth 20000 in
theorem gX9_refer_X9_isBook : GoodIn wsX9_refer (va_wsS RX9 58 yX9_isBook wsX9_isBook) := goodIn_app (goodIn_of _ (by decide +kernel)) ggX9_refer_X9_isBook
set_option maxRecDepth 20000 in
theorem ggX9_refer_X9_isWithin : GoodIn wsX9_refer wsX9_isWithin := goodIn_r _ [11] (by decide +kernel) (by decide +kernel)
set_option maxRecDepth 20000 in
theorem gX9_refer_X9_isWithin : GoodIn wsX9_refer (va_wsS RX9 62 yX9_isWithin wsX9_isWithin) := goodIn_app (goodIn_of _ (by decide +kernel)) ggX9_refer_X9_isWithin
set_option maxRecDepth 20000 in
theorem ggX9_refer_X7_bookOf : GoodIn wsX9_refer wsX7_bookOf := goodIn_r _ [16, 17, 18, 162, 163, 164] (by decide +kernel) (by decide +kernel)
set_option maxRecDepth 20000 in
theorem gX9_refer_X7_bookOf : GoodIn wsX9_refer (wsV RX9 66 RX7 yX7_bookOf wsX7_bookOf) := goodIn_app (goodIn_of _ (by decide +kernel)) ggX9_refer_X7_bookOf
set_option maxRecDepth 20000 in
theorem ggX9_refer_X6_read : GoodIn wsX9_refer wsX6_read := goodIn_r _ [23, 24, 25, 26, 27, 28, 29, 30, 31, 32, 33, 34, 35, 36, 37, 38, 39, 40, 41, 42, 43, 44, 45, 46, 47, 48, 10, 7, 11, 49, 50, 51, 52, 53, 54, 55, 56, 57, 58, 59, 60, 61, 62, 63, 64, 65, 66, 67, 68, 69, 70, 71, 22, 72, 73, 74, 75, 76, 77, 78, 79, 80, 81, 82, 83, 84, 85, 86, 87, 88, 89, 90, 91, 92, 93, 94, 95, 96, 97, 98, 99, 100, 101, 102, 103, 104, 105, 106, 107, 108, 109, 110, 111, 112, 113, 114, 115, 116, 117, 118, 119, 120, 165, 166, 167, 168, 169, 170, 171, 172, 173, 174, 175, 176] (by decide +kernel) (by decide +kernel)
set_option maxRecDepth 20000 in
theorem gX9_refer_X6_read : GoodIn wsX9_refer (wsV RX9 185 RX6 yX6_read wsX6_read) := goodIn_app (goodIn_of _ (by decide +kernel)) ggX9_refer_X6_read
set_option maxRecDepth 20000 in
theorem ggX9_refer_X5_measure : GoodIn wsX9_refer wsX5_measure := goodIn_r _ [125, 126, 127, 128, 129, 130, 131, 132, 133, 134, 135, 136, 137, 138, 139, 140, 141, 142, 143, 144, 88, 7, 89, 145, 146, 147, 148, 149, 124, 150, 177, 178, 179, 180, 181, 182, 183, 184, 185, 186] (by decide +kernel) (by decide +kernel)
set_option maxRecDepth 20000 in
theorem gX9_refer_X5_measure : GoodIn wsX9_refer (wsV RX9 194 RX5 yX5_measure wsX5_measure) := goodIn_app (goodIn_of _ (by decide +kernel)) ggX9_refer_X5_measure
set_option maxRecDepth 20000 in
theorem ggX9_refer_X5_property : GoodIn wsX9_refer wsX5_property := goodIn_r _ [154, 126, 127, 129, 130, 128, 131, 132, 177, 178, 179, 180, 181, 182, 183] (by decide +kernel) (by decide +kernel)
set_option maxRecDepth 20000 in
theorem gX9_refer_X5_property : GoodIn wsX9_refer (wsV RX9 198 RX5 yX5_property wsX5_property) := goodIn_app (goodIn_of _ (by decide +kernel)) ggX9_refer_X5_property
theorem dX9_refer_0 : decode cX9_refer 0 = .ok (.iload_n 1, 1) := by decide +kernel
theorem dX9_refer_1 : decode cX9_refer 1 = .ok (.invokestatic 58, 3) := by decide +kernel
theorem dX9_refer_4 : decode cX9_refer 4 = .ok (.ifCond .ne 5, 3) := by decide +kernel
theorem dX9_refer_7 : decode cX9_refer 7 = .ok (.iconst (-1), 1) := by decide +kernel
theorem dX9_refer_8 : decode cX9_refer 8 = .ok (.ireturn, 1) := by decide +kernel
theorem dX9_refer_9 : decode cX9_refer 9 = .ok (.iload_n 2, 1) := by decide +kernel
theorem dX9_refer_10 : decode cX9_refer 10 = .ok (.iconst 0, 1) := by decide +kernel
theorem dX9_refer_11 : decode cX9_refer 11 = .ok (.bipush 6, 2) := by decide +kernel
theorem dX9_refer_13 : decode cX9_refer 13 = .ok (.invokestatic 62, 3) := by decide +kernel
theorem dX9_refer_16 : decode cX9_refer 16 = .ok (.ifCond .ne 6, 3) := by decide +kernel
theorem dX9_refer_19 : decode cX9_refer 19 = .ok (.bipush (-2), 2) := by decide +kernel
theorem dX9_refer_21 : decode cX9_refer 21 = .ok (.ireturn, 1) := by decide +kernel
theorem dX9_refer_22 : decode cX9_refer 22 = .ok (.aload_n 0, 1) := by decide +kernel
theorem dX9_refer_23 : decode cX9_refer 23 = .ok (.getfield 33, 3) := by decide +kernel
theorem dX9_refer_26 : decode cX9_refer 26 = .ok (.aload_n 0, 1) := by decide +kernel
theorem dX9_refer_27 : decode cX9_refer 27 = .ok (.getfield 26, 3) := by decide +kernel
theorem dX9_refer_30 : decode cX9_refer 30 = .ok (.aload_n 0, 1) := by decide +kernel
theorem dX9_refer_31 : decode cX9_refer 31 = .ok (.getfield 12, 3) := by decide +kernel
theorem dX9_refer_34 : decode cX9_refer 34 = .ok (.iload_n 1, 1) := by decide +kernel
theorem dX9_refer_35 : decode cX9_refer 35 = .ok (.invokevirtual 66, 3) := by decide +kernel
theorem dX9_refer_38 : decode cX9_refer 38 = .ok (.invokevirtual 185, 3) := by decide +kernel
theorem dX9_refer_41 : decode cX9_refer 41 = .ok (.istore_n 3, 1) := by decide +kernel
theorem dX9_refer_42 : decode cX9_refer 42 = .ok (.iload_n 3, 1) := by decide +kernel
theorem dX9_refer_43 : decode cX9_refer 43 = .ok (.iconst (-1), 1) := by decide +kernel
theorem dX9_refer_44 : decode cX9_refer 44 = .ok (.if_icmp .eq 8, 3) := by decide +kernel
theorem dX9_refer_47 : decode cX9_refer 47 = .ok (.bipush (-100), 2) := by decide +kernel
theorem dX9_refer_49 : decode cX9_refer 49 = .ok (.iload_n 3, 1) := by decide +kernel
theorem dX9_refer_50 : decode cX9_refer 50 = .ok (.isub, 1) := by decide +kernel
theorem dX9_refer_51 : decode cX9_refer 51 = .ok (.ireturn, 1) := by decide +kernel
