theorem dX10_needed_35 : decode cX10_needed 35 = .ok (.invokevirtual 82, 3) := by decide +kernel
theorem dX10_needed_38 : decode cX10_needed 38 = .ok (.aload_n 0, 1) := by decide +kernel
theorem dX10_needed_39 : decode cX10_needed 39 = .ok (.iload_n 2, 1) := by decide +kernel
theorem dX10_needed_40 : decode cX10_needed 40 = .ok (.iload 5, 2) := by decide +kernel
theorem dX10_needed_42 : decode cX10_needed 42 = .ok (.iconst 1, 1) := by decide +kernel
theorem dX10_needed_43 : decode cX10_needed 43 = .ok (.isub, 1) := by decide +kernel
theorem dX10_needed_44 : decode cX10_needed 44 = .ok (.invokevirtual 82, 3) := by decide +kernel
theorem dX10_needed_47 : decode cX10_needed 47 = .ok (.if_icmp .eq 7, 3) := by decide +kernel
theorem dX10_needed_50 : decode cX10_needed 50 = .ok (.iconst 1, 1) := by decide +kernel
theorem dX10_needed_51 : decode cX10_needed 51 = .ok (.goto 4, 3) := by decide +kernel
theorem dX10_needed_54 : decode cX10_needed 54 = .ok (.iconst 0, 1) := by decide +kernel
theorem dX10_needed_55 : decode cX10_needed 55 = .ok (.istore 6, 2) := by decide +kernel
theorem dX10_needed_57 : decode cX10_needed 57 = .ok (.iload 4, 2) := by decide +kernel
theorem dX10_needed_59 : decode cX10_needed 59 = .ok (.aload_n 0, 1) := by decide +kernel
theorem dX10_needed_60 : decode cX10_needed 60 = .ok (.iload_n 2, 1) := by decide +kernel
theorem dX10_needed_61 : decode cX10_needed 61 = .ok (.iload 5, 2) := by decide +kernel
theorem dX10_needed_63 : decode cX10_needed 63 = .ok (.invokevirtual 165, 3) := by decide +kernel
theorem dX10_needed_66 : decode cX10_needed 66 = .ok (.iload 6, 2) := by decide +kernel
theorem dX10_needed_68 : decode cX10_needed 68 = .ok (.ifCond .eq 10, 3) := by decide +kernel
theorem dX10_needed_71 : decode cX10_needed 71 = .ok (.aload_n 0, 1) := by decide +kernel
theorem dX10_needed_72 : decode cX10_needed 72 = .ok (.getfield 33, 3) := by decide +kernel
theorem dX10_needed_75 : decode cX10_needed 75 = .ok (.goto 4, 3) := by decide +kernel
theorem dX10_needed_78 : decode cX10_needed 78 = .ok (.iconst 0, 1) := by decide +kernel
theorem dX10_needed_79 : decode cX10_needed 79 = .ok (.iadd, 1) := by decide +kernel
theorem dX10_needed_80 : decode cX10_needed 80 = .ok (.iadd, 1) := by decide +kernel
theorem dX10_needed_81 : decode cX10_needed 81 = .ok (.istore 4, 2) := by decide +kernel
theorem dX10_needed_83 : decode cX10_needed 83 = .ok (.iinc 5 1, 3) := by decide +kernel
theorem dX10_needed_86 : decode cX10_needed 86 = .ok (.goto (-73), 3) := by decide +kernel
theorem dX10_needed_89 : decode cX10_needed 89 = .ok (.iload 4, 2) := by decide +kernel
theorem dX10_needed_91 : decode cX10_needed 91 = .ok (.ireturn, 1) := by decide +kernel
set_option maxRecDepth 20000 in
theorem ggX10_heightOf_X10_needed : GoodIn wsX10_heightOf wsX10_needed := goodIn_r _ [5, 6, 7, 8, 9, 4, 10, 11, 12, 13, 14, 15, 16, 17, 18, 19, 20, 21, 22, 23, 24, 25, 26, 27, 28, 29, 30, 31, 32, 33, 34, 35, 36, 37, 38, 39, 40, 41, 42, 43, 44, 45, 46, 47, 48, 49, 50, 51] (by decide +kernel) (by decide +kernel)
set_option maxRecDepth 20000 in
theorem gX10_heightOf_X10_needed : GoodIn wsX10_heightOf (wsV RX10 168 RX10 yX10_needed wsX10_needed) := goodIn_app (goodIn_of _ (by decide +kernel)) ggX10_heightOf_X10_needed
theorem dX10_heightOf_0 : decode cX10_heightOf 0 = .ok (.aload_n 0, 1) := by decide +kernel
theorem dX10_heightOf_1 : decode cX10_heightOf 1 = .ok (.iload_n 1, 1) := by decide +kernel
theorem dX10_heightOf_2 : decode cX10_heightOf 2 = .ok (.iconst 0, 1) := by decide +kernel
theorem dX10_heightOf_3 : decode cX10_heightOf 3 = .ok (.invokevirtual 168, 3) := by decide +kernel
theorem dX10_heightOf_6 : decode cX10_heightOf 6 = .ok (.istore_n 2, 1) := by decide +kernel
theorem dX10_heightOf_7 : decode cX10_heightOf 7 = .ok (.aload_n 0, 1) := by decide +kernel
theorem dX10_heightOf_8 : decode cX10_heightOf 8 = .ok (.iload_n 1, 1) := by decide +kernel
theorem dX10_heightOf_9 : decode cX10_heightOf 9 = .ok (.iconst 1, 1) := by decide +kernel
theorem dX10_heightOf_10 : decode cX10_heightOf 10 = .ok (.invokevirtual 168, 3) := by decide +kernel
theorem dX10_heightOf_13 : decode cX10_heightOf 13 = .ok (.istore_n 3, 1) := by decide +kernel
theorem dX10_heightOf_14 : decode cX10_heightOf 14 = .ok (.iload_n 2, 1) := by decide +kernel
theorem dX10_heightOf_15 : decode cX10_heightOf 15 = .ok (.iload_n 3, 1) := by decide +kernel
theorem dX10_heightOf_16 : decode cX10_heightOf 16 = .ok (.if_icmp .le 7, 3) := by decide +kernel
theorem dX10_heightOf_19 : decode cX10_heightOf 19 = .ok (.iload_n 2, 1) := by decide +kernel
theorem dX10_heightOf_20 : decode cX10_heightOf 20 = .ok (.goto 4, 3) := by decide +kernel
theorem dX10_heightOf_23 : decode cX10_heightOf 23 = .ok (.iload_n 3, 1) := by decide +kernel
theorem dX10_heightOf_24 : decode cX10_heightOf 24 = .ok (.ireturn, 1) := by decide +kernel
set_option maxRecDepth 20000 in
theorem ggX10_notesOf_X10_firstIn : GoodIn wsX10_notesOf wsX10_firstIn := goodIn_r _ [6, 7, 8, 9, 5, 10, 1, 11, 12, 13, 14, 15, 16, 17, 18, 19, 20, 21, 22, 23, 24, 25, 26, 27, 28, 29, 30, 31, 32, 33] (by decide +kernel) (by decide +kernel)
set_option maxRecDepth 20000 in
theorem gX10_notesOf_X10_firstIn : GoodIn wsX10_notesOf (wsV RX10 159 RX10 yX10_firstIn wsX10_firstIn) := goodIn_app (goodIn_of _ (by decide +kernel)) ggX10_notesOf_X10_firstIn
set_option maxRecDepth 20000 in
theorem ggX10_notesOf_X10_has : GoodIn wsX10_notesOf wsX10_has := goodIn_r _ [10, 1, 11, 12, 13, 14, 15, 16, 17, 18, 19, 20, 21, 22, 23, 24, 25, 26, 27, 28, 29, 30, 31, 32, 33] (by decide +kernel) (by decide +kernel)
set_option maxRecDepth 20000 in
theorem gX10_notesOf_X10_has : GoodIn wsX10_notesOf (wsV RX10 78 RX10 yX10_has wsX10_has) := goodIn_app (goodIn_of _ (by decide +kernel)) ggX10_notesOf_X10_has
theorem dX10_notesOf_0 : decode cX10_notesOf 0 = .ok (.iconst 0, 1) := by decide +kernel
theorem dX10_notesOf_1 : decode cX10_notesOf 1 = .ok (.istore_n 2, 1) := by decide +kernel
theorem dX10_notesOf_2 : decode cX10_notesOf 2 = .ok (.iconst 0, 1) := by decide +kernel
theorem dX10_notesOf_3 : decode cX10_notesOf 3 = .ok (.istore_n 3, 1) := by decide +kernel
theorem dX10_notesOf_4 : decode cX10_notesOf 4 = .ok (.iload_n 3, 1) := by decide +kernel
theorem dX10_notesOf_5 : decode cX10_notesOf 5 = .ok (.iconst 2, 1) := by decide +kernel
theorem dX10_notesOf_6 : decode cX10_notesOf 6 = .ok (.if_icmp .ge 59, 3) := by decide +kernel
theorem dX10_notesOf_9 : decode cX10_notesOf 9 = .ok (.aload_n 0, 1) := by decide +kernel
theorem dX10_notesOf_10 : decode cX10_notesOf 10 = .ok (.iload_n 1, 1) := by decide +kernel
theorem dX10_notesOf_11 : decode cX10_notesOf 11 = .ok (.iload_n 3, 1) := by decide +kernel
theorem dX10_notesOf_12 : decode cX10_notesOf 12 = .ok (.invokevirtual 159, 3) := by decide +kernel
theorem dX10_notesOf_15 : decode cX10_notesOf 15 = .ok (.istore 4, 2) := by decide +kernel
theorem dX10_notesOf_17 : decode cX10_notesOf 17 = .ok (.iload 4, 2) := by decide +kernel
theorem dX10_notesOf_19 : decode cX10_notesOf 19 = .ok (.istore 5, 2) := by decide +kernel
theorem dX10_notesOf_21 : decode cX10_notesOf 21 = .ok (.iload 5, 2) := by decide +kernel
theorem dX10_notesOf_23 : decode cX10_notesOf 23 = .ok (.iload 4, 2) := by decide +kernel
theorem dX10_notesOf_25 : decode cX10_notesOf 25 = .ok (.aload_n 0, 1) := by decide +kernel
theorem dX10_notesOf_26 : decode cX10_notesOf 26 = .ok (.iload_n 1, 1) := by decide +kernel
theorem dX10_notesOf_27 : decode cX10_notesOf 27 = .ok (.iload_n 3, 1) := by decide +kernel
theorem dX10_notesOf_28 : decode cX10_notesOf 28 = .ok (.invokevirtual 78, 3) := by decide +kernel
theorem dX10_notesOf_31 : decode cX10_notesOf 31 = .ok (.iadd, 1) := by decide +kernel
theorem dX10_notesOf_32 : decode cX10_notesOf 32 = .ok (.if_icmp .ge 27, 3) := by decide +kernel
theorem dX10_notesOf_35 : decode cX10_notesOf 35 = .ok (.iload_n 2, 1) := by decide +kernel
theorem dX10_notesOf_36 : decode cX10_notesOf 36 = .ok (.aload_n 0, 1) := by decide +kernel
theorem dX10_notesOf_37 : decode cX10_notesOf 37 = .ok (.getfield 7, 3) := by decide +kernel
theorem dX10_notesOf_40 : decode cX10_notesOf 40 = .ok (.bipush 120, 2) := by decide +kernel
theorem dX10_notesOf_42 : decode cX10_notesOf 42 = .ok (.bipush 60, 2) := by decide +kernel
theorem dX10_notesOf_44 : decode cX10_notesOf 44 = .ok (.iload_n 3, 1) := by decide +kernel
theorem dX10_notesOf_45 : decode cX10_notesOf 45 = .ok (.imul, 1) := by decide +kernel
theorem dX10_notesOf_46 : decode cX10_notesOf 46 = .ok (.iadd, 1) := by decide +kernel
theorem dX10_notesOf_47 : decode cX10_notesOf 47 = .ok (.iload 5, 2) := by decide +kernel
theorem dX10_notesOf_49 : decode cX10_notesOf 49 = .ok (.iadd, 1) := by decide +kernel
theorem dX10_notesOf_50 : decode cX10_notesOf 50 = .ok (.iaload, 1) := by decide +kernel
theorem dX10_notesOf_51 : decode cX10_notesOf 51 = .ok (.iadd, 1) := by decide +kernel
theorem dX10_notesOf_52 : decode cX10_notesOf 52 = .ok (.istore_n 2, 1) := by decide +kernel
theorem dX10_notesOf_53 : decode cX10_notesOf 53 = .ok (.iinc 5 1, 3) := by decide +kernel
theorem dX10_notesOf_56 : decode cX10_notesOf 56 = .ok (.goto (-35), 3) := by decide +kernel
theorem dX10_notesOf_59 : decode cX10_notesOf 59 = .ok (.iinc 3 1, 3) := by decide +kernel
theorem dX10_notesOf_62 : decode cX10_notesOf 62 = .ok (.goto (-58), 3) := by decide +kernel
theorem dX10_notesOf_65 : decode cX10_notesOf 65 = .ok (.iload_n 2, 1) := by decide +kernel
theorem dX10_notesOf_66 : decode cX10_notesOf 66 = .ok (.ireturn, 1) := by decide +kernel
theorem dX10_withLine_0 : decode cX10_withLine 0 = .ok (.iload_n 0, 1) := by decide +kernel
theorem dX10_withLine_1 : decode cX10_withLine 1 = .ok (.ifCond .le 9, 3) := by decide +kernel
theorem dX10_withLine_4 : decode cX10_withLine 4 = .ok (.iload_n 0, 1) := by decide +kernel
theorem dX10_withLine_5 : decode cX10_withLine 5 = .ok (.iconst 1, 1) := by decide +kernel
theorem dX10_withLine_6 : decode cX10_withLine 6 = .ok (.iadd, 1) := by decide +kernel
theorem dX10_withLine_7 : decode cX10_withLine 7 = .ok (.goto 4, 3) := by decide +kernel
theorem dX10_withLine_10 : decode cX10_withLine 10 = .ok (.iconst 0, 1) := by decide +kernel
theorem dX10_withLine_11 : decode cX10_withLine 11 = .ok (.ireturn, 1) := by decide +kernel
set_option maxRecDepth 20000 in
theorem ggX10_layPages_X10_groups : GoodIn wsX10_layPages wsX10_groups := goodIn_r _ [11, 12, 50, 51, 52, 53, 54, 55, 56, 57, 58, 59, 60, 61, 62, 63, 64, 65, 66, 67, 68, 69, 70, 71, 72] (by decide +kernel) (by decide +kernel)
set_option maxRecDepth 20000 in
theorem gX10_layPages_X10_groups : GoodIn wsX10_layPages (wsV RX10 60 RX10 yX10_groups wsX10_groups) := goodIn_app (goodIn_of _ (by decide +kernel)) ggX10_layPages_X10_groups
set_option maxRecDepth 20000 in
theorem ggX10_layPages_X10_heightOf : GoodIn wsX10_layPages wsX10_heightOf := goodIn_r _ [16, 17, 18, 19, 10, 20, 21, 22, 23, 24, 25, 26, 27, 28, 29, 12, 30, 31, 32, 33, 34, 35, 36, 37, 38, 39, 40, 41, 42, 50, 51, 52, 53, 54, 55, 56, 57, 58, 59, 60, 61, 62, 63, 64, 65, 66, 67, 68, 69, 70, 71, 72] (by decide +kernel) (by decide +kernel)
set_option maxRecDepth 20000 in
theorem gX10_layPages_X10_heightOf : GoodIn wsX10_layPages (wsV RX10 174 RX10 yX10_heightOf wsX10_heightOf) := goodIn_app (goodIn_of _ (by decide +kernel)) ggX10_layPages_X10_heightOf
set_option maxRecDepth 20000 in
theorem ggX10_layPages_X10_notesOf : GoodIn wsX10_layPages wsX10_notesOf := goodIn_r _ [46, 12, 22, 23, 24, 10, 25, 26, 27, 28, 29, 50, 51, 52, 53, 54, 55, 56, 57, 58, 59, 60, 61, 62, 63, 64, 65, 66, 67, 68, 69, 70, 71, 72] (by decide +kernel) (by decide +kernel)
set_option maxRecDepth 20000 in
theorem gX10_layPages_X10_notesOf : GoodIn wsX10_layPages (wsV RX10 177 RX10 yX10_notesOf wsX10_notesOf) := goodIn_app (goodIn_of _ (by decide +kernel)) ggX10_layPages_X10_notesOf
set_option maxRecDepth 20000 in
theorem ggX10_layPages_X10_withLine : GoodIn wsX10_layPages wsX10_withLine := goodIn_r _ [49] (by decide +kernel) (by decide +kernel)
set_option maxRecDepth 20000 in
theorem gX10_layPages_X10_withLine : GoodIn wsX10_layPages (va_wsS RX10 180 yX10_withLine wsX10_withLine) := goodIn_app (goodIn_of _ (by decide +kernel)) ggX10_layPages_X10_withLine
theorem dX10_layPages_0 : decode cX10_layPages 0 = .ok (.aload_n 0, 1) := by decide +kernel
theorem dX10_layPages_1 : decode cX10_layPages 1 = .ok (.iconst 0, 1) := by decide +kernel
theorem dX10_layPages_2 : decode cX10_layPages 2 = .ok (.putfield 171, 3) := by decide +kernel
theorem dX10_layPages_5 : decode cX10_layPages 5 = .ok (.iconst 0, 1) := by decide +kernel
theorem dX10_layPages_6 : decode cX10_layPages 6 = .ok (.istore_n 1, 1) := by decide +kernel
theorem dX10_layPages_7 : decode cX10_layPages 7 = .ok (.iload_n 1, 1) := by decide +kernel
theorem dX10_layPages_8 : decode cX10_layPages 8 = .ok (.aload_n 0, 1) := by decide +kernel
theorem dX10_layPages_9 : decode cX10_layPages 9 = .ok (.invokevirtual 60, 3) := by decide +kernel
theorem dX10_layPages_12 : decode cX10_layPages 12 = .ok (.if_icmp .ge 140, 3) := by decide +kernel
theorem dX10_layPages_15 : decode cX10_layPages 15 = .ok (.aload_n 0, 1) := by decide +kernel
theorem dX10_layPages_16 : decode cX10_layPages 16 = .ok (.iload_n 1, 1) := by decide +kernel
theorem dX10_layPages_17 : decode cX10_layPages 17 = .ok (.invokevirtual 174, 3) := by decide +kernel
theorem dX10_layPages_20 : decode cX10_layPages 20 = .ok (.istore_n 2, 1) := by decide +kernel
theorem dX10_layPages_21 : decode cX10_layPages 21 = .ok (.aload_n 0, 1) := by decide +kernel
theorem dX10_layPages_22 : decode cX10_layPages 22 = .ok (.iload_n 1, 1) := by decide +kernel
theorem dX10_layPages_23 : decode cX10_layPages 23 = .ok (.invokevirtual 177, 3) := by decide +kernel
theorem dX10_layPages_26 : decode cX10_layPages 26 = .ok (.istore_n 3, 1) := by decide +kernel
theorem dX10_layPages_27 : decode cX10_layPages 27 = .ok (.aload_n 0, 1) := by decide +kernel
theorem dX10_layPages_28 : decode cX10_layPages 28 = .ok (.getfield 171, 3) := by decide +kernel
theorem dX10_layPages_31 : decode cX10_layPages 31 = .ok (.iconst 1, 1) := by decide +kernel
theorem dX10_layPages_32 : decode cX10_layPages 32 = .ok (.isub, 1) := by decide +kernel
theorem dX10_layPages_33 : decode cX10_layPages 33 = .ok (.istore 4, 2) := by decide +kernel
theorem dX10_layPages_35 : decode cX10_layPages 35 = .ok (.aload_n 0, 1) := by decide +kernel
theorem dX10_layPages_36 : decode cX10_layPages 36 = .ok (.getfield 171, 3) := by decide +kernel
theorem dX10_layPages_39 : decode cX10_layPages 39 = .ok (.ifCond .eq 32, 3) := by decide +kernel
theorem dX10_layPages_42 : decode cX10_layPages 42 = .ok (.aload_n 0, 1) := by decide +kernel
theorem dX10_layPages_43 : decode cX10_layPages 43 = .ok (.getfield 42, 3) := by decide +kernel
theorem dX10_layPages_46 : decode cX10_layPages 46 = .ok (.iload 4, 2) := by decide +kernel
theorem dX10_layPages_48 : decode cX10_layPages 48 = .ok (.iaload, 1) := by decide +kernel
theorem dX10_layPages_49 : decode cX10_layPages 49 = .ok (.iload_n 2, 1) := by decide +kernel
theorem dX10_layPages_50 : decode cX10_layPages 50 = .ok (.iadd, 1) := by decide +kernel
theorem dX10_layPages_51 : decode cX10_layPages 51 = .ok (.aload_n 0, 1) := by decide +kernel
theorem dX10_layPages_52 : decode cX10_layPages 52 = .ok (.getfield 45, 3) := by decide +kernel
theorem dX10_layPages_55 : decode cX10_layPages 55 = .ok (.iload 4, 2) := by decide +kernel
theorem dX10_layPages_57 : decode cX10_layPages 57 = .ok (.iaload, 1) := by decide +kernel
theorem dX10_layPages_58 : decode cX10_layPages 58 = .ok (.iload_n 3, 1) := by decide +kernel
theorem dX10_layPages_59 : decode cX10_layPages 59 = .ok (.iadd, 1) := by decide +kernel
theorem dX10_layPages_60 : decode cX10_layPages 60 = .ok (.invokestatic 180, 3) := by decide +kernel
theorem dX10_layPages_63 : decode cX10_layPages 63 = .ok (.iadd, 1) := by decide +kernel
theorem dX10_layPages_64 : decode cX10_layPages 64 = .ok (.aload_n 0, 1) := by decide +kernel
theorem dX10_layPages_65 : decode cX10_layPages 65 = .ok (.getfield 29, 3) := by decide +kernel
theorem dX10_layPages_68 : decode cX10_layPages 68 = .ok (.if_icmp .le 35, 3) := by decide +kernel
theorem dX10_layPages_71 : decode cX10_layPages 71 = .ok (.aload_n 0, 1) := by decide +kernel
theorem dX10_layPages_72 : decode cX10_layPages 72 = .ok (.getfield 171, 3) := by decide +kernel
theorem dX10_layPages_75 : decode cX10_layPages 75 = .ok (.istore 4, 2) := by decide +kernel
theorem dX10_layPages_77 : decode cX10_layPages 77 = .ok (.aload_n 0, 1) := by decide +kernel
theorem dX10_layPages_78 : decode cX10_layPages 78 = .ok (.getfield 42, 3) := by decide +kernel
theorem dX10_layPages_81 : decode cX10_layPages 81 = .ok (.iload 4, 2) := by decide +kernel
theorem dX10_layPages_83 : decode cX10_layPages 83 = .ok (.iconst 0, 1) := by decide +kernel
theorem dX10_layPages_84 : decode cX10_layPages 84 = .ok (.iastore, 1) := by decide +kernel
theorem dX10_layPages_85 : decode cX10_layPages 85 = .ok (.aload_n 0, 1) := by decide +kernel
theorem dX10_layPages_86 : decode cX10_layPages 86 = .ok (.getfield 45, 3) := by decide +kernel
theorem dX10_layPages_89 : decode cX10_layPages 89 = .ok (.iload 4, 2) := by decide +kernel
theorem dX10_layPages_91 : decode cX10_layPages 91 = .ok (.iconst 0, 1) := by decide +kernel
theorem dX10_layPages_92 : decode cX10_layPages 92 = .ok (.iastore, 1) := by decide +kernel
theorem dX10_layPages_93 : decode cX10_layPages 93 = .ok (.aload_n 0, 1) := by decide +kernel
theorem dX10_layPages_94 : decode cX10_layPages 94 = .ok (.dup, 1) := by decide +kernel
theorem dX10_layPages_95 : decode cX10_layPages 95 = .ok (.getfield 171, 3) := by decide +kernel
theorem dX10_layPages_98 : decode cX10_layPages 98 = .ok (.iconst 1, 1) := by decide +kernel
theorem dX10_layPages_99 : decode cX10_layPages 99 = .ok (.iadd, 1) := by decide +kernel
theorem dX10_layPages_100 : decode cX10_layPages 100 = .ok (.putfield 171, 3) := by decide +kernel
theorem dX10_layPages_103 : decode cX10_layPages 103 = .ok (.aload_n 0, 1) := by decide +kernel
theorem dX10_layPages_104 : decode cX10_layPages 104 = .ok (.getfield 36, 3) := by decide +kernel
theorem dX10_layPages_107 : decode cX10_layPages 107 = .ok (.iload_n 1, 1) := by decide +kernel
theorem dX10_layPages_108 : decode cX10_layPages 108 = .ok (.iload 4, 2) := by decide +kernel
theorem dX10_layPages_110 : decode cX10_layPages 110 = .ok (.iastore, 1) := by decide +kernel
theorem dX10_layPages_111 : decode cX10_layPages 111 = .ok (.aload_n 0, 1) := by decide +kernel
theorem dX10_layPages_112 : decode cX10_layPages 112 = .ok (.getfield 39, 3) := by decide +kernel
theorem dX10_layPages_115 : decode cX10_layPages 115 = .ok (.iload_n 1, 1) := by decide +kernel
theorem dX10_layPages_116 : decode cX10_layPages 116 = .ok (.aload_n 0, 1) := by decide +kernel
theorem dX10_layPages_117 : decode cX10_layPages 117 = .ok (.getfield 42, 3) := by decide +kernel
theorem dX10_layPages_120 : decode cX10_layPages 120 = .ok (.iload 4, 2) := by decide +kernel
theorem dX10_layPages_122 : decode cX10_layPages 122 = .ok (.iaload, 1) := by decide +kernel
theorem dX10_layPages_123 : decode cX10_layPages 123 = .ok (.iastore, 1) := by decide +kernel
theorem dX10_layPages_124 : decode cX10_layPages 124 = .ok (.aload_n 0, 1) := by decide +kernel
theorem dX10_layPages_125 : decode cX10_layPages 125 = .ok (.getfield 42, 3) := by decide +kernel
theorem dX10_layPages_128 : decode cX10_layPages 128 = .ok (.iload 4, 2) := by decide +kernel
theorem dX10_layPages_130 : decode cX10_layPages 130 = .ok (.dup2, 1) := by decide +kernel
theorem dX10_layPages_131 : decode cX10_layPages 131 = .ok (.iaload, 1) := by decide +kernel
theorem dX10_layPages_132 : decode cX10_layPages 132 = .ok (.iload_n 2, 1) := by decide +kernel
theorem dX10_layPages_133 : decode cX10_layPages 133 = .ok (.iadd, 1) := by decide +kernel
theorem dX10_layPages_134 : decode cX10_layPages 134 = .ok (.iastore, 1) := by decide +kernel
theorem dX10_layPages_135 : decode cX10_layPages 135 = .ok (.aload_n 0, 1) := by decide +kernel
theorem dX10_layPages_136 : decode cX10_layPages 136 = .ok (.getfield 45, 3) := by decide +kernel
theorem dX10_layPages_139 : decode cX10_layPages 139 = .ok (.iload 4, 2) := by decide +kernel
theorem dX10_layPages_141 : decode cX10_layPages 141 = .ok (.dup2, 1) := by decide +kernel
theorem dX10_layPages_142 : decode cX10_layPages 142 = .ok (.iaload, 1) := by decide +kernel
theorem dX10_layPages_143 : decode cX10_layPages 143 = .ok (.iload_n 3, 1) := by decide +kernel
theorem dX10_layPages_144 : decode cX10_layPages 144 = .ok (.iadd, 1) := by decide +kernel
theorem dX10_layPages_145 : decode cX10_layPages 145 = .ok (.iastore, 1) := by decide +kernel
theorem dX10_layPages_146 : decode cX10_layPages 146 = .ok (.iinc 1 1, 3) := by decide +kernel
theorem dX10_layPages_149 : decode cX10_layPages 149 = .ok (.goto (-142), 3) := by decide +kernel
theorem dX10_layPages_152 : decode cX10_layPages 152 = .ok (.return_, 1) := by decide +kernel
set_option maxRecDepth 20000 in
theorem ggX10_page_X10_in : GoodIn wsX10_page wsX10_in := goodIn_r _ [9] (by decide +kernel) (by decide +kernel)
set_option maxRecDepth 20000 in
theorem gX10_page_X10_in : GoodIn wsX10_page (va_wsS RX10 48 yX10_in wsX10_in) := goodIn_app (goodIn_of _ (by decide +kernel)) ggX10_page_X10_in
set_option maxRecDepth 20000 in
theorem ggX10_page_X10_layPages : GoodIn wsX10_page wsX10_layPages := goodIn_r _ [13, 1, 4, 3, 5, 2, 14, 15, 16, 17, 8, 18, 19, 20, 21, 22, 23, 24, 25, 26, 27, 28, 29, 30, 31, 32, 33, 34, 35, 36, 37, 38, 39, 40, 41, 42, 43, 44, 45, 46, 47, 48, 49, 50, 51, 52, 53, 54, 55, 56, 57, 58, 59, 60, 61, 62, 63, 64, 65, 66, 67, 68, 69, 70, 71, 72, 73, 74, 75, 76, 77, 78, 79] (by decide +kernel) (by decide +kernel)
set_option maxRecDepth 20000 in
theorem gX10_page_X10_layPages : GoodIn wsX10_page (wsV RX10 183 RX10 yX10_layPages wsX10_layPages) := goodIn_app (goodIn_of _ (by decide +kernel)) ggX10_page_X10_layPages
set_option maxRecDepth 20000 in
theorem ggX10_page_X10_groups : GoodIn wsX10_page wsX10_groups := goodIn_r _ [18, 19, 57, 58, 59, 60, 61, 62, 63, 64, 65, 66, 67, 68, 69, 70, 71, 72, 73, 74, 75, 76, 77, 78, 79] (by decide +kernel) (by decide +kernel)
set_option maxRecDepth 20000 in
theorem gX10_page_X10_groups : GoodIn wsX10_page (wsV RX10 60 RX10 yX10_groups wsX10_groups) := goodIn_app (goodIn_of _ (by decide +kernel)) ggX10_page_X10_groups
set_option maxRecDepth 20000 in
theorem ggX10_page_X10_withLine : GoodIn wsX10_page wsX10_withLine := goodIn_r _ [56] (by decide +kernel) (by decide +kernel)
set_option maxRecDepth 20000 in
theorem gX10_page_X10_withLine : GoodIn wsX10_page (va_wsS RX10 180 yX10_withLine wsX10_withLine) := goodIn_app (goodIn_of _ (by decide +kernel)) ggX10_page_X10_withLine
theorem dX10_page_0 : decode cX10_page 0 = .ok (.iload_n 1, 1) := by decide +kernel
theorem dX10_page_1 : decode cX10_page 1 = .ok (.ifCond .lt 12, 3) := by decide +kernel
theorem dX10_page_4 : decode cX10_page 4 = .ok (.iload_n 2, 1) := by decide +kernel
theorem dX10_page_5 : decode cX10_page 5 = .ok (.iconst 0, 1) := by decide +kernel
theorem dX10_page_6 : decode cX10_page 6 = .ok (.iconst 4, 1) := by decide +kernel
theorem dX10_page_7 : decode cX10_page 7 = .ok (.invokestatic 48, 3) := by decide +kernel
theorem dX10_page_10 : decode cX10_page 10 = .ok (.ifCond .ne 6, 3) := by decide +kernel
theorem dX10_page_13 : decode cX10_page 13 = .ok (.bipush (-2), 2) := by decide +kernel
theorem dX10_page_15 : decode cX10_page 15 = .ok (.ireturn, 1) := by decide +kernel
theorem dX10_page_16 : decode cX10_page 16 = .ok (.aload_n 0, 1) := by decide +kernel
theorem dX10_page_17 : decode cX10_page 17 = .ok (.invokevirtual 183, 3) := by decide +kernel
theorem dX10_page_20 : decode cX10_page 20 = .ok (.iload_n 1, 1) := by decide +kernel
theorem dX10_page_21 : decode cX10_page 21 = .ok (.aload_n 0, 1) := by decide +kernel
theorem dX10_page_22 : decode cX10_page 22 = .ok (.getfield 171, 3) := by decide +kernel
theorem dX10_page_25 : decode cX10_page 25 = .ok (.if_icmp .lt 6, 3) := by decide +kernel
theorem dX10_page_28 : decode cX10_page 28 = .ok (.bipush (-5), 2) := by decide +kernel
theorem dX10_page_30 : decode cX10_page 30 = .ok (.ireturn, 1) := by decide +kernel
theorem dX10_page_31 : decode cX10_page 31 = .ok (.bipush (-5), 2) := by decide +kernel
theorem dX10_page_33 : decode cX10_page 33 = .ok (.istore_n 3, 1) := by decide +kernel
theorem dX10_page_34 : decode cX10_page 34 = .ok (.bipush (-5), 2) := by decide +kernel
theorem dX10_page_36 : decode cX10_page 36 = .ok (.istore 4, 2) := by decide +kernel
theorem dX10_page_38 : decode cX10_page 38 = .ok (.iconst 0, 1) := by decide +kernel
theorem dX10_page_39 : decode cX10_page 39 = .ok (.istore 5, 2) := by decide +kernel
theorem dX10_page_41 : decode cX10_page 41 = .ok (.iload 5, 2) := by decide +kernel
theorem dX10_page_43 : decode cX10_page 43 = .ok (.aload_n 0, 1) := by decide +kernel
theorem dX10_page_44 : decode cX10_page 44 = .ok (.invokevirtual 60, 3) := by decide +kernel
theorem dX10_page_47 : decode cX10_page 47 = .ok (.if_icmp .ge 51, 3) := by decide +kernel
theorem dX10_page_50 : decode cX10_page 50 = .ok (.aload_n 0, 1) := by decide +kernel
theorem dX10_page_51 : decode cX10_page 51 = .ok (.getfield 36, 3) := by decide +kernel
theorem dX10_page_54 : decode cX10_page 54 = .ok (.iload 5, 2) := by decide +kernel
theorem dX10_page_56 : decode cX10_page 56 = .ok (.iaload, 1) := by decide +kernel
theorem dX10_page_57 : decode cX10_page 57 = .ok (.iload_n 1, 1) := by decide +kernel
theorem dX10_page_58 : decode cX10_page 58 = .ok (.if_icmp .ne 12, 3) := by decide +kernel
theorem dX10_page_61 : decode cX10_page 61 = .ok (.iload_n 3, 1) := by decide +kernel
theorem dX10_page_62 : decode cX10_page 62 = .ok (.ifCond .ge 8, 3) := by decide +kernel
theorem dX10_page_65 : decode cX10_page 65 = .ok (.iload 5, 2) := by decide +kernel
theorem dX10_page_67 : decode cX10_page 67 = .ok (.goto 4, 3) := by decide +kernel
theorem dX10_page_70 : decode cX10_page 70 = .ok (.iload_n 3, 1) := by decide +kernel
theorem dX10_page_71 : decode cX10_page 71 = .ok (.istore_n 3, 1) := by decide +kernel
theorem dX10_page_72 : decode cX10_page 72 = .ok (.aload_n 0, 1) := by decide +kernel
theorem dX10_page_73 : decode cX10_page 73 = .ok (.getfield 36, 3) := by decide +kernel
theorem dX10_page_76 : decode cX10_page 76 = .ok (.iload 5, 2) := by decide +kernel
theorem dX10_page_78 : decode cX10_page 78 = .ok (.iaload, 1) := by decide +kernel
theorem dX10_page_79 : decode cX10_page 79 = .ok (.iload_n 1, 1) := by decide +kernel
theorem dX10_page_80 : decode cX10_page 80 = .ok (.if_icmp .ne 8, 3) := by decide +kernel
theorem dX10_page_83 : decode cX10_page 83 = .ok (.iload 5, 2) := by decide +kernel
theorem dX10_page_85 : decode cX10_page 85 = .ok (.goto 5, 3) := by decide +kernel
theorem dX10_page_88 : decode cX10_page 88 = .ok (.iload 4, 2) := by decide +kernel
theorem dX10_page_90 : decode cX10_page 90 = .ok (.istore 4, 2) := by decide +kernel
theorem dX10_page_92 : decode cX10_page 92 = .ok (.iinc 5 1, 3) := by decide +kernel
theorem dX10_page_95 : decode cX10_page 95 = .ok (.goto (-54), 3) := by decide +kernel
theorem dX10_page_98 : decode cX10_page 98 = .ok (.aload_n 0, 1) := by decide +kernel
theorem dX10_page_99 : decode cX10_page 99 = .ok (.getfield 45, 3) := by decide +kernel
theorem dX10_page_102 : decode cX10_page 102 = .ok (.iload_n 1, 1) := by decide +kernel
theorem dX10_page_103 : decode cX10_page 103 = .ok (.iaload, 1) := by decide +kernel
theorem dX10_page_104 : decode cX10_page 104 = .ok (.invokestatic 180, 3) := by decide +kernel
theorem dX10_page_107 : decode cX10_page 107 = .ok (.istore 5, 2) := by decide +kernel
theorem dX10_page_109 : decode cX10_page 109 = .ok (.iload_n 2, 1) := by decide +kernel
theorem dX10_page_110 : decode cX10_page 110 = .ok (.ifCond .ne 7, 3) := by decide +kernel
theorem dX10_page_113 : decode cX10_page 113 = .ok (.iload_n 3, 1) := by decide +kernel
theorem dX10_page_114 : decode cX10_page 114 = .ok (.goto 58, 3) := by decide +kernel
theorem dX10_page_117 : decode cX10_page 117 = .ok (.iload_n 2, 1) := by decide +kernel
theorem dX10_page_118 : decode cX10_page 118 = .ok (.iconst 1, 1) := by decide +kernel
theorem dX10_page_119 : decode cX10_page 119 = .ok (.if_icmp .ne 8, 3) := by decide +kernel
theorem dX10_page_122 : decode cX10_page 122 = .ok (.iload 4, 2) := by decide +kernel
theorem dX10_page_124 : decode cX10_page 124 = .ok (.goto 48, 3) := by decide +kernel
theorem dX10_page_127 : decode cX10_page 127 = .ok (.iload_n 2, 1) := by decide +kernel
theorem dX10_page_128 : decode cX10_page 128 = .ok (.iconst 2, 1) := by decide +kernel
theorem dX10_page_129 : decode cX10_page 129 = .ok (.if_icmp .ne 12, 3) := by decide +kernel
theorem dX10_page_132 : decode cX10_page 132 = .ok (.aload_n 0, 1) := by decide +kernel
theorem dX10_page_133 : decode cX10_page 133 = .ok (.getfield 42, 3) := by decide +kernel
theorem dX10_page_136 : decode cX10_page 136 = .ok (.iload_n 1, 1) := by decide +kernel
theorem dX10_page_137 : decode cX10_page 137 = .ok (.iaload, 1) := by decide +kernel
theorem dX10_page_138 : decode cX10_page 138 = .ok (.goto 34, 3) := by decide +kernel
theorem dX10_page_141 : decode cX10_page 141 = .ok (.iload_n 2, 1) := by decide +kernel
theorem dX10_page_142 : decode cX10_page 142 = .ok (.iconst 3, 1) := by decide +kernel
theorem dX10_page_143 : decode cX10_page 143 = .ok (.if_icmp .ne 8, 3) := by decide +kernel
theorem dX10_page_146 : decode cX10_page 146 = .ok (.iload 5, 2) := by decide +kernel
theorem dX10_page_148 : decode cX10_page 148 = .ok (.goto 24, 3) := by decide +kernel
theorem dX10_page_151 : decode cX10_page 151 = .ok (.aload_n 0, 1) := by decide +kernel
theorem dX10_page_152 : decode cX10_page 152 = .ok (.getfield 42, 3) := by decide +kernel
theorem dX10_page_155 : decode cX10_page 155 = .ok (.iload_n 1, 1) := by decide +kernel
theorem dX10_page_156 : decode cX10_page 156 = .ok (.iaload, 1) := by decide +kernel
theorem dX10_page_157 : decode cX10_page 157 = .ok (.iload 5, 2) := by decide +kernel
theorem dX10_page_159 : decode cX10_page 159 = .ok (.iadd, 1) := by decide +kernel
theorem dX10_page_160 : decode cX10_page 160 = .ok (.aload_n 0, 1) := by decide +kernel
theorem dX10_page_161 : decode cX10_page 161 = .ok (.getfield 29, 3) := by decide +kernel
theorem dX10_page_164 : decode cX10_page 164 = .ok (.if_icmp .le 7, 3) := by decide +kernel
theorem dX10_page_167 : decode cX10_page 167 = .ok (.iconst 1, 1) := by decide +kernel
theorem dX10_page_168 : decode cX10_page 168 = .ok (.goto 4, 3) := by decide +kernel
theorem dX10_page_171 : decode cX10_page 171 = .ok (.iconst 0, 1) := by decide +kernel
theorem dX10_page_172 : decode cX10_page 172 = .ok (.ireturn, 1) := by decide +kernel
set_option maxRecDepth 20000 in
theorem ggX10_chapter_X10_noBook : GoodIn wsX10_chapter wsX10_noBook := goodIn_r _ [5, 6, 7, 4, 8] (by decide +kernel) (by decide +kernel)
set_option maxRecDepth 20000 in
theorem gX10_chapter_X10_noBook : GoodIn wsX10_chapter (va_wsS RX10 52 yX10_noBook wsX10_noBook) := goodIn_app (goodIn_of _ (by decide +kernel)) ggX10_chapter_X10_noBook
set_option maxRecDepth 20000 in
theorem ggX10_chapter_X10_in : GoodIn wsX10_chapter wsX10_in := goodIn_r _ [8] (by decide +kernel) (by decide +kernel)
set_option maxRecDepth 20000 in
theorem gX10_chapter_X10_in : GoodIn wsX10_chapter (va_wsS RX10 48 yX10_in wsX10_in) := goodIn_app (goodIn_of _ (by decide +kernel)) ggX10_chapter_X10_in
set_option maxRecDepth 20000 in
theorem ggX10_chapter_X10_size : GoodIn wsX10_chapter wsX10_size := goodIn_r _ [12, 1, 25, 26, 27, 28, 29, 30, 31, 32, 33, 34, 35, 36, 37, 38, 39, 40, 41, 42, 43, 44, 45, 46, 47] (by decide +kernel) (by decide +kernel)
set_option maxRecDepth 20000 in
theorem gX10_chapter_X10_size : GoodIn wsX10_chapter (wsV RX10 56 RX10 yX10_size wsX10_size) := goodIn_app (goodIn_of _ (by decide +kernel)) ggX10_chapter_X10_size
set_option maxRecDepth 20000 in
theorem ggX10_chapter_X10_chapterOf : GoodIn wsX10_chapter wsX10_chapterOf := goodIn_r _ [16, 1, 25, 26, 27, 28, 29, 30, 31, 32, 33, 34, 35, 36, 37, 38, 39, 40, 41, 42, 43, 44, 45, 46, 47] (by decide +kernel) (by decide +kernel)
set_option maxRecDepth 20000 in
theorem gX10_chapter_X10_chapterOf : GoodIn wsX10_chapter (wsV RX10 82 RX10 yX10_chapterOf wsX10_chapterOf) := goodIn_app (goodIn_of _ (by decide +kernel)) ggX10_chapter_X10_chapterOf
set_option maxRecDepth 20000 in
theorem ggX10_chapter_X10_firstOf : GoodIn wsX10_chapter wsX10_firstOf := goodIn_r _ [20, 13, 14, 15, 4, 16, 1, 25, 26, 27, 28, 29, 30, 31, 32, 33, 34, 35, 36, 37, 38, 39, 40, 41, 42, 43, 44, 45, 46, 47] (by decide +kernel) (by decide +kernel)
set_option maxRecDepth 20000 in
theorem gX10_chapter_X10_firstOf : GoodIn wsX10_chapter (wsV RX10 146 RX10 yX10_firstOf wsX10_firstOf) := goodIn_app (goodIn_of _ (by decide +kernel)) ggX10_chapter_X10_firstOf
set_option maxRecDepth 20000 in
theorem ggX10_chapter_X10_versesOf : GoodIn wsX10_chapter wsX10_versesOf := goodIn_r _ [24, 9, 10, 11, 4, 12, 1, 13, 14, 15, 16, 25, 26, 27, 28, 29, 30, 31, 32, 33, 34, 35, 36, 37, 38, 39, 40, 41, 42, 43, 44, 45, 46, 47] (by decide +kernel) (by decide +kernel)
set_option maxRecDepth 20000 in
theorem gX10_chapter_X10_versesOf : GoodIn wsX10_chapter (wsV RX10 143 RX10 yX10_versesOf wsX10_versesOf) := goodIn_app (goodIn_of _ (by decide +kernel)) ggX10_chapter_X10_versesOf
theorem dX10_chapter_0 : decode cX10_chapter 0 = .ok (.iload_n 1, 1) := by decide +kernel
theorem dX10_chapter_1 : decode cX10_chapter 1 = .ok (.invokestatic 52, 3) := by decide +kernel
theorem dX10_chapter_4 : decode cX10_chapter 4 = .ok (.ifCond .ne 21, 3) := by decide +kernel
theorem dX10_chapter_7 : decode cX10_chapter 7 = .ok (.iload_n 2, 1) := by decide +kernel
theorem dX10_chapter_8 : decode cX10_chapter 8 = .ok (.iconst 1, 1) := by decide +kernel
theorem dX10_chapter_9 : decode cX10_chapter 9 = .ok (.aload_n 0, 1) := by decide +kernel
theorem dX10_chapter_10 : decode cX10_chapter 10 = .ok (.getfield 7, 3) := by decide +kernel
theorem dX10_chapter_13 : decode cX10_chapter 13 = .ok (.sipush 362, 3) := by decide +kernel
theorem dX10_chapter_16 : decode cX10_chapter 16 = .ok (.iload_n 1, 1) := by decide +kernel
theorem dX10_chapter_17 : decode cX10_chapter 17 = .ok (.iadd, 1) := by decide +kernel
theorem dX10_chapter_18 : decode cX10_chapter 18 = .ok (.iaload, 1) := by decide +kernel
theorem dX10_chapter_19 : decode cX10_chapter 19 = .ok (.invokestatic 48, 3) := by decide +kernel
theorem dX10_chapter_22 : decode cX10_chapter 22 = .ok (.ifCond .ne 5, 3) := by decide +kernel
theorem dX10_chapter_25 : decode cX10_chapter 25 = .ok (.iconst (-1), 1) := by decide +kernel
theorem dX10_chapter_26 : decode cX10_chapter 26 = .ok (.ireturn, 1) := by decide +kernel
theorem dX10_chapter_27 : decode cX10_chapter 27 = .ok (.iconst 0, 1) := by decide +kernel
theorem dX10_chapter_28 : decode cX10_chapter 28 = .ok (.istore 4, 2) := by decide +kernel
theorem dX10_chapter_30 : decode cX10_chapter 30 = .ok (.iconst 0, 1) := by decide +kernel
theorem dX10_chapter_31 : decode cX10_chapter 31 = .ok (.istore 5, 2) := by decide +kernel
theorem dX10_chapter_33 : decode cX10_chapter 33 = .ok (.iload 5, 2) := by decide +kernel
theorem dX10_chapter_35 : decode cX10_chapter 35 = .ok (.aload_n 0, 1) := by decide +kernel
theorem dX10_chapter_36 : decode cX10_chapter 36 = .ok (.iload_n 1, 1) := by decide +kernel
theorem dX10_chapter_37 : decode cX10_chapter 37 = .ok (.invokevirtual 56, 3) := by decide +kernel
theorem dX10_chapter_40 : decode cX10_chapter 40 = .ok (.if_icmp .ge 41, 3) := by decide +kernel
theorem dX10_chapter_43 : decode cX10_chapter 43 = .ok (.iload 4, 2) := by decide +kernel
theorem dX10_chapter_45 : decode cX10_chapter 45 = .ok (.aload_n 0, 1) := by decide +kernel
theorem dX10_chapter_46 : decode cX10_chapter 46 = .ok (.iload_n 1, 1) := by decide +kernel
theorem dX10_chapter_47 : decode cX10_chapter 47 = .ok (.iload 5, 2) := by decide +kernel
theorem dX10_chapter_49 : decode cX10_chapter 49 = .ok (.invokevirtual 82, 3) := by decide +kernel
theorem dX10_chapter_52 : decode cX10_chapter 52 = .ok (.iload_n 2, 1) := by decide +kernel
theorem dX10_chapter_53 : decode cX10_chapter 53 = .ok (.if_icmp .ne 18, 3) := by decide +kernel
theorem dX10_chapter_56 : decode cX10_chapter 56 = .ok (.aload_n 0, 1) := by decide +kernel
theorem dX10_chapter_57 : decode cX10_chapter 57 = .ok (.getfield 7, 3) := by decide +kernel
theorem dX10_chapter_60 : decode cX10_chapter 60 = .ok (.bipush 60, 2) := by decide +kernel
theorem dX10_chapter_62 : decode cX10_chapter 62 = .ok (.iload_n 1, 1) := by decide +kernel
theorem dX10_chapter_63 : decode cX10_chapter 63 = .ok (.imul, 1) := by decide +kernel
theorem dX10_chapter_64 : decode cX10_chapter 64 = .ok (.iload 5, 2) := by decide +kernel
theorem dX10_chapter_66 : decode cX10_chapter 66 = .ok (.iadd, 1) := by decide +kernel
theorem dX10_chapter_67 : decode cX10_chapter 67 = .ok (.iaload, 1) := by decide +kernel
theorem dX10_chapter_68 : decode cX10_chapter 68 = .ok (.goto 4, 3) := by decide +kernel
theorem dX10_chapter_71 : decode cX10_chapter 71 = .ok (.iconst 0, 1) := by decide +kernel
theorem dX10_chapter_72 : decode cX10_chapter 72 = .ok (.iadd, 1) := by decide +kernel
theorem dX10_chapter_73 : decode cX10_chapter 73 = .ok (.istore 4, 2) := by decide +kernel
theorem dX10_chapter_75 : decode cX10_chapter 75 = .ok (.iinc 5 1, 3) := by decide +kernel
theorem dX10_chapter_78 : decode cX10_chapter 78 = .ok (.goto (-45), 3) := by decide +kernel
theorem dX10_chapter_81 : decode cX10_chapter 81 = .ok (.iload_n 3, 1) := by decide +kernel
theorem dX10_chapter_82 : decode cX10_chapter 82 = .ok (.tableswitch 43 0 2 #[26, 33, 40], 26) := by decide +kernel
theorem dX10_chapter_108 : decode cX10_chapter 108 = .ok (.aload_n 0, 1) := by decide +kernel
theorem dX10_chapter_109 : decode cX10_chapter 109 = .ok (.iload_n 1, 1) := by decide +kernel
theorem dX10_chapter_110 : decode cX10_chapter 110 = .ok (.iload_n 2, 1) := by decide +kernel
theorem dX10_chapter_111 : decode cX10_chapter 111 = .ok (.invokevirtual 146, 3) := by decide +kernel
theorem dX10_chapter_114 : decode cX10_chapter 114 = .ok (.ireturn, 1) := by decide +kernel
theorem dX10_chapter_115 : decode cX10_chapter 115 = .ok (.aload_n 0, 1) := by decide +kernel
theorem dX10_chapter_116 : decode cX10_chapter 116 = .ok (.iload_n 1, 1) := by decide +kernel
theorem dX10_chapter_117 : decode cX10_chapter 117 = .ok (.iload_n 2, 1) := by decide +kernel
theorem dX10_chapter_118 : decode cX10_chapter 118 = .ok (.invokevirtual 143, 3) := by decide +kernel
theorem dX10_chapter_121 : decode cX10_chapter 121 = .ok (.ireturn, 1) := by decide +kernel
theorem dX10_chapter_122 : decode cX10_chapter 122 = .ok (.iload 4, 2) := by decide +kernel
theorem dX10_chapter_124 : decode cX10_chapter 124 = .ok (.ireturn, 1) := by decide +kernel
theorem dX10_chapter_125 : decode cX10_chapter 125 = .ok (.bipush (-2), 2) := by decide +kernel
theorem dX10_chapter_127 : decode cX10_chapter 127 = .ok (.ireturn, 1) := by decide +kernel
set_option maxRecDepth 20000 in
theorem ggX10_verse_X10_noVerse : GoodIn wsX10_verse wsX10_noVerse := goodIn_r _ [6, 7, 8, 5, 9, 10, 11, 12, 13, 14, 15, 16, 1, 34, 35, 36, 37, 38, 39, 40, 41, 42, 43, 44, 45, 46, 47, 48, 49, 50, 51, 52, 53, 54, 55, 56] (by decide +kernel) (by decide +kernel)
set_option maxRecDepth 20000 in
theorem gX10_verse_X10_noVerse : GoodIn wsX10_verse (wsV RX10 74 RX10 yX10_noVerse wsX10_noVerse) := goodIn_app (goodIn_of _ (by decide +kernel)) ggX10_verse_X10_noVerse
set_option maxRecDepth 20000 in
theorem ggX10_verse_X10_chapterOf : GoodIn wsX10_verse wsX10_chapterOf := goodIn_r _ [20, 1, 34, 35, 36, 37, 38, 39, 40, 41, 42, 43, 44, 45, 46, 47, 48, 49, 50, 51, 52, 53, 54, 55, 56] (by decide +kernel) (by decide +kernel)
set_option maxRecDepth 20000 in
theorem gX10_verse_X10_chapterOf : GoodIn wsX10_verse (wsV RX10 82 RX10 yX10_chapterOf wsX10_chapterOf) := goodIn_app (goodIn_of _ (by decide +kernel)) ggX10_verse_X10_chapterOf
set_option maxRecDepth 20000 in
theorem ggX10_verse_X10_firstOf : GoodIn wsX10_verse wsX10_firstOf := goodIn_r _ [24, 17, 18, 19, 5, 20, 1, 34, 35, 36, 37, 38, 39, 40, 41, 42, 43, 44, 45, 46, 47, 48, 49, 50, 51, 52, 53, 54, 55, 56] (by decide +kernel) (by decide +kernel)
set_option maxRecDepth 20000 in
theorem gX10_verse_X10_firstOf : GoodIn wsX10_verse (wsV RX10 146 RX10 yX10_firstOf wsX10_firstOf) := goodIn_app (goodIn_of _ (by decide +kernel)) ggX10_verse_X10_firstOf
set_option maxRecDepth 20000 in
theorem ggX10_verse_X10_linesOf : GoodIn wsX10_verse wsX10_linesOf := goodIn_r _ [28, 1, 29, 30, 31, 5, 32, 33, 34, 35, 36, 37, 38, 39, 40, 41, 42, 43, 44, 45, 46, 47, 48, 49, 50, 51, 52, 53, 54, 55, 56] (by decide +kernel) (by decide +kernel)
set_option maxRecDepth 20000 in
theorem gX10_verse_X10_linesOf : GoodIn wsX10_verse (wsV RX10 165 RX10 yX10_linesOf wsX10_linesOf) := goodIn_app (goodIn_of _ (by decide +kernel)) ggX10_verse_X10_linesOf
theorem dX10_verse_0 : decode cX10_verse 0 = .ok (.aload_n 0, 1) := by decide +kernel
theorem dX10_verse_1 : decode cX10_verse 1 = .ok (.iload_n 1, 1) := by decide +kernel
theorem dX10_verse_2 : decode cX10_verse 2 = .ok (.iload_n 2, 1) := by decide +kernel
theorem dX10_verse_3 : decode cX10_verse 3 = .ok (.invokevirtual 74, 3) := by decide +kernel
theorem dX10_verse_6 : decode cX10_verse 6 = .ok (.ifCond .eq 5, 3) := by decide +kernel
theorem dX10_verse_9 : decode cX10_verse 9 = .ok (.iconst (-1), 1) := by decide +kernel
theorem dX10_verse_10 : decode cX10_verse 10 = .ok (.ireturn, 1) := by decide +kernel
theorem dX10_verse_11 : decode cX10_verse 11 = .ok (.bipush 60, 2) := by decide +kernel
theorem dX10_verse_13 : decode cX10_verse 13 = .ok (.iload_n 1, 1) := by decide +kernel
theorem dX10_verse_14 : decode cX10_verse 14 = .ok (.imul, 1) := by decide +kernel
theorem dX10_verse_15 : decode cX10_verse 15 = .ok (.iload_n 2, 1) := by decide +kernel
theorem dX10_verse_16 : decode cX10_verse 16 = .ok (.iadd, 1) := by decide +kernel
theorem dX10_verse_17 : decode cX10_verse 17 = .ok (.istore 4, 2) := by decide +kernel
theorem dX10_verse_19 : decode cX10_verse 19 = .ok (.iload_n 3, 1) := by decide +kernel
theorem dX10_verse_20 : decode cX10_verse 20 = .ok (.tableswitch 85 0 4 #[36, 43, 59, 67, 78], 36) := by decide +kernel
theorem dX10_verse_56 : decode cX10_verse 56 = .ok (.aload_n 0, 1) := by decide +kernel
theorem dX10_verse_57 : decode cX10_verse 57 = .ok (.iload_n 1, 1) := by decide +kernel
theorem dX10_verse_58 : decode cX10_verse 58 = .ok (.iload_n 2, 1) := by decide +kernel
theorem dX10_verse_59 : decode cX10_verse 59 = .ok (.invokevirtual 82, 3) := by decide +kernel
theorem dX10_verse_62 : decode cX10_verse 62 = .ok (.ireturn, 1) := by decide +kernel
theorem dX10_verse_63 : decode cX10_verse 63 = .ok (.iload_n 2, 1) := by decide +kernel
theorem dX10_verse_64 : decode cX10_verse 64 = .ok (.aload_n 0, 1) := by decide +kernel
theorem dX10_verse_65 : decode cX10_verse 65 = .ok (.iload_n 1, 1) := by decide +kernel
theorem dX10_verse_66 : decode cX10_verse 66 = .ok (.aload_n 0, 1) := by decide +kernel
theorem dX10_verse_67 : decode cX10_verse 67 = .ok (.iload_n 1, 1) := by decide +kernel
theorem dX10_verse_68 : decode cX10_verse 68 = .ok (.iload_n 2, 1) := by decide +kernel
theorem dX10_verse_69 : decode cX10_verse 69 = .ok (.invokevirtual 82, 3) := by decide +kernel
theorem dX10_verse_72 : decode cX10_verse 72 = .ok (.invokevirtual 146, 3) := by decide +kernel
theorem dX10_verse_75 : decode cX10_verse 75 = .ok (.isub, 1) := by decide +kernel
theorem dX10_verse_76 : decode cX10_verse 76 = .ok (.iconst 1, 1) := by decide +kernel
theorem dX10_verse_77 : decode cX10_verse 77 = .ok (.iadd, 1) := by decide +kernel
theorem dX10_verse_78 : decode cX10_verse 78 = .ok (.ireturn, 1) := by decide +kernel
theorem dX10_verse_79 : decode cX10_verse 79 = .ok (.aload_n 0, 1) := by decide +kernel
theorem dX10_verse_80 : decode cX10_verse 80 = .ok (.getfield 7, 3) := by decide +kernel
theorem dX10_verse_83 : decode cX10_verse 83 = .ok (.iload 4, 2) := by decide +kernel
theorem dX10_verse_85 : decode cX10_verse 85 = .ok (.iaload, 1) := by decide +kernel
theorem dX10_verse_86 : decode cX10_verse 86 = .ok (.ireturn, 1) := by decide +kernel
theorem dX10_verse_87 : decode cX10_verse 87 = .ok (.aload_n 0, 1) := by decide +kernel
theorem dX10_verse_88 : decode cX10_verse 88 = .ok (.getfield 7, 3) := by decide +kernel
theorem dX10_verse_91 : decode cX10_verse 91 = .ok (.bipush 120, 2) := by decide +kernel
theorem dX10_verse_93 : decode cX10_verse 93 = .ok (.iload 4, 2) := by decide +kernel
theorem dX10_verse_95 : decode cX10_verse 95 = .ok (.iadd, 1) := by decide +kernel
theorem dX10_verse_96 : decode cX10_verse 96 = .ok (.iaload, 1) := by decide +kernel
theorem dX10_verse_97 : decode cX10_verse 97 = .ok (.ireturn, 1) := by decide +kernel
theorem dX10_verse_98 : decode cX10_verse 98 = .ok (.aload_n 0, 1) := by decide +kernel
theorem dX10_verse_99 : decode cX10_verse 99 = .ok (.iload_n 1, 1) := by decide +kernel
theorem dX10_verse_100 : decode cX10_verse 100 = .ok (.iload_n 2, 1) := by decide +kernel
theorem dX10_verse_101 : decode cX10_verse 101 = .ok (.invokevirtual 165, 3) := by decide +kernel
theorem dX10_verse_104 : decode cX10_verse 104 = .ok (.ireturn, 1) := by decide +kernel
theorem dX10_verse_105 : decode cX10_verse 105 = .ok (.bipush (-2), 2) := by decide +kernel
theorem dX10_verse_107 : decode cX10_verse 107 = .ok (.ireturn, 1) := by decide +kernel
set_option maxRecDepth 20000 in
theorem ggX10_kind_X10_has : GoodIn wsX10_kind wsX10_has := goodIn_r _ [5, 6, 7, 8, 9, 10, 11, 12, 13, 14, 15, 16, 17, 18, 19, 20, 21, 22, 23, 24, 25, 26, 27, 28, 29] (by decide +kernel) (by decide +kernel)
set_option maxRecDepth 20000 in
theorem gX10_kind_X10_has : GoodIn wsX10_kind (wsV RX10 78 RX10 yX10_has wsX10_has) := goodIn_app (goodIn_of _ (by decide +kernel)) ggX10_kind_X10_has
theorem dX10_kind_0 : decode cX10_kind 0 = .ok (.aload_n 0, 1) := by decide +kernel
theorem dX10_kind_1 : decode cX10_kind 1 = .ok (.iload_n 1, 1) := by decide +kernel
theorem dX10_kind_2 : decode cX10_kind 2 = .ok (.iconst 0, 1) := by decide +kernel
theorem dX10_kind_3 : decode cX10_kind 3 = .ok (.invokevirtual 78, 3) := by decide +kernel
theorem dX10_kind_6 : decode cX10_kind 6 = .ok (.istore_n 2, 1) := by decide +kernel
theorem dX10_kind_7 : decode cX10_kind 7 = .ok (.aload_n 0, 1) := by decide +kernel
theorem dX10_kind_8 : decode cX10_kind 8 = .ok (.iload_n 1, 1) := by decide +kernel
theorem dX10_kind_9 : decode cX10_kind 9 = .ok (.iconst 1, 1) := by decide +kernel
theorem dX10_kind_10 : decode cX10_kind 10 = .ok (.invokevirtual 78, 3) := by decide +kernel
theorem dX10_kind_13 : decode cX10_kind 13 = .ok (.istore_n 3, 1) := by decide +kernel
theorem dX10_kind_14 : decode cX10_kind 14 = .ok (.iload_n 3, 1) := by decide +kernel
theorem dX10_kind_15 : decode cX10_kind 15 = .ok (.ifCond .ne 7, 3) := by decide +kernel
theorem dX10_kind_18 : decode cX10_kind 18 = .ok (.iconst 1, 1) := by decide +kernel
theorem dX10_kind_19 : decode cX10_kind 19 = .ok (.goto 26, 3) := by decide +kernel
theorem dX10_kind_22 : decode cX10_kind 22 = .ok (.iload_n 2, 1) := by decide +kernel
theorem dX10_kind_23 : decode cX10_kind 23 = .ok (.ifCond .ne 7, 3) := by decide +kernel
theorem dX10_kind_26 : decode cX10_kind 26 = .ok (.iconst 2, 1) := by decide +kernel
theorem dX10_kind_27 : decode cX10_kind 27 = .ok (.goto 18, 3) := by decide +kernel
theorem dX10_kind_30 : decode cX10_kind 30 = .ok (.iload_n 2, 1) := by decide +kernel
theorem dX10_kind_31 : decode cX10_kind 31 = .ok (.iconst 1, 1) := by decide +kernel
theorem dX10_kind_32 : decode cX10_kind 32 = .ok (.if_icmp .ne 12, 3) := by decide +kernel
theorem dX10_kind_35 : decode cX10_kind 35 = .ok (.iload_n 3, 1) := by decide +kernel
theorem dX10_kind_36 : decode cX10_kind 36 = .ok (.iconst 1, 1) := by decide +kernel
theorem dX10_kind_37 : decode cX10_kind 37 = .ok (.if_icmp .ne 7, 3) := by decide +kernel
theorem dX10_kind_40 : decode cX10_kind 40 = .ok (.iconst 0, 1) := by decide +kernel
theorem dX10_kind_41 : decode cX10_kind 41 = .ok (.goto 4, 3) := by decide +kernel
theorem dX10_kind_44 : decode cX10_kind 44 = .ok (.iconst 3, 1) := by decide +kernel
theorem dX10_kind_45 : decode cX10_kind 45 = .ok (.ireturn, 1) := by decide +kernel
set_option maxRecDepth 20000 in
theorem ggX10_group_X10_noGroup : GoodIn wsX10_group wsX10_noGroup := goodIn_r _ [7, 8, 9, 10, 6, 11, 12, 13, 14, 15, 65, 66, 67, 68, 69, 70, 71, 72, 73, 74, 75, 76, 77, 78, 79, 80, 81, 82, 83, 84, 85, 86, 87] (by decide +kernel) (by decide +kernel)
set_option maxRecDepth 20000 in
theorem gX10_group_X10_noGroup : GoodIn wsX10_group (wsV RX10 94 RX10 yX10_noGroup wsX10_noGroup) := goodIn_app (goodIn_of _ (by decide +kernel)) ggX10_group_X10_noGroup
set_option maxRecDepth 20000 in
theorem ggX10_group_X10_layPages : GoodIn wsX10_group wsX10_layPages := goodIn_r _ [19, 20, 21, 22, 23, 1, 2, 8, 9, 10, 6, 11, 12, 24, 25, 26, 27, 28, 29, 30, 31, 32, 33, 34, 35, 36, 37, 38, 39, 40, 41, 42, 43, 44, 45, 46, 47, 48, 49, 50, 51, 52, 53, 54, 55, 56, 57, 58, 59, 60, 65, 66, 67, 68, 69, 70, 71, 72, 73, 74, 75, 76, 77, 78, 79, 80, 81, 82, 83, 84, 85, 86, 87] (by decide +kernel) (by decide +kernel)
set_option maxRecDepth 20000 in
theorem gX10_group_X10_layPages : GoodIn wsX10_group (wsV RX10 183 RX10 yX10_layPages wsX10_layPages) := goodIn_app (goodIn_of _ (by decide +kernel)) ggX10_group_X10_layPages
set_option maxRecDepth 20000 in
theorem ggX10_group_X10_kind : GoodIn wsX10_group wsX10_kind := goodIn_r _ [64, 37, 38, 39, 6, 40, 12, 65, 66, 67, 68, 69, 70, 71, 72, 73, 74, 75, 76, 77, 78, 79, 80, 81, 82, 83, 84, 85, 86, 87] (by decide +kernel) (by decide +kernel)
set_option maxRecDepth 20000 in
theorem gX10_group_X10_kind : GoodIn wsX10_group (wsV RX10 186 RX10 yX10_kind wsX10_kind) := goodIn_app (goodIn_of _ (by decide +kernel)) ggX10_group_X10_kind
set_option maxRecDepth 20000 in
theorem ggX10_group_X10_has : GoodIn wsX10_group wsX10_has := goodIn_r _ [40, 12, 65, 66, 67, 68, 69, 70, 71, 72, 73, 74, 75, 76, 77, 78, 79, 80, 81, 82, 83, 84, 85, 86, 87] (by decide +kernel) (by decide +kernel)
set_option maxRecDepth 20000 in
theorem gX10_group_X10_has : GoodIn wsX10_group (wsV RX10 78 RX10 yX10_has wsX10_has) := goodIn_app (goodIn_of _ (by decide +kernel)) ggX10_group_X10_has
set_option maxRecDepth 20000 in
theorem ggX10_group_X10_firstIn : GoodIn wsX10_group wsX10_firstIn := goodIn_r _ [36, 37, 38, 39, 6, 40, 12, 65, 66, 67, 68, 69, 70, 71, 72, 73, 74, 75, 76, 77, 78, 79, 80, 81, 82, 83, 84, 85, 86, 87] (by decide +kernel) (by decide +kernel)
set_option maxRecDepth 20000 in
theorem gX10_group_X10_firstIn : GoodIn wsX10_group (wsV RX10 159 RX10 yX10_firstIn wsX10_firstIn) := goodIn_app (goodIn_of _ (by decide +kernel)) ggX10_group_X10_firstIn
set_option maxRecDepth 20000 in
theorem ggX10_group_X10_heightOf : GoodIn wsX10_group wsX10_heightOf := goodIn_r _ [27, 28, 29, 30, 6, 31, 32, 33, 34, 35, 36, 37, 38, 39, 40, 12, 41, 42, 43, 44, 45, 46, 47, 48, 49, 50, 51, 52, 53, 65, 66, 67, 68, 69, 70, 71, 72, 73, 74, 75, 76, 77, 78, 79, 80, 81, 82, 83, 84, 85, 86, 87] (by decide +kernel) (by decide +kernel)
set_option maxRecDepth 20000 in
theorem gX10_group_X10_heightOf : GoodIn wsX10_group (wsV RX10 174 RX10 yX10_heightOf wsX10_heightOf) := goodIn_app (goodIn_of _ (by decide +kernel)) ggX10_group_X10_heightOf
set_option maxRecDepth 20000 in
theorem ggX10_group_X10_notesOf : GoodIn wsX10_group wsX10_notesOf := goodIn_r _ [57, 12, 33, 34, 35, 6, 36, 37, 38, 39, 40, 65, 66, 67, 68, 69, 70, 71, 72, 73, 74, 75, 76, 77, 78, 79, 80, 81, 82, 83, 84, 85, 86, 87] (by decide +kernel) (by decide +kernel)
set_option maxRecDepth 20000 in
theorem gX10_group_X10_notesOf : GoodIn wsX10_group (wsV RX10 177 RX10 yX10_notesOf wsX10_notesOf) := goodIn_app (goodIn_of _ (by decide +kernel)) ggX10_group_X10_notesOf
theorem dX10_group_0 : decode cX10_group 0 = .ok (.aload_n 0, 1) := by decide +kernel
theorem dX10_group_1 : decode cX10_group 1 = .ok (.iload_n 1, 1) := by decide +kernel
theorem dX10_group_2 : decode cX10_group 2 = .ok (.invokevirtual 94, 3) := by decide +kernel
theorem dX10_group_5 : decode cX10_group 5 = .ok (.ifCond .eq 5, 3) := by decide +kernel
theorem dX10_group_8 : decode cX10_group 8 = .ok (.iconst (-1), 1) := by decide +kernel
theorem dX10_group_9 : decode cX10_group 9 = .ok (.ireturn, 1) := by decide +kernel
theorem dX10_group_10 : decode cX10_group 10 = .ok (.aload_n 0, 1) := by decide +kernel
theorem dX10_group_11 : decode cX10_group 11 = .ok (.invokevirtual 183, 3) := by decide +kernel
theorem dX10_group_14 : decode cX10_group 14 = .ok (.iload_n 2, 1) := by decide +kernel
theorem dX10_group_15 : decode cX10_group 15 = .ok (.tableswitch 137 0 8 #[49, 55, 76, 83, 104, 111, 117, 124, 131], 49) := by decide +kernel
theorem dX10_group_64 : decode cX10_group 64 = .ok (.aload_n 0, 1) := by decide +kernel
theorem dX10_group_65 : decode cX10_group 65 = .ok (.iload_n 1, 1) := by decide +kernel
theorem dX10_group_66 : decode cX10_group 66 = .ok (.invokevirtual 186, 3) := by decide +kernel
theorem dX10_group_69 : decode cX10_group 69 = .ok (.ireturn, 1) := by decide +kernel
theorem dX10_group_70 : decode cX10_group 70 = .ok (.aload_n 0, 1) := by decide +kernel
theorem dX10_group_71 : decode cX10_group 71 = .ok (.iload_n 1, 1) := by decide +kernel
theorem dX10_group_72 : decode cX10_group 72 = .ok (.iconst 0, 1) := by decide +kernel
theorem dX10_group_73 : decode cX10_group 73 = .ok (.invokevirtual 78, 3) := by decide +kernel
theorem dX10_group_76 : decode cX10_group 76 = .ok (.ifCond .ne 8, 3) := by decide +kernel
theorem dX10_group_79 : decode cX10_group 79 = .ok (.bipush (-5), 2) := by decide +kernel
theorem dX10_group_81 : decode cX10_group 81 = .ok (.goto 9, 3) := by decide +kernel
theorem dX10_group_84 : decode cX10_group 84 = .ok (.aload_n 0, 1) := by decide +kernel
theorem dX10_group_85 : decode cX10_group 85 = .ok (.iload_n 1, 1) := by decide +kernel
theorem dX10_group_86 : decode cX10_group 86 = .ok (.iconst 0, 1) := by decide +kernel
theorem dX10_group_87 : decode cX10_group 87 = .ok (.invokevirtual 159, 3) := by decide +kernel
theorem dX10_group_90 : decode cX10_group 90 = .ok (.ireturn, 1) := by decide +kernel
theorem dX10_group_91 : decode cX10_group 91 = .ok (.aload_n 0, 1) := by decide +kernel
theorem dX10_group_92 : decode cX10_group 92 = .ok (.iload_n 1, 1) := by decide +kernel
theorem dX10_group_93 : decode cX10_group 93 = .ok (.iconst 0, 1) := by decide +kernel
theorem dX10_group_94 : decode cX10_group 94 = .ok (.invokevirtual 78, 3) := by decide +kernel
theorem dX10_group_97 : decode cX10_group 97 = .ok (.ireturn, 1) := by decide +kernel
theorem dX10_group_98 : decode cX10_group 98 = .ok (.aload_n 0, 1) := by decide +kernel
theorem dX10_group_99 : decode cX10_group 99 = .ok (.iload_n 1, 1) := by decide +kernel
theorem dX10_group_100 : decode cX10_group 100 = .ok (.iconst 1, 1) := by decide +kernel
theorem dX10_group_101 : decode cX10_group 101 = .ok (.invokevirtual 78, 3) := by decide +kernel
theorem dX10_group_104 : decode cX10_group 104 = .ok (.ifCond .ne 8, 3) := by decide +kernel
theorem dX10_group_107 : decode cX10_group 107 = .ok (.bipush (-5), 2) := by decide +kernel
theorem dX10_group_109 : decode cX10_group 109 = .ok (.goto 9, 3) := by decide +kernel
theorem dX10_group_112 : decode cX10_group 112 = .ok (.aload_n 0, 1) := by decide +kernel
theorem dX10_group_113 : decode cX10_group 113 = .ok (.iload_n 1, 1) := by decide +kernel
theorem dX10_group_114 : decode cX10_group 114 = .ok (.iconst 1, 1) := by decide +kernel
theorem dX10_group_115 : decode cX10_group 115 = .ok (.invokevirtual 159, 3) := by decide +kernel
theorem dX10_group_118 : decode cX10_group 118 = .ok (.ireturn, 1) := by decide +kernel
theorem dX10_group_119 : decode cX10_group 119 = .ok (.aload_n 0, 1) := by decide +kernel
theorem dX10_group_120 : decode cX10_group 120 = .ok (.iload_n 1, 1) := by decide +kernel
theorem dX10_group_121 : decode cX10_group 121 = .ok (.iconst 1, 1) := by decide +kernel
theorem dX10_group_122 : decode cX10_group 122 = .ok (.invokevirtual 78, 3) := by decide +kernel
theorem dX10_group_125 : decode cX10_group 125 = .ok (.ireturn, 1) := by decide +kernel
theorem dX10_group_126 : decode cX10_group 126 = .ok (.aload_n 0, 1) := by decide +kernel
theorem dX10_group_127 : decode cX10_group 127 = .ok (.iload_n 1, 1) := by decide +kernel
theorem dX10_group_128 : decode cX10_group 128 = .ok (.invokevirtual 174, 3) := by decide +kernel
theorem dX10_group_131 : decode cX10_group 131 = .ok (.ireturn, 1) := by decide +kernel
theorem dX10_group_132 : decode cX10_group 132 = .ok (.aload_n 0, 1) := by decide +kernel
theorem dX10_group_133 : decode cX10_group 133 = .ok (.getfield 36, 3) := by decide +kernel
theorem dX10_group_136 : decode cX10_group 136 = .ok (.iload_n 1, 1) := by decide +kernel
theorem dX10_group_137 : decode cX10_group 137 = .ok (.iaload, 1) := by decide +kernel
theorem dX10_group_138 : decode cX10_group 138 = .ok (.ireturn, 1) := by decide +kernel
theorem dX10_group_139 : decode cX10_group 139 = .ok (.aload_n 0, 1) := by decide +kernel
theorem dX10_group_140 : decode cX10_group 140 = .ok (.getfield 39, 3) := by decide +kernel
theorem dX10_group_143 : decode cX10_group 143 = .ok (.iload_n 1, 1) := by decide +kernel
theorem dX10_group_144 : decode cX10_group 144 = .ok (.iaload, 1) := by decide +kernel
theorem dX10_group_145 : decode cX10_group 145 = .ok (.ireturn, 1) := by decide +kernel
theorem dX10_group_146 : decode cX10_group 146 = .ok (.aload_n 0, 1) := by decide +kernel
theorem dX10_group_147 : decode cX10_group 147 = .ok (.iload_n 1, 1) := by decide +kernel
theorem dX10_group_148 : decode cX10_group 148 = .ok (.invokevirtual 177, 3) := by decide +kernel
theorem dX10_group_151 : decode cX10_group 151 = .ok (.ireturn, 1) := by decide +kernel
theorem dX10_group_152 : decode cX10_group 152 = .ok (.bipush (-2), 2) := by decide +kernel
theorem dX10_group_154 : decode cX10_group 154 = .ok (.ireturn, 1) := by decide +kernel
set_option maxRecDepth 20000 in
theorem ggX10_ofKind_X10_groups : GoodIn wsX10_ofKind wsX10_groups := goodIn_r _ [5, 6, 15, 16, 17, 18, 19, 20, 21, 22, 23, 24, 25, 26, 27, 28, 29, 30, 31, 32, 33, 34, 35, 36, 37] (by decide +kernel) (by decide +kernel)
set_option maxRecDepth 20000 in
theorem gX10_ofKind_X10_groups : GoodIn wsX10_ofKind (wsV RX10 60 RX10 yX10_groups wsX10_groups) := goodIn_app (goodIn_of _ (by decide +kernel)) ggX10_ofKind_X10_groups
set_option maxRecDepth 20000 in
theorem ggX10_ofKind_X10_kind : GoodIn wsX10_ofKind wsX10_kind := goodIn_r _ [10, 11, 12, 13, 4, 14, 6, 15, 16, 17, 18, 19, 20, 21, 22, 23, 24, 25, 26, 27, 28, 29, 30, 31, 32, 33, 34, 35, 36, 37] (by decide +kernel) (by decide +kernel)
set_option maxRecDepth 20000 in
theorem gX10_ofKind_X10_kind : GoodIn wsX10_ofKind (wsV RX10 186 RX10 yX10_kind wsX10_kind) := goodIn_app (goodIn_of _ (by decide +kernel)) ggX10_ofKind_X10_kind
theorem dX10_ofKind_0 : decode cX10_ofKind 0 = .ok (.iconst 0, 1) := by decide +kernel
theorem dX10_ofKind_1 : decode cX10_ofKind 1 = .ok (.istore_n 2, 1) := by decide +kernel
theorem dX10_ofKind_2 : decode cX10_ofKind 2 = .ok (.iconst 0, 1) := by decide +kernel
theorem dX10_ofKind_3 : decode cX10_ofKind 3 = .ok (.istore_n 3, 1) := by decide +kernel
theorem dX10_ofKind_4 : decode cX10_ofKind 4 = .ok (.iload_n 3, 1) := by decide +kernel
theorem dX10_ofKind_5 : decode cX10_ofKind 5 = .ok (.aload_n 0, 1) := by decide +kernel
theorem dX10_ofKind_6 : decode cX10_ofKind 6 = .ok (.invokevirtual 60, 3) := by decide +kernel
theorem dX10_ofKind_9 : decode cX10_ofKind 9 = .ok (.if_icmp .ge 26, 3) := by decide +kernel
theorem dX10_ofKind_12 : decode cX10_ofKind 12 = .ok (.iload_n 2, 1) := by decide +kernel
theorem dX10_ofKind_13 : decode cX10_ofKind 13 = .ok (.aload_n 0, 1) := by decide +kernel
theorem dX10_ofKind_14 : decode cX10_ofKind 14 = .ok (.iload_n 3, 1) := by decide +kernel
theorem dX10_ofKind_15 : decode cX10_ofKind 15 = .ok (.invokevirtual 186, 3) := by decide +kernel
theorem dX10_ofKind_18 : decode cX10_ofKind 18 = .ok (.iload_n 1, 1) := by decide +kernel
theorem dX10_ofKind_19 : decode cX10_ofKind 19 = .ok (.if_icmp .ne 7, 3) := by decide +kernel
theorem dX10_ofKind_22 : decode cX10_ofKind 22 = .ok (.iconst 1, 1) := by decide +kernel
theorem dX10_ofKind_23 : decode cX10_ofKind 23 = .ok (.goto 4, 3) := by decide +kernel
theorem dX10_ofKind_26 : decode cX10_ofKind 26 = .ok (.iconst 0, 1) := by decide +kernel
theorem dX10_ofKind_27 : decode cX10_ofKind 27 = .ok (.iadd, 1) := by decide +kernel
theorem dX10_ofKind_28 : decode cX10_ofKind 28 = .ok (.istore_n 2, 1) := by decide +kernel
theorem dX10_ofKind_29 : decode cX10_ofKind 29 = .ok (.iinc 3 1, 3) := by decide +kernel
theorem dX10_ofKind_32 : decode cX10_ofKind 32 = .ok (.goto (-28), 3) := by decide +kernel
theorem dX10_ofKind_35 : decode cX10_ofKind 35 = .ok (.iload_n 2, 1) := by decide +kernel
theorem dX10_ofKind_36 : decode cX10_ofKind 36 = .ok (.ireturn, 1) := by decide +kernel
set_option maxRecDepth 20000 in
theorem ggX10_empty_X10_groups : GoodIn wsX10_empty wsX10_groups := goodIn_r _ [5, 6, 33, 34, 35, 36, 37, 38, 39, 40, 41, 42, 43, 44, 45, 46, 47, 48, 49, 50, 51, 52, 53, 54, 55] (by decide +kernel) (by decide +kernel)
set_option maxRecDepth 20000 in
theorem gX10_empty_X10_groups : GoodIn wsX10_empty (wsV RX10 60 RX10 yX10_groups wsX10_groups) := goodIn_app (goodIn_of _ (by decide +kernel)) ggX10_empty_X10_groups
set_option maxRecDepth 20000 in
theorem ggX10_empty_X10_needed : GoodIn wsX10_empty wsX10_needed := goodIn_r _ [10, 11, 12, 13, 14, 4, 15, 16, 17, 18, 19, 6, 20, 21, 22, 23, 24, 25, 26, 27, 28, 29, 30, 31, 32, 33, 34, 35, 36, 37, 38, 39, 40, 41, 42, 43, 44, 45, 46, 47, 48, 49, 50, 51, 52, 53, 54, 55] (by decide +kernel) (by decide +kernel)
set_option maxRecDepth 20000 in
theorem gX10_empty_X10_needed : GoodIn wsX10_empty (wsV RX10 168 RX10 yX10_needed wsX10_needed) := goodIn_app (goodIn_of _ (by decide +kernel)) ggX10_empty_X10_needed
theorem dX10_empty_0 : decode cX10_empty 0 = .ok (.iconst 0, 1) := by decide +kernel
theorem dX10_empty_1 : decode cX10_empty 1 = .ok (.istore_n 1, 1) := by decide +kernel
theorem dX10_empty_2 : decode cX10_empty 2 = .ok (.iconst 0, 1) := by decide +kernel
theorem dX10_empty_3 : decode cX10_empty 3 = .ok (.istore_n 2, 1) := by decide +kernel
theorem dX10_empty_4 : decode cX10_empty 4 = .ok (.iload_n 2, 1) := by decide +kernel
theorem dX10_empty_5 : decode cX10_empty 5 = .ok (.aload_n 0, 1) := by decide +kernel
theorem dX10_empty_6 : decode cX10_empty 6 = .ok (.invokevirtual 60, 3) := by decide +kernel
theorem dX10_empty_9 : decode cX10_empty 9 = .ok (.if_icmp .ge 36, 3) := by decide +kernel
theorem dX10_empty_12 : decode cX10_empty 12 = .ok (.aload_n 0, 1) := by decide +kernel
theorem dX10_empty_13 : decode cX10_empty 13 = .ok (.iload_n 2, 1) := by decide +kernel
theorem dX10_empty_14 : decode cX10_empty 14 = .ok (.iconst 0, 1) := by decide +kernel
theorem dX10_empty_15 : decode cX10_empty 15 = .ok (.invokevirtual 168, 3) := by decide +kernel
theorem dX10_empty_18 : decode cX10_empty 18 = .ok (.aload_n 0, 1) := by decide +kernel
theorem dX10_empty_19 : decode cX10_empty 19 = .ok (.iload_n 2, 1) := by decide +kernel
theorem dX10_empty_20 : decode cX10_empty 20 = .ok (.iconst 1, 1) := by decide +kernel
theorem dX10_empty_21 : decode cX10_empty 21 = .ok (.invokevirtual 168, 3) := by decide +kernel
theorem dX10_empty_24 : decode cX10_empty 24 = .ok (.isub, 1) := by decide +kernel
theorem dX10_empty_25 : decode cX10_empty 25 = .ok (.istore_n 3, 1) := by decide +kernel
theorem dX10_empty_26 : decode cX10_empty 26 = .ok (.iload_n 1, 1) := by decide +kernel
theorem dX10_empty_27 : decode cX10_empty 27 = .ok (.iload_n 3, 1) := by decide +kernel
theorem dX10_empty_28 : decode cX10_empty 28 = .ok (.ifCond .ge 8, 3) := by decide +kernel
theorem dX10_empty_31 : decode cX10_empty 31 = .ok (.iload_n 3, 1) := by decide +kernel
theorem dX10_empty_32 : decode cX10_empty 32 = .ok (.ineg, 1) := by decide +kernel
theorem dX10_empty_33 : decode cX10_empty 33 = .ok (.goto 4, 3) := by decide +kernel
theorem dX10_empty_36 : decode cX10_empty 36 = .ok (.iload_n 3, 1) := by decide +kernel
theorem dX10_empty_37 : decode cX10_empty 37 = .ok (.iadd, 1) := by decide +kernel
theorem dX10_empty_38 : decode cX10_empty 38 = .ok (.istore_n 1, 1) := by decide +kernel
theorem dX10_empty_39 : decode cX10_empty 39 = .ok (.iinc 2 1, 3) := by decide +kernel
theorem dX10_empty_42 : decode cX10_empty 42 = .ok (.goto (-38), 3) := by decide +kernel
theorem dX10_empty_45 : decode cX10_empty 45 = .ok (.iload_n 1, 1) := by decide +kernel
theorem dX10_empty_46 : decode cX10_empty 46 = .ok (.ireturn, 1) := by decide +kernel
set_option maxRecDepth 20000 in
theorem ggX10_count_X10_in : GoodIn wsX10_count wsX10_in := goodIn_r _ [7] (by decide +kernel) (by decide +kernel)
set_option maxRecDepth 20000 in
theorem gX10_count_X10_in : GoodIn wsX10_count (va_wsS RX10 48 yX10_in wsX10_in) := goodIn_app (goodIn_of _ (by decide +kernel)) ggX10_count_X10_in
set_option maxRecDepth 20000 in
theorem ggX10_count_X10_layPages : GoodIn wsX10_count wsX10_layPages := goodIn_r _ [11, 2, 12, 13, 14, 15, 16, 17, 18, 19, 6, 20, 1, 21, 22, 23, 24, 25, 26, 27, 28, 29, 30, 31, 32, 33, 34, 35, 36, 37, 38, 39, 40, 41, 42, 43, 44, 45, 46, 47, 48, 49, 50, 51, 52, 53, 54, 55, 56, 57, 70, 71, 72, 73, 74, 75, 76, 77, 78, 79, 80, 81, 82, 83, 84, 85, 86, 87, 88, 89, 90, 91, 92] (by decide +kernel) (by decide +kernel)
set_option maxRecDepth 20000 in
theorem gX10_count_X10_layPages : GoodIn wsX10_count (wsV RX10 183 RX10 yX10_layPages wsX10_layPages) := goodIn_app (goodIn_of _ (by decide +kernel)) ggX10_count_X10_layPages
set_option maxRecDepth 20000 in
theorem ggX10_count_X10_groups : GoodIn wsX10_count wsX10_groups := goodIn_r _ [20, 1, 70, 71, 72, 73, 74, 75, 76, 77, 78, 79, 80, 81, 82, 83, 84, 85, 86, 87, 88, 89, 90, 91, 92] (by decide +kernel) (by decide +kernel)
set_option maxRecDepth 20000 in
theorem gX10_count_X10_groups : GoodIn wsX10_count (wsV RX10 60 RX10 yX10_groups wsX10_groups) := goodIn_app (goodIn_of _ (by decide +kernel)) ggX10_count_X10_groups
set_option maxRecDepth 20000 in
theorem ggX10_count_X10_ofKind : GoodIn wsX10_count wsX10_ofKind := goodIn_r _ [61, 17, 18, 19, 6, 20, 1, 62, 63, 64, 65, 34, 35, 36, 37, 70, 71, 72, 73, 74, 75, 76, 77, 78, 79, 80, 81, 82, 83, 84, 85, 86, 87, 88, 89, 90, 91, 92] (by decide +kernel) (by decide +kernel)
set_option maxRecDepth 20000 in
theorem gX10_count_X10_ofKind : GoodIn wsX10_count (wsV RX10 189 RX10 yX10_ofKind wsX10_ofKind) := goodIn_app (goodIn_of _ (by decide +kernel)) ggX10_count_X10_ofKind
set_option maxRecDepth 20000 in
theorem ggX10_count_X10_empty : GoodIn wsX10_count wsX10_empty := goodIn_r _ [69, 17, 18, 19, 6, 20, 1, 25, 26, 27, 28, 29, 30, 31, 32, 33, 34, 35, 36, 37, 38, 39, 40, 41, 42, 43, 44, 45, 46, 47, 48, 49, 50, 70, 71, 72, 73, 74, 75, 76, 77, 78, 79, 80, 81, 82, 83, 84, 85, 86, 87, 88, 89, 90, 91, 92] (by decide +kernel) (by decide +kernel)
set_option maxRecDepth 20000 in
theorem gX10_count_X10_empty : GoodIn wsX10_count (wsV RX10 192 RX10 yX10_empty wsX10_empty) := goodIn_app (goodIn_of _ (by decide +kernel)) ggX10_count_X10_empty
theorem dX10_count_0 : decode cX10_count 0 = .ok (.iload_n 1, 1) := by decide +kernel
theorem dX10_count_1 : decode cX10_count 1 = .ok (.iconst 0, 1) := by decide +kernel
theorem dX10_count_2 : decode cX10_count 2 = .ok (.bipush 11, 2) := by decide +kernel
theorem dX10_count_4 : decode cX10_count 4 = .ok (.invokestatic 48, 3) := by decide +kernel
theorem dX10_count_7 : decode cX10_count 7 = .ok (.ifCond .ne 6, 3) := by decide +kernel
theorem dX10_count_10 : decode cX10_count 10 = .ok (.bipush (-2), 2) := by decide +kernel
theorem dX10_count_12 : decode cX10_count 12 = .ok (.ireturn, 1) := by decide +kernel
theorem dX10_count_13 : decode cX10_count 13 = .ok (.aload_n 0, 1) := by decide +kernel
theorem dX10_count_14 : decode cX10_count 14 = .ok (.invokevirtual 183, 3) := by decide +kernel
theorem dX10_count_17 : decode cX10_count 17 = .ok (.iload_n 1, 1) := by decide +kernel
theorem dX10_count_18 : decode cX10_count 18 = .ok (.iconst 2, 1) := by decide +kernel
theorem dX10_count_19 : decode cX10_count 19 = .ok (.if_icmp .ge 16, 3) := by decide +kernel
theorem dX10_count_22 : decode cX10_count 22 = .ok (.aload_n 0, 1) := by decide +kernel
theorem dX10_count_23 : decode cX10_count 23 = .ok (.getfield 7, 3) := by decide +kernel
theorem dX10_count_26 : decode cX10_count 26 = .ok (.sipush 362, 3) := by decide +kernel
theorem dX10_count_29 : decode cX10_count 29 = .ok (.iload_n 1, 1) := by decide +kernel
theorem dX10_count_30 : decode cX10_count 30 = .ok (.iadd, 1) := by decide +kernel
theorem dX10_count_31 : decode cX10_count 31 = .ok (.iaload, 1) := by decide +kernel
theorem dX10_count_32 : decode cX10_count 32 = .ok (.goto 81, 3) := by decide +kernel
theorem dX10_count_35 : decode cX10_count 35 = .ok (.iload_n 1, 1) := by decide +kernel
theorem dX10_count_36 : decode cX10_count 36 = .ok (.iconst 4, 1) := by decide +kernel
theorem dX10_count_37 : decode cX10_count 37 = .ok (.if_icmp .ge 18, 3) := by decide +kernel
theorem dX10_count_40 : decode cX10_count 40 = .ok (.aload_n 0, 1) := by decide +kernel
theorem dX10_count_41 : decode cX10_count 41 = .ok (.getfield 7, 3) := by decide +kernel
theorem dX10_count_44 : decode cX10_count 44 = .ok (.sipush 360, 3) := by decide +kernel
theorem dX10_count_47 : decode cX10_count 47 = .ok (.iload_n 1, 1) := by decide +kernel
theorem dX10_count_48 : decode cX10_count 48 = .ok (.iadd, 1) := by decide +kernel
theorem dX10_count_49 : decode cX10_count 49 = .ok (.iconst 2, 1) := by decide +kernel
theorem dX10_count_50 : decode cX10_count 50 = .ok (.isub, 1) := by decide +kernel
theorem dX10_count_51 : decode cX10_count 51 = .ok (.iaload, 1) := by decide +kernel
theorem dX10_count_52 : decode cX10_count 52 = .ok (.goto 61, 3) := by decide +kernel
theorem dX10_count_55 : decode cX10_count 55 = .ok (.iload_n 1, 1) := by decide +kernel
theorem dX10_count_56 : decode cX10_count 56 = .ok (.iconst 4, 1) := by decide +kernel
theorem dX10_count_57 : decode cX10_count 57 = .ok (.if_icmp .ne 10, 3) := by decide +kernel
theorem dX10_count_60 : decode cX10_count 60 = .ok (.aload_n 0, 1) := by decide +kernel
theorem dX10_count_61 : decode cX10_count 61 = .ok (.invokevirtual 60, 3) := by decide +kernel
theorem dX10_count_64 : decode cX10_count 64 = .ok (.goto 49, 3) := by decide +kernel
theorem dX10_count_67 : decode cX10_count 67 = .ok (.iload_n 1, 1) := by decide +kernel
theorem dX10_count_68 : decode cX10_count 68 = .ok (.bipush 9, 2) := by decide +kernel
theorem dX10_count_70 : decode cX10_count 70 = .ok (.if_icmp .ge 13, 3) := by decide +kernel
theorem dX10_count_73 : decode cX10_count 73 = .ok (.aload_n 0, 1) := by decide +kernel
theorem dX10_count_74 : decode cX10_count 74 = .ok (.iload_n 1, 1) := by decide +kernel
theorem dX10_count_75 : decode cX10_count 75 = .ok (.iconst 5, 1) := by decide +kernel
theorem dX10_count_76 : decode cX10_count 76 = .ok (.isub, 1) := by decide +kernel
theorem dX10_count_77 : decode cX10_count 77 = .ok (.invokevirtual 189, 3) := by decide +kernel
theorem dX10_count_80 : decode cX10_count 80 = .ok (.goto 33, 3) := by decide +kernel
theorem dX10_count_83 : decode cX10_count 83 = .ok (.iload_n 1, 1) := by decide +kernel
theorem dX10_count_84 : decode cX10_count 84 = .ok (.bipush 9, 2) := by decide +kernel
theorem dX10_count_86 : decode cX10_count 86 = .ok (.if_icmp .ne 10, 3) := by decide +kernel
theorem dX10_count_89 : decode cX10_count 89 = .ok (.aload_n 0, 1) := by decide +kernel
theorem dX10_count_90 : decode cX10_count 90 = .ok (.getfield 171, 3) := by decide +kernel
theorem dX10_count_93 : decode cX10_count 93 = .ok (.goto 20, 3) := by decide +kernel
theorem dX10_count_96 : decode cX10_count 96 = .ok (.iload_n 1, 1) := by decide +kernel
theorem dX10_count_97 : decode cX10_count 97 = .ok (.bipush 10, 2) := by decide +kernel
theorem dX10_count_99 : decode cX10_count 99 = .ok (.if_icmp .ne 10, 3) := by decide +kernel
theorem dX10_count_102 : decode cX10_count 102 = .ok (.aload_n 0, 1) := by decide +kernel
theorem dX10_count_103 : decode cX10_count 103 = .ok (.invokevirtual 192, 3) := by decide +kernel
theorem dX10_count_106 : decode cX10_count 106 = .ok (.goto 7, 3) := by decide +kernel
theorem dX10_count_109 : decode cX10_count 109 = .ok (.aload_n 0, 1) := by decide +kernel
theorem dX10_count_110 : decode cX10_count 110 = .ok (.getfield 64, 3) := by decide +kernel
theorem dX10_count_113 : decode cX10_count 113 = .ok (.ireturn, 1) := by decide +kernel
