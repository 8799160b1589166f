theorem dX3_init_0 : decode cX3_init 0 = .ok (.aload_n 0, 1) := by decide +kernel
theorem dX3_init_1 : decode cX3_init 1 = .ok (.invokespecial 3, 3) := by decide +kernel
theorem dX3_init_4 : decode cX3_init 4 = .ok (.aload_n 0, 1) := by decide +kernel
theorem dX3_init_5 : decode cX3_init 5 = .ok (.bipush 40, 2) := by decide +kernel
theorem dX3_init_7 : decode cX3_init 7 = .ok (.putfield 9, 3) := by decide +kernel
theorem dX3_init_10 : decode cX3_init 10 = .ok (.aload_n 0, 1) := by decide +kernel
theorem dX3_init_11 : decode cX3_init 11 = .ok (.bipush 40, 2) := by decide +kernel
theorem dX3_init_13 : decode cX3_init 13 = .ok (.putfield 15, 3) := by decide +kernel
theorem dX3_init_16 : decode cX3_init 16 = .ok (.aload_n 0, 1) := by decide +kernel
theorem dX3_init_17 : decode cX3_init 17 = .ok (.bipush 40, 2) := by decide +kernel
theorem dX3_init_19 : decode cX3_init 19 = .ok (.putfield 18, 3) := by decide +kernel
theorem dX3_init_22 : decode cX3_init 22 = .ok (.aload_n 0, 1) := by decide +kernel
theorem dX3_init_23 : decode cX3_init 23 = .ok (.iconst 2, 1) := by decide +kernel
theorem dX3_init_24 : decode cX3_init 24 = .ok (.putfield 21, 3) := by decide +kernel
theorem dX3_init_27 : decode cX3_init 27 = .ok (.aload_n 0, 1) := by decide +kernel
theorem dX3_init_28 : decode cX3_init 28 = .ok (.bipush 120, 2) := by decide +kernel
theorem dX3_init_30 : decode cX3_init 30 = .ok (.newarray .int, 2) := by decide +kernel
theorem dX3_init_32 : decode cX3_init 32 = .ok (.putfield 24, 3) := by decide +kernel
theorem dX3_init_35 : decode cX3_init 35 = .ok (.aload_n 0, 1) := by decide +kernel
theorem dX3_init_36 : decode cX3_init 36 = .ok (.bipush 120, 2) := by decide +kernel
theorem dX3_init_38 : decode cX3_init 38 = .ok (.newarray .int, 2) := by decide +kernel
theorem dX3_init_40 : decode cX3_init 40 = .ok (.putfield 28, 3) := by decide +kernel
theorem dX3_init_43 : decode cX3_init 43 = .ok (.aload_n 0, 1) := by decide +kernel
theorem dX3_init_44 : decode cX3_init 44 = .ok (.bipush 120, 2) := by decide +kernel
theorem dX3_init_46 : decode cX3_init 46 = .ok (.newarray .int, 2) := by decide +kernel
theorem dX3_init_48 : decode cX3_init 48 = .ok (.putfield 31, 3) := by decide +kernel
theorem dX3_init_51 : decode cX3_init 51 = .ok (.aload_n 0, 1) := by decide +kernel
theorem dX3_init_52 : decode cX3_init 52 = .ok (.bipush 120, 2) := by decide +kernel
theorem dX3_init_54 : decode cX3_init 54 = .ok (.newarray .int, 2) := by decide +kernel
theorem dX3_init_56 : decode cX3_init 56 = .ok (.putfield 34, 3) := by decide +kernel
theorem dX3_init_59 : decode cX3_init 59 = .ok (.return_, 1) := by decide +kernel
theorem dX3_widthOf_0 : decode cX3_widthOf 0 = .ok (.iload_n 1, 1) := by decide +kernel
theorem dX3_widthOf_1 : decode cX3_widthOf 1 = .ok (.ifCond .ne 10, 3) := by decide +kernel
theorem dX3_widthOf_4 : decode cX3_widthOf 4 = .ok (.aload_n 0, 1) := by decide +kernel
theorem dX3_widthOf_5 : decode cX3_widthOf 5 = .ok (.getfield 9, 3) := by decide +kernel
theorem dX3_widthOf_8 : decode cX3_widthOf 8 = .ok (.goto 7, 3) := by decide +kernel
theorem dX3_widthOf_11 : decode cX3_widthOf 11 = .ok (.aload_n 0, 1) := by decide +kernel
theorem dX3_widthOf_12 : decode cX3_widthOf 12 = .ok (.getfield 15, 3) := by decide +kernel
theorem dX3_widthOf_15 : decode cX3_widthOf 15 = .ok (.ireturn, 1) := by decide +kernel
theorem dX3_changeWidth_0 : decode cX3_changeWidth 0 = .ok (.iload_n 1, 1) := by decide +kernel
theorem dX3_changeWidth_1 : decode cX3_changeWidth 1 = .ok (.ifCond .ne 11, 3) := by decide +kernel
theorem dX3_changeWidth_4 : decode cX3_changeWidth 4 = .ok (.aload_n 0, 1) := by decide +kernel
theorem dX3_changeWidth_5 : decode cX3_changeWidth 5 = .ok (.iload_n 2, 1) := by decide +kernel
theorem dX3_changeWidth_6 : decode cX3_changeWidth 6 = .ok (.putfield 9, 3) := by decide +kernel
theorem dX3_changeWidth_9 : decode cX3_changeWidth 9 = .ok (.goto 8, 3) := by decide +kernel
theorem dX3_changeWidth_12 : decode cX3_changeWidth 12 = .ok (.aload_n 0, 1) := by decide +kernel
theorem dX3_changeWidth_13 : decode cX3_changeWidth 13 = .ok (.iload_n 2, 1) := by decide +kernel
theorem dX3_changeWidth_14 : decode cX3_changeWidth 14 = .ok (.putfield 15, 3) := by decide +kernel
theorem dX3_changeWidth_17 : decode cX3_changeWidth 17 = .ok (.return_, 1) := by decide +kernel
set_option maxRecDepth 20000 in
theorem ggX3_arrange_X3_measureGroups : GoodIn wsX3_arrange wsX3_measureGroups := goodIn_r _ [10, 11, 5, 12, 13, 14, 15, 16, 17, 3, 18, 19, 20, 21, 22, 23, 24, 25, 26, 27, 28, 29, 30, 31, 32, 33, 34, 35, 36, 37, 38, 39, 40, 41, 42, 43, 44, 45, 46, 47, 48, 49, 50, 51, 52, 53, 54, 55, 56, 57, 58, 59, 60, 61, 62, 63, 64, 65, 66, 67, 68, 69, 70, 71, 72, 90, 91, 92, 93, 94, 95, 96, 97, 98, 99, 100, 84, 85, 86, 87, 88, 89, 101, 102, 103, 104] (by decide +kernel) (by decide +kernel)
set_option maxRecDepth 20000 in
theorem gX3_arrange_X3_measureGroups : GoodIn wsX3_arrange (wsV RX3 55 RX3 yX3_measureGroups wsX3_measureGroups) := goodIn_app (goodIn_of _ (by decide +kernel)) ggX3_arrange_X3_measureGroups
set_option maxRecDepth 20000 in
theorem ggX3_arrange_X3_fillPages : GoodIn wsX3_arrange wsX3_fillPages := goodIn_r _ [76, 5, 77, 15, 22, 78, 79, 80, 81, 82, 9, 83, 90, 91, 92, 93, 94, 95, 96, 97, 98, 99, 100] (by decide +kernel) (by decide +kernel)
set_option maxRecDepth 20000 in
theorem gX3_arrange_X3_fillPages : GoodIn wsX3_arrange (wsV RX3 59 RX3 yX3_fillPages wsX3_fillPages) := goodIn_app (goodIn_of _ (by decide +kernel)) ggX3_arrange_X3_fillPages
theorem dX3_arrange_0 : decode cX3_arrange 0 = .ok (.aload_n 0, 1) := by decide +kernel
theorem dX3_arrange_1 : decode cX3_arrange 1 = .ok (.aload_n 1, 1) := by decide +kernel
theorem dX3_arrange_2 : decode cX3_arrange 2 = .ok (.getfield 37, 3) := by decide +kernel
theorem dX3_arrange_5 : decode cX3_arrange 5 = .ok (.getfield 43, 3) := by decide +kernel
theorem dX3_arrange_8 : decode cX3_arrange 8 = .ok (.bipush 120, 2) := by decide +kernel
theorem dX3_arrange_10 : decode cX3_arrange 10 = .ok (.invokestatic 48, 3) := by decide +kernel
theorem dX3_arrange_13 : decode cX3_arrange 13 = .ok (.putfield 54, 3) := by decide +kernel
theorem dX3_arrange_16 : decode cX3_arrange 16 = .ok (.aload_n 0, 1) := by decide +kernel
theorem dX3_arrange_17 : decode cX3_arrange 17 = .ok (.aload_n 1, 1) := by decide +kernel
theorem dX3_arrange_18 : decode cX3_arrange 18 = .ok (.invokevirtual 55, 3) := by decide +kernel
theorem dX3_arrange_21 : decode cX3_arrange 21 = .ok (.aload_n 0, 1) := by decide +kernel
theorem dX3_arrange_22 : decode cX3_arrange 22 = .ok (.invokevirtual 59, 3) := by decide +kernel
theorem dX3_arrange_25 : decode cX3_arrange 25 = .ok (.return_, 1) := by decide +kernel
set_option maxRecDepth 20000 in
theorem ggX3_measureGroups_X1_sizeOf : GoodIn wsX3_measureGroups wsX1_sizeOf := goodIn_r _ [19, 20, 21, 22, 23, 24, 18, 25, 26, 27, 28, 29, 79, 80, 81] (by decide +kernel) (by decide +kernel)
set_option maxRecDepth 20000 in
theorem gX3_measureGroups_X1_sizeOf : GoodIn wsX3_measureGroups (wsV RX3 65 RX1 yX1_sizeOf wsX1_sizeOf) := goodIn_app (goodIn_of _ (by decide +kernel)) ggX3_measureGroups_X1_sizeOf
set_option maxRecDepth 20000 in
theorem ggX3_measureGroups_X0_linesOf : GoodIn wsX3_measureGroups wsX0_linesOf := goodIn_r _ [34, 35, 36, 37, 33, 38, 39, 40, 41, 42, 43, 44, 27, 28, 29, 45, 46, 47, 48, 49, 50, 51, 52, 53, 54, 55, 82, 83, 84, 85] (by decide +kernel) (by decide +kernel)
set_option maxRecDepth 20000 in
theorem gX3_measureGroups_X0_linesOf : GoodIn wsX3_measureGroups (wsV RX3 72 RX0 yX0_linesOf wsX0_linesOf) := goodIn_app (goodIn_of _ (by decide +kernel)) ggX3_measureGroups_X0_linesOf
set_option maxRecDepth 20000 in
theorem ggX3_measureGroups_X0_noteSumOf : GoodIn wsX3_measureGroups wsX0_noteSumOf := goodIn_r _ [59, 60, 61, 62, 33, 63, 64, 40, 41, 42, 43, 44, 27, 28, 29, 82, 83, 84, 85] (by decide +kernel) (by decide +kernel)
set_option maxRecDepth 20000 in
theorem gX3_measureGroups_X0_noteSumOf : GoodIn wsX3_measureGroups (wsV RX3 88 RX0 yX0_noteSumOf wsX0_noteSumOf) := goodIn_app (goodIn_of _ (by decide +kernel)) ggX3_measureGroups_X0_noteSumOf
theorem dX3_measureGroups_0 : decode cX3_measureGroups 0 = .ok (.aload_n 0, 1) := by decide +kernel
theorem dX3_measureGroups_1 : decode cX3_measureGroups 1 = .ok (.iconst 0, 1) := by decide +kernel
theorem dX3_measureGroups_2 : decode cX3_measureGroups 2 = .ok (.putfield 62, 3) := by decide +kernel
theorem dX3_measureGroups_5 : decode cX3_measureGroups 5 = .ok (.iconst 0, 1) := by decide +kernel
theorem dX3_measureGroups_6 : decode cX3_measureGroups 6 = .ok (.istore_n 2, 1) := by decide +kernel
theorem dX3_measureGroups_7 : decode cX3_measureGroups 7 = .ok (.iconst 0, 1) := by decide +kernel
theorem dX3_measureGroups_8 : decode cX3_measureGroups 8 = .ok (.istore_n 3, 1) := by decide +kernel
theorem dX3_measureGroups_9 : decode cX3_measureGroups 9 = .ok (.iconst 0, 1) := by decide +kernel
theorem dX3_measureGroups_10 : decode cX3_measureGroups 10 = .ok (.istore 4, 2) := by decide +kernel
theorem dX3_measureGroups_12 : decode cX3_measureGroups 12 = .ok (.iload 4, 2) := by decide +kernel
theorem dX3_measureGroups_14 : decode cX3_measureGroups 14 = .ok (.aload_n 0, 1) := by decide +kernel
theorem dX3_measureGroups_15 : decode cX3_measureGroups 15 = .ok (.getfield 54, 3) := by decide +kernel
theorem dX3_measureGroups_18 : decode cX3_measureGroups 18 = .ok (.if_icmp .ge 142, 3) := by decide +kernel
theorem dX3_measureGroups_21 : decode cX3_measureGroups 21 = .ok (.iload_n 2, 1) := by decide +kernel
theorem dX3_measureGroups_22 : decode cX3_measureGroups 22 = .ok (.aload_n 1, 1) := by decide +kernel
theorem dX3_measureGroups_23 : decode cX3_measureGroups 23 = .ok (.getfield 37, 3) := by decide +kernel
theorem dX3_measureGroups_26 : decode cX3_measureGroups 26 = .ok (.iload 4, 2) := by decide +kernel
theorem dX3_measureGroups_28 : decode cX3_measureGroups 28 = .ok (.iconst 0, 1) := by decide +kernel
theorem dX3_measureGroups_29 : decode cX3_measureGroups 29 = .ok (.invokevirtual 65, 3) := by decide +kernel
theorem dX3_measureGroups_32 : decode cX3_measureGroups 32 = .ok (.iadd, 1) := by decide +kernel
theorem dX3_measureGroups_33 : decode cX3_measureGroups 33 = .ok (.istore 5, 2) := by decide +kernel
theorem dX3_measureGroups_35 : decode cX3_measureGroups 35 = .ok (.iload_n 3, 1) := by decide +kernel
theorem dX3_measureGroups_36 : decode cX3_measureGroups 36 = .ok (.aload_n 1, 1) := by decide +kernel
theorem dX3_measureGroups_37 : decode cX3_measureGroups 37 = .ok (.getfield 37, 3) := by decide +kernel
theorem dX3_measureGroups_40 : decode cX3_measureGroups 40 = .ok (.iload 4, 2) := by decide +kernel
theorem dX3_measureGroups_42 : decode cX3_measureGroups 42 = .ok (.iconst 1, 1) := by decide +kernel
theorem dX3_measureGroups_43 : decode cX3_measureGroups 43 = .ok (.invokevirtual 65, 3) := by decide +kernel
theorem dX3_measureGroups_46 : decode cX3_measureGroups 46 = .ok (.iadd, 1) := by decide +kernel
theorem dX3_measureGroups_47 : decode cX3_measureGroups 47 = .ok (.istore 6, 2) := by decide +kernel
theorem dX3_measureGroups_49 : decode cX3_measureGroups 49 = .ok (.aload_n 1, 1) := by decide +kernel
theorem dX3_measureGroups_50 : decode cX3_measureGroups 50 = .ok (.getfield 68, 3) := by decide +kernel
theorem dX3_measureGroups_53 : decode cX3_measureGroups 53 = .ok (.iload_n 2, 1) := by decide +kernel
theorem dX3_measureGroups_54 : decode cX3_measureGroups 54 = .ok (.iload 5, 2) := by decide +kernel
theorem dX3_measureGroups_56 : decode cX3_measureGroups 56 = .ok (.aload_n 0, 1) := by decide +kernel
theorem dX3_measureGroups_57 : decode cX3_measureGroups 57 = .ok (.getfield 9, 3) := by decide +kernel
theorem dX3_measureGroups_60 : decode cX3_measureGroups 60 = .ok (.aload_n 0, 1) := by decide +kernel
theorem dX3_measureGroups_61 : decode cX3_measureGroups 61 = .ok (.getfield 21, 3) := by decide +kernel
theorem dX3_measureGroups_64 : decode cX3_measureGroups 64 = .ok (.invokevirtual 72, 3) := by decide +kernel
theorem dX3_measureGroups_67 : decode cX3_measureGroups 67 = .ok (.istore 7, 2) := by decide +kernel
theorem dX3_measureGroups_69 : decode cX3_measureGroups 69 = .ok (.aload_n 1, 1) := by decide +kernel
theorem dX3_measureGroups_70 : decode cX3_measureGroups 70 = .ok (.getfield 78, 3) := by decide +kernel
theorem dX3_measureGroups_73 : decode cX3_measureGroups 73 = .ok (.iload_n 3, 1) := by decide +kernel
theorem dX3_measureGroups_74 : decode cX3_measureGroups 74 = .ok (.iload 6, 2) := by decide +kernel
theorem dX3_measureGroups_76 : decode cX3_measureGroups 76 = .ok (.aload_n 0, 1) := by decide +kernel
theorem dX3_measureGroups_77 : decode cX3_measureGroups 77 = .ok (.getfield 15, 3) := by decide +kernel
theorem dX3_measureGroups_80 : decode cX3_measureGroups 80 = .ok (.aload_n 0, 1) := by decide +kernel
theorem dX3_measureGroups_81 : decode cX3_measureGroups 81 = .ok (.getfield 21, 3) := by decide +kernel
theorem dX3_measureGroups_84 : decode cX3_measureGroups 84 = .ok (.invokevirtual 72, 3) := by decide +kernel
theorem dX3_measureGroups_87 : decode cX3_measureGroups 87 = .ok (.istore 8, 2) := by decide +kernel
theorem dX3_measureGroups_89 : decode cX3_measureGroups 89 = .ok (.aload_n 0, 1) := by decide +kernel
theorem dX3_measureGroups_90 : decode cX3_measureGroups 90 = .ok (.getfield 24, 3) := by decide +kernel
theorem dX3_measureGroups_93 : decode cX3_measureGroups 93 = .ok (.iload 4, 2) := by decide +kernel
theorem dX3_measureGroups_95 : decode cX3_measureGroups 95 = .ok (.iload 7, 2) := by decide +kernel
theorem dX3_measureGroups_97 : decode cX3_measureGroups 97 = .ok (.iload 8, 2) := by decide +kernel
theorem dX3_measureGroups_99 : decode cX3_measureGroups 99 = .ok (.invokestatic 81, 3) := by decide +kernel
theorem dX3_measureGroups_102 : decode cX3_measureGroups 102 = .ok (.iastore, 1) := by decide +kernel
theorem dX3_measureGroups_103 : decode cX3_measureGroups 103 = .ok (.aload_n 0, 1) := by decide +kernel
theorem dX3_measureGroups_104 : decode cX3_measureGroups 104 = .ok (.dup, 1) := by decide +kernel
theorem dX3_measureGroups_105 : decode cX3_measureGroups 105 = .ok (.getfield 62, 3) := by decide +kernel
theorem dX3_measureGroups_108 : decode cX3_measureGroups 108 = .ok (.iload 7, 2) := by decide +kernel
theorem dX3_measureGroups_110 : decode cX3_measureGroups 110 = .ok (.iload 8, 2) := by decide +kernel
theorem dX3_measureGroups_112 : decode cX3_measureGroups 112 = .ok (.isub, 1) := by decide +kernel
theorem dX3_measureGroups_113 : decode cX3_measureGroups 113 = .ok (.invokestatic 84, 3) := by decide +kernel
theorem dX3_measureGroups_116 : decode cX3_measureGroups 116 = .ok (.iadd, 1) := by decide +kernel
theorem dX3_measureGroups_117 : decode cX3_measureGroups 117 = .ok (.putfield 62, 3) := by decide +kernel
theorem dX3_measureGroups_120 : decode cX3_measureGroups 120 = .ok (.aload_n 0, 1) := by decide +kernel
theorem dX3_measureGroups_121 : decode cX3_measureGroups 121 = .ok (.getfield 28, 3) := by decide +kernel
theorem dX3_measureGroups_124 : decode cX3_measureGroups 124 = .ok (.iload 4, 2) := by decide +kernel
theorem dX3_measureGroups_126 : decode cX3_measureGroups 126 = .ok (.aload_n 1, 1) := by decide +kernel
theorem dX3_measureGroups_127 : decode cX3_measureGroups 127 = .ok (.getfield 68, 3) := by decide +kernel
theorem dX3_measureGroups_130 : decode cX3_measureGroups 130 = .ok (.iload_n 2, 1) := by decide +kernel
theorem dX3_measureGroups_131 : decode cX3_measureGroups 131 = .ok (.iload 5, 2) := by decide +kernel
theorem dX3_measureGroups_133 : decode cX3_measureGroups 133 = .ok (.invokevirtual 88, 3) := by decide +kernel
theorem dX3_measureGroups_136 : decode cX3_measureGroups 136 = .ok (.aload_n 1, 1) := by decide +kernel
theorem dX3_measureGroups_137 : decode cX3_measureGroups 137 = .ok (.getfield 78, 3) := by decide +kernel
theorem dX3_measureGroups_140 : decode cX3_measureGroups 140 = .ok (.iload_n 3, 1) := by decide +kernel
theorem dX3_measureGroups_141 : decode cX3_measureGroups 141 = .ok (.iload 6, 2) := by decide +kernel
theorem dX3_measureGroups_143 : decode cX3_measureGroups 143 = .ok (.invokevirtual 88, 3) := by decide +kernel
theorem dX3_measureGroups_146 : decode cX3_measureGroups 146 = .ok (.iadd, 1) := by decide +kernel
theorem dX3_measureGroups_147 : decode cX3_measureGroups 147 = .ok (.iastore, 1) := by decide +kernel
theorem dX3_measureGroups_148 : decode cX3_measureGroups 148 = .ok (.iload 5, 2) := by decide +kernel
theorem dX3_measureGroups_150 : decode cX3_measureGroups 150 = .ok (.istore_n 2, 1) := by decide +kernel
theorem dX3_measureGroups_151 : decode cX3_measureGroups 151 = .ok (.iload 6, 2) := by decide +kernel
theorem dX3_measureGroups_153 : decode cX3_measureGroups 153 = .ok (.istore_n 3, 1) := by decide +kernel
theorem dX3_measureGroups_154 : decode cX3_measureGroups 154 = .ok (.iinc 4 1, 3) := by decide +kernel
theorem dX3_measureGroups_157 : decode cX3_measureGroups 157 = .ok (.goto (-145), 3) := by decide +kernel
theorem dX3_measureGroups_160 : decode cX3_measureGroups 160 = .ok (.return_, 1) := by decide +kernel
set_option maxRecDepth 20000 in
theorem ggX3_fillPages_X3_withRule : GoodIn wsX3_fillPages wsX3_withRule := goodIn_r _ [11] (by decide +kernel) (by decide +kernel)
set_option maxRecDepth 20000 in
theorem gX3_fillPages_X3_withRule : GoodIn wsX3_fillPages (va_wsS RX3 94 yX3_withRule wsX3_withRule) := goodIn_app (goodIn_of _ (by decide +kernel)) ggX3_fillPages_X3_withRule
theorem dX3_fillPages_0 : decode cX3_fillPages 0 = .ok (.aload_n 0, 1) := by decide +kernel
theorem dX3_fillPages_1 : decode cX3_fillPages 1 = .ok (.aload_n 0, 1) := by decide +kernel
theorem dX3_fillPages_2 : decode cX3_fillPages 2 = .ok (.getfield 54, 3) := by decide +kernel
theorem dX3_fillPages_5 : decode cX3_fillPages 5 = .ok (.ifCond .ne 7, 3) := by decide +kernel
theorem dX3_fillPages_8 : decode cX3_fillPages 8 = .ok (.iconst 0, 1) := by decide +kernel
theorem dX3_fillPages_9 : decode cX3_fillPages 9 = .ok (.goto 4, 3) := by decide +kernel
theorem dX3_fillPages_12 : decode cX3_fillPages 12 = .ok (.iconst 1, 1) := by decide +kernel
theorem dX3_fillPages_13 : decode cX3_fillPages 13 = .ok (.putfield 91, 3) := by decide +kernel
theorem dX3_fillPages_16 : decode cX3_fillPages 16 = .ok (.iconst 0, 1) := by decide +kernel
theorem dX3_fillPages_17 : decode cX3_fillPages 17 = .ok (.istore_n 1, 1) := by decide +kernel
theorem dX3_fillPages_18 : decode cX3_fillPages 18 = .ok (.iconst 0, 1) := by decide +kernel
theorem dX3_fillPages_19 : decode cX3_fillPages 19 = .ok (.istore_n 2, 1) := by decide +kernel
theorem dX3_fillPages_20 : decode cX3_fillPages 20 = .ok (.iconst 0, 1) := by decide +kernel
theorem dX3_fillPages_21 : decode cX3_fillPages 21 = .ok (.istore_n 3, 1) := by decide +kernel
theorem dX3_fillPages_22 : decode cX3_fillPages 22 = .ok (.iload_n 3, 1) := by decide +kernel
theorem dX3_fillPages_23 : decode cX3_fillPages 23 = .ok (.aload_n 0, 1) := by decide +kernel
theorem dX3_fillPages_24 : decode cX3_fillPages 24 = .ok (.getfield 54, 3) := by decide +kernel
theorem dX3_fillPages_27 : decode cX3_fillPages 27 = .ok (.if_icmp .ge 91, 3) := by decide +kernel
theorem dX3_fillPages_30 : decode cX3_fillPages 30 = .ok (.iload_n 3, 1) := by decide +kernel
theorem dX3_fillPages_31 : decode cX3_fillPages 31 = .ok (.ifCond .le 44, 3) := by decide +kernel
theorem dX3_fillPages_34 : decode cX3_fillPages 34 = .ok (.iload_n 1, 1) := by decide +kernel
theorem dX3_fillPages_35 : decode cX3_fillPages 35 = .ok (.aload_n 0, 1) := by decide +kernel
theorem dX3_fillPages_36 : decode cX3_fillPages 36 = .ok (.getfield 24, 3) := by decide +kernel
theorem dX3_fillPages_39 : decode cX3_fillPages 39 = .ok (.iload_n 3, 1) := by decide +kernel
theorem dX3_fillPages_40 : decode cX3_fillPages 40 = .ok (.iaload, 1) := by decide +kernel
theorem dX3_fillPages_41 : decode cX3_fillPages 41 = .ok (.iadd, 1) := by decide +kernel
theorem dX3_fillPages_42 : decode cX3_fillPages 42 = .ok (.iload_n 2, 1) := by decide +kernel
theorem dX3_fillPages_43 : decode cX3_fillPages 43 = .ok (.aload_n 0, 1) := by decide +kernel
theorem dX3_fillPages_44 : decode cX3_fillPages 44 = .ok (.getfield 28, 3) := by decide +kernel
theorem dX3_fillPages_47 : decode cX3_fillPages 47 = .ok (.iload_n 3, 1) := by decide +kernel
theorem dX3_fillPages_48 : decode cX3_fillPages 48 = .ok (.iaload, 1) := by decide +kernel
theorem dX3_fillPages_49 : decode cX3_fillPages 49 = .ok (.iadd, 1) := by decide +kernel
theorem dX3_fillPages_50 : decode cX3_fillPages 50 = .ok (.invokestatic 94, 3) := by decide +kernel
theorem dX3_fillPages_53 : decode cX3_fillPages 53 = .ok (.iadd, 1) := by decide +kernel
theorem dX3_fillPages_54 : decode cX3_fillPages 54 = .ok (.aload_n 0, 1) := by decide +kernel
theorem dX3_fillPages_55 : decode cX3_fillPages 55 = .ok (.getfield 18, 3) := by decide +kernel
theorem dX3_fillPages_58 : decode cX3_fillPages 58 = .ok (.if_icmp .le 17, 3) := by decide +kernel
theorem dX3_fillPages_61 : decode cX3_fillPages 61 = .ok (.aload_n 0, 1) := by decide +kernel
theorem dX3_fillPages_62 : decode cX3_fillPages 62 = .ok (.dup, 1) := by decide +kernel
theorem dX3_fillPages_63 : decode cX3_fillPages 63 = .ok (.getfield 91, 3) := by decide +kernel
theorem dX3_fillPages_66 : decode cX3_fillPages 66 = .ok (.iconst 1, 1) := by decide +kernel
theorem dX3_fillPages_67 : decode cX3_fillPages 67 = .ok (.iadd, 1) := by decide +kernel
theorem dX3_fillPages_68 : decode cX3_fillPages 68 = .ok (.putfield 91, 3) := by decide +kernel
theorem dX3_fillPages_71 : decode cX3_fillPages 71 = .ok (.iconst 0, 1) := by decide +kernel
theorem dX3_fillPages_72 : decode cX3_fillPages 72 = .ok (.istore_n 1, 1) := by decide +kernel
theorem dX3_fillPages_73 : decode cX3_fillPages 73 = .ok (.iconst 0, 1) := by decide +kernel
theorem dX3_fillPages_74 : decode cX3_fillPages 74 = .ok (.istore_n 2, 1) := by decide +kernel
theorem dX3_fillPages_75 : decode cX3_fillPages 75 = .ok (.aload_n 0, 1) := by decide +kernel
theorem dX3_fillPages_76 : decode cX3_fillPages 76 = .ok (.getfield 31, 3) := by decide +kernel
theorem dX3_fillPages_79 : decode cX3_fillPages 79 = .ok (.iload_n 3, 1) := by decide +kernel
theorem dX3_fillPages_80 : decode cX3_fillPages 80 = .ok (.aload_n 0, 1) := by decide +kernel
theorem dX3_fillPages_81 : decode cX3_fillPages 81 = .ok (.getfield 91, 3) := by decide +kernel
theorem dX3_fillPages_84 : decode cX3_fillPages 84 = .ok (.iconst 1, 1) := by decide +kernel
theorem dX3_fillPages_85 : decode cX3_fillPages 85 = .ok (.isub, 1) := by decide +kernel
theorem dX3_fillPages_86 : decode cX3_fillPages 86 = .ok (.iastore, 1) := by decide +kernel
theorem dX3_fillPages_87 : decode cX3_fillPages 87 = .ok (.aload_n 0, 1) := by decide +kernel
theorem dX3_fillPages_88 : decode cX3_fillPages 88 = .ok (.getfield 34, 3) := by decide +kernel
theorem dX3_fillPages_91 : decode cX3_fillPages 91 = .ok (.iload_n 3, 1) := by decide +kernel
theorem dX3_fillPages_92 : decode cX3_fillPages 92 = .ok (.iload_n 1, 1) := by decide +kernel
theorem dX3_fillPages_93 : decode cX3_fillPages 93 = .ok (.iastore, 1) := by decide +kernel
theorem dX3_fillPages_94 : decode cX3_fillPages 94 = .ok (.iload_n 1, 1) := by decide +kernel
theorem dX3_fillPages_95 : decode cX3_fillPages 95 = .ok (.aload_n 0, 1) := by decide +kernel
theorem dX3_fillPages_96 : decode cX3_fillPages 96 = .ok (.getfield 24, 3) := by decide +kernel
theorem dX3_fillPages_99 : decode cX3_fillPages 99 = .ok (.iload_n 3, 1) := by decide +kernel
theorem dX3_fillPages_100 : decode cX3_fillPages 100 = .ok (.iaload, 1) := by decide +kernel
theorem dX3_fillPages_101 : decode cX3_fillPages 101 = .ok (.iadd, 1) := by decide +kernel
theorem dX3_fillPages_102 : decode cX3_fillPages 102 = .ok (.istore_n 1, 1) := by decide +kernel
theorem dX3_fillPages_103 : decode cX3_fillPages 103 = .ok (.iload_n 2, 1) := by decide +kernel
theorem dX3_fillPages_104 : decode cX3_fillPages 104 = .ok (.aload_n 0, 1) := by decide +kernel
theorem dX3_fillPages_105 : decode cX3_fillPages 105 = .ok (.getfield 28, 3) := by decide +kernel
theorem dX3_fillPages_108 : decode cX3_fillPages 108 = .ok (.iload_n 3, 1) := by decide +kernel
theorem dX3_fillPages_109 : decode cX3_fillPages 109 = .ok (.iaload, 1) := by decide +kernel
theorem dX3_fillPages_110 : decode cX3_fillPages 110 = .ok (.iadd, 1) := by decide +kernel
theorem dX3_fillPages_111 : decode cX3_fillPages 111 = .ok (.istore_n 2, 1) := by decide +kernel
theorem dX3_fillPages_112 : decode cX3_fillPages 112 = .ok (.iinc 3 1, 3) := by decide +kernel
theorem dX3_fillPages_115 : decode cX3_fillPages 115 = .ok (.goto (-93), 3) := by decide +kernel
theorem dX3_fillPages_118 : decode cX3_fillPages 118 = .ok (.return_, 1) := by decide +kernel
theorem dX3_withRule_0 : decode cX3_withRule 0 = .ok (.iload_n 0, 1) := by decide +kernel
theorem dX3_withRule_1 : decode cX3_withRule 1 = .ok (.ifCond .ne 7, 3) := by decide +kernel
theorem dX3_withRule_4 : decode cX3_withRule 4 = .ok (.iconst 0, 1) := by decide +kernel
theorem dX3_withRule_5 : decode cX3_withRule 5 = .ok (.goto 6, 3) := by decide +kernel
theorem dX3_withRule_8 : decode cX3_withRule 8 = .ok (.iload_n 0, 1) := by decide +kernel
theorem dX3_withRule_9 : decode cX3_withRule 9 = .ok (.iconst 1, 1) := by decide +kernel
theorem dX3_withRule_10 : decode cX3_withRule 10 = .ok (.iadd, 1) := by decide +kernel
theorem dX3_withRule_11 : decode cX3_withRule 11 = .ok (.ireturn, 1) := by decide +kernel
set_option maxRecDepth 20000 in
theorem ggX3_heightOf_X9_cellOf : GoodIn wsX3_heightOf wsX9_cellOf := goodIn_r _ [4] (by decide +kernel) (by decide +kernel)
set_option maxRecDepth 20000 in
theorem gX3_heightOf_X9_cellOf_n97 : GoodIn wsX3_heightOf (wsX9_cellOf) := ggX3_heightOf_X9_cellOf
theorem dX3_heightOf_0 : decode cX3_heightOf 0 = .ok (.aload_n 0, 1) := by decide +kernel
theorem dX3_heightOf_1 : decode cX3_heightOf 1 = .ok (.getfield 24, 3) := by decide +kernel
theorem dX3_heightOf_4 : decode cX3_heightOf 4 = .ok (.iload_n 1, 1) := by decide +kernel
theorem dX3_heightOf_5 : decode cX3_heightOf 5 = .ok (.invokestatic 97, 3) := by decide +kernel
theorem dX3_heightOf_8 : decode cX3_heightOf 8 = .ok (.ireturn, 1) := by decide +kernel
set_option maxRecDepth 20000 in
theorem ggX3_pageOf_X9_cellOf : GoodIn wsX3_pageOf wsX9_cellOf := goodIn_r _ [4] (by decide +kernel) (by decide +kernel)
set_option maxRecDepth 20000 in
theorem gX3_pageOf_X9_cellOf_n97 : GoodIn wsX3_pageOf (wsX9_cellOf) := ggX3_pageOf_X9_cellOf
theorem dX3_pageOf_0 : decode cX3_pageOf 0 = .ok (.aload_n 0, 1) := by decide +kernel
theorem dX3_pageOf_1 : decode cX3_pageOf 1 = .ok (.getfield 31, 3) := by decide +kernel
theorem dX3_pageOf_4 : decode cX3_pageOf 4 = .ok (.iload_n 1, 1) := by decide +kernel
theorem dX3_pageOf_5 : decode cX3_pageOf 5 = .ok (.invokestatic 97, 3) := by decide +kernel
theorem dX3_pageOf_8 : decode cX3_pageOf 8 = .ok (.ireturn, 1) := by decide +kernel
set_option maxRecDepth 20000 in
theorem ggX3_lineOf_X9_cellOf : GoodIn wsX3_lineOf wsX9_cellOf := goodIn_r _ [4] (by decide +kernel) (by decide +kernel)
set_option maxRecDepth 20000 in
theorem gX3_lineOf_X9_cellOf_n97 : GoodIn wsX3_lineOf (wsX9_cellOf) := ggX3_lineOf_X9_cellOf
theorem dX3_lineOf_0 : decode cX3_lineOf 0 = .ok (.aload_n 0, 1) := by decide +kernel
theorem dX3_lineOf_1 : decode cX3_lineOf 1 = .ok (.getfield 34, 3) := by decide +kernel
theorem dX3_lineOf_4 : decode cX3_lineOf 4 = .ok (.iload_n 1, 1) := by decide +kernel
theorem dX3_lineOf_5 : decode cX3_lineOf 5 = .ok (.invokestatic 97, 3) := by decide +kernel
theorem dX3_lineOf_8 : decode cX3_lineOf 8 = .ok (.ireturn, 1) := by decide +kernel
set_option maxRecDepth 20000 in
theorem ggX3_notesOf_X9_cellOf : GoodIn wsX3_notesOf wsX9_cellOf := goodIn_r _ [4] (by decide +kernel) (by decide +kernel)
set_option maxRecDepth 20000 in
theorem gX3_notesOf_X9_cellOf_n97 : GoodIn wsX3_notesOf (wsX9_cellOf) := ggX3_notesOf_X9_cellOf
theorem dX3_notesOf_0 : decode cX3_notesOf 0 = .ok (.aload_n 0, 1) := by decide +kernel
theorem dX3_notesOf_1 : decode cX3_notesOf 1 = .ok (.getfield 28, 3) := by decide +kernel
theorem dX3_notesOf_4 : decode cX3_notesOf 4 = .ok (.iload_n 1, 1) := by decide +kernel
theorem dX3_notesOf_5 : decode cX3_notesOf 5 = .ok (.invokestatic 97, 3) := by decide +kernel
theorem dX3_notesOf_8 : decode cX3_notesOf 8 = .ok (.ireturn, 1) := by decide +kernel
set_option maxRecDepth 20000 in
theorem ggX3_firstGroupOf_X3_pageOf : GoodIn wsX3_firstGroupOf wsX3_pageOf := goodIn_r _ [6, 7, 8, 9, 10, 11, 12, 13, 14, 15, 16, 17, 18, 19, 20, 21] (by decide +kernel) (by decide +kernel)
set_option maxRecDepth 20000 in
theorem gX3_firstGroupOf_X3_pageOf : GoodIn wsX3_firstGroupOf (wsV RX3 101 RX3 yX3_pageOf wsX3_pageOf) := goodIn_app (goodIn_of _ (by decide +kernel)) ggX3_firstGroupOf_X3_pageOf
theorem dX3_firstGroupOf_0 : decode cX3_firstGroupOf 0 = .ok (.iconst 0, 1) := by decide +kernel
theorem dX3_firstGroupOf_1 : decode cX3_firstGroupOf 1 = .ok (.istore_n 2, 1) := by decide +kernel
theorem dX3_firstGroupOf_2 : decode cX3_firstGroupOf 2 = .ok (.iload_n 2, 1) := by decide +kernel
theorem dX3_firstGroupOf_3 : decode cX3_firstGroupOf 3 = .ok (.aload_n 0, 1) := by decide +kernel
theorem dX3_firstGroupOf_4 : decode cX3_firstGroupOf 4 = .ok (.getfield 54, 3) := by decide +kernel
theorem dX3_firstGroupOf_7 : decode cX3_firstGroupOf 7 = .ok (.if_icmp .ge 20, 3) := by decide +kernel
theorem dX3_firstGroupOf_10 : decode cX3_firstGroupOf 10 = .ok (.aload_n 0, 1) := by decide +kernel
theorem dX3_firstGroupOf_11 : decode cX3_firstGroupOf 11 = .ok (.iload_n 2, 1) := by decide +kernel
theorem dX3_firstGroupOf_12 : decode cX3_firstGroupOf 12 = .ok (.invokevirtual 101, 3) := by decide +kernel
theorem dX3_firstGroupOf_15 : decode cX3_firstGroupOf 15 = .ok (.iload_n 1, 1) := by decide +kernel
theorem dX3_firstGroupOf_16 : decode cX3_firstGroupOf 16 = .ok (.if_icmp .ne 5, 3) := by decide +kernel
theorem dX3_firstGroupOf_19 : decode cX3_firstGroupOf 19 = .ok (.iload_n 2, 1) := by decide +kernel
theorem dX3_firstGroupOf_20 : decode cX3_firstGroupOf 20 = .ok (.ireturn, 1) := by decide +kernel
theorem dX3_firstGroupOf_21 : decode cX3_firstGroupOf 21 = .ok (.iinc 2 1, 3) := by decide +kernel
theorem dX3_firstGroupOf_24 : decode cX3_firstGroupOf 24 = .ok (.goto (-22), 3) := by decide +kernel
theorem dX3_firstGroupOf_27 : decode cX3_firstGroupOf 27 = .ok (.iconst (-1), 1) := by decide +kernel
theorem dX3_firstGroupOf_28 : decode cX3_firstGroupOf 28 = .ok (.ireturn, 1) := by decide +kernel
set_option maxRecDepth 20000 in
theorem ggX3_lastGroupOf_X3_pageOf : GoodIn wsX3_lastGroupOf wsX3_pageOf := goodIn_r _ [6, 7, 8, 9, 10, 11, 12, 13, 14, 15, 16, 17, 18, 19, 20, 21] (by decide +kernel) (by decide +kernel)
set_option maxRecDepth 20000 in
theorem gX3_lastGroupOf_X3_pageOf : GoodIn wsX3_lastGroupOf (wsV RX3 101 RX3 yX3_pageOf wsX3_pageOf) := goodIn_app (goodIn_of _ (by decide +kernel)) ggX3_lastGroupOf_X3_pageOf
theorem dX3_lastGroupOf_0 : decode cX3_lastGroupOf 0 = .ok (.aload_n 0, 1) := by decide +kernel
theorem dX3_lastGroupOf_1 : decode cX3_lastGroupOf 1 = .ok (.getfield 54, 3) := by decide +kernel
theorem dX3_lastGroupOf_4 : decode cX3_lastGroupOf 4 = .ok (.iconst 1, 1) := by decide +kernel
theorem dX3_lastGroupOf_5 : decode cX3_lastGroupOf 5 = .ok (.isub, 1) := by decide +kernel
theorem dX3_lastGroupOf_6 : decode cX3_lastGroupOf 6 = .ok (.istore_n 2, 1) := by decide +kernel
theorem dX3_lastGroupOf_7 : decode cX3_lastGroupOf 7 = .ok (.iload_n 2, 1) := by decide +kernel
theorem dX3_lastGroupOf_8 : decode cX3_lastGroupOf 8 = .ok (.ifCond .lt 20, 3) := by decide +kernel
theorem dX3_lastGroupOf_11 : decode cX3_lastGroupOf 11 = .ok (.aload_n 0, 1) := by decide +kernel
theorem dX3_lastGroupOf_12 : decode cX3_lastGroupOf 12 = .ok (.iload_n 2, 1) := by decide +kernel
theorem dX3_lastGroupOf_13 : decode cX3_lastGroupOf 13 = .ok (.invokevirtual 101, 3) := by decide +kernel
theorem dX3_lastGroupOf_16 : decode cX3_lastGroupOf 16 = .ok (.iload_n 1, 1) := by decide +kernel
theorem dX3_lastGroupOf_17 : decode cX3_lastGroupOf 17 = .ok (.if_icmp .ne 5, 3) := by decide +kernel
theorem dX3_lastGroupOf_20 : decode cX3_lastGroupOf 20 = .ok (.iload_n 2, 1) := by decide +kernel
theorem dX3_lastGroupOf_21 : decode cX3_lastGroupOf 21 = .ok (.ireturn, 1) := by decide +kernel
theorem dX3_lastGroupOf_22 : decode cX3_lastGroupOf 22 = .ok (.iinc 2 (-1), 3) := by decide +kernel
theorem dX3_lastGroupOf_25 : decode cX3_lastGroupOf 25 = .ok (.goto (-18), 3) := by decide +kernel
theorem dX3_lastGroupOf_28 : decode cX3_lastGroupOf 28 = .ok (.iconst (-1), 1) := by decide +kernel
theorem dX3_lastGroupOf_29 : decode cX3_lastGroupOf 29 = .ok (.ireturn, 1) := by decide +kernel
set_option maxRecDepth 20000 in
theorem ggX3_heightSumOf_X3_pageOf : GoodIn wsX3_heightSumOf wsX3_pageOf := goodIn_r _ [6, 7, 8, 9, 10, 16, 17, 18, 19, 20, 21, 22, 23, 24, 25, 26] (by decide +kernel) (by decide +kernel)
set_option maxRecDepth 20000 in
theorem gX3_heightSumOf_X3_pageOf : GoodIn wsX3_heightSumOf (wsV RX3 101 RX3 yX3_pageOf wsX3_pageOf) := goodIn_app (goodIn_of _ (by decide +kernel)) ggX3_heightSumOf_X3_pageOf
set_option maxRecDepth 20000 in
theorem ggX3_heightSumOf_X3_heightOf : GoodIn wsX3_heightSumOf wsX3_heightOf := goodIn_r _ [14, 15, 8, 9, 10, 16, 17, 18, 19, 20, 21, 22, 23, 24, 25, 26] (by decide +kernel) (by decide +kernel)
set_option maxRecDepth 20000 in
theorem gX3_heightSumOf_X3_heightOf : GoodIn wsX3_heightSumOf (wsV RX3 104 RX3 yX3_heightOf wsX3_heightOf) := goodIn_app (goodIn_of _ (by decide +kernel)) ggX3_heightSumOf_X3_heightOf
theorem dX3_heightSumOf_0 : decode cX3_heightSumOf 0 = .ok (.iconst 0, 1) := by decide +kernel
theorem dX3_heightSumOf_1 : decode cX3_heightSumOf 1 = .ok (.istore_n 2, 1) := by decide +kernel
theorem dX3_heightSumOf_2 : decode cX3_heightSumOf 2 = .ok (.iconst 0, 1) := by decide +kernel
theorem dX3_heightSumOf_3 : decode cX3_heightSumOf 3 = .ok (.istore_n 3, 1) := by decide +kernel
theorem dX3_heightSumOf_4 : decode cX3_heightSumOf 4 = .ok (.iload_n 3, 1) := by decide +kernel
theorem dX3_heightSumOf_5 : decode cX3_heightSumOf 5 = .ok (.aload_n 0, 1) := by decide +kernel
theorem dX3_heightSumOf_6 : decode cX3_heightSumOf 6 = .ok (.getfield 54, 3) := by decide +kernel
theorem dX3_heightSumOf_9 : decode cX3_heightSumOf 9 = .ok (.if_icmp .ge 30, 3) := by decide +kernel
theorem dX3_heightSumOf_12 : decode cX3_heightSumOf 12 = .ok (.iload_n 2, 1) := by decide +kernel
theorem dX3_heightSumOf_13 : decode cX3_heightSumOf 13 = .ok (.aload_n 0, 1) := by decide +kernel
theorem dX3_heightSumOf_14 : decode cX3_heightSumOf 14 = .ok (.iload_n 3, 1) := by decide +kernel
theorem dX3_heightSumOf_15 : decode cX3_heightSumOf 15 = .ok (.invokevirtual 101, 3) := by decide +kernel
theorem dX3_heightSumOf_18 : decode cX3_heightSumOf 18 = .ok (.iload_n 1, 1) := by decide +kernel
theorem dX3_heightSumOf_19 : decode cX3_heightSumOf 19 = .ok (.if_icmp .ne 11, 3) := by decide +kernel
theorem dX3_heightSumOf_22 : decode cX3_heightSumOf 22 = .ok (.aload_n 0, 1) := by decide +kernel
theorem dX3_heightSumOf_23 : decode cX3_heightSumOf 23 = .ok (.iload_n 3, 1) := by decide +kernel
theorem dX3_heightSumOf_24 : decode cX3_heightSumOf 24 = .ok (.invokevirtual 104, 3) := by decide +kernel
theorem dX3_heightSumOf_27 : decode cX3_heightSumOf 27 = .ok (.goto 4, 3) := by decide +kernel
theorem dX3_heightSumOf_30 : decode cX3_heightSumOf 30 = .ok (.iconst 0, 1) := by decide +kernel
theorem dX3_heightSumOf_31 : decode cX3_heightSumOf 31 = .ok (.iadd, 1) := by decide +kernel
theorem dX3_heightSumOf_32 : decode cX3_heightSumOf 32 = .ok (.istore_n 2, 1) := by decide +kernel
theorem dX3_heightSumOf_33 : decode cX3_heightSumOf 33 = .ok (.iinc 3 1, 3) := by decide +kernel
theorem dX3_heightSumOf_36 : decode cX3_heightSumOf 36 = .ok (.goto (-32), 3) := by decide +kernel
theorem dX3_heightSumOf_39 : decode cX3_heightSumOf 39 = .ok (.iload_n 2, 1) := by decide +kernel
theorem dX3_heightSumOf_40 : decode cX3_heightSumOf 40 = .ok (.ireturn, 1) := by decide +kernel
set_option maxRecDepth 20000 in
theorem ggX3_noteLinesOf_X3_pageOf : GoodIn wsX3_noteLinesOf wsX3_pageOf := goodIn_r _ [6, 7, 8, 9, 10, 19, 20, 21, 22, 23, 24, 25, 26, 27, 28, 29] (by decide +kernel) (by decide +kernel)
set_option maxRecDepth 20000 in
theorem gX3_noteLinesOf_X3_pageOf : GoodIn wsX3_noteLinesOf (wsV RX3 101 RX3 yX3_pageOf wsX3_pageOf) := goodIn_app (goodIn_of _ (by decide +kernel)) ggX3_noteLinesOf_X3_pageOf
set_option maxRecDepth 20000 in
theorem ggX3_noteLinesOf_X3_notesOf : GoodIn wsX3_noteLinesOf wsX3_notesOf := goodIn_r _ [14, 15, 8, 9, 10, 19, 20, 21, 22, 23, 24, 25, 26, 27, 28, 29] (by decide +kernel) (by decide +kernel)
set_option maxRecDepth 20000 in
theorem gX3_noteLinesOf_X3_notesOf : GoodIn wsX3_noteLinesOf (wsV RX3 107 RX3 yX3_notesOf wsX3_notesOf) := goodIn_app (goodIn_of _ (by decide +kernel)) ggX3_noteLinesOf_X3_notesOf
set_option maxRecDepth 20000 in
theorem ggX3_noteLinesOf_X3_withRule : GoodIn wsX3_noteLinesOf wsX3_withRule := goodIn_r _ [18] (by decide +kernel) (by decide +kernel)
set_option maxRecDepth 20000 in
theorem gX3_noteLinesOf_X3_withRule : GoodIn wsX3_noteLinesOf (va_wsS RX3 94 yX3_withRule wsX3_withRule) := goodIn_app (goodIn_of _ (by decide +kernel)) ggX3_noteLinesOf_X3_withRule
theorem dX3_noteLinesOf_0 : decode cX3_noteLinesOf 0 = .ok (.iconst 0, 1) := by decide +kernel
theorem dX3_noteLinesOf_1 : decode cX3_noteLinesOf 1 = .ok (.istore_n 2, 1) := by decide +kernel
theorem dX3_noteLinesOf_2 : decode cX3_noteLinesOf 2 = .ok (.iconst 0, 1) := by decide +kernel
theorem dX3_noteLinesOf_3 : decode cX3_noteLinesOf 3 = .ok (.istore_n 3, 1) := by decide +kernel
theorem dX3_noteLinesOf_4 : decode cX3_noteLinesOf 4 = .ok (.iload_n 3, 1) := by decide +kernel
theorem dX3_noteLinesOf_5 : decode cX3_noteLinesOf 5 = .ok (.aload_n 0, 1) := by decide +kernel
theorem dX3_noteLinesOf_6 : decode cX3_noteLinesOf 6 = .ok (.getfield 54, 3) := by decide +kernel
theorem dX3_noteLinesOf_9 : decode cX3_noteLinesOf 9 = .ok (.if_icmp .ge 30, 3) := by decide +kernel
theorem dX3_noteLinesOf_12 : decode cX3_noteLinesOf 12 = .ok (.iload_n 2, 1) := by decide +kernel
theorem dX3_noteLinesOf_13 : decode cX3_noteLinesOf 13 = .ok (.aload_n 0, 1) := by decide +kernel
theorem dX3_noteLinesOf_14 : decode cX3_noteLinesOf 14 = .ok (.iload_n 3, 1) := by decide +kernel
theorem dX3_noteLinesOf_15 : decode cX3_noteLinesOf 15 = .ok (.invokevirtual 101, 3) := by decide +kernel
theorem dX3_noteLinesOf_18 : decode cX3_noteLinesOf 18 = .ok (.iload_n 1, 1) := by decide +kernel
theorem dX3_noteLinesOf_19 : decode cX3_noteLinesOf 19 = .ok (.if_icmp .ne 11, 3) := by decide +kernel
theorem dX3_noteLinesOf_22 : decode cX3_noteLinesOf 22 = .ok (.aload_n 0, 1) := by decide +kernel
theorem dX3_noteLinesOf_23 : decode cX3_noteLinesOf 23 = .ok (.iload_n 3, 1) := by decide +kernel
theorem dX3_noteLinesOf_24 : decode cX3_noteLinesOf 24 = .ok (.invokevirtual 107, 3) := by decide +kernel
theorem dX3_noteLinesOf_27 : decode cX3_noteLinesOf 27 = .ok (.goto 4, 3) := by decide +kernel
theorem dX3_noteLinesOf_30 : decode cX3_noteLinesOf 30 = .ok (.iconst 0, 1) := by decide +kernel
theorem dX3_noteLinesOf_31 : decode cX3_noteLinesOf 31 = .ok (.iadd, 1) := by decide +kernel
theorem dX3_noteLinesOf_32 : decode cX3_noteLinesOf 32 = .ok (.istore_n 2, 1) := by decide +kernel
theorem dX3_noteLinesOf_33 : decode cX3_noteLinesOf 33 = .ok (.iinc 3 1, 3) := by decide +kernel
theorem dX3_noteLinesOf_36 : decode cX3_noteLinesOf 36 = .ok (.goto (-32), 3) := by decide +kernel
theorem dX3_noteLinesOf_39 : decode cX3_noteLinesOf 39 = .ok (.iload_n 2, 1) := by decide +kernel
theorem dX3_noteLinesOf_40 : decode cX3_noteLinesOf 40 = .ok (.invokestatic 94, 3) := by decide +kernel
theorem dX3_noteLinesOf_43 : decode cX3_noteLinesOf 43 = .ok (.ireturn, 1) := by decide +kernel
set_option maxRecDepth 20000 in
theorem ggX3_overflows_X3_heightSumOf : GoodIn wsX3_overflows wsX3_heightSumOf := goodIn_r _ [6, 7, 8, 9, 10, 5, 11, 12, 13, 14, 15, 16, 17, 18, 19, 20, 33, 34, 35, 36, 37, 38, 39, 40, 41, 42, 43] (by decide +kernel) (by decide +kernel)
set_option maxRecDepth 20000 in
theorem gX3_overflows_X3_heightSumOf : GoodIn wsX3_overflows (wsV RX3 110 RX3 yX3_heightSumOf wsX3_heightSumOf) := goodIn_app (goodIn_of _ (by decide +kernel)) ggX3_overflows_X3_heightSumOf
set_option maxRecDepth 20000 in
theorem ggX3_overflows_X3_noteLinesOf : GoodIn wsX3_overflows wsX3_noteLinesOf := goodIn_r _ [24, 7, 8, 9, 10, 5, 11, 12, 13, 14, 15, 25, 26, 27, 28, 29, 30, 31, 32, 33, 34, 35, 36, 37, 38, 39, 40, 41, 42, 43] (by decide +kernel) (by decide +kernel)
set_option maxRecDepth 20000 in
theorem gX3_overflows_X3_noteLinesOf : GoodIn wsX3_overflows (wsV RX3 113 RX3 yX3_noteLinesOf wsX3_noteLinesOf) := goodIn_app (goodIn_of _ (by decide +kernel)) ggX3_overflows_X3_noteLinesOf
theorem dX3_overflows_0 : decode cX3_overflows 0 = .ok (.aload_n 0, 1) := by decide +kernel
theorem dX3_overflows_1 : decode cX3_overflows 1 = .ok (.iload_n 1, 1) := by decide +kernel
theorem dX3_overflows_2 : decode cX3_overflows 2 = .ok (.invokevirtual 110, 3) := by decide +kernel
theorem dX3_overflows_5 : decode cX3_overflows 5 = .ok (.aload_n 0, 1) := by decide +kernel
theorem dX3_overflows_6 : decode cX3_overflows 6 = .ok (.iload_n 1, 1) := by decide +kernel
theorem dX3_overflows_7 : decode cX3_overflows 7 = .ok (.invokevirtual 113, 3) := by decide +kernel
theorem dX3_overflows_10 : decode cX3_overflows 10 = .ok (.iadd, 1) := by decide +kernel
theorem dX3_overflows_11 : decode cX3_overflows 11 = .ok (.aload_n 0, 1) := by decide +kernel
theorem dX3_overflows_12 : decode cX3_overflows 12 = .ok (.getfield 18, 3) := by decide +kernel
theorem dX3_overflows_15 : decode cX3_overflows 15 = .ok (.if_icmp .le 7, 3) := by decide +kernel
theorem dX3_overflows_18 : decode cX3_overflows 18 = .ok (.iconst 1, 1) := by decide +kernel
theorem dX3_overflows_19 : decode cX3_overflows 19 = .ok (.goto 4, 3) := by decide +kernel
theorem dX3_overflows_22 : decode cX3_overflows 22 = .ok (.iconst 0, 1) := by decide +kernel
theorem dX3_overflows_23 : decode cX3_overflows 23 = .ok (.ireturn, 1) := by decide +kernel
set_option maxRecDepth 20000 in
theorem ggX4_init_X1_init : GoodIn wsX4_init wsX1_init := goodIn_r _ [9, 10, 2, 3, 11, 12, 13, 14, 15, 16] (by decide +kernel) (by decide +kernel)
set_option maxRecDepth 20000 in
theorem gX4_init_X1_init_n11 : GoodIn wsX4_init (wsX1_init) := ggX4_init_X1_init
theorem dX4_init_0 : decode cX4_init 0 = .ok (.aload_n 0, 1) := by decide +kernel
theorem dX4_init_1 : decode cX4_init 1 = .ok (.invokespecial 3, 3) := by decide +kernel
theorem dX4_init_4 : decode cX4_init 4 = .ok (.aload_n 0, 1) := by decide +kernel
theorem dX4_init_5 : decode cX4_init 5 = .ok (.new 9, 3) := by decide +kernel
theorem dX4_init_8 : decode cX4_init 8 = .ok (.dup, 1) := by decide +kernel
theorem dX4_init_9 : decode cX4_init 9 = .ok (.invokespecial 11, 3) := by decide +kernel
theorem dX4_init_12 : decode cX4_init 12 = .ok (.putfield 12, 3) := by decide +kernel
theorem dX4_init_15 : decode cX4_init 15 = .ok (.return_, 1) := by decide +kernel
set_option maxRecDepth 20000 in
theorem ggX4_read_X8_restart : GoodIn wsX4_read wsX8_restart := goodIn_r _ [8, 9, 10, 11, 12, 108, 109, 110, 111, 112, 113] (by decide +kernel) (by decide +kernel)
set_option maxRecDepth 20000 in
theorem gX4_read_X8_restart : GoodIn wsX4_read (wsV RX4 18 RX8 yX8_restart wsX8_restart) := goodIn_app (goodIn_of _ (by decide +kernel)) ggX4_read_X8_restart
set_option maxRecDepth 20000 in
theorem ggX4_read_X1_clear : GoodIn wsX4_read wsX1_clear := goodIn_r _ [17, 18, 114, 115, 116] (by decide +kernel) (by decide +kernel)
set_option maxRecDepth 20000 in
theorem gX4_read_X1_clear : GoodIn wsX4_read (wsV RX4 23 RX1 yX1_clear wsX1_clear) := goodIn_app (goodIn_of _ (by decide +kernel)) ggX4_read_X1_clear
set_option maxRecDepth 20000 in
theorem ggX4_read_X4_readItem : GoodIn wsX4_read wsX4_readItem := goodIn_r _ [23, 1, 24, 25, 26, 7, 27, 9, 12, 11, 28, 29, 30, 31, 32, 33, 34, 35, 36, 37, 38, 39, 40, 41, 42, 43, 44, 45, 46, 47, 48, 49, 50, 51, 52, 10, 53, 54, 55, 56, 57, 58, 59, 60, 61, 62, 63, 64, 65, 66, 67, 22, 68, 69, 70, 71, 72, 2, 3, 73, 74, 75, 76, 77, 78, 79, 80, 16, 81, 18, 82, 83, 84, 85, 86, 87, 88, 89, 90, 91, 108, 109, 110, 111, 112, 113, 98, 99, 100, 114, 115, 116] (by decide +kernel) (by decide +kernel)
set_option maxRecDepth 20000 in
theorem gX4_read_X4_readItem : GoodIn wsX4_read (wsV RX4 47 RX4 yX4_readItem wsX4_readItem) := goodIn_app (goodIn_of _ (by decide +kernel)) ggX4_read_X4_readItem
set_option maxRecDepth 20000 in
theorem ggX4_read_X8_goesOn : GoodIn wsX4_read wsX8_goesOn := goodIn_r _ [48, 9, 36, 49, 50, 51, 7, 52, 10, 108, 109, 110, 111, 112, 113] (by decide +kernel) (by decide +kernel)
set_option maxRecDepth 20000 in
theorem gX4_read_X8_goesOn : GoodIn wsX4_read (wsV RX4 51 RX8 yX8_goesOn wsX8_goesOn) := goodIn_app (goodIn_of _ (by decide +kernel)) ggX4_read_X8_goesOn
set_option maxRecDepth 20000 in
theorem ggX4_read_X8_skip : GoodIn wsX4_read wsX8_skip := goodIn_r _ [96, 9, 41, 42, 43, 7, 44, 45, 46, 47, 48, 36, 49, 50, 51, 52, 10, 32, 33, 34, 35, 37, 53, 54, 55, 56, 108, 109, 110, 111, 112, 113] (by decide +kernel) (by decide +kernel)
set_option maxRecDepth 20000 in
theorem gX4_read_X8_skip : GoodIn wsX4_read (wsV RX4 55 RX8 yX8_skip wsX8_skip) := goodIn_app (goodIn_of _ (by decide +kernel)) ggX4_read_X8_skip
set_option maxRecDepth 20000 in
theorem ggX4_read_X8_failAt : GoodIn wsX4_read wsX8_failAt := goodIn_r _ [56, 10, 108, 109, 110, 111, 112, 113] (by decide +kernel) (by decide +kernel)
set_option maxRecDepth 20000 in
theorem gX4_read_X8_failAt : GoodIn wsX4_read (wsV RX4 62 RX8 yX8_failAt wsX8_failAt) := goodIn_app (goodIn_of _ (by decide +kernel)) ggX4_read_X8_failAt
theorem dX4_read_0 : decode cX4_read 0 = .ok (.aload_n 1, 1) := by decide +kernel
theorem dX4_read_1 : decode cX4_read 1 = .ok (.invokevirtual 18, 3) := by decide +kernel
theorem dX4_read_4 : decode cX4_read 4 = .ok (.aload_n 0, 1) := by decide +kernel
theorem dX4_read_5 : decode cX4_read 5 = .ok (.getfield 12, 3) := by decide +kernel
theorem dX4_read_8 : decode cX4_read 8 = .ok (.invokevirtual 23, 3) := by decide +kernel
theorem dX4_read_11 : decode cX4_read 11 = .ok (.aload_n 0, 1) := by decide +kernel
theorem dX4_read_12 : decode cX4_read 12 = .ok (.aload_n 2, 1) := by decide +kernel
theorem dX4_read_13 : decode cX4_read 13 = .ok (.getfield 26, 3) := by decide +kernel
theorem dX4_read_16 : decode cX4_read 16 = .ok (.getfield 32, 3) := by decide +kernel
theorem dX4_read_19 : decode cX4_read 19 = .ok (.putfield 38, 3) := by decide +kernel
theorem dX4_read_22 : decode cX4_read 22 = .ok (.aload_n 0, 1) := by decide +kernel
theorem dX4_read_23 : decode cX4_read 23 = .ok (.aload_n 2, 1) := by decide +kernel
theorem dX4_read_24 : decode cX4_read 24 = .ok (.getfield 41, 3) := by decide +kernel
theorem dX4_read_27 : decode cX4_read 27 = .ok (.getfield 32, 3) := by decide +kernel
theorem dX4_read_30 : decode cX4_read 30 = .ok (.putfield 44, 3) := by decide +kernel
theorem dX4_read_33 : decode cX4_read 33 = .ok (.aload_n 0, 1) := by decide +kernel
theorem dX4_read_34 : decode cX4_read 34 = .ok (.aload_n 1, 1) := by decide +kernel
theorem dX4_read_35 : decode cX4_read 35 = .ok (.invokevirtual 47, 3) := by decide +kernel
theorem dX4_read_38 : decode cX4_read 38 = .ok (.iconst 0, 1) := by decide +kernel
theorem dX4_read_39 : decode cX4_read 39 = .ok (.istore_n 3, 1) := by decide +kernel
theorem dX4_read_40 : decode cX4_read 40 = .ok (.iload_n 3, 1) := by decide +kernel
theorem dX4_read_41 : decode cX4_read 41 = .ok (.bipush 80, 2) := by decide +kernel
theorem dX4_read_43 : decode cX4_read 43 = .ok (.if_icmp .ge 27, 3) := by decide +kernel
theorem dX4_read_46 : decode cX4_read 46 = .ok (.aload_n 1, 1) := by decide +kernel
theorem dX4_read_47 : decode cX4_read 47 = .ok (.invokevirtual 51, 3) := by decide +kernel
theorem dX4_read_50 : decode cX4_read 50 = .ok (.ifCond .eq 20, 3) := by decide +kernel
theorem dX4_read_53 : decode cX4_read 53 = .ok (.aload_n 1, 1) := by decide +kernel
theorem dX4_read_54 : decode cX4_read 54 = .ok (.bipush 44, 2) := by decide +kernel
theorem dX4_read_56 : decode cX4_read 56 = .ok (.invokevirtual 55, 3) := by decide +kernel
theorem dX4_read_59 : decode cX4_read 59 = .ok (.aload_n 0, 1) := by decide +kernel
theorem dX4_read_60 : decode cX4_read 60 = .ok (.aload_n 1, 1) := by decide +kernel
theorem dX4_read_61 : decode cX4_read 61 = .ok (.invokevirtual 47, 3) := by decide +kernel
theorem dX4_read_64 : decode cX4_read 64 = .ok (.iinc 3 1, 3) := by decide +kernel
theorem dX4_read_67 : decode cX4_read 67 = .ok (.goto (-27), 3) := by decide +kernel
theorem dX4_read_70 : decode cX4_read 70 = .ok (.aload_n 0, 1) := by decide +kernel
theorem dX4_read_71 : decode cX4_read 71 = .ok (.getfield 38, 3) := by decide +kernel
theorem dX4_read_74 : decode cX4_read 74 = .ok (.ifCond .gt 10, 3) := by decide +kernel
theorem dX4_read_77 : decode cX4_read 77 = .ok (.aload_n 0, 1) := by decide +kernel
theorem dX4_read_78 : decode cX4_read 78 = .ok (.getfield 44, 3) := by decide +kernel
theorem dX4_read_81 : decode cX4_read 81 = .ok (.ifCond .le 11, 3) := by decide +kernel
theorem dX4_read_84 : decode cX4_read 84 = .ok (.aload_n 1, 1) := by decide +kernel
theorem dX4_read_85 : decode cX4_read 85 = .ok (.aload_n 1, 1) := by decide +kernel
theorem dX4_read_86 : decode cX4_read 86 = .ok (.getfield 59, 3) := by decide +kernel
theorem dX4_read_89 : decode cX4_read 89 = .ok (.invokevirtual 62, 3) := by decide +kernel
theorem dX4_read_92 : decode cX4_read 92 = .ok (.aload_n 1, 1) := by decide +kernel
theorem dX4_read_93 : decode cX4_read 93 = .ok (.getfield 66, 3) := by decide +kernel
theorem dX4_read_96 : decode cX4_read 96 = .ok (.ireturn, 1) := by decide +kernel
set_option maxRecDepth 20000 in
theorem ggX4_readItem_X8_readNumber : GoodIn wsX4_readItem wsX8_readNumber := goodIn_r _ [6, 7, 8, 9, 10, 11, 12, 5, 13, 14, 15, 16, 17, 18, 19, 20, 21, 22, 23, 24, 25, 26, 27, 28, 29, 30, 31, 32, 33, 34, 35, 36, 37, 38, 39, 40, 41, 42, 43, 80, 81, 82, 83, 84, 85] (by decide +kernel) (by decide +kernel)
set_option maxRecDepth 20000 in
theorem gX4_readItem_X8_readNumber : GoodIn wsX4_readItem (wsV RX4 69 RX8 yX8_readNumber wsX8_readNumber) := goodIn_app (goodIn_of _ (by decide +kernel)) ggX4_readItem_X8_readNumber
set_option maxRecDepth 20000 in
theorem ggX4_readItem_X8_readSign : GoodIn wsX4_readItem wsX8_readSign := goodIn_r _ [47, 7, 23, 24, 25, 5, 26, 27, 28, 29, 30, 18, 31, 32, 33, 34, 35, 14, 15, 16, 17, 19, 36, 37, 38, 39, 80, 81, 82, 83, 84, 85] (by decide +kernel) (by decide +kernel)
set_option maxRecDepth 20000 in
theorem gX4_readItem_X8_readSign : GoodIn wsX4_readItem (wsV RX4 75 RX8 yX8_readSign wsX8_readSign) := goodIn_app (goodIn_of _ (by decide +kernel)) ggX4_readItem_X8_readSign
set_option maxRecDepth 20000 in
theorem ggX4_readItem_X4_addGroups : GoodIn wsX4_readItem wsX4_addGroups := goodIn_r _ [52, 1, 53, 54, 55, 51, 56, 57, 58, 59, 60, 61, 5, 62, 8, 36, 37, 38, 39, 35, 63, 32, 33, 34, 64, 65, 66, 67, 68, 69, 70, 71, 72, 73, 74, 75, 76, 77, 78, 79, 86, 87, 88, 80, 81, 82, 83, 84, 85, 89, 90, 91] (by decide +kernel) (by decide +kernel)
set_option maxRecDepth 20000 in
theorem gX4_readItem_X4_addGroups : GoodIn wsX4_readItem (wsV RX4 79 RX4 yX4_addGroups wsX4_addGroups) := goodIn_app (goodIn_of _ (by decide +kernel)) ggX4_readItem_X4_addGroups
set_option maxRecDepth 20000 in
theorem ggX4_readItem_X4_use : GoodIn wsX4_readItem wsX4_use := goodIn_r _ [56, 57, 58, 59, 60, 61, 5, 62, 8, 36, 37, 38, 39, 35, 86, 87, 88, 80, 81, 82, 83, 84, 85] (by decide +kernel) (by decide +kernel)
set_option maxRecDepth 20000 in
theorem gX4_readItem_X4_use : GoodIn wsX4_readItem (wsV RX4 83 RX4 yX4_use wsX4_use) := goodIn_app (goodIn_of _ (by decide +kernel)) ggX4_readItem_X4_use
set_option maxRecDepth 20000 in
theorem ggX4_readItem_X1_append : GoodIn wsX4_readItem wsX1_append := goodIn_r _ [68, 69, 70, 71, 72, 67, 73, 74, 75, 76, 77, 78, 79, 89, 90, 91] (by decide +kernel) (by decide +kernel)
set_option maxRecDepth 20000 in
theorem gX4_readItem_X1_append : GoodIn wsX4_readItem (wsV RX4 87 RX1 yX1_append wsX1_append) := goodIn_app (goodIn_of _ (by decide +kernel)) ggX4_readItem_X1_append
theorem dX4_readItem_0 : decode cX4_readItem 0 = .ok (.aload_n 1, 1) := by decide +kernel
theorem dX4_readItem_1 : decode cX4_readItem 1 = .ok (.invokevirtual 69, 3) := by decide +kernel
theorem dX4_readItem_4 : decode cX4_readItem 4 = .ok (.aload_n 1, 1) := by decide +kernel
theorem dX4_readItem_5 : decode cX4_readItem 5 = .ok (.getfield 72, 3) := by decide +kernel
theorem dX4_readItem_8 : decode cX4_readItem 8 = .ok (.istore_n 2, 1) := by decide +kernel
theorem dX4_readItem_9 : decode cX4_readItem 9 = .ok (.aload_n 1, 1) := by decide +kernel
theorem dX4_readItem_10 : decode cX4_readItem 10 = .ok (.invokevirtual 75, 3) := by decide +kernel
theorem dX4_readItem_13 : decode cX4_readItem 13 = .ok (.lookupswitch 112 #[(43, 76), (60, 54), (61, 43), (62, 65)], 43) := by decide +kernel
theorem dX4_readItem_56 : decode cX4_readItem 56 = .ok (.aload_n 0, 1) := by decide +kernel
theorem dX4_readItem_57 : decode cX4_readItem 57 = .ok (.aload_n 1, 1) := by decide +kernel
theorem dX4_readItem_58 : decode cX4_readItem 58 = .ok (.iload_n 2, 1) := by decide +kernel
theorem dX4_readItem_59 : decode cX4_readItem 59 = .ok (.iconst 1, 1) := by decide +kernel
theorem dX4_readItem_60 : decode cX4_readItem 60 = .ok (.iconst 1, 1) := by decide +kernel
theorem dX4_readItem_61 : decode cX4_readItem 61 = .ok (.invokevirtual 79, 3) := by decide +kernel
theorem dX4_readItem_64 : decode cX4_readItem 64 = .ok (.goto 61, 3) := by decide +kernel
theorem dX4_readItem_67 : decode cX4_readItem 67 = .ok (.aload_n 0, 1) := by decide +kernel
theorem dX4_readItem_68 : decode cX4_readItem 68 = .ok (.aload_n 1, 1) := by decide +kernel
theorem dX4_readItem_69 : decode cX4_readItem 69 = .ok (.iload_n 2, 1) := by decide +kernel
theorem dX4_readItem_70 : decode cX4_readItem 70 = .ok (.iconst 1, 1) := by decide +kernel
theorem dX4_readItem_71 : decode cX4_readItem 71 = .ok (.iconst 0, 1) := by decide +kernel
theorem dX4_readItem_72 : decode cX4_readItem 72 = .ok (.invokevirtual 79, 3) := by decide +kernel
theorem dX4_readItem_75 : decode cX4_readItem 75 = .ok (.goto 50, 3) := by decide +kernel
theorem dX4_readItem_78 : decode cX4_readItem 78 = .ok (.aload_n 0, 1) := by decide +kernel
theorem dX4_readItem_79 : decode cX4_readItem 79 = .ok (.aload_n 1, 1) := by decide +kernel
theorem dX4_readItem_80 : decode cX4_readItem 80 = .ok (.iload_n 2, 1) := by decide +kernel
theorem dX4_readItem_81 : decode cX4_readItem 81 = .ok (.iconst 0, 1) := by decide +kernel
theorem dX4_readItem_82 : decode cX4_readItem 82 = .ok (.iconst 1, 1) := by decide +kernel
theorem dX4_readItem_83 : decode cX4_readItem 83 = .ok (.invokevirtual 79, 3) := by decide +kernel
theorem dX4_readItem_86 : decode cX4_readItem 86 = .ok (.goto 39, 3) := by decide +kernel
theorem dX4_readItem_89 : decode cX4_readItem 89 = .ok (.aload_n 0, 1) := by decide +kernel
theorem dX4_readItem_90 : decode cX4_readItem 90 = .ok (.aload_n 1, 1) := by decide +kernel
theorem dX4_readItem_91 : decode cX4_readItem 91 = .ok (.iload_n 2, 1) := by decide +kernel
theorem dX4_readItem_92 : decode cX4_readItem 92 = .ok (.iconst 0, 1) := by decide +kernel
theorem dX4_readItem_93 : decode cX4_readItem 93 = .ok (.invokevirtual 83, 3) := by decide +kernel
theorem dX4_readItem_96 : decode cX4_readItem 96 = .ok (.aload_n 1, 1) := by decide +kernel
theorem dX4_readItem_97 : decode cX4_readItem 97 = .ok (.invokevirtual 69, 3) := by decide +kernel
theorem dX4_readItem_100 : decode cX4_readItem 100 = .ok (.aload_n 0, 1) := by decide +kernel
theorem dX4_readItem_101 : decode cX4_readItem 101 = .ok (.aload_n 1, 1) := by decide +kernel
theorem dX4_readItem_102 : decode cX4_readItem 102 = .ok (.iconst 0, 1) := by decide +kernel
theorem dX4_readItem_103 : decode cX4_readItem 103 = .ok (.aload_n 1, 1) := by decide +kernel
theorem dX4_readItem_104 : decode cX4_readItem 104 = .ok (.getfield 72, 3) := by decide +kernel
theorem dX4_readItem_107 : decode cX4_readItem 107 = .ok (.invokevirtual 83, 3) := by decide +kernel
theorem dX4_readItem_110 : decode cX4_readItem 110 = .ok (.aload_n 0, 1) := by decide +kernel
theorem dX4_readItem_111 : decode cX4_readItem 111 = .ok (.getfield 12, 3) := by decide +kernel
theorem dX4_readItem_114 : decode cX4_readItem 114 = .ok (.iload_n 2, 1) := by decide +kernel
theorem dX4_readItem_115 : decode cX4_readItem 115 = .ok (.aload_n 1, 1) := by decide +kernel
theorem dX4_readItem_116 : decode cX4_readItem 116 = .ok (.getfield 72, 3) := by decide +kernel
theorem dX4_readItem_119 : decode cX4_readItem 119 = .ok (.invokevirtual 87, 3) := by decide +kernel
theorem dX4_readItem_122 : decode cX4_readItem 122 = .ok (.goto 3, 3) := by decide +kernel
theorem dX4_readItem_125 : decode cX4_readItem 125 = .ok (.return_, 1) := by decide +kernel
set_option maxRecDepth 20000 in
theorem ggX4_addGroups_X4_use : GoodIn wsX4_addGroups wsX4_use := goodIn_r _ [6, 7, 8, 9, 10, 11, 12, 13, 14, 15, 16, 17, 18, 19, 40, 41, 42, 43, 44, 45, 46, 47, 48] (by decide +kernel) (by decide +kernel)
set_option maxRecDepth 20000 in
theorem gX4_addGroups_X4_use : GoodIn wsX4_addGroups (wsV RX4 83 RX4 yX4_use wsX4_use) := goodIn_app (goodIn_of _ (by decide +kernel)) ggX4_addGroups_X4_use
set_option maxRecDepth 20000 in
theorem ggX4_addGroups_X8_hasFault : GoodIn wsX4_addGroups wsX8_hasFault := goodIn_r _ [23, 19, 43, 44, 45, 46, 47, 48] (by decide +kernel) (by decide +kernel)
set_option maxRecDepth 20000 in
theorem gX4_addGroups_X8_hasFault : GoodIn wsX4_addGroups (wsV RX4 91 RX8 yX8_hasFault wsX8_hasFault) := goodIn_app (goodIn_of _ (by decide +kernel)) ggX4_addGroups_X8_hasFault
set_option maxRecDepth 20000 in
theorem ggX4_addGroups_X1_append : GoodIn wsX4_addGroups wsX1_append := goodIn_r _ [28, 29, 30, 31, 32, 27, 33, 34, 35, 36, 37, 38, 39, 49, 50, 51] (by decide +kernel) (by decide +kernel)
set_option maxRecDepth 20000 in
theorem gX4_addGroups_X1_append : GoodIn wsX4_addGroups (wsV RX4 87 RX1 yX1_append wsX1_append) := goodIn_app (goodIn_of _ (by decide +kernel)) ggX4_addGroups_X1_append
theorem dX4_addGroups_0 : decode cX4_addGroups 0 = .ok (.aload_n 0, 1) := by decide +kernel
theorem dX4_addGroups_1 : decode cX4_addGroups 1 = .ok (.aload_n 1, 1) := by decide +kernel
theorem dX4_addGroups_2 : decode cX4_addGroups 2 = .ok (.iload_n 2, 1) := by decide +kernel
theorem dX4_addGroups_3 : decode cX4_addGroups 3 = .ok (.iload_n 3, 1) := by decide +kernel
theorem dX4_addGroups_4 : decode cX4_addGroups 4 = .ok (.imul, 1) := by decide +kernel
theorem dX4_addGroups_5 : decode cX4_addGroups 5 = .ok (.iload_n 2, 1) := by decide +kernel
theorem dX4_addGroups_6 : decode cX4_addGroups 6 = .ok (.iload 4, 2) := by decide +kernel
theorem dX4_addGroups_8 : decode cX4_addGroups 8 = .ok (.imul, 1) := by decide +kernel
theorem dX4_addGroups_9 : decode cX4_addGroups 9 = .ok (.invokevirtual 83, 3) := by decide +kernel
theorem dX4_addGroups_12 : decode cX4_addGroups 12 = .ok (.iconst 0, 1) := by decide +kernel
theorem dX4_addGroups_13 : decode cX4_addGroups 13 = .ok (.istore 5, 2) := by decide +kernel
theorem dX4_addGroups_15 : decode cX4_addGroups 15 = .ok (.iload 5, 2) := by decide +kernel
theorem dX4_addGroups_17 : decode cX4_addGroups 17 = .ok (.iload_n 2, 1) := by decide +kernel
theorem dX4_addGroups_18 : decode cX4_addGroups 18 = .ok (.if_icmp .ge 26, 3) := by decide +kernel
theorem dX4_addGroups_21 : decode cX4_addGroups 21 = .ok (.aload_n 1, 1) := by decide +kernel
theorem dX4_addGroups_22 : decode cX4_addGroups 22 = .ok (.invokevirtual 91, 3) := by decide +kernel
theorem dX4_addGroups_25 : decode cX4_addGroups 25 = .ok (.ifCond .ne 19, 3) := by decide +kernel
theorem dX4_addGroups_28 : decode cX4_addGroups 28 = .ok (.aload_n 0, 1) := by decide +kernel
theorem dX4_addGroups_29 : decode cX4_addGroups 29 = .ok (.getfield 12, 3) := by decide +kernel
theorem dX4_addGroups_32 : decode cX4_addGroups 32 = .ok (.iload_n 3, 1) := by decide +kernel
theorem dX4_addGroups_33 : decode cX4_addGroups 33 = .ok (.iload 4, 2) := by decide +kernel
theorem dX4_addGroups_35 : decode cX4_addGroups 35 = .ok (.invokevirtual 87, 3) := by decide +kernel
theorem dX4_addGroups_38 : decode cX4_addGroups 38 = .ok (.iinc 5 1, 3) := by decide +kernel
theorem dX4_addGroups_41 : decode cX4_addGroups 41 = .ok (.goto (-26), 3) := by decide +kernel
theorem dX4_addGroups_44 : decode cX4_addGroups 44 = .ok (.return_, 1) := by decide +kernel
set_option maxRecDepth 20000 in
theorem ggX4_use_X8_failAtNumber : GoodIn wsX4_use wsX8_failAtNumber := goodIn_r _ [7, 8, 9, 10, 11, 6, 12, 13, 17, 18, 19, 20, 21, 22] (by decide +kernel) (by decide +kernel)
set_option maxRecDepth 20000 in
theorem gX4_use_X8_failAtNumber : GoodIn wsX4_use (wsV RX4 94 RX8 yX8_failAtNumber wsX8_failAtNumber) := goodIn_app (goodIn_of _ (by decide +kernel)) ggX4_use_X8_failAtNumber
theorem dX4_use_0 : decode cX4_use 0 = .ok (.iload_n 2, 1) := by decide +kernel
theorem dX4_use_1 : decode cX4_use 1 = .ok (.aload_n 0, 1) := by decide +kernel
theorem dX4_use_2 : decode cX4_use 2 = .ok (.getfield 38, 3) := by decide +kernel
theorem dX4_use_5 : decode cX4_use 5 = .ok (.if_icmp .gt 11, 3) := by decide +kernel
theorem dX4_use_8 : decode cX4_use 8 = .ok (.iload_n 3, 1) := by decide +kernel
theorem dX4_use_9 : decode cX4_use 9 = .ok (.aload_n 0, 1) := by decide +kernel
theorem dX4_use_10 : decode cX4_use 10 = .ok (.getfield 44, 3) := by decide +kernel
theorem dX4_use_13 : decode cX4_use 13 = .ok (.if_icmp .le 8, 3) := by decide +kernel
theorem dX4_use_16 : decode cX4_use 16 = .ok (.aload_n 1, 1) := by decide +kernel
theorem dX4_use_17 : decode cX4_use 17 = .ok (.invokevirtual 94, 3) := by decide +kernel
theorem dX4_use_20 : decode cX4_use 20 = .ok (.return_, 1) := by decide +kernel
theorem dX4_use_21 : decode cX4_use 21 = .ok (.aload_n 0, 1) := by decide +kernel
theorem dX4_use_22 : decode cX4_use 22 = .ok (.dup, 1) := by decide +kernel
theorem dX4_use_23 : decode cX4_use 23 = .ok (.getfield 38, 3) := by decide +kernel
theorem dX4_use_26 : decode cX4_use 26 = .ok (.iload_n 2, 1) := by decide +kernel
theorem dX4_use_27 : decode cX4_use 27 = .ok (.isub, 1) := by decide +kernel
theorem dX4_use_28 : decode cX4_use 28 = .ok (.putfield 38, 3) := by decide +kernel
theorem dX4_use_31 : decode cX4_use 31 = .ok (.aload_n 0, 1) := by decide +kernel
theorem dX4_use_32 : decode cX4_use 32 = .ok (.dup, 1) := by decide +kernel
theorem dX4_use_33 : decode cX4_use 33 = .ok (.getfield 44, 3) := by decide +kernel
theorem dX4_use_36 : decode cX4_use 36 = .ok (.iload_n 3, 1) := by decide +kernel
theorem dX4_use_37 : decode cX4_use 37 = .ok (.isub, 1) := by decide +kernel
theorem dX4_use_38 : decode cX4_use 38 = .ok (.putfield 44, 3) := by decide +kernel
theorem dX4_use_41 : decode cX4_use 41 = .ok (.return_, 1) := by decide +kernel
theorem dX5_init_0 : decode cX5_init 0 = .ok (.aload_n 0, 1) := by decide +kernel
theorem dX5_init_1 : decode cX5_init 1 = .ok (.invokespecial 3, 3) := by decide +kernel
theorem dX5_init_4 : decode cX5_init 4 = .ok (.return_, 1) := by decide +kernel
set_option maxRecDepth 20000 in
theorem ggX5_measure_X1_sizeOf : GoodIn wsX5_measure wsX1_sizeOf := goodIn_r _ [12, 13, 14, 15, 16, 17, 11, 18, 19, 20, 21, 22, 37, 38, 39] (by decide +kernel) (by decide +kernel)
set_option maxRecDepth 20000 in
theorem gX5_measure_X1_sizeOf : GoodIn wsX5_measure (wsV RX5 36 RX1 yX1_sizeOf wsX1_sizeOf) := goodIn_app (goodIn_of _ (by decide +kernel)) ggX5_measure_X1_sizeOf
set_option maxRecDepth 20000 in
theorem ggX5_measure_X9_otherBook : GoodIn wsX5_measure wsX9_otherBook := goodIn_r _ [24] (by decide +kernel) (by decide +kernel)
set_option maxRecDepth 20000 in
theorem gX5_measure_X9_otherBook_n40 : GoodIn wsX5_measure (wsX9_otherBook) := ggX5_measure_X9_otherBook
set_option maxRecDepth 20000 in
theorem ggX5_measure_X5_takeOther : GoodIn wsX5_measure wsX5_takeOther := goodIn_r _ [29, 6, 4, 5, 30, 31, 32, 33, 34, 35, 36] (by decide +kernel) (by decide +kernel)
set_option maxRecDepth 20000 in
theorem gX5_measure_X5_takeOther : GoodIn wsX5_measure (wsV RX5 44 RX5 yX5_takeOther wsX5_takeOther) := goodIn_app (goodIn_of _ (by decide +kernel)) ggX5_measure_X5_takeOther
theorem dX5_measure_0 : decode cX5_measure 0 = .ok (.aload_n 0, 1) := by decide +kernel
theorem dX5_measure_1 : decode cX5_measure 1 = .ok (.iload_n 3, 1) := by decide +kernel
theorem dX5_measure_2 : decode cX5_measure 2 = .ok (.putfield 9, 3) := by decide +kernel
theorem dX5_measure_5 : decode cX5_measure 5 = .ok (.aload_n 0, 1) := by decide +kernel
theorem dX5_measure_6 : decode cX5_measure 6 = .ok (.iload 4, 2) := by decide +kernel
theorem dX5_measure_8 : decode cX5_measure 8 = .ok (.putfield 15, 3) := by decide +kernel
theorem dX5_measure_11 : decode cX5_measure 11 = .ok (.aload_n 0, 1) := by decide +kernel
theorem dX5_measure_12 : decode cX5_measure 12 = .ok (.iconst 0, 1) := by decide +kernel
theorem dX5_measure_13 : decode cX5_measure 13 = .ok (.putfield 18, 3) := by decide +kernel
theorem dX5_measure_16 : decode cX5_measure 16 = .ok (.aload_n 0, 1) := by decide +kernel
theorem dX5_measure_17 : decode cX5_measure 17 = .ok (.bipush (-5), 2) := by decide +kernel
theorem dX5_measure_19 : decode cX5_measure 19 = .ok (.putfield 21, 3) := by decide +kernel
theorem dX5_measure_22 : decode cX5_measure 22 = .ok (.aload_n 0, 1) := by decide +kernel
theorem dX5_measure_23 : decode cX5_measure 23 = .ok (.bipush (-5), 2) := by decide +kernel
theorem dX5_measure_25 : decode cX5_measure 25 = .ok (.putfield 24, 3) := by decide +kernel
theorem dX5_measure_28 : decode cX5_measure 28 = .ok (.aload_n 0, 1) := by decide +kernel
theorem dX5_measure_29 : decode cX5_measure 29 = .ok (.iconst 0, 1) := by decide +kernel
theorem dX5_measure_30 : decode cX5_measure 30 = .ok (.putfield 27, 3) := by decide +kernel
theorem dX5_measure_33 : decode cX5_measure 33 = .ok (.aload_n 0, 1) := by decide +kernel
theorem dX5_measure_34 : decode cX5_measure 34 = .ok (.iconst 0, 1) := by decide +kernel
theorem dX5_measure_35 : decode cX5_measure 35 = .ok (.putfield 30, 3) := by decide +kernel
theorem dX5_measure_38 : decode cX5_measure 38 = .ok (.iconst 0, 1) := by decide +kernel
theorem dX5_measure_39 : decode cX5_measure 39 = .ok (.istore 5, 2) := by decide +kernel
theorem dX5_measure_41 : decode cX5_measure 41 = .ok (.iconst 0, 1) := by decide +kernel
theorem dX5_measure_42 : decode cX5_measure 42 = .ok (.istore 6, 2) := by decide +kernel
theorem dX5_measure_44 : decode cX5_measure 44 = .ok (.iconst 0, 1) := by decide +kernel
theorem dX5_measure_45 : decode cX5_measure 45 = .ok (.istore 7, 2) := by decide +kernel
theorem dX5_measure_47 : decode cX5_measure 47 = .ok (.iload 7, 2) := by decide +kernel
theorem dX5_measure_49 : decode cX5_measure 49 = .ok (.aload_n 1, 1) := by decide +kernel
theorem dX5_measure_50 : decode cX5_measure 50 = .ok (.getfield 33, 3) := by decide +kernel
theorem dX5_measure_53 : decode cX5_measure 53 = .ok (.if_icmp .ge 96, 3) := by decide +kernel
theorem dX5_measure_56 : decode cX5_measure 56 = .ok (.iload 5, 2) := by decide +kernel
theorem dX5_measure_58 : decode cX5_measure 58 = .ok (.aload_n 1, 1) := by decide +kernel
theorem dX5_measure_59 : decode cX5_measure 59 = .ok (.iload 7, 2) := by decide +kernel
theorem dX5_measure_61 : decode cX5_measure 61 = .ok (.iload_n 2, 1) := by decide +kernel
theorem dX5_measure_62 : decode cX5_measure 62 = .ok (.invokevirtual 36, 3) := by decide +kernel
theorem dX5_measure_65 : decode cX5_measure 65 = .ok (.iadd, 1) := by decide +kernel
theorem dX5_measure_66 : decode cX5_measure 66 = .ok (.istore 8, 2) := by decide +kernel
theorem dX5_measure_68 : decode cX5_measure 68 = .ok (.iload 6, 2) := by decide +kernel
theorem dX5_measure_70 : decode cX5_measure 70 = .ok (.aload_n 1, 1) := by decide +kernel
theorem dX5_measure_71 : decode cX5_measure 71 = .ok (.iload 7, 2) := by decide +kernel
theorem dX5_measure_73 : decode cX5_measure 73 = .ok (.iload_n 2, 1) := by decide +kernel
theorem dX5_measure_74 : decode cX5_measure 74 = .ok (.invokestatic 40, 3) := by decide +kernel
theorem dX5_measure_77 : decode cX5_measure 77 = .ok (.invokevirtual 36, 3) := by decide +kernel
theorem dX5_measure_80 : decode cX5_measure 80 = .ok (.iadd, 1) := by decide +kernel
theorem dX5_measure_81 : decode cX5_measure 81 = .ok (.istore 9, 2) := by decide +kernel
theorem dX5_measure_83 : decode cX5_measure 83 = .ok (.iload 5, 2) := by decide +kernel
theorem dX5_measure_85 : decode cX5_measure 85 = .ok (.iload 8, 2) := by decide +kernel
theorem dX5_measure_87 : decode cX5_measure 87 = .ok (.if_icmp .ge 48, 3) := by decide +kernel
theorem dX5_measure_90 : decode cX5_measure 90 = .ok (.iload 5, 2) := by decide +kernel
theorem dX5_measure_92 : decode cX5_measure 92 = .ok (.iload 4, 2) := by decide +kernel
theorem dX5_measure_94 : decode cX5_measure 94 = .ok (.if_icmp .gt 41, 3) := by decide +kernel
theorem dX5_measure_97 : decode cX5_measure 97 = .ok (.iload 8, 2) := by decide +kernel
theorem dX5_measure_99 : decode cX5_measure 99 = .ok (.iload_n 3, 1) := by decide +kernel
theorem dX5_measure_100 : decode cX5_measure 100 = .ok (.if_icmp .le 35, 3) := by decide +kernel
theorem dX5_measure_103 : decode cX5_measure 103 = .ok (.aload_n 0, 1) := by decide +kernel
theorem dX5_measure_104 : decode cX5_measure 104 = .ok (.dup, 1) := by decide +kernel
theorem dX5_measure_105 : decode cX5_measure 105 = .ok (.getfield 18, 3) := by decide +kernel
theorem dX5_measure_108 : decode cX5_measure 108 = .ok (.iconst 1, 1) := by decide +kernel
theorem dX5_measure_109 : decode cX5_measure 109 = .ok (.iadd, 1) := by decide +kernel
theorem dX5_measure_110 : decode cX5_measure 110 = .ok (.putfield 18, 3) := by decide +kernel
theorem dX5_measure_113 : decode cX5_measure 113 = .ok (.aload_n 0, 1) := by decide +kernel
theorem dX5_measure_114 : decode cX5_measure 114 = .ok (.dup, 1) := by decide +kernel
theorem dX5_measure_115 : decode cX5_measure 115 = .ok (.getfield 30, 3) := by decide +kernel
theorem dX5_measure_118 : decode cX5_measure 118 = .ok (.iload 8, 2) := by decide +kernel
theorem dX5_measure_120 : decode cX5_measure 120 = .ok (.iload 5, 2) := by decide +kernel
theorem dX5_measure_122 : decode cX5_measure 122 = .ok (.isub, 1) := by decide +kernel
theorem dX5_measure_123 : decode cX5_measure 123 = .ok (.iadd, 1) := by decide +kernel
theorem dX5_measure_124 : decode cX5_measure 124 = .ok (.putfield 30, 3) := by decide +kernel
theorem dX5_measure_127 : decode cX5_measure 127 = .ok (.aload_n 0, 1) := by decide +kernel
theorem dX5_measure_128 : decode cX5_measure 128 = .ok (.iload 6, 2) := by decide +kernel
theorem dX5_measure_130 : decode cX5_measure 130 = .ok (.iload 9, 2) := by decide +kernel
theorem dX5_measure_132 : decode cX5_measure 132 = .ok (.invokevirtual 44, 3) := by decide +kernel
theorem dX5_measure_135 : decode cX5_measure 135 = .ok (.iload 8, 2) := by decide +kernel
theorem dX5_measure_137 : decode cX5_measure 137 = .ok (.istore 5, 2) := by decide +kernel
theorem dX5_measure_139 : decode cX5_measure 139 = .ok (.iload 9, 2) := by decide +kernel
theorem dX5_measure_141 : decode cX5_measure 141 = .ok (.istore 6, 2) := by decide +kernel
theorem dX5_measure_143 : decode cX5_measure 143 = .ok (.iinc 7 1, 3) := by decide +kernel
theorem dX5_measure_146 : decode cX5_measure 146 = .ok (.goto (-99), 3) := by decide +kernel
theorem dX5_measure_149 : decode cX5_measure 149 = .ok (.return_, 1) := by decide +kernel
theorem dX5_takeOther_0 : decode cX5_takeOther 0 = .ok (.iload_n 1, 1) := by decide +kernel
theorem dX5_takeOther_1 : decode cX5_takeOther 1 = .ok (.iload_n 2, 1) := by decide +kernel
theorem dX5_takeOther_2 : decode cX5_takeOther 2 = .ok (.if_icmp .ne 4, 3) := by decide +kernel
theorem dX5_takeOther_5 : decode cX5_takeOther 5 = .ok (.return_, 1) := by decide +kernel
theorem dX5_takeOther_6 : decode cX5_takeOther 6 = .ok (.aload_n 0, 1) := by decide +kernel
theorem dX5_takeOther_7 : decode cX5_takeOther 7 = .ok (.getfield 27, 3) := by decide +kernel
theorem dX5_takeOther_10 : decode cX5_takeOther 10 = .ok (.ifCond .ne 8, 3) := by decide +kernel
theorem dX5_takeOther_13 : decode cX5_takeOther 13 = .ok (.aload_n 0, 1) := by decide +kernel
theorem dX5_takeOther_14 : decode cX5_takeOther 14 = .ok (.iload_n 1, 1) := by decide +kernel
theorem dX5_takeOther_15 : decode cX5_takeOther 15 = .ok (.putfield 21, 3) := by decide +kernel
theorem dX5_takeOther_18 : decode cX5_takeOther 18 = .ok (.aload_n 0, 1) := by decide +kernel
theorem dX5_takeOther_19 : decode cX5_takeOther 19 = .ok (.iload_n 2, 1) := by decide +kernel
theorem dX5_takeOther_20 : decode cX5_takeOther 20 = .ok (.iconst 1, 1) := by decide +kernel
theorem dX5_takeOther_21 : decode cX5_takeOther 21 = .ok (.isub, 1) := by decide +kernel
theorem dX5_takeOther_22 : decode cX5_takeOther 22 = .ok (.putfield 24, 3) := by decide +kernel
theorem dX5_takeOther_25 : decode cX5_takeOther 25 = .ok (.aload_n 0, 1) := by decide +kernel
theorem dX5_takeOther_26 : decode cX5_takeOther 26 = .ok (.dup, 1) := by decide +kernel
theorem dX5_takeOther_27 : decode cX5_takeOther 27 = .ok (.getfield 27, 3) := by decide +kernel
theorem dX5_takeOther_30 : decode cX5_takeOther 30 = .ok (.iload_n 2, 1) := by decide +kernel
theorem dX5_takeOther_31 : decode cX5_takeOther 31 = .ok (.iload_n 1, 1) := by decide +kernel
theorem dX5_takeOther_32 : decode cX5_takeOther 32 = .ok (.isub, 1) := by decide +kernel
theorem dX5_takeOther_33 : decode cX5_takeOther 33 = .ok (.iadd, 1) := by decide +kernel
theorem dX5_takeOther_34 : decode cX5_takeOther 34 = .ok (.putfield 27, 3) := by decide +kernel
theorem dX5_takeOther_37 : decode cX5_takeOther 37 = .ok (.return_, 1) := by decide +kernel
theorem dX5_property_0 : decode cX5_property 0 = .ok (.iload_n 1, 1) := by decide +kernel
theorem dX5_property_1 : decode cX5_property 1 = .ok (.tableswitch 69 0 5 #[39, 44, 49, 54, 59, 64], 39) := by decide +kernel
theorem dX5_property_40 : decode cX5_property 40 = .ok (.aload_n 0, 1) := by decide +kernel
theorem dX5_property_41 : decode cX5_property 41 = .ok (.getfield 9, 3) := by decide +kernel
theorem dX5_property_44 : decode cX5_property 44 = .ok (.ireturn, 1) := by decide +kernel
theorem dX5_property_45 : decode cX5_property 45 = .ok (.aload_n 0, 1) := by decide +kernel
theorem dX5_property_46 : decode cX5_property 46 = .ok (.getfield 15, 3) := by decide +kernel
theorem dX5_property_49 : decode cX5_property 49 = .ok (.ireturn, 1) := by decide +kernel
theorem dX5_property_50 : decode cX5_property 50 = .ok (.aload_n 0, 1) := by decide +kernel
theorem dX5_property_51 : decode cX5_property 51 = .ok (.getfield 21, 3) := by decide +kernel
theorem dX5_property_54 : decode cX5_property 54 = .ok (.ireturn, 1) := by decide +kernel
theorem dX5_property_55 : decode cX5_property 55 = .ok (.aload_n 0, 1) := by decide +kernel
theorem dX5_property_56 : decode cX5_property 56 = .ok (.getfield 24, 3) := by decide +kernel
theorem dX5_property_59 : decode cX5_property 59 = .ok (.ireturn, 1) := by decide +kernel
theorem dX5_property_60 : decode cX5_property 60 = .ok (.aload_n 0, 1) := by decide +kernel
theorem dX5_property_61 : decode cX5_property 61 = .ok (.getfield 18, 3) := by decide +kernel
theorem dX5_property_64 : decode cX5_property 64 = .ok (.ireturn, 1) := by decide +kernel
theorem dX5_property_65 : decode cX5_property 65 = .ok (.aload_n 0, 1) := by decide +kernel
theorem dX5_property_66 : decode cX5_property 66 = .ok (.getfield 27, 3) := by decide +kernel
theorem dX5_property_69 : decode cX5_property 69 = .ok (.ireturn, 1) := by decide +kernel
theorem dX5_property_70 : decode cX5_property 70 = .ok (.aload_n 0, 1) := by decide +kernel
theorem dX5_property_71 : decode cX5_property 71 = .ok (.getfield 30, 3) := by decide +kernel
theorem dX5_property_74 : decode cX5_property 74 = .ok (.aload_n 0, 1) := by decide +kernel
theorem dX5_property_75 : decode cX5_property 75 = .ok (.getfield 15, 3) := by decide +kernel
theorem dX5_property_78 : decode cX5_property 78 = .ok (.aload_n 0, 1) := by decide +kernel
theorem dX5_property_79 : decode cX5_property 79 = .ok (.getfield 9, 3) := by decide +kernel
theorem dX5_property_82 : decode cX5_property 82 = .ok (.isub, 1) := by decide +kernel
theorem dX5_property_83 : decode cX5_property 83 = .ok (.iconst 1, 1) := by decide +kernel
theorem dX5_property_84 : decode cX5_property 84 = .ok (.iadd, 1) := by decide +kernel
theorem dX5_property_85 : decode cX5_property 85 = .ok (.if_icmp .ne 7, 3) := by decide +kernel
theorem dX5_property_88 : decode cX5_property 88 = .ok (.iconst 1, 1) := by decide +kernel
theorem dX5_property_89 : decode cX5_property 89 = .ok (.goto 4, 3) := by decide +kernel
theorem dX5_property_92 : decode cX5_property 92 = .ok (.iconst 0, 1) := by decide +kernel
theorem dX5_property_93 : decode cX5_property 93 = .ok (.ireturn, 1) := by decide +kernel
theorem dX6_init_0 : decode cX6_init 0 = .ok (.aload_n 0, 1) := by decide +kernel
theorem dX6_init_1 : decode cX6_init 1 = .ok (.invokespecial 1, 3) := by decide +kernel
theorem dX6_init_4 : decode cX6_init 4 = .ok (.return_, 1) := by decide +kernel
set_option maxRecDepth 20000 in
theorem ggX6_read_X8_restart : GoodIn wsX6_read wsX8_restart := goodIn_r _ [7, 8, 9, 10, 11, 104, 105, 106, 107, 108, 109] (by decide +kernel) (by decide +kernel)
set_option maxRecDepth 20000 in
theorem gX6_read_X8_restart : GoodIn wsX6_read (wsV RX6 7 RX8 yX8_restart wsX8_restart) := goodIn_app (goodIn_of _ (by decide +kernel)) ggX6_read_X8_restart
set_option maxRecDepth 20000 in
theorem ggX6_read_X8_readNumber : GoodIn wsX6_read wsX8_readNumber := goodIn_r _ [15, 8, 11, 10, 16, 17, 18, 6, 19, 20, 21, 22, 23, 24, 25, 26, 27, 28, 29, 30, 31, 32, 33, 34, 35, 36, 37, 38, 39, 40, 9, 41, 42, 43, 44, 45, 46, 47, 48, 104, 105, 106, 107, 108, 109] (by decide +kernel) (by decide +kernel)
set_option maxRecDepth 20000 in
theorem gX6_read_X8_readNumber : GoodIn wsX6_read (wsV RX6 12 RX8 yX8_readNumber wsX8_readNumber) := goodIn_app (goodIn_of _ (by decide +kernel)) ggX6_read_X8_readNumber
set_option maxRecDepth 20000 in
theorem ggX6_read_X6_lookAtChapter : GoodIn wsX6_read wsX6_lookAtChapter := goodIn_r _ [53, 54, 55, 56, 57, 58, 59, 60, 61, 62, 63, 64, 65, 66, 67, 68, 69, 27, 70, 26, 28, 71, 72, 73, 6, 74, 11, 41, 42, 43, 44, 9, 104, 105, 106, 107, 108, 109, 110, 111, 112, 113] (by decide +kernel) (by decide +kernel)
set_option maxRecDepth 20000 in
theorem gX6_read_X6_lookAtChapter : GoodIn wsX6_read (wsV RX6 15 RX6 yX6_lookAtChapter wsX6_lookAtChapter) := goodIn_app (goodIn_of _ (by decide +kernel)) ggX6_read_X6_lookAtChapter
set_option maxRecDepth 20000 in
theorem ggX6_read_X8_skip : GoodIn wsX6_read wsX8_skip := goodIn_r _ [78, 8, 29, 30, 31, 6, 32, 33, 34, 35, 36, 24, 37, 38, 39, 40, 9, 20, 21, 22, 23, 25, 41, 42, 43, 44, 104, 105, 106, 107, 108, 109] (by decide +kernel) (by decide +kernel)
set_option maxRecDepth 20000 in
theorem gX6_read_X8_skip : GoodIn wsX6_read (wsV RX6 21 RX8 yX8_skip wsX8_skip) := goodIn_app (goodIn_of _ (by decide +kernel)) ggX6_read_X8_skip
set_option maxRecDepth 20000 in
theorem ggX6_read_X6_lookAtVerse : GoodIn wsX6_read wsX6_lookAtVerse := goodIn_r _ [82, 83, 84, 85, 57, 86, 87, 88, 89, 90, 59, 64, 69, 27, 70, 26, 28, 91, 92, 93, 94, 71, 72, 73, 6, 74, 11, 41, 42, 43, 44, 9, 104, 105, 106, 107, 108, 109, 110, 111, 112, 113] (by decide +kernel) (by decide +kernel)
set_option maxRecDepth 20000 in
theorem gX6_read_X6_lookAtVerse : GoodIn wsX6_read (wsV RX6 25 RX6 yX6_lookAtVerse wsX6_lookAtVerse) := goodIn_app (goodIn_of _ (by decide +kernel)) ggX6_read_X6_lookAtVerse
set_option maxRecDepth 20000 in
theorem ggX6_read_X8_goesOn : GoodIn wsX6_read wsX8_goesOn := goodIn_r _ [36, 8, 24, 37, 38, 39, 6, 40, 9, 104, 105, 106, 107, 108, 109] (by decide +kernel) (by decide +kernel)
set_option maxRecDepth 20000 in
theorem gX6_read_X8_goesOn : GoodIn wsX6_read (wsV RX6 36 RX8 yX8_goesOn wsX8_goesOn) := goodIn_app (goodIn_of _ (by decide +kernel)) ggX6_read_X8_goesOn
set_option maxRecDepth 20000 in
theorem ggX6_read_X6_readLast : GoodIn wsX6_read wsX6_readLast := goodIn_r _ [99, 1, 2, 12, 13, 14, 6, 15, 8, 11, 10, 16, 17, 18, 19, 20, 21, 22, 23, 24, 25, 26, 27, 28, 29, 30, 31, 32, 33, 34, 35, 36, 37, 38, 39, 40, 9, 41, 42, 43, 44, 45, 46, 47, 48, 100, 49, 50, 51, 52, 53, 54, 55, 56, 57, 58, 59, 60, 61, 62, 63, 64, 65, 66, 67, 68, 69, 70, 71, 72, 73, 74, 75, 76, 77, 78, 79, 80, 81, 82, 83, 84, 85, 86, 87, 88, 89, 90, 91, 92, 93, 94, 102, 103, 104, 105, 106, 107, 108, 109, 110, 111, 112, 113] (by decide +kernel) (by decide +kernel)
set_option maxRecDepth 20000 in
theorem gX6_read_X6_readLast : GoodIn wsX6_read (wsV RX6 40 RX6 yX6_readLast wsX6_readLast) := goodIn_app (goodIn_of _ (by decide +kernel)) ggX6_read_X6_readLast
set_option maxRecDepth 20000 in
theorem ggX6_read_X8_failAt : GoodIn wsX6_read wsX8_failAt := goodIn_r _ [44, 9, 104, 105, 106, 107, 108, 109] (by decide +kernel) (by decide +kernel)
set_option maxRecDepth 20000 in
theorem gX6_read_X8_failAt : GoodIn wsX6_read (wsV RX6 47 RX8 yX8_failAt wsX8_failAt) := goodIn_app (goodIn_of _ (by decide +kernel)) ggX6_read_X8_failAt
theorem dX6_read_0 : decode cX6_read 0 = .ok (.aload_n 1, 1) := by decide +kernel
theorem dX6_read_1 : decode cX6_read 1 = .ok (.invokevirtual 7, 3) := by decide +kernel
theorem dX6_read_4 : decode cX6_read 4 = .ok (.aload_n 1, 1) := by decide +kernel
theorem dX6_read_5 : decode cX6_read 5 = .ok (.invokevirtual 12, 3) := by decide +kernel
theorem dX6_read_8 : decode cX6_read 8 = .ok (.aload_n 0, 1) := by decide +kernel
theorem dX6_read_9 : decode cX6_read 9 = .ok (.aload_n 1, 1) := by decide +kernel
theorem dX6_read_10 : decode cX6_read 10 = .ok (.aload_n 2, 1) := by decide +kernel
theorem dX6_read_11 : decode cX6_read 11 = .ok (.iconst 1, 1) := by decide +kernel
theorem dX6_read_12 : decode cX6_read 12 = .ok (.invokevirtual 15, 3) := by decide +kernel
theorem dX6_read_15 : decode cX6_read 15 = .ok (.istore_n 3, 1) := by decide +kernel
theorem dX6_read_16 : decode cX6_read 16 = .ok (.aload_n 1, 1) := by decide +kernel
theorem dX6_read_17 : decode cX6_read 17 = .ok (.bipush 58, 2) := by decide +kernel
theorem dX6_read_19 : decode cX6_read 19 = .ok (.invokevirtual 21, 3) := by decide +kernel
theorem dX6_read_22 : decode cX6_read 22 = .ok (.aload_n 1, 1) := by decide +kernel
theorem dX6_read_23 : decode cX6_read 23 = .ok (.invokevirtual 12, 3) := by decide +kernel
theorem dX6_read_26 : decode cX6_read 26 = .ok (.aload_n 0, 1) := by decide +kernel
theorem dX6_read_27 : decode cX6_read 27 = .ok (.aload_n 0, 1) := by decide +kernel
theorem dX6_read_28 : decode cX6_read 28 = .ok (.aload_n 1, 1) := by decide +kernel
theorem dX6_read_29 : decode cX6_read 29 = .ok (.aload_n 2, 1) := by decide +kernel
theorem dX6_read_30 : decode cX6_read 30 = .ok (.iload_n 3, 1) := by decide +kernel
theorem dX6_read_31 : decode cX6_read 31 = .ok (.iconst 0, 1) := by decide +kernel
theorem dX6_read_32 : decode cX6_read 32 = .ok (.invokevirtual 25, 3) := by decide +kernel
theorem dX6_read_35 : decode cX6_read 35 = .ok (.putfield 29, 3) := by decide +kernel
theorem dX6_read_38 : decode cX6_read 38 = .ok (.aload_n 0, 1) := by decide +kernel
theorem dX6_read_39 : decode cX6_read 39 = .ok (.aload_n 0, 1) := by decide +kernel
theorem dX6_read_40 : decode cX6_read 40 = .ok (.getfield 29, 3) := by decide +kernel
theorem dX6_read_43 : decode cX6_read 43 = .ok (.putfield 33, 3) := by decide +kernel
theorem dX6_read_46 : decode cX6_read 46 = .ok (.aload_n 1, 1) := by decide +kernel
theorem dX6_read_47 : decode cX6_read 47 = .ok (.invokevirtual 36, 3) := by decide +kernel
theorem dX6_read_50 : decode cX6_read 50 = .ok (.ifCond .eq 16, 3) := by decide +kernel
theorem dX6_read_53 : decode cX6_read 53 = .ok (.aload_n 1, 1) := by decide +kernel
theorem dX6_read_54 : decode cX6_read 54 = .ok (.bipush 45, 2) := by decide +kernel
theorem dX6_read_56 : decode cX6_read 56 = .ok (.invokevirtual 21, 3) := by decide +kernel
theorem dX6_read_59 : decode cX6_read 59 = .ok (.aload_n 0, 1) := by decide +kernel
theorem dX6_read_60 : decode cX6_read 60 = .ok (.aload_n 1, 1) := by decide +kernel
theorem dX6_read_61 : decode cX6_read 61 = .ok (.aload_n 2, 1) := by decide +kernel
theorem dX6_read_62 : decode cX6_read 62 = .ok (.iload_n 3, 1) := by decide +kernel
theorem dX6_read_63 : decode cX6_read 63 = .ok (.invokevirtual 40, 3) := by decide +kernel
theorem dX6_read_66 : decode cX6_read 66 = .ok (.aload_n 1, 1) := by decide +kernel
theorem dX6_read_67 : decode cX6_read 67 = .ok (.invokevirtual 36, 3) := by decide +kernel
theorem dX6_read_70 : decode cX6_read 70 = .ok (.ifCond .eq 11, 3) := by decide +kernel
theorem dX6_read_73 : decode cX6_read 73 = .ok (.aload_n 1, 1) := by decide +kernel
theorem dX6_read_74 : decode cX6_read 74 = .ok (.aload_n 1, 1) := by decide +kernel
theorem dX6_read_75 : decode cX6_read 75 = .ok (.getfield 44, 3) := by decide +kernel
theorem dX6_read_78 : decode cX6_read 78 = .ok (.invokevirtual 47, 3) := by decide +kernel
theorem dX6_read_81 : decode cX6_read 81 = .ok (.aload_n 1, 1) := by decide +kernel
theorem dX6_read_82 : decode cX6_read 82 = .ok (.getfield 51, 3) := by decide +kernel
theorem dX6_read_85 : decode cX6_read 85 = .ok (.ireturn, 1) := by decide +kernel
set_option maxRecDepth 20000 in
theorem ggX6_readLast_X8_readNumber : GoodIn wsX6_readLast wsX8_readNumber := goodIn_r _ [7, 8, 9, 10, 11, 12, 13, 6, 14, 15, 16, 17, 18, 19, 20, 21, 22, 23, 24, 25, 26, 27, 28, 29, 30, 31, 32, 33, 34, 35, 36, 37, 38, 39, 40, 41, 42, 43, 44, 94, 95, 96, 97, 98, 99] (by decide +kernel) (by decide +kernel)
set_option maxRecDepth 20000 in
theorem gX6_readLast_X8_readNumber : GoodIn wsX6_readLast (wsV RX6 12 RX8 yX8_readNumber wsX8_readNumber) := goodIn_app (goodIn_of _ (by decide +kernel)) ggX6_readLast_X8_readNumber
set_option maxRecDepth 20000 in
theorem ggX6_readLast_X8_stands : GoodIn wsX6_readLast wsX8_stands := goodIn_r _ [27, 8, 28, 29, 30, 6, 31, 19, 32, 33, 34, 35, 36, 15, 16, 17, 18, 20, 94, 95, 96, 97, 98, 99] (by decide +kernel) (by decide +kernel)
set_option maxRecDepth 20000 in
theorem gX6_readLast_X8_stands : GoodIn wsX6_readLast (wsV RX6 54 RX8 yX8_stands wsX8_stands) := goodIn_app (goodIn_of _ (by decide +kernel)) ggX6_readLast_X8_stands
set_option maxRecDepth 20000 in
theorem ggX6_readLast_X6_lookAtChapter : GoodIn wsX6_readLast wsX6_lookAtChapter := goodIn_r _ [50, 51, 52, 53, 54, 55, 56, 57, 58, 59, 60, 61, 62, 63, 64, 65, 66, 22, 67, 21, 23, 68, 69, 70, 6, 71, 9, 37, 38, 39, 40, 36, 94, 95, 96, 97, 98, 99, 100, 101, 102, 103] (by decide +kernel) (by decide +kernel)
set_option maxRecDepth 20000 in
theorem gX6_readLast_X6_lookAtChapter : GoodIn wsX6_readLast (wsV RX6 15 RX6 yX6_lookAtChapter wsX6_lookAtChapter) := goodIn_app (goodIn_of _ (by decide +kernel)) ggX6_readLast_X6_lookAtChapter
set_option maxRecDepth 20000 in
theorem ggX6_readLast_X8_skip : GoodIn wsX6_readLast wsX8_skip := goodIn_r _ [75, 8, 24, 25, 26, 6, 27, 28, 29, 30, 31, 19, 32, 33, 34, 35, 36, 15, 16, 17, 18, 20, 37, 38, 39, 40, 94, 95, 96, 97, 98, 99] (by decide +kernel) (by decide +kernel)
set_option maxRecDepth 20000 in
theorem gX6_readLast_X8_skip : GoodIn wsX6_readLast (wsV RX6 21 RX8 yX8_skip wsX8_skip) := goodIn_app (goodIn_of _ (by decide +kernel)) ggX6_readLast_X8_skip
set_option maxRecDepth 20000 in
theorem ggX6_readLast_X6_lookAtVerse : GoodIn wsX6_readLast wsX6_lookAtVerse := goodIn_r _ [79, 80, 81, 82, 54, 83, 84, 85, 86, 87, 56, 61, 66, 22, 67, 21, 23, 88, 89, 90, 91, 68, 69, 70, 6, 71, 9, 37, 38, 39, 40, 36, 94, 95, 96, 97, 98, 99, 100, 101, 102, 103] (by decide +kernel) (by decide +kernel)
set_option maxRecDepth 20000 in
theorem gX6_readLast_X6_lookAtVerse : GoodIn wsX6_readLast (wsV RX6 25 RX6 yX6_lookAtVerse wsX6_lookAtVerse) := goodIn_app (goodIn_of _ (by decide +kernel)) ggX6_readLast_X6_lookAtVerse
theorem dX6_readLast_0 : decode cX6_readLast 0 = .ok (.aload_n 1, 1) := by decide +kernel
theorem dX6_readLast_1 : decode cX6_readLast 1 = .ok (.invokevirtual 12, 3) := by decide +kernel
theorem dX6_readLast_4 : decode cX6_readLast 4 = .ok (.iload_n 3, 1) := by decide +kernel
theorem dX6_readLast_5 : decode cX6_readLast 5 = .ok (.istore 4, 2) := by decide +kernel
theorem dX6_readLast_7 : decode cX6_readLast 7 = .ok (.aload_n 1, 1) := by decide +kernel
theorem dX6_readLast_8 : decode cX6_readLast 8 = .ok (.bipush 58, 2) := by decide +kernel
theorem dX6_readLast_10 : decode cX6_readLast 10 = .ok (.invokevirtual 54, 3) := by decide +kernel
theorem dX6_readLast_13 : decode cX6_readLast 13 = .ok (.ifCond .eq 22, 3) := by decide +kernel
theorem dX6_readLast_16 : decode cX6_readLast 16 = .ok (.aload_n 0, 1) := by decide +kernel
theorem dX6_readLast_17 : decode cX6_readLast 17 = .ok (.aload_n 1, 1) := by decide +kernel
theorem dX6_readLast_18 : decode cX6_readLast 18 = .ok (.aload_n 2, 1) := by decide +kernel
theorem dX6_readLast_19 : decode cX6_readLast 19 = .ok (.iload_n 3, 1) := by decide +kernel
theorem dX6_readLast_20 : decode cX6_readLast 20 = .ok (.invokevirtual 15, 3) := by decide +kernel
theorem dX6_readLast_23 : decode cX6_readLast 23 = .ok (.istore 4, 2) := by decide +kernel
theorem dX6_readLast_25 : decode cX6_readLast 25 = .ok (.aload_n 1, 1) := by decide +kernel
theorem dX6_readLast_26 : decode cX6_readLast 26 = .ok (.bipush 58, 2) := by decide +kernel
theorem dX6_readLast_28 : decode cX6_readLast 28 = .ok (.invokevirtual 21, 3) := by decide +kernel
theorem dX6_readLast_31 : decode cX6_readLast 31 = .ok (.aload_n 1, 1) := by decide +kernel
theorem dX6_readLast_32 : decode cX6_readLast 32 = .ok (.invokevirtual 12, 3) := by decide +kernel
theorem dX6_readLast_35 : decode cX6_readLast 35 = .ok (.aload_n 0, 1) := by decide +kernel
theorem dX6_readLast_36 : decode cX6_readLast 36 = .ok (.aload_n 0, 1) := by decide +kernel
theorem dX6_readLast_37 : decode cX6_readLast 37 = .ok (.aload_n 1, 1) := by decide +kernel
theorem dX6_readLast_38 : decode cX6_readLast 38 = .ok (.aload_n 2, 1) := by decide +kernel
theorem dX6_readLast_39 : decode cX6_readLast 39 = .ok (.iload 4, 2) := by decide +kernel
theorem dX6_readLast_41 : decode cX6_readLast 41 = .ok (.aload_n 0, 1) := by decide +kernel
theorem dX6_readLast_42 : decode cX6_readLast 42 = .ok (.getfield 29, 3) := by decide +kernel
theorem dX6_readLast_45 : decode cX6_readLast 45 = .ok (.invokevirtual 25, 3) := by decide +kernel
theorem dX6_readLast_48 : decode cX6_readLast 48 = .ok (.putfield 33, 3) := by decide +kernel
theorem dX6_readLast_51 : decode cX6_readLast 51 = .ok (.return_, 1) := by decide +kernel
set_option maxRecDepth 20000 in
theorem ggX6_lookAtChapter_X0_chapterTotal : GoodIn wsX6_lookAtChapter wsX0_chapterTotal := goodIn_r _ [5, 6, 7, 8, 9, 4, 10, 11, 12, 13, 14, 15, 16, 17, 18, 38, 39, 40, 41] (by decide +kernel) (by decide +kernel)
set_option maxRecDepth 20000 in
theorem gX6_lookAtChapter_X0_chapterTotal : GoodIn wsX6_lookAtChapter (wsV RX6 61 RX0 yX0_chapterTotal wsX0_chapterTotal) := goodIn_app (goodIn_of _ (by decide +kernel)) ggX6_lookAtChapter_X0_chapterTotal
set_option maxRecDepth 20000 in
theorem ggX6_lookAtChapter_X9_isWithin : GoodIn wsX6_lookAtChapter wsX9_isWithin := goodIn_r _ [20] (by decide +kernel) (by decide +kernel)
set_option maxRecDepth 20000 in
theorem gX6_lookAtChapter_X9_isWithin_n67 : GoodIn wsX6_lookAtChapter (wsX9_isWithin) := ggX6_lookAtChapter_X9_isWithin
set_option maxRecDepth 20000 in
theorem ggX6_lookAtChapter_X8_failAtNumber : GoodIn wsX6_lookAtChapter wsX8_failAtNumber := goodIn_r _ [25, 26, 27, 28, 29, 24, 30, 31, 32, 33, 34, 35, 36, 37] (by decide +kernel) (by decide +kernel)
set_option maxRecDepth 20000 in
theorem gX6_lookAtChapter_X8_failAtNumber : GoodIn wsX6_lookAtChapter (wsV RX6 73 RX8 yX8_failAtNumber wsX8_failAtNumber) := goodIn_app (goodIn_of _ (by decide +kernel)) ggX6_lookAtChapter_X8_failAtNumber
theorem dX6_lookAtChapter_0 : decode cX6_lookAtChapter 0 = .ok (.aload_n 1, 1) := by decide +kernel
theorem dX6_lookAtChapter_1 : decode cX6_lookAtChapter 1 = .ok (.getfield 58, 3) := by decide +kernel
theorem dX6_lookAtChapter_4 : decode cX6_lookAtChapter 4 = .ok (.iload_n 3, 1) := by decide +kernel
theorem dX6_lookAtChapter_5 : decode cX6_lookAtChapter 5 = .ok (.aload_n 2, 1) := by decide +kernel
theorem dX6_lookAtChapter_6 : decode cX6_lookAtChapter 6 = .ok (.invokevirtual 61, 3) := by decide +kernel
theorem dX6_lookAtChapter_9 : decode cX6_lookAtChapter 9 = .ok (.invokestatic 67, 3) := by decide +kernel
theorem dX6_lookAtChapter_12 : decode cX6_lookAtChapter 12 = .ok (.ifCond .ne 7, 3) := by decide +kernel
theorem dX6_lookAtChapter_15 : decode cX6_lookAtChapter 15 = .ok (.aload_n 1, 1) := by decide +kernel
theorem dX6_lookAtChapter_16 : decode cX6_lookAtChapter 16 = .ok (.invokevirtual 73, 3) := by decide +kernel
theorem dX6_lookAtChapter_19 : decode cX6_lookAtChapter 19 = .ok (.aload_n 1, 1) := by decide +kernel
theorem dX6_lookAtChapter_20 : decode cX6_lookAtChapter 20 = .ok (.getfield 58, 3) := by decide +kernel
theorem dX6_lookAtChapter_23 : decode cX6_lookAtChapter 23 = .ok (.ireturn, 1) := by decide +kernel
set_option maxRecDepth 20000 in
theorem ggX6_lookAtVerse_X0_find : GoodIn wsX6_lookAtVerse wsX0_find := goodIn_r _ [5, 6, 7, 8, 4, 9, 10, 11, 12, 13, 14, 15, 16, 17, 18, 19, 20, 38, 39, 40, 41] (by decide +kernel) (by decide +kernel)
set_option maxRecDepth 20000 in
theorem gX6_lookAtVerse_X0_find : GoodIn wsX6_lookAtVerse (wsV RX6 76 RX0 yX0_find wsX0_find) := goodIn_app (goodIn_of _ (by decide +kernel)) ggX6_lookAtVerse_X0_find
set_option maxRecDepth 20000 in
theorem ggX6_lookAtVerse_X8_failAtNumber : GoodIn wsX6_lookAtVerse wsX8_failAtNumber := goodIn_r _ [25, 26, 27, 28, 29, 24, 30, 31, 32, 33, 34, 35, 36, 37] (by decide +kernel) (by decide +kernel)
set_option maxRecDepth 20000 in
theorem gX6_lookAtVerse_X8_failAtNumber : GoodIn wsX6_lookAtVerse (wsV RX6 73 RX8 yX8_failAtNumber wsX8_failAtNumber) := goodIn_app (goodIn_of _ (by decide +kernel)) ggX6_lookAtVerse_X8_failAtNumber
theorem dX6_lookAtVerse_0 : decode cX6_lookAtVerse 0 = .ok (.aload_n 2, 1) := by decide +kernel
theorem dX6_lookAtVerse_1 : decode cX6_lookAtVerse 1 = .ok (.iload_n 3, 1) := by decide +kernel
theorem dX6_lookAtVerse_2 : decode cX6_lookAtVerse 2 = .ok (.aload_n 1, 1) := by decide +kernel
theorem dX6_lookAtVerse_3 : decode cX6_lookAtVerse 3 = .ok (.getfield 58, 3) := by decide +kernel
theorem dX6_lookAtVerse_6 : decode cX6_lookAtVerse 6 = .ok (.invokevirtual 76, 3) := by decide +kernel
theorem dX6_lookAtVerse_9 : decode cX6_lookAtVerse 9 = .ok (.istore 5, 2) := by decide +kernel
theorem dX6_lookAtVerse_11 : decode cX6_lookAtVerse 11 = .ok (.iload 5, 2) := by decide +kernel
theorem dX6_lookAtVerse_13 : decode cX6_lookAtVerse 13 = .ok (.iload 4, 2) := by decide +kernel
theorem dX6_lookAtVerse_15 : decode cX6_lookAtVerse 15 = .ok (.if_icmp .ge 7, 3) := by decide +kernel
theorem dX6_lookAtVerse_18 : decode cX6_lookAtVerse 18 = .ok (.aload_n 1, 1) := by decide +kernel
theorem dX6_lookAtVerse_19 : decode cX6_lookAtVerse 19 = .ok (.invokevirtual 73, 3) := by decide +kernel
theorem dX6_lookAtVerse_22 : decode cX6_lookAtVerse 22 = .ok (.iload 5, 2) := by decide +kernel
theorem dX6_lookAtVerse_24 : decode cX6_lookAtVerse 24 = .ok (.ireturn, 1) := by decide +kernel
set_option maxRecDepth 20000 in
theorem ggX7_init_X0_init : GoodIn wsX7_init wsX0_init := goodIn_r _ [14, 15, 2, 3, 16, 17, 18, 19, 25, 26, 27, 28] (by decide +kernel) (by decide +kernel)
set_option maxRecDepth 20000 in
theorem gX7_init_X0_init_n11 : GoodIn wsX7_init (wsX0_init) := ggX7_init_X0_init
set_option maxRecDepth 20000 in
theorem ggX7_init_X1_init : GoodIn wsX7_init wsX1_init := goodIn_r _ [21, 22, 2, 3, 16, 23, 24, 32, 33, 34] (by decide +kernel) (by decide +kernel)
set_option maxRecDepth 20000 in
theorem gX7_init_X1_init_n23 : GoodIn wsX7_init (wsX1_init) := ggX7_init_X1_init
theorem dX7_init_0 : decode cX7_init 0 = .ok (.aload_n 0, 1) := by decide +kernel
theorem dX7_init_1 : decode cX7_init 1 = .ok (.invokespecial 3, 3) := by decide +kernel
theorem dX7_init_4 : decode cX7_init 4 = .ok (.aload_n 0, 1) := by decide +kernel
theorem dX7_init_5 : decode cX7_init 5 = .ok (.new 9, 3) := by decide +kernel
theorem dX7_init_8 : decode cX7_init 8 = .ok (.dup, 1) := by decide +kernel
theorem dX7_init_9 : decode cX7_init 9 = .ok (.invokespecial 11, 3) := by decide +kernel
theorem dX7_init_12 : decode cX7_init 12 = .ok (.putfield 12, 3) := by decide +kernel
theorem dX7_init_15 : decode cX7_init 15 = .ok (.aload_n 0, 1) := by decide +kernel
theorem dX7_init_16 : decode cX7_init 16 = .ok (.new 9, 3) := by decide +kernel
theorem dX7_init_19 : decode cX7_init 19 = .ok (.dup, 1) := by decide +kernel
theorem dX7_init_20 : decode cX7_init 20 = .ok (.invokespecial 11, 3) := by decide +kernel
theorem dX7_init_23 : decode cX7_init 23 = .ok (.putfield 18, 3) := by decide +kernel
theorem dX7_init_26 : decode cX7_init 26 = .ok (.aload_n 0, 1) := by decide +kernel
theorem dX7_init_27 : decode cX7_init 27 = .ok (.new 21, 3) := by decide +kernel
theorem dX7_init_30 : decode cX7_init 30 = .ok (.dup, 1) := by decide +kernel
theorem dX7_init_31 : decode cX7_init 31 = .ok (.invokespecial 23, 3) := by decide +kernel
theorem dX7_init_34 : decode cX7_init 34 = .ok (.putfield 24, 3) := by decide +kernel
theorem dX7_init_37 : decode cX7_init 37 = .ok (.return_, 1) := by decide +kernel
theorem dX7_bookOf_0 : decode cX7_bookOf 0 = .ok (.iload_n 1, 1) := by decide +kernel
theorem dX7_bookOf_1 : decode cX7_bookOf 1 = .ok (.ifCond .ne 10, 3) := by decide +kernel
theorem dX7_bookOf_4 : decode cX7_bookOf 4 = .ok (.aload_n 0, 1) := by decide +kernel
theorem dX7_bookOf_5 : decode cX7_bookOf 5 = .ok (.getfield 12, 3) := by decide +kernel
theorem dX7_bookOf_8 : decode cX7_bookOf 8 = .ok (.goto 7, 3) := by decide +kernel
theorem dX7_bookOf_11 : decode cX7_bookOf 11 = .ok (.aload_n 0, 1) := by decide +kernel
theorem dX7_bookOf_12 : decode cX7_bookOf 12 = .ok (.getfield 18, 3) := by decide +kernel
theorem dX7_bookOf_15 : decode cX7_bookOf 15 = .ok (.areturn, 1) := by decide +kernel
set_option maxRecDepth 20000 in
theorem ggX7_copyFrom_X0_copyFrom : GoodIn wsX7_copyFrom wsX0_copyFrom := goodIn_r _ [8, 9, 10, 11, 12, 13, 14, 15, 16, 17, 18, 19, 20, 21, 22, 23, 35, 36, 37, 38] (by decide +kernel) (by decide +kernel)
set_option maxRecDepth 20000 in
theorem gX7_copyFrom_X0_copyFrom : GoodIn wsX7_copyFrom (wsV RX7 28 RX0 yX0_copyFrom wsX0_copyFrom) := goodIn_app (goodIn_of _ (by decide +kernel)) ggX7_copyFrom_X0_copyFrom
set_option maxRecDepth 20000 in
theorem ggX7_copyFrom_X1_copyFrom : GoodIn wsX7_copyFrom wsX1_copyFrom := goodIn_r _ [28, 29, 30, 31, 13, 14, 15, 16, 17, 18, 19, 20, 21, 22, 23, 39, 40, 41] (by decide +kernel) (by decide +kernel)
set_option maxRecDepth 20000 in
theorem gX7_copyFrom_X1_copyFrom : GoodIn wsX7_copyFrom (wsV RX7 32 RX1 yX1_copyFrom wsX1_copyFrom) := goodIn_app (goodIn_of _ (by decide +kernel)) ggX7_copyFrom_X1_copyFrom
theorem dX7_copyFrom_0 : decode cX7_copyFrom 0 = .ok (.aload_n 0, 1) := by decide +kernel
theorem dX7_copyFrom_1 : decode cX7_copyFrom 1 = .ok (.getfield 12, 3) := by decide +kernel
theorem dX7_copyFrom_4 : decode cX7_copyFrom 4 = .ok (.aload_n 1, 1) := by decide +kernel
theorem dX7_copyFrom_5 : decode cX7_copyFrom 5 = .ok (.getfield 12, 3) := by decide +kernel
theorem dX7_copyFrom_8 : decode cX7_copyFrom 8 = .ok (.invokevirtual 28, 3) := by decide +kernel
theorem dX7_copyFrom_11 : decode cX7_copyFrom 11 = .ok (.aload_n 0, 1) := by decide +kernel
theorem dX7_copyFrom_12 : decode cX7_copyFrom 12 = .ok (.getfield 18, 3) := by decide +kernel
theorem dX7_copyFrom_15 : decode cX7_copyFrom 15 = .ok (.aload_n 1, 1) := by decide +kernel
theorem dX7_copyFrom_16 : decode cX7_copyFrom 16 = .ok (.getfield 18, 3) := by decide +kernel
theorem dX7_copyFrom_19 : decode cX7_copyFrom 19 = .ok (.invokevirtual 28, 3) := by decide +kernel
theorem dX7_copyFrom_22 : decode cX7_copyFrom 22 = .ok (.aload_n 0, 1) := by decide +kernel
theorem dX7_copyFrom_23 : decode cX7_copyFrom 23 = .ok (.getfield 24, 3) := by decide +kernel
theorem dX7_copyFrom_26 : decode cX7_copyFrom 26 = .ok (.aload_n 1, 1) := by decide +kernel
theorem dX7_copyFrom_27 : decode cX7_copyFrom 27 = .ok (.getfield 24, 3) := by decide +kernel
theorem dX7_copyFrom_30 : decode cX7_copyFrom 30 = .ok (.invokevirtual 32, 3) := by decide +kernel
theorem dX7_copyFrom_33 : decode cX7_copyFrom 33 = .ok (.return_, 1) := by decide +kernel
set_option maxRecDepth 20000 in
theorem ggX7_swapBooks_X1_swapBooks : GoodIn wsX7_swapBooks wsX1_swapBooks := goodIn_r _ [8, 9, 10, 14, 15, 16] (by decide +kernel) (by decide +kernel)
set_option maxRecDepth 20000 in
theorem gX7_swapBooks_X1_swapBooks : GoodIn wsX7_swapBooks (wsV RX7 35 RX1 yX1_swapBooks wsX1_swapBooks) := goodIn_app (goodIn_of _ (by decide +kernel)) ggX7_swapBooks_X1_swapBooks
theorem dX7_swapBooks_0 : decode cX7_swapBooks 0 = .ok (.aload_n 0, 1) := by decide +kernel
theorem dX7_swapBooks_1 : decode cX7_swapBooks 1 = .ok (.getfield 12, 3) := by decide +kernel
theorem dX7_swapBooks_4 : decode cX7_swapBooks 4 = .ok (.astore_n 1, 1) := by decide +kernel
theorem dX7_swapBooks_5 : decode cX7_swapBooks 5 = .ok (.aload_n 0, 1) := by decide +kernel
theorem dX7_swapBooks_6 : decode cX7_swapBooks 6 = .ok (.aload_n 0, 1) := by decide +kernel
theorem dX7_swapBooks_7 : decode cX7_swapBooks 7 = .ok (.getfield 18, 3) := by decide +kernel
theorem dX7_swapBooks_10 : decode cX7_swapBooks 10 = .ok (.putfield 12, 3) := by decide +kernel
theorem dX7_swapBooks_13 : decode cX7_swapBooks 13 = .ok (.aload_n 0, 1) := by decide +kernel
theorem dX7_swapBooks_14 : decode cX7_swapBooks 14 = .ok (.aload_n 1, 1) := by decide +kernel
theorem dX7_swapBooks_15 : decode cX7_swapBooks 15 = .ok (.putfield 18, 3) := by decide +kernel
theorem dX7_swapBooks_18 : decode cX7_swapBooks 18 = .ok (.aload_n 0, 1) := by decide +kernel
theorem dX7_swapBooks_19 : decode cX7_swapBooks 19 = .ok (.getfield 24, 3) := by decide +kernel
theorem dX7_swapBooks_22 : decode cX7_swapBooks 22 = .ok (.invokevirtual 35, 3) := by decide +kernel
theorem dX7_swapBooks_25 : decode cX7_swapBooks 25 = .ok (.return_, 1) := by decide +kernel
theorem dX8_init_0 : decode cX8_init 0 = .ok (.aload_n 0, 1) := by decide +kernel
theorem dX8_init_1 : decode cX8_init 1 = .ok (.invokespecial 3, 3) := by decide +kernel
theorem dX8_init_4 : decode cX8_init 4 = .ok (.aload_n 0, 1) := by decide +kernel
theorem dX8_init_5 : decode cX8_init 5 = .ok (.bipush 80, 2) := by decide +kernel
theorem dX8_init_7 : decode cX8_init 7 = .ok (.newarray .char, 2) := by decide +kernel
theorem dX8_init_9 : decode cX8_init 9 = .ok (.putfield 9, 3) := by decide +kernel
theorem dX8_init_12 : decode cX8_init 12 = .ok (.return_, 1) := by decide +kernel
theorem dX8_append_0 : decode cX8_append 0 = .ok (.aload_n 0, 1) := by decide +kernel
theorem dX8_append_1 : decode cX8_append 1 = .ok (.getfield 15, 3) := by decide +kernel
theorem dX8_append_4 : decode cX8_append 4 = .ok (.bipush 80, 2) := by decide +kernel
theorem dX8_append_6 : decode cX8_append 6 = .ok (.if_icmp .lt 5, 3) := by decide +kernel
theorem dX8_append_9 : decode cX8_append 9 = .ok (.iconst 0, 1) := by decide +kernel
theorem dX8_append_10 : decode cX8_append 10 = .ok (.ireturn, 1) := by decide +kernel
theorem dX8_append_11 : decode cX8_append 11 = .ok (.aload_n 0, 1) := by decide +kernel
theorem dX8_append_12 : decode cX8_append 12 = .ok (.getfield 9, 3) := by decide +kernel
theorem dX8_append_15 : decode cX8_append 15 = .ok (.aload_n 0, 1) := by decide +kernel
theorem dX8_append_16 : decode cX8_append 16 = .ok (.getfield 15, 3) := by decide +kernel
theorem dX8_append_19 : decode cX8_append 19 = .ok (.iload_n 1, 1) := by decide +kernel
theorem dX8_append_20 : decode cX8_append 20 = .ok (.castore, 1) := by decide +kernel
theorem dX8_append_21 : decode cX8_append 21 = .ok (.aload_n 0, 1) := by decide +kernel
theorem dX8_append_22 : decode cX8_append 22 = .ok (.dup, 1) := by decide +kernel
theorem dX8_append_23 : decode cX8_append 23 = .ok (.getfield 15, 3) := by decide +kernel
theorem dX8_append_26 : decode cX8_append 26 = .ok (.iconst 1, 1) := by decide +kernel
theorem dX8_append_27 : decode cX8_append 27 = .ok (.iadd, 1) := by decide +kernel
theorem dX8_append_28 : decode cX8_append 28 = .ok (.putfield 15, 3) := by decide +kernel
theorem dX8_append_31 : decode cX8_append 31 = .ok (.iconst 1, 1) := by decide +kernel
theorem dX8_append_32 : decode cX8_append 32 = .ok (.ireturn, 1) := by decide +kernel
theorem dX8_clear_0 : decode cX8_clear 0 = .ok (.aload_n 0, 1) := by decide +kernel
theorem dX8_clear_1 : decode cX8_clear 1 = .ok (.iconst 0, 1) := by decide +kernel
theorem dX8_clear_2 : decode cX8_clear 2 = .ok (.putfield 15, 3) := by decide +kernel
theorem dX8_clear_5 : decode cX8_clear 5 = .ok (.return_, 1) := by decide +kernel
theorem dX8_restart_0 : decode cX8_restart 0 = .ok (.aload_n 0, 1) := by decide +kernel
theorem dX8_restart_1 : decode cX8_restart 1 = .ok (.iconst 0, 1) := by decide +kernel
theorem dX8_restart_2 : decode cX8_restart 2 = .ok (.putfield 19, 3) := by decide +kernel
theorem dX8_restart_5 : decode cX8_restart 5 = .ok (.aload_n 0, 1) := by decide +kernel
theorem dX8_restart_6 : decode cX8_restart 6 = .ok (.iconst (-1), 1) := by decide +kernel
theorem dX8_restart_7 : decode cX8_restart 7 = .ok (.putfield 22, 3) := by decide +kernel
theorem dX8_restart_10 : decode cX8_restart 10 = .ok (.aload_n 0, 1) := by decide +kernel
theorem dX8_restart_11 : decode cX8_restart 11 = .ok (.iconst 0, 1) := by decide +kernel
theorem dX8_restart_12 : decode cX8_restart 12 = .ok (.putfield 25, 3) := by decide +kernel
theorem dX8_restart_15 : decode cX8_restart 15 = .ok (.aload_n 0, 1) := by decide +kernel
theorem dX8_restart_16 : decode cX8_restart 16 = .ok (.iconst 0, 1) := by decide +kernel
theorem dX8_restart_17 : decode cX8_restart 17 = .ok (.putfield 28, 3) := by decide +kernel
theorem dX8_restart_20 : decode cX8_restart 20 = .ok (.return_, 1) := by decide +kernel
theorem dX8_hasFault_0 : decode cX8_hasFault 0 = .ok (.aload_n 0, 1) := by decide +kernel
theorem dX8_hasFault_1 : decode cX8_hasFault 1 = .ok (.getfield 22, 3) := by decide +kernel
theorem dX8_hasFault_4 : decode cX8_hasFault 4 = .ok (.iconst (-1), 1) := by decide +kernel
theorem dX8_hasFault_5 : decode cX8_hasFault 5 = .ok (.if_icmp .eq 7, 3) := by decide +kernel
theorem dX8_hasFault_8 : decode cX8_hasFault 8 = .ok (.iconst 1, 1) := by decide +kernel
theorem dX8_hasFault_9 : decode cX8_hasFault 9 = .ok (.goto 4, 3) := by decide +kernel
theorem dX8_hasFault_12 : decode cX8_hasFault 12 = .ok (.iconst 0, 1) := by decide +kernel
theorem dX8_hasFault_13 : decode cX8_hasFault 13 = .ok (.ireturn, 1) := by decide +kernel
set_option maxRecDepth 20000 in
theorem ggX8_goesOn_X8_hasFault : GoodIn wsX8_goesOn wsX8_hasFault := goodIn_r _ [7, 8, 9, 10, 11, 12, 13, 14] (by decide +kernel) (by decide +kernel)
set_option maxRecDepth 20000 in
theorem gX8_goesOn_X8_hasFault : GoodIn wsX8_goesOn (wsV RX8 31 RX8 yX8_hasFault wsX8_hasFault) := goodIn_app (goodIn_of _ (by decide +kernel)) ggX8_goesOn_X8_hasFault
theorem dX8_goesOn_0 : decode cX8_goesOn 0 = .ok (.aload_n 0, 1) := by decide +kernel
theorem dX8_goesOn_1 : decode cX8_goesOn 1 = .ok (.invokevirtual 31, 3) := by decide +kernel
theorem dX8_goesOn_4 : decode cX8_goesOn 4 = .ok (.ifCond .ne 18, 3) := by decide +kernel
theorem dX8_goesOn_7 : decode cX8_goesOn 7 = .ok (.aload_n 0, 1) := by decide +kernel
theorem dX8_goesOn_8 : decode cX8_goesOn 8 = .ok (.getfield 19, 3) := by decide +kernel
theorem dX8_goesOn_11 : decode cX8_goesOn 11 = .ok (.aload_n 0, 1) := by decide +kernel
theorem dX8_goesOn_12 : decode cX8_goesOn 12 = .ok (.getfield 15, 3) := by decide +kernel
theorem dX8_goesOn_15 : decode cX8_goesOn 15 = .ok (.if_icmp .ge 7, 3) := by decide +kernel
theorem dX8_goesOn_18 : decode cX8_goesOn 18 = .ok (.iconst 1, 1) := by decide +kernel
theorem dX8_goesOn_19 : decode cX8_goesOn 19 = .ok (.goto 4, 3) := by decide +kernel
theorem dX8_goesOn_22 : decode cX8_goesOn 22 = .ok (.iconst 0, 1) := by decide +kernel
theorem dX8_goesOn_23 : decode cX8_goesOn 23 = .ok (.ireturn, 1) := by decide +kernel
set_option maxRecDepth 20000 in
theorem ggX8_stands_X8_goesOn : GoodIn wsX8_stands wsX8_goesOn := goodIn_r _ [6, 1, 7, 8, 9, 10, 5, 11, 12, 18, 19, 20, 21, 22, 23] (by decide +kernel) (by decide +kernel)
set_option maxRecDepth 20000 in
theorem gX8_stands_X8_goesOn : GoodIn wsX8_stands (wsV RX8 35 RX8 yX8_goesOn wsX8_goesOn) := goodIn_app (goodIn_of _ (by decide +kernel)) ggX8_stands_X8_goesOn
set_option maxRecDepth 20000 in
theorem ggX8_stands_X8_signAt : GoodIn wsX8_stands wsX8_signAt := goodIn_r _ [16, 7, 17, 18, 19, 20, 21, 22, 23] (by decide +kernel) (by decide +kernel)
set_option maxRecDepth 20000 in
theorem gX8_stands_X8_signAt : GoodIn wsX8_stands (wsV RX8 38 RX8 yX8_signAt wsX8_signAt) := goodIn_app (goodIn_of _ (by decide +kernel)) ggX8_stands_X8_signAt
theorem dX8_stands_0 : decode cX8_stands 0 = .ok (.aload_n 0, 1) := by decide +kernel
theorem dX8_stands_1 : decode cX8_stands 1 = .ok (.invokevirtual 35, 3) := by decide +kernel
theorem dX8_stands_4 : decode cX8_stands 4 = .ok (.ifCond .eq 19, 3) := by decide +kernel
theorem dX8_stands_7 : decode cX8_stands 7 = .ok (.aload_n 0, 1) := by decide +kernel
theorem dX8_stands_8 : decode cX8_stands 8 = .ok (.aload_n 0, 1) := by decide +kernel
theorem dX8_stands_9 : decode cX8_stands 9 = .ok (.getfield 19, 3) := by decide +kernel
theorem dX8_stands_12 : decode cX8_stands 12 = .ok (.invokevirtual 38, 3) := by decide +kernel
theorem dX8_stands_15 : decode cX8_stands 15 = .ok (.iload_n 1, 1) := by decide +kernel
theorem dX8_stands_16 : decode cX8_stands 16 = .ok (.if_icmp .ne 7, 3) := by decide +kernel
theorem dX8_stands_19 : decode cX8_stands 19 = .ok (.iconst 1, 1) := by decide +kernel
theorem dX8_stands_20 : decode cX8_stands 20 = .ok (.goto 4, 3) := by decide +kernel
theorem dX8_stands_23 : decode cX8_stands 23 = .ok (.iconst 0, 1) := by decide +kernel
theorem dX8_stands_24 : decode cX8_stands 24 = .ok (.ireturn, 1) := by decide +kernel
theorem dX8_failAt_0 : decode cX8_failAt 0 = .ok (.aload_n 0, 1) := by decide +kernel
theorem dX8_failAt_1 : decode cX8_failAt 1 = .ok (.getfield 22, 3) := by decide +kernel
theorem dX8_failAt_4 : decode cX8_failAt 4 = .ok (.iconst (-1), 1) := by decide +kernel
theorem dX8_failAt_5 : decode cX8_failAt 5 = .ok (.if_icmp .ne 8, 3) := by decide +kernel
theorem dX8_failAt_8 : decode cX8_failAt 8 = .ok (.aload_n 0, 1) := by decide +kernel
theorem dX8_failAt_9 : decode cX8_failAt 9 = .ok (.iload_n 1, 1) := by decide +kernel
theorem dX8_failAt_10 : decode cX8_failAt 10 = .ok (.putfield 22, 3) := by decide +kernel
theorem dX8_failAt_13 : decode cX8_failAt 13 = .ok (.return_, 1) := by decide +kernel
set_option maxRecDepth 20000 in
theorem ggX8_failAtNumber_X8_failAt : GoodIn wsX8_failAtNumber wsX8_failAt := goodIn_r _ [6, 7, 8, 9, 10, 11, 12, 13] (by decide +kernel) (by decide +kernel)
set_option maxRecDepth 20000 in
theorem gX8_failAtNumber_X8_failAt : GoodIn wsX8_failAtNumber (wsV RX8 42 RX8 yX8_failAt wsX8_failAt) := goodIn_app (goodIn_of _ (by decide +kernel)) ggX8_failAtNumber_X8_failAt
theorem dX8_failAtNumber_0 : decode cX8_failAtNumber 0 = .ok (.aload_n 0, 1) := by decide +kernel
theorem dX8_failAtNumber_1 : decode cX8_failAtNumber 1 = .ok (.aload_n 0, 1) := by decide +kernel
theorem dX8_failAtNumber_2 : decode cX8_failAtNumber 2 = .ok (.getfield 28, 3) := by decide +kernel
theorem dX8_failAtNumber_5 : decode cX8_failAtNumber 5 = .ok (.invokevirtual 42, 3) := by decide +kernel
theorem dX8_failAtNumber_8 : decode cX8_failAtNumber 8 = .ok (.return_, 1) := by decide +kernel
set_option maxRecDepth 20000 in
theorem ggX8_skip_X8_stands : GoodIn wsX8_skip wsX8_stands := goodIn_r _ [6, 1, 7, 8, 9, 5, 10, 11, 12, 13, 14, 15, 16, 17, 18, 19, 20, 21, 26, 27, 28, 29, 30, 31] (by decide +kernel) (by decide +kernel)
set_option maxRecDepth 20000 in
theorem gX8_skip_X8_stands : GoodIn wsX8_skip (wsV RX8 46 RX8 yX8_stands wsX8_stands) := goodIn_app (goodIn_of _ (by decide +kernel)) ggX8_skip_X8_stands
set_option maxRecDepth 20000 in
theorem ggX8_skip_X8_failAt : GoodIn wsX8_skip wsX8_failAt := goodIn_r _ [25, 16, 26, 27, 28, 29, 30, 31] (by decide +kernel) (by decide +kernel)
set_option maxRecDepth 20000 in
theorem gX8_skip_X8_failAt : GoodIn wsX8_skip (wsV RX8 42 RX8 yX8_failAt wsX8_failAt) := goodIn_app (goodIn_of _ (by decide +kernel)) ggX8_skip_X8_failAt
theorem dX8_skip_0 : decode cX8_skip 0 = .ok (.aload_n 0, 1) := by decide +kernel
theorem dX8_skip_1 : decode cX8_skip 1 = .ok (.iload_n 1, 1) := by decide +kernel
theorem dX8_skip_2 : decode cX8_skip 2 = .ok (.invokevirtual 46, 3) := by decide +kernel
theorem dX8_skip_5 : decode cX8_skip 5 = .ok (.ifCond .eq 16, 3) := by decide +kernel
theorem dX8_skip_8 : decode cX8_skip 8 = .ok (.aload_n 0, 1) := by decide +kernel
theorem dX8_skip_9 : decode cX8_skip 9 = .ok (.dup, 1) := by decide +kernel
theorem dX8_skip_10 : decode cX8_skip 10 = .ok (.getfield 19, 3) := by decide +kernel
theorem dX8_skip_13 : decode cX8_skip 13 = .ok (.iconst 1, 1) := by decide +kernel
theorem dX8_skip_14 : decode cX8_skip 14 = .ok (.iadd, 1) := by decide +kernel
theorem dX8_skip_15 : decode cX8_skip 15 = .ok (.putfield 19, 3) := by decide +kernel
theorem dX8_skip_18 : decode cX8_skip 18 = .ok (.goto 11, 3) := by decide +kernel
theorem dX8_skip_21 : decode cX8_skip 21 = .ok (.aload_n 0, 1) := by decide +kernel
theorem dX8_skip_22 : decode cX8_skip 22 = .ok (.aload_n 0, 1) := by decide +kernel
theorem dX8_skip_23 : decode cX8_skip 23 = .ok (.getfield 19, 3) := by decide +kernel
theorem dX8_skip_26 : decode cX8_skip 26 = .ok (.invokevirtual 42, 3) := by decide +kernel
theorem dX8_skip_29 : decode cX8_skip 29 = .ok (.return_, 1) := by decide +kernel
set_option maxRecDepth 20000 in
theorem ggX8_readSign_X8_stands : GoodIn wsX8_readSign wsX8_stands := goodIn_r _ [6, 1, 7, 8, 9, 5, 10, 11, 12, 13, 14, 15, 16, 17, 18, 19, 20, 21, 26, 27, 28, 29, 30, 31] (by decide +kernel) (by decide +kernel)
set_option maxRecDepth 20000 in
theorem gX8_readSign_X8_stands : GoodIn wsX8_readSign (wsV RX8 46 RX8 yX8_stands wsX8_stands) := goodIn_app (goodIn_of _ (by decide +kernel)) ggX8_readSign_X8_stands
set_option maxRecDepth 20000 in
theorem ggX8_readSign_X8_signAt : GoodIn wsX8_readSign wsX8_signAt := goodIn_r _ [20, 11, 21, 26, 27, 28, 29, 30, 31] (by decide +kernel) (by decide +kernel)
set_option maxRecDepth 20000 in
theorem gX8_readSign_X8_signAt : GoodIn wsX8_readSign (wsV RX8 38 RX8 yX8_signAt wsX8_signAt) := goodIn_app (goodIn_of _ (by decide +kernel)) ggX8_readSign_X8_signAt
set_option maxRecDepth 20000 in
theorem ggX8_readSign_X8_failAt : GoodIn wsX8_readSign wsX8_failAt := goodIn_r _ [25, 16, 26, 27, 28, 29, 30, 31] (by decide +kernel) (by decide +kernel)
set_option maxRecDepth 20000 in
theorem gX8_readSign_X8_failAt : GoodIn wsX8_readSign (wsV RX8 42 RX8 yX8_failAt wsX8_failAt) := goodIn_app (goodIn_of _ (by decide +kernel)) ggX8_readSign_X8_failAt
theorem dX8_readSign_0 : decode cX8_readSign 0 = .ok (.aload_n 0, 1) := by decide +kernel
theorem dX8_readSign_1 : decode cX8_readSign 1 = .ok (.bipush 61, 2) := by decide +kernel
theorem dX8_readSign_3 : decode cX8_readSign 3 = .ok (.invokevirtual 46, 3) := by decide +kernel
theorem dX8_readSign_6 : decode cX8_readSign 6 = .ok (.ifCond .ne 30, 3) := by decide +kernel
theorem dX8_readSign_9 : decode cX8_readSign 9 = .ok (.aload_n 0, 1) := by decide +kernel
theorem dX8_readSign_10 : decode cX8_readSign 10 = .ok (.bipush 60, 2) := by decide +kernel
theorem dX8_readSign_12 : decode cX8_readSign 12 = .ok (.invokevirtual 46, 3) := by decide +kernel
theorem dX8_readSign_15 : decode cX8_readSign 15 = .ok (.ifCond .ne 21, 3) := by decide +kernel
theorem dX8_readSign_18 : decode cX8_readSign 18 = .ok (.aload_n 0, 1) := by decide +kernel
theorem dX8_readSign_19 : decode cX8_readSign 19 = .ok (.bipush 62, 2) := by decide +kernel
theorem dX8_readSign_21 : decode cX8_readSign 21 = .ok (.invokevirtual 46, 3) := by decide +kernel
theorem dX8_readSign_24 : decode cX8_readSign 24 = .ok (.ifCond .ne 12, 3) := by decide +kernel
theorem dX8_readSign_27 : decode cX8_readSign 27 = .ok (.aload_n 0, 1) := by decide +kernel
theorem dX8_readSign_28 : decode cX8_readSign 28 = .ok (.bipush 43, 2) := by decide +kernel
theorem dX8_readSign_30 : decode cX8_readSign 30 = .ok (.invokevirtual 46, 3) := by decide +kernel
theorem dX8_readSign_33 : decode cX8_readSign 33 = .ok (.ifCond .eq 24, 3) := by decide +kernel
theorem dX8_readSign_36 : decode cX8_readSign 36 = .ok (.aload_n 0, 1) := by decide +kernel
theorem dX8_readSign_37 : decode cX8_readSign 37 = .ok (.dup, 1) := by decide +kernel
theorem dX8_readSign_38 : decode cX8_readSign 38 = .ok (.getfield 19, 3) := by decide +kernel
theorem dX8_readSign_41 : decode cX8_readSign 41 = .ok (.iconst 1, 1) := by decide +kernel
theorem dX8_readSign_42 : decode cX8_readSign 42 = .ok (.iadd, 1) := by decide +kernel
theorem dX8_readSign_43 : decode cX8_readSign 43 = .ok (.putfield 19, 3) := by decide +kernel
theorem dX8_readSign_46 : decode cX8_readSign 46 = .ok (.aload_n 0, 1) := by decide +kernel
theorem dX8_readSign_47 : decode cX8_readSign 47 = .ok (.aload_n 0, 1) := by decide +kernel
theorem dX8_readSign_48 : decode cX8_readSign 48 = .ok (.getfield 19, 3) := by decide +kernel
theorem dX8_readSign_51 : decode cX8_readSign 51 = .ok (.iconst 1, 1) := by decide +kernel
theorem dX8_readSign_52 : decode cX8_readSign 52 = .ok (.isub, 1) := by decide +kernel
theorem dX8_readSign_53 : decode cX8_readSign 53 = .ok (.invokevirtual 38, 3) := by decide +kernel
theorem dX8_readSign_56 : decode cX8_readSign 56 = .ok (.ireturn, 1) := by decide +kernel
theorem dX8_readSign_57 : decode cX8_readSign 57 = .ok (.aload_n 0, 1) := by decide +kernel
theorem dX8_readSign_58 : decode cX8_readSign 58 = .ok (.aload_n 0, 1) := by decide +kernel
theorem dX8_readSign_59 : decode cX8_readSign 59 = .ok (.getfield 19, 3) := by decide +kernel
theorem dX8_readSign_62 : decode cX8_readSign 62 = .ok (.invokevirtual 42, 3) := by decide +kernel
theorem dX8_readSign_65 : decode cX8_readSign 65 = .ok (.iconst 0, 1) := by decide +kernel
theorem dX8_readSign_66 : decode cX8_readSign 66 = .ok (.ireturn, 1) := by decide +kernel
set_option maxRecDepth 20000 in
theorem ggX8_readNumber_X8_isDigit : GoodIn wsX8_readNumber wsX8_isDigit := goodIn_r _ [8, 9, 10, 11, 7, 12, 13, 14, 15, 16, 17, 39, 40, 41, 42, 43, 44] (by decide +kernel) (by decide +kernel)
set_option maxRecDepth 20000 in
theorem gX8_readNumber_X8_isDigit : GoodIn wsX8_readNumber (wsV RX8 50 RX8 yX8_isDigit wsX8_isDigit) := goodIn_app (goodIn_of _ (by decide +kernel)) ggX8_readNumber_X8_isDigit
set_option maxRecDepth 20000 in
theorem ggX8_readNumber_X8_stands : GoodIn wsX8_readNumber wsX8_stands := goodIn_r _ [21, 1, 22, 23, 24, 7, 25, 13, 26, 27, 28, 29, 30, 9, 10, 11, 12, 14, 39, 40, 41, 42, 43, 44] (by decide +kernel) (by decide +kernel)
set_option maxRecDepth 20000 in
theorem gX8_readNumber_X8_stands : GoodIn wsX8_readNumber (wsV RX8 46 RX8 yX8_stands wsX8_stands) := goodIn_app (goodIn_of _ (by decide +kernel)) ggX8_readNumber_X8_stands
set_option maxRecDepth 20000 in
theorem ggX8_readNumber_X8_failAt : GoodIn wsX8_readNumber wsX8_failAt := goodIn_r _ [34, 30, 39, 40, 41, 42, 43, 44] (by decide +kernel) (by decide +kernel)
set_option maxRecDepth 20000 in
theorem gX8_readNumber_X8_failAt : GoodIn wsX8_readNumber (wsV RX8 42 RX8 yX8_failAt wsX8_failAt) := goodIn_app (goodIn_of _ (by decide +kernel)) ggX8_readNumber_X8_failAt
set_option maxRecDepth 20000 in
theorem ggX8_readNumber_X8_takeDigit : GoodIn wsX8_readNumber wsX8_takeDigit := goodIn_r _ [38, 3, 1, 9, 10, 11, 7, 12, 13, 14, 39, 40, 41, 42, 43, 44] (by decide +kernel) (by decide +kernel)
set_option maxRecDepth 20000 in
theorem gX8_readNumber_X8_takeDigit : GoodIn wsX8_readNumber (wsV RX8 54 RX8 yX8_takeDigit wsX8_takeDigit) := goodIn_app (goodIn_of _ (by decide +kernel)) ggX8_readNumber_X8_takeDigit
theorem dX8_readNumber_0 : decode cX8_readNumber 0 = .ok (.aload_n 0, 1) := by decide +kernel
theorem dX8_readNumber_1 : decode cX8_readNumber 1 = .ok (.aload_n 0, 1) := by decide +kernel
theorem dX8_readNumber_2 : decode cX8_readNumber 2 = .ok (.getfield 19, 3) := by decide +kernel
theorem dX8_readNumber_5 : decode cX8_readNumber 5 = .ok (.putfield 28, 3) := by decide +kernel
theorem dX8_readNumber_8 : decode cX8_readNumber 8 = .ok (.aload_n 0, 1) := by decide +kernel
theorem dX8_readNumber_9 : decode cX8_readNumber 9 = .ok (.iconst 0, 1) := by decide +kernel
theorem dX8_readNumber_10 : decode cX8_readNumber 10 = .ok (.putfield 25, 3) := by decide +kernel
theorem dX8_readNumber_13 : decode cX8_readNumber 13 = .ok (.aload_n 0, 1) := by decide +kernel
theorem dX8_readNumber_14 : decode cX8_readNumber 14 = .ok (.aload_n 0, 1) := by decide +kernel
theorem dX8_readNumber_15 : decode cX8_readNumber 15 = .ok (.getfield 19, 3) := by decide +kernel
theorem dX8_readNumber_18 : decode cX8_readNumber 18 = .ok (.invokevirtual 50, 3) := by decide +kernel
theorem dX8_readNumber_21 : decode cX8_readNumber 21 = .ok (.ifCond .eq 12, 3) := by decide +kernel
theorem dX8_readNumber_24 : decode cX8_readNumber 24 = .ok (.aload_n 0, 1) := by decide +kernel
theorem dX8_readNumber_25 : decode cX8_readNumber 25 = .ok (.bipush 48, 2) := by decide +kernel
theorem dX8_readNumber_27 : decode cX8_readNumber 27 = .ok (.invokevirtual 46, 3) := by decide +kernel
theorem dX8_readNumber_30 : decode cX8_readNumber 30 = .ok (.ifCond .eq 12, 3) := by decide +kernel
theorem dX8_readNumber_33 : decode cX8_readNumber 33 = .ok (.aload_n 0, 1) := by decide +kernel
theorem dX8_readNumber_34 : decode cX8_readNumber 34 = .ok (.aload_n 0, 1) := by decide +kernel
theorem dX8_readNumber_35 : decode cX8_readNumber 35 = .ok (.getfield 19, 3) := by decide +kernel
theorem dX8_readNumber_38 : decode cX8_readNumber 38 = .ok (.invokevirtual 42, 3) := by decide +kernel
theorem dX8_readNumber_41 : decode cX8_readNumber 41 = .ok (.return_, 1) := by decide +kernel
theorem dX8_readNumber_42 : decode cX8_readNumber 42 = .ok (.aload_n 0, 1) := by decide +kernel
theorem dX8_readNumber_43 : decode cX8_readNumber 43 = .ok (.invokevirtual 54, 3) := by decide +kernel
theorem dX8_readNumber_46 : decode cX8_readNumber 46 = .ok (.aload_n 0, 1) := by decide +kernel
theorem dX8_readNumber_47 : decode cX8_readNumber 47 = .ok (.aload_n 0, 1) := by decide +kernel
theorem dX8_readNumber_48 : decode cX8_readNumber 48 = .ok (.getfield 19, 3) := by decide +kernel
theorem dX8_readNumber_51 : decode cX8_readNumber 51 = .ok (.invokevirtual 50, 3) := by decide +kernel
theorem dX8_readNumber_54 : decode cX8_readNumber 54 = .ok (.ifCond .eq 7, 3) := by decide +kernel
theorem dX8_readNumber_57 : decode cX8_readNumber 57 = .ok (.aload_n 0, 1) := by decide +kernel
theorem dX8_readNumber_58 : decode cX8_readNumber 58 = .ok (.invokevirtual 54, 3) := by decide +kernel
theorem dX8_readNumber_61 : decode cX8_readNumber 61 = .ok (.aload_n 0, 1) := by decide +kernel
theorem dX8_readNumber_62 : decode cX8_readNumber 62 = .ok (.aload_n 0, 1) := by decide +kernel
theorem dX8_readNumber_63 : decode cX8_readNumber 63 = .ok (.getfield 19, 3) := by decide +kernel
theorem dX8_readNumber_66 : decode cX8_readNumber 66 = .ok (.invokevirtual 50, 3) := by decide +kernel
theorem dX8_readNumber_69 : decode cX8_readNumber 69 = .ok (.ifCond .eq 11, 3) := by decide +kernel
theorem dX8_readNumber_72 : decode cX8_readNumber 72 = .ok (.aload_n 0, 1) := by decide +kernel
theorem dX8_readNumber_73 : decode cX8_readNumber 73 = .ok (.aload_n 0, 1) := by decide +kernel
theorem dX8_readNumber_74 : decode cX8_readNumber 74 = .ok (.getfield 19, 3) := by decide +kernel
theorem dX8_readNumber_77 : decode cX8_readNumber 77 = .ok (.invokevirtual 42, 3) := by decide +kernel
theorem dX8_readNumber_80 : decode cX8_readNumber 80 = .ok (.return_, 1) := by decide +kernel
set_option maxRecDepth 20000 in
theorem ggX8_takeDigit_X8_signAt : GoodIn wsX8_takeDigit wsX8_signAt := goodIn_r _ [7, 8, 9, 10, 11, 12, 13, 14, 15] (by decide +kernel) (by decide +kernel)
set_option maxRecDepth 20000 in
theorem gX8_takeDigit_X8_signAt : GoodIn wsX8_takeDigit (wsV RX8 38 RX8 yX8_signAt wsX8_signAt) := goodIn_app (goodIn_of _ (by decide +kernel)) ggX8_takeDigit_X8_signAt
theorem dX8_takeDigit_0 : decode cX8_takeDigit 0 = .ok (.aload_n 0, 1) := by decide +kernel
theorem dX8_takeDigit_1 : decode cX8_takeDigit 1 = .ok (.bipush 10, 2) := by decide +kernel
theorem dX8_takeDigit_3 : decode cX8_takeDigit 3 = .ok (.aload_n 0, 1) := by decide +kernel
theorem dX8_takeDigit_4 : decode cX8_takeDigit 4 = .ok (.getfield 25, 3) := by decide +kernel
theorem dX8_takeDigit_7 : decode cX8_takeDigit 7 = .ok (.imul, 1) := by decide +kernel
theorem dX8_takeDigit_8 : decode cX8_takeDigit 8 = .ok (.aload_n 0, 1) := by decide +kernel
theorem dX8_takeDigit_9 : decode cX8_takeDigit 9 = .ok (.aload_n 0, 1) := by decide +kernel
theorem dX8_takeDigit_10 : decode cX8_takeDigit 10 = .ok (.getfield 19, 3) := by decide +kernel
theorem dX8_takeDigit_13 : decode cX8_takeDigit 13 = .ok (.invokevirtual 38, 3) := by decide +kernel
theorem dX8_takeDigit_16 : decode cX8_takeDigit 16 = .ok (.iadd, 1) := by decide +kernel
theorem dX8_takeDigit_17 : decode cX8_takeDigit 17 = .ok (.bipush 48, 2) := by decide +kernel
theorem dX8_takeDigit_19 : decode cX8_takeDigit 19 = .ok (.isub, 1) := by decide +kernel
theorem dX8_takeDigit_20 : decode cX8_takeDigit 20 = .ok (.putfield 25, 3) := by decide +kernel
theorem dX8_takeDigit_23 : decode cX8_takeDigit 23 = .ok (.aload_n 0, 1) := by decide +kernel
theorem dX8_takeDigit_24 : decode cX8_takeDigit 24 = .ok (.dup, 1) := by decide +kernel
theorem dX8_takeDigit_25 : decode cX8_takeDigit 25 = .ok (.getfield 19, 3) := by decide +kernel
theorem dX8_takeDigit_28 : decode cX8_takeDigit 28 = .ok (.iconst 1, 1) := by decide +kernel
theorem dX8_takeDigit_29 : decode cX8_takeDigit 29 = .ok (.iadd, 1) := by decide +kernel
theorem dX8_takeDigit_30 : decode cX8_takeDigit 30 = .ok (.putfield 19, 3) := by decide +kernel
theorem dX8_takeDigit_33 : decode cX8_takeDigit 33 = .ok (.return_, 1) := by decide +kernel
set_option maxRecDepth 20000 in
theorem ggX8_isDigit_X8_signAt : GoodIn wsX8_isDigit wsX8_signAt := goodIn_r _ [5, 6, 7, 11, 12, 13, 14, 15, 16] (by decide +kernel) (by decide +kernel)
set_option maxRecDepth 20000 in
theorem gX8_isDigit_X8_signAt : GoodIn wsX8_isDigit (wsV RX8 38 RX8 yX8_signAt wsX8_signAt) := goodIn_app (goodIn_of _ (by decide +kernel)) ggX8_isDigit_X8_signAt
set_option maxRecDepth 20000 in
theorem ggX8_isDigit_X9_isWithin : GoodIn wsX8_isDigit wsX9_isWithin := goodIn_r _ [10] (by decide +kernel) (by decide +kernel)
set_option maxRecDepth 20000 in
theorem gX8_isDigit_X9_isWithin_n57 : GoodIn wsX8_isDigit (wsX9_isWithin) := ggX8_isDigit_X9_isWithin
theorem dX8_isDigit_0 : decode cX8_isDigit 0 = .ok (.aload_n 0, 1) := by decide +kernel
theorem dX8_isDigit_1 : decode cX8_isDigit 1 = .ok (.iload_n 1, 1) := by decide +kernel
theorem dX8_isDigit_2 : decode cX8_isDigit 2 = .ok (.invokevirtual 38, 3) := by decide +kernel
theorem dX8_isDigit_5 : decode cX8_isDigit 5 = .ok (.bipush 48, 2) := by decide +kernel
theorem dX8_isDigit_7 : decode cX8_isDigit 7 = .ok (.bipush 57, 2) := by decide +kernel
theorem dX8_isDigit_9 : decode cX8_isDigit 9 = .ok (.invokestatic 57, 3) := by decide +kernel
theorem dX8_isDigit_12 : decode cX8_isDigit 12 = .ok (.ireturn, 1) := by decide +kernel
theorem dX8_signAt_0 : decode cX8_signAt 0 = .ok (.iload_n 1, 1) := by decide +kernel
theorem dX8_signAt_1 : decode cX8_signAt 1 = .ok (.ifCond .lt 26, 3) := by decide +kernel
theorem dX8_signAt_4 : decode cX8_signAt 4 = .ok (.iload_n 1, 1) := by decide +kernel
theorem dX8_signAt_5 : decode cX8_signAt 5 = .ok (.aload_n 0, 1) := by decide +kernel
theorem dX8_signAt_6 : decode cX8_signAt 6 = .ok (.getfield 15, 3) := by decide +kernel
theorem dX8_signAt_9 : decode cX8_signAt 9 = .ok (.if_icmp .ge 18, 3) := by decide +kernel
theorem dX8_signAt_12 : decode cX8_signAt 12 = .ok (.iload_n 1, 1) := by decide +kernel
theorem dX8_signAt_13 : decode cX8_signAt 13 = .ok (.bipush 80, 2) := by decide +kernel
theorem dX8_signAt_15 : decode cX8_signAt 15 = .ok (.if_icmp .ge 12, 3) := by decide +kernel
theorem dX8_signAt_18 : decode cX8_signAt 18 = .ok (.aload_n 0, 1) := by decide +kernel
theorem dX8_signAt_19 : decode cX8_signAt 19 = .ok (.getfield 9, 3) := by decide +kernel
theorem dX8_signAt_22 : decode cX8_signAt 22 = .ok (.iload_n 1, 1) := by decide +kernel
theorem dX8_signAt_23 : decode cX8_signAt 23 = .ok (.caload, 1) := by decide +kernel
theorem dX8_signAt_24 : decode cX8_signAt 24 = .ok (.goto 4, 3) := by decide +kernel
theorem dX8_signAt_27 : decode cX8_signAt 27 = .ok (.iconst 0, 1) := by decide +kernel
theorem dX8_signAt_28 : decode cX8_signAt 28 = .ok (.ireturn, 1) := by decide +kernel
