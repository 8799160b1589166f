set_option maxRecDepth 20000 in
theorem ggX9_init_X7_init : GoodIn wsX9_init wsX7_init := goodIn_r _ [33, 34, 2, 3, 35, 36, 37, 38, 39, 40, 41, 42, 43, 44, 45, 46, 47, 48, 49, 50, 51, 52, 53, 54, 55, 130, 131, 132, 133, 89, 90, 91, 134, 135, 136] (by decide +kernel) (by decide +kernel)
set_option maxRecDepth 20000 in
theorem gX9_init_X7_init_n11 : GoodIn wsX9_init (wsX7_init) := ggX9_init_X7_init
set_option maxRecDepth 20000 in
theorem ggX9_init_X2_init : GoodIn wsX9_init wsX2_init := goodIn_r _ [58, 59, 2, 3, 60, 61, 5, 6, 32, 33, 34, 35, 36, 37, 38, 39, 40, 41, 42, 43, 44, 45, 46, 47, 48, 49, 50, 51, 52, 53, 54, 55, 99, 100, 89, 90, 91, 130, 131, 132, 133, 134, 135, 136] (by decide +kernel) (by decide +kernel)
set_option maxRecDepth 20000 in
theorem gX9_init_X2_init : GoodIn wsX9_init (wsX2_init) := ggX9_init_X2_init
set_option maxRecDepth 20000 in
theorem ggX9_init_X8_init : GoodIn wsX9_init wsX8_init := goodIn_r _ [63, 64, 2, 3, 65, 66, 101, 102, 103, 104, 105, 106] (by decide +kernel) (by decide +kernel)
set_option maxRecDepth 20000 in
theorem gX9_init_X8_init_n25 : GoodIn wsX9_init (wsX8_init) := ggX9_init_X8_init
set_option maxRecDepth 20000 in
theorem ggX9_init_X6_init : GoodIn wsX9_init wsX6_init := goodIn_r _ [68, 69, 2, 3] (by decide +kernel) (by decide +kernel)
set_option maxRecDepth 20000 in
theorem gX9_init_X6_init_n32 : GoodIn wsX9_init (wsX6_init) := ggX9_init_X6_init
set_option maxRecDepth 20000 in
theorem ggX9_init_X4_init : GoodIn wsX9_init wsX4_init := goodIn_r _ [71, 72, 2, 3, 73, 41, 42, 74, 51, 52, 53, 47, 54, 55, 134, 135, 136, 109, 110, 111] (by decide +kernel) (by decide +kernel)
set_option maxRecDepth 20000 in
theorem gX9_init_X4_init_n39 : GoodIn wsX9_init (wsX4_init) := ggX9_init_X4_init
set_option maxRecDepth 20000 in
theorem ggX9_init_X5_init : GoodIn wsX9_init wsX5_init := goodIn_r _ [76, 77, 2, 3] (by decide +kernel) (by decide +kernel)
set_option maxRecDepth 20000 in
theorem gX9_init_X5_init_n46 : GoodIn wsX9_init (wsX5_init) := ggX9_init_X5_init
set_option maxRecDepth 20000 in
theorem ggX9_init_X3_init : GoodIn wsX9_init wsX3_init := goodIn_r _ [79, 80, 2, 3, 81, 82, 83, 84, 47, 85, 86, 87, 88, 119, 120, 121, 122, 123, 124, 125, 126, 127, 128, 129] (by decide +kernel) (by decide +kernel)
set_option maxRecDepth 20000 in
theorem gX9_init_X3_init_n53 : GoodIn wsX9_init (wsX3_init) := ggX9_init_X3_init
theorem dX9_init_0 : decode cX9_init 0 = .ok (.aload_n 0, 1) := by decide +kernel
theorem dX9_init_1 : decode cX9_init 1 = .ok (.invokespecial 3, 3) := by decide +kernel
theorem dX9_init_4 : decode cX9_init 4 = .ok (.aload_n 0, 1) := by decide +kernel
theorem dX9_init_5 : decode cX9_init 5 = .ok (.new 9, 3) := by decide +kernel
theorem dX9_init_8 : decode cX9_init 8 = .ok (.dup, 1) := by decide +kernel
theorem dX9_init_9 : decode cX9_init 9 = .ok (.invokespecial 11, 3) := by decide +kernel
theorem dX9_init_12 : decode cX9_init 12 = .ok (.putfield 12, 3) := by decide +kernel
theorem dX9_init_15 : decode cX9_init 15 = .ok (.aload_n 0, 1) := by decide +kernel
theorem dX9_init_16 : decode cX9_init 16 = .ok (.new 16, 3) := by decide +kernel
theorem dX9_init_19 : decode cX9_init 19 = .ok (.dup, 1) := by decide +kernel
theorem dX9_init_20 : decode cX9_init 20 = .ok (.invokespecial 18, 3) := by decide +kernel
theorem dX9_init_23 : decode cX9_init 23 = .ok (.putfield 19, 3) := by decide +kernel
theorem dX9_init_26 : decode cX9_init 26 = .ok (.aload_n 0, 1) := by decide +kernel
theorem dX9_init_27 : decode cX9_init 27 = .ok (.new 23, 3) := by decide +kernel
theorem dX9_init_30 : decode cX9_init 30 = .ok (.dup, 1) := by decide +kernel
theorem dX9_init_31 : decode cX9_init 31 = .ok (.invokespecial 25, 3) := by decide +kernel
theorem dX9_init_34 : decode cX9_init 34 = .ok (.putfield 26, 3) := by decide +kernel
theorem dX9_init_37 : decode cX9_init 37 = .ok (.aload_n 0, 1) := by decide +kernel
theorem dX9_init_38 : decode cX9_init 38 = .ok (.new 30, 3) := by decide +kernel
theorem dX9_init_41 : decode cX9_init 41 = .ok (.dup, 1) := by decide +kernel
theorem dX9_init_42 : decode cX9_init 42 = .ok (.invokespecial 32, 3) := by decide +kernel
theorem dX9_init_45 : decode cX9_init 45 = .ok (.putfield 33, 3) := by decide +kernel
theorem dX9_init_48 : decode cX9_init 48 = .ok (.aload_n 0, 1) := by decide +kernel
theorem dX9_init_49 : decode cX9_init 49 = .ok (.new 37, 3) := by decide +kernel
theorem dX9_init_52 : decode cX9_init 52 = .ok (.dup, 1) := by decide +kernel
theorem dX9_init_53 : decode cX9_init 53 = .ok (.invokespecial 39, 3) := by decide +kernel
theorem dX9_init_56 : decode cX9_init 56 = .ok (.putfield 40, 3) := by decide +kernel
theorem dX9_init_59 : decode cX9_init 59 = .ok (.aload_n 0, 1) := by decide +kernel
theorem dX9_init_60 : decode cX9_init 60 = .ok (.new 44, 3) := by decide +kernel
theorem dX9_init_63 : decode cX9_init 63 = .ok (.dup, 1) := by decide +kernel
theorem dX9_init_64 : decode cX9_init 64 = .ok (.invokespecial 46, 3) := by decide +kernel
theorem dX9_init_67 : decode cX9_init 67 = .ok (.putfield 47, 3) := by decide +kernel
theorem dX9_init_70 : decode cX9_init 70 = .ok (.aload_n 0, 1) := by decide +kernel
theorem dX9_init_71 : decode cX9_init 71 = .ok (.new 51, 3) := by decide +kernel
theorem dX9_init_74 : decode cX9_init 74 = .ok (.dup, 1) := by decide +kernel
theorem dX9_init_75 : decode cX9_init 75 = .ok (.invokespecial 53, 3) := by decide +kernel
theorem dX9_init_78 : decode cX9_init 78 = .ok (.putfield 54, 3) := by decide +kernel
theorem dX9_init_81 : decode cX9_init 81 = .ok (.return_, 1) := by decide +kernel
set_option maxRecDepth 20000 in
theorem ggX9_addChapter_X9_isBook : GoodIn wsX9_addChapter wsX9_isBook := goodIn_r _ [6] (by decide +kernel) (by decide +kernel)
set_option maxRecDepth 20000 in
theorem gX9_addChapter_X9_isBook : GoodIn wsX9_addChapter (va_wsS RX9 58 yX9_isBook wsX9_isBook) := goodIn_app (goodIn_of _ (by decide +kernel)) ggX9_addChapter_X9_isBook
set_option maxRecDepth 20000 in
theorem ggX9_addChapter_X9_isWithin : GoodIn wsX9_addChapter wsX9_isWithin := goodIn_r _ [9] (by decide +kernel) (by decide +kernel)
set_option maxRecDepth 20000 in
theorem gX9_addChapter_X9_isWithin : GoodIn wsX9_addChapter (va_wsS RX9 62 yX9_isWithin wsX9_isWithin) := goodIn_app (goodIn_of _ (by decide +kernel)) ggX9_addChapter_X9_isWithin
set_option maxRecDepth 20000 in
theorem ggX9_addChapter_X7_bookOf : GoodIn wsX9_addChapter wsX7_bookOf := goodIn_r _ [14, 15, 16, 107, 108, 109] (by decide +kernel) (by decide +kernel)
set_option maxRecDepth 20000 in
theorem gX9_addChapter_X7_bookOf : GoodIn wsX9_addChapter (wsV RX9 66 RX7 yX7_bookOf wsX7_bookOf) := goodIn_app (goodIn_of _ (by decide +kernel)) ggX9_addChapter_X7_bookOf
set_option maxRecDepth 20000 in
theorem ggX9_addChapter_X0_chapterTotal : GoodIn wsX9_addChapter wsX0_chapterTotal := goodIn_r _ [21, 22, 23, 24, 25, 20, 26, 27, 28, 29, 30, 31, 32, 5, 33, 103, 104, 105, 106] (by decide +kernel) (by decide +kernel)
set_option maxRecDepth 20000 in
theorem gX9_addChapter_X0_chapterTotal : GoodIn wsX9_addChapter (wsV RX9 70 RX0 yX0_chapterTotal wsX0_chapterTotal) := goodIn_app (goodIn_of _ (by decide +kernel)) ggX9_addChapter_X0_chapterTotal
set_option maxRecDepth 20000 in
theorem ggX9_addChapter_X2_record : GoodIn wsX9_addChapter wsX2_record := goodIn_r _ [38, 39, 40, 41, 42, 43, 37, 44, 45, 46, 47, 13, 48, 15, 16, 49, 50, 51, 52, 20, 53, 27, 54, 55, 22, 56, 5, 57, 58, 59, 60, 61, 62, 63, 64, 65, 66, 67, 68, 69, 70, 71, 72, 73, 110, 111, 107, 108, 109, 103, 104, 105, 106, 112, 113, 114] (by decide +kernel) (by decide +kernel)
set_option maxRecDepth 20000 in
theorem gX9_addChapter_X2_record : GoodIn wsX9_addChapter (wsV RX9 80 RX2 yX2_record wsX2_record) := goodIn_app (goodIn_of _ (by decide +kernel)) ggX9_addChapter_X2_record
set_option maxRecDepth 20000 in
theorem ggX9_addChapter_X0_insertAt : GoodIn wsX9_addChapter wsX0_insertAt := goodIn_r _ [77, 22, 27, 54, 55, 78, 5, 79, 62, 63, 64, 65, 80, 81, 82, 20, 83, 28, 29, 30, 31, 103, 104, 105, 106] (by decide +kernel) (by decide +kernel)
set_option maxRecDepth 20000 in
theorem gX9_addChapter_X0_insertAt : GoodIn wsX9_addChapter (wsV RX9 84 RX0 yX0_insertAt wsX0_insertAt) := goodIn_app (goodIn_of _ (by decide +kernel)) ggX9_addChapter_X0_insertAt
set_option maxRecDepth 20000 in
theorem ggX9_addChapter_X1_append : GoodIn wsX9_addChapter wsX1_append := goodIn_r _ [87, 73, 88, 89, 90, 69, 91, 71, 72, 92, 93, 94, 95, 112, 113, 114] (by decide +kernel) (by decide +kernel)
set_option maxRecDepth 20000 in
theorem gX9_addChapter_X1_append : GoodIn wsX9_addChapter (wsV RX9 92 RX1 yX1_append wsX1_append) := goodIn_app (goodIn_of _ (by decide +kernel)) ggX9_addChapter_X1_append
theorem dX9_addChapter_0 : decode cX9_addChapter 0 = .ok (.iload_n 1, 1) := by decide +kernel
theorem dX9_addChapter_1 : decode cX9_addChapter 1 = .ok (.invokestatic 58, 3) := by decide +kernel
theorem dX9_addChapter_4 : decode cX9_addChapter 4 = .ok (.ifCond .ne 5, 3) := by decide +kernel
theorem dX9_addChapter_7 : decode cX9_addChapter 7 = .ok (.iconst (-1), 1) := by decide +kernel
theorem dX9_addChapter_8 : decode cX9_addChapter 8 = .ok (.ireturn, 1) := by decide +kernel
theorem dX9_addChapter_9 : decode cX9_addChapter 9 = .ok (.iload_n 2, 1) := by decide +kernel
theorem dX9_addChapter_10 : decode cX9_addChapter 10 = .ok (.iconst 1, 1) := by decide +kernel
theorem dX9_addChapter_11 : decode cX9_addChapter 11 = .ok (.bipush 60, 2) := by decide +kernel
theorem dX9_addChapter_13 : decode cX9_addChapter 13 = .ok (.invokestatic 62, 3) := by decide +kernel
theorem dX9_addChapter_16 : decode cX9_addChapter 16 = .ok (.ifCond .eq 14, 3) := by decide +kernel
theorem dX9_addChapter_19 : decode cX9_addChapter 19 = .ok (.iload_n 3, 1) := by decide +kernel
theorem dX9_addChapter_20 : decode cX9_addChapter 20 = .ok (.iconst 1, 1) := by decide +kernel
theorem dX9_addChapter_21 : decode cX9_addChapter 21 = .ok (.sipush 2000, 3) := by decide +kernel
theorem dX9_addChapter_24 : decode cX9_addChapter 24 = .ok (.invokestatic 62, 3) := by decide +kernel
theorem dX9_addChapter_27 : decode cX9_addChapter 27 = .ok (.ifCond .ne 6, 3) := by decide +kernel
theorem dX9_addChapter_30 : decode cX9_addChapter 30 = .ok (.bipush (-2), 2) := by decide +kernel
theorem dX9_addChapter_32 : decode cX9_addChapter 32 = .ok (.ireturn, 1) := by decide +kernel
theorem dX9_addChapter_33 : decode cX9_addChapter 33 = .ok (.aload_n 0, 1) := by decide +kernel
theorem dX9_addChapter_34 : decode cX9_addChapter 34 = .ok (.getfield 12, 3) := by decide +kernel
theorem dX9_addChapter_37 : decode cX9_addChapter 37 = .ok (.iload_n 1, 1) := by decide +kernel
theorem dX9_addChapter_38 : decode cX9_addChapter 38 = .ok (.invokevirtual 66, 3) := by decide +kernel
theorem dX9_addChapter_41 : decode cX9_addChapter 41 = .ok (.astore 4, 2) := by decide +kernel
theorem dX9_addChapter_43 : decode cX9_addChapter 43 = .ok (.aload 4, 2) := by decide +kernel
theorem dX9_addChapter_45 : decode cX9_addChapter 45 = .ok (.invokevirtual 70, 3) := by decide +kernel
theorem dX9_addChapter_48 : decode cX9_addChapter 48 = .ok (.iconst 1, 1) := by decide +kernel
theorem dX9_addChapter_49 : decode cX9_addChapter 49 = .ok (.iadd, 1) := by decide +kernel
theorem dX9_addChapter_50 : decode cX9_addChapter 50 = .ok (.istore 5, 2) := by decide +kernel
theorem dX9_addChapter_52 : decode cX9_addChapter 52 = .ok (.iload 5, 2) := by decide +kernel
theorem dX9_addChapter_54 : decode cX9_addChapter 54 = .ok (.bipush 10, 2) := by decide +kernel
theorem dX9_addChapter_56 : decode cX9_addChapter 56 = .ok (.if_icmp .gt 15, 3) := by decide +kernel
theorem dX9_addChapter_59 : decode cX9_addChapter 59 = .ok (.aload 4, 2) := by decide +kernel
theorem dX9_addChapter_61 : decode cX9_addChapter 61 = .ok (.getfield 76, 3) := by decide +kernel
theorem dX9_addChapter_64 : decode cX9_addChapter 64 = .ok (.iload_n 2, 1) := by decide +kernel
theorem dX9_addChapter_65 : decode cX9_addChapter 65 = .ok (.iadd, 1) := by decide +kernel
theorem dX9_addChapter_66 : decode cX9_addChapter 66 = .ok (.bipush 60, 2) := by decide +kernel
theorem dX9_addChapter_68 : decode cX9_addChapter 68 = .ok (.if_icmp .le 6, 3) := by decide +kernel
theorem dX9_addChapter_71 : decode cX9_addChapter 71 = .ok (.bipush (-3), 2) := by decide +kernel
theorem dX9_addChapter_73 : decode cX9_addChapter 73 = .ok (.ireturn, 1) := by decide +kernel
theorem dX9_addChapter_74 : decode cX9_addChapter 74 = .ok (.aload_n 0, 1) := by decide +kernel
theorem dX9_addChapter_75 : decode cX9_addChapter 75 = .ok (.getfield 19, 3) := by decide +kernel
theorem dX9_addChapter_78 : decode cX9_addChapter 78 = .ok (.aload_n 0, 1) := by decide +kernel
theorem dX9_addChapter_79 : decode cX9_addChapter 79 = .ok (.getfield 12, 3) := by decide +kernel
theorem dX9_addChapter_82 : decode cX9_addChapter 82 = .ok (.invokevirtual 80, 3) := by decide +kernel
theorem dX9_addChapter_85 : decode cX9_addChapter 85 = .ok (.iconst 0, 1) := by decide +kernel
theorem dX9_addChapter_86 : decode cX9_addChapter 86 = .ok (.istore 6, 2) := by decide +kernel
theorem dX9_addChapter_88 : decode cX9_addChapter 88 = .ok (.iload 6, 2) := by decide +kernel
theorem dX9_addChapter_90 : decode cX9_addChapter 90 = .ok (.iload_n 2, 1) := by decide +kernel
theorem dX9_addChapter_91 : decode cX9_addChapter 91 = .ok (.if_icmp .ge 52, 3) := by decide +kernel
theorem dX9_addChapter_94 : decode cX9_addChapter 94 = .ok (.aload 4, 2) := by decide +kernel
theorem dX9_addChapter_96 : decode cX9_addChapter 96 = .ok (.aload 4, 2) := by decide +kernel
theorem dX9_addChapter_98 : decode cX9_addChapter 98 = .ok (.getfield 76, 3) := by decide +kernel
theorem dX9_addChapter_101 : decode cX9_addChapter 101 = .ok (.iload 5, 2) := by decide +kernel
theorem dX9_addChapter_103 : decode cX9_addChapter 103 = .ok (.iload_n 3, 1) := by decide +kernel
theorem dX9_addChapter_104 : decode cX9_addChapter 104 = .ok (.iconst 0, 1) := by decide +kernel
theorem dX9_addChapter_105 : decode cX9_addChapter 105 = .ok (.invokevirtual 84, 3) := by decide +kernel
theorem dX9_addChapter_108 : decode cX9_addChapter 108 = .ok (.aload_n 0, 1) := by decide +kernel
theorem dX9_addChapter_109 : decode cX9_addChapter 109 = .ok (.getfield 12, 3) := by decide +kernel
theorem dX9_addChapter_112 : decode cX9_addChapter 112 = .ok (.getfield 88, 3) := by decide +kernel
theorem dX9_addChapter_115 : decode cX9_addChapter 115 = .ok (.iload_n 1, 1) := by decide +kernel
theorem dX9_addChapter_116 : decode cX9_addChapter 116 = .ok (.ifCond .ne 7, 3) := by decide +kernel
theorem dX9_addChapter_119 : decode cX9_addChapter 119 = .ok (.iconst 1, 1) := by decide +kernel
theorem dX9_addChapter_120 : decode cX9_addChapter 120 = .ok (.goto 4, 3) := by decide +kernel
theorem dX9_addChapter_123 : decode cX9_addChapter 123 = .ok (.iconst 0, 1) := by decide +kernel
theorem dX9_addChapter_124 : decode cX9_addChapter 124 = .ok (.iload_n 1, 1) := by decide +kernel
theorem dX9_addChapter_125 : decode cX9_addChapter 125 = .ok (.iconst 1, 1) := by decide +kernel
theorem dX9_addChapter_126 : decode cX9_addChapter 126 = .ok (.if_icmp .ne 7, 3) := by decide +kernel
theorem dX9_addChapter_129 : decode cX9_addChapter 129 = .ok (.iconst 1, 1) := by decide +kernel
theorem dX9_addChapter_130 : decode cX9_addChapter 130 = .ok (.goto 4, 3) := by decide +kernel
theorem dX9_addChapter_133 : decode cX9_addChapter 133 = .ok (.iconst 0, 1) := by decide +kernel
theorem dX9_addChapter_134 : decode cX9_addChapter 134 = .ok (.invokevirtual 92, 3) := by decide +kernel
theorem dX9_addChapter_137 : decode cX9_addChapter 137 = .ok (.iinc 6 1, 3) := by decide +kernel
theorem dX9_addChapter_140 : decode cX9_addChapter 140 = .ok (.goto (-52), 3) := by decide +kernel
theorem dX9_addChapter_143 : decode cX9_addChapter 143 = .ok (.iload 5, 2) := by decide +kernel
theorem dX9_addChapter_145 : decode cX9_addChapter 145 = .ok (.ireturn, 1) := by decide +kernel
set_option maxRecDepth 20000 in
theorem ggX9_setVerse_X9_isVerse : GoodIn wsX9_setVerse wsX9_isVerse := goodIn_r _ [7, 2, 8, 9, 6, 10, 11, 12, 13, 14, 15, 16, 17, 18, 19, 20, 21, 22, 23, 79, 80, 81, 82, 83, 84, 85, 86, 87, 88, 89, 90, 91, 92] (by decide +kernel) (by decide +kernel)
set_option maxRecDepth 20000 in
theorem gX9_setVerse_X9_isVerse : GoodIn wsX9_setVerse (wsV RX9 98 RX9 yX9_isVerse wsX9_isVerse) := goodIn_app (goodIn_of _ (by decide +kernel)) ggX9_setVerse_X9_isVerse
set_option maxRecDepth 20000 in
theorem ggX9_setVerse_X9_isWithin : GoodIn wsX9_setVerse wsX9_isWithin := goodIn_r _ [26] (by decide +kernel) (by decide +kernel)
set_option maxRecDepth 20000 in
theorem gX9_setVerse_X9_isWithin : GoodIn wsX9_setVerse (va_wsS RX9 62 yX9_isWithin wsX9_isWithin) := goodIn_app (goodIn_of _ (by decide +kernel)) ggX9_setVerse_X9_isWithin
set_option maxRecDepth 20000 in
theorem ggX9_setVerse_X2_record : GoodIn wsX9_setVerse wsX2_record := goodIn_r _ [31, 32, 33, 34, 35, 36, 30, 37, 38, 39, 40, 14, 41, 16, 17, 42, 43, 44, 45, 21, 46, 47, 48, 49, 23, 50, 6, 51, 52, 53, 54, 55, 56, 57, 58, 59, 60, 61, 62, 63, 64, 65, 66, 67, 93, 94, 86, 87, 88, 89, 90, 91, 92, 95, 96, 97] (by decide +kernel) (by decide +kernel)
set_option maxRecDepth 20000 in
theorem gX9_setVerse_X2_record : GoodIn wsX9_setVerse (wsV RX9 80 RX2 yX2_record wsX2_record) := goodIn_app (goodIn_of _ (by decide +kernel)) ggX9_setVerse_X2_record
set_option maxRecDepth 20000 in
theorem ggX9_setVerse_X7_bookOf : GoodIn wsX9_setVerse wsX7_bookOf := goodIn_r _ [15, 16, 17, 86, 87, 88] (by decide +kernel) (by decide +kernel)
set_option maxRecDepth 20000 in
theorem gX9_setVerse_X7_bookOf : GoodIn wsX9_setVerse (wsV RX9 66 RX7 yX7_bookOf wsX7_bookOf) := goodIn_app (goodIn_of _ (by decide +kernel)) ggX9_setVerse_X7_bookOf
set_option maxRecDepth 20000 in
theorem ggX9_setVerse_X0_lettersOf : GoodIn wsX9_setVerse wsX0_lettersOf := goodIn_r _ [71, 48, 72, 19, 20, 21, 22, 23, 73, 6, 74, 89, 90, 91, 92] (by decide +kernel) (by decide +kernel)
set_option maxRecDepth 20000 in
theorem gX9_setVerse_X0_lettersOf : GoodIn wsX9_setVerse (wsV RX9 102 RX0 yX0_lettersOf wsX0_lettersOf) := goodIn_app (goodIn_of _ (by decide +kernel)) ggX9_setVerse_X0_lettersOf
set_option maxRecDepth 20000 in
theorem ggX9_setVerse_X0_put : GoodIn wsX9_setVerse wsX0_put := goodIn_r _ [78, 48, 49, 72, 19, 20, 21, 22, 23, 89, 90, 91, 92] (by decide +kernel) (by decide +kernel)
set_option maxRecDepth 20000 in
theorem gX9_setVerse_X0_put : GoodIn wsX9_setVerse (wsV RX9 106 RX0 yX0_put wsX0_put) := goodIn_app (goodIn_of _ (by decide +kernel)) ggX9_setVerse_X0_put
theorem dX9_setVerse_0 : decode cX9_setVerse 0 = .ok (.aload_n 0, 1) := by decide +kernel
theorem dX9_setVerse_1 : decode cX9_setVerse 1 = .ok (.iload_n 1, 1) := by decide +kernel
theorem dX9_setVerse_2 : decode cX9_setVerse 2 = .ok (.iload_n 2, 1) := by decide +kernel
theorem dX9_setVerse_3 : decode cX9_setVerse 3 = .ok (.invokevirtual 98, 3) := by decide +kernel
theorem dX9_setVerse_6 : decode cX9_setVerse 6 = .ok (.ifCond .ne 5, 3) := by decide +kernel
theorem dX9_setVerse_9 : decode cX9_setVerse 9 = .ok (.iconst (-1), 1) := by decide +kernel
theorem dX9_setVerse_10 : decode cX9_setVerse 10 = .ok (.ireturn, 1) := by decide +kernel
theorem dX9_setVerse_11 : decode cX9_setVerse 11 = .ok (.iload_n 3, 1) := by decide +kernel
theorem dX9_setVerse_12 : decode cX9_setVerse 12 = .ok (.iconst 1, 1) := by decide +kernel
theorem dX9_setVerse_13 : decode cX9_setVerse 13 = .ok (.sipush 2000, 3) := by decide +kernel
theorem dX9_setVerse_16 : decode cX9_setVerse 16 = .ok (.invokestatic 62, 3) := by decide +kernel
theorem dX9_setVerse_19 : decode cX9_setVerse 19 = .ok (.ifCond .eq 14, 3) := by decide +kernel
theorem dX9_setVerse_22 : decode cX9_setVerse 22 = .ok (.iload 4, 2) := by decide +kernel
theorem dX9_setVerse_24 : decode cX9_setVerse 24 = .ok (.iconst 0, 1) := by decide +kernel
theorem dX9_setVerse_25 : decode cX9_setVerse 25 = .ok (.bipush 10, 2) := by decide +kernel
theorem dX9_setVerse_27 : decode cX9_setVerse 27 = .ok (.invokestatic 62, 3) := by decide +kernel
theorem dX9_setVerse_30 : decode cX9_setVerse 30 = .ok (.ifCond .ne 6, 3) := by decide +kernel
theorem dX9_setVerse_33 : decode cX9_setVerse 33 = .ok (.bipush (-2), 2) := by decide +kernel
theorem dX9_setVerse_35 : decode cX9_setVerse 35 = .ok (.ireturn, 1) := by decide +kernel
theorem dX9_setVerse_36 : decode cX9_setVerse 36 = .ok (.aload_n 0, 1) := by decide +kernel
theorem dX9_setVerse_37 : decode cX9_setVerse 37 = .ok (.getfield 19, 3) := by decide +kernel
theorem dX9_setVerse_40 : decode cX9_setVerse 40 = .ok (.aload_n 0, 1) := by decide +kernel
theorem dX9_setVerse_41 : decode cX9_setVerse 41 = .ok (.getfield 12, 3) := by decide +kernel
theorem dX9_setVerse_44 : decode cX9_setVerse 44 = .ok (.invokevirtual 80, 3) := by decide +kernel
theorem dX9_setVerse_47 : decode cX9_setVerse 47 = .ok (.aload_n 0, 1) := by decide +kernel
theorem dX9_setVerse_48 : decode cX9_setVerse 48 = .ok (.getfield 12, 3) := by decide +kernel
theorem dX9_setVerse_51 : decode cX9_setVerse 51 = .ok (.iload_n 1, 1) := by decide +kernel
theorem dX9_setVerse_52 : decode cX9_setVerse 52 = .ok (.invokevirtual 66, 3) := by decide +kernel
theorem dX9_setVerse_55 : decode cX9_setVerse 55 = .ok (.astore 5, 2) := by decide +kernel
theorem dX9_setVerse_57 : decode cX9_setVerse 57 = .ok (.aload 5, 2) := by decide +kernel
theorem dX9_setVerse_59 : decode cX9_setVerse 59 = .ok (.iload_n 2, 1) := by decide +kernel
theorem dX9_setVerse_60 : decode cX9_setVerse 60 = .ok (.invokevirtual 102, 3) := by decide +kernel
theorem dX9_setVerse_63 : decode cX9_setVerse 63 = .ok (.istore 6, 2) := by decide +kernel
theorem dX9_setVerse_65 : decode cX9_setVerse 65 = .ok (.aload 5, 2) := by decide +kernel
theorem dX9_setVerse_67 : decode cX9_setVerse 67 = .ok (.iload_n 2, 1) := by decide +kernel
theorem dX9_setVerse_68 : decode cX9_setVerse 68 = .ok (.iload_n 3, 1) := by decide +kernel
theorem dX9_setVerse_69 : decode cX9_setVerse 69 = .ok (.iload 4, 2) := by decide +kernel
theorem dX9_setVerse_71 : decode cX9_setVerse 71 = .ok (.invokevirtual 106, 3) := by decide +kernel
theorem dX9_setVerse_74 : decode cX9_setVerse 74 = .ok (.iload 6, 2) := by decide +kernel
theorem dX9_setVerse_76 : decode cX9_setVerse 76 = .ok (.ireturn, 1) := by decide +kernel
set_option maxRecDepth 20000 in
theorem ggX9_joinVerses_X9_isVerse : GoodIn wsX9_joinVerses wsX9_isVerse := goodIn_r _ [7, 1, 8, 9, 6, 10, 11, 12, 13, 14, 15, 16, 17, 18, 19, 20, 21, 22, 23, 119, 120, 121, 122, 123, 124, 125, 126, 127, 128, 129, 130, 131, 132] (by decide +kernel) (by decide +kernel)
set_option maxRecDepth 20000 in
theorem gX9_joinVerses_X9_isVerse : GoodIn wsX9_joinVerses (wsV RX9 98 RX9 yX9_isVerse wsX9_isVerse) := goodIn_app (goodIn_of _ (by decide +kernel)) ggX9_joinVerses_X9_isVerse
set_option maxRecDepth 20000 in
theorem ggX9_joinVerses_X7_bookOf : GoodIn wsX9_joinVerses wsX7_bookOf := goodIn_r _ [15, 16, 17, 126, 127, 128] (by decide +kernel) (by decide +kernel)
set_option maxRecDepth 20000 in
theorem gX9_joinVerses_X7_bookOf : GoodIn wsX9_joinVerses (wsV RX9 66 RX7 yX7_bookOf wsX7_bookOf) := goodIn_app (goodIn_of _ (by decide +kernel)) ggX9_joinVerses_X7_bookOf
set_option maxRecDepth 20000 in
theorem ggX9_joinVerses_X0_chapterOf : GoodIn wsX9_joinVerses wsX0_chapterOf := goodIn_r _ [27, 28, 29, 19, 20, 21, 22, 23, 30, 6, 31, 129, 130, 131, 132] (by decide +kernel) (by decide +kernel)
set_option maxRecDepth 20000 in
theorem gX9_joinVerses_X0_chapterOf : GoodIn wsX9_joinVerses (wsV RX9 110 RX0 yX0_chapterOf wsX0_chapterOf) := goodIn_app (goodIn_of _ (by decide +kernel)) ggX9_joinVerses_X0_chapterOf
set_option maxRecDepth 20000 in
theorem ggX9_joinVerses_X2_record : GoodIn wsX9_joinVerses wsX2_record := goodIn_r _ [36, 37, 38, 39, 40, 41, 35, 42, 43, 44, 45, 14, 46, 16, 17, 47, 48, 49, 50, 21, 51, 28, 52, 53, 23, 54, 6, 55, 56, 57, 58, 59, 60, 61, 62, 63, 64, 65, 66, 67, 68, 69, 70, 71, 133, 134, 126, 127, 128, 129, 130, 131, 132, 135, 136, 137] (by decide +kernel) (by decide +kernel)
set_option maxRecDepth 20000 in
theorem gX9_joinVerses_X2_record : GoodIn wsX9_joinVerses (wsV RX9 80 RX2 yX2_record wsX2_record) := goodIn_app (goodIn_of _ (by decide +kernel)) ggX9_joinVerses_X2_record
set_option maxRecDepth 20000 in
theorem ggX9_joinVerses_X1_groupOf : GoodIn wsX9_joinVerses wsX1_groupOf := goodIn_r _ [75, 71, 76, 77, 78, 67, 79, 69, 70, 80, 81, 82, 83, 30, 6, 31, 135, 136, 137] (by decide +kernel) (by decide +kernel)
set_option maxRecDepth 20000 in
theorem gX9_joinVerses_X1_groupOf : GoodIn wsX9_joinVerses (wsV RX9 113 RX1 yX1_groupOf wsX1_groupOf) := goodIn_app (goodIn_of _ (by decide +kernel)) ggX9_joinVerses_X1_groupOf
set_option maxRecDepth 20000 in
theorem ggX9_joinVerses_X1_merge : GoodIn wsX9_joinVerses wsX1_merge := goodIn_r _ [87, 69, 71, 70, 80, 81, 82, 67, 83, 88, 89, 90, 91, 76, 77, 78, 79, 30, 6, 31, 92, 93, 94, 95, 96, 97, 60, 61, 62, 63, 135, 136, 137] (by decide +kernel) (by decide +kernel)
set_option maxRecDepth 20000 in
theorem gX9_joinVerses_X1_merge : GoodIn wsX9_joinVerses (wsV RX9 117 RX1 yX1_merge wsX1_merge) := goodIn_app (goodIn_of _ (by decide +kernel)) ggX9_joinVerses_X1_merge
set_option maxRecDepth 20000 in
theorem ggX9_joinVerses_X1_resize : GoodIn wsX9_joinVerses wsX1_resize := goodIn_r _ [101, 76, 77, 78, 67, 79, 69, 70, 80, 81, 82, 83, 71, 30, 6, 31, 92, 93, 94, 95, 135, 136, 137] (by decide +kernel) (by decide +kernel)
set_option maxRecDepth 20000 in
theorem gX9_joinVerses_X1_resize : GoodIn wsX9_joinVerses (wsV RX9 120 RX1 yX1_resize wsX1_resize) := goodIn_app (goodIn_of _ (by decide +kernel)) ggX9_joinVerses_X1_resize
set_option maxRecDepth 20000 in
theorem ggX9_joinVerses_X0_joinWithNext : GoodIn wsX9_joinVerses wsX0_joinWithNext := goodIn_r _ [105, 106, 57, 58, 59, 28, 23, 52, 53, 29, 19, 20, 21, 22, 107, 108, 109, 110, 30, 6, 31, 111, 112, 113, 114, 115, 116, 117, 118, 96, 97, 60, 61, 62, 63, 129, 130, 131, 132] (by decide +kernel) (by decide +kernel)
set_option maxRecDepth 20000 in
theorem gX9_joinVerses_X0_joinWithNext : GoodIn wsX9_joinVerses (wsV RX9 123 RX0 yX0_joinWithNext wsX0_joinWithNext) := goodIn_app (goodIn_of _ (by decide +kernel)) ggX9_joinVerses_X0_joinWithNext
theorem dX9_joinVerses_0 : decode cX9_joinVerses 0 = .ok (.aload_n 0, 1) := by decide +kernel
theorem dX9_joinVerses_1 : decode cX9_joinVerses 1 = .ok (.iload_n 1, 1) := by decide +kernel
theorem dX9_joinVerses_2 : decode cX9_joinVerses 2 = .ok (.iload_n 2, 1) := by decide +kernel
theorem dX9_joinVerses_3 : decode cX9_joinVerses 3 = .ok (.invokevirtual 98, 3) := by decide +kernel
theorem dX9_joinVerses_6 : decode cX9_joinVerses 6 = .ok (.ifCond .ne 5, 3) := by decide +kernel
theorem dX9_joinVerses_9 : decode cX9_joinVerses 9 = .ok (.iconst (-1), 1) := by decide +kernel
theorem dX9_joinVerses_10 : decode cX9_joinVerses 10 = .ok (.ireturn, 1) := by decide +kernel
theorem dX9_joinVerses_11 : decode cX9_joinVerses 11 = .ok (.aload_n 0, 1) := by decide +kernel
theorem dX9_joinVerses_12 : decode cX9_joinVerses 12 = .ok (.getfield 12, 3) := by decide +kernel
theorem dX9_joinVerses_15 : decode cX9_joinVerses 15 = .ok (.iload_n 1, 1) := by decide +kernel
theorem dX9_joinVerses_16 : decode cX9_joinVerses 16 = .ok (.invokevirtual 66, 3) := by decide +kernel
theorem dX9_joinVerses_19 : decode cX9_joinVerses 19 = .ok (.astore_n 3, 1) := by decide +kernel
theorem dX9_joinVerses_20 : decode cX9_joinVerses 20 = .ok (.aload_n 3, 1) := by decide +kernel
theorem dX9_joinVerses_21 : decode cX9_joinVerses 21 = .ok (.iload_n 2, 1) := by decide +kernel
theorem dX9_joinVerses_22 : decode cX9_joinVerses 22 = .ok (.invokevirtual 110, 3) := by decide +kernel
theorem dX9_joinVerses_25 : decode cX9_joinVerses 25 = .ok (.aload_n 3, 1) := by decide +kernel
theorem dX9_joinVerses_26 : decode cX9_joinVerses 26 = .ok (.iload_n 2, 1) := by decide +kernel
theorem dX9_joinVerses_27 : decode cX9_joinVerses 27 = .ok (.iconst 1, 1) := by decide +kernel
theorem dX9_joinVerses_28 : decode cX9_joinVerses 28 = .ok (.iadd, 1) := by decide +kernel
theorem dX9_joinVerses_29 : decode cX9_joinVerses 29 = .ok (.invokevirtual 110, 3) := by decide +kernel
theorem dX9_joinVerses_32 : decode cX9_joinVerses 32 = .ok (.if_icmp .eq 6, 3) := by decide +kernel
theorem dX9_joinVerses_35 : decode cX9_joinVerses 35 = .ok (.bipush (-4), 2) := by decide +kernel
theorem dX9_joinVerses_37 : decode cX9_joinVerses 37 = .ok (.ireturn, 1) := by decide +kernel
theorem dX9_joinVerses_38 : decode cX9_joinVerses 38 = .ok (.aload_n 0, 1) := by decide +kernel
theorem dX9_joinVerses_39 : decode cX9_joinVerses 39 = .ok (.getfield 19, 3) := by decide +kernel
theorem dX9_joinVerses_42 : decode cX9_joinVerses 42 = .ok (.aload_n 0, 1) := by decide +kernel
theorem dX9_joinVerses_43 : decode cX9_joinVerses 43 = .ok (.getfield 12, 3) := by decide +kernel
theorem dX9_joinVerses_46 : decode cX9_joinVerses 46 = .ok (.invokevirtual 80, 3) := by decide +kernel
theorem dX9_joinVerses_49 : decode cX9_joinVerses 49 = .ok (.aload_n 0, 1) := by decide +kernel
theorem dX9_joinVerses_50 : decode cX9_joinVerses 50 = .ok (.getfield 12, 3) := by decide +kernel
theorem dX9_joinVerses_53 : decode cX9_joinVerses 53 = .ok (.getfield 88, 3) := by decide +kernel
theorem dX9_joinVerses_56 : decode cX9_joinVerses 56 = .ok (.iload_n 1, 1) := by decide +kernel
theorem dX9_joinVerses_57 : decode cX9_joinVerses 57 = .ok (.iload_n 2, 1) := by decide +kernel
theorem dX9_joinVerses_58 : decode cX9_joinVerses 58 = .ok (.invokevirtual 113, 3) := by decide +kernel
theorem dX9_joinVerses_61 : decode cX9_joinVerses 61 = .ok (.istore 4, 2) := by decide +kernel
theorem dX9_joinVerses_63 : decode cX9_joinVerses 63 = .ok (.aload_n 0, 1) := by decide +kernel
theorem dX9_joinVerses_64 : decode cX9_joinVerses 64 = .ok (.getfield 12, 3) := by decide +kernel
theorem dX9_joinVerses_67 : decode cX9_joinVerses 67 = .ok (.getfield 88, 3) := by decide +kernel
theorem dX9_joinVerses_70 : decode cX9_joinVerses 70 = .ok (.iload 4, 2) := by decide +kernel
theorem dX9_joinVerses_72 : decode cX9_joinVerses 72 = .ok (.aload_n 0, 1) := by decide +kernel
theorem dX9_joinVerses_73 : decode cX9_joinVerses 73 = .ok (.getfield 12, 3) := by decide +kernel
theorem dX9_joinVerses_76 : decode cX9_joinVerses 76 = .ok (.getfield 88, 3) := by decide +kernel
theorem dX9_joinVerses_79 : decode cX9_joinVerses 79 = .ok (.iload_n 1, 1) := by decide +kernel
theorem dX9_joinVerses_80 : decode cX9_joinVerses 80 = .ok (.iload_n 2, 1) := by decide +kernel
theorem dX9_joinVerses_81 : decode cX9_joinVerses 81 = .ok (.iconst 1, 1) := by decide +kernel
theorem dX9_joinVerses_82 : decode cX9_joinVerses 82 = .ok (.iadd, 1) := by decide +kernel
theorem dX9_joinVerses_83 : decode cX9_joinVerses 83 = .ok (.invokevirtual 113, 3) := by decide +kernel
theorem dX9_joinVerses_86 : decode cX9_joinVerses 86 = .ok (.invokevirtual 117, 3) := by decide +kernel
theorem dX9_joinVerses_89 : decode cX9_joinVerses 89 = .ok (.aload_n 0, 1) := by decide +kernel
theorem dX9_joinVerses_90 : decode cX9_joinVerses 90 = .ok (.getfield 12, 3) := by decide +kernel
theorem dX9_joinVerses_93 : decode cX9_joinVerses 93 = .ok (.getfield 88, 3) := by decide +kernel
theorem dX9_joinVerses_96 : decode cX9_joinVerses 96 = .ok (.iload 4, 2) := by decide +kernel
theorem dX9_joinVerses_98 : decode cX9_joinVerses 98 = .ok (.iload_n 1, 1) := by decide +kernel
theorem dX9_joinVerses_99 : decode cX9_joinVerses 99 = .ok (.iconst (-1), 1) := by decide +kernel
theorem dX9_joinVerses_100 : decode cX9_joinVerses 100 = .ok (.invokevirtual 120, 3) := by decide +kernel
theorem dX9_joinVerses_103 : decode cX9_joinVerses 103 = .ok (.aload_n 3, 1) := by decide +kernel
theorem dX9_joinVerses_104 : decode cX9_joinVerses 104 = .ok (.iload_n 2, 1) := by decide +kernel
theorem dX9_joinVerses_105 : decode cX9_joinVerses 105 = .ok (.invokevirtual 123, 3) := by decide +kernel
theorem dX9_joinVerses_108 : decode cX9_joinVerses 108 = .ok (.aload_n 3, 1) := by decide +kernel
theorem dX9_joinVerses_109 : decode cX9_joinVerses 109 = .ok (.getfield 76, 3) := by decide +kernel
theorem dX9_joinVerses_112 : decode cX9_joinVerses 112 = .ok (.ireturn, 1) := by decide +kernel
set_option maxRecDepth 20000 in
theorem ggX9_splitVerse_X9_isVerse : GoodIn wsX9_splitVerse wsX9_isVerse := goodIn_r _ [7, 1, 8, 9, 6, 10, 11, 12, 13, 14, 15, 16, 17, 18, 19, 20, 21, 22, 23, 118, 119, 120, 121, 122, 123, 124, 129, 130, 131, 125, 126, 127, 128] (by decide +kernel) (by decide +kernel)
set_option maxRecDepth 20000 in
theorem gX9_splitVerse_X9_isVerse : GoodIn wsX9_splitVerse (wsV RX9 98 RX9 yX9_isVerse wsX9_isVerse) := goodIn_app (goodIn_of _ (by decide +kernel)) ggX9_splitVerse_X9_isVerse
set_option maxRecDepth 20000 in
theorem ggX9_splitVerse_X9_isWithin : GoodIn wsX9_splitVerse wsX9_isWithin := goodIn_r _ [26] (by decide +kernel) (by decide +kernel)
set_option maxRecDepth 20000 in
theorem gX9_splitVerse_X9_isWithin : GoodIn wsX9_splitVerse (va_wsS RX9 62 yX9_isWithin wsX9_isWithin) := goodIn_app (goodIn_of _ (by decide +kernel)) ggX9_splitVerse_X9_isWithin
set_option maxRecDepth 20000 in
theorem ggX9_splitVerse_X7_bookOf : GoodIn wsX9_splitVerse wsX7_bookOf := goodIn_r _ [15, 16, 17, 129, 130, 131] (by decide +kernel) (by decide +kernel)
set_option maxRecDepth 20000 in
theorem gX9_splitVerse_X7_bookOf : GoodIn wsX9_splitVerse (wsV RX9 66 RX7 yX7_bookOf wsX7_bookOf) := goodIn_app (goodIn_of _ (by decide +kernel)) ggX9_splitVerse_X7_bookOf
set_option maxRecDepth 20000 in
theorem ggX9_splitVerse_X0_lettersOf : GoodIn wsX9_splitVerse wsX0_lettersOf := goodIn_r _ [30, 31, 32, 19, 20, 21, 22, 23, 33, 6, 34, 125, 126, 127, 128] (by decide +kernel) (by decide +kernel)
set_option maxRecDepth 20000 in
theorem gX9_splitVerse_X0_lettersOf : GoodIn wsX9_splitVerse (wsV RX9 102 RX0 yX0_lettersOf wsX0_lettersOf) := goodIn_app (goodIn_of _ (by decide +kernel)) ggX9_splitVerse_X0_lettersOf
set_option maxRecDepth 20000 in
theorem ggX9_splitVerse_X2_record : GoodIn wsX9_splitVerse wsX2_record := goodIn_r _ [39, 40, 41, 42, 43, 44, 38, 45, 46, 47, 48, 14, 49, 16, 17, 50, 51, 52, 53, 21, 54, 55, 31, 56, 23, 57, 6, 58, 59, 60, 61, 62, 63, 64, 65, 66, 67, 68, 69, 70, 71, 72, 73, 74, 132, 133, 129, 130, 131, 125, 126, 127, 128, 134, 135, 136] (by decide +kernel) (by decide +kernel)
set_option maxRecDepth 20000 in
theorem gX9_splitVerse_X2_record : GoodIn wsX9_splitVerse (wsV RX9 80 RX2 yX2_record wsX2_record) := goodIn_app (goodIn_of _ (by decide +kernel)) ggX9_splitVerse_X2_record
set_option maxRecDepth 20000 in
theorem ggX9_splitVerse_X1_groupOf : GoodIn wsX9_splitVerse wsX1_groupOf := goodIn_r _ [78, 74, 79, 80, 81, 70, 82, 72, 73, 83, 84, 85, 86, 33, 6, 34, 134, 135, 136] (by decide +kernel) (by decide +kernel)
set_option maxRecDepth 20000 in
theorem gX9_splitVerse_X1_groupOf : GoodIn wsX9_splitVerse (wsV RX9 113 RX1 yX1_groupOf wsX1_groupOf) := goodIn_app (goodIn_of _ (by decide +kernel)) ggX9_splitVerse_X1_groupOf
set_option maxRecDepth 20000 in
theorem ggX9_splitVerse_X1_resize : GoodIn wsX9_splitVerse wsX1_resize := goodIn_r _ [90, 79, 80, 81, 70, 82, 72, 73, 83, 84, 85, 86, 74, 33, 6, 34, 91, 92, 93, 94, 134, 135, 136] (by decide +kernel) (by decide +kernel)
set_option maxRecDepth 20000 in
theorem gX9_splitVerse_X1_resize : GoodIn wsX9_splitVerse (wsV RX9 120 RX1 yX1_resize wsX1_resize) := goodIn_app (goodIn_of _ (by decide +kernel)) ggX9_splitVerse_X1_resize
set_option maxRecDepth 20000 in
theorem ggX9_splitVerse_X0_splitBehind : GoodIn wsX9_splitVerse wsX0_splitBehind := goodIn_r _ [98, 99, 28, 29, 21, 30, 31, 32, 19, 20, 22, 23, 33, 6, 34, 100, 101, 102, 103, 56, 104, 105, 106, 107, 108, 109, 110, 111, 55, 112, 113, 114, 115, 116, 117, 63, 64, 65, 66, 125, 126, 127, 128] (by decide +kernel) (by decide +kernel)
set_option maxRecDepth 20000 in
theorem gX9_splitVerse_X0_splitBehind : GoodIn wsX9_splitVerse (wsV RX9 127 RX0 yX0_splitBehind wsX0_splitBehind) := goodIn_app (goodIn_of _ (by decide +kernel)) ggX9_splitVerse_X0_splitBehind
theorem dX9_splitVerse_0 : decode cX9_splitVerse 0 = .ok (.aload_n 0, 1) := by decide +kernel
theorem dX9_splitVerse_1 : decode cX9_splitVerse 1 = .ok (.iload_n 1, 1) := by decide +kernel
theorem dX9_splitVerse_2 : decode cX9_splitVerse 2 = .ok (.iload_n 2, 1) := by decide +kernel
theorem dX9_splitVerse_3 : decode cX9_splitVerse 3 = .ok (.invokevirtual 98, 3) := by decide +kernel
theorem dX9_splitVerse_6 : decode cX9_splitVerse 6 = .ok (.ifCond .ne 5, 3) := by decide +kernel
theorem dX9_splitVerse_9 : decode cX9_splitVerse 9 = .ok (.iconst (-1), 1) := by decide +kernel
theorem dX9_splitVerse_10 : decode cX9_splitVerse 10 = .ok (.ireturn, 1) := by decide +kernel
theorem dX9_splitVerse_11 : decode cX9_splitVerse 11 = .ok (.iload_n 3, 1) := by decide +kernel
theorem dX9_splitVerse_12 : decode cX9_splitVerse 12 = .ok (.iconst 1, 1) := by decide +kernel
theorem dX9_splitVerse_13 : decode cX9_splitVerse 13 = .ok (.sipush 1999, 3) := by decide +kernel
theorem dX9_splitVerse_16 : decode cX9_splitVerse 16 = .ok (.invokestatic 62, 3) := by decide +kernel
theorem dX9_splitVerse_19 : decode cX9_splitVerse 19 = .ok (.ifCond .ne 6, 3) := by decide +kernel
theorem dX9_splitVerse_22 : decode cX9_splitVerse 22 = .ok (.bipush (-2), 2) := by decide +kernel
theorem dX9_splitVerse_24 : decode cX9_splitVerse 24 = .ok (.ireturn, 1) := by decide +kernel
theorem dX9_splitVerse_25 : decode cX9_splitVerse 25 = .ok (.aload_n 0, 1) := by decide +kernel
theorem dX9_splitVerse_26 : decode cX9_splitVerse 26 = .ok (.getfield 12, 3) := by decide +kernel
theorem dX9_splitVerse_29 : decode cX9_splitVerse 29 = .ok (.iload_n 1, 1) := by decide +kernel
theorem dX9_splitVerse_30 : decode cX9_splitVerse 30 = .ok (.invokevirtual 66, 3) := by decide +kernel
theorem dX9_splitVerse_33 : decode cX9_splitVerse 33 = .ok (.astore 4, 2) := by decide +kernel
theorem dX9_splitVerse_35 : decode cX9_splitVerse 35 = .ok (.iload_n 3, 1) := by decide +kernel
theorem dX9_splitVerse_36 : decode cX9_splitVerse 36 = .ok (.aload 4, 2) := by decide +kernel
theorem dX9_splitVerse_38 : decode cX9_splitVerse 38 = .ok (.iload_n 2, 1) := by decide +kernel
theorem dX9_splitVerse_39 : decode cX9_splitVerse 39 = .ok (.invokevirtual 102, 3) := by decide +kernel
theorem dX9_splitVerse_42 : decode cX9_splitVerse 42 = .ok (.if_icmp .lt 6, 3) := by decide +kernel
theorem dX9_splitVerse_45 : decode cX9_splitVerse 45 = .ok (.bipush (-4), 2) := by decide +kernel
theorem dX9_splitVerse_47 : decode cX9_splitVerse 47 = .ok (.ireturn, 1) := by decide +kernel
theorem dX9_splitVerse_48 : decode cX9_splitVerse 48 = .ok (.aload 4, 2) := by decide +kernel
theorem dX9_splitVerse_50 : decode cX9_splitVerse 50 = .ok (.getfield 76, 3) := by decide +kernel
theorem dX9_splitVerse_53 : decode cX9_splitVerse 53 = .ok (.bipush 60, 2) := by decide +kernel
theorem dX9_splitVerse_55 : decode cX9_splitVerse 55 = .ok (.if_icmp .lt 6, 3) := by decide +kernel
theorem dX9_splitVerse_58 : decode cX9_splitVerse 58 = .ok (.bipush (-3), 2) := by decide +kernel
theorem dX9_splitVerse_60 : decode cX9_splitVerse 60 = .ok (.ireturn, 1) := by decide +kernel
theorem dX9_splitVerse_61 : decode cX9_splitVerse 61 = .ok (.aload_n 0, 1) := by decide +kernel
theorem dX9_splitVerse_62 : decode cX9_splitVerse 62 = .ok (.getfield 19, 3) := by decide +kernel
theorem dX9_splitVerse_65 : decode cX9_splitVerse 65 = .ok (.aload_n 0, 1) := by decide +kernel
theorem dX9_splitVerse_66 : decode cX9_splitVerse 66 = .ok (.getfield 12, 3) := by decide +kernel
theorem dX9_splitVerse_69 : decode cX9_splitVerse 69 = .ok (.invokevirtual 80, 3) := by decide +kernel
theorem dX9_splitVerse_72 : decode cX9_splitVerse 72 = .ok (.aload_n 0, 1) := by decide +kernel
theorem dX9_splitVerse_73 : decode cX9_splitVerse 73 = .ok (.getfield 12, 3) := by decide +kernel
theorem dX9_splitVerse_76 : decode cX9_splitVerse 76 = .ok (.getfield 88, 3) := by decide +kernel
theorem dX9_splitVerse_79 : decode cX9_splitVerse 79 = .ok (.aload_n 0, 1) := by decide +kernel
theorem dX9_splitVerse_80 : decode cX9_splitVerse 80 = .ok (.getfield 12, 3) := by decide +kernel
theorem dX9_splitVerse_83 : decode cX9_splitVerse 83 = .ok (.getfield 88, 3) := by decide +kernel
theorem dX9_splitVerse_86 : decode cX9_splitVerse 86 = .ok (.iload_n 1, 1) := by decide +kernel
theorem dX9_splitVerse_87 : decode cX9_splitVerse 87 = .ok (.iload_n 2, 1) := by decide +kernel
theorem dX9_splitVerse_88 : decode cX9_splitVerse 88 = .ok (.invokevirtual 113, 3) := by decide +kernel
theorem dX9_splitVerse_91 : decode cX9_splitVerse 91 = .ok (.iload_n 1, 1) := by decide +kernel
theorem dX9_splitVerse_92 : decode cX9_splitVerse 92 = .ok (.iconst 1, 1) := by decide +kernel
theorem dX9_splitVerse_93 : decode cX9_splitVerse 93 = .ok (.invokevirtual 120, 3) := by decide +kernel
theorem dX9_splitVerse_96 : decode cX9_splitVerse 96 = .ok (.aload 4, 2) := by decide +kernel
theorem dX9_splitVerse_98 : decode cX9_splitVerse 98 = .ok (.iload_n 2, 1) := by decide +kernel
theorem dX9_splitVerse_99 : decode cX9_splitVerse 99 = .ok (.iload_n 3, 1) := by decide +kernel
theorem dX9_splitVerse_100 : decode cX9_splitVerse 100 = .ok (.invokevirtual 127, 3) := by decide +kernel
theorem dX9_splitVerse_103 : decode cX9_splitVerse 103 = .ok (.aload 4, 2) := by decide +kernel
theorem dX9_splitVerse_105 : decode cX9_splitVerse 105 = .ok (.getfield 76, 3) := by decide +kernel
theorem dX9_splitVerse_108 : decode cX9_splitVerse 108 = .ok (.ireturn, 1) := by decide +kernel
set_option maxRecDepth 20000 in
theorem ggX9_link_X1_has : GoodIn wsX9_link wsX1_has := goodIn_r _ [7, 8, 85, 86, 87] (by decide +kernel) (by decide +kernel)
set_option maxRecDepth 20000 in
theorem gX9_link_X1_has : GoodIn wsX9_link (wsV RX9 130 RX1 yX1_has wsX1_has) := goodIn_app (goodIn_of _ (by decide +kernel)) ggX9_link_X1_has
set_option maxRecDepth 20000 in
theorem ggX9_link_X2_record : GoodIn wsX9_link wsX2_record := goodIn_r _ [13, 14, 15, 16, 17, 18, 12, 19, 20, 21, 22, 23, 24, 25, 26, 27, 28, 29, 30, 31, 32, 33, 34, 35, 36, 37, 38, 39, 40, 41, 42, 43, 44, 45, 46, 47, 48, 49, 50, 6, 51, 52, 53, 8, 88, 89, 82, 83, 84, 90, 91, 92, 93, 85, 86, 87] (by decide +kernel) (by decide +kernel)
set_option maxRecDepth 20000 in
theorem gX9_link_X2_record : GoodIn wsX9_link (wsV RX9 80 RX2 yX2_record wsX2_record) := goodIn_app (goodIn_of _ (by decide +kernel)) ggX9_link_X2_record
set_option maxRecDepth 20000 in
theorem ggX9_link_X1_merge : GoodIn wsX9_link wsX1_merge := goodIn_r _ [57, 52, 8, 53, 58, 4, 5, 6, 7, 59, 60, 61, 62, 63, 64, 65, 66, 67, 38, 68, 69, 70, 71, 72, 73, 74, 44, 45, 46, 47, 85, 86, 87] (by decide +kernel) (by decide +kernel)
set_option maxRecDepth 20000 in
theorem gX9_link_X1_merge : GoodIn wsX9_link (wsV RX9 117 RX1 yX1_merge wsX1_merge) := goodIn_app (goodIn_of _ (by decide +kernel)) ggX9_link_X1_merge
theorem dX9_link_0 : decode cX9_link 0 = .ok (.aload_n 0, 1) := by decide +kernel
theorem dX9_link_1 : decode cX9_link 1 = .ok (.getfield 12, 3) := by decide +kernel
theorem dX9_link_4 : decode cX9_link 4 = .ok (.getfield 88, 3) := by decide +kernel
theorem dX9_link_7 : decode cX9_link 7 = .ok (.iload_n 1, 1) := by decide +kernel
theorem dX9_link_8 : decode cX9_link 8 = .ok (.invokevirtual 130, 3) := by decide +kernel
theorem dX9_link_11 : decode cX9_link 11 = .ok (.ifCond .ne 5, 3) := by decide +kernel
theorem dX9_link_14 : decode cX9_link 14 = .ok (.iconst (-1), 1) := by decide +kernel
theorem dX9_link_15 : decode cX9_link 15 = .ok (.ireturn, 1) := by decide +kernel
theorem dX9_link_16 : decode cX9_link 16 = .ok (.aload_n 0, 1) := by decide +kernel
theorem dX9_link_17 : decode cX9_link 17 = .ok (.getfield 12, 3) := by decide +kernel
theorem dX9_link_20 : decode cX9_link 20 = .ok (.getfield 88, 3) := by decide +kernel
theorem dX9_link_23 : decode cX9_link 23 = .ok (.iload_n 1, 1) := by decide +kernel
theorem dX9_link_24 : decode cX9_link 24 = .ok (.iconst 1, 1) := by decide +kernel
theorem dX9_link_25 : decode cX9_link 25 = .ok (.iadd, 1) := by decide +kernel
theorem dX9_link_26 : decode cX9_link 26 = .ok (.invokevirtual 130, 3) := by decide +kernel
theorem dX9_link_29 : decode cX9_link 29 = .ok (.ifCond .ne 6, 3) := by decide +kernel
theorem dX9_link_32 : decode cX9_link 32 = .ok (.bipush (-4), 2) := by decide +kernel
theorem dX9_link_34 : decode cX9_link 34 = .ok (.ireturn, 1) := by decide +kernel
theorem dX9_link_35 : decode cX9_link 35 = .ok (.aload_n 0, 1) := by decide +kernel
theorem dX9_link_36 : decode cX9_link 36 = .ok (.getfield 19, 3) := by decide +kernel
theorem dX9_link_39 : decode cX9_link 39 = .ok (.aload_n 0, 1) := by decide +kernel
theorem dX9_link_40 : decode cX9_link 40 = .ok (.getfield 12, 3) := by decide +kernel
theorem dX9_link_43 : decode cX9_link 43 = .ok (.invokevirtual 80, 3) := by decide +kernel
theorem dX9_link_46 : decode cX9_link 46 = .ok (.aload_n 0, 1) := by decide +kernel
theorem dX9_link_47 : decode cX9_link 47 = .ok (.getfield 12, 3) := by decide +kernel
theorem dX9_link_50 : decode cX9_link 50 = .ok (.getfield 88, 3) := by decide +kernel
theorem dX9_link_53 : decode cX9_link 53 = .ok (.iload_n 1, 1) := by decide +kernel
theorem dX9_link_54 : decode cX9_link 54 = .ok (.iload_n 1, 1) := by decide +kernel
theorem dX9_link_55 : decode cX9_link 55 = .ok (.iconst 1, 1) := by decide +kernel
theorem dX9_link_56 : decode cX9_link 56 = .ok (.iadd, 1) := by decide +kernel
theorem dX9_link_57 : decode cX9_link 57 = .ok (.invokevirtual 117, 3) := by decide +kernel
theorem dX9_link_60 : decode cX9_link 60 = .ok (.aload_n 0, 1) := by decide +kernel
theorem dX9_link_61 : decode cX9_link 61 = .ok (.getfield 12, 3) := by decide +kernel
theorem dX9_link_64 : decode cX9_link 64 = .ok (.getfield 88, 3) := by decide +kernel
theorem dX9_link_67 : decode cX9_link 67 = .ok (.getfield 133, 3) := by decide +kernel
theorem dX9_link_70 : decode cX9_link 70 = .ok (.ireturn, 1) := by decide +kernel
set_option maxRecDepth 20000 in
theorem ggX9_part_X1_has : GoodIn wsX9_part wsX1_has := goodIn_r _ [7, 8, 85, 86, 87] (by decide +kernel) (by decide +kernel)
set_option maxRecDepth 20000 in
theorem gX9_part_X1_has : GoodIn wsX9_part (wsV RX9 130 RX1 yX1_has wsX1_has) := goodIn_app (goodIn_of _ (by decide +kernel)) ggX9_part_X1_has
set_option maxRecDepth 20000 in
theorem ggX9_part_X9_isWithin : GoodIn wsX9_part wsX9_isWithin := goodIn_r _ [12] (by decide +kernel) (by decide +kernel)
set_option maxRecDepth 20000 in
theorem gX9_part_X9_isWithin : GoodIn wsX9_part (va_wsS RX9 62 yX9_isWithin wsX9_isWithin) := goodIn_app (goodIn_of _ (by decide +kernel)) ggX9_part_X9_isWithin
set_option maxRecDepth 20000 in
theorem ggX9_part_X1_sizeOf : GoodIn wsX9_part wsX1_sizeOf := goodIn_r _ [16, 17, 18, 19, 4, 5, 6, 7, 8, 20, 11, 21, 85, 86, 87] (by decide +kernel) (by decide +kernel)
set_option maxRecDepth 20000 in
theorem gX9_part_X1_sizeOf : GoodIn wsX9_part (wsV RX9 136 RX1 yX1_sizeOf wsX1_sizeOf) := goodIn_app (goodIn_of _ (by decide +kernel)) ggX9_part_X1_sizeOf
set_option maxRecDepth 20000 in
theorem ggX9_part_X2_record : GoodIn wsX9_part wsX2_record := goodIn_r _ [26, 27, 28, 29, 30, 31, 25, 32, 33, 34, 35, 36, 37, 38, 39, 40, 41, 42, 43, 44, 45, 46, 47, 48, 49, 50, 11, 51, 52, 53, 54, 55, 56, 57, 58, 59, 60, 61, 62, 6, 63, 17, 18, 8, 88, 89, 82, 83, 84, 90, 91, 92, 93, 85, 86, 87] (by decide +kernel) (by decide +kernel)
set_option maxRecDepth 20000 in
theorem gX9_part_X2_record : GoodIn wsX9_part (wsV RX9 80 RX2 yX2_record wsX2_record) := goodIn_app (goodIn_of _ (by decide +kernel)) ggX9_part_X2_record
set_option maxRecDepth 20000 in
theorem ggX9_part_X1_cut : GoodIn wsX9_part wsX1_cut := goodIn_r _ [67, 8, 17, 18, 19, 4, 5, 6, 7, 68, 14, 15, 16, 20, 11, 21, 69, 70, 56, 57, 58, 59, 71, 72, 73, 74, 85, 86, 87] (by decide +kernel) (by decide +kernel)
set_option maxRecDepth 20000 in
theorem gX9_part_X1_cut : GoodIn wsX9_part (wsV RX9 139 RX1 yX1_cut wsX1_cut) := goodIn_app (goodIn_of _ (by decide +kernel)) ggX9_part_X1_cut
theorem dX9_part_0 : decode cX9_part 0 = .ok (.aload_n 0, 1) := by decide +kernel
theorem dX9_part_1 : decode cX9_part 1 = .ok (.getfield 12, 3) := by decide +kernel
theorem dX9_part_4 : decode cX9_part 4 = .ok (.getfield 88, 3) := by decide +kernel
theorem dX9_part_7 : decode cX9_part 7 = .ok (.iload_n 1, 1) := by decide +kernel
theorem dX9_part_8 : decode cX9_part 8 = .ok (.invokevirtual 130, 3) := by decide +kernel
theorem dX9_part_11 : decode cX9_part 11 = .ok (.ifCond .ne 5, 3) := by decide +kernel
theorem dX9_part_14 : decode cX9_part 14 = .ok (.iconst (-1), 1) := by decide +kernel
theorem dX9_part_15 : decode cX9_part 15 = .ok (.ireturn, 1) := by decide +kernel
theorem dX9_part_16 : decode cX9_part 16 = .ok (.iload_n 2, 1) := by decide +kernel
theorem dX9_part_17 : decode cX9_part 17 = .ok (.iconst 0, 1) := by decide +kernel
theorem dX9_part_18 : decode cX9_part 18 = .ok (.bipush 60, 2) := by decide +kernel
theorem dX9_part_20 : decode cX9_part 20 = .ok (.invokestatic 62, 3) := by decide +kernel
theorem dX9_part_23 : decode cX9_part 23 = .ok (.ifCond .eq 13, 3) := by decide +kernel
theorem dX9_part_26 : decode cX9_part 26 = .ok (.iload_n 3, 1) := by decide +kernel
theorem dX9_part_27 : decode cX9_part 27 = .ok (.iconst 0, 1) := by decide +kernel
theorem dX9_part_28 : decode cX9_part 28 = .ok (.bipush 60, 2) := by decide +kernel
theorem dX9_part_30 : decode cX9_part 30 = .ok (.invokestatic 62, 3) := by decide +kernel
theorem dX9_part_33 : decode cX9_part 33 = .ok (.ifCond .ne 6, 3) := by decide +kernel
theorem dX9_part_36 : decode cX9_part 36 = .ok (.bipush (-2), 2) := by decide +kernel
theorem dX9_part_38 : decode cX9_part 38 = .ok (.ireturn, 1) := by decide +kernel
theorem dX9_part_39 : decode cX9_part 39 = .ok (.aload_n 0, 1) := by decide +kernel
theorem dX9_part_40 : decode cX9_part 40 = .ok (.getfield 12, 3) := by decide +kernel
theorem dX9_part_43 : decode cX9_part 43 = .ok (.getfield 88, 3) := by decide +kernel
theorem dX9_part_46 : decode cX9_part 46 = .ok (.iload_n 1, 1) := by decide +kernel
theorem dX9_part_47 : decode cX9_part 47 = .ok (.iconst 0, 1) := by decide +kernel
theorem dX9_part_48 : decode cX9_part 48 = .ok (.invokevirtual 136, 3) := by decide +kernel
theorem dX9_part_51 : decode cX9_part 51 = .ok (.iload_n 2, 1) := by decide +kernel
theorem dX9_part_52 : decode cX9_part 52 = .ok (.isub, 1) := by decide +kernel
theorem dX9_part_53 : decode cX9_part 53 = .ok (.istore 4, 2) := by decide +kernel
theorem dX9_part_55 : decode cX9_part 55 = .ok (.aload_n 0, 1) := by decide +kernel
theorem dX9_part_56 : decode cX9_part 56 = .ok (.getfield 12, 3) := by decide +kernel
theorem dX9_part_59 : decode cX9_part 59 = .ok (.getfield 88, 3) := by decide +kernel
theorem dX9_part_62 : decode cX9_part 62 = .ok (.iload_n 1, 1) := by decide +kernel
theorem dX9_part_63 : decode cX9_part 63 = .ok (.iconst 1, 1) := by decide +kernel
theorem dX9_part_64 : decode cX9_part 64 = .ok (.invokevirtual 136, 3) := by decide +kernel
theorem dX9_part_67 : decode cX9_part 67 = .ok (.iload_n 3, 1) := by decide +kernel
theorem dX9_part_68 : decode cX9_part 68 = .ok (.isub, 1) := by decide +kernel
theorem dX9_part_69 : decode cX9_part 69 = .ok (.istore 5, 2) := by decide +kernel
theorem dX9_part_71 : decode cX9_part 71 = .ok (.iload 4, 2) := by decide +kernel
theorem dX9_part_73 : decode cX9_part 73 = .ok (.ifCond .lt 22, 3) := by decide +kernel
theorem dX9_part_76 : decode cX9_part 76 = .ok (.iload 5, 2) := by decide +kernel
theorem dX9_part_78 : decode cX9_part 78 = .ok (.ifCond .lt 17, 3) := by decide +kernel
theorem dX9_part_81 : decode cX9_part 81 = .ok (.iload_n 2, 1) := by decide +kernel
theorem dX9_part_82 : decode cX9_part 82 = .ok (.iload_n 3, 1) := by decide +kernel
theorem dX9_part_83 : decode cX9_part 83 = .ok (.iadd, 1) := by decide +kernel
theorem dX9_part_84 : decode cX9_part 84 = .ok (.ifCond .eq 11, 3) := by decide +kernel
theorem dX9_part_87 : decode cX9_part 87 = .ok (.iload 4, 2) := by decide +kernel
theorem dX9_part_89 : decode cX9_part 89 = .ok (.iload 5, 2) := by decide +kernel
theorem dX9_part_91 : decode cX9_part 91 = .ok (.iadd, 1) := by decide +kernel
theorem dX9_part_92 : decode cX9_part 92 = .ok (.ifCond .ne 6, 3) := by decide +kernel
theorem dX9_part_95 : decode cX9_part 95 = .ok (.bipush (-4), 2) := by decide +kernel
theorem dX9_part_97 : decode cX9_part 97 = .ok (.ireturn, 1) := by decide +kernel
theorem dX9_part_98 : decode cX9_part 98 = .ok (.aload_n 0, 1) := by decide +kernel
theorem dX9_part_99 : decode cX9_part 99 = .ok (.getfield 19, 3) := by decide +kernel
theorem dX9_part_102 : decode cX9_part 102 = .ok (.aload_n 0, 1) := by decide +kernel
theorem dX9_part_103 : decode cX9_part 103 = .ok (.getfield 12, 3) := by decide +kernel
theorem dX9_part_106 : decode cX9_part 106 = .ok (.invokevirtual 80, 3) := by decide +kernel
theorem dX9_part_109 : decode cX9_part 109 = .ok (.aload_n 0, 1) := by decide +kernel
theorem dX9_part_110 : decode cX9_part 110 = .ok (.getfield 12, 3) := by decide +kernel
theorem dX9_part_113 : decode cX9_part 113 = .ok (.getfield 88, 3) := by decide +kernel
theorem dX9_part_116 : decode cX9_part 116 = .ok (.iload_n 1, 1) := by decide +kernel
theorem dX9_part_117 : decode cX9_part 117 = .ok (.iload_n 2, 1) := by decide +kernel
theorem dX9_part_118 : decode cX9_part 118 = .ok (.iload_n 3, 1) := by decide +kernel
theorem dX9_part_119 : decode cX9_part 119 = .ok (.invokevirtual 139, 3) := by decide +kernel
theorem dX9_part_122 : decode cX9_part 122 = .ok (.aload_n 0, 1) := by decide +kernel
theorem dX9_part_123 : decode cX9_part 123 = .ok (.getfield 12, 3) := by decide +kernel
theorem dX9_part_126 : decode cX9_part 126 = .ok (.getfield 88, 3) := by decide +kernel
theorem dX9_part_129 : decode cX9_part 129 = .ok (.getfield 133, 3) := by decide +kernel
theorem dX9_part_132 : decode cX9_part 132 = .ok (.ireturn, 1) := by decide +kernel
