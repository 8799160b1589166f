theorem dX9_refer_52 : decode cX9_refer 52 = .ok (.aload_n 0, 1) := by decide +kernel
theorem dX9_refer_53 : decode cX9_refer 53 = .ok (.getfield 47, 3) := by decide +kernel
theorem dX9_refer_56 : decode cX9_refer 56 = .ok (.aload_n 0, 1) := by decide +kernel
theorem dX9_refer_57 : decode cX9_refer 57 = .ok (.getfield 12, 3) := by decide +kernel
theorem dX9_refer_60 : decode cX9_refer 60 = .ok (.getfield 88, 3) := by decide +kernel
theorem dX9_refer_63 : decode cX9_refer 63 = .ok (.iload_n 1, 1) := by decide +kernel
theorem dX9_refer_64 : decode cX9_refer 64 = .ok (.aload_n 0, 1) := by decide +kernel
theorem dX9_refer_65 : decode cX9_refer 65 = .ok (.getfield 33, 3) := by decide +kernel
theorem dX9_refer_68 : decode cX9_refer 68 = .ok (.getfield 188, 3) := by decide +kernel
theorem dX9_refer_71 : decode cX9_refer 71 = .ok (.aload_n 0, 1) := by decide +kernel
theorem dX9_refer_72 : decode cX9_refer 72 = .ok (.getfield 33, 3) := by decide +kernel
theorem dX9_refer_75 : decode cX9_refer 75 = .ok (.getfield 191, 3) := by decide +kernel
theorem dX9_refer_78 : decode cX9_refer 78 = .ok (.invokevirtual 194, 3) := by decide +kernel
theorem dX9_refer_81 : decode cX9_refer 81 = .ok (.aload_n 0, 1) := by decide +kernel
theorem dX9_refer_82 : decode cX9_refer 82 = .ok (.getfield 47, 3) := by decide +kernel
theorem dX9_refer_85 : decode cX9_refer 85 = .ok (.iload_n 2, 1) := by decide +kernel
theorem dX9_refer_86 : decode cX9_refer 86 = .ok (.invokevirtual 198, 3) := by decide +kernel
theorem dX9_refer_89 : decode cX9_refer 89 = .ok (.ireturn, 1) := by decide +kernel
set_option maxRecDepth 20000 in
theorem ggX9_beside_X9_isVerse : GoodIn wsX9_beside wsX9_isVerse := goodIn_r _ [6, 1, 7, 8, 5, 9, 10, 11, 12, 13, 14, 15, 16, 17, 18, 19, 20, 21, 22, 52, 53, 54, 55, 56, 57, 58, 59, 60, 61, 62, 63, 64, 65] (by decide +kernel) (by decide +kernel)
set_option maxRecDepth 20000 in
theorem gX9_beside_X9_isVerse : GoodIn wsX9_beside (wsV RX9 98 RX9 yX9_isVerse wsX9_isVerse) := goodIn_app (goodIn_of _ (by decide +kernel)) ggX9_beside_X9_isVerse
set_option maxRecDepth 20000 in
theorem ggX9_beside_X9_isWithin : GoodIn wsX9_beside wsX9_isWithin := goodIn_r _ [25] (by decide +kernel) (by decide +kernel)
set_option maxRecDepth 20000 in
theorem gX9_beside_X9_isWithin : GoodIn wsX9_beside (va_wsS RX9 62 yX9_isWithin wsX9_isWithin) := goodIn_app (goodIn_of _ (by decide +kernel)) ggX9_beside_X9_isWithin
set_option maxRecDepth 20000 in
theorem ggX9_beside_X1_groupOf : GoodIn wsX9_beside wsX1_groupOf := goodIn_r _ [30, 31, 32, 33, 34, 29, 35, 36, 37, 38, 39, 40, 41, 42, 5, 43, 66, 67, 68] (by decide +kernel) (by decide +kernel)
set_option maxRecDepth 20000 in
theorem gX9_beside_X1_groupOf : GoodIn wsX9_beside (wsV RX9 113 RX1 yX1_groupOf wsX1_groupOf) := goodIn_app (goodIn_of _ (by decide +kernel)) ggX9_beside_X1_groupOf
set_option maxRecDepth 20000 in
theorem ggX9_beside_X9_otherBook : GoodIn wsX9_beside wsX9_otherBook := goodIn_r _ [46] (by decide +kernel) (by decide +kernel)
set_option maxRecDepth 20000 in
theorem gX9_beside_X9_otherBook : GoodIn wsX9_beside (va_wsS RX9 201 yX9_otherBook wsX9_otherBook) := goodIn_app (goodIn_of _ (by decide +kernel)) ggX9_beside_X9_otherBook
set_option maxRecDepth 20000 in
theorem ggX9_beside_X1_sizeOf : GoodIn wsX9_beside wsX1_sizeOf := goodIn_r _ [35, 36, 37, 38, 39, 40, 29, 41, 31, 42, 5, 43, 66, 67, 68] (by decide +kernel) (by decide +kernel)
set_option maxRecDepth 20000 in
theorem gX9_beside_X1_sizeOf : GoodIn wsX9_beside (wsV RX9 136 RX1 yX1_sizeOf wsX1_sizeOf) := goodIn_app (goodIn_of _ (by decide +kernel)) ggX9_beside_X1_sizeOf
set_option maxRecDepth 20000 in
theorem ggX9_beside_X1_firstOf : GoodIn wsX9_beside wsX1_firstOf := goodIn_r _ [51, 31, 32, 33, 34, 29, 35, 36, 37, 38, 39, 40, 41, 42, 5, 43, 66, 67, 68] (by decide +kernel) (by decide +kernel)
set_option maxRecDepth 20000 in
theorem gX9_beside_X1_firstOf : GoodIn wsX9_beside (wsV RX9 204 RX1 yX1_firstOf wsX1_firstOf) := goodIn_app (goodIn_of _ (by decide +kernel)) ggX9_beside_X1_firstOf
theorem dX9_beside_0 : decode cX9_beside 0 = .ok (.aload_n 0, 1) := by decide +kernel
theorem dX9_beside_1 : decode cX9_beside 1 = .ok (.iload_n 1, 1) := by decide +kernel
theorem dX9_beside_2 : decode cX9_beside 2 = .ok (.iload_n 2, 1) := by decide +kernel
theorem dX9_beside_3 : decode cX9_beside 3 = .ok (.invokevirtual 98, 3) := by decide +kernel
theorem dX9_beside_6 : decode cX9_beside 6 = .ok (.ifCond .ne 5, 3) := by decide +kernel
theorem dX9_beside_9 : decode cX9_beside 9 = .ok (.iconst (-1), 1) := by decide +kernel
theorem dX9_beside_10 : decode cX9_beside 10 = .ok (.ireturn, 1) := by decide +kernel
theorem dX9_beside_11 : decode cX9_beside 11 = .ok (.iload_n 3, 1) := by decide +kernel
theorem dX9_beside_12 : decode cX9_beside 12 = .ok (.iconst 0, 1) := by decide +kernel
theorem dX9_beside_13 : decode cX9_beside 13 = .ok (.iconst 2, 1) := by decide +kernel
theorem dX9_beside_14 : decode cX9_beside 14 = .ok (.invokestatic 62, 3) := by decide +kernel
theorem dX9_beside_17 : decode cX9_beside 17 = .ok (.ifCond .ne 6, 3) := by decide +kernel
theorem dX9_beside_20 : decode cX9_beside 20 = .ok (.bipush (-2), 2) := by decide +kernel
theorem dX9_beside_22 : decode cX9_beside 22 = .ok (.ireturn, 1) := by decide +kernel
theorem dX9_beside_23 : decode cX9_beside 23 = .ok (.aload_n 0, 1) := by decide +kernel
theorem dX9_beside_24 : decode cX9_beside 24 = .ok (.getfield 12, 3) := by decide +kernel
theorem dX9_beside_27 : decode cX9_beside 27 = .ok (.getfield 88, 3) := by decide +kernel
theorem dX9_beside_30 : decode cX9_beside 30 = .ok (.iload_n 1, 1) := by decide +kernel
theorem dX9_beside_31 : decode cX9_beside 31 = .ok (.iload_n 2, 1) := by decide +kernel
theorem dX9_beside_32 : decode cX9_beside 32 = .ok (.invokevirtual 113, 3) := by decide +kernel
theorem dX9_beside_35 : decode cX9_beside 35 = .ok (.istore 4, 2) := by decide +kernel
theorem dX9_beside_37 : decode cX9_beside 37 = .ok (.iload_n 3, 1) := by decide +kernel
theorem dX9_beside_38 : decode cX9_beside 38 = .ok (.ifCond .ne 6, 3) := by decide +kernel
theorem dX9_beside_41 : decode cX9_beside 41 = .ok (.iload 4, 2) := by decide +kernel
theorem dX9_beside_43 : decode cX9_beside 43 = .ok (.ireturn, 1) := by decide +kernel
theorem dX9_beside_44 : decode cX9_beside 44 = .ok (.iload_n 1, 1) := by decide +kernel
theorem dX9_beside_45 : decode cX9_beside 45 = .ok (.invokestatic 201, 3) := by decide +kernel
theorem dX9_beside_48 : decode cX9_beside 48 = .ok (.istore 5, 2) := by decide +kernel
theorem dX9_beside_50 : decode cX9_beside 50 = .ok (.aload_n 0, 1) := by decide +kernel
theorem dX9_beside_51 : decode cX9_beside 51 = .ok (.getfield 12, 3) := by decide +kernel
theorem dX9_beside_54 : decode cX9_beside 54 = .ok (.getfield 88, 3) := by decide +kernel
theorem dX9_beside_57 : decode cX9_beside 57 = .ok (.iload 4, 2) := by decide +kernel
theorem dX9_beside_59 : decode cX9_beside 59 = .ok (.iload 5, 2) := by decide +kernel
theorem dX9_beside_61 : decode cX9_beside 61 = .ok (.invokevirtual 136, 3) := by decide +kernel
theorem dX9_beside_64 : decode cX9_beside 64 = .ok (.istore 6, 2) := by decide +kernel
theorem dX9_beside_66 : decode cX9_beside 66 = .ok (.iload 6, 2) := by decide +kernel
theorem dX9_beside_68 : decode cX9_beside 68 = .ok (.ifCond .ne 6, 3) := by decide +kernel
theorem dX9_beside_71 : decode cX9_beside 71 = .ok (.bipush (-5), 2) := by decide +kernel
theorem dX9_beside_73 : decode cX9_beside 73 = .ok (.ireturn, 1) := by decide +kernel
theorem dX9_beside_74 : decode cX9_beside 74 = .ok (.aload_n 0, 1) := by decide +kernel
theorem dX9_beside_75 : decode cX9_beside 75 = .ok (.getfield 12, 3) := by decide +kernel
theorem dX9_beside_78 : decode cX9_beside 78 = .ok (.getfield 88, 3) := by decide +kernel
theorem dX9_beside_81 : decode cX9_beside 81 = .ok (.iload 4, 2) := by decide +kernel
theorem dX9_beside_83 : decode cX9_beside 83 = .ok (.iload 5, 2) := by decide +kernel
theorem dX9_beside_85 : decode cX9_beside 85 = .ok (.invokevirtual 204, 3) := by decide +kernel
theorem dX9_beside_88 : decode cX9_beside 88 = .ok (.istore 7, 2) := by decide +kernel
theorem dX9_beside_90 : decode cX9_beside 90 = .ok (.iload_n 3, 1) := by decide +kernel
theorem dX9_beside_91 : decode cX9_beside 91 = .ok (.iconst 1, 1) := by decide +kernel
theorem dX9_beside_92 : decode cX9_beside 92 = .ok (.if_icmp .ne 8, 3) := by decide +kernel
theorem dX9_beside_95 : decode cX9_beside 95 = .ok (.iload 7, 2) := by decide +kernel
theorem dX9_beside_97 : decode cX9_beside 97 = .ok (.goto 10, 3) := by decide +kernel
theorem dX9_beside_100 : decode cX9_beside 100 = .ok (.iload 7, 2) := by decide +kernel
theorem dX9_beside_102 : decode cX9_beside 102 = .ok (.iload 6, 2) := by decide +kernel
theorem dX9_beside_104 : decode cX9_beside 104 = .ok (.iadd, 1) := by decide +kernel
theorem dX9_beside_105 : decode cX9_beside 105 = .ok (.iconst 1, 1) := by decide +kernel
theorem dX9_beside_106 : decode cX9_beside 106 = .ok (.isub, 1) := by decide +kernel
theorem dX9_beside_107 : decode cX9_beside 107 = .ok (.ireturn, 1) := by decide +kernel
set_option maxRecDepth 20000 in
theorem ggX9_setWidth_X9_isBook : GoodIn wsX9_setWidth wsX9_isBook := goodIn_r _ [5] (by decide +kernel) (by decide +kernel)
set_option maxRecDepth 20000 in
theorem gX9_setWidth_X9_isBook : GoodIn wsX9_setWidth (va_wsS RX9 58 yX9_isBook wsX9_isBook) := goodIn_app (goodIn_of _ (by decide +kernel)) ggX9_setWidth_X9_isBook
set_option maxRecDepth 20000 in
theorem ggX9_setWidth_X9_isWithin : GoodIn wsX9_setWidth wsX9_isWithin := goodIn_r _ [8] (by decide +kernel) (by decide +kernel)
set_option maxRecDepth 20000 in
theorem gX9_setWidth_X9_isWithin : GoodIn wsX9_setWidth (va_wsS RX9 62 yX9_isWithin wsX9_isWithin) := goodIn_app (goodIn_of _ (by decide +kernel)) ggX9_setWidth_X9_isWithin
set_option maxRecDepth 20000 in
theorem ggX9_setWidth_X3_widthOf : GoodIn wsX9_setWidth wsX3_widthOf := goodIn_r _ [13, 14, 15, 27, 28, 29, 30, 31, 32, 33, 34, 35, 36, 37] (by decide +kernel) (by decide +kernel)
set_option maxRecDepth 20000 in
theorem gX9_setWidth_X3_widthOf : GoodIn wsX9_setWidth (wsV RX9 207 RX3 yX3_widthOf wsX3_widthOf) := goodIn_app (goodIn_of _ (by decide +kernel)) ggX9_setWidth_X3_widthOf
set_option maxRecDepth 20000 in
theorem ggX9_setWidth_X3_changeWidth : GoodIn wsX9_setWidth wsX3_changeWidth := goodIn_r _ [19, 14, 15, 27, 28, 29, 30, 31, 32, 33, 34, 35, 36, 37] (by decide +kernel) (by decide +kernel)
set_option maxRecDepth 20000 in
theorem gX9_setWidth_X3_changeWidth : GoodIn wsX9_setWidth (wsV RX9 210 RX3 yX3_changeWidth wsX3_changeWidth) := goodIn_app (goodIn_of _ (by decide +kernel)) ggX9_setWidth_X3_changeWidth
theorem dX9_setWidth_0 : decode cX9_setWidth 0 = .ok (.iload_n 1, 1) := by decide +kernel
theorem dX9_setWidth_1 : decode cX9_setWidth 1 = .ok (.invokestatic 58, 3) := by decide +kernel
theorem dX9_setWidth_4 : decode cX9_setWidth 4 = .ok (.ifCond .ne 5, 3) := by decide +kernel
theorem dX9_setWidth_7 : decode cX9_setWidth 7 = .ok (.iconst (-1), 1) := by decide +kernel
theorem dX9_setWidth_8 : decode cX9_setWidth 8 = .ok (.ireturn, 1) := by decide +kernel
theorem dX9_setWidth_9 : decode cX9_setWidth 9 = .ok (.iload_n 2, 1) := by decide +kernel
theorem dX9_setWidth_10 : decode cX9_setWidth 10 = .ok (.bipush 10, 2) := by decide +kernel
theorem dX9_setWidth_12 : decode cX9_setWidth 12 = .ok (.sipush 200, 3) := by decide +kernel
theorem dX9_setWidth_15 : decode cX9_setWidth 15 = .ok (.invokestatic 62, 3) := by decide +kernel
theorem dX9_setWidth_18 : decode cX9_setWidth 18 = .ok (.ifCond .ne 6, 3) := by decide +kernel
theorem dX9_setWidth_21 : decode cX9_setWidth 21 = .ok (.bipush (-2), 2) := by decide +kernel
theorem dX9_setWidth_23 : decode cX9_setWidth 23 = .ok (.ireturn, 1) := by decide +kernel
theorem dX9_setWidth_24 : decode cX9_setWidth 24 = .ok (.aload_n 0, 1) := by decide +kernel
theorem dX9_setWidth_25 : decode cX9_setWidth 25 = .ok (.getfield 54, 3) := by decide +kernel
theorem dX9_setWidth_28 : decode cX9_setWidth 28 = .ok (.iload_n 1, 1) := by decide +kernel
theorem dX9_setWidth_29 : decode cX9_setWidth 29 = .ok (.invokevirtual 207, 3) := by decide +kernel
theorem dX9_setWidth_32 : decode cX9_setWidth 32 = .ok (.istore_n 3, 1) := by decide +kernel
theorem dX9_setWidth_33 : decode cX9_setWidth 33 = .ok (.aload_n 0, 1) := by decide +kernel
theorem dX9_setWidth_34 : decode cX9_setWidth 34 = .ok (.getfield 54, 3) := by decide +kernel
theorem dX9_setWidth_37 : decode cX9_setWidth 37 = .ok (.iload_n 1, 1) := by decide +kernel
theorem dX9_setWidth_38 : decode cX9_setWidth 38 = .ok (.iload_n 2, 1) := by decide +kernel
theorem dX9_setWidth_39 : decode cX9_setWidth 39 = .ok (.invokevirtual 210, 3) := by decide +kernel
theorem dX9_setWidth_42 : decode cX9_setWidth 42 = .ok (.iload_n 3, 1) := by decide +kernel
theorem dX9_setWidth_43 : decode cX9_setWidth 43 = .ok (.ireturn, 1) := by decide +kernel
set_option maxRecDepth 20000 in
theorem ggX9_setHeights_X9_isWithin : GoodIn wsX9_setHeights wsX9_isWithin := goodIn_r _ [5] (by decide +kernel) (by decide +kernel)
set_option maxRecDepth 20000 in
theorem gX9_setHeights_X9_isWithin : GoodIn wsX9_setHeights (va_wsS RX9 62 yX9_isWithin wsX9_isWithin) := goodIn_app (goodIn_of _ (by decide +kernel)) ggX9_setHeights_X9_isWithin
theorem dX9_setHeights_0 : decode cX9_setHeights 0 = .ok (.iload_n 1, 1) := by decide +kernel
theorem dX9_setHeights_1 : decode cX9_setHeights 1 = .ok (.iconst 5, 1) := by decide +kernel
theorem dX9_setHeights_2 : decode cX9_setHeights 2 = .ok (.sipush 200, 3) := by decide +kernel
theorem dX9_setHeights_5 : decode cX9_setHeights 5 = .ok (.invokestatic 62, 3) := by decide +kernel
theorem dX9_setHeights_8 : decode cX9_setHeights 8 = .ok (.ifCond .eq 12, 3) := by decide +kernel
theorem dX9_setHeights_11 : decode cX9_setHeights 11 = .ok (.iload_n 2, 1) := by decide +kernel
theorem dX9_setHeights_12 : decode cX9_setHeights 12 = .ok (.iconst 0, 1) := by decide +kernel
theorem dX9_setHeights_13 : decode cX9_setHeights 13 = .ok (.iconst 5, 1) := by decide +kernel
theorem dX9_setHeights_14 : decode cX9_setHeights 14 = .ok (.invokestatic 62, 3) := by decide +kernel
theorem dX9_setHeights_17 : decode cX9_setHeights 17 = .ok (.ifCond .ne 6, 3) := by decide +kernel
theorem dX9_setHeights_20 : decode cX9_setHeights 20 = .ok (.bipush (-2), 2) := by decide +kernel
theorem dX9_setHeights_22 : decode cX9_setHeights 22 = .ok (.ireturn, 1) := by decide +kernel
theorem dX9_setHeights_23 : decode cX9_setHeights 23 = .ok (.aload_n 0, 1) := by decide +kernel
theorem dX9_setHeights_24 : decode cX9_setHeights 24 = .ok (.getfield 54, 3) := by decide +kernel
theorem dX9_setHeights_27 : decode cX9_setHeights 27 = .ok (.getfield 213, 3) := by decide +kernel
theorem dX9_setHeights_30 : decode cX9_setHeights 30 = .ok (.istore_n 3, 1) := by decide +kernel
theorem dX9_setHeights_31 : decode cX9_setHeights 31 = .ok (.aload_n 0, 1) := by decide +kernel
theorem dX9_setHeights_32 : decode cX9_setHeights 32 = .ok (.getfield 54, 3) := by decide +kernel
theorem dX9_setHeights_35 : decode cX9_setHeights 35 = .ok (.iload_n 1, 1) := by decide +kernel
theorem dX9_setHeights_36 : decode cX9_setHeights 36 = .ok (.putfield 213, 3) := by decide +kernel
theorem dX9_setHeights_39 : decode cX9_setHeights 39 = .ok (.aload_n 0, 1) := by decide +kernel
theorem dX9_setHeights_40 : decode cX9_setHeights 40 = .ok (.getfield 54, 3) := by decide +kernel
theorem dX9_setHeights_43 : decode cX9_setHeights 43 = .ok (.iload_n 2, 1) := by decide +kernel
theorem dX9_setHeights_44 : decode cX9_setHeights 44 = .ok (.putfield 216, 3) := by decide +kernel
theorem dX9_setHeights_47 : decode cX9_setHeights 47 = .ok (.iload_n 3, 1) := by decide +kernel
theorem dX9_setHeights_48 : decode cX9_setHeights 48 = .ok (.ireturn, 1) := by decide +kernel
set_option maxRecDepth 20000 in
theorem ggX9_page_X9_isWithin : GoodIn wsX9_page wsX9_isWithin := goodIn_r _ [6] (by decide +kernel) (by decide +kernel)
set_option maxRecDepth 20000 in
theorem gX9_page_X9_isWithin : GoodIn wsX9_page (va_wsS RX9 62 yX9_isWithin wsX9_isWithin) := goodIn_app (goodIn_of _ (by decide +kernel)) ggX9_page_X9_isWithin
set_option maxRecDepth 20000 in
theorem ggX9_page_X3_arrange : GoodIn wsX9_page wsX3_arrange := goodIn_r _ [11, 12, 13, 14, 15, 16, 17, 18, 19, 10, 20, 21, 22, 23, 24, 25, 26, 27, 28, 29, 30, 31, 32, 33, 34, 35, 36, 37, 38, 39, 40, 41, 42, 43, 44, 45, 5, 46, 47, 48, 49, 50, 51, 52, 53, 54, 55, 56, 57, 58, 59, 60, 61, 62, 63, 64, 65, 66, 67, 68, 69, 70, 71, 72, 73, 74, 75, 76, 77, 78, 79, 80, 81, 82, 83, 84, 85, 86, 87, 88, 89, 90, 91, 92, 145, 146, 147, 148, 149, 150, 134, 135, 136, 137, 138, 139, 140, 141, 142, 143, 144, 151, 152, 153, 154] (by decide +kernel) (by decide +kernel)
set_option maxRecDepth 20000 in
theorem gX9_page_X3_arrange : GoodIn wsX9_page (wsV RX9 219 RX3 yX3_arrange wsX3_arrange) := goodIn_app (goodIn_of _ (by decide +kernel)) ggX9_page_X3_arrange
set_option maxRecDepth 20000 in
theorem ggX9_page_X3_firstGroupOf : GoodIn wsX9_page wsX3_firstGroupOf := goodIn_r _ [96, 16, 97, 98, 99, 10, 100, 88, 45, 5, 46, 134, 135, 136, 137, 138, 139, 140, 141, 142, 143, 144] (by decide +kernel) (by decide +kernel)
set_option maxRecDepth 20000 in
theorem gX9_page_X3_firstGroupOf : GoodIn wsX9_page (wsV RX9 225 RX3 yX3_firstGroupOf wsX3_firstGroupOf) := goodIn_app (goodIn_of _ (by decide +kernel)) ggX9_page_X3_firstGroupOf
set_option maxRecDepth 20000 in
theorem ggX9_page_X3_lastGroupOf : GoodIn wsX9_page wsX3_lastGroupOf := goodIn_r _ [104, 16, 97, 98, 99, 10, 100, 88, 45, 5, 46, 134, 135, 136, 137, 138, 139, 140, 141, 142, 143, 144] (by decide +kernel) (by decide +kernel)
set_option maxRecDepth 20000 in
theorem gX9_page_X3_lastGroupOf : GoodIn wsX9_page (wsV RX9 228 RX3 yX3_lastGroupOf wsX3_lastGroupOf) := goodIn_app (goodIn_of _ (by decide +kernel)) ggX9_page_X3_lastGroupOf
set_option maxRecDepth 20000 in
theorem ggX9_page_X3_heightSumOf : GoodIn wsX9_page wsX3_heightSumOf := goodIn_r _ [108, 16, 97, 98, 99, 10, 100, 88, 45, 5, 46, 109, 110, 111, 112, 25, 134, 135, 136, 137, 138, 139, 140, 141, 142, 143, 144] (by decide +kernel) (by decide +kernel)
set_option maxRecDepth 20000 in
theorem gX9_page_X3_heightSumOf : GoodIn wsX9_page (wsV RX9 231 RX3 yX3_heightSumOf wsX3_heightSumOf) := goodIn_app (goodIn_of _ (by decide +kernel)) ggX9_page_X3_heightSumOf
set_option maxRecDepth 20000 in
theorem ggX9_page_X3_noteLinesOf : GoodIn wsX9_page wsX3_noteLinesOf := goodIn_r _ [116, 16, 97, 98, 99, 10, 100, 88, 45, 5, 46, 117, 118, 119, 120, 32, 90, 91, 92, 134, 135, 136, 137, 138, 139, 140, 141, 142, 143, 144] (by decide +kernel) (by decide +kernel)
set_option maxRecDepth 20000 in
theorem gX9_page_X3_noteLinesOf : GoodIn wsX9_page (wsV RX9 234 RX3 yX3_noteLinesOf wsX3_noteLinesOf) := goodIn_app (goodIn_of _ (by decide +kernel)) ggX9_page_X3_noteLinesOf
set_option maxRecDepth 20000 in
theorem ggX9_page_X3_overflows : GoodIn wsX9_page wsX3_overflows := goodIn_r _ [124, 87, 125, 106, 107, 10, 108, 16, 97, 98, 99, 100, 88, 45, 5, 46, 109, 110, 111, 112, 25, 126, 114, 115, 116, 117, 118, 119, 120, 32, 90, 91, 92, 134, 135, 136, 137, 138, 139, 140, 141, 142, 143, 144] (by decide +kernel) (by decide +kernel)
set_option maxRecDepth 20000 in
theorem gX9_page_X3_overflows : GoodIn wsX9_page (wsV RX9 237 RX3 yX3_overflows wsX3_overflows) := goodIn_app (goodIn_of _ (by decide +kernel)) ggX9_page_X3_overflows
theorem dX9_page_0 : decode cX9_page 0 = .ok (.iload_n 1, 1) := by decide +kernel
theorem dX9_page_1 : decode cX9_page 1 = .ok (.ifCond .lt 12, 3) := by decide +kernel
theorem dX9_page_4 : decode cX9_page 4 = .ok (.iload_n 2, 1) := by decide +kernel
theorem dX9_page_5 : decode cX9_page 5 = .ok (.iconst 0, 1) := by decide +kernel
theorem dX9_page_6 : decode cX9_page 6 = .ok (.iconst 4, 1) := by decide +kernel
theorem dX9_page_7 : decode cX9_page 7 = .ok (.invokestatic 62, 3) := by decide +kernel
theorem dX9_page_10 : decode cX9_page 10 = .ok (.ifCond .ne 6, 3) := by decide +kernel
theorem dX9_page_13 : decode cX9_page 13 = .ok (.bipush (-2), 2) := by decide +kernel
theorem dX9_page_15 : decode cX9_page 15 = .ok (.ireturn, 1) := by decide +kernel
theorem dX9_page_16 : decode cX9_page 16 = .ok (.aload_n 0, 1) := by decide +kernel
theorem dX9_page_17 : decode cX9_page 17 = .ok (.getfield 54, 3) := by decide +kernel
theorem dX9_page_20 : decode cX9_page 20 = .ok (.aload_n 0, 1) := by decide +kernel
theorem dX9_page_21 : decode cX9_page 21 = .ok (.getfield 12, 3) := by decide +kernel
theorem dX9_page_24 : decode cX9_page 24 = .ok (.invokevirtual 219, 3) := by decide +kernel
theorem dX9_page_27 : decode cX9_page 27 = .ok (.iload_n 1, 1) := by decide +kernel
theorem dX9_page_28 : decode cX9_page 28 = .ok (.aload_n 0, 1) := by decide +kernel
theorem dX9_page_29 : decode cX9_page 29 = .ok (.getfield 54, 3) := by decide +kernel
theorem dX9_page_32 : decode cX9_page 32 = .ok (.getfield 222, 3) := by decide +kernel
theorem dX9_page_35 : decode cX9_page 35 = .ok (.if_icmp .lt 6, 3) := by decide +kernel
theorem dX9_page_38 : decode cX9_page 38 = .ok (.bipush (-5), 2) := by decide +kernel
theorem dX9_page_40 : decode cX9_page 40 = .ok (.ireturn, 1) := by decide +kernel
theorem dX9_page_41 : decode cX9_page 41 = .ok (.iload_n 2, 1) := by decide +kernel
theorem dX9_page_42 : decode cX9_page 42 = .ok (.tableswitch 66 0 3 #[30, 39, 48, 57], 30) := by decide +kernel
theorem dX9_page_72 : decode cX9_page 72 = .ok (.aload_n 0, 1) := by decide +kernel
theorem dX9_page_73 : decode cX9_page 73 = .ok (.getfield 54, 3) := by decide +kernel
theorem dX9_page_76 : decode cX9_page 76 = .ok (.iload_n 1, 1) := by decide +kernel
theorem dX9_page_77 : decode cX9_page 77 = .ok (.invokevirtual 225, 3) := by decide +kernel
theorem dX9_page_80 : decode cX9_page 80 = .ok (.ireturn, 1) := by decide +kernel
theorem dX9_page_81 : decode cX9_page 81 = .ok (.aload_n 0, 1) := by decide +kernel
theorem dX9_page_82 : decode cX9_page 82 = .ok (.getfield 54, 3) := by decide +kernel
theorem dX9_page_85 : decode cX9_page 85 = .ok (.iload_n 1, 1) := by decide +kernel
theorem dX9_page_86 : decode cX9_page 86 = .ok (.invokevirtual 228, 3) := by decide +kernel
theorem dX9_page_89 : decode cX9_page 89 = .ok (.ireturn, 1) := by decide +kernel
theorem dX9_page_90 : decode cX9_page 90 = .ok (.aload_n 0, 1) := by decide +kernel
theorem dX9_page_91 : decode cX9_page 91 = .ok (.getfield 54, 3) := by decide +kernel
theorem dX9_page_94 : decode cX9_page 94 = .ok (.iload_n 1, 1) := by decide +kernel
theorem dX9_page_95 : decode cX9_page 95 = .ok (.invokevirtual 231, 3) := by decide +kernel
theorem dX9_page_98 : decode cX9_page 98 = .ok (.ireturn, 1) := by decide +kernel
theorem dX9_page_99 : decode cX9_page 99 = .ok (.aload_n 0, 1) := by decide +kernel
theorem dX9_page_100 : decode cX9_page 100 = .ok (.getfield 54, 3) := by decide +kernel
theorem dX9_page_103 : decode cX9_page 103 = .ok (.iload_n 1, 1) := by decide +kernel
theorem dX9_page_104 : decode cX9_page 104 = .ok (.invokevirtual 234, 3) := by decide +kernel
theorem dX9_page_107 : decode cX9_page 107 = .ok (.ireturn, 1) := by decide +kernel
theorem dX9_page_108 : decode cX9_page 108 = .ok (.aload_n 0, 1) := by decide +kernel
theorem dX9_page_109 : decode cX9_page 109 = .ok (.getfield 54, 3) := by decide +kernel
theorem dX9_page_112 : decode cX9_page 112 = .ok (.iload_n 1, 1) := by decide +kernel
theorem dX9_page_113 : decode cX9_page 113 = .ok (.invokevirtual 237, 3) := by decide +kernel
theorem dX9_page_116 : decode cX9_page 116 = .ok (.ifCond .eq 7, 3) := by decide +kernel
theorem dX9_page_119 : decode cX9_page 119 = .ok (.iconst 1, 1) := by decide +kernel
theorem dX9_page_120 : decode cX9_page 120 = .ok (.goto 4, 3) := by decide +kernel
theorem dX9_page_123 : decode cX9_page 123 = .ok (.iconst 0, 1) := by decide +kernel
theorem dX9_page_124 : decode cX9_page 124 = .ok (.ireturn, 1) := by decide +kernel
set_option maxRecDepth 20000 in
theorem ggX9_chapter_X9_isBook : GoodIn wsX9_chapter wsX9_isBook := goodIn_r _ [5] (by decide +kernel) (by decide +kernel)
set_option maxRecDepth 20000 in
theorem gX9_chapter_X9_isBook : GoodIn wsX9_chapter (va_wsS RX9 58 yX9_isBook wsX9_isBook) := goodIn_app (goodIn_of _ (by decide +kernel)) ggX9_chapter_X9_isBook
set_option maxRecDepth 20000 in
theorem ggX9_chapter_X7_bookOf : GoodIn wsX9_chapter wsX7_bookOf := goodIn_r _ [10, 11, 12, 53, 54, 55] (by decide +kernel) (by decide +kernel)
set_option maxRecDepth 20000 in
theorem gX9_chapter_X7_bookOf : GoodIn wsX9_chapter (wsV RX9 66 RX7 yX7_bookOf wsX7_bookOf) := goodIn_app (goodIn_of _ (by decide +kernel)) ggX9_chapter_X7_bookOf
set_option maxRecDepth 20000 in
theorem ggX9_chapter_X0_chapterTotal : GoodIn wsX9_chapter wsX0_chapterTotal := goodIn_r _ [17, 18, 19, 20, 21, 16, 22, 23, 24, 25, 26, 27, 28, 4, 29, 56, 57, 58, 59] (by decide +kernel) (by decide +kernel)
set_option maxRecDepth 20000 in
theorem gX9_chapter_X0_chapterTotal : GoodIn wsX9_chapter (wsV RX9 70 RX0 yX0_chapterTotal wsX0_chapterTotal) := goodIn_app (goodIn_of _ (by decide +kernel)) ggX9_chapter_X0_chapterTotal
set_option maxRecDepth 20000 in
theorem ggX9_chapter_X9_isWithin : GoodIn wsX9_chapter wsX9_isWithin := goodIn_r _ [32] (by decide +kernel) (by decide +kernel)
set_option maxRecDepth 20000 in
theorem gX9_chapter_X9_isWithin : GoodIn wsX9_chapter (va_wsS RX9 62 yX9_isWithin wsX9_isWithin) := goodIn_app (goodIn_of _ (by decide +kernel)) ggX9_chapter_X9_isWithin
set_option maxRecDepth 20000 in
theorem ggX9_chapter_X0_firstOf : GoodIn wsX9_chapter wsX0_firstOf := goodIn_r _ [36, 18, 23, 28, 4, 29, 56, 57, 58, 59] (by decide +kernel) (by decide +kernel)
set_option maxRecDepth 20000 in
theorem gX9_chapter_X0_firstOf : GoodIn wsX9_chapter (wsV RX9 240 RX0 yX0_firstOf wsX0_firstOf) := goodIn_app (goodIn_of _ (by decide +kernel)) ggX9_chapter_X0_firstOf
set_option maxRecDepth 20000 in
theorem ggX9_chapter_X0_versesOf : GoodIn wsX9_chapter wsX0_versesOf := goodIn_r _ [40, 18, 23, 28, 4, 29, 56, 57, 58, 59] (by decide +kernel) (by decide +kernel)
set_option maxRecDepth 20000 in
theorem gX9_chapter_X0_versesOf : GoodIn wsX9_chapter (wsV RX9 242 RX0 yX0_versesOf wsX0_versesOf) := goodIn_app (goodIn_of _ (by decide +kernel)) ggX9_chapter_X0_versesOf
set_option maxRecDepth 20000 in
theorem ggX9_chapter_X0_letterSumOf : GoodIn wsX9_chapter wsX0_letterSumOf := goodIn_r _ [44, 18, 23, 45, 28, 4, 29, 56, 57, 58, 59] (by decide +kernel) (by decide +kernel)
set_option maxRecDepth 20000 in
theorem gX9_chapter_X0_letterSumOf : GoodIn wsX9_chapter (wsV RX9 245 RX0 yX0_letterSumOf wsX0_letterSumOf) := goodIn_app (goodIn_of _ (by decide +kernel)) ggX9_chapter_X0_letterSumOf
theorem dX9_chapter_0 : decode cX9_chapter 0 = .ok (.iload_n 1, 1) := by decide +kernel
theorem dX9_chapter_1 : decode cX9_chapter 1 = .ok (.invokestatic 58, 3) := by decide +kernel
theorem dX9_chapter_4 : decode cX9_chapter 4 = .ok (.ifCond .eq 22, 3) := by decide +kernel
theorem dX9_chapter_7 : decode cX9_chapter 7 = .ok (.iload_n 2, 1) := by decide +kernel
theorem dX9_chapter_8 : decode cX9_chapter 8 = .ok (.iconst 1, 1) := by decide +kernel
theorem dX9_chapter_9 : decode cX9_chapter 9 = .ok (.aload_n 0, 1) := by decide +kernel
theorem dX9_chapter_10 : decode cX9_chapter 10 = .ok (.getfield 12, 3) := by decide +kernel
theorem dX9_chapter_13 : decode cX9_chapter 13 = .ok (.iload_n 1, 1) := by decide +kernel
theorem dX9_chapter_14 : decode cX9_chapter 14 = .ok (.invokevirtual 66, 3) := by decide +kernel
theorem dX9_chapter_17 : decode cX9_chapter 17 = .ok (.invokevirtual 70, 3) := by decide +kernel
theorem dX9_chapter_20 : decode cX9_chapter 20 = .ok (.invokestatic 62, 3) := by decide +kernel
theorem dX9_chapter_23 : decode cX9_chapter 23 = .ok (.ifCond .ne 5, 3) := by decide +kernel
theorem dX9_chapter_26 : decode cX9_chapter 26 = .ok (.iconst (-1), 1) := by decide +kernel
theorem dX9_chapter_27 : decode cX9_chapter 27 = .ok (.ireturn, 1) := by decide +kernel
theorem dX9_chapter_28 : decode cX9_chapter 28 = .ok (.iload_n 3, 1) := by decide +kernel
theorem dX9_chapter_29 : decode cX9_chapter 29 = .ok (.iconst 0, 1) := by decide +kernel
theorem dX9_chapter_30 : decode cX9_chapter 30 = .ok (.iconst 2, 1) := by decide +kernel
theorem dX9_chapter_31 : decode cX9_chapter 31 = .ok (.invokestatic 62, 3) := by decide +kernel
theorem dX9_chapter_34 : decode cX9_chapter 34 = .ok (.ifCond .ne 6, 3) := by decide +kernel
theorem dX9_chapter_37 : decode cX9_chapter 37 = .ok (.bipush (-2), 2) := by decide +kernel
theorem dX9_chapter_39 : decode cX9_chapter 39 = .ok (.ireturn, 1) := by decide +kernel
theorem dX9_chapter_40 : decode cX9_chapter 40 = .ok (.aload_n 0, 1) := by decide +kernel
theorem dX9_chapter_41 : decode cX9_chapter 41 = .ok (.getfield 12, 3) := by decide +kernel
theorem dX9_chapter_44 : decode cX9_chapter 44 = .ok (.iload_n 1, 1) := by decide +kernel
theorem dX9_chapter_45 : decode cX9_chapter 45 = .ok (.invokevirtual 66, 3) := by decide +kernel
theorem dX9_chapter_48 : decode cX9_chapter 48 = .ok (.astore 4, 2) := by decide +kernel
theorem dX9_chapter_50 : decode cX9_chapter 50 = .ok (.iload_n 3, 1) := by decide +kernel
theorem dX9_chapter_51 : decode cX9_chapter 51 = .ok (.lookupswitch 39 #[(0, 25), (1, 32)], 25) := by decide +kernel
theorem dX9_chapter_76 : decode cX9_chapter 76 = .ok (.aload 4, 2) := by decide +kernel
theorem dX9_chapter_78 : decode cX9_chapter 78 = .ok (.iload_n 2, 1) := by decide +kernel
theorem dX9_chapter_79 : decode cX9_chapter 79 = .ok (.invokevirtual 240, 3) := by decide +kernel
theorem dX9_chapter_82 : decode cX9_chapter 82 = .ok (.ireturn, 1) := by decide +kernel
theorem dX9_chapter_83 : decode cX9_chapter 83 = .ok (.aload 4, 2) := by decide +kernel
theorem dX9_chapter_85 : decode cX9_chapter 85 = .ok (.iload_n 2, 1) := by decide +kernel
theorem dX9_chapter_86 : decode cX9_chapter 86 = .ok (.invokevirtual 242, 3) := by decide +kernel
theorem dX9_chapter_89 : decode cX9_chapter 89 = .ok (.ireturn, 1) := by decide +kernel
theorem dX9_chapter_90 : decode cX9_chapter 90 = .ok (.aload 4, 2) := by decide +kernel
theorem dX9_chapter_92 : decode cX9_chapter 92 = .ok (.iload_n 2, 1) := by decide +kernel
theorem dX9_chapter_93 : decode cX9_chapter 93 = .ok (.invokevirtual 245, 3) := by decide +kernel
theorem dX9_chapter_96 : decode cX9_chapter 96 = .ok (.ireturn, 1) := by decide +kernel
set_option maxRecDepth 20000 in
theorem ggX9_verse_X9_isVerse : GoodIn wsX9_verse wsX9_isVerse := goodIn_r _ [7, 1, 8, 9, 6, 10, 11, 12, 13, 14, 15, 16, 17, 18, 19, 20, 21, 22, 23, 64, 65, 66, 67, 68, 69, 70, 71, 72, 73, 74, 75, 76, 77] (by decide +kernel) (by decide +kernel)
set_option maxRecDepth 20000 in
theorem gX9_verse_X9_isVerse : GoodIn wsX9_verse (wsV RX9 98 RX9 yX9_isVerse wsX9_isVerse) := goodIn_app (goodIn_of _ (by decide +kernel)) ggX9_verse_X9_isVerse
set_option maxRecDepth 20000 in
theorem ggX9_verse_X9_isWithin : GoodIn wsX9_verse wsX9_isWithin := goodIn_r _ [26] (by decide +kernel) (by decide +kernel)
set_option maxRecDepth 20000 in
theorem gX9_verse_X9_isWithin : GoodIn wsX9_verse (va_wsS RX9 62 yX9_isWithin wsX9_isWithin) := goodIn_app (goodIn_of _ (by decide +kernel)) ggX9_verse_X9_isWithin
set_option maxRecDepth 20000 in
theorem ggX9_verse_X7_bookOf : GoodIn wsX9_verse wsX7_bookOf := goodIn_r _ [15, 16, 17, 71, 72, 73] (by decide +kernel) (by decide +kernel)
set_option maxRecDepth 20000 in
theorem gX9_verse_X7_bookOf : GoodIn wsX9_verse (wsV RX9 66 RX7 yX7_bookOf wsX7_bookOf) := goodIn_app (goodIn_of _ (by decide +kernel)) ggX9_verse_X7_bookOf
set_option maxRecDepth 20000 in
theorem ggX9_verse_X0_chapterOf : GoodIn wsX9_verse wsX0_chapterOf := goodIn_r _ [30, 31, 32, 19, 20, 21, 22, 23, 33, 6, 34, 74, 75, 76, 77] (by decide +kernel) (by decide +kernel)
set_option maxRecDepth 20000 in
theorem gX9_verse_X0_chapterOf : GoodIn wsX9_verse (wsV RX9 110 RX0 yX0_chapterOf wsX0_chapterOf) := goodIn_app (goodIn_of _ (by decide +kernel)) ggX9_verse_X0_chapterOf
set_option maxRecDepth 20000 in
theorem ggX9_verse_X0_numberOf : GoodIn wsX9_verse wsX0_numberOf := goodIn_r _ [38, 39, 28, 29, 21, 30, 31, 32, 19, 20, 22, 23, 33, 6, 34, 40, 41, 42, 43, 74, 75, 76, 77] (by decide +kernel) (by decide +kernel)
set_option maxRecDepth 20000 in
theorem gX9_verse_X0_numberOf : GoodIn wsX9_verse (wsV RX9 248 RX0 yX0_numberOf wsX0_numberOf) := goodIn_app (goodIn_of _ (by decide +kernel)) ggX9_verse_X0_numberOf
set_option maxRecDepth 20000 in
theorem ggX9_verse_X0_lettersOf : GoodIn wsX9_verse wsX0_lettersOf := goodIn_r _ [47, 48, 32, 19, 20, 21, 22, 23, 33, 6, 34, 74, 75, 76, 77] (by decide +kernel) (by decide +kernel)
set_option maxRecDepth 20000 in
theorem gX9_verse_X0_lettersOf : GoodIn wsX9_verse (wsV RX9 102 RX0 yX0_lettersOf wsX0_lettersOf) := goodIn_app (goodIn_of _ (by decide +kernel)) ggX9_verse_X0_lettersOf
set_option maxRecDepth 20000 in
theorem ggX9_verse_X0_noteOf : GoodIn wsX9_verse wsX0_noteOf := goodIn_r _ [52, 53, 32, 19, 20, 21, 22, 23, 33, 6, 34, 74, 75, 76, 77] (by decide +kernel) (by decide +kernel)
set_option maxRecDepth 20000 in
theorem gX9_verse_X0_noteOf : GoodIn wsX9_verse (wsV RX9 251 RX0 yX0_noteOf wsX0_noteOf) := goodIn_app (goodIn_of _ (by decide +kernel)) ggX9_verse_X0_noteOf
set_option maxRecDepth 20000 in
theorem ggX9_verse_X3_widthOf : GoodIn wsX9_verse wsX3_widthOf := goodIn_r _ [58, 59, 60, 78, 79, 80, 81, 82, 83, 84, 85, 86, 87, 88] (by decide +kernel) (by decide +kernel)
set_option maxRecDepth 20000 in
theorem gX9_verse_X3_widthOf : GoodIn wsX9_verse (wsV RX9 207 RX3 yX3_widthOf wsX3_widthOf) := goodIn_app (goodIn_of _ (by decide +kernel)) ggX9_verse_X3_widthOf
set_option maxRecDepth 20000 in
theorem ggX9_verse_X9_linesFor : GoodIn wsX9_verse wsX9_linesFor := goodIn_r _ [63] (by decide +kernel) (by decide +kernel)
set_option maxRecDepth 20000 in
theorem gX9_verse_X9_linesFor : GoodIn wsX9_verse (va_wsS RX9 254 yX9_linesFor wsX9_linesFor) := goodIn_app (goodIn_of _ (by decide +kernel)) ggX9_verse_X9_linesFor
theorem dX9_verse_0 : decode cX9_verse 0 = .ok (.aload_n 0, 1) := by decide +kernel
theorem dX9_verse_1 : decode cX9_verse 1 = .ok (.iload_n 1, 1) := by decide +kernel
theorem dX9_verse_2 : decode cX9_verse 2 = .ok (.iload_n 2, 1) := by decide +kernel
theorem dX9_verse_3 : decode cX9_verse 3 = .ok (.invokevirtual 98, 3) := by decide +kernel
theorem dX9_verse_6 : decode cX9_verse 6 = .ok (.ifCond .ne 5, 3) := by decide +kernel
theorem dX9_verse_9 : decode cX9_verse 9 = .ok (.iconst (-1), 1) := by decide +kernel
theorem dX9_verse_10 : decode cX9_verse 10 = .ok (.ireturn, 1) := by decide +kernel
theorem dX9_verse_11 : decode cX9_verse 11 = .ok (.iload_n 3, 1) := by decide +kernel
theorem dX9_verse_12 : decode cX9_verse 12 = .ok (.iconst 0, 1) := by decide +kernel
theorem dX9_verse_13 : decode cX9_verse 13 = .ok (.iconst 4, 1) := by decide +kernel
theorem dX9_verse_14 : decode cX9_verse 14 = .ok (.invokestatic 62, 3) := by decide +kernel
theorem dX9_verse_17 : decode cX9_verse 17 = .ok (.ifCond .ne 6, 3) := by decide +kernel
theorem dX9_verse_20 : decode cX9_verse 20 = .ok (.bipush (-2), 2) := by decide +kernel
theorem dX9_verse_22 : decode cX9_verse 22 = .ok (.ireturn, 1) := by decide +kernel
theorem dX9_verse_23 : decode cX9_verse 23 = .ok (.aload_n 0, 1) := by decide +kernel
theorem dX9_verse_24 : decode cX9_verse 24 = .ok (.getfield 12, 3) := by decide +kernel
theorem dX9_verse_27 : decode cX9_verse 27 = .ok (.iload_n 1, 1) := by decide +kernel
theorem dX9_verse_28 : decode cX9_verse 28 = .ok (.invokevirtual 66, 3) := by decide +kernel
theorem dX9_verse_31 : decode cX9_verse 31 = .ok (.astore 4, 2) := by decide +kernel
theorem dX9_verse_33 : decode cX9_verse 33 = .ok (.iload_n 3, 1) := by decide +kernel
theorem dX9_verse_34 : decode cX9_verse 34 = .ok (.tableswitch 58 0 3 #[30, 37, 44, 51], 30) := by decide +kernel
theorem dX9_verse_64 : decode cX9_verse 64 = .ok (.aload 4, 2) := by decide +kernel
theorem dX9_verse_66 : decode cX9_verse 66 = .ok (.iload_n 2, 1) := by decide +kernel
theorem dX9_verse_67 : decode cX9_verse 67 = .ok (.invokevirtual 110, 3) := by decide +kernel
theorem dX9_verse_70 : decode cX9_verse 70 = .ok (.ireturn, 1) := by decide +kernel
theorem dX9_verse_71 : decode cX9_verse 71 = .ok (.aload 4, 2) := by decide +kernel
theorem dX9_verse_73 : decode cX9_verse 73 = .ok (.iload_n 2, 1) := by decide +kernel
theorem dX9_verse_74 : decode cX9_verse 74 = .ok (.invokevirtual 248, 3) := by decide +kernel
theorem dX9_verse_77 : decode cX9_verse 77 = .ok (.ireturn, 1) := by decide +kernel
theorem dX9_verse_78 : decode cX9_verse 78 = .ok (.aload 4, 2) := by decide +kernel
theorem dX9_verse_80 : decode cX9_verse 80 = .ok (.iload_n 2, 1) := by decide +kernel
theorem dX9_verse_81 : decode cX9_verse 81 = .ok (.invokevirtual 102, 3) := by decide +kernel
theorem dX9_verse_84 : decode cX9_verse 84 = .ok (.ireturn, 1) := by decide +kernel
theorem dX9_verse_85 : decode cX9_verse 85 = .ok (.aload 4, 2) := by decide +kernel
theorem dX9_verse_87 : decode cX9_verse 87 = .ok (.iload_n 2, 1) := by decide +kernel
theorem dX9_verse_88 : decode cX9_verse 88 = .ok (.invokevirtual 251, 3) := by decide +kernel
theorem dX9_verse_91 : decode cX9_verse 91 = .ok (.ireturn, 1) := by decide +kernel
theorem dX9_verse_92 : decode cX9_verse 92 = .ok (.aload 4, 2) := by decide +kernel
theorem dX9_verse_94 : decode cX9_verse 94 = .ok (.iload_n 2, 1) := by decide +kernel
theorem dX9_verse_95 : decode cX9_verse 95 = .ok (.invokevirtual 102, 3) := by decide +kernel
theorem dX9_verse_98 : decode cX9_verse 98 = .ok (.aload_n 0, 1) := by decide +kernel
theorem dX9_verse_99 : decode cX9_verse 99 = .ok (.getfield 54, 3) := by decide +kernel
theorem dX9_verse_102 : decode cX9_verse 102 = .ok (.iload_n 1, 1) := by decide +kernel
theorem dX9_verse_103 : decode cX9_verse 103 = .ok (.invokevirtual 207, 3) := by decide +kernel
theorem dX9_verse_106 : decode cX9_verse 106 = .ok (.invokestatic 254, 3) := by decide +kernel
theorem dX9_verse_109 : decode cX9_verse 109 = .ok (.ireturn, 1) := by decide +kernel
set_option maxRecDepth 20000 in
theorem ggX9_group_X1_has : GoodIn wsX9_group wsX1_has := goodIn_r _ [7, 8, 134, 135, 136] (by decide +kernel) (by decide +kernel)
set_option maxRecDepth 20000 in
theorem gX9_group_X1_has : GoodIn wsX9_group (wsV RX9 130 RX1 yX1_has wsX1_has) := goodIn_app (goodIn_of _ (by decide +kernel)) ggX9_group_X1_has
set_option maxRecDepth 20000 in
theorem ggX9_group_X9_isWithin : GoodIn wsX9_group wsX9_isWithin := goodIn_r _ [12] (by decide +kernel) (by decide +kernel)
set_option maxRecDepth 20000 in
theorem gX9_group_X9_isWithin : GoodIn wsX9_group (va_wsS RX9 62 yX9_isWithin wsX9_isWithin) := goodIn_app (goodIn_of _ (by decide +kernel)) ggX9_group_X9_isWithin
set_option maxRecDepth 20000 in
theorem ggX9_group_X3_arrange : GoodIn wsX9_group wsX3_arrange := goodIn_r _ [17, 18, 19, 20, 21, 22, 23, 24, 25, 16, 26, 27, 28, 29, 30, 31, 32, 33, 34, 35, 36, 37, 38, 39, 40, 41, 6, 42, 43, 44, 45, 4, 5, 7, 8, 46, 11, 47, 48, 49, 50, 51, 52, 53, 54, 55, 56, 57, 58, 59, 60, 61, 62, 63, 64, 65, 66, 67, 68, 69, 70, 71, 72, 73, 74, 75, 76, 77, 78, 79, 80, 81, 82, 83, 84, 85, 86, 87, 88, 89, 90, 91, 92, 93, 131, 132, 133, 134, 135, 136, 137, 138, 139, 140, 141, 142, 143, 144, 145, 146, 147, 148, 149, 150, 151] (by decide +kernel) (by decide +kernel)
set_option maxRecDepth 20000 in
theorem gX9_group_X3_arrange : GoodIn wsX9_group (wsV RX9 219 RX3 yX3_arrange wsX3_arrange) := goodIn_app (goodIn_of _ (by decide +kernel)) ggX9_group_X3_arrange
set_option maxRecDepth 20000 in
theorem ggX9_group_X1_kindOf : GoodIn wsX9_group wsX1_kindOf := goodIn_r _ [97, 98, 40, 41, 6, 42, 43, 44, 45, 4, 5, 7, 8, 46, 11, 47, 134, 135, 136] (by decide +kernel) (by decide +kernel)
set_option maxRecDepth 20000 in
theorem gX9_group_X1_kindOf : GoodIn wsX9_group (wsV RX9 257 RX1 yX1_kindOf wsX1_kindOf) := goodIn_app (goodIn_of _ (by decide +kernel)) ggX9_group_X1_kindOf
set_option maxRecDepth 20000 in
theorem ggX9_group_X9_firstVerseOrNone : GoodIn wsX9_group wsX9_firstVerseOrNone := goodIn_r _ [102, 1, 103, 40, 41, 6, 42, 43, 44, 45, 4, 5, 7, 8, 46, 11, 47, 104, 105, 106, 107, 98, 124, 125, 126, 127, 128, 129, 130, 131, 132, 133, 134, 135, 136] (by decide +kernel) (by decide +kernel)
set_option maxRecDepth 20000 in
theorem gX9_group_X9_firstVerseOrNone : GoodIn wsX9_group (wsV RX9 260 RX9 yX9_firstVerseOrNone wsX9_firstVerseOrNone) := goodIn_app (goodIn_of _ (by decide +kernel)) ggX9_group_X9_firstVerseOrNone
set_option maxRecDepth 20000 in
theorem ggX9_group_X1_sizeOf : GoodIn wsX9_group wsX1_sizeOf := goodIn_r _ [42, 43, 44, 45, 4, 5, 6, 7, 8, 46, 11, 47, 134, 135, 136] (by decide +kernel) (by decide +kernel)
set_option maxRecDepth 20000 in
theorem gX9_group_X1_sizeOf : GoodIn wsX9_group (wsV RX9 136 RX1 yX1_sizeOf wsX1_sizeOf) := goodIn_app (goodIn_of _ (by decide +kernel)) ggX9_group_X1_sizeOf
set_option maxRecDepth 20000 in
theorem ggX9_group_X3_heightOf : GoodIn wsX9_group wsX3_heightOf := goodIn_r _ [111, 31, 46, 11, 47, 137, 138, 139, 140, 141, 142, 143, 144, 145, 146, 147] (by decide +kernel) (by decide +kernel)
set_option maxRecDepth 20000 in
theorem gX9_group_X3_heightOf : GoodIn wsX9_group (wsV RX9 263 RX3 yX3_heightOf wsX3_heightOf) := goodIn_app (goodIn_of _ (by decide +kernel)) ggX9_group_X3_heightOf
set_option maxRecDepth 20000 in
theorem ggX9_group_X3_pageOf : GoodIn wsX9_group wsX3_pageOf := goodIn_r _ [115, 89, 46, 11, 47, 137, 138, 139, 140, 141, 142, 143, 144, 145, 146, 147] (by decide +kernel) (by decide +kernel)
set_option maxRecDepth 20000 in
theorem gX9_group_X3_pageOf : GoodIn wsX9_group (wsV RX9 266 RX3 yX3_pageOf wsX3_pageOf) := goodIn_app (goodIn_of _ (by decide +kernel)) ggX9_group_X3_pageOf
set_option maxRecDepth 20000 in
theorem ggX9_group_X3_lineOf : GoodIn wsX9_group wsX3_lineOf := goodIn_r _ [119, 90, 46, 11, 47, 137, 138, 139, 140, 141, 142, 143, 144, 145, 146, 147] (by decide +kernel) (by decide +kernel)
set_option maxRecDepth 20000 in
theorem gX9_group_X3_lineOf : GoodIn wsX9_group (wsV RX9 269 RX3 yX3_lineOf wsX3_lineOf) := goodIn_app (goodIn_of _ (by decide +kernel)) ggX9_group_X3_lineOf
set_option maxRecDepth 20000 in
theorem ggX9_group_X3_notesOf : GoodIn wsX9_group wsX3_notesOf := goodIn_r _ [123, 38, 46, 11, 47, 137, 138, 139, 140, 141, 142, 143, 144, 145, 146, 147] (by decide +kernel) (by decide +kernel)
set_option maxRecDepth 20000 in
theorem gX9_group_X3_notesOf : GoodIn wsX9_group (wsV RX9 272 RX3 yX3_notesOf wsX3_notesOf) := goodIn_app (goodIn_of _ (by decide +kernel)) ggX9_group_X3_notesOf
theorem dX9_group_0 : decode cX9_group 0 = .ok (.aload_n 0, 1) := by decide +kernel
theorem dX9_group_1 : decode cX9_group 1 = .ok (.getfield 12, 3) := by decide +kernel
theorem dX9_group_4 : decode cX9_group 4 = .ok (.getfield 88, 3) := by decide +kernel
theorem dX9_group_7 : decode cX9_group 7 = .ok (.iload_n 1, 1) := by decide +kernel
theorem dX9_group_8 : decode cX9_group 8 = .ok (.invokevirtual 130, 3) := by decide +kernel
theorem dX9_group_11 : decode cX9_group 11 = .ok (.ifCond .ne 5, 3) := by decide +kernel
theorem dX9_group_14 : decode cX9_group 14 = .ok (.iconst (-1), 1) := by decide +kernel
theorem dX9_group_15 : decode cX9_group 15 = .ok (.ireturn, 1) := by decide +kernel
theorem dX9_group_16 : decode cX9_group 16 = .ok (.iload_n 2, 1) := by decide +kernel
theorem dX9_group_17 : decode cX9_group 17 = .ok (.iconst 0, 1) := by decide +kernel
theorem dX9_group_18 : decode cX9_group 18 = .ok (.bipush 8, 2) := by decide +kernel
theorem dX9_group_20 : decode cX9_group 20 = .ok (.invokestatic 62, 3) := by decide +kernel
theorem dX9_group_23 : decode cX9_group 23 = .ok (.ifCond .ne 6, 3) := by decide +kernel
theorem dX9_group_26 : decode cX9_group 26 = .ok (.bipush (-2), 2) := by decide +kernel
theorem dX9_group_28 : decode cX9_group 28 = .ok (.ireturn, 1) := by decide +kernel
theorem dX9_group_29 : decode cX9_group 29 = .ok (.iload_n 2, 1) := by decide +kernel
theorem dX9_group_30 : decode cX9_group 30 = .ok (.iconst 5, 1) := by decide +kernel
theorem dX9_group_31 : decode cX9_group 31 = .ok (.if_icmp .lt 14, 3) := by decide +kernel
theorem dX9_group_34 : decode cX9_group 34 = .ok (.aload_n 0, 1) := by decide +kernel
theorem dX9_group_35 : decode cX9_group 35 = .ok (.getfield 54, 3) := by decide +kernel
theorem dX9_group_38 : decode cX9_group 38 = .ok (.aload_n 0, 1) := by decide +kernel
theorem dX9_group_39 : decode cX9_group 39 = .ok (.getfield 12, 3) := by decide +kernel
theorem dX9_group_42 : decode cX9_group 42 = .ok (.invokevirtual 219, 3) := by decide +kernel
theorem dX9_group_45 : decode cX9_group 45 = .ok (.iload_n 2, 1) := by decide +kernel
theorem dX9_group_46 : decode cX9_group 46 = .ok (.tableswitch 125 0 7 #[46, 58, 65, 78, 85, 98, 107, 116], 46) := by decide +kernel
theorem dX9_group_92 : decode cX9_group 92 = .ok (.aload_n 0, 1) := by decide +kernel
theorem dX9_group_93 : decode cX9_group 93 = .ok (.getfield 12, 3) := by decide +kernel
theorem dX9_group_96 : decode cX9_group 96 = .ok (.getfield 88, 3) := by decide +kernel
theorem dX9_group_99 : decode cX9_group 99 = .ok (.iload_n 1, 1) := by decide +kernel
theorem dX9_group_100 : decode cX9_group 100 = .ok (.invokevirtual 257, 3) := by decide +kernel
theorem dX9_group_103 : decode cX9_group 103 = .ok (.ireturn, 1) := by decide +kernel
theorem dX9_group_104 : decode cX9_group 104 = .ok (.aload_n 0, 1) := by decide +kernel
theorem dX9_group_105 : decode cX9_group 105 = .ok (.iload_n 1, 1) := by decide +kernel
theorem dX9_group_106 : decode cX9_group 106 = .ok (.iconst 0, 1) := by decide +kernel
theorem dX9_group_107 : decode cX9_group 107 = .ok (.invokevirtual 260, 3) := by decide +kernel
theorem dX9_group_110 : decode cX9_group 110 = .ok (.ireturn, 1) := by decide +kernel
theorem dX9_group_111 : decode cX9_group 111 = .ok (.aload_n 0, 1) := by decide +kernel
theorem dX9_group_112 : decode cX9_group 112 = .ok (.getfield 12, 3) := by decide +kernel
theorem dX9_group_115 : decode cX9_group 115 = .ok (.getfield 88, 3) := by decide +kernel
theorem dX9_group_118 : decode cX9_group 118 = .ok (.iload_n 1, 1) := by decide +kernel
theorem dX9_group_119 : decode cX9_group 119 = .ok (.iconst 0, 1) := by decide +kernel
theorem dX9_group_120 : decode cX9_group 120 = .ok (.invokevirtual 136, 3) := by decide +kernel
theorem dX9_group_123 : decode cX9_group 123 = .ok (.ireturn, 1) := by decide +kernel
theorem dX9_group_124 : decode cX9_group 124 = .ok (.aload_n 0, 1) := by decide +kernel
theorem dX9_group_125 : decode cX9_group 125 = .ok (.iload_n 1, 1) := by decide +kernel
theorem dX9_group_126 : decode cX9_group 126 = .ok (.iconst 1, 1) := by decide +kernel
theorem dX9_group_127 : decode cX9_group 127 = .ok (.invokevirtual 260, 3) := by decide +kernel
theorem dX9_group_130 : decode cX9_group 130 = .ok (.ireturn, 1) := by decide +kernel
theorem dX9_group_131 : decode cX9_group 131 = .ok (.aload_n 0, 1) := by decide +kernel
theorem dX9_group_132 : decode cX9_group 132 = .ok (.getfield 12, 3) := by decide +kernel
theorem dX9_group_135 : decode cX9_group 135 = .ok (.getfield 88, 3) := by decide +kernel
theorem dX9_group_138 : decode cX9_group 138 = .ok (.iload_n 1, 1) := by decide +kernel
theorem dX9_group_139 : decode cX9_group 139 = .ok (.iconst 1, 1) := by decide +kernel
theorem dX9_group_140 : decode cX9_group 140 = .ok (.invokevirtual 136, 3) := by decide +kernel
theorem dX9_group_143 : decode cX9_group 143 = .ok (.ireturn, 1) := by decide +kernel
theorem dX9_group_144 : decode cX9_group 144 = .ok (.aload_n 0, 1) := by decide +kernel
theorem dX9_group_145 : decode cX9_group 145 = .ok (.getfield 54, 3) := by decide +kernel
theorem dX9_group_148 : decode cX9_group 148 = .ok (.iload_n 1, 1) := by decide +kernel
theorem dX9_group_149 : decode cX9_group 149 = .ok (.invokevirtual 263, 3) := by decide +kernel
theorem dX9_group_152 : decode cX9_group 152 = .ok (.ireturn, 1) := by decide +kernel
theorem dX9_group_153 : decode cX9_group 153 = .ok (.aload_n 0, 1) := by decide +kernel
theorem dX9_group_154 : decode cX9_group 154 = .ok (.getfield 54, 3) := by decide +kernel
theorem dX9_group_157 : decode cX9_group 157 = .ok (.iload_n 1, 1) := by decide +kernel
theorem dX9_group_158 : decode cX9_group 158 = .ok (.invokevirtual 266, 3) := by decide +kernel
theorem dX9_group_161 : decode cX9_group 161 = .ok (.ireturn, 1) := by decide +kernel
theorem dX9_group_162 : decode cX9_group 162 = .ok (.aload_n 0, 1) := by decide +kernel
theorem dX9_group_163 : decode cX9_group 163 = .ok (.getfield 54, 3) := by decide +kernel
theorem dX9_group_166 : decode cX9_group 166 = .ok (.iload_n 1, 1) := by decide +kernel
theorem dX9_group_167 : decode cX9_group 167 = .ok (.invokevirtual 269, 3) := by decide +kernel
theorem dX9_group_170 : decode cX9_group 170 = .ok (.ireturn, 1) := by decide +kernel
theorem dX9_group_171 : decode cX9_group 171 = .ok (.aload_n 0, 1) := by decide +kernel
theorem dX9_group_172 : decode cX9_group 172 = .ok (.getfield 54, 3) := by decide +kernel
theorem dX9_group_175 : decode cX9_group 175 = .ok (.iload_n 1, 1) := by decide +kernel
theorem dX9_group_176 : decode cX9_group 176 = .ok (.invokevirtual 272, 3) := by decide +kernel
theorem dX9_group_179 : decode cX9_group 179 = .ok (.ireturn, 1) := by decide +kernel
set_option maxRecDepth 20000 in
theorem ggX9_count_X9_isWithin : GoodIn wsX9_count wsX9_isWithin := goodIn_r _ [7] (by decide +kernel) (by decide +kernel)
set_option maxRecDepth 20000 in
theorem gX9_count_X9_isWithin : GoodIn wsX9_count (va_wsS RX9 62 yX9_isWithin wsX9_isWithin) := goodIn_app (goodIn_of _ (by decide +kernel)) ggX9_count_X9_isWithin
set_option maxRecDepth 20000 in
theorem ggX9_count_X0_chapterTotal : GoodIn wsX9_count wsX0_chapterTotal := goodIn_r _ [12, 13, 14, 15, 16, 11, 17, 18, 19, 20, 21, 22, 23, 6, 24, 117, 118, 119, 120] (by decide +kernel) (by decide +kernel)
set_option maxRecDepth 20000 in
theorem gX9_count_X0_chapterTotal : GoodIn wsX9_count (wsV RX9 70 RX0 yX0_chapterTotal wsX0_chapterTotal) := goodIn_app (goodIn_of _ (by decide +kernel)) ggX9_count_X0_chapterTotal
set_option maxRecDepth 20000 in
theorem ggX9_count_X3_arrange : GoodIn wsX9_count wsX3_arrange := goodIn_r _ [29, 30, 31, 32, 33, 34, 35, 36, 37, 28, 38, 39, 40, 41, 42, 43, 44, 45, 46, 47, 48, 49, 50, 51, 52, 53, 54, 55, 56, 57, 58, 59, 60, 61, 62, 23, 6, 24, 63, 64, 65, 11, 66, 67, 68, 69, 70, 71, 19, 20, 21, 22, 13, 72, 73, 74, 75, 76, 77, 14, 15, 16, 17, 18, 78, 79, 80, 81, 82, 83, 84, 85, 86, 87, 88, 89, 90, 91, 92, 93, 94, 95, 96, 97, 114, 115, 116, 121, 122, 123, 124, 125, 126, 127, 128, 129, 130, 131, 132, 133, 134, 117, 118, 119, 120] (by decide +kernel) (by decide +kernel)
set_option maxRecDepth 20000 in
theorem gX9_count_X3_arrange : GoodIn wsX9_count (wsV RX9 219 RX3 yX3_arrange wsX3_arrange) := goodIn_app (goodIn_of _ (by decide +kernel)) ggX9_count_X3_arrange
set_option maxRecDepth 20000 in
theorem ggX9_count_X1_kindTotal : GoodIn wsX9_count wsX1_kindTotal := goodIn_r _ [101, 62, 102, 103, 104, 54, 105, 106, 52, 53, 55, 56, 57, 58, 59, 60, 61, 23, 6, 24, 121, 122, 123] (by decide +kernel) (by decide +kernel)
set_option maxRecDepth 20000 in
theorem gX9_count_X1_kindTotal : GoodIn wsX9_count (wsV RX9 278 RX1 yX1_kindTotal wsX1_kindTotal) := goodIn_app (goodIn_of _ (by decide +kernel)) ggX9_count_X1_kindTotal
theorem dX9_count_0 : decode cX9_count 0 = .ok (.iload_n 1, 1) := by decide +kernel
theorem dX9_count_1 : decode cX9_count 1 = .ok (.iconst 0, 1) := by decide +kernel
theorem dX9_count_2 : decode cX9_count 2 = .ok (.bipush 11, 2) := by decide +kernel
theorem dX9_count_4 : decode cX9_count 4 = .ok (.invokestatic 62, 3) := by decide +kernel
theorem dX9_count_7 : decode cX9_count 7 = .ok (.ifCond .ne 6, 3) := by decide +kernel
theorem dX9_count_10 : decode cX9_count 10 = .ok (.bipush (-2), 2) := by decide +kernel
theorem dX9_count_12 : decode cX9_count 12 = .ok (.ireturn, 1) := by decide +kernel
theorem dX9_count_13 : decode cX9_count 13 = .ok (.iload_n 1, 1) := by decide +kernel
theorem dX9_count_14 : decode cX9_count 14 = .ok (.tableswitch 163 0 11 #[62, 73, 84, 95, 106, 163, 163, 163, 163, 117, 136, 155], 62) := by decide +kernel
theorem dX9_count_76 : decode cX9_count 76 = .ok (.aload_n 0, 1) := by decide +kernel
theorem dX9_count_77 : decode cX9_count 77 = .ok (.getfield 12, 3) := by decide +kernel
theorem dX9_count_80 : decode cX9_count 80 = .ok (.getfield 154, 3) := by decide +kernel
theorem dX9_count_83 : decode cX9_count 83 = .ok (.invokevirtual 70, 3) := by decide +kernel
theorem dX9_count_86 : decode cX9_count 86 = .ok (.ireturn, 1) := by decide +kernel
theorem dX9_count_87 : decode cX9_count 87 = .ok (.aload_n 0, 1) := by decide +kernel
theorem dX9_count_88 : decode cX9_count 88 = .ok (.getfield 12, 3) := by decide +kernel
theorem dX9_count_91 : decode cX9_count 91 = .ok (.getfield 158, 3) := by decide +kernel
theorem dX9_count_94 : decode cX9_count 94 = .ok (.invokevirtual 70, 3) := by decide +kernel
theorem dX9_count_97 : decode cX9_count 97 = .ok (.ireturn, 1) := by decide +kernel
theorem dX9_count_98 : decode cX9_count 98 = .ok (.aload_n 0, 1) := by decide +kernel
theorem dX9_count_99 : decode cX9_count 99 = .ok (.getfield 12, 3) := by decide +kernel
theorem dX9_count_102 : decode cX9_count 102 = .ok (.getfield 154, 3) := by decide +kernel
theorem dX9_count_105 : decode cX9_count 105 = .ok (.getfield 76, 3) := by decide +kernel
theorem dX9_count_108 : decode cX9_count 108 = .ok (.ireturn, 1) := by decide +kernel
theorem dX9_count_109 : decode cX9_count 109 = .ok (.aload_n 0, 1) := by decide +kernel
theorem dX9_count_110 : decode cX9_count 110 = .ok (.getfield 12, 3) := by decide +kernel
theorem dX9_count_113 : decode cX9_count 113 = .ok (.getfield 158, 3) := by decide +kernel
theorem dX9_count_116 : decode cX9_count 116 = .ok (.getfield 76, 3) := by decide +kernel
theorem dX9_count_119 : decode cX9_count 119 = .ok (.ireturn, 1) := by decide +kernel
theorem dX9_count_120 : decode cX9_count 120 = .ok (.aload_n 0, 1) := by decide +kernel
theorem dX9_count_121 : decode cX9_count 121 = .ok (.getfield 12, 3) := by decide +kernel
theorem dX9_count_124 : decode cX9_count 124 = .ok (.getfield 88, 3) := by decide +kernel
theorem dX9_count_127 : decode cX9_count 127 = .ok (.getfield 133, 3) := by decide +kernel
theorem dX9_count_130 : decode cX9_count 130 = .ok (.ireturn, 1) := by decide +kernel
theorem dX9_count_131 : decode cX9_count 131 = .ok (.aload_n 0, 1) := by decide +kernel
theorem dX9_count_132 : decode cX9_count 132 = .ok (.getfield 54, 3) := by decide +kernel
theorem dX9_count_135 : decode cX9_count 135 = .ok (.aload_n 0, 1) := by decide +kernel
theorem dX9_count_136 : decode cX9_count 136 = .ok (.getfield 12, 3) := by decide +kernel
theorem dX9_count_139 : decode cX9_count 139 = .ok (.invokevirtual 219, 3) := by decide +kernel
theorem dX9_count_142 : decode cX9_count 142 = .ok (.aload_n 0, 1) := by decide +kernel
theorem dX9_count_143 : decode cX9_count 143 = .ok (.getfield 54, 3) := by decide +kernel
theorem dX9_count_146 : decode cX9_count 146 = .ok (.getfield 222, 3) := by decide +kernel
theorem dX9_count_149 : decode cX9_count 149 = .ok (.ireturn, 1) := by decide +kernel
theorem dX9_count_150 : decode cX9_count 150 = .ok (.aload_n 0, 1) := by decide +kernel
theorem dX9_count_151 : decode cX9_count 151 = .ok (.getfield 54, 3) := by decide +kernel
theorem dX9_count_154 : decode cX9_count 154 = .ok (.aload_n 0, 1) := by decide +kernel
theorem dX9_count_155 : decode cX9_count 155 = .ok (.getfield 12, 3) := by decide +kernel
theorem dX9_count_158 : decode cX9_count 158 = .ok (.invokevirtual 219, 3) := by decide +kernel
theorem dX9_count_161 : decode cX9_count 161 = .ok (.aload_n 0, 1) := by decide +kernel
theorem dX9_count_162 : decode cX9_count 162 = .ok (.getfield 54, 3) := by decide +kernel
theorem dX9_count_165 : decode cX9_count 165 = .ok (.getfield 275, 3) := by decide +kernel
theorem dX9_count_168 : decode cX9_count 168 = .ok (.ireturn, 1) := by decide +kernel
theorem dX9_count_169 : decode cX9_count 169 = .ok (.aload_n 0, 1) := by decide +kernel
theorem dX9_count_170 : decode cX9_count 170 = .ok (.getfield 19, 3) := by decide +kernel
theorem dX9_count_173 : decode cX9_count 173 = .ok (.getfield 172, 3) := by decide +kernel
theorem dX9_count_176 : decode cX9_count 176 = .ok (.ireturn, 1) := by decide +kernel
theorem dX9_count_177 : decode cX9_count 177 = .ok (.aload_n 0, 1) := by decide +kernel
theorem dX9_count_178 : decode cX9_count 178 = .ok (.getfield 12, 3) := by decide +kernel
theorem dX9_count_181 : decode cX9_count 181 = .ok (.getfield 88, 3) := by decide +kernel
theorem dX9_count_184 : decode cX9_count 184 = .ok (.iload_n 1, 1) := by decide +kernel
theorem dX9_count_185 : decode cX9_count 185 = .ok (.iconst 5, 1) := by decide +kernel
theorem dX9_count_186 : decode cX9_count 186 = .ok (.isub, 1) := by decide +kernel
theorem dX9_count_187 : decode cX9_count 187 = .ok (.invokevirtual 278, 3) := by decide +kernel
theorem dX9_count_190 : decode cX9_count 190 = .ok (.ireturn, 1) := by decide +kernel
set_option maxRecDepth 20000 in
theorem ggX9_isVerse_X9_isBook : GoodIn wsX9_isVerse wsX9_isBook := goodIn_r _ [5] (by decide +kernel) (by decide +kernel)
set_option maxRecDepth 20000 in
theorem gX9_isVerse_X9_isBook : GoodIn wsX9_isVerse (va_wsS RX9 58 yX9_isBook wsX9_isBook) := goodIn_app (goodIn_of _ (by decide +kernel)) ggX9_isVerse_X9_isBook
set_option maxRecDepth 20000 in
theorem ggX9_isVerse_X7_bookOf : GoodIn wsX9_isVerse wsX7_bookOf := goodIn_r _ [10, 11, 12, 26, 27, 28] (by decide +kernel) (by decide +kernel)
set_option maxRecDepth 20000 in
theorem gX9_isVerse_X7_bookOf : GoodIn wsX9_isVerse (wsV RX9 66 RX7 yX7_bookOf wsX7_bookOf) := goodIn_app (goodIn_of _ (by decide +kernel)) ggX9_isVerse_X7_bookOf
set_option maxRecDepth 20000 in
theorem ggX9_isVerse_X0_has : GoodIn wsX9_isVerse wsX0_has := goodIn_r _ [17, 18, 29, 30, 31, 32] (by decide +kernel) (by decide +kernel)
set_option maxRecDepth 20000 in
theorem gX9_isVerse_X0_has : GoodIn wsX9_isVerse (wsV RX9 281 RX0 yX0_has wsX0_has) := goodIn_app (goodIn_of _ (by decide +kernel)) ggX9_isVerse_X0_has
theorem dX9_isVerse_0 : decode cX9_isVerse 0 = .ok (.iload_n 1, 1) := by decide +kernel
theorem dX9_isVerse_1 : decode cX9_isVerse 1 = .ok (.invokestatic 58, 3) := by decide +kernel
theorem dX9_isVerse_4 : decode cX9_isVerse 4 = .ok (.ifCond .eq 22, 3) := by decide +kernel
theorem dX9_isVerse_7 : decode cX9_isVerse 7 = .ok (.aload_n 0, 1) := by decide +kernel
theorem dX9_isVerse_8 : decode cX9_isVerse 8 = .ok (.getfield 12, 3) := by decide +kernel
theorem dX9_isVerse_11 : decode cX9_isVerse 11 = .ok (.iload_n 1, 1) := by decide +kernel
theorem dX9_isVerse_12 : decode cX9_isVerse 12 = .ok (.invokevirtual 66, 3) := by decide +kernel
theorem dX9_isVerse_15 : decode cX9_isVerse 15 = .ok (.iload_n 2, 1) := by decide +kernel
theorem dX9_isVerse_16 : decode cX9_isVerse 16 = .ok (.invokevirtual 281, 3) := by decide +kernel
theorem dX9_isVerse_19 : decode cX9_isVerse 19 = .ok (.ifCond .eq 7, 3) := by decide +kernel
theorem dX9_isVerse_22 : decode cX9_isVerse 22 = .ok (.iconst 1, 1) := by decide +kernel
theorem dX9_isVerse_23 : decode cX9_isVerse 23 = .ok (.goto 4, 3) := by decide +kernel
theorem dX9_isVerse_26 : decode cX9_isVerse 26 = .ok (.iconst 0, 1) := by decide +kernel
theorem dX9_isVerse_27 : decode cX9_isVerse 27 = .ok (.ireturn, 1) := by decide +kernel
set_option maxRecDepth 20000 in
theorem ggX9_firstVerseOrNone_X1_sizeOf : GoodIn wsX9_firstVerseOrNone wsX1_sizeOf := goodIn_r _ [6, 7, 8, 9, 10, 11, 5, 12, 13, 14, 15, 16, 32, 33, 34] (by decide +kernel) (by decide +kernel)
set_option maxRecDepth 20000 in
theorem gX9_firstVerseOrNone_X1_sizeOf : GoodIn wsX9_firstVerseOrNone (wsV RX9 136 RX1 yX1_sizeOf wsX1_sizeOf) := goodIn_app (goodIn_of _ (by decide +kernel)) ggX9_firstVerseOrNone_X1_sizeOf
set_option maxRecDepth 20000 in
theorem ggX9_firstVerseOrNone_X1_firstOf : GoodIn wsX9_firstVerseOrNone wsX1_firstOf := goodIn_r _ [20, 13, 21, 3, 4, 5, 6, 7, 8, 9, 10, 11, 12, 14, 15, 16, 32, 33, 34] (by decide +kernel) (by decide +kernel)
set_option maxRecDepth 20000 in
theorem gX9_firstVerseOrNone_X1_firstOf : GoodIn wsX9_firstVerseOrNone (wsV RX9 204 RX1 yX1_firstOf wsX1_firstOf) := goodIn_app (goodIn_of _ (by decide +kernel)) ggX9_firstVerseOrNone_X1_firstOf
theorem dX9_firstVerseOrNone_0 : decode cX9_firstVerseOrNone 0 = .ok (.aload_n 0, 1) := by decide +kernel
theorem dX9_firstVerseOrNone_1 : decode cX9_firstVerseOrNone 1 = .ok (.getfield 12, 3) := by decide +kernel
theorem dX9_firstVerseOrNone_4 : decode cX9_firstVerseOrNone 4 = .ok (.getfield 88, 3) := by decide +kernel
theorem dX9_firstVerseOrNone_7 : decode cX9_firstVerseOrNone 7 = .ok (.iload_n 1, 1) := by decide +kernel
theorem dX9_firstVerseOrNone_8 : decode cX9_firstVerseOrNone 8 = .ok (.iload_n 2, 1) := by decide +kernel
theorem dX9_firstVerseOrNone_9 : decode cX9_firstVerseOrNone 9 = .ok (.invokevirtual 136, 3) := by decide +kernel
theorem dX9_firstVerseOrNone_12 : decode cX9_firstVerseOrNone 12 = .ok (.ifCond .ne 8, 3) := by decide +kernel
theorem dX9_firstVerseOrNone_15 : decode cX9_firstVerseOrNone 15 = .ok (.bipush (-5), 2) := by decide +kernel
theorem dX9_firstVerseOrNone_17 : decode cX9_firstVerseOrNone 17 = .ok (.goto 15, 3) := by decide +kernel
theorem dX9_firstVerseOrNone_20 : decode cX9_firstVerseOrNone 20 = .ok (.aload_n 0, 1) := by decide +kernel
theorem dX9_firstVerseOrNone_21 : decode cX9_firstVerseOrNone 21 = .ok (.getfield 12, 3) := by decide +kernel
theorem dX9_firstVerseOrNone_24 : decode cX9_firstVerseOrNone 24 = .ok (.getfield 88, 3) := by decide +kernel
theorem dX9_firstVerseOrNone_27 : decode cX9_firstVerseOrNone 27 = .ok (.iload_n 1, 1) := by decide +kernel
theorem dX9_firstVerseOrNone_28 : decode cX9_firstVerseOrNone 28 = .ok (.iload_n 2, 1) := by decide +kernel
theorem dX9_firstVerseOrNone_29 : decode cX9_firstVerseOrNone 29 = .ok (.invokevirtual 204, 3) := by decide +kernel
theorem dX9_firstVerseOrNone_32 : decode cX9_firstVerseOrNone 32 = .ok (.ireturn, 1) := by decide +kernel
theorem dX9_isBook_0 : decode cX9_isBook 0 = .ok (.iload_n 0, 1) := by decide +kernel
theorem dX9_isBook_1 : decode cX9_isBook 1 = .ok (.ifCond .eq 8, 3) := by decide +kernel
theorem dX9_isBook_4 : decode cX9_isBook 4 = .ok (.iload_n 0, 1) := by decide +kernel
theorem dX9_isBook_5 : decode cX9_isBook 5 = .ok (.iconst 1, 1) := by decide +kernel
theorem dX9_isBook_6 : decode cX9_isBook 6 = .ok (.if_icmp .ne 7, 3) := by decide +kernel
theorem dX9_isBook_9 : decode cX9_isBook 9 = .ok (.iconst 1, 1) := by decide +kernel
theorem dX9_isBook_10 : decode cX9_isBook 10 = .ok (.goto 4, 3) := by decide +kernel
theorem dX9_isBook_13 : decode cX9_isBook 13 = .ok (.iconst 0, 1) := by decide +kernel
theorem dX9_isBook_14 : decode cX9_isBook 14 = .ok (.ireturn, 1) := by decide +kernel
theorem dX9_otherBook_0 : decode cX9_otherBook 0 = .ok (.iload_n 0, 1) := by decide +kernel
theorem dX9_otherBook_1 : decode cX9_otherBook 1 = .ok (.ifCond .ne 7, 3) := by decide +kernel
theorem dX9_otherBook_4 : decode cX9_otherBook 4 = .ok (.iconst 1, 1) := by decide +kernel
theorem dX9_otherBook_5 : decode cX9_otherBook 5 = .ok (.goto 4, 3) := by decide +kernel
theorem dX9_otherBook_8 : decode cX9_otherBook 8 = .ok (.iconst 0, 1) := by decide +kernel
theorem dX9_otherBook_9 : decode cX9_otherBook 9 = .ok (.ireturn, 1) := by decide +kernel
theorem dX9_isWithin_0 : decode cX9_isWithin 0 = .ok (.iload_n 0, 1) := by decide +kernel
theorem dX9_isWithin_1 : decode cX9_isWithin 1 = .ok (.iload_n 1, 1) := by decide +kernel
theorem dX9_isWithin_2 : decode cX9_isWithin 2 = .ok (.if_icmp .lt 12, 3) := by decide +kernel
theorem dX9_isWithin_5 : decode cX9_isWithin 5 = .ok (.iload_n 0, 1) := by decide +kernel
theorem dX9_isWithin_6 : decode cX9_isWithin 6 = .ok (.iload_n 2, 1) := by decide +kernel
theorem dX9_isWithin_7 : decode cX9_isWithin 7 = .ok (.if_icmp .gt 7, 3) := by decide +kernel
theorem dX9_isWithin_10 : decode cX9_isWithin 10 = .ok (.iconst 1, 1) := by decide +kernel
theorem dX9_isWithin_11 : decode cX9_isWithin 11 = .ok (.goto 4, 3) := by decide +kernel
theorem dX9_isWithin_14 : decode cX9_isWithin 14 = .ok (.iconst 0, 1) := by decide +kernel
theorem dX9_isWithin_15 : decode cX9_isWithin 15 = .ok (.ireturn, 1) := by decide +kernel
theorem dX9_linesFor_0 : decode cX9_linesFor 0 = .ok (.iload_n 1, 1) := by decide +kernel
theorem dX9_linesFor_1 : decode cX9_linesFor 1 = .ok (.iconst 1, 1) := by decide +kernel
theorem dX9_linesFor_2 : decode cX9_linesFor 2 = .ok (.if_icmp .ge 7, 3) := by decide +kernel
theorem dX9_linesFor_5 : decode cX9_linesFor 5 = .ok (.iconst 0, 1) := by decide +kernel
theorem dX9_linesFor_6 : decode cX9_linesFor 6 = .ok (.goto 10, 3) := by decide +kernel
theorem dX9_linesFor_9 : decode cX9_linesFor 9 = .ok (.iload_n 0, 1) := by decide +kernel
theorem dX9_linesFor_10 : decode cX9_linesFor 10 = .ok (.iload_n 1, 1) := by decide +kernel
theorem dX9_linesFor_11 : decode cX9_linesFor 11 = .ok (.iadd, 1) := by decide +kernel
theorem dX9_linesFor_12 : decode cX9_linesFor 12 = .ok (.iconst 1, 1) := by decide +kernel
theorem dX9_linesFor_13 : decode cX9_linesFor 13 = .ok (.isub, 1) := by decide +kernel
theorem dX9_linesFor_14 : decode cX9_linesFor 14 = .ok (.iload_n 1, 1) := by decide +kernel
theorem dX9_linesFor_15 : decode cX9_linesFor 15 = .ok (.idiv, 1) := by decide +kernel
theorem dX9_linesFor_16 : decode cX9_linesFor 16 = .ok (.ireturn, 1) := by decide +kernel
theorem dX9_cellOf_0 : decode cX9_cellOf 0 = .ok (.iload_n 1, 1) := by decide +kernel
theorem dX9_cellOf_1 : decode cX9_cellOf 1 = .ok (.ifCond .lt 15, 3) := by decide +kernel
theorem dX9_cellOf_4 : decode cX9_cellOf 4 = .ok (.iload_n 1, 1) := by decide +kernel
theorem dX9_cellOf_5 : decode cX9_cellOf 5 = .ok (.aload_n 0, 1) := by decide +kernel
theorem dX9_cellOf_6 : decode cX9_cellOf 6 = .ok (.arraylength, 1) := by decide +kernel
theorem dX9_cellOf_7 : decode cX9_cellOf 7 = .ok (.if_icmp .ge 9, 3) := by decide +kernel
theorem dX9_cellOf_10 : decode cX9_cellOf 10 = .ok (.aload_n 0, 1) := by decide +kernel
theorem dX9_cellOf_11 : decode cX9_cellOf 11 = .ok (.iload_n 1, 1) := by decide +kernel
theorem dX9_cellOf_12 : decode cX9_cellOf 12 = .ok (.iaload, 1) := by decide +kernel
theorem dX9_cellOf_13 : decode cX9_cellOf 13 = .ok (.goto 4, 3) := by decide +kernel
theorem dX9_cellOf_16 : decode cX9_cellOf 16 = .ok (.iconst 0, 1) := by decide +kernel
theorem dX9_cellOf_17 : decode cX9_cellOf 17 = .ok (.ireturn, 1) := by decide +kernel
theorem dX9_copyRow_0 : decode cX9_copyRow 0 = .ok (.aload_n 0, 1) := by decide +kernel
theorem dX9_copyRow_1 : decode cX9_copyRow 1 = .ok (.iconst 0, 1) := by decide +kernel
theorem dX9_copyRow_2 : decode cX9_copyRow 2 = .ok (.aload_n 1, 1) := by decide +kernel
theorem dX9_copyRow_3 : decode cX9_copyRow 3 = .ok (.iconst 0, 1) := by decide +kernel
theorem dX9_copyRow_4 : decode cX9_copyRow 4 = .ok (.aload_n 0, 1) := by decide +kernel
theorem dX9_copyRow_5 : decode cX9_copyRow 5 = .ok (.arraylength, 1) := by decide +kernel
theorem dX9_copyRow_6 : decode cX9_copyRow 6 = .ok (.aload_n 1, 1) := by decide +kernel
theorem dX9_copyRow_7 : decode cX9_copyRow 7 = .ok (.arraylength, 1) := by decide +kernel
theorem dX9_copyRow_8 : decode cX9_copyRow 8 = .ok (.invokestatic 282, 3) := by decide +kernel
theorem dX9_copyRow_11 : decode cX9_copyRow 11 = .ok (.invokestatic 285, 3) := by decide +kernel
theorem dX9_copyRow_14 : decode cX9_copyRow 14 = .ok (.return_, 1) := by decide +kernel
set_option maxRecDepth 20000 in
theorem ggX9_openCell_X9_isWithin : GoodIn wsX9_openCell wsX9_isWithin := goodIn_r _ [8] (by decide +kernel) (by decide +kernel)
set_option maxRecDepth 20000 in
theorem gX9_openCell_X9_isWithin : GoodIn wsX9_openCell (va_wsS RX9 62 yX9_isWithin wsX9_isWithin) := goodIn_app (goodIn_of _ (by decide +kernel)) ggX9_openCell_X9_isWithin
theorem dX9_openCell_0 : decode cX9_openCell 0 = .ok (.iload_n 2, 1) := by decide +kernel
theorem dX9_openCell_1 : decode cX9_openCell 1 = .ok (.iconst 0, 1) := by decide +kernel
theorem dX9_openCell_2 : decode cX9_openCell 2 = .ok (.aload_n 0, 1) := by decide +kernel
theorem dX9_openCell_3 : decode cX9_openCell 3 = .ok (.arraylength, 1) := by decide +kernel
theorem dX9_openCell_4 : decode cX9_openCell 4 = .ok (.iconst 1, 1) := by decide +kernel
theorem dX9_openCell_5 : decode cX9_openCell 5 = .ok (.isub, 1) := by decide +kernel
theorem dX9_openCell_6 : decode cX9_openCell 6 = .ok (.invokestatic 62, 3) := by decide +kernel
theorem dX9_openCell_9 : decode cX9_openCell 9 = .ok (.ifCond .eq 24, 3) := by decide +kernel
theorem dX9_openCell_12 : decode cX9_openCell 12 = .ok (.iload_n 1, 1) := by decide +kernel
theorem dX9_openCell_13 : decode cX9_openCell 13 = .ok (.iconst 0, 1) := by decide +kernel
theorem dX9_openCell_14 : decode cX9_openCell 14 = .ok (.iload_n 2, 1) := by decide +kernel
theorem dX9_openCell_15 : decode cX9_openCell 15 = .ok (.invokestatic 62, 3) := by decide +kernel
theorem dX9_openCell_18 : decode cX9_openCell 18 = .ok (.ifCond .eq 15, 3) := by decide +kernel
theorem dX9_openCell_21 : decode cX9_openCell 21 = .ok (.aload_n 0, 1) := by decide +kernel
theorem dX9_openCell_22 : decode cX9_openCell 22 = .ok (.iload_n 1, 1) := by decide +kernel
theorem dX9_openCell_23 : decode cX9_openCell 23 = .ok (.aload_n 0, 1) := by decide +kernel
theorem dX9_openCell_24 : decode cX9_openCell 24 = .ok (.iload_n 1, 1) := by decide +kernel
theorem dX9_openCell_25 : decode cX9_openCell 25 = .ok (.iconst 1, 1) := by decide +kernel
theorem dX9_openCell_26 : decode cX9_openCell 26 = .ok (.iadd, 1) := by decide +kernel
theorem dX9_openCell_27 : decode cX9_openCell 27 = .ok (.iload_n 2, 1) := by decide +kernel
theorem dX9_openCell_28 : decode cX9_openCell 28 = .ok (.iload_n 1, 1) := by decide +kernel
theorem dX9_openCell_29 : decode cX9_openCell 29 = .ok (.isub, 1) := by decide +kernel
theorem dX9_openCell_30 : decode cX9_openCell 30 = .ok (.invokestatic 285, 3) := by decide +kernel
theorem dX9_openCell_33 : decode cX9_openCell 33 = .ok (.return_, 1) := by decide +kernel
set_option maxRecDepth 20000 in
theorem ggX9_closeCells_X9_isWithin : GoodIn wsX9_closeCells wsX9_isWithin := goodIn_r _ [8] (by decide +kernel) (by decide +kernel)
set_option maxRecDepth 20000 in
theorem gX9_closeCells_X9_isWithin : GoodIn wsX9_closeCells (va_wsS RX9 62 yX9_isWithin wsX9_isWithin) := goodIn_app (goodIn_of _ (by decide +kernel)) ggX9_closeCells_X9_isWithin
theorem dX9_closeCells_0 : decode cX9_closeCells 0 = .ok (.iload_n 3, 1) := by decide +kernel
theorem dX9_closeCells_1 : decode cX9_closeCells 1 = .ok (.iconst 0, 1) := by decide +kernel
theorem dX9_closeCells_2 : decode cX9_closeCells 2 = .ok (.aload_n 0, 1) := by decide +kernel
theorem dX9_closeCells_3 : decode cX9_closeCells 3 = .ok (.arraylength, 1) := by decide +kernel
theorem dX9_closeCells_4 : decode cX9_closeCells 4 = .ok (.invokestatic 62, 3) := by decide +kernel
theorem dX9_closeCells_7 : decode cX9_closeCells 7 = .ok (.ifCond .eq 37, 3) := by decide +kernel
theorem dX9_closeCells_10 : decode cX9_closeCells 10 = .ok (.iload_n 1, 1) := by decide +kernel
theorem dX9_closeCells_11 : decode cX9_closeCells 11 = .ok (.iconst 0, 1) := by decide +kernel
theorem dX9_closeCells_12 : decode cX9_closeCells 12 = .ok (.iload_n 3, 1) := by decide +kernel
theorem dX9_closeCells_13 : decode cX9_closeCells 13 = .ok (.invokestatic 62, 3) := by decide +kernel
theorem dX9_closeCells_16 : decode cX9_closeCells 16 = .ok (.ifCond .eq 28, 3) := by decide +kernel
theorem dX9_closeCells_19 : decode cX9_closeCells 19 = .ok (.iload_n 2, 1) := by decide +kernel
theorem dX9_closeCells_20 : decode cX9_closeCells 20 = .ok (.iconst 0, 1) := by decide +kernel
theorem dX9_closeCells_21 : decode cX9_closeCells 21 = .ok (.iload_n 3, 1) := by decide +kernel
theorem dX9_closeCells_22 : decode cX9_closeCells 22 = .ok (.iload_n 1, 1) := by decide +kernel
theorem dX9_closeCells_23 : decode cX9_closeCells 23 = .ok (.isub, 1) := by decide +kernel
theorem dX9_closeCells_24 : decode cX9_closeCells 24 = .ok (.invokestatic 62, 3) := by decide +kernel
theorem dX9_closeCells_27 : decode cX9_closeCells 27 = .ok (.ifCond .eq 17, 3) := by decide +kernel
theorem dX9_closeCells_30 : decode cX9_closeCells 30 = .ok (.aload_n 0, 1) := by decide +kernel
theorem dX9_closeCells_31 : decode cX9_closeCells 31 = .ok (.iload_n 1, 1) := by decide +kernel
theorem dX9_closeCells_32 : decode cX9_closeCells 32 = .ok (.iload_n 2, 1) := by decide +kernel
theorem dX9_closeCells_33 : decode cX9_closeCells 33 = .ok (.iadd, 1) := by decide +kernel
theorem dX9_closeCells_34 : decode cX9_closeCells 34 = .ok (.aload_n 0, 1) := by decide +kernel
theorem dX9_closeCells_35 : decode cX9_closeCells 35 = .ok (.iload_n 1, 1) := by decide +kernel
theorem dX9_closeCells_36 : decode cX9_closeCells 36 = .ok (.iload_n 3, 1) := by decide +kernel
theorem dX9_closeCells_37 : decode cX9_closeCells 37 = .ok (.iload_n 1, 1) := by decide +kernel
theorem dX9_closeCells_38 : decode cX9_closeCells 38 = .ok (.isub, 1) := by decide +kernel
theorem dX9_closeCells_39 : decode cX9_closeCells 39 = .ok (.iload_n 2, 1) := by decide +kernel
theorem dX9_closeCells_40 : decode cX9_closeCells 40 = .ok (.isub, 1) := by decide +kernel
theorem dX9_closeCells_41 : decode cX9_closeCells 41 = .ok (.invokestatic 285, 3) := by decide +kernel
theorem dX9_closeCells_44 : decode cX9_closeCells 44 = .ok (.return_, 1) := by decide +kernel
