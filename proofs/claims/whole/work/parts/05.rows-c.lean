theorem dX9_refer_52 : decode cX9_refer 52 = .ok (.aload_n 0, 1) := by decide +kernel
theorem dX9_refer_53 : decode cX9_refer 53 = .ok (.getfield 47, 3) := by decide +kernel
theorem dX9_refer_56 : decode cX9_refer 56 = .ok (.aload_n 0, 1) := by decide +kernel
theorem dX9_refer_57 : decode cX9_refer 57 = .ok (.getfield 12, 3) := by decide +kernel
theorem dX9_refer_60 : decode cX9_refer 60 = .ok (.getfield 88, 3) := by decide +kernel
theorem dX9_refer_63 : decode cX9_refer 63 = .ok (.iload_n 1, 1) := by decide +kernel
theorem dX9_refer_64 : decode cX9_refer 64 = .ok (.aload_n 0, 1) := by decide +kernel
theorem dX9_refer_65 : decode cX9_refer 65 = .ok (.getfield 33, 3) := by decide +kernel
theorem dX9_refer_68 : decode cX9_refer 68 = .ok (.getfield 188, 3) := by decide +kernel
theorem dX9_refer_71 : decode cX9_refer 71 = .ok (.aload_n 0, 1) := by decide +kernel
theorem dX9_refer_72 : decode cX9_refer 72 = .ok (.getfield 33, 3) := by decide +kernel
theorem dX9_refer_75 : decode cX9_refer 75 = .ok (.getfield 191, 3) := by decide +kernel
theorem dX9_refer_78 : decode cX9_refer 78 = .ok (.invokevirtual 194, 3) := by decide +kernel
theorem dX9_refer_81 : decode cX9_refer 81 = .ok (.aload_n 0, 1) := by decide +kernel
theorem dX9_refer_82 : decode cX9_refer 82 = .ok (.getfield 47, 3) := by decide +kernel
theorem dX9_refer_85 : decode cX9_refer 85 = .ok (.iload_n 2, 1) := by decide +kernel
theorem dX9_refer_86 : decode cX9_refer 86 = .ok (.invokevirtual 198, 3) := by decide +kernel
theorem dX9_refer_89 : decode cX9_refer 89 = .ok (.ireturn, 1) := by decide +kernel
set_option maxRecDepth 20000 in
theorem ggX9_beside_X9_isVerse : GoodIn wsX9_beside wsX9_isVerse := goodIn_r _ [6, 1, 7, 8, 5, 9, 10, 11, 12, 13, 14, 15, 16, 17, 18, 19, 20, 21, 22, 52, 53, 54, 55, 56, 57, 58, 59, 60, 61, 62, 63, 64, 65] (by decide +kernel) (by decide +kernel)
set_option maxRecDepth 20000 in
theorem gX9_beside_X9_isVerse : GoodIn wsX9_beside (wsV RX9 98 RX9 yX9_isVerse wsX9_isVerse) := goodIn_app (goodIn_of _ (by decide +kernel)) ggX9_beside_X9_isVerse
set_option maxRecDepth 20000 in
theorem ggX9_beside_X9_isWithin : GoodIn wsX9_beside wsX9_isWithin := goodIn_r _ [25] (by decide +kernel) (by decide +kernel)
set_option maxRecDepth 20000 in
theorem gX9_beside_X9_isWithin : GoodIn wsX9_beside (va_wsS RX9 62 yX9_isWithin wsX9_isWithin) := goodIn_app (goodIn_of _ (by decide +kernel)) ggX9_beside_X9_isWithin
set_option maxRecDepth 20000 in
theorem ggX9_beside_X1_groupOf : GoodIn wsX9_beside wsX1_groupOf := goodIn_r _ [30, 31, 32, 33, 34, 29, 35, 36, 37, 38, 39, 40, 41, 42, 5, 43, 66, 67, 68] (by decide +kernel) (by decide +kernel)
set_option maxRecDepth 20000 in
theorem gX9_beside_X1_groupOf : GoodIn wsX9_beside (wsV RX9 113 RX1 yX1_groupOf wsX1_groupOf) := goodIn_app (goodIn_of _ (by decide +kernel)) ggX9_beside_X1_groupOf
set_option maxRecDepth 20000 in
theorem ggX9_beside_X9_otherBook : GoodIn wsX9_beside wsX9_otherBook := goodIn_r _ [46] (by decide +kernel) (by decide +kernel)
set_option maxRecDepth 20000 in
theorem gX9_beside_X9_otherBook : GoodIn wsX9_beside (va_wsS RX9 201 yX9_otherBook wsX9_otherBook) := goodIn_app (goodIn_of _ (by decide +kernel)) ggX9_beside_X9_otherBook
set_option maxRecDepth 20000 in
theorem ggX9_beside_X1_sizeOf : GoodIn wsX9_beside wsX1_sizeOf := goodIn_r _ [35, 36, 37, 38, 39, 40, 29, 41, 31, 42, 5, 43, 66, 67, 68] (by decide +kernel) (by decide +kernel)
set_option maxRecDepth 20000 in
theorem gX9_beside_X1_sizeOf : GoodIn wsX9_beside (wsV RX9 136 RX1 yX1_sizeOf wsX1_sizeOf) := goodIn_app (goodIn_of _ (by decide +kernel)) ggX9_beside_X1_sizeOf
set_option maxRecDepth 20000 in
theorem ggX9_beside_X1_firstOf : GoodIn wsX9_beside wsX1_firstOf := goodIn_r _ [51, 31, 32, 33, 34, 29, 35, 36, 37, 38, 39, 40, 41, 42, 5, 43, 66, 67, 68] (by decide +kernel) (by decide +kernel)
set_option maxRecDepth 20000 in
theorem gX9_beside_X1_firstOf : GoodIn wsX9_beside (wsV RX9 204 RX1 yX1_firstOf wsX1_firstOf) := goodIn_app (goodIn_of _ (by decide +kernel)) ggX9_beside_X1_firstOf
theorem dX9_beside_0 : decode cX9_beside 0 = .ok (.aload_n 0, 1) := by decide +kernel
theorem dX9_beside_1 : decode cX9_beside 1 = .ok (.iload_n 1, 1) := by decide +kernel
theorem dX9_beside_2 : decode cX9_beside 2 = .ok (.iload_n 2, 1) := by decide +kernel
theorem dX9_beside_3 : decode cX9_beside 3 = .ok (.invokevirtual 98, 3) := by decide +kernel
theorem dX9_beside_6 : decode cX9_beside 6 = .ok (.ifCond .ne 5, 3) := by decide +kernel
theorem dX9_beside_9 : decode cX9_beside 9 = .ok (.iconst (-1), 1) := by decide +kernel
theorem dX9_beside_10 : decode cX9_beside 10 = .ok (.ireturn, 1) := by decide +kernel
theorem dX9_beside_11 : decode cX9_beside 11 = .ok (.iload_n 3, 1) := by decide +kernel
theorem dX9_beside_12 : decode cX9_beside 12 = .ok (.iconst 0, 1) := by decide +kernel
theorem dX9_beside_13 : decode cX9_beside 13 = .ok (.iconst 2, 1) := by decide +kernel
theorem dX9_beside_14 : decode cX9_beside 14 = .ok (.invokestatic 62, 3) := by decide +kernel
theorem dX9_beside_17 : decode cX9_beside 17 = .ok (.ifCond .ne 6, 3) := by decide +kernel
theorem dX9_beside_20 : decode cX9_beside 20 = .ok (.bipush (-2), 2) := by decide +kernel
theorem dX9_beside_22 : decode cX9_beside 22 = .ok (.ireturn, 1) := by decide +kernel
theorem dX9_beside_23 : decode cX9_beside 23 = .ok (.aload_n 0, 1) := by decide +kernel
theorem dX9_beside_24 : decode cX9_beside 24 = .ok (.getfield 12, 3) := by decide +kernel
theorem dX9_beside_27 : decode cX9_beside 27 = .ok (.getfield 88, 3) := by decide +kernel
theorem dX9_beside_30 : decode cX9_beside 30 = .ok (.iload_n 1, 1) := by decide +kernel
theorem dX9_beside_31 : decode cX9_beside 31 = .ok (.iload_n 2, 1) := by decide +kernel
theorem dX9_beside_32 : decode cX9_beside 32 = .ok (.invokevirtual 113, 3) := by decide +kernel
theorem dX9_beside_35 : decode cX9_beside 35 = .ok (.istore 4, 2) := by decide +kernel
theorem dX9_beside_37 : decode cX9_beside 37 = .ok (.iload_n 3, 1) := by decide +kernel
theorem dX9_beside_38 : decode cX9_beside 38 = .ok (.ifCond .ne 6, 3) := by decide +kernel
theorem dX9_beside_41 : decode cX9_beside 41 = .ok (.iload 4, 2) := by decide +kernel
theorem dX9_beside_43 : decode cX9_beside 43 = .ok (.ireturn, 1) := by decide +kernel
theorem dX9_beside_44 : decode cX9_beside 44 = .ok (.iload_n 1, 1) := by decide +kernel
theorem dX9_beside_45 : decode cX9_beside 45 = .ok (.invokestatic 201, 3) := by decide +kernel
theorem dX9_beside_48 : decode cX9_beside 48 = .ok (.istore 5, 2) := by decide +kernel
theorem dX9_beside_50 : decode cX9_beside 50 = .ok (.aload_n 0, 1) := by decide +kernel
theorem dX9_beside_51 : decode cX9_beside 51 = .ok (.getfield 12, 3) := by decide +kernel
theorem dX9_beside_54 : decode cX9_beside 54 = .ok (.getfield 88, 3) := by decide +kernel
theorem dX9_beside_57 : decode cX9_beside 57 = .ok (.iload 4, 2) := by decide +kernel
theorem dX9_beside_59 : decode cX9_beside 59 = .ok (.iload 5, 2) := by decide +kernel
theorem dX9_beside_61 : decode cX9_beside 61 = .ok (.invokevirtual 136, 3) := by decide +kernel
theorem dX9_beside_64 : decode cX9_beside 64 = .ok (.istore 6, 2) := by decide +kernel
theorem dX9_beside_66 : decode cX9_beside 66 = .ok (.iload 6, 2) := by decide +kernel
theorem dX9_beside_68 : decode cX9_beside 68 = .ok (.ifCond .ne 6, 3) := by decide +kernel
theorem dX9_beside_71 : decode cX9_beside 71 = .ok (.bipush (-5), 2) := by decide +kernel
theorem dX9_beside_73 : decode cX9_beside 73 = .ok (.ireturn, 1) := by decide +kernel
theorem dX9_beside_74 : decode cX9_beside 74 = .ok (.aload_n 0, 1) := by decide +kernel
theorem dX9_beside_75 : decode cX9_beside 75 = .ok (.getfield 12, 3) := by decide +kernel
theorem dX9_beside_78 : decode cX9_beside 78 = .ok (.getfield 88, 3) := by decide +kernel
theorem dX9_beside_81 : decode cX9_beside 81 = .ok (.iload 4, 2) := by decide +kernel
theorem dX9_beside_83 : decode cX9_beside 83 = .ok (.iload 5, 2) := by decide +kernel
theorem dX9_beside_85 : decode cX9_beside 85 = .ok (.invokevirtual 204, 3) := by decide +kernel
theorem dX9_beside_88 : decode cX9_beside 88 = .ok (.istore 7, 2) := by decide +kernel
theorem dX9_beside_90 : decode cX9_beside 90 = .ok (.iload_n 3, 1) := by decide +kernel
theorem dX9_beside_91 : decode cX9_beside 91 = .ok (.iconst 1, 1) := by decide +kernel
theorem dX9_beside_92 : decode cX9_beside 92 = .ok (.if_icmp .ne 8, 3) := by decide +kernel
theorem dX9_beside_95 : decode cX9_beside 95 = .ok (.iload 7, 2) := by decide +kernel
theorem dX9_beside_97 : decode cX9_beside 97 = .ok (.goto 10, 3) := by decide +kernel
theorem dX9_beside_100 : decode cX9_beside 100 = .ok (.iload 7, 2) := by decide +kernel
theorem dX9_beside_102 : decode cX9_beside 102 = .ok (.iload 6, 2) := by decide +kernel
theorem dX9_beside_104 : decode cX9_beside 104 = .ok (.iadd, 1) := by decide +kernel
theorem dX9_beside_105 : decode cX9_beside 105 = .ok (.iconst 1, 1) := by decide +kernel
theorem dX9_beside_106 : decode cX9_beside 106 = .ok (.isub, 1) := by decide +kernel
theorem dX9_beside_107 : decode cX9_beside 107 = .ok (.ireturn, 1) := by decide +kernel
set_option maxRecDepth 20000 in
theorem ggX9_setWidth_X9_isBook : GoodIn wsX9_setWidth wsX9_isBook := goodIn_r _ [5] (by decide +kernel) (by decide +kernel)
set_option maxRecDepth 20000 in
theorem gX9_setWidth_X9_isBook : GoodIn wsX9_setWidth (va_wsS RX9 58 yX9_isBook wsX9_isBook) := goodIn_app (goodIn_of _ (by decide +kernel)) ggX9_setWidth_X9_isBook
set_option maxRecDepth 20000 in
theorem ggX9_setWidth_X9_isWithin : GoodIn wsX9_setWidth wsX9_isWithin := goodIn_r _ [8] (by decide +kernel) (by decide +kernel)
set_option maxRecDepth 20000 in
theorem gX9_setWidth_X9_isWithin : GoodIn wsX9_setWidth (va_wsS RX9 62 yX9_isWithin wsX9_isWithin) := goodIn_app (goodIn_of _ (by decide +kernel)) ggX9_setWidth_X9_isWithin
set_option maxRecDepth 20000 in
theorem ggX9_setWidth_X3_widthOf : GoodIn wsX9_setWidth wsX3_widthOf := goodIn_r _ [13, 14, 15, 27, 28, 29, 30, 31, 32, 33, 34, 35, 36, 37] (by decide +kernel) (by decide +kernel)
set_option maxRecDepth 20000 in
theorem gX9_setWidth_X3_widthOf : GoodIn wsX9_setWidth (wsV RX9 207 RX3 yX3_widthOf wsX3_widthOf) := goodIn_app (goodIn_of _ (by decide +kernel)) ggX9_setWidth_X3_widthOf
set_option maxRecDepth 20000 in
theorem ggX9_setWidth_X3_changeWidth : GoodIn wsX9_setWidth wsX3_changeWidth := goodIn_r _ [19, 14, 15, 27, 28, 29, 30, 31, 32, 33, 34, 35, 36, 37] (by decide +kernel) (by decide +kernel)
set_option maxRecDepth 20000 in
theorem gX9_setWidth_X3_changeWidth : GoodIn wsX9_setWidth (wsV RX9 210 RX3 yX3_changeWidth wsX3_changeWidth) := goodIn_app (goodIn_of _ (by decide +kernel)) ggX9_setWidth_X3_changeWidth
theorem dX9_setWidth_0 : decode cX9_setWidth 0 = .ok (.iload_n 1, 1) := by decide +kernel
theorem dX9_setWidth_1 : decode cX9_setWidth 1 = .ok (.invokestatic 58, 3) := by decide +kernel
theorem dX9_setWidth_4 : decode cX9_setWidth 4 = .ok (.ifCond .ne 5, 3) := by decide +kernel
theorem dX9_setWidth_7 : decode cX9_setWidth 7 = .ok (.iconst (-1), 1) := by decide +kernel
theorem dX9_setWidth_8 : decode cX9_setWidth 8 = .ok (.ireturn, 1) := by decide +kernel
theorem dX9_setWidth_9 : decode cX9_setWidth 9 = .ok (.iload_n 2, 1) := by decide +kernel
theorem dX9_setWidth_10 : decode cX9_setWidth 10 = .ok (.bipush 10, 2) := by decide +kernel
theorem dX9_setWidth_12 : decode cX9_setWidth 12 = .ok (.sipush 200, 3) := by decide +kernel
theorem dX9_setWidth_15 : decode cX9_setWidth 15 = .ok (.invokestatic 62, 3) := by decide +kernel
theorem dX9_setWidth_18 : decode cX9_setWidth 18 = .ok (.ifCond .ne 6, 3) := by decide +kernel
theorem dX9_setWidth_21 : decode cX9_setWidth 21 = .ok (.bipush (-2), 2) := by decide +kernel
theorem dX9_setWidth_23 : decode cX9_setWidth 23 = .ok (.ireturn, 1) := by decide +kernel
theorem dX9_setWidth_24 : decode cX9_setWidth 24 = .ok (.aload_n 0, 1) := by decide +kernel
theorem dX9_setWidth_25 : decode cX9_setWidth 25 = .ok (.getfield 54, 3) := by decide +kernel
theorem dX9_setWidth_28 : decode cX9_setWidth 28 = .ok (.iload_n 1, 1) := by decide +kernel
theorem dX9_setWidth_29 : decode cX9_setWidth 29 = .ok (.invokevirtual 207, 3) := by decide +kernel
theorem dX9_setWidth_32 : decode cX9_setWidth 32 = .ok (.istore_n 3, 1) := by decide +kernel
theorem dX9_setWidth_33 : decode cX9_setWidth 33 = .ok (.aload_n 0, 1) := by decide +kernel
theorem dX9_setWidth_34 : decode cX9_setWidth 34 = .ok (.getfield 54, 3) := by decide +kernel
theorem dX9_setWidth_37 : decode cX9_setWidth 37 = .ok (.iload_n 1, 1) := by decide +kernel
theorem dX9_setWidth_38 : decode cX9_setWidth 38 = .ok (.iload_n 2, 1) := by decide +kernel
theorem dX9_setWidth_39 : decode cX9_setWidth 39 = .ok (.invokevirtual 210, 3) := by decide +kernel
theorem dX9_setWidth_42 : decode cX9_setWidth 42 = .ok (.iload_n 3, 1) := by decide +kernel
theorem dX9_setWidth_43 : decode cX9_setWidth 43 = .ok (.ireturn, 1) := by decide +kernel
set_option maxRecDepth 20000 in
theorem ggX9_setHeights_X9_isWithin : GoodIn wsX9_setHeights wsX9_isWithin := goodIn_r _ [5] (by decide +kernel) (by decide +kernel)
set_option maxRecDepth 20000 in
theorem gX9_setHeights_X9_isWithin : GoodIn wsX9_setHeights (va_wsS RX9 62 yX9_isWithin wsX9_isWithin) := goodIn_app (goodIn_of _ (by decide +kernel)) ggX9_setHeights_X9_isWithin
theorem dX9_setHeights_0 : decode cX9_setHeights 0 = .ok (.iload_n 1, 1) := by decide +kernel
theorem dX9_setHeights_1 : decode cX9_setHeights 1 = .ok (.iconst 5, 1) := by decide +kernel
theorem dX9_setHeights_2 : decode cX9_setHeights 2 = .ok (.sipush 200, 3) := by decide +kernel
theorem dX9_setHeights_5 : decode cX9_setHeights 5 = .ok (.invokestatic 62, 3) := by decide +kernel
theorem dX9_setHeights_8 : decode cX9_setHeights 8 = .ok (.ifCond .eq 12, 3) := by decide +kernel
theorem dX9_setHeights_11 : decode cX9_setHeights 11 = .ok (.iload_n 2, 1) := by decide +kernel
theorem dX9_setHeights_12 : decode cX9_setHeights 12 = .ok (.iconst 0, 1) := by decide +kernel
theorem dX9_setHeights_13 : decode cX9_setHeights 13 = .ok (.iconst 5, 1) := by decide +kernel
theorem dX9_setHeights_14 : decode cX9_setHeights 14 = .ok (.invokestatic 62, 3) := by decide +kernel
theorem dX9_setHeights_17 : decode cX9_setHeights 17 = .ok (.ifCond .ne 6, 3) := by decide +kernel
theorem dX9_setHeights_20 : decode cX9_setHeights 20 = .ok (.bipush (-2), 2) := by decide +kernel
theorem dX9_setHeights_22 : decode cX9_setHeights 22 = .ok (.ireturn, 1) := by decide +kernel
theorem dX9_setHeights_23 : decode cX9_setHeights 23 = .ok (.aload_n 0, 1) := by decide +kernel
theorem dX9_setHeights_24 : decode cX9_setHeights 24 = .ok (.getfield 54, 3) := by decide +kernel
theorem dX9_setHeights_27 : decode cX9_setHeights 27 = .ok (.getfield 213, 3) := by decide +kernel
theorem dX9_setHeights_30 : decode cX9_setHeights 30 = .ok (.istore_n 3, 1) := by decide +kernel
theorem dX9_setHeights_31 : decode cX9_setHeights 31 = .ok (.aload_n 0, 1) := by decide +kernel
theorem dX9_setHeights_32 : decode cX9_setHeights 32 = .ok (.getfield 54, 3) := by decide +kernel
theorem dX9_setHeights_35 : decode cX9_setHeights 35 = .ok (.iload_n 1, 1) := by decide +kernel
theorem dX9_setHeights_36 : decode cX9_setHeights 36 = .ok (.putfield 213, 3) := by decide +kernel
theorem dX9_setHeights_39 : decode cX9_setHeights 39 = .ok (.aload_n 0, 1) := by decide +kernel
theorem dX9_setHeights_40 : decode cX9_setHeights 40 = .ok (.getfield 54, 3) := by decide +kernel
theorem dX9_setHeights_43 : decode cX9_setHeights 43 = .ok (.iload_n 2, 1) := by decide +kernel
theorem dX9_setHeights_44 : decode cX9_setHeights 44 = .ok (.putfield 216, 3) := by decide +kernel
theorem dX9_setHeights_47 : decode cX9_setHeights 47 = .ok (.iload_n 3, 1) := by decide +kernel
theorem dX9_setHeights_48 : decode cX9_setHeights 48 = .ok (.ireturn, 1) := by decide +kernel
set_option maxRecDepth 20000 in
theorem ggX9_page_X9_isWithin : GoodIn wsX9_page wsX9_isWithin := goodIn_r _ [6] (by decide +kernel) (by decide +kernel)
set_option maxRecDepth 20000 in
theorem gX9_page_X9_isWithin : GoodIn wsX9_page (va_wsS RX9 62 yX9_isWithin wsX9_isWithin) := goodIn_app (goodIn_of _ (by decide +kernel)) ggX9_page_X9_isWithin
set_option maxRecDepth 20000 in
theorem ggX9_page_X3_arrange : GoodIn wsX9_page wsX3_arrange := goodIn_r _ [11, 12, 13, 14, 15, 16, 17, 18, 19, 10, 20, 21, 22, 23, 24, 25, 26, 27, 28, 29, 30, 31, 32, 33, 34, 35, 36, 37, 38, 39, 40, 41, 42, 43, 44, 45, 5, 46, 47, 48, 49, 50, 51, 52, 53, 54, 55, 56, 57, 58, 59, 60, 61, 62, 63, 64, 65, 66, 67, 68, 69, 70, 71, 72, 73, 74, 75, 76, 77, 78, 79, 80, 81, 82, 83, 84, 85, 86, 87, 88, 89, 90, 91, 92, 145, 146, 147, 148, 149, 150, 134, 135, 136, 137, 138, 139, 140, 141, 142, 143, 144, 151, 152, 153, 154] (by decide +kernel) (by decide +kernel)
set_option maxRecDepth 20000 in
theorem gX9_page_X3_arrange : GoodIn wsX9_page (wsV RX9 219 RX3 yX3_arrange wsX3_arrange) := goodIn_app (goodIn_of _ (by decide +kernel)) ggX9_page_X3_arrange
set_option maxRecDepth 20000 in
theorem ggX9_page_X3_firstGroupOf : GoodIn wsX9_page wsX3_firstGroupOf := goodIn_r _ [96, 16, 97, 98, 99, 10, 100, 88, 45, 5, 46, 134, 135, 136, 137, 138, 139, 140, 141, 142, 143, 144] (by decide +kernel) (by decide +kernel)
set_option maxRecDepth 20000 in
theorem gX9_page_X3_firstGroupOf : GoodIn wsX9_page (wsV RX9 225 RX3 yX3_firstGroupOf wsX3_firstGroupOf) := goodIn_app (goodIn_of _ (by decide +kernel)) ggX9_page_X3_firstGroupOf
set_option maxRecDepth 20000 in
theorem ggX9_page_X3_lastGroupOf : GoodIn wsX9_page wsX3_lastGroupOf := goodIn_r _ [104, 16, 97, 98, 99, 10, 100, 88, 45, 5, 46, 134, 135, 136, 137, 138, 139, 140, 141, 142, 143, 144] (by decide +kernel) (by decide +kernel)
set_option maxRecDepth 20000 in
theorem gX9_page_X3_lastGroupOf : GoodIn wsX9_page (wsV RX9 228 RX3 yX3_lastGroupOf wsX3_lastGroupOf) := goodIn_app (goodIn_of _ (by decide +kernel)) ggX9_page_X3_lastGroupOf
set_option maxRecDepth 20000 in
theorem ggX9_page_X3_heightSumOf : GoodIn wsX9_page wsX3_heightSumOf := goodIn_r _ [108, 16, 97, 98, 99, 10, 100, 88, 45, 5, 46, 109, 110, 111, 112, 25, 134, 135, 136, 137, 138, 139, 140, 141, 142, 143, 144] (by decide +kernel) (by decide +kernel)
set_option maxRecDepth 20000 in
theorem gX9_page_X3_heightSumOf : GoodIn wsX9_page (wsV RX9 231 RX3 yX3_heightSumOf wsX3_heightSumOf) := goodIn_app (goodIn_of _ (by decide +kernel)) ggX9_page_X3_heightSumOf
set_option maxRecDepth 20000 in
theorem ggX9_page_X3_noteLinesOf : GoodIn wsX9_page wsX3_noteLinesOf := goodIn_r _ [116, 16, 97, 98, 99, 10, 100, 88, 45, 5, 46, 117, 118, 119, 120, 32, 90, 91, 92, 134, 135, 136, 137, 138, 139, 140, 141, 142, 143, 144] (by decide +kernel) (by decide +kernel)
set_option maxRecDepth 20000 in
theorem gX9_page_X3_noteLinesOf : GoodIn wsX9_page (wsV RX9 234 RX3 yX3_noteLinesOf wsX3_noteLinesOf) := goodIn_app (goodIn_of _ (by decide +kernel)) ggX9_page_X3_noteLinesOf
set_option maxRecDepth 20000 in
theorem ggX9_page_X3_overflows : GoodIn wsX9_page wsX3_overflows := goodIn_r _ [124, 87, 125, 106, 107, 10, 108, 16, 97, 98, 99, 100, 88, 45, 5, 46, 109, 110, 111, 112, 25, 126, 114, 115, 116, 117, 118, 119, 120, 32, 90, 91, 92, 134, 135, 136, 137, 138, 139, 140, 141, 142, 143, 144] (by decide +kernel) (by decide +kernel)
set_option maxRecDepth 20000 in
theorem gX9_page_X3_overflows : GoodIn wsX9_page (wsV RX9 237 RX3 yX3_overflows wsX3_overflows) := goodIn_app (goodIn_of _ (by decide +kernel)) ggX9_page_X3_overflows
theorem dX9_page_0 : decode cX9_page 0 = .ok (.iload_n 1, 1) := by decide +kernel
theorem dX9_page_1 : decode cX9_page 1 = .ok (.ifCond .lt 12, 3) := by decide +kernel
theorem dX9_page_4 : decode cX9_page 4 = .ok (.iload_n 2, 1) := by decide +kernel
theorem dX9_page_5 : decode cX9_page 5 = .ok (.iconst 0, 1) := by decide +kernel
theorem dX9_page_6 : decode cX9_page 6 = .ok (.iconst 4, 1) := by decide +kernel
theorem dX9_page_7 : decode cX9_page 7 = .ok (.invokestatic 62, 3) := by decide +kernel
theorem dX9_page_10 : decode cX9_page 10 = .ok (.ifCond .ne 6, 3) := by decide +kernel
theorem dX9_page_13 : decode cX9_page 13 = .ok (.bipush (-2), 2) := by decide +kernel
theorem dX9_page_15 : decode cX9_page 15 = .ok (.ireturn, 1) := by decide +kernel
theorem dX9_page_16 : decode cX9_page 16 = .ok (.aload_n 0, 1) := by decide +kernel
theorem dX9_page_17 : decode cX9_page 17 = .ok (.getfield 54, 3) := by decide +kernel
theorem dX9_page_20 : decode cX9_page 20 = .ok (.aload_n 0, 1) := by decide +kernel
theorem dX9_page_21 : decode cX9_page 21 = .ok (.getfield 12, 3) := by decide +kernel
theorem dX9_page_24 : decode cX9_page 24 = .ok (.invokevirtual 219, 3) := by decide +kernel
theorem dX9_page_27 : decode cX9_page 27 = .ok (.iload_n 1, 1) := by decide +kernel
theorem dX9_page_28 : decode cX9_page 28 = .ok (.aload_n 0, 1) := by decide +kernel
theorem dX9_page_29 : decode cX9_page 29 = .ok (.getfield 54, 3) := by decide +kernel
theorem dX9_page_32 : decode cX9_page 32 = .ok (.getfield 222, 3) := by decide +kernel
theorem dX9_page_35 : decode cX9_page 35 = .ok (.if_icmp .lt 6, 3) := by decide +kernel
theorem dX9_page_38 : decode cX9_page 38 = .ok (.bipush (-5), 2) := by decide +kernel
theorem dX9_page_40 : decode cX9_page 40 = .ok (.ireturn, 1) := by decide +kernel
theorem dX9_page_41 : decode cX9_page 41 = .ok (.iload_n 2, 1) := by decide +kernel
theorem dX9_page_42 : decode cX9_page 42 = .ok (.tableswitch 66 0 3 #[30, 39, 48, 57], 30) := by decide +kernel
theorem dX9_page_72 : decode cX9_page 72 = .ok (.aload_n 0, 1) := by decide +kernel
theorem dX9_page_73 : decode cX9_page 73 = .ok (.getfield 54, 3) := by decide +kernel
theorem dX9_page_76 : decode cX9_page 76 = .ok (.iload_n 1, 1) := by decide +kernel
theorem dX9_page_77 : decode cX9_page 77 = .ok (.invokevirtual 225, 3) := by decide +kernel
theorem dX9_page_80 : decode cX9_page 80 = .ok (.ireturn, 1) := by decide +kernel
theorem dX9_page_81 : decode cX9_page 81 = .ok (.aload_n 0, 1) := by decide +kernel
theorem dX9_page_82 : decode cX9_page 82 = .ok (.getfield 54, 3) := by decide +kernel
theorem dX9_page_85 : decode cX9_page 85 = .ok (.iload_n 1, 1) := by decide +kernel
theorem dX9_page_86 : decode cX9_page 86 = .ok (.invokevirtual 228, 3) := by decide +kernel
theorem dX9_page_89 : decode cX9_page 89 = .ok (.ireturn, 1) := by decide +kernel
theorem dX9_page_90 : decode cX9_page 90 = .ok (.aload_n 0, 1) := by decide +kernel
theorem dX9_page_91 : decode cX9_page 91 = .ok (.getfield 54, 3) := by decide +kernel
theorem dX9_page_94 : decode cX9_page 94 = .ok (.iload_n 1, 1) := by decide +kernel
theorem dX9_page_95 : decode cX9_page 95 = .ok (.invokevirtual 231, 3) := by decide +kernel
theorem dX9_page_98 : decode cX9_page 98 = .ok (.ireturn, 1) := by decide +kernel
theorem dX9_page_99 : decode cX9_page 99 = .ok (.aload_n 0, 1) := by decide +kernel
theorem dX9_page_100 : decode cX9_page 100 = .ok (.getfield 54, 3) := by decide +kernel
theorem dX9_page_103 : decode cX9_page 103 = .ok (.iload_n 1, 1) := by decide +kernel
theorem dX9_page_104 : decode cX9_page 104 = .ok (.invokevirtual 234, 3) := by decide +kernel
theorem dX9_page_107 : decode cX9_page 107 = .ok (.ireturn, 1) := by decide +kernel
theorem dX9_page_108 : decode cX9_page 108 = .ok (.aload_n 0, 1) := by decide +kernel
theorem dX9_page_109 : decode cX9_page 109 = .ok (.getfield 54, 3) := by decide +kernel
theorem dX9_page_112 : decode cX9_page 112 = .ok (.iload_n 1, 1) := by decide +kernel
theorem dX9_page_113 : decode cX9_page 113 = .ok (.invokevirtual 237, 3) := by decide +kernel
theorem dX9_page_116 : decode cX9_page 116 = .ok (.ifCond .eq 7, 3) := by decide +kernel
theorem dX9_page_119 : decode cX9_page 119 = .ok (.iconst 1, 1) := by decide +kernel
theorem dX9_page_120 : decode cX9_page 120 = .ok (.goto 4, 3) := by decide +kernel
theorem dX9_page_123 : decode cX9_page 123 = .ok (.iconst 0, 1) := by decide +kernel
theorem dX9_page_124 : decode cX9_page 124 = .ok (.ireturn, 1) := by decide +kernel
set_option maxRecDepth 20000 in
theorem ggX9_chapter_X9_isBook : GoodIn wsX9_chapter wsX9_isBook := goodIn_r _ [5] (by decide +kernel) (by decide +kernel)
set_option maxRecDepth 20000 in
theorem gX9_chapter_X9_isBook : GoodIn wsX9_chapter (va_wsS RX9 58 yX9_isBook wsX9_isBook) := goodIn_app (goodIn_of _ (by decide +kernel)) ggX9_chapter_X9_isBook
set_option maxRecDepth 20000 in
theorem ggX9_chapter_X7_bookOf : GoodIn wsX9_chapter wsX7_bookOf := goodIn_r _ [10, 11, 12, 53, 54, 55] (by decide +kernel) (by decide +kernel)
set_option maxRecDepth 20000 in
theorem gX9_chapter_X7_bookOf : GoodIn wsX9_chapter (wsV RX9 66 RX7 yX7_bookOf wsX7_bookOf) := goodIn_app (goodIn_of _ (by decide +kernel)) ggX9_chapter_X7_bookOf
set_option maxRecDepth 20000 in
theorem ggX9_chapter_X0_chapterTotal : GoodIn wsX9_chapter wsX0_chapterTotal := goodIn_r _ [17, 18, 19, 20, 21, 16, 22, 23, 24, 25, 26, 27, 28, 4, 29, 56, 57, 58, 59] (by decide +kernel) (by decide +kernel)
set_option maxRecDepth 20000 in
theorem gX9_chapter_X0_chapterTotal : GoodIn wsX9_chapter (wsV RX9 70 RX0 yX0_chapterTotal wsX0_chapterTotal) := goodIn_app (goodIn_of _ (by decide +kernel)) ggX9_chapter_X0_chapterTotal
set_option maxRecDepth 20000 in
theorem ggX9_chapter_X9_isWithin : GoodIn wsX9_chapter wsX9_isWithin := goodIn_r _ [32] (by decide +kernel) (by decide +kernel)
set_option maxRecDepth 20000 in
theorem gX9_chapter_X9_isWithin : GoodIn wsX9_chapter (va_wsS RX9 62 yX9_isWithin wsX9_isWithin) := goodIn_app (goodIn_of _ (by decide +kernel)) ggX9_chapter_X9_isWithin
set_option maxRecDepth 20000 in
theorem ggX9_chapter_X0_firstOf : GoodIn wsX9_chapter wsX0_firstOf := goodIn_r _ [36, 18, 23, 28, 4, 29, 56, 57, 58, 59] (by decide +kernel) (by decide +kernel)
set_option maxRecDepth 20000 in
theorem gX9_chapter_X0_firstOf : GoodIn wsX9_chapter (wsV RX9 240 RX0 yX0_firstOf wsX0_firstOf) := goodIn_app (goodIn_of _ (by decide +kernel)) ggX9_chapter_X0_firstOf
set_option maxRecDepth 20000 in
theorem ggX9_chapter_X0_versesOf : GoodIn wsX9_chapter wsX0_versesOf := goodIn_r _ [40, 18, 23, 28, 4, 29, 56, 57, 58, 59] (by decide +kernel) (by decide +kernel)
set_option maxRecDepth 20000 in
theorem gX9_chapter_X0_versesOf : GoodIn wsX9_chapter (wsV RX9 242 RX0 yX0_versesOf wsX0_versesOf) := goodIn_app (goodIn_of _ (by decide +kernel)) ggX9_chapter_X0_versesOf
set_option maxRecDepth 20000 in
theorem ggX9_chapter_X0_letterSumOf : GoodIn wsX9_chapter wsX0_letterSumOf := goodIn_r _ [44, 18, 23, 45, 28, 4, 29, 56, 57, 58, 59] (by decide +kernel) (by decide +kernel)
set_option maxRecDepth 20000 in
theorem gX9_chapter_X0_letterSumOf : GoodIn wsX9_chapter (wsV RX9 245 RX0 yX0_letterSumOf wsX0_letterSumOf) := goodIn_app (goodIn_of _ (by decide +kernel)) ggX9_chapter_X0_letterSumOf
theorem dX9_chapter_0 : decode cX9_chapter 0 = .ok (.iload_n 1, 1) := by decide +kernel
theorem dX9_chapter_1 : decode cX9_chapter 1 = .ok (.invokestatic 58, 3) := by decide +kernel
theorem dX9_chapter_4 : decode cX9_chapter 4 = .ok (.ifCond .eq 22, 3) := by decide +kernel
theorem dX9_chapter_7 : decode cX9_chapter 7 = .ok (.iload_n 2, 1) := by decide +kernel
theorem dX9_chapter_8 : decode cX9_chapter 8 = .ok (.iconst 1, 1) := by decide +kernel
theorem dX9_chapter_9 : decode cX9_chapter 9 = .ok (.aload_n 0, 1) := by decide +kernel
theorem dX9_chapter_10 : decode cX9_chapter 10 = .ok (.getfield 12, 3) := by decide +kernel
theorem dX9_chapter_13 : decode cX9_chapter 13 = .ok (.iload_n 1, 1) := by decide +kernel
theorem dX9_chapter_14 : decode cX9_chapter 14 = .ok (.invokevirtual 66, 3) := by decide +kernel
theorem dX9_chapter_17 : decode cX9_chapter 17 = .ok (.invokevirtual 70, 3) := by decide +kernel
theorem dX9_chapter_20 : decode cX9_chapter 20 = .ok (.invokestatic 62, 3) := by decide +kernel
theorem dX9_chapter_23 : decode cX9_chapter 23 = .ok (.ifCond .ne 5, 3) := by decide +kernel
theorem dX9_chapter_26 : decode cX9_chapter 26 = .ok (.iconst (-1), 1) := by decide +kernel
theorem dX9_chapter_27 : decode cX9_chapter 27 = .ok (.ireturn, 1) := by decide +kernel
theorem dX9_chapter_28 : decode cX9_chapter 28 = .ok (.iload_n 3, 1) := by decide +kernel
theorem dX9_chapter_29 : decode cX9_chapter 29 = .ok (.iconst 0, 1) := by decide +kernel
theorem dX9_chapter_30 : decode cX9_chapter 30 = .ok (.iconst 2, 1) := by decide +kernel
theorem dX9_chapter_31 : decode cX9_chapter 31 = .ok (.invokestatic 62, 3) := by decide +kernel
theorem dX9_chapter_34 : decode cX9_chapter 34 = .ok (.ifCond .ne 6, 3) := by decide +kernel
theorem dX9_chapter_37 : decode cX9_chapter 37 = .ok (.bipush (-2), 2) := by decide +kernel
theorem dX9_chapter_39 : decode cX9_chapter 39 = .ok (.ireturn, 1) := by decide +kernel
theorem dX9_chapter_40 : decode cX9_chapter 40 = .ok (.aload_n 0, 1) := by decide +kernel
theorem dX9_chapter_41 : decode cX9_chapter 41 = .ok (.getfield 12, 3) := by decide +kernel
theorem dX9_chapter_44 : decode cX9_chapter 44 = .ok (.iload_n 1, 1) := by decide +kernel
theorem dX9_chapter_45 : decode cX9_chapter 45 = .ok (.invokevirtual 66, 3) := by decide +kernel
theorem dX9_chapter_48 : decode cX9_chapter 48 = .ok (.astore 4, 2) := by decide +kernel
theorem dX9_chapter_50 : decode cX9_chapter 50 = .ok (.iload_n 3, 1) := by decide +kernel
theorem dX9_chapter_51 : decode cX9_chapter 51 = .ok (.lookupswitch 39 #[(0, 25), (1, 32)], 25) := by decide +kernel
theorem dX9_chapter_76 : decode cX9_chapter 76 = .ok (.aload 4, 2) := by decide +kernel
theorem dX9_chapter_78 : decode cX9_chapter 78 = .ok (.iload_n 2, 1) := by decide +kernel
theorem dX9_chapter_79 : decode cX9_chapter 79 = .ok (.invokevirtual 240, 3) := by decide +kernel
theorem dX9_chapter_82 : decode cX9_chapter 82 = .ok (.ireturn, 1) := by decide +kernel
theorem dX9_chapter_83 : decode cX9_chapter 83 = .ok (.aload 4, 2) := by decide +kernel
theorem dX9_chapter_85 : decode cX9_chapter 85 = .ok (.iload_n 2, 1) := by decide +kernel
theorem dX9_chapter_86 : decode cX9_chapter 86 = .ok (.invokevirtual 242, 3) := by decide +kernel
theorem dX9_chapter_89 : decode cX9_chapter 89 = .ok (.ireturn, 1) := by decide +kernel
theorem dX9_chapter_90 : decode cX9_chapter 90 = .ok (.aload 4, 2) := by decide +kernel
theorem dX9_chapter_92 : decode cX9_chapter 92 = .ok (.iload_n 2, 1) := by decide +kernel
theorem dX9_chapter_93 : decode cX9_chapter 93 = .ok (.invokevirtual 245, 3) := by decide +kernel
theorem dX9_chapter_96 : decode cX9_chapter 96 = .ok (.ireturn, 1) := by decide +kernel
set_option maxRecDepth 20000 in
theorem ggX9_verse_X9_isVerse : GoodIn wsX9_verse wsX9_isVerse := goodIn_r _ [7, 1, 8, 9, 6, 10, 11, 12, 13, 14, 15, 16, 17, 18, 19, 20, 21, 22, 23, 64, 65, 66, 67, 68, 69, 70, 71, 72, 73, 74, 75, 76, 77] (by decide +kernel) (by decide +kernel)
set_option maxRecDepth 20000 in
theorem gX9_verse_X9_isVerse : GoodIn wsX9_verse (wsV RX9 98 RX9 yX9_isVerse wsX9_isVerse) := goodIn_app (goodIn_of _ (by decide +kernel)) ggX9_verse_X9_isVerse
set_option maxRecDepth 20000 in
theorem ggX9_verse_X9_isWithin : GoodIn wsX9_verse wsX9_isWithin := goodIn_r _ [26] (by decide +kernel) (by decide +kernel)
set_option maxRecDepth 20000 in
theorem gX9_verse_X9_isWithin : GoodIn wsX9_verse (va_wsS RX9 62 yX9_isWithin wsX9_isWithin) := goodIn_app (goodIn_of _ (by decide +kernel)) ggX9_verse_X9_isWithin
set_option maxRecDepth 20000 in
theorem ggX9_verse_X7_bookOf : GoodIn wsX9_verse wsX7_bookOf := goodIn_r _ [15, 16, 17, 71, 72, 73] (by decide +kernel) (by decide +kernel)
set_option maxRecDepth 20000 in
theorem gX9_verse_X7_bookOf : GoodIn wsX9_verse (wsV RX9 66 RX7 yX7_bookOf wsX7_bookOf) := goodIn_app (goodIn_of _ (by decide +kernel)) ggX9_verse_X7_bookOf
set_option maxRecDepth 20000 in
theorem ggX9_verse_X0_chapterOf : GoodIn wsX9_verse wsX0_chapterOf := goodIn_r _ [30, 31, 32, 19, 20, 21, 22, 23, 33, 6, 34, 74, 75, 76, 77] (by decide +kernel) (by decide +kernel)
set_option maxRecDepth 20000 in
theorem gX9_verse_X0_chapterOf : GoodIn wsX9_verse (wsV RX9 110 RX0 yX0_chapterOf wsX0_chapterOf) := goodIn_app (goodIn_of _ (by decide +kernel)) ggX9_verse_X0_chapterOf
set_option maxRecDepth 20000 in
theorem ggX9_verse_X0_numberOf : GoodIn wsX9_verse wsX0_numberOf := goodIn_r _ [38, 39, 28, 29, 21, 30, 31, 32, 19, 20, 22, 23, 33, 6, 34, 40, 41, 42, 43, 74, 75, 76, 77] (by decide +kernel) (by decide +kernel)
set_option maxRecDepth 20000 in
theorem gX9_verse_X0_numberOf : GoodIn wsX9_verse (wsV RX9 248 RX0 yX0_numberOf wsX0_numberOf) := goodIn_app (goodIn_of _ (by decide +kernel)) ggX9_verse_X0_numberOf
set_option maxRecDepth 20000 in
theorem ggX9_verse_X0_lettersOf : GoodIn wsX9_verse wsX0_lettersOf := goodIn_r _ [47, 48, 32, 19, 20, 21, 22, 23, 33, 6, 34, 74, 75, 76, 77] (by decide +kernel) (by decide +kernel)
set_option maxRecDepth 20000 in
theorem gX9_verse_X0_lettersOf : GoodIn wsX9_verse (wsV RX9 102 RX0 yX0_lettersOf wsX0_lettersOf) := goodIn_app (goodIn_of _ (by decide +kernel)) ggX9_verse_X0_lettersOf
set_option maxRecDepth 20000 in
theorem ggX9_verse_X0_noteOf : GoodIn wsX9_verse wsX0_noteOf := goodIn_r _ [52, 53, 32, 19, 20, 21, 22, 23, 33, 6, 34, 74, 75, 76, 77] (by decide +kernel) (by decide +kernel)
set_option maxRecDepth 20000 in
theorem gX9_verse_X0_noteOf : GoodIn wsX9_verse (wsV RX9 251 RX0 yX0_noteOf wsX0_noteOf) := goodIn_app (goodIn_of _ (by decide +kernel)) ggX9_verse_X0_noteOf
set_option maxRecDepth 20000 in
theorem ggX9_verse_X3_widthOf : GoodIn wsX9_verse wsX3_widthOf := goodIn_r _ [58, 59, 60, 78, 79, 80, 81, 82, 83, 84, 85, 86, 87, 88] (by decide +kernel) (by decide +kernel)
set_option maxRecDepth 20000 in
theorem gX9_verse_X3_widthOf : GoodIn wsX9_verse (wsV RX9 207 RX3 yX3_widthOf wsX3_widthOf) := goodIn_app (goodIn_of _ (by decide +kernel)) ggX9_verse_X3_widthOf
set_option maxRecDepth 20000 in
theorem ggX9_verse_X9_linesFor : GoodIn wsX9_verse wsX9_linesFor := goodIn_r _ [63] (by decide +kernel) (by decide +kernel)
set_option maxRecDepth 20000 in
theorem gX9_verse_X9_linesFor : GoodIn wsX9_verse (va_wsS RX9 254 yX9_linesFor wsX9_linesFor) := goodIn_app (goodIn_of _ (by decide +kernel)) ggX9_verse_X9_linesFor
theorem dX9_verse_0 : decode cX9_verse 0 = .ok (.aload_n 0, 1) := by decide +kernel
theorem dX9_verse_1 : decode cX9_verse 1 = .ok (.iload_n 1, 1) := by decide +kernel
theorem dX9_verse_2 : decode cX9_verse 2 = .ok (.iload_n 2, 1) := by decide +kernel
theorem dX9_verse_3 : decode cX9_verse 3 = .ok (.invokevirtual 98, 3) := by decide +kernel
theorem dX9_verse_6 : decode cX9_verse 6 = .ok (.ifCond .ne 5, 3) := by decide +kernel
theorem dX9_verse_9 : decode cX9_verse 9 = .ok (.iconst (-1), 1) := by decide +kernel
theorem dX9_verse_10 : decode cX9_verse 10 = .ok (.ireturn, 1) := by decide +kernel
theorem dX9_verse_11 : decode cX9_verse 11 = .ok (.iload_n 3, 1) := by decide +kernel
theorem dX9_verse_12 : decode cX9_verse 12 = .ok (.iconst 0, 1) := by decide +kernel
theorem dX9_verse_13 : decode cX9_verse 13 = .ok (.iconst 4, 1) := by decide +kernel
theorem dX9_verse_14 : decode cX9_verse 14 = .ok (.invokestatic 62, 3) := by decide +kernel
theorem dX9_verse_17 : decode cX9_verse 17 = .ok (.ifCond .ne 6, 3) := by decide +kernel
theorem dX9_verse_20 : decode cX9_verse 20 = .ok (.bipush (-2), 2) := by decide +kernel
theorem dX9_verse_22 : decode cX9_verse 22 = .ok (.ireturn, 1) := by decide +kernel
theorem dX9_verse_23 : decode cX9_verse 23 = .ok (.aload_n 0, 1) := by decide +kernel
theorem dX9_verse_24 : decode cX9_verse 24 = .ok (.getfield 12, 3) := by decide +kernel
theorem dX9_verse_27 : decode cX9_verse 27 = .ok (.iload_n 1, 1) := by decide +kernel
theorem dX9_verse_28 : decode cX9_verse 28 = .ok (.invokevirtual 66, 3) := by decide +kernel
theorem dX9_verse_31 : decode cX9_verse 31 = .ok (.astore 4, 2) := by decide +kernel
theorem dX9_verse_33 : decode cX9_verse 33 = .ok (.iload_n 3, 1) := by decide +kernel
theorem dX9_verse_34 : decode cX9_verse 34 = .ok (.tableswitch 58 0 3 #[30, 37, 44, 51], 30) := by decide +kernel
theorem dX9_verse_64 : decode cX9_verse 64 = .ok (.aload 4, 2) := by decide +kernel
theorem dX9_verse_66 : decode cX9_verse 66 = .ok (.iload_n 2, 1) := by decide +kernel
theorem dX9_verse_67 : decode cX9_verse 67 = .ok (.invokevirtual 110, 3) := by decide +kernel
theorem dX9_verse_70 : decode cX9_verse 70 = .ok (.ireturn, 1) := by decide +kernel
theorem dX9_verse_71 : decode cX9_verse 71 = .ok (.aload 4, 2) := by decide +kernel
theorem dX9_verse_73 : decode cX9_verse 73 = .ok (.iload_n 2, 1) := by decide +kernel
theorem dX9_verse_74 : decode cX9_verse 74 = .ok (.invokevirtual 248, 3) := by decide +kernel
theorem dX9_verse_77 : decode cX9_verse 77 = .ok (.ireturn, 1) := by decide +kernel
theorem dX9_verse_78 : decode cX9_verse 78 = .ok (.aload 4, 2) := by decide +kernel
theorem dX9_verse_80 : decode cX9_verse 80 = .ok (.iload_n 2, 1) := by decide +kernel
theorem dX9_verse_81 : decode cX9_verse 81 = .ok (.invokevirtual 102, 3) := by decide +kernel
theorem dX9_verse_84 : decode cX9_verse 84 = .ok (.ireturn, 1) := by decide +kernel
theorem dX9_verse_85 : decode cX9_verse 85 = .ok (.aload 4, 2) := by decide +kernel
theorem dX9_verse_87 : decode cX9_verse 87 = .ok (.iload_n 2, 1) := by decide +kernel
theorem dX9_verse_88 : decode cX9_verse 88 = .ok (.invokevirtual 251, 3) := by decide +kernel
theorem dX9_verse_91 : decode cX9_verse 91 = .ok (.ireturn, 1) := by decide +kernel
theorem dX9_verse_92 : decode cX9_verse 92 = .ok (.aload 4, 2) := by decide +kernel
theorem dX9_verse_94 : decode cX9_verse 94 = .ok (.iload_n 2, 1) := by decide +kernel
theorem dX9_verse_95 : decode cX9_verse 95 = .ok (.invokevirtual 102, 3) := by decide +kernel
theorem dX9_verse_98 : decode cX9_verse 98 = .ok (.aload_n 0, 1) := by decide +kernel
theorem dX9_verse_99 : decode cX9_verse 99 = .ok (.getfield 54, 3) := by decide +kernel
theorem dX9_verse_102 : decode cX9_verse 102 = .ok (.iload_n 1, 1) := by decide +kernel
theorem dX9_verse_103 : decode cX9_verse 103 = .ok (.invokevirtual 207, 3) := by decide +kernel
theorem dX9_verse_106 : decode cX9_verse 106 = .ok (.invokestatic 254, 3) := by decide +kernel
theorem dX9_verse_109 : decode cX9_verse 109 = .ok (.ireturn, 1) := by decide +kernel
set_option maxRecDepth 20000 in
theorem ggX9_group_X1_has : GoodIn wsX9_group wsX1_has := goodIn_r _ [7, 8, 134, 135, 136] (by decide +kernel) (by decide +kernel)
set_option maxRecDepth 20000 in
theorem gX9_group_X1_has : GoodIn wsX9_group (wsV RX9 130 RX1 yX1_has wsX1_has) := goodIn_app (goodIn_of _ (by decide +kernel)) ggX9_group_X1_has
set_option maxRecDepth 20000 in
theorem ggX9_group_X9_isWithin : GoodIn wsX9_group wsX9_isWithin := goodIn_r _ [12] (by decide +kernel) (by decide +kernel)
set_option maxRecDepth 20000 in
theorem gX9_group_X9_isWithin : GoodIn wsX9_group (va_wsS RX9 62 yX9_isWithin wsX9_isWithin) := goodIn_app (goodIn_of _ (by decide +kernel)) ggX9_group_X9_isWithin
set_option maxRecDepth 20000 in
theorem ggX9_group_X3_arrange : GoodIn wsX9_group wsX3_arrange := goodIn_r _ [17, 18, 19, 20, 21, 22, 23, 24, 25, 16, 26, 27, 28, 29, 30, 31, 32, 33, 34, 35, 36, 37, 38, 39, 40, 41, 6, 42, 43, 44, 45, 4, 5, 7, 8, 46, 11, 47, 48, 49, 50, 51, 52, 53, 54, 55, 56, 57, 58, 59, 60, 61, 62, 63, 64, 65, 66, 67, 68, 69, 70, 71, 72, 73, 74, 75, 76, 77, 78, 79, 80, 81, 82, 83, 84, 85, 86, 87, 88, 89, 90, 91, 92, 93, 131, 132, 133, 134, 135, 136, 137, 138, 139, 140, 141, 142, 143, 144, 145, 146, 147, 148, 149, 150, 151] (by decide +kernel) (by decide +kernel)
set_option maxRecDepth 20000 in
theorem gX9_group_X3_arrange : GoodIn wsX9_group (wsV RX9 219 RX3 yX3_arrange wsX3_arrange) := goodIn_app (goodIn_of _ (by decide +kernel)) ggX9_group_X3_arrange
set_option maxRecDepth 20000 in
theorem ggX9_group_X1_kindOf : GoodIn wsX9_group wsX1_kindOf := goodIn_r _ [97, 98, 40, 41, 6, 42, 43, 44, 45, 4, 5, 7, 8, 46, 11, 47, 134, 135, 136] (by decide +kernel) (by decide +kernel)
set_option maxRecDepth 20000 in
theorem gX9_group_X1_kindOf : GoodIn wsX9_group (wsV RX9 257 RX1 yX1_kindOf wsX1_kindOf) := goodIn_app (goodIn_of _ (by decide +kernel)) ggX9_group_X1_kindOf
set_option maxRecDepth 20000 in
theorem ggX9_group_X9_firstVerseOrNone : GoodIn wsX9_group wsX9_firstVerseOrNone := goodIn_r _ [102, 1, 103, 40, 41, 6, 42, 43, 44, 45, 4, 5, 7, 8, 46, 11, 47, 104, 105, 106, 107, 98, 124, 125, 126, 127, 128, 129, 130, 131, 132, 133, 134, 135, 136] (by decide +kernel) (by decide +kernel)
set_option maxRecDepth 20000 in
theorem gX9_group_X9_firstVerseOrNone : GoodIn wsX9_group (wsV RX9 260 RX9 yX9_firstVerseOrNone wsX9_firstVerseOrNone) := goodIn_app (goodIn_of _ (by decide +kernel)) ggX9_group_X9_firstVerseOrNone
set_option maxRecDepth 20000 in
theorem ggX9_group_X1_sizeOf : GoodIn wsX9_group wsX1_sizeOf := goodIn_r _ [42, 43, 44, 45, 4, 5, 6, 7, 8, 46, 11, 47, 134, 135, 136] (by decide +kernel) (by decide +kernel)
set_option maxRecDepth 20000 in
theorem gX9_group_X1_sizeOf : GoodIn wsX9_group (wsV RX9 136 RX1 yX1_sizeOf wsX1_sizeOf) := goodIn_app (goodIn_of _ (by decide +kernel)) ggX9_group_X1_sizeOf
set_option maxRecDepth 20000 in
theorem ggX9_group_X3_heightOf : GoodIn wsX9_group wsX3_heightOf := goodIn_r _ [111, 31, 46, 11, 47, 137, 138, 139, 140, 141, 142, 143, 144, 145, 146, 147] (by decide +kernel) (by decide +kernel)
set_option maxRecDepth 20000 in
theorem gX9_group_X3_heightOf : GoodIn wsX9_group (wsV RX9 263 RX3 yX3_heightOf wsX3_heightOf) := goodIn_app (goodIn_of _ (by decide +kernel)) ggX9_group_X3_heightOf
set_option maxRecDepth 20000 in
theorem ggX9_group_X3_pageOf : GoodIn wsX9_group wsX3_pageOf := goodIn_r _ [115, 89, 46, 11, 47, 137, 138, 139, 140, 141, 142, 143, 144, 145, 146, 147] (by decide +kernel) (by decide +kernel)
set_option maxRecDepth 20000 in
theorem gX9_group_X3_pageOf : GoodIn wsX9_group (wsV RX9 266 RX3 yX3_pageOf wsX3_pageOf) := goodIn_app (goodIn_of _ (by decide +kernel)) ggX9_group_X3_pageOf
set_option maxRecDepth 20000 in
theorem ggX9_group_X3_lineOf : GoodIn wsX9_group wsX3_lineOf := goodIn_r _ [119, 90, 46, 11, 47, 137, 138, 139, 140, 141, 142, 143, 144, 145, 146, 147] (by decide +kernel) (by decide +kernel)
set_option maxRecDepth 20000 in
theorem gX9_group_X3_lineOf : GoodIn wsX9_group (wsV RX9 269 RX3 yX3_lineOf wsX3_lineOf) := goodIn_app (goodIn_of _ (by decide +kernel)) ggX9_group_X3_lineOf
set_option maxRecDepth 20000 in
theorem ggX9_group_X3_notesOf : GoodIn wsX9_group wsX3_notesOf := goodIn_r _ [123, 38, 46, 11, 47, 137, 138, 139, 140, 141, 142, 143, 144, 145, 146, 147] (by decide +kernel) (by decide +kernel)
set_option maxRecDepth 20000 in
theorem gX9_group_X3_notesOf : GoodIn wsX9_group (wsV RX9 272 RX3 yX3_notesOf wsX3_notesOf) := goodIn_app (goodIn_of _ (by decide +kernel)) ggX9_group_X3_notesOf
theorem dX9_group_0 : decode cX9_group 0 = .ok (.aload_n 0, 1) := by decide +kernel
theorem dX9_group_1 : decode cX9_group 1 = .ok (.getfield 12, 3) := by decide +kernel
theorem dX9_group_4 : decode cX9_group 4 = .ok (.getfield 88, 3) := by decide +kernel
theorem dX9_group_7 : decode cX9_group 7 = .ok (.iload_n 1, 1) := by decide +kernel
theorem dX9_group_8 : decode cX9_group 8 = .ok (.invokevirtual 130, 3) := by decide +kernel
theorem dX9_group_11 : decode cX9_group 11 = .ok (.ifCond .ne 5, 3) := by decide +kernel
theorem dX9_group_14 : decode cX9_group 14 = .ok (.iconst (-1), 1) := by decide +kernel
theorem dX9_group_15 : decode cX9_group 15 = .ok (.ireturn, 1) := by decide +kernel
theorem dX9_group_16 : decode cX9_group 16 = .ok (.iload_n 2, 1) := by decide +kernel
theorem dX9_group_17 : decode cX9_group 17 = .ok (.iconst 0, 1) := by decide +kernel
theorem dX9_group_18 : decode cX9_group 18 = .ok (.bipush 8, 2) := by decide +kernel
theorem dX9_group_20 : decode cX9_group 20 = .ok (.invokestatic 62, 3) := by decide +kernel
theorem dX9_group_23 : decode cX9_group 23 = .ok (.ifCond .ne 6, 3) := by decide +kernel
theorem dX9_group_26 : decode cX9_group 26 = .ok (.bipush (-2), 2) := by decide +kernel
theorem dX9_group_28 : decode cX9_group 28 = .ok (.ireturn, 1) := by decide +kernel
theorem dX9_group_29 : decode cX9_group 29 = .ok (.iload_n 2, 1) := by decide +kernel
theorem dX9_group_30 : decode cX9_group 30 = .ok (.iconst 5, 1) := by decide +kernel
theorem dX9_group_31 : decode cX9_group 31 = .ok (.if_icmp .lt 14, 3) := by decide +kernel
theorem dX9_group_34 : decode cX9_group 34 = .ok (.aload_n 0, 1) := by decide +kernel
theorem dX9_group_35 : decode cX9_group 35 = .ok (.getfield 54, 3) := by decide +kernel
theorem dX9_group_38 : decode cX9_group 38 = .ok (.aload_n 0, 1) := by decide +kernel
theorem dX9_group_39 : decode cX9_group 39 = .ok (.getfield 12, 3) := by decide +kernel
theorem dX9_group_42 : decode cX9_group 42 = .ok (.invokevirtual 219, 3) := by decide +kernel
theorem dX9_group_45 : decode cX9_group 45 = .ok (.iload_n 2, 1) := by decide +kernel
theorem dX9_group_46 : decode cX9_group 46 = .ok (.tableswitch 125 0 7 #[46, 58, 65, 78, 85, 98, 107, 116], 46) := by decide +kernel
theorem dX9_group_92 : decode cX9_group 92 = .ok (.aload_n 0, 1) := by decide +kernel
theorem dX9_group_93 : decode cX9_group 93 = .ok (.getfield 12, 3) := by decide +kernel
theorem dX9_group_96 : decode cX9_group 96 = .ok (.getfield 88, 3) := by decide +kernel
theorem dX9_group_99 : decode cX9_group 99 = .ok (.iload_n 1, 1) := by decide +kernel
theorem dX9_group_100 : decode cX9_group 100 = .ok (.invokevirtual 257, 3) := by decide +kernel
theorem dX9_group_103 : decode cX9_group 103 = .ok (.ireturn, 1) := by decide +kernel
theorem dX9_group_104 : decode cX9_group 104 = .ok (.aload_n 0, 1) := by decide +kernel
theorem dX9_group_105 : decode cX9_group 105 = .ok (.iload_n 1, 1) := by decide +kernel
theorem dX9_group_106 : decode cX9_group 106 = .ok (.iconst 0, 1) := by decide +kernel
theorem dX9_group_107 : decode cX9_group 107 = .ok (.invokevirtual 260, 3) := by decide +kernel
theorem dX9_group_110 : decode cX9_group 110 = .ok (.ireturn, 1) := by decide +kernel
theorem dX9_group_111 : decode cX9_group 111 = .ok (.aload_n 0, 1) := by decide +kernel
theorem dX9_group_112 : decode cX9_group 112 = .ok (.getfield 12, 3) := by decide +kernel
theorem dX9_group_115 : decode cX9_group 115 = .ok (.getfield 88, 3) := by decide +kernel
theorem dX9_group_118 : decode cX9_group 118 = .ok (.iload_n 1, 1) := by decide +kernel
theorem dX9_group_119 : decode cX9_group 119 = .ok (.iconst 0, 1) := by decide +kernel
theorem dX9_group_120 : decode cX9_group 120 = .ok (.invokevirtual 136, 3) := by decide +kernel
theorem dX9_group_123 : decode cX9_group 123 = .ok (.ireturn, 1) := by decide +kernel
theorem dX9_group_124 : decode cX9_group 124 = .ok (.aload_n 0, 1) := by decide +kernel
theorem dX9_group_125 : decode cX9_group 125 = .ok (.iload_n 1, 1) := by decide +kernel
theorem dX9_group_126 : decode cX9_group 126 = .ok (.iconst 1, 1) := by decide +kernel
theorem dX9_group_127 : decode cX9_group 127 = .ok (.invokevirtual 260, 3) := by decide +kernel
theorem dX9_group_130 : decode cX9_group 130 = .ok (.ireturn, 1) := by decide +kernel
theorem dX9_group_131 : decode cX9_group 131 = .ok (.aload_n 0, 1) := by decide +kernel
theorem dX9_group_132 : decode cX9_group 132 = .ok (.getfield 12, 3) := by decide +kernel
theorem dX9_group_135 : decode cX9_group 135 = .ok (.getfield 88, 3) := by decide +kernel
theorem dX9_group_138 : decode cX9_group 138 = .ok (.iload_n 1, 1) := by decide +kernel
theorem dX9_group_139 : decode cX9_group 139 = .ok (.iconst 1, 1) := by decide +kernel
theorem dX9_group_140 : decode cX9_group 140 = .ok (.invokevirtual 136, 3) := by decide +kernel
theorem dX9_group_143 : decode cX9_group 143 = .ok (.ireturn, 1) := by decide +kernel
theorem dX9_group_144 : decode cX9_group 144 = .ok (.aload_n 0, 1) := by decide +kernel
theorem dX9_group_145 : decode cX9_group 145 = .ok (.getfield 54, 3) := by decide +kernel
theorem dX9_group_148 : decode cX9_group 148 = .ok (.iload_n 1, 1) := by decide +kernel
theorem dX9_group_149 : decode cX9_group 149 = .ok (.invokevirtual 263, 3) := by decide +kernel
theorem dX9_group_152 : decode cX9_group 152 = .ok (.ireturn, 1) := by decide +kernel
theorem dX9_group_153 : decode cX9_group 153 = .ok (.aload_n 0, 1) := by decide +kernel
theorem dX9_group_154 : decode cX9_group 154 = .ok (.getfield 54, 3) := by decide +kernel
theorem dX9_group_157 : decode cX9_group 157 = .ok (.iload_n 1, 1) := by decide +kernel
theorem dX9_group_158 : decode cX9_group 158 = .ok (.invokevirtual 266, 3) := by decide +kernel
theorem dX9_group_161 : decode cX9_group 161 = .ok (.ireturn, 1) := by decide +kernel
theorem dX9_group_162 : decode cX9_group 162 = .ok (.aload_n 0, 1) := by decide +kernel
theorem dX9_group_163 : decode cX9_group 163 = .ok (.getfield 54, 3) := by decide +kernel
theorem dX9_group_166 : decode cX9_group 166 = .ok (.iload_n 1, 1) := by decide +kernel
theorem dX9_group_167 : decode cX9_group 167 = .ok (.invokevirtual 269, 3) := by decide +kernel
theorem dX9_group_170 : decode cX9_group 170 = .ok (.ireturn, 1) := by decide +kernel
theorem dX9_group_171 : decode cX9_group 171 = .ok (.aload_n 0, 1) := by decide +kernel
theorem dX9_group_172 : decode cX9_group 172 = .ok (.getfield 54, 3) := by decide +kernel
theorem dX9_group_175 : decode cX9_group 175 = .ok (.iload_n 1, 1) := by decide +kernel
theorem dX9_group_176 : decode cX9_group 176 = .ok (.invokevirtual 272, 3) := by decide +kernel
theorem dX9_group_179 : decode cX9_group 179 = .ok (.ireturn, 1) := by decide +kernel
set_option maxRecDepth 20000 in
theorem ggX9_count_X9_isWithin : GoodIn wsX9_count wsX9_isWithin := goodIn_r _ [7] (by decide +kernel) (by decide +kernel)
set_option maxRecDepth 20000 in
theorem gX9_count_X9_isWithin : GoodIn wsX9_count (va_wsS RX9 62 yX9_isWithin wsX9_isWithin) := goodIn_app (goodIn_of _ (by decide +kernel)) ggX9_count_X9_isWithin
set_option maxRecDepth 20000 in
theorem ggX9_count_X0_chapterTotal : GoodIn wsX9_count wsX0_chapterTotal := goodIn_r _ [12, 13, 14, 15, 16, 11, 17, 18, 19, 20, 21, 22, 23, 6, 24, 117, 118, 119, 120] (by decide +kernel) (by decide +kernel)
set_option maxRecDepth 20000 in
theorem gX9_count_X0_chapterTotal : GoodIn wsX9_count (wsV RX9 70 RX0 yX0_chapterTotal wsX0_chapterTotal) := goodIn_app (goodIn_of _ (by decide +kernel)) ggX9_count_X0_chapterTotal
set_option maxRecDepth 20000 in
theorem ggX9_count_X3_arrange : GoodIn wsX9_count wsX3_arrange := goodIn_r _ [29, 30, 31, 32, 33, 34, 35, 36, 37, 28, 38, 39, 40, 41, 42, 43, 44, 45, 46, 47, 48, 49, 50, 51, 52, 53, 54, 55, 56, 57, 58, 59, 60, 61, 62, 23, 6, 24, 63, 64, 65, 11, 66, 67, 68, 69, 70, 71, 19, 20, 21, 22, 13, 72, 73, 74, 75, 76, 77, 14, 15, 16, 17, 18, 78, 79, 80, 81, 82, 83, 84, 85, 86, 87, 88, 89, 90, 91, 92, 93, 94, 95, 96, 97, 114, 115, 116, 121, 122, 123, 124, 125, 126, 127, 128, 129, 130, 131, 132, 133, 134, 117, 118, 119, 120] (by decide +kernel) (by decide +kernel)
set_option maxRecDepth 20000 in
theorem gX9_count_X3_arrange : GoodIn wsX9_count (wsV RX9 219 RX3 yX3_arrange wsX3_arrange) := goodIn_app (goodIn_of _ (by decide +kernel)) ggX9_count_X3_arrange
set_option maxRecDepth 20000 in
theorem ggX9_count_X1_kindTotal : GoodIn wsX9_count wsX1_kindTotal := goodIn_r _ [101, 62, 102, 103, 104, 54, 105, 106, 52, 53, 55, 56, 57, 58, 59, 60, 61, 23, 6, 24, 121, 122, 123] (by decide +kernel) (by decide +kernel)
set_option maxRecDepth 20000 in
theorem gX9_count_X1_kindTotal : GoodIn wsX9_count (wsV RX9 278 RX1 yX1_kindTotal wsX1_kindTotal) := goodIn_app (goodIn_of _ (by decide +kernel)) ggX9_count_X1_kindTotal
theorem dX9_count_0 : decode cX9_count 0 = .ok (.iload_n 1, 1) := by decide +kernel
theorem dX9_count_1 : decode cX9_count 1 = .ok (.iconst 0, 1) := by decide +kernel
theorem dX9_count_2 : decode cX9_count 2 = .ok (.bipush 11, 2) := by decide +kernel
theorem dX9_count_4 : decode cX9_count 4 = .ok (.invokestatic 62, 3) := by decide +kernel
theorem dX9_count_7 : decode cX9_count 7 = .ok (.ifCond .ne 6, 3) := by decide +kernel
theorem dX9_count_10 : decode cX9_count 10 = .ok (.bipush (-2), 2) := by decide +kernel
theorem dX9_count_12 : decode cX9_count 12 = .ok (.ireturn, 1) := by decide +kernel
theorem dX9_count_13 : decode cX9_count 13 = .ok (.iload_n 1, 1) := by decide +kernel
theorem dX9_count_14 : decode cX9_count 14 = .ok (.tableswitch 163 0 11 #[62, 73, 84, 95, 106, 163, 163, 163, 163, 117, 136, 155], 62) := by decide +kernel
theorem dX9_count_76 : decode cX9_count 76 = .ok (.aload_n 0, 1) := by decide +kernel
theorem dX9_count_77 : decode cX9_count 77 = .ok (.getfield 12, 3) := by decide +kernel
theorem dX9_count_80 : decode cX9_count 80 = .ok (.getfield 154, 3) := by decide +kernel
theorem dX9_count_83 : decode cX9_count 83 = .ok (.invokevirtual 70, 3) := by decide +kernel
theorem dX9_count_86 : decode cX9_count 86 = .ok (.ireturn, 1) := by decide +kernel
theorem dX9_count_87 : decode cX9_count 87 = .ok (.aload_n 0, 1) := by decide +kernel
theorem dX9_count_88 : decode cX9_count 88 = .ok (.getfield 12, 3) := by decide +kernel
theorem dX9_count_91 : decode cX9_count 91 = .ok (.getfield 158, 3) := by decide +kernel
theorem dX9_count_94 : decode cX9_count 94 = .ok (.invokevirtual 70, 3) := by decide +kernel
theorem dX9_count_97 : decode cX9_count 97 = .ok (.ireturn, 1) := by decide +kernel
theorem dX9_count_98 : decode cX9_count 98 = .ok (.aload_n 0, 1) := by decide +kernel
theorem dX9_count_99 : decode cX9_count 99 = .ok (.getfield 12, 3) := by decide +kernel
theorem dX9_count_102 : decode cX9_count 102 = .ok (.getfield 154, 3) := by decide +kernel
theorem dX9_count_105 : decode cX9_count 105 = .ok (.getfield 76, 3) := by decide +kernel
theorem dX9_count_108 : decode cX9_count 108 = .ok (.ireturn, 1) := by decide +kernel
theorem dX9_count_109 : decode cX9_count 109 = .ok (.aload_n 0, 1) := by decide +kernel
theorem dX9_count_110 : decode cX9_count 110 = .ok (.getfield 12, 3) := by decide +kernel
theorem dX9_count_113 : decode cX9_count 113 = .ok (.getfield 158, 3) := by decide +kernel
theorem dX9_count_116 : decode cX9_count 116 = .ok (.getfield 76, 3) := by decide +kernel
theorem dX9_count_119 : decode cX9_count 119 = .ok (.ireturn, 1) := by decide +kernel
theorem dX9_count_120 : decode cX9_count 120 = .ok (.aload_n 0, 1) := by decide +kernel
theorem dX9_count_121 : decode cX9_count 121 = .ok (.getfield 12, 3) := by decide +kernel
theorem dX9_count_124 : decode cX9_count 124 = .ok (.getfield 88, 3) := by decide +kernel
theorem dX9_count_127 : decode cX9_count 127 = .ok (.getfield 133, 3) := by decide +kernel
theorem dX9_count_130 : decode cX9_count 130 = .ok (.ireturn, 1) := by decide +kernel
theorem dX9_count_131 : decode cX9_count 131 = .ok (.aload_n 0, 1) := by decide +kernel
theorem dX9_count_132 : decode cX9_count 132 = .ok (.getfield 54, 3) := by decide +kernel
theorem dX9_count_135 : decode cX9_count 135 = .ok (.aload_n 0, 1) := by decide +kernel
theorem dX9_count_136 : decode cX9_count 136 = .ok (.getfield 12, 3) := by decide +kernel
theorem dX9_count_139 : decode cX9_count 139 = .ok (.invokevirtual 219, 3) := by decide +kernel
theorem dX9_count_142 : decode cX9_count 142 = .ok (.aload_n 0, 1) := by decide +kernel
theorem dX9_count_143 : decode cX9_count 143 = .ok (.getfield 54, 3) := by decide +kernel
theorem dX9_count_146 : decode cX9_count 146 = .ok (.getfield 222, 3) := by decide +kernel
theorem dX9_count_149 : decode cX9_count 149 = .ok (.ireturn, 1) := by decide +kernel
theorem dX9_count_150 : decode cX9_count 150 = .ok (.aload_n 0, 1) := by decide +kernel
theorem dX9_count_151 : decode cX9_count 151 = .ok (.getfield 54, 3) := by decide +kernel
theorem dX9_count_154 : decode cX9_count 154 = .ok (.aload_n 0, 1) := by decide +kernel
theorem dX9_count_155 : decode cX9_count 155 = .ok (.getfield 12, 3) := by decide +kernel
theorem dX9_count_158 : decode cX9_count 158 = .ok (.invokevirtual 219, 3) := by decide +kernel
theorem dX9_count_161 : decode cX9_count 161 = .ok (.aload_n 0, 1) := by decide +kernel
theorem dX9_count_162 : decode cX9_count 162 = .ok (.getfield 54, 3) := by decide +kernel
theorem dX9_count_165 : decode cX9_count 165 = .ok (.getfield 275, 3) := by decide +kernel
theorem dX9_count_168 : decode cX9_count 168 = .ok (.ireturn, 1) := by decide +kernel
theorem dX9_count_169 : decode cX9_count 169 = .ok (.aload_n 0, 1) := by decide +kernel
theorem dX9_count_170 : decode cX9_count 170 = .ok (.getfield 19, 3) := by decide +kernel
theorem dX9_count_173 : decode cX9_count 173 = .ok (.getfield 172, 3) := by decide +kernel
theorem dX9_count_176 : decode cX9_count 176 = .ok (.ireturn, 1) := by decide +kernel
theorem dX9_count_177 : decode cX9_count 177 = .ok (.aload_n 0, 1) := by decide +kernel
theorem dX9_count_178 : decode cX9_count 178 = .ok (.getfield 12, 3) := by decide +kernel
theorem dX9_count_181 : decode cX9_count 181 = .ok (.getfield 88, 3) := by decide +kernel
theorem dX9_count_184 : decode cX9_count 184 = .ok (.iload_n 1, 1) := by decide +kernel
theorem dX9_count_185 : decode cX9_count 185 = .ok (.iconst 5, 1) := by decide +kernel
theorem dX9_count_186 : decode cX9_count 186 = .ok (.isub, 1) := by decide +kernel
theorem dX9_count_187 : decode cX9_count 187 = .ok (.invokevirtual 278, 3) := by decide +kernel
theorem dX9_count_190 : decode cX9_count 190 = .ok (.ireturn, 1) := by decide +kernel
set_option maxRecDepth 20000 in
theorem ggX9_isVerse_X9_isBook : GoodIn wsX9_isVerse wsX9_isBook := goodIn_r _ [5] (by decide +kernel) (by decide +kernel)
set_option maxRecDepth 20000 in
theorem gX9_isVerse_X9_isBook : GoodIn wsX9_isVerse (va_wsS RX9 58 yX9_isBook wsX9_isBook) := goodIn_app (goodIn_of _ (by decide +kernel)) ggX9_isVerse_X9_isBook
set_option maxRecDepth 20000 in
theorem ggX9_isVerse_X7_bookOf : GoodIn wsX9_isVerse wsX7_bookOf := goodIn_r _ [10, 11, 12, 26, 27, 28] (by decide +kernel) (by decide +kernel)
set_option maxRecDepth 20000 in
theorem gX9_isVerse_X7_bookOf : GoodIn wsX9_isVerse (wsV RX9 66 RX7 yX7_bookOf wsX7_bookOf) := goodIn_app (goodIn_of _ (by decide +kernel)) ggX9_isVerse_X7_bookOf
set_option maxRecDepth 20000 in
theorem ggX9_isVerse_X0_has : GoodIn wsX9_isVerse wsX0_has := goodIn_r _ [17, 18, 29, 30, 31, 32] (by decide +kernel) (by decide +kernel)
set_option maxRecDepth 20000 in
theorem gX9_isVerse_X0_has : GoodIn wsX9_isVerse (wsV RX9 281 RX0 yX0_has wsX0_has) := goodIn_app (goodIn_of _ (by decide +kernel)) ggX9_isVerse_X0_has
theorem dX9_isVerse_0 : decode cX9_isVerse 0 = .ok (.iload_n 1, 1) := by decide +kernel
theorem dX9_isVerse_1 : decode cX9_isVerse 1 = .ok (.invokestatic 58, 3) := by decide +kernel
theorem dX9_isVerse_4 : decode cX9_isVerse 4 = .ok (.ifCond .eq 22, 3) := by decide +kernel
theorem dX9_isVerse_7 : decode cX9_isVerse 7 = .ok (.aload_n 0, 1) := by decide +kernel
theorem dX9_isVerse_8 : decode cX9_isVerse 8 = .ok (.getfield 12, 3) := by decide +kernel
theorem dX9_isVerse_11 : decode cX9_isVerse 11 = .ok (.iload_n 1, 1) := by decide +kernel
theorem dX9_isVerse_12 : decode cX9_isVerse 12 = .ok (.invokevirtual 66, 3) := by decide +kernel
theorem dX9_isVerse_15 : decode cX9_isVerse 15 = .ok (.iload_n 2, 1) := by decide +kernel
theorem dX9_isVerse_16 : decode cX9_isVerse 16 = .ok (.invokevirtual 281, 3) := by decide +kernel
theorem dX9_isVerse_19 : decode cX9_isVerse 19 = .ok (.ifCond .eq 7, 3) := by decide +kernel
theorem dX9_isVerse_22 : decode cX9_isVerse 22 = .ok (.iconst 1, 1) := by decide +kernel
theorem dX9_isVerse_23 : decode cX9_isVerse 23 = .ok (.goto 4, 3) := by decide +kernel
theorem dX9_isVerse_26 : decode cX9_isVerse 26 = .ok (.iconst 0, 1) := by decide +kernel
theorem dX9_isVerse_27 : decode cX9_isVerse 27 = .ok (.ireturn, 1) := by decide +kernel
set_option maxRecDepth 20000 in
theorem ggX9_firstVerseOrNone_X1_sizeOf : GoodIn wsX9_firstVerseOrNone wsX1_sizeOf := goodIn_r _ [6, 7, 8, 9, 10, 11, 5, 12, 13, 14, 15, 16, 32, 33, 34] (by decide +kernel) (by decide +kernel)
set_option maxRecDepth 20000 in
theorem gX9_firstVerseOrNone_X1_sizeOf : GoodIn wsX9_firstVerseOrNone (wsV RX9 136 RX1 yX1_sizeOf wsX1_sizeOf) := goodIn_app (goodIn_of _ (by decide +kernel)) ggX9_firstVerseOrNone_X1_sizeOf
set_option maxRecDepth 20000 in
theorem ggX9_firstVerseOrNone_X1_firstOf : GoodIn wsX9_firstVerseOrNone wsX1_firstOf := goodIn_r _ [20, 13, 21, 3, 4, 5, 6, 7, 8, 9, 10, 11, 12, 14, 15, 16, 32, 33, 34] (by decide +kernel) (by decide +kernel)
set_option maxRecDepth 20000 in
theorem gX9_firstVerseOrNone_X1_firstOf : GoodIn wsX9_firstVerseOrNone (wsV RX9 204 RX1 yX1_firstOf wsX1_firstOf) := goodIn_app (goodIn_of _ (by decide +kernel)) ggX9_firstVerseOrNone_X1_firstOf
theorem dX9_firstVerseOrNone_0 : decode cX9_firstVerseOrNone 0 = .ok (.aload_n 0, 1) := by decide +kernel
theorem dX9_firstVerseOrNone_1 : decode cX9_firstVerseOrNone 1 = .ok (.getfield 12, 3) := by decide +kernel
theorem dX9_firstVerseOrNone_4 : decode cX9_firstVerseOrNone 4 = .ok (.getfield 88, 3) := by decide +kernel
theorem dX9_firstVerseOrNone_7 : decode cX9_firstVerseOrNone 7 = .ok (.iload_n 1, 1) := by decide +kernel
theorem dX9_firstVerseOrNone_8 : decode cX9_firstVerseOrNone 8 = .ok (.iload_n 2, 1) := by decide +kernel
theorem dX9_firstVerseOrNone_9 : decode cX9_firstVerseOrNone 9 = .ok (.invokevirtual 136, 3) := by decide +kernel
theorem dX9_firstVerseOrNone_12 : decode cX9_firstVerseOrNone 12 = .ok (.ifCond .ne 8, 3) := by decide +kernel
theorem dX9_firstVerseOrNone_15 : decode cX9_firstVerseOrNone 15 = .ok (.bipush (-5), 2) := by decide +kernel
theorem dX9_firstVerseOrNone_17 : decode cX9_firstVerseOrNone 17 = .ok (.goto 15, 3) := by decide +kernel
theorem dX9_firstVerseOrNone_20 : decode cX9_firstVerseOrNone 20 = .ok (.aload_n 0, 1) := by decide +kernel
theorem dX9_firstVerseOrNone_21 : decode cX9_firstVerseOrNone 21 = .ok (.getfield 12, 3) := by decide +kernel
theorem dX9_firstVerseOrNone_24 : decode cX9_firstVerseOrNone 24 = .ok (.getfield 88, 3) := by decide +kernel
theorem dX9_firstVerseOrNone_27 : decode cX9_firstVerseOrNone 27 = .ok (.iload_n 1, 1) := by decide +kernel
theorem dX9_firstVerseOrNone_28 : decode cX9_firstVerseOrNone 28 = .ok (.iload_n 2, 1) := by decide +kernel
theorem dX9_firstVerseOrNone_29 : decode cX9_firstVerseOrNone 29 = .ok (.invokevirtual 204, 3) := by decide +kernel
theorem dX9_firstVerseOrNone_32 : decode cX9_firstVerseOrNone 32 = .ok (.ireturn, 1) := by decide +kernel
theorem dX9_isBook_0 : decode cX9_isBook 0 = .ok (.iload_n 0, 1) := by decide +kernel
theorem dX9_isBook_1 : decode cX9_isBook 1 = .ok (.ifCond .eq 8, 3) := by decide +kernel
theorem dX9_isBook_4 : decode cX9_isBook 4 = .ok (.iload_n 0, 1) := by decide +kernel
theorem dX9_isBook_5 : decode cX9_isBook 5 = .ok (.iconst 1, 1) := by decide +kernel
theorem dX9_isBook_6 : decode cX9_isBook 6 = .ok (.if_icmp .ne 7, 3) := by decide +kernel
theorem dX9_isBook_9 : decode cX9_isBook 9 = .ok (.iconst 1, 1) := by decide +kernel
theorem dX9_isBook_10 : decode cX9_isBook 10 = .ok (.goto 4, 3) := by decide +kernel
theorem dX9_isBook_13 : decode cX9_isBook 13 = .ok (.iconst 0, 1) := by decide +kernel
theorem dX9_isBook_14 : decode cX9_isBook 14 = .ok (.ireturn, 1) := by decide +kernel
theorem dX9_otherBook_0 : decode cX9_otherBook 0 = .ok (.iload_n 0, 1) := by decide +kernel
theorem dX9_otherBook_1 : decode cX9_otherBook 1 = .ok (.ifCond .ne 7, 3) := by decide +kernel
theorem dX9_otherBook_4 : decode cX9_otherBook 4 = .ok (.iconst 1, 1) := by decide +kernel
theorem dX9_otherBook_5 : decode cX9_otherBook 5 = .ok (.goto 4, 3) := by decide +kernel
theorem dX9_otherBook_8 : decode cX9_otherBook 8 = .ok (.iconst 0, 1) := by decide +kernel
theorem dX9_otherBook_9 : decode cX9_otherBook 9 = .ok (.ireturn, 1) := by decide +kernel
theorem dX9_isWithin_0 : decode cX9_isWithin 0 = .ok (.iload_n 0, 1) := by decide +kernel
theorem dX9_isWithin_1 : decode cX9_isWithin 1 = .ok (.iload_n 1, 1) := by decide +kernel
theorem dX9_isWithin_2 : decode cX9_isWithin 2 = .ok (.if_icmp .lt 12, 3) := by decide +kernel
theorem dX9_isWithin_5 : decode cX9_isWithin 5 = .ok (.iload_n 0, 1) := by decide +kernel
theorem dX9_isWithin_6 : decode cX9_isWithin 6 = .ok (.iload_n 2, 1) := by decide +kernel
theorem dX9_isWithin_7 : decode cX9_isWithin 7 = .ok (.if_icmp .gt 7, 3) := by decide +kernel
theorem dX9_isWithin_10 : decode cX9_isWithin 10 = .ok (.iconst 1, 1) := by decide +kernel
theorem dX9_isWithin_11 : decode cX9_isWithin 11 = .ok (.goto 4, 3) := by decide +kernel
theorem dX9_isWithin_14 : decode cX9_isWithin 14 = .ok (.iconst 0, 1) := by decide +kernel
theorem dX9_isWithin_15 : decode cX9_isWithin 15 = .ok (.ireturn, 1) := by decide +kernel
theorem dX9_linesFor_0 : decode cX9_linesFor 0 = .ok (.iload_n 1, 1) := by decide +kernel
theorem dX9_linesFor_1 : decode cX9_linesFor 1 = .ok (.iconst 1, 1) := by decide +kernel
theorem dX9_linesFor_2 : decode cX9_linesFor 2 = .ok (.if_icmp .ge 7, 3) := by decide +kernel
theorem dX9_linesFor_5 : decode cX9_linesFor 5 = .ok (.iconst 0, 1) := by decide +kernel
theorem dX9_linesFor_6 : decode cX9_linesFor 6 = .ok (.goto 10, 3) := by decide +kernel
theorem dX9_linesFor_9 : decode cX9_linesFor 9 = .ok (.iload_n 0, 1) := by decide +kernel
theorem dX9_linesFor_10 : decode cX9_linesFor 10 = .ok (.iload_n 1, 1) := by decide +kernel
theorem dX9_linesFor_11 : decode cX9_linesFor 11 = .ok (.iadd, 1) := by decide +kernel
theorem dX9_linesFor_12 : decode cX9_linesFor 12 = .ok (.iconst 1, 1) := by decide +kernel
theorem dX9_linesFor_13 : decode cX9_linesFor 13 = .ok (.isub, 1) := by decide +kernel
theorem dX9_linesFor_14 : decode cX9_linesFor 14 = .ok (.iload_n 1, 1) := by decide +kernel
theorem dX9_linesFor_15 : decode cX9_linesFor 15 = .ok (.idiv, 1) := by decide +kernel
theorem dX9_linesFor_16 : decode cX9_linesFor 16 = .ok (.ireturn, 1) := by decide +kernel
theorem dX9_cellOf_0 : decode cX9_cellOf 0 = .ok (.iload_n 1, 1) := by decide +kernel
theorem dX9_cellOf_1 : decode cX9_cellOf 1 = .ok (.ifCond .lt 15, 3) := by decide +kernel
theorem dX9_cellOf_4 : decode cX9_cellOf 4 = .ok (.iload_n 1, 1) := by decide +kernel
theorem dX9_cellOf_5 : decode cX9_cellOf 5 = .ok (.aload_n 0, 1) := by decide +kernel
theorem dX9_cellOf_6 : decode cX9_cellOf 6 = .ok (.arraylength, 1) := by decide +kernel
theorem dX9_cellOf_7 : decode cX9_cellOf 7 = .ok (.if_icmp .ge 9, 3) := by decide +kernel
theorem dX9_cellOf_10 : decode cX9_cellOf 10 = .ok (.aload_n 0, 1) := by decide +kernel
theorem dX9_cellOf_11 : decode cX9_cellOf 11 = .ok (.iload_n 1, 1) := by decide +kernel
theorem dX9_cellOf_12 : decode cX9_cellOf 12 = .ok (.iaload, 1) := by decide +kernel
theorem dX9_cellOf_13 : decode cX9_cellOf 13 = .ok (.goto 4, 3) := by decide +kernel
theorem dX9_cellOf_16 : decode cX9_cellOf 16 = .ok (.iconst 0, 1) := by decide +kernel
theorem dX9_cellOf_17 : decode cX9_cellOf 17 = .ok (.ireturn, 1) := by decide +kernel
theorem dX9_copyRow_0 : decode cX9_copyRow 0 = .ok (.aload_n 0, 1) := by decide +kernel
theorem dX9_copyRow_1 : decode cX9_copyRow 1 = .ok (.iconst 0, 1) := by decide +kernel
theorem dX9_copyRow_2 : decode cX9_copyRow 2 = .ok (.aload_n 1, 1) := by decide +kernel
theorem dX9_copyRow_3 : decode cX9_copyRow 3 = .ok (.iconst 0, 1) := by decide +kernel
theorem dX9_copyRow_4 : decode cX9_copyRow 4 = .ok (.aload_n 0, 1) := by decide +kernel
theorem dX9_copyRow_5 : decode cX9_copyRow 5 = .ok (.arraylength, 1) := by decide +kernel
theorem dX9_copyRow_6 : decode cX9_copyRow 6 = .ok (.aload_n 1, 1) := by decide +kernel
theorem dX9_copyRow_7 : decode cX9_copyRow 7 = .ok (.arraylength, 1) := by decide +kernel
theorem dX9_copyRow_8 : decode cX9_copyRow 8 = .ok (.invokestatic 282, 3) := by decide +kernel
theorem dX9_copyRow_11 : decode cX9_copyRow 11 = .ok (.invokestatic 285, 3) := by decide +kernel
theorem dX9_copyRow_14 : decode cX9_copyRow 14 = .ok (.return_, 1) := by decide +kernel
set_option maxRecDepth 20000 in
theorem ggX9_openCell_X9_isWithin : GoodIn wsX9_openCell wsX9_isWithin := goodIn_r _ [8] (by decide +kernel) (by decide +kernel)
set_option maxRecDepth 20000 in
theorem gX9_openCell_X9_isWithin : GoodIn wsX9_openCell (va_wsS RX9 62 yX9_isWithin wsX9_isWithin) := goodIn_app (goodIn_of _ (by decide +kernel)) ggX9_openCell_X9_isWithin
theorem dX9_openCell_0 : decode cX9_openCell 0 = .ok (.iload_n 2, 1) := by decide +kernel
theorem dX9_openCell_1 : decode cX9_openCell 1 = .ok (.iconst 0, 1) := by decide +kernel
theorem dX9_openCell_2 : decode cX9_openCell 2 = .ok (.aload_n 0, 1) := by decide +kernel
theorem dX9_openCell_3 : decode cX9_openCell 3 = .ok (.arraylength, 1) := by decide +kernel
theorem dX9_openCell_4 : decode cX9_openCell 4 = .ok (.iconst 1, 1) := by decide +kernel
theorem dX9_openCell_5 : decode cX9_openCell 5 = .ok (.isub, 1) := by decide +kernel
theorem dX9_openCell_6 : decode cX9_openCell 6 = .ok (.invokestatic 62, 3) := by decide +kernel
theorem dX9_openCell_9 : decode cX9_openCell 9 = .ok (.ifCond .eq 24, 3) := by decide +kernel
theorem dX9_openCell_12 : decode cX9_openCell 12 = .ok (.iload_n 1, 1) := by decide +kernel
theorem dX9_openCell_13 : decode cX9_openCell 13 = .ok (.iconst 0, 1) := by decide +kernel
theorem dX9_openCell_14 : decode cX9_openCell 14 = .ok (.iload_n 2, 1) := by decide +kernel
theorem dX9_openCell_15 : decode cX9_openCell 15 = .ok (.invokestatic 62, 3) := by decide +kernel
theorem dX9_openCell_18 : decode cX9_openCell 18 = .ok (.ifCond .eq 15, 3) := by decide +kernel
theorem dX9_openCell_21 : decode cX9_openCell 21 = .ok (.aload_n 0, 1) := by decide +kernel
theorem dX9_openCell_22 : decode cX9_openCell 22 = .ok (.iload_n 1, 1) := by decide +kernel
theorem dX9_openCell_23 : decode cX9_openCell 23 = .ok (.aload_n 0, 1) := by decide +kernel
theorem dX9_openCell_24 : decode cX9_openCell 24 = .ok (.iload_n 1, 1) := by decide +kernel
theorem dX9_openCell_25 : decode cX9_openCell 25 = .ok (.iconst 1, 1) := by decide +kernel
theorem dX9_openCell_26 : decode cX9_openCell 26 = .ok (.iadd, 1) := by decide +kernel
theorem dX9_openCell_27 : decode cX9_openCell 27 = .ok (.iload_n 2, 1) := by decide +kernel
theorem dX9_openCell_28 : decode cX9_openCell 28 = .ok (.iload_n 1, 1) := by decide +kernel
theorem dX9_openCell_29 : decode cX9_openCell 29 = .ok (.isub, 1) := by decide +kernel
theorem dX9_openCell_30 : decode cX9_openCell 30 = .ok (.invokestatic 285, 3) := by decide +kernel
theorem dX9_openCell_33 : decode cX9_openCell 33 = .ok (.return_, 1) := by decide +kernel
set_option maxRecDepth 20000 in
theorem ggX9_closeCells_X9_isWithin : GoodIn wsX9_closeCells wsX9_isWithin := goodIn_r _ [8] (by decide +kernel) (by decide +kernel)
set_option maxRecDepth 20000 in
theorem gX9_closeCells_X9_isWithin : GoodIn wsX9_closeCells (va_wsS RX9 62 yX9_isWithin wsX9_isWithin) := goodIn_app (goodIn_of _ (by decide +kernel)) ggX9_closeCells_X9_isWithin
theorem dX9_closeCells_0 : decode cX9_closeCells 0 = .ok (.iload_n 3, 1) := by decide +kernel
theorem dX9_closeCells_1 : decode cX9_closeCells 1 = .ok (.iconst 0, 1) := by decide +kernel
theorem dX9_closeCells_2 : decode cX9_closeCells 2 = .ok (.aload_n 0, 1) := by decide +kernel
theorem dX9_closeCells_3 : decode cX9_closeCells 3 = .ok (.arraylength, 1) := by decide +kernel
theorem dX9_closeCells_4 : decode cX9_closeCells 4 = .ok (.invokestatic 62, 3) := by decide +kernel
theorem dX9_closeCells_7 : decode cX9_closeCells 7 = .ok (.ifCond .eq 37, 3) := by decide +kernel
theorem dX9_closeCells_10 : decode cX9_closeCells 10 = .ok (.iload_n 1, 1) := by decide +kernel
theorem dX9_closeCells_11 : decode cX9_closeCells 11 = .ok (.iconst 0, 1) := by decide +kernel
theorem dX9_closeCells_12 : decode cX9_closeCells 12 = .ok (.iload_n 3, 1) := by decide +kernel
theorem dX9_closeCells_13 : decode cX9_closeCells 13 = .ok (.invokestatic 62, 3) := by decide +kernel
theorem dX9_closeCells_16 : decode cX9_closeCells 16 = .ok (.ifCond .eq 28, 3) := by decide +kernel
theorem dX9_closeCells_19 : decode cX9_closeCells 19 = .ok (.iload_n 2, 1) := by decide +kernel
theorem dX9_closeCells_20 : decode cX9_closeCells 20 = .ok (.iconst 0, 1) := by decide +kernel
theorem dX9_closeCells_21 : decode cX9_closeCells 21 = .ok (.iload_n 3, 1) := by decide +kernel
theorem dX9_closeCells_22 : decode cX9_closeCells 22 = .ok (.iload_n 1, 1) := by decide +kernel
theorem dX9_closeCells_23 : decode cX9_closeCells 23 = .ok (.isub, 1) := by decide +kernel
theorem dX9_closeCells_24 : decode cX9_closeCells 24 = .ok (.invokestatic 62, 3) := by decide +kernel
theorem dX9_closeCells_27 : decode cX9_closeCells 27 = .ok (.ifCond .eq 17, 3) := by decide +kernel
theorem dX9_closeCells_30 : decode cX9_closeCells 30 = .ok (.aload_n 0, 1) := by decide +kernel
theorem dX9_closeCells_31 : decode cX9_closeCells 31 = .ok (.iload_n 1, 1) := by decide +kernel
theorem dX9_closeCells_32 : decode cX9_closeCells 32 = .ok (.iload_n 2, 1) := by decide +kernel
theorem dX9_closeCells_33 : decode cX9_closeCells 33 = .ok (.iadd, 1) := by decide +kernel
theorem dX9_closeCells_34 : decode cX9_closeCells 34 = .ok (.aload_n 0, 1) := by decide +kernel
theorem dX9_closeCells_35 : decode cX9_closeCells 35 = .ok (.iload_n 1, 1) := by decide +kernel
theorem dX9_closeCells_36 : decode cX9_closeCells 36 = .ok (.iload_n 3, 1) := by decide +kernel
theorem dX9_closeCells_37 : decode cX9_closeCells 37 = .ok (.iload_n 1, 1) := by decide +kernel
theorem dX9_closeCells_38 : decode cX9_closeCells 38 = .ok (.isub, 1) := by decide +kernel
theorem dX9_closeCells_39 : decode cX9_closeCells 39 = .ok (.iload_n 2, 1) := by decide +kernel
theorem dX9_closeCells_40 : decode cX9_closeCells 40 = .ok (.isub, 1) := by decide +kernel
theorem dX9_closeCells_41 : decode cX9_closeCells 41 = .ok (.invokestatic 285, 3) := by decide +kernel
theorem dX9_closeCells_44 : decode cX9_closeCells 44 = .ok (.return_, 1) := by decide +kernel
theorem dX10_init_0 : decode cX10_init 0 = .ok (.aload_n 0, 1) := by decide +kernel
theorem dX10_init_1 : decode cX10_init 1 = .ok (.invokespecial 1, 3) := by decide +kernel
theorem dX10_init_4 : decode cX10_init 4 = .ok (.aload_n 0, 1) := by decide +kernel
theorem dX10_init_5 : decode cX10_init 5 = .ok (.sipush 605, 3) := by decide +kernel
theorem dX10_init_8 : decode cX10_init 8 = .ok (.newarray .int, 2) := by decide +kernel
theorem dX10_init_10 : decode cX10_init 10 = .ok (.putfield 7, 3) := by decide +kernel
theorem dX10_init_13 : decode cX10_init 13 = .ok (.aload_n 0, 1) := by decide +kernel
theorem dX10_init_14 : decode cX10_init 14 = .ok (.sipush 3025, 3) := by decide +kernel
theorem dX10_init_17 : decode cX10_init 17 = .ok (.newarray .int, 2) := by decide +kernel
theorem dX10_init_19 : decode cX10_init 19 = .ok (.putfield 13, 3) := by decide +kernel
theorem dX10_init_22 : decode cX10_init 22 = .ok (.aload_n 0, 1) := by decide +kernel
theorem dX10_init_23 : decode cX10_init 23 = .ok (.bipush 80, 2) := by decide +kernel
theorem dX10_init_25 : decode cX10_init 25 = .ok (.newarray .char, 2) := by decide +kernel
theorem dX10_init_27 : decode cX10_init 27 = .ok (.putfield 16, 3) := by decide +kernel
theorem dX10_init_30 : decode cX10_init 30 = .ok (.aload_n 0, 1) := by decide +kernel
theorem dX10_init_31 : decode cX10_init 31 = .ok (.bipush 120, 2) := by decide +kernel
theorem dX10_init_33 : decode cX10_init 33 = .ok (.newarray .int, 2) := by decide +kernel
theorem dX10_init_35 : decode cX10_init 35 = .ok (.putfield 20, 3) := by decide +kernel
theorem dX10_init_38 : decode cX10_init 38 = .ok (.aload_n 0, 1) := by decide +kernel
theorem dX10_init_39 : decode cX10_init 39 = .ok (.bipush 120, 2) := by decide +kernel
theorem dX10_init_41 : decode cX10_init 41 = .ok (.newarray .int, 2) := by decide +kernel
theorem dX10_init_43 : decode cX10_init 43 = .ok (.putfield 23, 3) := by decide +kernel
theorem dX10_init_46 : decode cX10_init 46 = .ok (.aload_n 0, 1) := by decide +kernel
theorem dX10_init_47 : decode cX10_init 47 = .ok (.iconst 2, 1) := by decide +kernel
theorem dX10_init_48 : decode cX10_init 48 = .ok (.newarray .int, 2) := by decide +kernel
theorem dX10_init_50 : decode cX10_init 50 = .ok (.putfield 26, 3) := by decide +kernel
theorem dX10_init_53 : decode cX10_init 53 = .ok (.aload_n 0, 1) := by decide +kernel
theorem dX10_init_54 : decode cX10_init 54 = .ok (.bipush 40, 2) := by decide +kernel
theorem dX10_init_56 : decode cX10_init 56 = .ok (.putfield 29, 3) := by decide +kernel
theorem dX10_init_59 : decode cX10_init 59 = .ok (.aload_n 0, 1) := by decide +kernel
theorem dX10_init_60 : decode cX10_init 60 = .ok (.iconst 2, 1) := by decide +kernel
theorem dX10_init_61 : decode cX10_init 61 = .ok (.putfield 33, 3) := by decide +kernel
theorem dX10_init_64 : decode cX10_init 64 = .ok (.aload_n 0, 1) := by decide +kernel
theorem dX10_init_65 : decode cX10_init 65 = .ok (.bipush 120, 2) := by decide +kernel
theorem dX10_init_67 : decode cX10_init 67 = .ok (.newarray .int, 2) := by decide +kernel
theorem dX10_init_69 : decode cX10_init 69 = .ok (.putfield 36, 3) := by decide +kernel
theorem dX10_init_72 : decode cX10_init 72 = .ok (.aload_n 0, 1) := by decide +kernel
theorem dX10_init_73 : decode cX10_init 73 = .ok (.bipush 120, 2) := by decide +kernel
theorem dX10_init_75 : decode cX10_init 75 = .ok (.newarray .int, 2) := by decide +kernel
theorem dX10_init_77 : decode cX10_init 77 = .ok (.putfield 39, 3) := by decide +kernel
theorem dX10_init_80 : decode cX10_init 80 = .ok (.aload_n 0, 1) := by decide +kernel
theorem dX10_init_81 : decode cX10_init 81 = .ok (.bipush 120, 2) := by decide +kernel
theorem dX10_init_83 : decode cX10_init 83 = .ok (.newarray .int, 2) := by decide +kernel
theorem dX10_init_85 : decode cX10_init 85 = .ok (.putfield 42, 3) := by decide +kernel
theorem dX10_init_88 : decode cX10_init 88 = .ok (.aload_n 0, 1) := by decide +kernel
theorem dX10_init_89 : decode cX10_init 89 = .ok (.bipush 120, 2) := by decide +kernel
theorem dX10_init_91 : decode cX10_init 91 = .ok (.newarray .int, 2) := by decide +kernel
theorem dX10_init_93 : decode cX10_init 93 = .ok (.putfield 45, 3) := by decide +kernel
theorem dX10_init_96 : decode cX10_init 96 = .ok (.return_, 1) := by decide +kernel
theorem dX10_in_0 : decode cX10_in 0 = .ok (.iload_n 0, 1) := by decide +kernel
theorem dX10_in_1 : decode cX10_in 1 = .ok (.iload_n 1, 1) := by decide +kernel
theorem dX10_in_2 : decode cX10_in 2 = .ok (.if_icmp .lt 12, 3) := by decide +kernel
theorem dX10_in_5 : decode cX10_in 5 = .ok (.iload_n 0, 1) := by decide +kernel
theorem dX10_in_6 : decode cX10_in 6 = .ok (.iload_n 2, 1) := by decide +kernel
theorem dX10_in_7 : decode cX10_in 7 = .ok (.if_icmp .gt 7, 3) := by decide +kernel
theorem dX10_in_10 : decode cX10_in 10 = .ok (.iconst 1, 1) := by decide +kernel
theorem dX10_in_11 : decode cX10_in 11 = .ok (.goto 4, 3) := by decide +kernel
theorem dX10_in_14 : decode cX10_in 14 = .ok (.iconst 0, 1) := by decide +kernel
theorem dX10_in_15 : decode cX10_in 15 = .ok (.ireturn, 1) := by decide +kernel
set_option maxRecDepth 20000 in
theorem ggX10_noBook_X10_in : GoodIn wsX10_noBook wsX10_in := goodIn_r _ [4] (by decide +kernel) (by decide +kernel)
set_option maxRecDepth 20000 in
theorem gX10_noBook_X10_in : GoodIn wsX10_noBook (va_wsS RX10 48 yX10_in wsX10_in) := goodIn_app (goodIn_of _ (by decide +kernel)) ggX10_noBook_X10_in
theorem dX10_noBook_0 : decode cX10_noBook 0 = .ok (.iload_n 0, 1) := by decide +kernel
theorem dX10_noBook_1 : decode cX10_noBook 1 = .ok (.iconst 0, 1) := by decide +kernel
theorem dX10_noBook_2 : decode cX10_noBook 2 = .ok (.iconst 1, 1) := by decide +kernel
theorem dX10_noBook_3 : decode cX10_noBook 3 = .ok (.invokestatic 48, 3) := by decide +kernel
theorem dX10_noBook_6 : decode cX10_noBook 6 = .ok (.ifCond .ne 7, 3) := by decide +kernel
theorem dX10_noBook_9 : decode cX10_noBook 9 = .ok (.iconst 1, 1) := by decide +kernel
theorem dX10_noBook_10 : decode cX10_noBook 10 = .ok (.goto 4, 3) := by decide +kernel
theorem dX10_noBook_13 : decode cX10_noBook 13 = .ok (.iconst 0, 1) := by decide +kernel
theorem dX10_noBook_14 : decode cX10_noBook 14 = .ok (.ireturn, 1) := by decide +kernel
theorem dX10_size_0 : decode cX10_size 0 = .ok (.aload_n 0, 1) := by decide +kernel
theorem dX10_size_1 : decode cX10_size 1 = .ok (.getfield 7, 3) := by decide +kernel
theorem dX10_size_4 : decode cX10_size 4 = .ok (.sipush 360, 3) := by decide +kernel
theorem dX10_size_7 : decode cX10_size 7 = .ok (.iload_n 1, 1) := by decide +kernel
theorem dX10_size_8 : decode cX10_size 8 = .ok (.iadd, 1) := by decide +kernel
theorem dX10_size_9 : decode cX10_size 9 = .ok (.iaload, 1) := by decide +kernel
theorem dX10_size_10 : decode cX10_size 10 = .ok (.ireturn, 1) := by decide +kernel
set_option maxRecDepth 20000 in
theorem ggX10_noVerse_X10_noBook : GoodIn wsX10_noVerse wsX10_noBook := goodIn_r _ [4, 5, 6, 3, 7] (by decide +kernel) (by decide +kernel)
set_option maxRecDepth 20000 in
theorem gX10_noVerse_X10_noBook : GoodIn wsX10_noVerse (va_wsS RX10 52 yX10_noBook wsX10_noBook) := goodIn_app (goodIn_of _ (by decide +kernel)) ggX10_noVerse_X10_noBook
set_option maxRecDepth 20000 in
theorem ggX10_noVerse_X10_size : GoodIn wsX10_noVerse wsX10_size := goodIn_r _ [11, 12, 13, 14, 15, 16, 17, 18, 19, 20, 21, 22, 23, 24, 25, 26, 27, 28, 29, 30, 31, 32, 33, 34, 35] (by decide +kernel) (by decide +kernel)
set_option maxRecDepth 20000 in
theorem gX10_noVerse_X10_size : GoodIn wsX10_noVerse (wsV RX10 56 RX10 yX10_size wsX10_size) := goodIn_app (goodIn_of _ (by decide +kernel)) ggX10_noVerse_X10_size
set_option maxRecDepth 20000 in
theorem ggX10_noVerse_X10_in : GoodIn wsX10_noVerse wsX10_in := goodIn_r _ [7] (by decide +kernel) (by decide +kernel)
set_option maxRecDepth 20000 in
theorem gX10_noVerse_X10_in : GoodIn wsX10_noVerse (va_wsS RX10 48 yX10_in wsX10_in) := goodIn_app (goodIn_of _ (by decide +kernel)) ggX10_noVerse_X10_in
theorem dX10_noVerse_0 : decode cX10_noVerse 0 = .ok (.iload_n 1, 1) := by decide +kernel
theorem dX10_noVerse_1 : decode cX10_noVerse 1 = .ok (.invokestatic 52, 3) := by decide +kernel
theorem dX10_noVerse_4 : decode cX10_noVerse 4 = .ok (.ifCond .ne 18, 3) := by decide +kernel
theorem dX10_noVerse_7 : decode cX10_noVerse 7 = .ok (.iload_n 2, 1) := by decide +kernel
theorem dX10_noVerse_8 : decode cX10_noVerse 8 = .ok (.iconst 0, 1) := by decide +kernel
theorem dX10_noVerse_9 : decode cX10_noVerse 9 = .ok (.aload_n 0, 1) := by decide +kernel
theorem dX10_noVerse_10 : decode cX10_noVerse 10 = .ok (.iload_n 1, 1) := by decide +kernel
theorem dX10_noVerse_11 : decode cX10_noVerse 11 = .ok (.invokevirtual 56, 3) := by decide +kernel
theorem dX10_noVerse_14 : decode cX10_noVerse 14 = .ok (.iconst 1, 1) := by decide +kernel
theorem dX10_noVerse_15 : decode cX10_noVerse 15 = .ok (.isub, 1) := by decide +kernel
theorem dX10_noVerse_16 : decode cX10_noVerse 16 = .ok (.invokestatic 48, 3) := by decide +kernel
theorem dX10_noVerse_19 : decode cX10_noVerse 19 = .ok (.ifCond .ne 7, 3) := by decide +kernel
theorem dX10_noVerse_22 : decode cX10_noVerse 22 = .ok (.iconst 1, 1) := by decide +kernel
theorem dX10_noVerse_23 : decode cX10_noVerse 23 = .ok (.goto 4, 3) := by decide +kernel
theorem dX10_noVerse_26 : decode cX10_noVerse 26 = .ok (.iconst 0, 1) := by decide +kernel
theorem dX10_noVerse_27 : decode cX10_noVerse 27 = .ok (.ireturn, 1) := by decide +kernel
theorem dX10_groups_0 : decode cX10_groups 0 = .ok (.aload_n 0, 1) := by decide +kernel
theorem dX10_groups_1 : decode cX10_groups 1 = .ok (.getfield 7, 3) := by decide +kernel
theorem dX10_groups_4 : decode cX10_groups 4 = .ok (.sipush 364, 3) := by decide +kernel
theorem dX10_groups_7 : decode cX10_groups 7 = .ok (.iaload, 1) := by decide +kernel
theorem dX10_groups_8 : decode cX10_groups 8 = .ok (.ireturn, 1) := by decide +kernel
set_option maxRecDepth 20000 in
theorem ggX10_noGroup_X10_groups : GoodIn wsX10_noGroup wsX10_groups := goodIn_r _ [5, 6, 10, 11, 12, 13, 14, 15, 16, 17, 18, 19, 20, 21, 22, 23, 24, 25, 26, 27, 28, 29, 30, 31, 32] (by decide +kernel) (by decide +kernel)
set_option maxRecDepth 20000 in
theorem gX10_noGroup_X10_groups : GoodIn wsX10_noGroup (wsV RX10 60 RX10 yX10_groups wsX10_groups) := goodIn_app (goodIn_of _ (by decide +kernel)) ggX10_noGroup_X10_groups
set_option maxRecDepth 20000 in
theorem ggX10_noGroup_X10_in : GoodIn wsX10_noGroup wsX10_in := goodIn_r _ [9] (by decide +kernel) (by decide +kernel)
set_option maxRecDepth 20000 in
theorem gX10_noGroup_X10_in : GoodIn wsX10_noGroup (va_wsS RX10 48 yX10_in wsX10_in) := goodIn_app (goodIn_of _ (by decide +kernel)) ggX10_noGroup_X10_in
theorem dX10_noGroup_0 : decode cX10_noGroup 0 = .ok (.iload_n 1, 1) := by decide +kernel
theorem dX10_noGroup_1 : decode cX10_noGroup 1 = .ok (.iconst 0, 1) := by decide +kernel
theorem dX10_noGroup_2 : decode cX10_noGroup 2 = .ok (.aload_n 0, 1) := by decide +kernel
theorem dX10_noGroup_3 : decode cX10_noGroup 3 = .ok (.invokevirtual 60, 3) := by decide +kernel
theorem dX10_noGroup_6 : decode cX10_noGroup 6 = .ok (.iconst 1, 1) := by decide +kernel
theorem dX10_noGroup_7 : decode cX10_noGroup 7 = .ok (.isub, 1) := by decide +kernel
theorem dX10_noGroup_8 : decode cX10_noGroup 8 = .ok (.invokestatic 48, 3) := by decide +kernel
theorem dX10_noGroup_11 : decode cX10_noGroup 11 = .ok (.ifCond .ne 7, 3) := by decide +kernel
theorem dX10_noGroup_14 : decode cX10_noGroup 14 = .ok (.iconst 1, 1) := by decide +kernel
theorem dX10_noGroup_15 : decode cX10_noGroup 15 = .ok (.goto 4, 3) := by decide +kernel
theorem dX10_noGroup_18 : decode cX10_noGroup 18 = .ok (.iconst 0, 1) := by decide +kernel
theorem dX10_noGroup_19 : decode cX10_noGroup 19 = .ok (.ireturn, 1) := by decide +kernel
theorem dX10_has_0 : decode cX10_has 0 = .ok (.aload_n 0, 1) := by decide +kernel
theorem dX10_has_1 : decode cX10_has 1 = .ok (.getfield 7, 3) := by decide +kernel
theorem dX10_has_4 : decode cX10_has 4 = .ok (.iload_n 2, 1) := by decide +kernel
theorem dX10_has_5 : decode cX10_has 5 = .ok (.ifCond .ne 9, 3) := by decide +kernel
theorem dX10_has_8 : decode cX10_has 8 = .ok (.sipush 365, 3) := by decide +kernel
theorem dX10_has_11 : decode cX10_has 11 = .ok (.goto 6, 3) := by decide +kernel
theorem dX10_has_14 : decode cX10_has 14 = .ok (.sipush 485, 3) := by decide +kernel
theorem dX10_has_17 : decode cX10_has 17 = .ok (.iload_n 1, 1) := by decide +kernel
theorem dX10_has_18 : decode cX10_has 18 = .ok (.iadd, 1) := by decide +kernel
theorem dX10_has_19 : decode cX10_has 19 = .ok (.iaload, 1) := by decide +kernel
theorem dX10_has_20 : decode cX10_has 20 = .ok (.ireturn, 1) := by decide +kernel
theorem dX10_record_0 : decode cX10_record 0 = .ok (.aload_n 0, 1) := by decide +kernel
theorem dX10_record_1 : decode cX10_record 1 = .ok (.getfield 64, 3) := by decide +kernel
theorem dX10_record_4 : decode cX10_record 4 = .ok (.iconst 5, 1) := by decide +kernel
theorem dX10_record_5 : decode cX10_record 5 = .ok (.if_icmp .ne 49, 3) := by decide +kernel
theorem dX10_record_8 : decode cX10_record 8 = .ok (.aload_n 0, 1) := by decide +kernel
theorem dX10_record_9 : decode cX10_record 9 = .ok (.dup, 1) := by decide +kernel
theorem dX10_record_10 : decode cX10_record 10 = .ok (.getfield 64, 3) := by decide +kernel
theorem dX10_record_13 : decode cX10_record 13 = .ok (.iconst 1, 1) := by decide +kernel
theorem dX10_record_14 : decode cX10_record 14 = .ok (.isub, 1) := by decide +kernel
theorem dX10_record_15 : decode cX10_record 15 = .ok (.putfield 64, 3) := by decide +kernel
theorem dX10_record_18 : decode cX10_record 18 = .ok (.iconst 0, 1) := by decide +kernel
theorem dX10_record_19 : decode cX10_record 19 = .ok (.istore_n 1, 1) := by decide +kernel
theorem dX10_record_20 : decode cX10_record 20 = .ok (.iload_n 1, 1) := by decide +kernel
theorem dX10_record_21 : decode cX10_record 21 = .ok (.sipush 605, 3) := by decide +kernel
theorem dX10_record_24 : decode cX10_record 24 = .ok (.aload_n 0, 1) := by decide +kernel
theorem dX10_record_25 : decode cX10_record 25 = .ok (.getfield 64, 3) := by decide +kernel
theorem dX10_record_28 : decode cX10_record 28 = .ok (.imul, 1) := by decide +kernel
theorem dX10_record_29 : decode cX10_record 29 = .ok (.if_icmp .ge 25, 3) := by decide +kernel
theorem dX10_record_32 : decode cX10_record 32 = .ok (.aload_n 0, 1) := by decide +kernel
theorem dX10_record_33 : decode cX10_record 33 = .ok (.getfield 13, 3) := by decide +kernel
theorem dX10_record_36 : decode cX10_record 36 = .ok (.iload_n 1, 1) := by decide +kernel
theorem dX10_record_37 : decode cX10_record 37 = .ok (.aload_n 0, 1) := by decide +kernel
theorem dX10_record_38 : decode cX10_record 38 = .ok (.getfield 13, 3) := by decide +kernel
theorem dX10_record_41 : decode cX10_record 41 = .ok (.iload_n 1, 1) := by decide +kernel
theorem dX10_record_42 : decode cX10_record 42 = .ok (.sipush 605, 3) := by decide +kernel
theorem dX10_record_45 : decode cX10_record 45 = .ok (.iadd, 1) := by decide +kernel
theorem dX10_record_46 : decode cX10_record 46 = .ok (.iaload, 1) := by decide +kernel
theorem dX10_record_47 : decode cX10_record 47 = .ok (.iastore, 1) := by decide +kernel
theorem dX10_record_48 : decode cX10_record 48 = .ok (.iinc 1 1, 3) := by decide +kernel
theorem dX10_record_51 : decode cX10_record 51 = .ok (.goto (-31), 3) := by decide +kernel
theorem dX10_record_54 : decode cX10_record 54 = .ok (.iconst 0, 1) := by decide +kernel
theorem dX10_record_55 : decode cX10_record 55 = .ok (.istore_n 1, 1) := by decide +kernel
theorem dX10_record_56 : decode cX10_record 56 = .ok (.iload_n 1, 1) := by decide +kernel
theorem dX10_record_57 : decode cX10_record 57 = .ok (.sipush 605, 3) := by decide +kernel
theorem dX10_record_60 : decode cX10_record 60 = .ok (.if_icmp .ge 30, 3) := by decide +kernel
theorem dX10_record_63 : decode cX10_record 63 = .ok (.aload_n 0, 1) := by decide +kernel
theorem dX10_record_64 : decode cX10_record 64 = .ok (.getfield 13, 3) := by decide +kernel
theorem dX10_record_67 : decode cX10_record 67 = .ok (.sipush 605, 3) := by decide +kernel
theorem dX10_record_70 : decode cX10_record 70 = .ok (.aload_n 0, 1) := by decide +kernel
theorem dX10_record_71 : decode cX10_record 71 = .ok (.getfield 64, 3) := by decide +kernel
theorem dX10_record_74 : decode cX10_record 74 = .ok (.imul, 1) := by decide +kernel
theorem dX10_record_75 : decode cX10_record 75 = .ok (.iload_n 1, 1) := by decide +kernel
theorem dX10_record_76 : decode cX10_record 76 = .ok (.iadd, 1) := by decide +kernel
theorem dX10_record_77 : decode cX10_record 77 = .ok (.aload_n 0, 1) := by decide +kernel
theorem dX10_record_78 : decode cX10_record 78 = .ok (.getfield 7, 3) := by decide +kernel
theorem dX10_record_81 : decode cX10_record 81 = .ok (.iload_n 1, 1) := by decide +kernel
theorem dX10_record_82 : decode cX10_record 82 = .ok (.iaload, 1) := by decide +kernel
theorem dX10_record_83 : decode cX10_record 83 = .ok (.iastore, 1) := by decide +kernel
theorem dX10_record_84 : decode cX10_record 84 = .ok (.iinc 1 1, 3) := by decide +kernel
theorem dX10_record_87 : decode cX10_record 87 = .ok (.goto (-31), 3) := by decide +kernel
theorem dX10_record_90 : decode cX10_record 90 = .ok (.aload_n 0, 1) := by decide +kernel
theorem dX10_record_91 : decode cX10_record 91 = .ok (.dup, 1) := by decide +kernel
theorem dX10_record_92 : decode cX10_record 92 = .ok (.getfield 64, 3) := by decide +kernel
theorem dX10_record_95 : decode cX10_record 95 = .ok (.iconst 1, 1) := by decide +kernel
theorem dX10_record_96 : decode cX10_record 96 = .ok (.iadd, 1) := by decide +kernel
theorem dX10_record_97 : decode cX10_record 97 = .ok (.putfield 64, 3) := by decide +kernel
theorem dX10_record_100 : decode cX10_record 100 = .ok (.return_, 1) := by decide +kernel
theorem dX10_undo_0 : decode cX10_undo 0 = .ok (.aload_n 0, 1) := by decide +kernel
theorem dX10_undo_1 : decode cX10_undo 1 = .ok (.getfield 64, 3) := by decide +kernel
theorem dX10_undo_4 : decode cX10_undo 4 = .ok (.ifCond .ne 6, 3) := by decide +kernel
theorem dX10_undo_7 : decode cX10_undo 7 = .ok (.bipush (-5), 2) := by decide +kernel
theorem dX10_undo_9 : decode cX10_undo 9 = .ok (.ireturn, 1) := by decide +kernel
theorem dX10_undo_10 : decode cX10_undo 10 = .ok (.aload_n 0, 1) := by decide +kernel
theorem dX10_undo_11 : decode cX10_undo 11 = .ok (.dup, 1) := by decide +kernel
theorem dX10_undo_12 : decode cX10_undo 12 = .ok (.getfield 64, 3) := by decide +kernel
theorem dX10_undo_15 : decode cX10_undo 15 = .ok (.iconst 1, 1) := by decide +kernel
theorem dX10_undo_16 : decode cX10_undo 16 = .ok (.isub, 1) := by decide +kernel
theorem dX10_undo_17 : decode cX10_undo 17 = .ok (.putfield 64, 3) := by decide +kernel
theorem dX10_undo_20 : decode cX10_undo 20 = .ok (.iconst 0, 1) := by decide +kernel
theorem dX10_undo_21 : decode cX10_undo 21 = .ok (.istore_n 1, 1) := by decide +kernel
theorem dX10_undo_22 : decode cX10_undo 22 = .ok (.iload_n 1, 1) := by decide +kernel
theorem dX10_undo_23 : decode cX10_undo 23 = .ok (.sipush 605, 3) := by decide +kernel
theorem dX10_undo_26 : decode cX10_undo 26 = .ok (.if_icmp .ge 30, 3) := by decide +kernel
theorem dX10_undo_29 : decode cX10_undo 29 = .ok (.aload_n 0, 1) := by decide +kernel
theorem dX10_undo_30 : decode cX10_undo 30 = .ok (.getfield 7, 3) := by decide +kernel
theorem dX10_undo_33 : decode cX10_undo 33 = .ok (.iload_n 1, 1) := by decide +kernel
theorem dX10_undo_34 : decode cX10_undo 34 = .ok (.aload_n 0, 1) := by decide +kernel
theorem dX10_undo_35 : decode cX10_undo 35 = .ok (.getfield 13, 3) := by decide +kernel
theorem dX10_undo_38 : decode cX10_undo 38 = .ok (.sipush 605, 3) := by decide +kernel
theorem dX10_undo_41 : decode cX10_undo 41 = .ok (.aload_n 0, 1) := by decide +kernel
theorem dX10_undo_42 : decode cX10_undo 42 = .ok (.getfield 64, 3) := by decide +kernel
theorem dX10_undo_45 : decode cX10_undo 45 = .ok (.imul, 1) := by decide +kernel
theorem dX10_undo_46 : decode cX10_undo 46 = .ok (.iload_n 1, 1) := by decide +kernel
theorem dX10_undo_47 : decode cX10_undo 47 = .ok (.iadd, 1) := by decide +kernel
theorem dX10_undo_48 : decode cX10_undo 48 = .ok (.iaload, 1) := by decide +kernel
theorem dX10_undo_49 : decode cX10_undo 49 = .ok (.iastore, 1) := by decide +kernel
theorem dX10_undo_50 : decode cX10_undo 50 = .ok (.iinc 1 1, 3) := by decide +kernel
theorem dX10_undo_53 : decode cX10_undo 53 = .ok (.goto (-31), 3) := by decide +kernel
theorem dX10_undo_56 : decode cX10_undo 56 = .ok (.aload_n 0, 1) := by decide +kernel
theorem dX10_undo_57 : decode cX10_undo 57 = .ok (.getfield 64, 3) := by decide +kernel
theorem dX10_undo_60 : decode cX10_undo 60 = .ok (.ireturn, 1) := by decide +kernel
set_option maxRecDepth 20000 in
theorem ggX10_addGroup_X10_groups : GoodIn wsX10_addGroup wsX10_groups := goodIn_r _ [6, 1, 7, 8, 9, 10, 11, 12, 13, 14, 15, 16, 17, 18, 19, 20, 21, 22, 23, 24, 25, 26, 27, 28, 29] (by decide +kernel) (by decide +kernel)
set_option maxRecDepth 20000 in
theorem gX10_addGroup_X10_groups : GoodIn wsX10_addGroup (wsV RX10 60 RX10 yX10_groups wsX10_groups) := goodIn_app (goodIn_of _ (by decide +kernel)) ggX10_addGroup_X10_groups
theorem dX10_addGroup_0 : decode cX10_addGroup 0 = .ok (.aload_n 0, 1) := by decide +kernel
theorem dX10_addGroup_1 : decode cX10_addGroup 1 = .ok (.getfield 7, 3) := by decide +kernel
theorem dX10_addGroup_4 : decode cX10_addGroup 4 = .ok (.sipush 365, 3) := by decide +kernel
theorem dX10_addGroup_7 : decode cX10_addGroup 7 = .ok (.aload_n 0, 1) := by decide +kernel
theorem dX10_addGroup_8 : decode cX10_addGroup 8 = .ok (.invokevirtual 60, 3) := by decide +kernel
theorem dX10_addGroup_11 : decode cX10_addGroup 11 = .ok (.iadd, 1) := by decide +kernel
theorem dX10_addGroup_12 : decode cX10_addGroup 12 = .ok (.iload_n 1, 1) := by decide +kernel
theorem dX10_addGroup_13 : decode cX10_addGroup 13 = .ok (.iastore, 1) := by decide +kernel
theorem dX10_addGroup_14 : decode cX10_addGroup 14 = .ok (.aload_n 0, 1) := by decide +kernel
theorem dX10_addGroup_15 : decode cX10_addGroup 15 = .ok (.getfield 7, 3) := by decide +kernel
theorem dX10_addGroup_18 : decode cX10_addGroup 18 = .ok (.sipush 485, 3) := by decide +kernel
theorem dX10_addGroup_21 : decode cX10_addGroup 21 = .ok (.aload_n 0, 1) := by decide +kernel
theorem dX10_addGroup_22 : decode cX10_addGroup 22 = .ok (.invokevirtual 60, 3) := by decide +kernel
theorem dX10_addGroup_25 : decode cX10_addGroup 25 = .ok (.iadd, 1) := by decide +kernel
theorem dX10_addGroup_26 : decode cX10_addGroup 26 = .ok (.iload_n 2, 1) := by decide +kernel
theorem dX10_addGroup_27 : decode cX10_addGroup 27 = .ok (.iastore, 1) := by decide +kernel
theorem dX10_addGroup_28 : decode cX10_addGroup 28 = .ok (.aload_n 0, 1) := by decide +kernel
theorem dX10_addGroup_29 : decode cX10_addGroup 29 = .ok (.getfield 7, 3) := by decide +kernel
theorem dX10_addGroup_32 : decode cX10_addGroup 32 = .ok (.sipush 364, 3) := by decide +kernel
theorem dX10_addGroup_35 : decode cX10_addGroup 35 = .ok (.dup2, 1) := by decide +kernel
theorem dX10_addGroup_36 : decode cX10_addGroup 36 = .ok (.iaload, 1) := by decide +kernel
theorem dX10_addGroup_37 : decode cX10_addGroup 37 = .ok (.iconst 1, 1) := by decide +kernel
theorem dX10_addGroup_38 : decode cX10_addGroup 38 = .ok (.iadd, 1) := by decide +kernel
theorem dX10_addGroup_39 : decode cX10_addGroup 39 = .ok (.iastore, 1) := by decide +kernel
theorem dX10_addGroup_40 : decode cX10_addGroup 40 = .ok (.return_, 1) := by decide +kernel
set_option maxRecDepth 20000 in
theorem ggX10_addChapter_X10_noBook : GoodIn wsX10_addChapter wsX10_noBook := goodIn_r _ [5, 6, 7, 4, 8] (by decide +kernel) (by decide +kernel)
set_option maxRecDepth 20000 in
theorem gX10_addChapter_X10_noBook : GoodIn wsX10_addChapter (va_wsS RX10 52 yX10_noBook wsX10_noBook) := goodIn_app (goodIn_of _ (by decide +kernel)) ggX10_addChapter_X10_noBook
set_option maxRecDepth 20000 in
theorem ggX10_addChapter_X10_in : GoodIn wsX10_addChapter wsX10_in := goodIn_r _ [8] (by decide +kernel) (by decide +kernel)
set_option maxRecDepth 20000 in
theorem gX10_addChapter_X10_in : GoodIn wsX10_addChapter (va_wsS RX10 48 yX10_in wsX10_in) := goodIn_app (goodIn_of _ (by decide +kernel)) ggX10_addChapter_X10_in
set_option maxRecDepth 20000 in
theorem ggX10_addChapter_X10_size : GoodIn wsX10_addChapter wsX10_size := goodIn_r _ [12, 1, 27, 28, 29, 30, 31, 32, 33, 34, 35, 36, 37, 38, 39, 40, 41, 42, 43, 44, 45, 46, 47, 48, 49] (by decide +kernel) (by decide +kernel)
set_option maxRecDepth 20000 in
theorem gX10_addChapter_X10_size : GoodIn wsX10_addChapter (wsV RX10 56 RX10 yX10_size wsX10_size) := goodIn_app (goodIn_of _ (by decide +kernel)) ggX10_addChapter_X10_size
set_option maxRecDepth 20000 in
theorem ggX10_addChapter_X10_record : GoodIn wsX10_addChapter wsX10_record := goodIn_r _ [16, 17, 18, 1, 27, 28, 29, 30, 31, 32, 33, 34, 35, 36, 37, 38, 39, 40, 41, 42, 43, 44, 45, 46, 47, 48, 49] (by decide +kernel) (by decide +kernel)
set_option maxRecDepth 20000 in
theorem gX10_addChapter_X10_record : GoodIn wsX10_addChapter (wsV RX10 67 RX10 yX10_record wsX10_record) := goodIn_app (goodIn_of _ (by decide +kernel)) ggX10_addChapter_X10_record
set_option maxRecDepth 20000 in
theorem ggX10_addChapter_X10_addGroup : GoodIn wsX10_addChapter wsX10_addGroup := goodIn_r _ [22, 1, 23, 24, 25, 4, 26, 27, 28, 29, 30, 31, 32, 33, 34, 35, 36, 37, 38, 39, 40, 41, 42, 43, 44, 45, 46, 47, 48, 49] (by decide +kernel) (by decide +kernel)
set_option maxRecDepth 20000 in
theorem gX10_addChapter_X10_addGroup : GoodIn wsX10_addChapter (wsV RX10 70 RX10 yX10_addGroup wsX10_addGroup) := goodIn_app (goodIn_of _ (by decide +kernel)) ggX10_addChapter_X10_addGroup
theorem dX10_addChapter_0 : decode cX10_addChapter 0 = .ok (.iload_n 1, 1) := by decide +kernel
theorem dX10_addChapter_1 : decode cX10_addChapter 1 = .ok (.invokestatic 52, 3) := by decide +kernel
theorem dX10_addChapter_4 : decode cX10_addChapter 4 = .ok (.ifCond .eq 5, 3) := by decide +kernel
theorem dX10_addChapter_7 : decode cX10_addChapter 7 = .ok (.iconst (-1), 1) := by decide +kernel
theorem dX10_addChapter_8 : decode cX10_addChapter 8 = .ok (.ireturn, 1) := by decide +kernel
theorem dX10_addChapter_9 : decode cX10_addChapter 9 = .ok (.iload_n 2, 1) := by decide +kernel
theorem dX10_addChapter_10 : decode cX10_addChapter 10 = .ok (.iconst 1, 1) := by decide +kernel
theorem dX10_addChapter_11 : decode cX10_addChapter 11 = .ok (.bipush 60, 2) := by decide +kernel
theorem dX10_addChapter_13 : decode cX10_addChapter 13 = .ok (.invokestatic 48, 3) := by decide +kernel
theorem dX10_addChapter_16 : decode cX10_addChapter 16 = .ok (.ifCond .eq 14, 3) := by decide +kernel
theorem dX10_addChapter_19 : decode cX10_addChapter 19 = .ok (.iload_n 3, 1) := by decide +kernel
theorem dX10_addChapter_20 : decode cX10_addChapter 20 = .ok (.iconst 1, 1) := by decide +kernel
theorem dX10_addChapter_21 : decode cX10_addChapter 21 = .ok (.sipush 2000, 3) := by decide +kernel
theorem dX10_addChapter_24 : decode cX10_addChapter 24 = .ok (.invokestatic 48, 3) := by decide +kernel
theorem dX10_addChapter_27 : decode cX10_addChapter 27 = .ok (.ifCond .ne 6, 3) := by decide +kernel
theorem dX10_addChapter_30 : decode cX10_addChapter 30 = .ok (.bipush (-2), 2) := by decide +kernel
theorem dX10_addChapter_32 : decode cX10_addChapter 32 = .ok (.ireturn, 1) := by decide +kernel
theorem dX10_addChapter_33 : decode cX10_addChapter 33 = .ok (.aload_n 0, 1) := by decide +kernel
theorem dX10_addChapter_34 : decode cX10_addChapter 34 = .ok (.getfield 7, 3) := by decide +kernel
theorem dX10_addChapter_37 : decode cX10_addChapter 37 = .ok (.sipush 362, 3) := by decide +kernel
theorem dX10_addChapter_40 : decode cX10_addChapter 40 = .ok (.iload_n 1, 1) := by decide +kernel
theorem dX10_addChapter_41 : decode cX10_addChapter 41 = .ok (.iadd, 1) := by decide +kernel
theorem dX10_addChapter_42 : decode cX10_addChapter 42 = .ok (.iaload, 1) := by decide +kernel
theorem dX10_addChapter_43 : decode cX10_addChapter 43 = .ok (.bipush 10, 2) := by decide +kernel
theorem dX10_addChapter_45 : decode cX10_addChapter 45 = .ok (.if_icmp .eq 15, 3) := by decide +kernel
theorem dX10_addChapter_48 : decode cX10_addChapter 48 = .ok (.aload_n 0, 1) := by decide +kernel
theorem dX10_addChapter_49 : decode cX10_addChapter 49 = .ok (.iload_n 1, 1) := by decide +kernel
theorem dX10_addChapter_50 : decode cX10_addChapter 50 = .ok (.invokevirtual 56, 3) := by decide +kernel
theorem dX10_addChapter_53 : decode cX10_addChapter 53 = .ok (.iload_n 2, 1) := by decide +kernel
theorem dX10_addChapter_54 : decode cX10_addChapter 54 = .ok (.iadd, 1) := by decide +kernel
theorem dX10_addChapter_55 : decode cX10_addChapter 55 = .ok (.bipush 60, 2) := by decide +kernel
theorem dX10_addChapter_57 : decode cX10_addChapter 57 = .ok (.if_icmp .le 6, 3) := by decide +kernel
theorem dX10_addChapter_60 : decode cX10_addChapter 60 = .ok (.bipush (-3), 2) := by decide +kernel
theorem dX10_addChapter_62 : decode cX10_addChapter 62 = .ok (.ireturn, 1) := by decide +kernel
theorem dX10_addChapter_63 : decode cX10_addChapter 63 = .ok (.aload_n 0, 1) := by decide +kernel
theorem dX10_addChapter_64 : decode cX10_addChapter 64 = .ok (.invokevirtual 67, 3) := by decide +kernel
theorem dX10_addChapter_67 : decode cX10_addChapter 67 = .ok (.aload_n 0, 1) := by decide +kernel
theorem dX10_addChapter_68 : decode cX10_addChapter 68 = .ok (.getfield 7, 3) := by decide +kernel
theorem dX10_addChapter_71 : decode cX10_addChapter 71 = .ok (.sipush 362, 3) := by decide +kernel
theorem dX10_addChapter_74 : decode cX10_addChapter 74 = .ok (.iload_n 1, 1) := by decide +kernel
theorem dX10_addChapter_75 : decode cX10_addChapter 75 = .ok (.iadd, 1) := by decide +kernel
theorem dX10_addChapter_76 : decode cX10_addChapter 76 = .ok (.dup2, 1) := by decide +kernel
theorem dX10_addChapter_77 : decode cX10_addChapter 77 = .ok (.iaload, 1) := by decide +kernel
theorem dX10_addChapter_78 : decode cX10_addChapter 78 = .ok (.iconst 1, 1) := by decide +kernel
theorem dX10_addChapter_79 : decode cX10_addChapter 79 = .ok (.iadd, 1) := by decide +kernel
theorem dX10_addChapter_80 : decode cX10_addChapter 80 = .ok (.iastore, 1) := by decide +kernel
theorem dX10_addChapter_81 : decode cX10_addChapter 81 = .ok (.iconst 0, 1) := by decide +kernel
theorem dX10_addChapter_82 : decode cX10_addChapter 82 = .ok (.istore 4, 2) := by decide +kernel
theorem dX10_addChapter_84 : decode cX10_addChapter 84 = .ok (.iload 4, 2) := by decide +kernel
theorem dX10_addChapter_86 : decode cX10_addChapter 86 = .ok (.iload_n 2, 1) := by decide +kernel
theorem dX10_addChapter_87 : decode cX10_addChapter 87 = .ok (.if_icmp .ge 83, 3) := by decide +kernel
theorem dX10_addChapter_90 : decode cX10_addChapter 90 = .ok (.bipush 60, 2) := by decide +kernel
theorem dX10_addChapter_92 : decode cX10_addChapter 92 = .ok (.iload_n 1, 1) := by decide +kernel
theorem dX10_addChapter_93 : decode cX10_addChapter 93 = .ok (.imul, 1) := by decide +kernel
theorem dX10_addChapter_94 : decode cX10_addChapter 94 = .ok (.aload_n 0, 1) := by decide +kernel
theorem dX10_addChapter_95 : decode cX10_addChapter 95 = .ok (.iload_n 1, 1) := by decide +kernel
theorem dX10_addChapter_96 : decode cX10_addChapter 96 = .ok (.invokevirtual 56, 3) := by decide +kernel
theorem dX10_addChapter_99 : decode cX10_addChapter 99 = .ok (.iadd, 1) := by decide +kernel
theorem dX10_addChapter_100 : decode cX10_addChapter 100 = .ok (.istore 5, 2) := by decide +kernel
theorem dX10_addChapter_102 : decode cX10_addChapter 102 = .ok (.aload_n 0, 1) := by decide +kernel
theorem dX10_addChapter_103 : decode cX10_addChapter 103 = .ok (.getfield 7, 3) := by decide +kernel
theorem dX10_addChapter_106 : decode cX10_addChapter 106 = .ok (.iload 5, 2) := by decide +kernel
theorem dX10_addChapter_108 : decode cX10_addChapter 108 = .ok (.iload_n 3, 1) := by decide +kernel
theorem dX10_addChapter_109 : decode cX10_addChapter 109 = .ok (.iastore, 1) := by decide +kernel
theorem dX10_addChapter_110 : decode cX10_addChapter 110 = .ok (.aload_n 0, 1) := by decide +kernel
theorem dX10_addChapter_111 : decode cX10_addChapter 111 = .ok (.getfield 7, 3) := by decide +kernel
theorem dX10_addChapter_114 : decode cX10_addChapter 114 = .ok (.bipush 120, 2) := by decide +kernel
theorem dX10_addChapter_116 : decode cX10_addChapter 116 = .ok (.iload 5, 2) := by decide +kernel
theorem dX10_addChapter_118 : decode cX10_addChapter 118 = .ok (.iadd, 1) := by decide +kernel
theorem dX10_addChapter_119 : decode cX10_addChapter 119 = .ok (.iconst 0, 1) := by decide +kernel
theorem dX10_addChapter_120 : decode cX10_addChapter 120 = .ok (.iastore, 1) := by decide +kernel
theorem dX10_addChapter_121 : decode cX10_addChapter 121 = .ok (.aload_n 0, 1) := by decide +kernel
theorem dX10_addChapter_122 : decode cX10_addChapter 122 = .ok (.getfield 7, 3) := by decide +kernel
theorem dX10_addChapter_125 : decode cX10_addChapter 125 = .ok (.sipush 240, 3) := by decide +kernel
theorem dX10_addChapter_128 : decode cX10_addChapter 128 = .ok (.iload 5, 2) := by decide +kernel
theorem dX10_addChapter_130 : decode cX10_addChapter 130 = .ok (.iadd, 1) := by decide +kernel
theorem dX10_addChapter_131 : decode cX10_addChapter 131 = .ok (.aload_n 0, 1) := by decide +kernel
theorem dX10_addChapter_132 : decode cX10_addChapter 132 = .ok (.getfield 7, 3) := by decide +kernel
theorem dX10_addChapter_135 : decode cX10_addChapter 135 = .ok (.sipush 362, 3) := by decide +kernel
theorem dX10_addChapter_138 : decode cX10_addChapter 138 = .ok (.iload_n 1, 1) := by decide +kernel
theorem dX10_addChapter_139 : decode cX10_addChapter 139 = .ok (.iadd, 1) := by decide +kernel
theorem dX10_addChapter_140 : decode cX10_addChapter 140 = .ok (.iaload, 1) := by decide +kernel
theorem dX10_addChapter_141 : decode cX10_addChapter 141 = .ok (.iastore, 1) := by decide +kernel
theorem dX10_addChapter_142 : decode cX10_addChapter 142 = .ok (.aload_n 0, 1) := by decide +kernel
theorem dX10_addChapter_143 : decode cX10_addChapter 143 = .ok (.getfield 7, 3) := by decide +kernel
theorem dX10_addChapter_146 : decode cX10_addChapter 146 = .ok (.sipush 360, 3) := by decide +kernel
theorem dX10_addChapter_149 : decode cX10_addChapter 149 = .ok (.iload_n 1, 1) := by decide +kernel
theorem dX10_addChapter_150 : decode cX10_addChapter 150 = .ok (.iadd, 1) := by decide +kernel
theorem dX10_addChapter_151 : decode cX10_addChapter 151 = .ok (.dup2, 1) := by decide +kernel
theorem dX10_addChapter_152 : decode cX10_addChapter 152 = .ok (.iaload, 1) := by decide +kernel
theorem dX10_addChapter_153 : decode cX10_addChapter 153 = .ok (.iconst 1, 1) := by decide +kernel
theorem dX10_addChapter_154 : decode cX10_addChapter 154 = .ok (.iadd, 1) := by decide +kernel
theorem dX10_addChapter_155 : decode cX10_addChapter 155 = .ok (.iastore, 1) := by decide +kernel
theorem dX10_addChapter_156 : decode cX10_addChapter 156 = .ok (.aload_n 0, 1) := by decide +kernel
theorem dX10_addChapter_157 : decode cX10_addChapter 157 = .ok (.iconst 1, 1) := by decide +kernel
theorem dX10_addChapter_158 : decode cX10_addChapter 158 = .ok (.iload_n 1, 1) := by decide +kernel
theorem dX10_addChapter_159 : decode cX10_addChapter 159 = .ok (.isub, 1) := by decide +kernel
theorem dX10_addChapter_160 : decode cX10_addChapter 160 = .ok (.iload_n 1, 1) := by decide +kernel
theorem dX10_addChapter_161 : decode cX10_addChapter 161 = .ok (.invokevirtual 70, 3) := by decide +kernel
theorem dX10_addChapter_164 : decode cX10_addChapter 164 = .ok (.iinc 4 1, 3) := by decide +kernel
theorem dX10_addChapter_167 : decode cX10_addChapter 167 = .ok (.goto (-83), 3) := by decide +kernel
theorem dX10_addChapter_170 : decode cX10_addChapter 170 = .ok (.aload_n 0, 1) := by decide +kernel
theorem dX10_addChapter_171 : decode cX10_addChapter 171 = .ok (.getfield 7, 3) := by decide +kernel
theorem dX10_addChapter_174 : decode cX10_addChapter 174 = .ok (.sipush 362, 3) := by decide +kernel
theorem dX10_addChapter_177 : decode cX10_addChapter 177 = .ok (.iload_n 1, 1) := by decide +kernel
theorem dX10_addChapter_178 : decode cX10_addChapter 178 = .ok (.iadd, 1) := by decide +kernel
theorem dX10_addChapter_179 : decode cX10_addChapter 179 = .ok (.iaload, 1) := by decide +kernel
theorem dX10_addChapter_180 : decode cX10_addChapter 180 = .ok (.ireturn, 1) := by decide +kernel
set_option maxRecDepth 20000 in
theorem ggX10_setVerse_X10_noVerse : GoodIn wsX10_setVerse wsX10_noVerse := goodIn_r _ [6, 7, 8, 5, 9, 10, 11, 12, 13, 14, 15, 16, 1, 23, 24, 25, 26, 27, 28, 29, 30, 31, 32, 33, 34, 35, 36, 37, 38, 39, 40, 41, 42, 43, 44, 45] (by decide +kernel) (by decide +kernel)
set_option maxRecDepth 20000 in
theorem gX10_setVerse_X10_noVerse : GoodIn wsX10_setVerse (wsV RX10 74 RX10 yX10_noVerse wsX10_noVerse) := goodIn_app (goodIn_of _ (by decide +kernel)) ggX10_setVerse_X10_noVerse
set_option maxRecDepth 20000 in
theorem ggX10_setVerse_X10_in : GoodIn wsX10_setVerse wsX10_in := goodIn_r _ [12] (by decide +kernel) (by decide +kernel)
set_option maxRecDepth 20000 in
theorem gX10_setVerse_X10_in : GoodIn wsX10_setVerse (va_wsS RX10 48 yX10_in wsX10_in) := goodIn_app (goodIn_of _ (by decide +kernel)) ggX10_setVerse_X10_in
set_option maxRecDepth 20000 in
theorem ggX10_setVerse_X10_record : GoodIn wsX10_setVerse wsX10_record := goodIn_r _ [20, 21, 22, 1, 23, 24, 25, 26, 27, 28, 29, 30, 31, 32, 33, 34, 35, 36, 37, 38, 39, 40, 41, 42, 43, 44, 45] (by decide +kernel) (by decide +kernel)
set_option maxRecDepth 20000 in
theorem gX10_setVerse_X10_record : GoodIn wsX10_setVerse (wsV RX10 67 RX10 yX10_record wsX10_record) := goodIn_app (goodIn_of _ (by decide +kernel)) ggX10_setVerse_X10_record
theorem dX10_setVerse_0 : decode cX10_setVerse 0 = .ok (.aload_n 0, 1) := by decide +kernel
theorem dX10_setVerse_1 : decode cX10_setVerse 1 = .ok (.iload_n 1, 1) := by decide +kernel
theorem dX10_setVerse_2 : decode cX10_setVerse 2 = .ok (.iload_n 2, 1) := by decide +kernel
theorem dX10_setVerse_3 : decode cX10_setVerse 3 = .ok (.invokevirtual 74, 3) := by decide +kernel
theorem dX10_setVerse_6 : decode cX10_setVerse 6 = .ok (.ifCond .eq 5, 3) := by decide +kernel
theorem dX10_setVerse_9 : decode cX10_setVerse 9 = .ok (.iconst (-1), 1) := by decide +kernel
theorem dX10_setVerse_10 : decode cX10_setVerse 10 = .ok (.ireturn, 1) := by decide +kernel
theorem dX10_setVerse_11 : decode cX10_setVerse 11 = .ok (.iload_n 3, 1) := by decide +kernel
theorem dX10_setVerse_12 : decode cX10_setVerse 12 = .ok (.iconst 1, 1) := by decide +kernel
theorem dX10_setVerse_13 : decode cX10_setVerse 13 = .ok (.sipush 2000, 3) := by decide +kernel
theorem dX10_setVerse_16 : decode cX10_setVerse 16 = .ok (.invokestatic 48, 3) := by decide +kernel
theorem dX10_setVerse_19 : decode cX10_setVerse 19 = .ok (.ifCond .eq 14, 3) := by decide +kernel
theorem dX10_setVerse_22 : decode cX10_setVerse 22 = .ok (.iload 4, 2) := by decide +kernel
theorem dX10_setVerse_24 : decode cX10_setVerse 24 = .ok (.iconst 0, 1) := by decide +kernel
theorem dX10_setVerse_25 : decode cX10_setVerse 25 = .ok (.bipush 10, 2) := by decide +kernel
theorem dX10_setVerse_27 : decode cX10_setVerse 27 = .ok (.invokestatic 48, 3) := by decide +kernel
theorem dX10_setVerse_30 : decode cX10_setVerse 30 = .ok (.ifCond .ne 6, 3) := by decide +kernel
theorem dX10_setVerse_33 : decode cX10_setVerse 33 = .ok (.bipush (-2), 2) := by decide +kernel
theorem dX10_setVerse_35 : decode cX10_setVerse 35 = .ok (.ireturn, 1) := by decide +kernel
theorem dX10_setVerse_36 : decode cX10_setVerse 36 = .ok (.aload_n 0, 1) := by decide +kernel
theorem dX10_setVerse_37 : decode cX10_setVerse 37 = .ok (.invokevirtual 67, 3) := by decide +kernel
theorem dX10_setVerse_40 : decode cX10_setVerse 40 = .ok (.bipush 60, 2) := by decide +kernel
theorem dX10_setVerse_42 : decode cX10_setVerse 42 = .ok (.iload_n 1, 1) := by decide +kernel
theorem dX10_setVerse_43 : decode cX10_setVerse 43 = .ok (.imul, 1) := by decide +kernel
theorem dX10_setVerse_44 : decode cX10_setVerse 44 = .ok (.iload_n 2, 1) := by decide +kernel
theorem dX10_setVerse_45 : decode cX10_setVerse 45 = .ok (.iadd, 1) := by decide +kernel
theorem dX10_setVerse_46 : decode cX10_setVerse 46 = .ok (.istore 5, 2) := by decide +kernel
theorem dX10_setVerse_48 : decode cX10_setVerse 48 = .ok (.aload_n 0, 1) := by decide +kernel
theorem dX10_setVerse_49 : decode cX10_setVerse 49 = .ok (.getfield 7, 3) := by decide +kernel
theorem dX10_setVerse_52 : decode cX10_setVerse 52 = .ok (.iload 5, 2) := by decide +kernel
theorem dX10_setVerse_54 : decode cX10_setVerse 54 = .ok (.iaload, 1) := by decide +kernel
theorem dX10_setVerse_55 : decode cX10_setVerse 55 = .ok (.istore 6, 2) := by decide +kernel
theorem dX10_setVerse_57 : decode cX10_setVerse 57 = .ok (.aload_n 0, 1) := by decide +kernel
theorem dX10_setVerse_58 : decode cX10_setVerse 58 = .ok (.getfield 7, 3) := by decide +kernel
theorem dX10_setVerse_61 : decode cX10_setVerse 61 = .ok (.iload 5, 2) := by decide +kernel
theorem dX10_setVerse_63 : decode cX10_setVerse 63 = .ok (.iload_n 3, 1) := by decide +kernel
theorem dX10_setVerse_64 : decode cX10_setVerse 64 = .ok (.iastore, 1) := by decide +kernel
theorem dX10_setVerse_65 : decode cX10_setVerse 65 = .ok (.aload_n 0, 1) := by decide +kernel
theorem dX10_setVerse_66 : decode cX10_setVerse 66 = .ok (.getfield 7, 3) := by decide +kernel
theorem dX10_setVerse_69 : decode cX10_setVerse 69 = .ok (.bipush 120, 2) := by decide +kernel
theorem dX10_setVerse_71 : decode cX10_setVerse 71 = .ok (.iload 5, 2) := by decide +kernel
theorem dX10_setVerse_73 : decode cX10_setVerse 73 = .ok (.iadd, 1) := by decide +kernel
theorem dX10_setVerse_74 : decode cX10_setVerse 74 = .ok (.iload 4, 2) := by decide +kernel
theorem dX10_setVerse_76 : decode cX10_setVerse 76 = .ok (.iastore, 1) := by decide +kernel
theorem dX10_setVerse_77 : decode cX10_setVerse 77 = .ok (.iload 6, 2) := by decide +kernel
theorem dX10_setVerse_79 : decode cX10_setVerse 79 = .ok (.ireturn, 1) := by decide +kernel
set_option maxRecDepth 20000 in
theorem ggX10_firstIn_X10_has : GoodIn wsX10_firstIn wsX10_has := goodIn_r _ [5, 6, 7, 8, 9, 10, 11, 12, 13, 14, 15, 16, 17, 18, 19, 20, 21, 22, 23, 24, 25, 26, 27, 28, 29] (by decide +kernel) (by decide +kernel)
set_option maxRecDepth 20000 in
theorem gX10_firstIn_X10_has : GoodIn wsX10_firstIn (wsV RX10 78 RX10 yX10_has wsX10_has) := goodIn_app (goodIn_of _ (by decide +kernel)) ggX10_firstIn_X10_has
theorem dX10_firstIn_0 : decode cX10_firstIn 0 = .ok (.iconst 0, 1) := by decide +kernel
theorem dX10_firstIn_1 : decode cX10_firstIn 1 = .ok (.istore_n 3, 1) := by decide +kernel
theorem dX10_firstIn_2 : decode cX10_firstIn 2 = .ok (.iconst 0, 1) := by decide +kernel
theorem dX10_firstIn_3 : decode cX10_firstIn 3 = .ok (.istore 4, 2) := by decide +kernel
theorem dX10_firstIn_5 : decode cX10_firstIn 5 = .ok (.iload 4, 2) := by decide +kernel
theorem dX10_firstIn_7 : decode cX10_firstIn 7 = .ok (.iload_n 1, 1) := by decide +kernel
theorem dX10_firstIn_8 : decode cX10_firstIn 8 = .ok (.if_icmp .ge 19, 3) := by decide +kernel
theorem dX10_firstIn_11 : decode cX10_firstIn 11 = .ok (.iload_n 3, 1) := by decide +kernel
theorem dX10_firstIn_12 : decode cX10_firstIn 12 = .ok (.aload_n 0, 1) := by decide +kernel
theorem dX10_firstIn_13 : decode cX10_firstIn 13 = .ok (.iload 4, 2) := by decide +kernel
theorem dX10_firstIn_15 : decode cX10_firstIn 15 = .ok (.iload_n 2, 1) := by decide +kernel
theorem dX10_firstIn_16 : decode cX10_firstIn 16 = .ok (.invokevirtual 78, 3) := by decide +kernel
theorem dX10_firstIn_19 : decode cX10_firstIn 19 = .ok (.iadd, 1) := by decide +kernel
theorem dX10_firstIn_20 : decode cX10_firstIn 20 = .ok (.istore_n 3, 1) := by decide +kernel
theorem dX10_firstIn_21 : decode cX10_firstIn 21 = .ok (.iinc 4 1, 3) := by decide +kernel
theorem dX10_firstIn_24 : decode cX10_firstIn 24 = .ok (.goto (-19), 3) := by decide +kernel
theorem dX10_firstIn_27 : decode cX10_firstIn 27 = .ok (.iload_n 3, 1) := by decide +kernel
theorem dX10_firstIn_28 : decode cX10_firstIn 28 = .ok (.ireturn, 1) := by decide +kernel
set_option maxRecDepth 20000 in
theorem ggX10_groupOf_X10_has : GoodIn wsX10_groupOf wsX10_has := goodIn_r _ [5, 6, 7, 8, 9, 10, 11, 12, 13, 14, 15, 16, 17, 18, 19, 20, 21, 22, 23, 24, 25, 26, 27, 28, 29] (by decide +kernel) (by decide +kernel)
set_option maxRecDepth 20000 in
theorem gX10_groupOf_X10_has : GoodIn wsX10_groupOf (wsV RX10 78 RX10 yX10_has wsX10_has) := goodIn_app (goodIn_of _ (by decide +kernel)) ggX10_groupOf_X10_has
theorem dX10_groupOf_0 : decode cX10_groupOf 0 = .ok (.iconst 0, 1) := by decide +kernel
theorem dX10_groupOf_1 : decode cX10_groupOf 1 = .ok (.istore_n 3, 1) := by decide +kernel
theorem dX10_groupOf_2 : decode cX10_groupOf 2 = .ok (.iload_n 2, 1) := by decide +kernel
theorem dX10_groupOf_3 : decode cX10_groupOf 3 = .ok (.istore 4, 2) := by decide +kernel
theorem dX10_groupOf_5 : decode cX10_groupOf 5 = .ok (.iload 4, 2) := by decide +kernel
theorem dX10_groupOf_7 : decode cX10_groupOf 7 = .ok (.aload_n 0, 1) := by decide +kernel
theorem dX10_groupOf_8 : decode cX10_groupOf 8 = .ok (.iload_n 3, 1) := by decide +kernel
theorem dX10_groupOf_9 : decode cX10_groupOf 9 = .ok (.iload_n 1, 1) := by decide +kernel
theorem dX10_groupOf_10 : decode cX10_groupOf 10 = .ok (.invokevirtual 78, 3) := by decide +kernel
theorem dX10_groupOf_13 : decode cX10_groupOf 13 = .ok (.if_icmp .lt 20, 3) := by decide +kernel
theorem dX10_groupOf_16 : decode cX10_groupOf 16 = .ok (.iload 4, 2) := by decide +kernel
theorem dX10_groupOf_18 : decode cX10_groupOf 18 = .ok (.aload_n 0, 1) := by decide +kernel
theorem dX10_groupOf_19 : decode cX10_groupOf 19 = .ok (.iload_n 3, 1) := by decide +kernel
theorem dX10_groupOf_20 : decode cX10_groupOf 20 = .ok (.iload_n 1, 1) := by decide +kernel
theorem dX10_groupOf_21 : decode cX10_groupOf 21 = .ok (.invokevirtual 78, 3) := by decide +kernel
theorem dX10_groupOf_24 : decode cX10_groupOf 24 = .ok (.isub, 1) := by decide +kernel
theorem dX10_groupOf_25 : decode cX10_groupOf 25 = .ok (.istore 4, 2) := by decide +kernel
theorem dX10_groupOf_27 : decode cX10_groupOf 27 = .ok (.iinc 3 1, 3) := by decide +kernel
theorem dX10_groupOf_30 : decode cX10_groupOf 30 = .ok (.goto (-25), 3) := by decide +kernel
theorem dX10_groupOf_33 : decode cX10_groupOf 33 = .ok (.iload_n 3, 1) := by decide +kernel
theorem dX10_groupOf_34 : decode cX10_groupOf 34 = .ok (.ireturn, 1) := by decide +kernel
set_option maxRecDepth 20000 in
theorem ggX10_joinGroups_X10_groups : GoodIn wsX10_joinGroups wsX10_groups := goodIn_r _ [6, 1, 7, 8, 9, 10, 11, 12, 13, 14, 15, 16, 17, 18, 19, 20, 21, 22, 23, 24, 25, 26, 27, 28, 29] (by decide +kernel) (by decide +kernel)
set_option maxRecDepth 20000 in
theorem gX10_joinGroups_X10_groups : GoodIn wsX10_joinGroups (wsV RX10 60 RX10 yX10_groups wsX10_groups) := goodIn_app (goodIn_of _ (by decide +kernel)) ggX10_joinGroups_X10_groups
theorem dX10_joinGroups_0 : decode cX10_joinGroups 0 = .ok (.iload_n 2, 1) := by decide +kernel
theorem dX10_joinGroups_1 : decode cX10_joinGroups 1 = .ok (.iload_n 1, 1) := by decide +kernel
theorem dX10_joinGroups_2 : decode cX10_joinGroups 2 = .ok (.isub, 1) := by decide +kernel
theorem dX10_joinGroups_3 : decode cX10_joinGroups 3 = .ok (.istore_n 3, 1) := by decide +kernel
theorem dX10_joinGroups_4 : decode cX10_joinGroups 4 = .ok (.iload_n 1, 1) := by decide +kernel
theorem dX10_joinGroups_5 : decode cX10_joinGroups 5 = .ok (.iconst 1, 1) := by decide +kernel
theorem dX10_joinGroups_6 : decode cX10_joinGroups 6 = .ok (.iadd, 1) := by decide +kernel
theorem dX10_joinGroups_7 : decode cX10_joinGroups 7 = .ok (.istore 4, 2) := by decide +kernel
theorem dX10_joinGroups_9 : decode cX10_joinGroups 9 = .ok (.iload 4, 2) := by decide +kernel
theorem dX10_joinGroups_11 : decode cX10_joinGroups 11 = .ok (.iload_n 2, 1) := by decide +kernel
theorem dX10_joinGroups_12 : decode cX10_joinGroups 12 = .ok (.if_icmp .gt 57, 3) := by decide +kernel
theorem dX10_joinGroups_15 : decode cX10_joinGroups 15 = .ok (.aload_n 0, 1) := by decide +kernel
theorem dX10_joinGroups_16 : decode cX10_joinGroups 16 = .ok (.getfield 7, 3) := by decide +kernel
theorem dX10_joinGroups_19 : decode cX10_joinGroups 19 = .ok (.sipush 365, 3) := by decide +kernel
theorem dX10_joinGroups_22 : decode cX10_joinGroups 22 = .ok (.iload_n 1, 1) := by decide +kernel
theorem dX10_joinGroups_23 : decode cX10_joinGroups 23 = .ok (.iadd, 1) := by decide +kernel
theorem dX10_joinGroups_24 : decode cX10_joinGroups 24 = .ok (.dup2, 1) := by decide +kernel
theorem dX10_joinGroups_25 : decode cX10_joinGroups 25 = .ok (.iaload, 1) := by decide +kernel
theorem dX10_joinGroups_26 : decode cX10_joinGroups 26 = .ok (.aload_n 0, 1) := by decide +kernel
theorem dX10_joinGroups_27 : decode cX10_joinGroups 27 = .ok (.getfield 7, 3) := by decide +kernel
theorem dX10_joinGroups_30 : decode cX10_joinGroups 30 = .ok (.sipush 365, 3) := by decide +kernel
theorem dX10_joinGroups_33 : decode cX10_joinGroups 33 = .ok (.iload 4, 2) := by decide +kernel
theorem dX10_joinGroups_35 : decode cX10_joinGroups 35 = .ok (.iadd, 1) := by decide +kernel
theorem dX10_joinGroups_36 : decode cX10_joinGroups 36 = .ok (.iaload, 1) := by decide +kernel
theorem dX10_joinGroups_37 : decode cX10_joinGroups 37 = .ok (.iadd, 1) := by decide +kernel
theorem dX10_joinGroups_38 : decode cX10_joinGroups 38 = .ok (.iastore, 1) := by decide +kernel
theorem dX10_joinGroups_39 : decode cX10_joinGroups 39 = .ok (.aload_n 0, 1) := by decide +kernel
theorem dX10_joinGroups_40 : decode cX10_joinGroups 40 = .ok (.getfield 7, 3) := by decide +kernel
theorem dX10_joinGroups_43 : decode cX10_joinGroups 43 = .ok (.sipush 485, 3) := by decide +kernel
theorem dX10_joinGroups_46 : decode cX10_joinGroups 46 = .ok (.iload_n 1, 1) := by decide +kernel
theorem dX10_joinGroups_47 : decode cX10_joinGroups 47 = .ok (.iadd, 1) := by decide +kernel
theorem dX10_joinGroups_48 : decode cX10_joinGroups 48 = .ok (.dup2, 1) := by decide +kernel
theorem dX10_joinGroups_49 : decode cX10_joinGroups 49 = .ok (.iaload, 1) := by decide +kernel
theorem dX10_joinGroups_50 : decode cX10_joinGroups 50 = .ok (.aload_n 0, 1) := by decide +kernel
theorem dX10_joinGroups_51 : decode cX10_joinGroups 51 = .ok (.getfield 7, 3) := by decide +kernel
theorem dX10_joinGroups_54 : decode cX10_joinGroups 54 = .ok (.sipush 485, 3) := by decide +kernel
theorem dX10_joinGroups_57 : decode cX10_joinGroups 57 = .ok (.iload 4, 2) := by decide +kernel
theorem dX10_joinGroups_59 : decode cX10_joinGroups 59 = .ok (.iadd, 1) := by decide +kernel
theorem dX10_joinGroups_60 : decode cX10_joinGroups 60 = .ok (.iaload, 1) := by decide +kernel
theorem dX10_joinGroups_61 : decode cX10_joinGroups 61 = .ok (.iadd, 1) := by decide +kernel
theorem dX10_joinGroups_62 : decode cX10_joinGroups 62 = .ok (.iastore, 1) := by decide +kernel
theorem dX10_joinGroups_63 : decode cX10_joinGroups 63 = .ok (.iinc 4 1, 3) := by decide +kernel
theorem dX10_joinGroups_66 : decode cX10_joinGroups 66 = .ok (.goto (-57), 3) := by decide +kernel
theorem dX10_joinGroups_69 : decode cX10_joinGroups 69 = .ok (.iload_n 1, 1) := by decide +kernel
theorem dX10_joinGroups_70 : decode cX10_joinGroups 70 = .ok (.iconst 1, 1) := by decide +kernel
theorem dX10_joinGroups_71 : decode cX10_joinGroups 71 = .ok (.iadd, 1) := by decide +kernel
theorem dX10_joinGroups_72 : decode cX10_joinGroups 72 = .ok (.istore 4, 2) := by decide +kernel
theorem dX10_joinGroups_74 : decode cX10_joinGroups 74 = .ok (.iload 4, 2) := by decide +kernel
theorem dX10_joinGroups_76 : decode cX10_joinGroups 76 = .ok (.iload_n 3, 1) := by decide +kernel
theorem dX10_joinGroups_77 : decode cX10_joinGroups 77 = .ok (.iadd, 1) := by decide +kernel
theorem dX10_joinGroups_78 : decode cX10_joinGroups 78 = .ok (.aload_n 0, 1) := by decide +kernel
theorem dX10_joinGroups_79 : decode cX10_joinGroups 79 = .ok (.invokevirtual 60, 3) := by decide +kernel
theorem dX10_joinGroups_82 : decode cX10_joinGroups 82 = .ok (.if_icmp .ge 57, 3) := by decide +kernel
theorem dX10_joinGroups_85 : decode cX10_joinGroups 85 = .ok (.aload_n 0, 1) := by decide +kernel
theorem dX10_joinGroups_86 : decode cX10_joinGroups 86 = .ok (.getfield 7, 3) := by decide +kernel
theorem dX10_joinGroups_89 : decode cX10_joinGroups 89 = .ok (.sipush 365, 3) := by decide +kernel
theorem dX10_joinGroups_92 : decode cX10_joinGroups 92 = .ok (.iload 4, 2) := by decide +kernel
theorem dX10_joinGroups_94 : decode cX10_joinGroups 94 = .ok (.iadd, 1) := by decide +kernel
theorem dX10_joinGroups_95 : decode cX10_joinGroups 95 = .ok (.aload_n 0, 1) := by decide +kernel
theorem dX10_joinGroups_96 : decode cX10_joinGroups 96 = .ok (.getfield 7, 3) := by decide +kernel
theorem dX10_joinGroups_99 : decode cX10_joinGroups 99 = .ok (.sipush 365, 3) := by decide +kernel
theorem dX10_joinGroups_102 : decode cX10_joinGroups 102 = .ok (.iload 4, 2) := by decide +kernel
theorem dX10_joinGroups_104 : decode cX10_joinGroups 104 = .ok (.iadd, 1) := by decide +kernel
theorem dX10_joinGroups_105 : decode cX10_joinGroups 105 = .ok (.iload_n 3, 1) := by decide +kernel
theorem dX10_joinGroups_106 : decode cX10_joinGroups 106 = .ok (.iadd, 1) := by decide +kernel
theorem dX10_joinGroups_107 : decode cX10_joinGroups 107 = .ok (.iaload, 1) := by decide +kernel
theorem dX10_joinGroups_108 : decode cX10_joinGroups 108 = .ok (.iastore, 1) := by decide +kernel
theorem dX10_joinGroups_109 : decode cX10_joinGroups 109 = .ok (.aload_n 0, 1) := by decide +kernel
theorem dX10_joinGroups_110 : decode cX10_joinGroups 110 = .ok (.getfield 7, 3) := by decide +kernel
theorem dX10_joinGroups_113 : decode cX10_joinGroups 113 = .ok (.sipush 485, 3) := by decide +kernel
theorem dX10_joinGroups_116 : decode cX10_joinGroups 116 = .ok (.iload 4, 2) := by decide +kernel
theorem dX10_joinGroups_118 : decode cX10_joinGroups 118 = .ok (.iadd, 1) := by decide +kernel
theorem dX10_joinGroups_119 : decode cX10_joinGroups 119 = .ok (.aload_n 0, 1) := by decide +kernel
theorem dX10_joinGroups_120 : decode cX10_joinGroups 120 = .ok (.getfield 7, 3) := by decide +kernel
theorem dX10_joinGroups_123 : decode cX10_joinGroups 123 = .ok (.sipush 485, 3) := by decide +kernel
theorem dX10_joinGroups_126 : decode cX10_joinGroups 126 = .ok (.iload 4, 2) := by decide +kernel
theorem dX10_joinGroups_128 : decode cX10_joinGroups 128 = .ok (.iadd, 1) := by decide +kernel
theorem dX10_joinGroups_129 : decode cX10_joinGroups 129 = .ok (.iload_n 3, 1) := by decide +kernel
theorem dX10_joinGroups_130 : decode cX10_joinGroups 130 = .ok (.iadd, 1) := by decide +kernel
theorem dX10_joinGroups_131 : decode cX10_joinGroups 131 = .ok (.iaload, 1) := by decide +kernel
theorem dX10_joinGroups_132 : decode cX10_joinGroups 132 = .ok (.iastore, 1) := by decide +kernel
theorem dX10_joinGroups_133 : decode cX10_joinGroups 133 = .ok (.iinc 4 1, 3) := by decide +kernel
theorem dX10_joinGroups_136 : decode cX10_joinGroups 136 = .ok (.goto (-62), 3) := by decide +kernel
theorem dX10_joinGroups_139 : decode cX10_joinGroups 139 = .ok (.aload_n 0, 1) := by decide +kernel
theorem dX10_joinGroups_140 : decode cX10_joinGroups 140 = .ok (.getfield 7, 3) := by decide +kernel
theorem dX10_joinGroups_143 : decode cX10_joinGroups 143 = .ok (.sipush 364, 3) := by decide +kernel
theorem dX10_joinGroups_146 : decode cX10_joinGroups 146 = .ok (.dup2, 1) := by decide +kernel
theorem dX10_joinGroups_147 : decode cX10_joinGroups 147 = .ok (.iaload, 1) := by decide +kernel
theorem dX10_joinGroups_148 : decode cX10_joinGroups 148 = .ok (.iload_n 3, 1) := by decide +kernel
theorem dX10_joinGroups_149 : decode cX10_joinGroups 149 = .ok (.isub, 1) := by decide +kernel
theorem dX10_joinGroups_150 : decode cX10_joinGroups 150 = .ok (.iastore, 1) := by decide +kernel
theorem dX10_joinGroups_151 : decode cX10_joinGroups 151 = .ok (.return_, 1) := by decide +kernel
theorem dX10_chapterOf_0 : decode cX10_chapterOf 0 = .ok (.aload_n 0, 1) := by decide +kernel
theorem dX10_chapterOf_1 : decode cX10_chapterOf 1 = .ok (.getfield 7, 3) := by decide +kernel
theorem dX10_chapterOf_4 : decode cX10_chapterOf 4 = .ok (.sipush 240, 3) := by decide +kernel
theorem dX10_chapterOf_7 : decode cX10_chapterOf 7 = .ok (.bipush 60, 2) := by decide +kernel
theorem dX10_chapterOf_9 : decode cX10_chapterOf 9 = .ok (.iload_n 1, 1) := by decide +kernel
theorem dX10_chapterOf_10 : decode cX10_chapterOf 10 = .ok (.imul, 1) := by decide +kernel
theorem dX10_chapterOf_11 : decode cX10_chapterOf 11 = .ok (.iadd, 1) := by decide +kernel
theorem dX10_chapterOf_12 : decode cX10_chapterOf 12 = .ok (.iload_n 2, 1) := by decide +kernel
theorem dX10_chapterOf_13 : decode cX10_chapterOf 13 = .ok (.iadd, 1) := by decide +kernel
theorem dX10_chapterOf_14 : decode cX10_chapterOf 14 = .ok (.iaload, 1) := by decide +kernel
theorem dX10_chapterOf_15 : decode cX10_chapterOf 15 = .ok (.ireturn, 1) := by decide +kernel
set_option maxRecDepth 20000 in
theorem ggX10_joinVerses_X10_noVerse : GoodIn wsX10_joinVerses wsX10_noVerse := goodIn_r _ [6, 7, 8, 5, 9, 10, 11, 12, 13, 14, 15, 16, 1, 47, 48, 49, 50, 51, 52, 53, 54, 55, 56, 57, 58, 59, 60, 61, 62, 63, 64, 65, 66, 67, 68, 69] (by decide +kernel) (by decide +kernel)
set_option maxRecDepth 20000 in
theorem gX10_joinVerses_X10_noVerse : GoodIn wsX10_joinVerses (wsV RX10 74 RX10 yX10_noVerse wsX10_noVerse) := goodIn_app (goodIn_of _ (by decide +kernel)) ggX10_joinVerses_X10_noVerse
set_option maxRecDepth 20000 in
theorem ggX10_joinVerses_X10_size : GoodIn wsX10_joinVerses wsX10_size := goodIn_r _ [16, 1, 47, 48, 49, 50, 51, 52, 53, 54, 55, 56, 57, 58, 59, 60, 61, 62, 63, 64, 65, 66, 67, 68, 69] (by decide +kernel) (by decide +kernel)
set_option maxRecDepth 20000 in
theorem gX10_joinVerses_X10_size : GoodIn wsX10_joinVerses (wsV RX10 56 RX10 yX10_size wsX10_size) := goodIn_app (goodIn_of _ (by decide +kernel)) ggX10_joinVerses_X10_size
set_option maxRecDepth 20000 in
theorem ggX10_joinVerses_X10_chapterOf : GoodIn wsX10_joinVerses wsX10_chapterOf := goodIn_r _ [20, 1, 47, 48, 49, 50, 51, 52, 53, 54, 55, 56, 57, 58, 59, 60, 61, 62, 63, 64, 65, 66, 67, 68, 69] (by decide +kernel) (by decide +kernel)
set_option maxRecDepth 20000 in
theorem gX10_joinVerses_X10_chapterOf : GoodIn wsX10_joinVerses (wsV RX10 82 RX10 yX10_chapterOf wsX10_chapterOf) := goodIn_app (goodIn_of _ (by decide +kernel)) ggX10_joinVerses_X10_chapterOf
set_option maxRecDepth 20000 in
theorem ggX10_joinVerses_X10_record : GoodIn wsX10_joinVerses wsX10_record := goodIn_r _ [24, 25, 26, 1, 47, 48, 49, 50, 51, 52, 53, 54, 55, 56, 57, 58, 59, 60, 61, 62, 63, 64, 65, 66, 67, 68, 69] (by decide +kernel) (by decide +kernel)
set_option maxRecDepth 20000 in
theorem gX10_joinVerses_X10_record : GoodIn wsX10_joinVerses (wsV RX10 67 RX10 yX10_record wsX10_record) := goodIn_app (goodIn_of _ (by decide +kernel)) ggX10_joinVerses_X10_record
set_option maxRecDepth 20000 in
theorem ggX10_joinVerses_X10_groupOf : GoodIn wsX10_joinVerses wsX10_groupOf := goodIn_r _ [30, 31, 32, 33, 5, 34, 1, 47, 48, 49, 50, 51, 52, 53, 54, 55, 56, 57, 58, 59, 60, 61, 62, 63, 64, 65, 66, 67, 68, 69] (by decide +kernel) (by decide +kernel)
set_option maxRecDepth 20000 in
theorem gX10_joinVerses_X10_groupOf : GoodIn wsX10_joinVerses (wsV RX10 85 RX10 yX10_groupOf wsX10_groupOf) := goodIn_app (goodIn_of _ (by decide +kernel)) ggX10_joinVerses_X10_groupOf
set_option maxRecDepth 20000 in
theorem ggX10_joinVerses_X10_joinGroups : GoodIn wsX10_joinVerses wsX10_joinGroups := goodIn_r _ [38, 1, 39, 40, 41, 5, 42, 47, 48, 49, 50, 51, 52, 53, 54, 55, 56, 57, 58, 59, 60, 61, 62, 63, 64, 65, 66, 67, 68, 69] (by decide +kernel) (by decide +kernel)
set_option maxRecDepth 20000 in
theorem gX10_joinVerses_X10_joinGroups : GoodIn wsX10_joinVerses (wsV RX10 88 RX10 yX10_joinGroups wsX10_joinGroups) := goodIn_app (goodIn_of _ (by decide +kernel)) ggX10_joinVerses_X10_joinGroups
set_option maxRecDepth 20000 in
theorem ggX10_joinVerses_X10_copyVerse : GoodIn wsX10_joinVerses wsX10_copyVerse := goodIn_r _ [46, 1, 47, 48, 49, 50, 51, 52, 53, 54, 55, 56, 57, 58, 59, 60, 61, 62, 63, 64, 65, 66, 67, 68, 69] (by decide +kernel) (by decide +kernel)
set_option maxRecDepth 20000 in
theorem gX10_joinVerses_X10_copyVerse : GoodIn wsX10_joinVerses (wsV RX10 91 RX10 yX10_copyVerse wsX10_copyVerse) := goodIn_app (goodIn_of _ (by decide +kernel)) ggX10_joinVerses_X10_copyVerse
theorem dX10_joinVerses_0 : decode cX10_joinVerses 0 = .ok (.aload_n 0, 1) := by decide +kernel
theorem dX10_joinVerses_1 : decode cX10_joinVerses 1 = .ok (.iload_n 1, 1) := by decide +kernel
theorem dX10_joinVerses_2 : decode cX10_joinVerses 2 = .ok (.iload_n 2, 1) := by decide +kernel
theorem dX10_joinVerses_3 : decode cX10_joinVerses 3 = .ok (.invokevirtual 74, 3) := by decide +kernel
theorem dX10_joinVerses_6 : decode cX10_joinVerses 6 = .ok (.ifCond .eq 5, 3) := by decide +kernel
theorem dX10_joinVerses_9 : decode cX10_joinVerses 9 = .ok (.iconst (-1), 1) := by decide +kernel
theorem dX10_joinVerses_10 : decode cX10_joinVerses 10 = .ok (.ireturn, 1) := by decide +kernel
theorem dX10_joinVerses_11 : decode cX10_joinVerses 11 = .ok (.iload_n 2, 1) := by decide +kernel
theorem dX10_joinVerses_12 : decode cX10_joinVerses 12 = .ok (.iconst 1, 1) := by decide +kernel
theorem dX10_joinVerses_13 : decode cX10_joinVerses 13 = .ok (.iadd, 1) := by decide +kernel
theorem dX10_joinVerses_14 : decode cX10_joinVerses 14 = .ok (.aload_n 0, 1) := by decide +kernel
theorem dX10_joinVerses_15 : decode cX10_joinVerses 15 = .ok (.iload_n 1, 1) := by decide +kernel
theorem dX10_joinVerses_16 : decode cX10_joinVerses 16 = .ok (.invokevirtual 56, 3) := by decide +kernel
theorem dX10_joinVerses_19 : decode cX10_joinVerses 19 = .ok (.if_icmp .eq 20, 3) := by decide +kernel
theorem dX10_joinVerses_22 : decode cX10_joinVerses 22 = .ok (.aload_n 0, 1) := by decide +kernel
theorem dX10_joinVerses_23 : decode cX10_joinVerses 23 = .ok (.iload_n 1, 1) := by decide +kernel
theorem dX10_joinVerses_24 : decode cX10_joinVerses 24 = .ok (.iload_n 2, 1) := by decide +kernel
theorem dX10_joinVerses_25 : decode cX10_joinVerses 25 = .ok (.invokevirtual 82, 3) := by decide +kernel
theorem dX10_joinVerses_28 : decode cX10_joinVerses 28 = .ok (.aload_n 0, 1) := by decide +kernel
theorem dX10_joinVerses_29 : decode cX10_joinVerses 29 = .ok (.iload_n 1, 1) := by decide +kernel
theorem dX10_joinVerses_30 : decode cX10_joinVerses 30 = .ok (.iload_n 2, 1) := by decide +kernel
theorem dX10_joinVerses_31 : decode cX10_joinVerses 31 = .ok (.iconst 1, 1) := by decide +kernel
theorem dX10_joinVerses_32 : decode cX10_joinVerses 32 = .ok (.iadd, 1) := by decide +kernel
theorem dX10_joinVerses_33 : decode cX10_joinVerses 33 = .ok (.invokevirtual 82, 3) := by decide +kernel
theorem dX10_joinVerses_36 : decode cX10_joinVerses 36 = .ok (.if_icmp .eq 6, 3) := by decide +kernel
theorem dX10_joinVerses_39 : decode cX10_joinVerses 39 = .ok (.bipush (-4), 2) := by decide +kernel
theorem dX10_joinVerses_41 : decode cX10_joinVerses 41 = .ok (.ireturn, 1) := by decide +kernel
theorem dX10_joinVerses_42 : decode cX10_joinVerses 42 = .ok (.aload_n 0, 1) := by decide +kernel
theorem dX10_joinVerses_43 : decode cX10_joinVerses 43 = .ok (.invokevirtual 67, 3) := by decide +kernel
theorem dX10_joinVerses_46 : decode cX10_joinVerses 46 = .ok (.aload_n 0, 1) := by decide +kernel
theorem dX10_joinVerses_47 : decode cX10_joinVerses 47 = .ok (.iload_n 1, 1) := by decide +kernel
theorem dX10_joinVerses_48 : decode cX10_joinVerses 48 = .ok (.iload_n 2, 1) := by decide +kernel
theorem dX10_joinVerses_49 : decode cX10_joinVerses 49 = .ok (.invokevirtual 85, 3) := by decide +kernel
theorem dX10_joinVerses_52 : decode cX10_joinVerses 52 = .ok (.istore_n 3, 1) := by decide +kernel
theorem dX10_joinVerses_53 : decode cX10_joinVerses 53 = .ok (.aload_n 0, 1) := by decide +kernel
theorem dX10_joinVerses_54 : decode cX10_joinVerses 54 = .ok (.iload_n 3, 1) := by decide +kernel
theorem dX10_joinVerses_55 : decode cX10_joinVerses 55 = .ok (.aload_n 0, 1) := by decide +kernel
theorem dX10_joinVerses_56 : decode cX10_joinVerses 56 = .ok (.iload_n 1, 1) := by decide +kernel
theorem dX10_joinVerses_57 : decode cX10_joinVerses 57 = .ok (.iload_n 2, 1) := by decide +kernel
theorem dX10_joinVerses_58 : decode cX10_joinVerses 58 = .ok (.iconst 1, 1) := by decide +kernel
theorem dX10_joinVerses_59 : decode cX10_joinVerses 59 = .ok (.iadd, 1) := by decide +kernel
theorem dX10_joinVerses_60 : decode cX10_joinVerses 60 = .ok (.invokevirtual 85, 3) := by decide +kernel
theorem dX10_joinVerses_63 : decode cX10_joinVerses 63 = .ok (.invokevirtual 88, 3) := by decide +kernel
theorem dX10_joinVerses_66 : decode cX10_joinVerses 66 = .ok (.bipush 60, 2) := by decide +kernel
theorem dX10_joinVerses_68 : decode cX10_joinVerses 68 = .ok (.iload_n 1, 1) := by decide +kernel
theorem dX10_joinVerses_69 : decode cX10_joinVerses 69 = .ok (.imul, 1) := by decide +kernel
theorem dX10_joinVerses_70 : decode cX10_joinVerses 70 = .ok (.iload_n 2, 1) := by decide +kernel
theorem dX10_joinVerses_71 : decode cX10_joinVerses 71 = .ok (.iadd, 1) := by decide +kernel
theorem dX10_joinVerses_72 : decode cX10_joinVerses 72 = .ok (.istore 4, 2) := by decide +kernel
theorem dX10_joinVerses_74 : decode cX10_joinVerses 74 = .ok (.aload_n 0, 1) := by decide +kernel
theorem dX10_joinVerses_75 : decode cX10_joinVerses 75 = .ok (.getfield 7, 3) := by decide +kernel
theorem dX10_joinVerses_78 : decode cX10_joinVerses 78 = .ok (.iload 4, 2) := by decide +kernel
theorem dX10_joinVerses_80 : decode cX10_joinVerses 80 = .ok (.iaload, 1) := by decide +kernel
theorem dX10_joinVerses_81 : decode cX10_joinVerses 81 = .ok (.aload_n 0, 1) := by decide +kernel
theorem dX10_joinVerses_82 : decode cX10_joinVerses 82 = .ok (.getfield 7, 3) := by decide +kernel
theorem dX10_joinVerses_85 : decode cX10_joinVerses 85 = .ok (.iload 4, 2) := by decide +kernel
theorem dX10_joinVerses_87 : decode cX10_joinVerses 87 = .ok (.iconst 1, 1) := by decide +kernel
theorem dX10_joinVerses_88 : decode cX10_joinVerses 88 = .ok (.iadd, 1) := by decide +kernel
theorem dX10_joinVerses_89 : decode cX10_joinVerses 89 = .ok (.iaload, 1) := by decide +kernel
theorem dX10_joinVerses_90 : decode cX10_joinVerses 90 = .ok (.iadd, 1) := by decide +kernel
theorem dX10_joinVerses_91 : decode cX10_joinVerses 91 = .ok (.istore 5, 2) := by decide +kernel
theorem dX10_joinVerses_93 : decode cX10_joinVerses 93 = .ok (.aload_n 0, 1) := by decide +kernel
theorem dX10_joinVerses_94 : decode cX10_joinVerses 94 = .ok (.getfield 7, 3) := by decide +kernel
theorem dX10_joinVerses_97 : decode cX10_joinVerses 97 = .ok (.bipush 120, 2) := by decide +kernel
theorem dX10_joinVerses_99 : decode cX10_joinVerses 99 = .ok (.iload 4, 2) := by decide +kernel
theorem dX10_joinVerses_101 : decode cX10_joinVerses 101 = .ok (.iadd, 1) := by decide +kernel
theorem dX10_joinVerses_102 : decode cX10_joinVerses 102 = .ok (.iaload, 1) := by decide +kernel
theorem dX10_joinVerses_103 : decode cX10_joinVerses 103 = .ok (.aload_n 0, 1) := by decide +kernel
theorem dX10_joinVerses_104 : decode cX10_joinVerses 104 = .ok (.getfield 7, 3) := by decide +kernel
theorem dX10_joinVerses_107 : decode cX10_joinVerses 107 = .ok (.bipush 120, 2) := by decide +kernel
theorem dX10_joinVerses_109 : decode cX10_joinVerses 109 = .ok (.iload 4, 2) := by decide +kernel
theorem dX10_joinVerses_111 : decode cX10_joinVerses 111 = .ok (.iadd, 1) := by decide +kernel
theorem dX10_joinVerses_112 : decode cX10_joinVerses 112 = .ok (.iconst 1, 1) := by decide +kernel
theorem dX10_joinVerses_113 : decode cX10_joinVerses 113 = .ok (.iadd, 1) := by decide +kernel
theorem dX10_joinVerses_114 : decode cX10_joinVerses 114 = .ok (.iaload, 1) := by decide +kernel
theorem dX10_joinVerses_115 : decode cX10_joinVerses 115 = .ok (.iadd, 1) := by decide +kernel
theorem dX10_joinVerses_116 : decode cX10_joinVerses 116 = .ok (.istore 6, 2) := by decide +kernel
theorem dX10_joinVerses_118 : decode cX10_joinVerses 118 = .ok (.aload_n 0, 1) := by decide +kernel
theorem dX10_joinVerses_119 : decode cX10_joinVerses 119 = .ok (.getfield 7, 3) := by decide +kernel
theorem dX10_joinVerses_122 : decode cX10_joinVerses 122 = .ok (.iload 4, 2) := by decide +kernel
theorem dX10_joinVerses_124 : decode cX10_joinVerses 124 = .ok (.iload 5, 2) := by decide +kernel
theorem dX10_joinVerses_126 : decode cX10_joinVerses 126 = .ok (.sipush 2000, 3) := by decide +kernel
theorem dX10_joinVerses_129 : decode cX10_joinVerses 129 = .ok (.if_icmp .le 9, 3) := by decide +kernel
theorem dX10_joinVerses_132 : decode cX10_joinVerses 132 = .ok (.sipush 2000, 3) := by decide +kernel
theorem dX10_joinVerses_135 : decode cX10_joinVerses 135 = .ok (.goto 5, 3) := by decide +kernel
theorem dX10_joinVerses_138 : decode cX10_joinVerses 138 = .ok (.iload 5, 2) := by decide +kernel
theorem dX10_joinVerses_140 : decode cX10_joinVerses 140 = .ok (.iastore, 1) := by decide +kernel
theorem dX10_joinVerses_141 : decode cX10_joinVerses 141 = .ok (.aload_n 0, 1) := by decide +kernel
theorem dX10_joinVerses_142 : decode cX10_joinVerses 142 = .ok (.getfield 7, 3) := by decide +kernel
theorem dX10_joinVerses_145 : decode cX10_joinVerses 145 = .ok (.bipush 120, 2) := by decide +kernel
theorem dX10_joinVerses_147 : decode cX10_joinVerses 147 = .ok (.iload 4, 2) := by decide +kernel
theorem dX10_joinVerses_149 : decode cX10_joinVerses 149 = .ok (.iadd, 1) := by decide +kernel
theorem dX10_joinVerses_150 : decode cX10_joinVerses 150 = .ok (.iload 6, 2) := by decide +kernel
theorem dX10_joinVerses_152 : decode cX10_joinVerses 152 = .ok (.bipush 10, 2) := by decide +kernel
theorem dX10_joinVerses_154 : decode cX10_joinVerses 154 = .ok (.if_icmp .le 8, 3) := by decide +kernel
theorem dX10_joinVerses_157 : decode cX10_joinVerses 157 = .ok (.bipush 10, 2) := by decide +kernel
theorem dX10_joinVerses_159 : decode cX10_joinVerses 159 = .ok (.goto 5, 3) := by decide +kernel
theorem dX10_joinVerses_162 : decode cX10_joinVerses 162 = .ok (.iload 6, 2) := by decide +kernel
theorem dX10_joinVerses_164 : decode cX10_joinVerses 164 = .ok (.iastore, 1) := by decide +kernel
theorem dX10_joinVerses_165 : decode cX10_joinVerses 165 = .ok (.aload_n 0, 1) := by decide +kernel
theorem dX10_joinVerses_166 : decode cX10_joinVerses 166 = .ok (.getfield 7, 3) := by decide +kernel
theorem dX10_joinVerses_169 : decode cX10_joinVerses 169 = .ok (.iload_n 1, 1) := by decide +kernel
theorem dX10_joinVerses_170 : decode cX10_joinVerses 170 = .ok (.ifCond .ne 9, 3) := by decide +kernel
theorem dX10_joinVerses_173 : decode cX10_joinVerses 173 = .ok (.sipush 365, 3) := by decide +kernel
theorem dX10_joinVerses_176 : decode cX10_joinVerses 176 = .ok (.goto 6, 3) := by decide +kernel
theorem dX10_joinVerses_179 : decode cX10_joinVerses 179 = .ok (.sipush 485, 3) := by decide +kernel
theorem dX10_joinVerses_182 : decode cX10_joinVerses 182 = .ok (.iload_n 3, 1) := by decide +kernel
theorem dX10_joinVerses_183 : decode cX10_joinVerses 183 = .ok (.iadd, 1) := by decide +kernel
theorem dX10_joinVerses_184 : decode cX10_joinVerses 184 = .ok (.dup2, 1) := by decide +kernel
theorem dX10_joinVerses_185 : decode cX10_joinVerses 185 = .ok (.iaload, 1) := by decide +kernel
theorem dX10_joinVerses_186 : decode cX10_joinVerses 186 = .ok (.iconst 1, 1) := by decide +kernel
theorem dX10_joinVerses_187 : decode cX10_joinVerses 187 = .ok (.isub, 1) := by decide +kernel
theorem dX10_joinVerses_188 : decode cX10_joinVerses 188 = .ok (.iastore, 1) := by decide +kernel
theorem dX10_joinVerses_189 : decode cX10_joinVerses 189 = .ok (.aload_n 0, 1) := by decide +kernel
theorem dX10_joinVerses_190 : decode cX10_joinVerses 190 = .ok (.getfield 7, 3) := by decide +kernel
theorem dX10_joinVerses_193 : decode cX10_joinVerses 193 = .ok (.sipush 360, 3) := by decide +kernel
theorem dX10_joinVerses_196 : decode cX10_joinVerses 196 = .ok (.iload_n 1, 1) := by decide +kernel
theorem dX10_joinVerses_197 : decode cX10_joinVerses 197 = .ok (.iadd, 1) := by decide +kernel
theorem dX10_joinVerses_198 : decode cX10_joinVerses 198 = .ok (.dup2, 1) := by decide +kernel
theorem dX10_joinVerses_199 : decode cX10_joinVerses 199 = .ok (.iaload, 1) := by decide +kernel
theorem dX10_joinVerses_200 : decode cX10_joinVerses 200 = .ok (.iconst 1, 1) := by decide +kernel
theorem dX10_joinVerses_201 : decode cX10_joinVerses 201 = .ok (.isub, 1) := by decide +kernel
theorem dX10_joinVerses_202 : decode cX10_joinVerses 202 = .ok (.iastore, 1) := by decide +kernel
theorem dX10_joinVerses_203 : decode cX10_joinVerses 203 = .ok (.iload_n 2, 1) := by decide +kernel
theorem dX10_joinVerses_204 : decode cX10_joinVerses 204 = .ok (.iconst 1, 1) := by decide +kernel
theorem dX10_joinVerses_205 : decode cX10_joinVerses 205 = .ok (.iadd, 1) := by decide +kernel
theorem dX10_joinVerses_206 : decode cX10_joinVerses 206 = .ok (.istore 7, 2) := by decide +kernel
theorem dX10_joinVerses_208 : decode cX10_joinVerses 208 = .ok (.iload 7, 2) := by decide +kernel
theorem dX10_joinVerses_210 : decode cX10_joinVerses 210 = .ok (.aload_n 0, 1) := by decide +kernel
theorem dX10_joinVerses_211 : decode cX10_joinVerses 211 = .ok (.iload_n 1, 1) := by decide +kernel
theorem dX10_joinVerses_212 : decode cX10_joinVerses 212 = .ok (.invokevirtual 56, 3) := by decide +kernel
theorem dX10_joinVerses_215 : decode cX10_joinVerses 215 = .ok (.if_icmp .ge 29, 3) := by decide +kernel
theorem dX10_joinVerses_218 : decode cX10_joinVerses 218 = .ok (.aload_n 0, 1) := by decide +kernel
theorem dX10_joinVerses_219 : decode cX10_joinVerses 219 = .ok (.bipush 60, 2) := by decide +kernel
theorem dX10_joinVerses_221 : decode cX10_joinVerses 221 = .ok (.iload_n 1, 1) := by decide +kernel
theorem dX10_joinVerses_222 : decode cX10_joinVerses 222 = .ok (.imul, 1) := by decide +kernel
theorem dX10_joinVerses_223 : decode cX10_joinVerses 223 = .ok (.iload 7, 2) := by decide +kernel
theorem dX10_joinVerses_225 : decode cX10_joinVerses 225 = .ok (.iadd, 1) := by decide +kernel
theorem dX10_joinVerses_226 : decode cX10_joinVerses 226 = .ok (.iconst 1, 1) := by decide +kernel
theorem dX10_joinVerses_227 : decode cX10_joinVerses 227 = .ok (.iadd, 1) := by decide +kernel
theorem dX10_joinVerses_228 : decode cX10_joinVerses 228 = .ok (.bipush 60, 2) := by decide +kernel
theorem dX10_joinVerses_230 : decode cX10_joinVerses 230 = .ok (.iload_n 1, 1) := by decide +kernel
theorem dX10_joinVerses_231 : decode cX10_joinVerses 231 = .ok (.imul, 1) := by decide +kernel
theorem dX10_joinVerses_232 : decode cX10_joinVerses 232 = .ok (.iload 7, 2) := by decide +kernel
theorem dX10_joinVerses_234 : decode cX10_joinVerses 234 = .ok (.iadd, 1) := by decide +kernel
theorem dX10_joinVerses_235 : decode cX10_joinVerses 235 = .ok (.invokevirtual 91, 3) := by decide +kernel
theorem dX10_joinVerses_238 : decode cX10_joinVerses 238 = .ok (.iinc 7 1, 3) := by decide +kernel
theorem dX10_joinVerses_241 : decode cX10_joinVerses 241 = .ok (.goto (-33), 3) := by decide +kernel
theorem dX10_joinVerses_244 : decode cX10_joinVerses 244 = .ok (.aload_n 0, 1) := by decide +kernel
theorem dX10_joinVerses_245 : decode cX10_joinVerses 245 = .ok (.iload_n 1, 1) := by decide +kernel
theorem dX10_joinVerses_246 : decode cX10_joinVerses 246 = .ok (.invokevirtual 56, 3) := by decide +kernel
theorem dX10_joinVerses_249 : decode cX10_joinVerses 249 = .ok (.ireturn, 1) := by decide +kernel
theorem dX10_copyVerse_0 : decode cX10_copyVerse 0 = .ok (.aload_n 0, 1) := by decide +kernel
theorem dX10_copyVerse_1 : decode cX10_copyVerse 1 = .ok (.getfield 7, 3) := by decide +kernel
theorem dX10_copyVerse_4 : decode cX10_copyVerse 4 = .ok (.iload_n 2, 1) := by decide +kernel
theorem dX10_copyVerse_5 : decode cX10_copyVerse 5 = .ok (.aload_n 0, 1) := by decide +kernel
theorem dX10_copyVerse_6 : decode cX10_copyVerse 6 = .ok (.getfield 7, 3) := by decide +kernel
theorem dX10_copyVerse_9 : decode cX10_copyVerse 9 = .ok (.iload_n 1, 1) := by decide +kernel
theorem dX10_copyVerse_10 : decode cX10_copyVerse 10 = .ok (.iaload, 1) := by decide +kernel
theorem dX10_copyVerse_11 : decode cX10_copyVerse 11 = .ok (.iastore, 1) := by decide +kernel
theorem dX10_copyVerse_12 : decode cX10_copyVerse 12 = .ok (.aload_n 0, 1) := by decide +kernel
theorem dX10_copyVerse_13 : decode cX10_copyVerse 13 = .ok (.getfield 7, 3) := by decide +kernel
theorem dX10_copyVerse_16 : decode cX10_copyVerse 16 = .ok (.bipush 120, 2) := by decide +kernel
theorem dX10_copyVerse_18 : decode cX10_copyVerse 18 = .ok (.iload_n 2, 1) := by decide +kernel
theorem dX10_copyVerse_19 : decode cX10_copyVerse 19 = .ok (.iadd, 1) := by decide +kernel
theorem dX10_copyVerse_20 : decode cX10_copyVerse 20 = .ok (.aload_n 0, 1) := by decide +kernel
theorem dX10_copyVerse_21 : decode cX10_copyVerse 21 = .ok (.getfield 7, 3) := by decide +kernel
theorem dX10_copyVerse_24 : decode cX10_copyVerse 24 = .ok (.bipush 120, 2) := by decide +kernel
theorem dX10_copyVerse_26 : decode cX10_copyVerse 26 = .ok (.iload_n 1, 1) := by decide +kernel
theorem dX10_copyVerse_27 : decode cX10_copyVerse 27 = .ok (.iadd, 1) := by decide +kernel
theorem dX10_copyVerse_28 : decode cX10_copyVerse 28 = .ok (.iaload, 1) := by decide +kernel
theorem dX10_copyVerse_29 : decode cX10_copyVerse 29 = .ok (.iastore, 1) := by decide +kernel
theorem dX10_copyVerse_30 : decode cX10_copyVerse 30 = .ok (.aload_n 0, 1) := by decide +kernel
theorem dX10_copyVerse_31 : decode cX10_copyVerse 31 = .ok (.getfield 7, 3) := by decide +kernel
theorem dX10_copyVerse_34 : decode cX10_copyVerse 34 = .ok (.sipush 240, 3) := by decide +kernel
theorem dX10_copyVerse_37 : decode cX10_copyVerse 37 = .ok (.iload_n 2, 1) := by decide +kernel
theorem dX10_copyVerse_38 : decode cX10_copyVerse 38 = .ok (.iadd, 1) := by decide +kernel
theorem dX10_copyVerse_39 : decode cX10_copyVerse 39 = .ok (.aload_n 0, 1) := by decide +kernel
theorem dX10_copyVerse_40 : decode cX10_copyVerse 40 = .ok (.getfield 7, 3) := by decide +kernel
theorem dX10_copyVerse_43 : decode cX10_copyVerse 43 = .ok (.sipush 240, 3) := by decide +kernel
theorem dX10_copyVerse_46 : decode cX10_copyVerse 46 = .ok (.iload_n 1, 1) := by decide +kernel
theorem dX10_copyVerse_47 : decode cX10_copyVerse 47 = .ok (.iadd, 1) := by decide +kernel
theorem dX10_copyVerse_48 : decode cX10_copyVerse 48 = .ok (.iaload, 1) := by decide +kernel
theorem dX10_copyVerse_49 : decode cX10_copyVerse 49 = .ok (.iastore, 1) := by decide +kernel
theorem dX10_copyVerse_50 : decode cX10_copyVerse 50 = .ok (.return_, 1) := by decide +kernel
set_option maxRecDepth 20000 in
theorem ggX10_splitVerse_X10_noVerse : GoodIn wsX10_splitVerse wsX10_noVerse := goodIn_r _ [6, 7, 8, 5, 9, 10, 11, 12, 13, 14, 15, 16, 1, 35, 36, 37, 38, 39, 40, 41, 42, 43, 44, 45, 46, 47, 48, 49, 50, 51, 52, 53, 54, 55, 56, 57] (by decide +kernel) (by decide +kernel)
set_option maxRecDepth 20000 in
theorem gX10_splitVerse_X10_noVerse : GoodIn wsX10_splitVerse (wsV RX10 74 RX10 yX10_noVerse wsX10_noVerse) := goodIn_app (goodIn_of _ (by decide +kernel)) ggX10_splitVerse_X10_noVerse
set_option maxRecDepth 20000 in
theorem ggX10_splitVerse_X10_in : GoodIn wsX10_splitVerse wsX10_in := goodIn_r _ [12] (by decide +kernel) (by decide +kernel)
set_option maxRecDepth 20000 in
theorem gX10_splitVerse_X10_in : GoodIn wsX10_splitVerse (va_wsS RX10 48 yX10_in wsX10_in) := goodIn_app (goodIn_of _ (by decide +kernel)) ggX10_splitVerse_X10_in
set_option maxRecDepth 20000 in
theorem ggX10_splitVerse_X10_size : GoodIn wsX10_splitVerse wsX10_size := goodIn_r _ [16, 1, 35, 36, 37, 38, 39, 40, 41, 42, 43, 44, 45, 46, 47, 48, 49, 50, 51, 52, 53, 54, 55, 56, 57] (by decide +kernel) (by decide +kernel)
set_option maxRecDepth 20000 in
theorem gX10_splitVerse_X10_size : GoodIn wsX10_splitVerse (wsV RX10 56 RX10 yX10_size wsX10_size) := goodIn_app (goodIn_of _ (by decide +kernel)) ggX10_splitVerse_X10_size
set_option maxRecDepth 20000 in
theorem ggX10_splitVerse_X10_record : GoodIn wsX10_splitVerse wsX10_record := goodIn_r _ [20, 21, 22, 1, 35, 36, 37, 38, 39, 40, 41, 42, 43, 44, 45, 46, 47, 48, 49, 50, 51, 52, 53, 54, 55, 56, 57] (by decide +kernel) (by decide +kernel)
set_option maxRecDepth 20000 in
theorem gX10_splitVerse_X10_record : GoodIn wsX10_splitVerse (wsV RX10 67 RX10 yX10_record wsX10_record) := goodIn_app (goodIn_of _ (by decide +kernel)) ggX10_splitVerse_X10_record
set_option maxRecDepth 20000 in
theorem ggX10_splitVerse_X10_groupOf : GoodIn wsX10_splitVerse wsX10_groupOf := goodIn_r _ [26, 27, 28, 29, 5, 30, 1, 35, 36, 37, 38, 39, 40, 41, 42, 43, 44, 45, 46, 47, 48, 49, 50, 51, 52, 53, 54, 55, 56, 57] (by decide +kernel) (by decide +kernel)
set_option maxRecDepth 20000 in
theorem gX10_splitVerse_X10_groupOf : GoodIn wsX10_splitVerse (wsV RX10 85 RX10 yX10_groupOf wsX10_groupOf) := goodIn_app (goodIn_of _ (by decide +kernel)) ggX10_splitVerse_X10_groupOf
set_option maxRecDepth 20000 in
theorem ggX10_splitVerse_X10_copyVerse : GoodIn wsX10_splitVerse wsX10_copyVerse := goodIn_r _ [34, 1, 35, 36, 37, 38, 39, 40, 41, 42, 43, 44, 45, 46, 47, 48, 49, 50, 51, 52, 53, 54, 55, 56, 57] (by decide +kernel) (by decide +kernel)
set_option maxRecDepth 20000 in
theorem gX10_splitVerse_X10_copyVerse : GoodIn wsX10_splitVerse (wsV RX10 91 RX10 yX10_copyVerse wsX10_copyVerse) := goodIn_app (goodIn_of _ (by decide +kernel)) ggX10_splitVerse_X10_copyVerse
theorem dX10_splitVerse_0 : decode cX10_splitVerse 0 = .ok (.aload_n 0, 1) := by decide +kernel
theorem dX10_splitVerse_1 : decode cX10_splitVerse 1 = .ok (.iload_n 1, 1) := by decide +kernel
theorem dX10_splitVerse_2 : decode cX10_splitVerse 2 = .ok (.iload_n 2, 1) := by decide +kernel
theorem dX10_splitVerse_3 : decode cX10_splitVerse 3 = .ok (.invokevirtual 74, 3) := by decide +kernel
theorem dX10_splitVerse_6 : decode cX10_splitVerse 6 = .ok (.ifCond .eq 5, 3) := by decide +kernel
theorem dX10_splitVerse_9 : decode cX10_splitVerse 9 = .ok (.iconst (-1), 1) := by decide +kernel
