set_option maxRecDepth 200000 in
theorem ggL_turns_X9_group : GoodIn wsL_turns wsX9_group := goodIn_r _ [164, 6, 7, 165, 63, 64, 58, 65, 66, 9, 10, 4, 11, 29, 30, 31, 32, 33, 34, 35, 36, 37, 38, 39, 40, 41, 42, 43, 44, 45, 46, 47, 48, 49, 50, 51, 52, 53, 54, 55, 56, 57, 59, 60, 61, 62, 27, 28, 67, 68, 69, 15, 70, 71, 72, 73, 74, 75, 23, 24, 25, 26, 17, 76, 77, 78, 79, 80, 81, 18, 19, 20, 21, 22, 82, 83, 84, 85, 86, 87, 88, 89, 90, 91, 92, 93, 94, 95, 96, 97, 98, 99, 100, 101, 166, 107, 108, 109, 110, 167, 168, 169, 170, 171, 172, 173, 174, 175, 176, 177, 178, 179, 180, 181, 182, 183, 184, 185, 186, 187, 188, 189, 190, 191, 192, 193, 194, 195, 196, 197, 198, 199, 200, 201, 206, 207, 208, 209, 210, 211, 212, 213, 214, 215, 216, 217, 218, 219, 202, 203, 204, 205] rfl (by decide +kernel)
set_option maxRecDepth 20000 in
theorem gL_turns_X9_group : GoodIn wsL_turns (wsV RL 22 RX9 yX9_group wsX9_group) := goodIn_app (goodIn_of _ (by decide +kernel)) ggL_turns_X9_group
theorem dL_turns_0 : decode cL_turns 0 = .ok (.aload_n 0, 1) := by decide +kernel
theorem dL_turns_1 : decode cL_turns 1 = .ok (.iconst 2, 1) := by decide +kernel
theorem dL_turns_2 : decode cL_turns 2 = .ok (.invokevirtual 9, 3) := by decide +kernel
theorem dL_turns_5 : decode cL_turns 5 = .ok (.istore_n 1, 1) := by decide +kernel
theorem dL_turns_6 : decode cL_turns 6 = .ok (.aload_n 0, 1) := by decide +kernel
theorem dL_turns_7 : decode cL_turns 7 = .ok (.iconst 3, 1) := by decide +kernel
theorem dL_turns_8 : decode cL_turns 8 = .ok (.invokevirtual 9, 3) := by decide +kernel
theorem dL_turns_11 : decode cL_turns 11 = .ok (.istore_n 2, 1) := by decide +kernel
theorem dL_turns_12 : decode cL_turns 12 = .ok (.aload_n 0, 1) := by decide +kernel
theorem dL_turns_13 : decode cL_turns 13 = .ok (.bipush 6, 2) := by decide +kernel
theorem dL_turns_15 : decode cL_turns 15 = .ok (.invokevirtual 9, 3) := by decide +kernel
theorem dL_turns_18 : decode cL_turns 18 = .ok (.istore_n 3, 1) := by decide +kernel
theorem dL_turns_19 : decode cL_turns 19 = .ok (.aload_n 0, 1) := by decide +kernel
theorem dL_turns_20 : decode cL_turns 20 = .ok (.bipush 7, 2) := by decide +kernel
theorem dL_turns_22 : decode cL_turns 22 = .ok (.invokevirtual 9, 3) := by decide +kernel
theorem dL_turns_25 : decode cL_turns 25 = .ok (.istore 4, 2) := by decide +kernel
theorem dL_turns_27 : decode cL_turns 27 = .ok (.aload_n 0, 1) := by decide +kernel
theorem dL_turns_28 : decode cL_turns 28 = .ok (.invokevirtual 74, 3) := by decide +kernel
theorem dL_turns_31 : decode cL_turns 31 = .ok (.istore 5, 2) := by decide +kernel
theorem dL_turns_33 : decode cL_turns 33 = .ok (.iconst 0, 1) := by decide +kernel
theorem dL_turns_34 : decode cL_turns 34 = .ok (.istore 6, 2) := by decide +kernel
theorem dL_turns_36 : decode cL_turns 36 = .ok (.iconst 0, 1) := by decide +kernel
theorem dL_turns_37 : decode cL_turns 37 = .ok (.istore 7, 2) := by decide +kernel
theorem dL_turns_39 : decode cL_turns 39 = .ok (.iload 7, 2) := by decide +kernel
theorem dL_turns_41 : decode cL_turns 41 = .ok (.aload_n 0, 1) := by decide +kernel
theorem dL_turns_42 : decode cL_turns 42 = .ok (.iconst 4, 1) := by decide +kernel
theorem dL_turns_43 : decode cL_turns 43 = .ok (.invokevirtual 9, 3) := by decide +kernel
theorem dL_turns_46 : decode cL_turns 46 = .ok (.if_icmp .ge 36, 3) := by decide +kernel
theorem dL_turns_49 : decode cL_turns 49 = .ok (.iload 6, 2) := by decide +kernel
theorem dL_turns_51 : decode cL_turns 51 = .ok (.aload_n 0, 1) := by decide +kernel
theorem dL_turns_52 : decode cL_turns 52 = .ok (.iload 7, 2) := by decide +kernel
theorem dL_turns_54 : decode cL_turns 54 = .ok (.iconst 2, 1) := by decide +kernel
theorem dL_turns_55 : decode cL_turns 55 = .ok (.invokevirtual 22, 3) := by decide +kernel
theorem dL_turns_58 : decode cL_turns 58 = .ok (.aload_n 0, 1) := by decide +kernel
theorem dL_turns_59 : decode cL_turns 59 = .ok (.iload 7, 2) := by decide +kernel
theorem dL_turns_61 : decode cL_turns 61 = .ok (.iconst 4, 1) := by decide +kernel
theorem dL_turns_62 : decode cL_turns 62 = .ok (.invokevirtual 22, 3) := by decide +kernel
theorem dL_turns_65 : decode cL_turns 65 = .ok (.if_icmp .ne 7, 3) := by decide +kernel
theorem dL_turns_68 : decode cL_turns 68 = .ok (.iconst 1, 1) := by decide +kernel
theorem dL_turns_69 : decode cL_turns 69 = .ok (.goto 4, 3) := by decide +kernel
theorem dL_turns_72 : decode cL_turns 72 = .ok (.iconst 0, 1) := by decide +kernel
theorem dL_turns_73 : decode cL_turns 73 = .ok (.iadd, 1) := by decide +kernel
theorem dL_turns_74 : decode cL_turns 74 = .ok (.istore 6, 2) := by decide +kernel
theorem dL_turns_76 : decode cL_turns 76 = .ok (.iinc 7 1, 3) := by decide +kernel
theorem dL_turns_79 : decode cL_turns 79 = .ok (.goto (-40), 3) := by decide +kernel
theorem dL_turns_82 : decode cL_turns 82 = .ok (.iload 5, 2) := by decide +kernel
theorem dL_turns_84 : decode cL_turns 84 = .ok (.iload 6, 2) := by decide +kernel
theorem dL_turns_86 : decode cL_turns 86 = .ok (.if_icmp .ne 46, 3) := by decide +kernel
theorem dL_turns_89 : decode cL_turns 89 = .ok (.aload_n 0, 1) := by decide +kernel
theorem dL_turns_90 : decode cL_turns 90 = .ok (.iconst 2, 1) := by decide +kernel
theorem dL_turns_91 : decode cL_turns 91 = .ok (.invokevirtual 9, 3) := by decide +kernel
theorem dL_turns_94 : decode cL_turns 94 = .ok (.iload_n 2, 1) := by decide +kernel
theorem dL_turns_95 : decode cL_turns 95 = .ok (.if_icmp .ne 37, 3) := by decide +kernel
theorem dL_turns_98 : decode cL_turns 98 = .ok (.aload_n 0, 1) := by decide +kernel
theorem dL_turns_99 : decode cL_turns 99 = .ok (.iconst 3, 1) := by decide +kernel
theorem dL_turns_100 : decode cL_turns 100 = .ok (.invokevirtual 9, 3) := by decide +kernel
theorem dL_turns_103 : decode cL_turns 103 = .ok (.iload_n 1, 1) := by decide +kernel
theorem dL_turns_104 : decode cL_turns 104 = .ok (.if_icmp .ne 28, 3) := by decide +kernel
theorem dL_turns_107 : decode cL_turns 107 = .ok (.aload_n 0, 1) := by decide +kernel
theorem dL_turns_108 : decode cL_turns 108 = .ok (.bipush 6, 2) := by decide +kernel
theorem dL_turns_110 : decode cL_turns 110 = .ok (.invokevirtual 9, 3) := by decide +kernel
theorem dL_turns_113 : decode cL_turns 113 = .ok (.iload 4, 2) := by decide +kernel
theorem dL_turns_115 : decode cL_turns 115 = .ok (.if_icmp .ne 17, 3) := by decide +kernel
theorem dL_turns_118 : decode cL_turns 118 = .ok (.aload_n 0, 1) := by decide +kernel
theorem dL_turns_119 : decode cL_turns 119 = .ok (.bipush 7, 2) := by decide +kernel
theorem dL_turns_121 : decode cL_turns 121 = .ok (.invokevirtual 9, 3) := by decide +kernel
theorem dL_turns_124 : decode cL_turns 124 = .ok (.iload_n 3, 1) := by decide +kernel
theorem dL_turns_125 : decode cL_turns 125 = .ok (.if_icmp .ne 7, 3) := by decide +kernel
theorem dL_turns_128 : decode cL_turns 128 = .ok (.iconst 1, 1) := by decide +kernel
theorem dL_turns_129 : decode cL_turns 129 = .ok (.goto 4, 3) := by decide +kernel
theorem dL_turns_132 : decode cL_turns 132 = .ok (.iconst 0, 1) := by decide +kernel
theorem dL_turns_133 : decode cL_turns 133 = .ok (.ireturn, 1) := by decide +kernel
set_option maxRecDepth 200000 in
theorem ggL_errors_X9_addChapter : GoodIn wsL_errors wsX9_addChapter := goodIn_r _ [5, 6, 7, 8, 9, 4, 10, 11, 12, 13, 14, 15, 16, 17, 18, 19, 20, 21, 22, 23, 24, 25, 26, 27, 28, 29, 30, 31, 32, 33, 34, 35, 36, 37, 38, 39, 40, 41, 42, 43, 44, 45, 46, 47, 48, 49, 50, 51, 52, 53, 54, 55, 56, 57, 58, 59, 60, 61, 62, 63, 64, 65, 66, 67, 68, 69, 70, 71, 72, 73, 74, 75, 76, 77, 78, 79, 80, 81, 82, 83, 84, 85, 86, 87, 88, 89, 90, 91, 92, 93, 94, 95, 96, 97, 98, 99, 243, 244, 245, 246, 247, 248, 249, 250, 251, 252, 253, 254, 255, 256, 257, 258, 259, 260, 261] rfl (by decide +kernel)
set_option maxRecDepth 20000 in
theorem gL_errors_X9_addChapter : GoodIn wsL_errors (wsV RL 77 RX9 yX9_addChapter wsX9_addChapter) := goodIn_app (goodIn_of _ (by decide +kernel)) ggL_errors_X9_addChapter
set_option maxRecDepth 200000 in
theorem ggL_errors_X9_count : GoodIn wsL_errors wsX9_count := goodIn_r _ [103, 6, 104, 7, 11, 12, 4, 13, 21, 22, 23, 24, 25, 26, 27, 28, 29, 30, 31, 32, 33, 34, 35, 36, 37, 105, 106, 107, 108, 109, 110, 63, 64, 65, 111, 112, 113, 114, 115, 116, 117, 118, 119, 120, 121, 122, 123, 124, 125, 126, 127, 128, 129, 130, 73, 131, 75, 76, 96, 97, 98, 99, 77, 132, 133, 134, 135, 136, 137, 138, 139, 58, 140, 141, 142, 143, 144, 145, 146, 147, 148, 149, 150, 151, 152, 153, 59, 154, 155, 156, 157, 158, 159, 160, 161, 162, 163, 164, 165, 166, 167, 168, 169, 170, 171, 172, 173, 243, 244, 245, 246, 247, 248, 249, 254, 255, 256, 250, 251, 252, 253, 259, 260, 261, 262, 263, 264, 265, 266, 267, 268, 269, 270, 271, 272, 257, 258] rfl (by decide +kernel)
set_option maxRecDepth 20000 in
theorem gL_errors_X9_count : GoodIn wsL_errors (wsV RL 9 RX9 yX9_count wsX9_count) := goodIn_app (goodIn_of _ (by decide +kernel)) ggL_errors_X9_count
set_option maxRecDepth 200000 in
theorem ggL_errors_X9_setVerse : GoodIn wsL_errors wsX9_setVerse := goodIn_r _ [177, 7, 6, 178, 179, 180, 4, 181, 8, 9, 10, 14, 15, 16, 17, 18, 19, 20, 182, 33, 34, 24, 35, 26, 11, 12, 13, 38, 39, 40, 41, 42, 43, 44, 45, 46, 47, 48, 49, 50, 51, 52, 53, 54, 55, 56, 57, 31, 58, 59, 60, 61, 62, 63, 64, 65, 66, 67, 68, 69, 70, 71, 72, 73, 74, 75, 76, 77, 183, 137, 138, 139, 32, 36, 37, 184, 85, 86, 87, 243, 244, 245, 246, 247, 248, 249, 254, 255, 256, 250, 251, 252, 253, 257, 258, 259, 260, 261] rfl (by decide +kernel)
set_option maxRecDepth 20000 in
theorem gL_errors_X9_setVerse : GoodIn wsL_errors (wsV RL 80 RX9 yX9_setVerse wsX9_setVerse) := goodIn_app (goodIn_of _ (by decide +kernel)) ggL_errors_X9_setVerse
set_option maxRecDepth 200000 in
theorem ggL_errors_X9_joinVerses : GoodIn wsL_errors wsX9_joinVerses := goodIn_r _ [188, 6, 7, 178, 179, 180, 4, 181, 8, 9, 10, 14, 15, 16, 17, 18, 19, 20, 182, 33, 34, 24, 35, 26, 189, 28, 29, 30, 31, 32, 36, 37, 38, 39, 40, 41, 42, 43, 44, 45, 46, 47, 48, 12, 13, 49, 50, 51, 52, 53, 54, 55, 56, 57, 58, 59, 60, 61, 62, 63, 64, 65, 66, 67, 68, 69, 70, 71, 72, 73, 74, 75, 76, 77, 190, 191, 192, 193, 173, 129, 130, 131, 96, 97, 98, 99, 194, 195, 196, 197, 198, 199, 200, 201, 92, 93, 94, 95, 202, 203, 11, 204, 205, 206, 207, 208, 209, 210, 211, 212, 136, 137, 138, 139, 150, 151, 152, 153, 84, 85, 86, 87, 243, 244, 245, 246, 247, 248, 249, 254, 255, 256, 250, 251, 252, 253, 257, 258, 259, 260, 261] rfl (by decide +kernel)
set_option maxRecDepth 20000 in
theorem gL_errors_X9_joinVerses : GoodIn wsL_errors (wsV RL 62 RX9 yX9_joinVerses wsX9_joinVerses) := goodIn_app (goodIn_of _ (by decide +kernel)) ggL_errors_X9_joinVerses
set_option maxRecDepth 200000 in
theorem ggL_errors_X9_splitVerse : GoodIn wsL_errors wsX9_splitVerse := goodIn_r _ [216, 6, 7, 178, 179, 180, 4, 181, 8, 9, 10, 14, 15, 16, 17, 18, 19, 20, 182, 33, 34, 24, 35, 26, 11, 12, 13, 183, 137, 138, 139, 58, 32, 36, 37, 38, 39, 40, 41, 42, 43, 44, 45, 46, 47, 48, 49, 50, 51, 52, 53, 54, 55, 56, 57, 31, 59, 60, 61, 62, 63, 64, 65, 66, 67, 68, 69, 70, 71, 72, 73, 74, 75, 76, 77, 190, 191, 192, 193, 173, 129, 130, 131, 96, 97, 98, 99, 204, 205, 206, 207, 92, 93, 94, 95, 217, 218, 219, 220, 136, 150, 151, 152, 153, 84, 85, 86, 87, 27, 28, 29, 30, 221, 79, 80, 81, 82, 83, 243, 244, 245, 246, 247, 248, 249, 250, 251, 252, 253, 254, 255, 256, 257, 258, 259, 260, 261] rfl (by decide +kernel)
set_option maxRecDepth 20000 in
theorem gL_errors_X9_splitVerse : GoodIn wsL_errors (wsV RL 65 RX9 yX9_splitVerse wsX9_splitVerse) := goodIn_app (goodIn_of _ (by decide +kernel)) ggL_errors_X9_splitVerse
set_option maxRecDepth 200000 in
theorem ggL_errors_X9_link : GoodIn wsL_errors wsX9_link := goodIn_r _ [225, 6, 7, 226, 97, 98, 73, 99, 77, 38, 39, 40, 41, 42, 43, 44, 45, 46, 47, 48, 12, 4, 13, 49, 50, 51, 17, 52, 19, 20, 53, 54, 55, 56, 24, 57, 31, 58, 59, 26, 60, 61, 62, 63, 64, 65, 66, 67, 68, 69, 70, 71, 72, 74, 75, 76, 194, 195, 196, 197, 96, 198, 199, 200, 201, 173, 129, 130, 131, 36, 37, 92, 93, 94, 95, 202, 203, 11, 243, 244, 245, 246, 247, 248, 249, 254, 255, 256, 259, 260, 261, 257, 258, 250, 251, 252, 253] rfl (by decide +kernel)
set_option maxRecDepth 20000 in
theorem gL_errors_X9_link : GoodIn wsL_errors (wsV RL 71 RX9 yX9_link wsX9_link) := goodIn_app (goodIn_of _ (by decide +kernel)) ggL_errors_X9_link
set_option maxRecDepth 200000 in
theorem ggL_errors_X9_setWidth : GoodIn wsL_errors wsX9_setWidth := goodIn_r _ [230, 104, 8, 9, 4, 10, 11, 12, 13, 231, 232, 233, 108, 234, 117, 119, 235, 236, 237, 238, 243, 244, 245, 246, 247, 248, 249, 262, 263, 264, 265, 266, 267, 268, 269, 270, 271, 272] rfl (by decide +kernel)
set_option maxRecDepth 20000 in
theorem gL_errors_X9_setWidth : GoodIn wsL_errors (wsV RL 84 RX9 yX9_setWidth wsX9_setWidth) := goodIn_app (goodIn_of _ (by decide +kernel)) ggL_errors_X9_setWidth
set_option maxRecDepth 200000 in
theorem ggL_errors_X9_setHeights : GoodIn wsL_errors wsX9_setHeights := goodIn_r _ [242, 104, 11, 12, 4, 13, 243, 244, 245, 246, 247, 248, 249, 262, 263, 264, 265, 266, 267, 268, 269, 270, 271, 272] rfl (by decide +kernel)
set_option maxRecDepth 20000 in
theorem gL_errors_X9_setHeights : GoodIn wsL_errors (wsV RL 87 RX9 yX9_setHeights wsX9_setHeights) := goodIn_app (goodIn_of _ (by decide +kernel)) ggL_errors_X9_setHeights
theorem dL_errors_0 : decode cL_errors 0 = .ok (.aload_n 0, 1) := by decide +kernel
theorem dL_errors_1 : decode cL_errors 1 = .ok (.iconst 2, 1) := by decide +kernel
theorem dL_errors_2 : decode cL_errors 2 = .ok (.iconst 1, 1) := by decide +kernel
theorem dL_errors_3 : decode cL_errors 3 = .ok (.iconst 1, 1) := by decide +kernel
theorem dL_errors_4 : decode cL_errors 4 = .ok (.invokevirtual 77, 3) := by decide +kernel
theorem dL_errors_7 : decode cL_errors 7 = .ok (.iconst (-1), 1) := by decide +kernel
theorem dL_errors_8 : decode cL_errors 8 = .ok (.if_icmp .ne 87, 3) := by decide +kernel
theorem dL_errors_11 : decode cL_errors 11 = .ok (.aload_n 0, 1) := by decide +kernel
theorem dL_errors_12 : decode cL_errors 12 = .ok (.iconst 0, 1) := by decide +kernel
theorem dL_errors_13 : decode cL_errors 13 = .ok (.iconst 0, 1) := by decide +kernel
theorem dL_errors_14 : decode cL_errors 14 = .ok (.iconst 1, 1) := by decide +kernel
theorem dL_errors_15 : decode cL_errors 15 = .ok (.invokevirtual 77, 3) := by decide +kernel
theorem dL_errors_18 : decode cL_errors 18 = .ok (.bipush (-2), 2) := by decide +kernel
theorem dL_errors_20 : decode cL_errors 20 = .ok (.if_icmp .ne 75, 3) := by decide +kernel
theorem dL_errors_23 : decode cL_errors 23 = .ok (.aload_n 0, 1) := by decide +kernel
theorem dL_errors_24 : decode cL_errors 24 = .ok (.iconst 0, 1) := by decide +kernel
theorem dL_errors_25 : decode cL_errors 25 = .ok (.bipush 61, 2) := by decide +kernel
theorem dL_errors_27 : decode cL_errors 27 = .ok (.iconst 1, 1) := by decide +kernel
theorem dL_errors_28 : decode cL_errors 28 = .ok (.invokevirtual 77, 3) := by decide +kernel
theorem dL_errors_31 : decode cL_errors 31 = .ok (.bipush (-2), 2) := by decide +kernel
theorem dL_errors_33 : decode cL_errors 33 = .ok (.if_icmp .ne 62, 3) := by decide +kernel
theorem dL_errors_36 : decode cL_errors 36 = .ok (.aload_n 0, 1) := by decide +kernel
theorem dL_errors_37 : decode cL_errors 37 = .ok (.iconst 0, 1) := by decide +kernel
theorem dL_errors_38 : decode cL_errors 38 = .ok (.iconst 1, 1) := by decide +kernel
theorem dL_errors_39 : decode cL_errors 39 = .ok (.sipush 2001, 3) := by decide +kernel
theorem dL_errors_42 : decode cL_errors 42 = .ok (.invokevirtual 77, 3) := by decide +kernel
theorem dL_errors_45 : decode cL_errors 45 = .ok (.bipush (-2), 2) := by decide +kernel
theorem dL_errors_47 : decode cL_errors 47 = .ok (.if_icmp .ne 48, 3) := by decide +kernel
theorem dL_errors_50 : decode cL_errors 50 = .ok (.aload_n 0, 1) := by decide +kernel
theorem dL_errors_51 : decode cL_errors 51 = .ok (.iconst 0, 1) := by decide +kernel
theorem dL_errors_52 : decode cL_errors 52 = .ok (.aload_n 0, 1) := by decide +kernel
theorem dL_errors_53 : decode cL_errors 53 = .ok (.iconst 2, 1) := by decide +kernel
theorem dL_errors_54 : decode cL_errors 54 = .ok (.invokevirtual 9, 3) := by decide +kernel
theorem dL_errors_57 : decode cL_errors 57 = .ok (.iconst 1, 1) := by decide +kernel
theorem dL_errors_58 : decode cL_errors 58 = .ok (.iconst 0, 1) := by decide +kernel
theorem dL_errors_59 : decode cL_errors 59 = .ok (.invokevirtual 80, 3) := by decide +kernel
theorem dL_errors_62 : decode cL_errors 62 = .ok (.iconst (-1), 1) := by decide +kernel
theorem dL_errors_63 : decode cL_errors 63 = .ok (.if_icmp .ne 32, 3) := by decide +kernel
theorem dL_errors_66 : decode cL_errors 66 = .ok (.aload_n 0, 1) := by decide +kernel
theorem dL_errors_67 : decode cL_errors 67 = .ok (.iconst 1, 1) := by decide +kernel
theorem dL_errors_68 : decode cL_errors 68 = .ok (.aload_n 0, 1) := by decide +kernel
theorem dL_errors_69 : decode cL_errors 69 = .ok (.iconst 3, 1) := by decide +kernel
theorem dL_errors_70 : decode cL_errors 70 = .ok (.invokevirtual 9, 3) := by decide +kernel
theorem dL_errors_73 : decode cL_errors 73 = .ok (.invokevirtual 62, 3) := by decide +kernel
theorem dL_errors_76 : decode cL_errors 76 = .ok (.iconst (-1), 1) := by decide +kernel
theorem dL_errors_77 : decode cL_errors 77 = .ok (.if_icmp .ne 18, 3) := by decide +kernel
theorem dL_errors_80 : decode cL_errors 80 = .ok (.aload_n 0, 1) := by decide +kernel
theorem dL_errors_81 : decode cL_errors 81 = .ok (.iconst 0, 1) := by decide +kernel
theorem dL_errors_82 : decode cL_errors 82 = .ok (.iconst (-1), 1) := by decide +kernel
theorem dL_errors_83 : decode cL_errors 83 = .ok (.iconst 1, 1) := by decide +kernel
theorem dL_errors_84 : decode cL_errors 84 = .ok (.invokevirtual 65, 3) := by decide +kernel
theorem dL_errors_87 : decode cL_errors 87 = .ok (.iconst (-1), 1) := by decide +kernel
theorem dL_errors_88 : decode cL_errors 88 = .ok (.if_icmp .ne 7, 3) := by decide +kernel
theorem dL_errors_91 : decode cL_errors 91 = .ok (.iconst 1, 1) := by decide +kernel
theorem dL_errors_92 : decode cL_errors 92 = .ok (.goto 4, 3) := by decide +kernel
theorem dL_errors_95 : decode cL_errors 95 = .ok (.iconst 0, 1) := by decide +kernel
theorem dL_errors_96 : decode cL_errors 96 = .ok (.istore_n 1, 1) := by decide +kernel
theorem dL_errors_97 : decode cL_errors 97 = .ok (.iload_n 1, 1) := by decide +kernel
theorem dL_errors_98 : decode cL_errors 98 = .ok (.ifCond .eq 103, 3) := by decide +kernel
theorem dL_errors_101 : decode cL_errors 101 = .ok (.aload_n 0, 1) := by decide +kernel
theorem dL_errors_102 : decode cL_errors 102 = .ok (.aload_n 0, 1) := by decide +kernel
theorem dL_errors_103 : decode cL_errors 103 = .ok (.iconst 4, 1) := by decide +kernel
theorem dL_errors_104 : decode cL_errors 104 = .ok (.invokevirtual 9, 3) := by decide +kernel
theorem dL_errors_107 : decode cL_errors 107 = .ok (.invokevirtual 71, 3) := by decide +kernel
theorem dL_errors_110 : decode cL_errors 110 = .ok (.iconst (-1), 1) := by decide +kernel
theorem dL_errors_111 : decode cL_errors 111 = .ok (.if_icmp .ne 90, 3) := by decide +kernel
theorem dL_errors_114 : decode cL_errors 114 = .ok (.aload_n 0, 1) := by decide +kernel
theorem dL_errors_115 : decode cL_errors 115 = .ok (.iconst 4, 1) := by decide +kernel
theorem dL_errors_116 : decode cL_errors 116 = .ok (.invokevirtual 9, 3) := by decide +kernel
theorem dL_errors_119 : decode cL_errors 119 = .ok (.ifCond .eq 19, 3) := by decide +kernel
theorem dL_errors_122 : decode cL_errors 122 = .ok (.aload_n 0, 1) := by decide +kernel
theorem dL_errors_123 : decode cL_errors 123 = .ok (.aload_n 0, 1) := by decide +kernel
theorem dL_errors_124 : decode cL_errors 124 = .ok (.iconst 4, 1) := by decide +kernel
theorem dL_errors_125 : decode cL_errors 125 = .ok (.invokevirtual 9, 3) := by decide +kernel
theorem dL_errors_128 : decode cL_errors 128 = .ok (.iconst 1, 1) := by decide +kernel
theorem dL_errors_129 : decode cL_errors 129 = .ok (.isub, 1) := by decide +kernel
theorem dL_errors_130 : decode cL_errors 130 = .ok (.invokevirtual 71, 3) := by decide +kernel
theorem dL_errors_133 : decode cL_errors 133 = .ok (.bipush (-4), 2) := by decide +kernel
theorem dL_errors_135 : decode cL_errors 135 = .ok (.if_icmp .ne 66, 3) := by decide +kernel
theorem dL_errors_138 : decode cL_errors 138 = .ok (.aload_n 0, 1) := by decide +kernel
theorem dL_errors_139 : decode cL_errors 139 = .ok (.iconst 2, 1) := by decide +kernel
theorem dL_errors_140 : decode cL_errors 140 = .ok (.bipush 40, 2) := by decide +kernel
theorem dL_errors_142 : decode cL_errors 142 = .ok (.invokevirtual 84, 3) := by decide +kernel
theorem dL_errors_145 : decode cL_errors 145 = .ok (.iconst (-1), 1) := by decide +kernel
theorem dL_errors_146 : decode cL_errors 146 = .ok (.if_icmp .ne 55, 3) := by decide +kernel
theorem dL_errors_149 : decode cL_errors 149 = .ok (.aload_n 0, 1) := by decide +kernel
theorem dL_errors_150 : decode cL_errors 150 = .ok (.iconst 0, 1) := by decide +kernel
theorem dL_errors_151 : decode cL_errors 151 = .ok (.bipush 9, 2) := by decide +kernel
theorem dL_errors_153 : decode cL_errors 153 = .ok (.invokevirtual 84, 3) := by decide +kernel
theorem dL_errors_156 : decode cL_errors 156 = .ok (.bipush (-2), 2) := by decide +kernel
theorem dL_errors_158 : decode cL_errors 158 = .ok (.if_icmp .ne 43, 3) := by decide +kernel
theorem dL_errors_161 : decode cL_errors 161 = .ok (.aload_n 0, 1) := by decide +kernel
theorem dL_errors_162 : decode cL_errors 162 = .ok (.iconst 0, 1) := by decide +kernel
theorem dL_errors_163 : decode cL_errors 163 = .ok (.sipush 201, 3) := by decide +kernel
theorem dL_errors_166 : decode cL_errors 166 = .ok (.invokevirtual 84, 3) := by decide +kernel
theorem dL_errors_169 : decode cL_errors 169 = .ok (.bipush (-2), 2) := by decide +kernel
theorem dL_errors_171 : decode cL_errors 171 = .ok (.if_icmp .ne 30, 3) := by decide +kernel
theorem dL_errors_174 : decode cL_errors 174 = .ok (.aload_n 0, 1) := by decide +kernel
theorem dL_errors_175 : decode cL_errors 175 = .ok (.iconst 4, 1) := by decide +kernel
theorem dL_errors_176 : decode cL_errors 176 = .ok (.iconst 0, 1) := by decide +kernel
theorem dL_errors_177 : decode cL_errors 177 = .ok (.invokevirtual 87, 3) := by decide +kernel
theorem dL_errors_180 : decode cL_errors 180 = .ok (.bipush (-2), 2) := by decide +kernel
theorem dL_errors_182 : decode cL_errors 182 = .ok (.if_icmp .ne 19, 3) := by decide +kernel
theorem dL_errors_185 : decode cL_errors 185 = .ok (.aload_n 0, 1) := by decide +kernel
theorem dL_errors_186 : decode cL_errors 186 = .ok (.iconst 5, 1) := by decide +kernel
theorem dL_errors_187 : decode cL_errors 187 = .ok (.bipush 6, 2) := by decide +kernel
theorem dL_errors_189 : decode cL_errors 189 = .ok (.invokevirtual 87, 3) := by decide +kernel
theorem dL_errors_192 : decode cL_errors 192 = .ok (.bipush (-2), 2) := by decide +kernel
theorem dL_errors_194 : decode cL_errors 194 = .ok (.if_icmp .ne 7, 3) := by decide +kernel
theorem dL_errors_197 : decode cL_errors 197 = .ok (.iconst 1, 1) := by decide +kernel
theorem dL_errors_198 : decode cL_errors 198 = .ok (.goto 4, 3) := by decide +kernel
theorem dL_errors_201 : decode cL_errors 201 = .ok (.iconst 0, 1) := by decide +kernel
theorem dL_errors_202 : decode cL_errors 202 = .ok (.ireturn, 1) := by decide +kernel
set_option maxRecDepth 200000 in
theorem ggL_law_X9_init : GoodIn wsL_law wsX9_init := goodIn_r _ [6, 7, 8, 9, 10, 11, 12, 13, 14, 15, 16, 17, 18, 19, 20, 21, 22, 23, 24, 25, 26, 27, 28, 29, 30, 31, 32, 33, 34, 35, 36, 37, 38, 39, 40, 41, 42, 43, 44, 45, 46, 47, 48, 49, 50, 51, 52, 3, 53, 54, 55, 56, 57, 58, 59, 60, 61, 62, 63, 64, 65, 66, 67, 68, 69, 70, 71, 72, 73, 74, 75, 76, 77, 78, 79, 80, 81, 82, 83, 84, 85, 86, 87, 88, 89, 90, 91, 92, 93, 645, 646, 647, 638, 639, 640, 641, 642, 643, 644, 648, 649, 650, 651, 652, 653, 654, 655, 656, 657, 658, 659, 660, 661, 662, 663, 664, 665, 666, 667, 668, 669, 670, 671, 672, 673, 674, 675, 676, 677, 678, 679, 680, 681, 682, 683, 684, 685] rfl (by decide +kernel)
set_option maxRecDepth 20000 in
theorem gL_law_X9_init : GoodIn wsL_law (wsX9_init) := ggL_law_X9_init
set_option maxRecDepth 200000 in
theorem ggL_law_X9_undo : GoodIn wsL_law wsX9_undo := goodIn_r _ [97, 17, 13, 98, 99, 100, 16, 101, 102, 66, 103, 104, 105, 12, 106, 44, 45, 49, 107, 108, 109, 43, 110, 53, 54, 55, 111, 112, 2, 113, 114, 115, 116, 117, 118, 119, 120, 121, 122, 123, 124, 48, 125, 59, 60, 126, 638, 639, 640, 641, 642, 643, 644, 648, 649, 645, 646, 647, 679, 680, 681, 682, 683, 684, 685] rfl (by decide +kernel)
set_option maxRecDepth 20000 in
theorem gL_law_X9_undo : GoodIn wsL_law (wsV RL 59 RX9 yX9_undo wsX9_undo) := goodIn_app (goodIn_of _ (by decide +kernel)) ggL_law_X9_undo
