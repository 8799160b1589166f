set_option maxRecDepth 200000 in
theorem ggL_splits_X9_count : GoodIn wsL_splits wsX9_count := goodIn_r _ [5, 6, 7, 8, 9, 10, 4, 11, 12, 13, 14, 15, 16, 17, 18, 19, 20, 21, 22, 23, 24, 25, 26, 27, 28, 29, 30, 31, 32, 33, 34, 35, 36, 37, 38, 39, 40, 41, 42, 43, 44, 45, 46, 47, 48, 49, 50, 51, 52, 53, 54, 55, 56, 57, 58, 59, 60, 61, 62, 63, 64, 65, 66, 67, 68, 69, 70, 71, 72, 73, 74, 75, 76, 77, 78, 79, 80, 81, 82, 83, 84, 85, 86, 87, 88, 89, 90, 91, 92, 93, 94, 95, 96, 97, 98, 99, 100, 101, 102, 103, 104, 105, 106, 107, 108, 109, 110, 219, 220, 221, 222, 223, 224, 225, 226, 227, 228, 229, 230, 231, 232, 233, 234, 235, 236, 237, 238, 239, 240, 241, 242, 243, 244, 245, 246, 247, 248] rfl (by decide +kernel)
set_option maxRecDepth 20000 in
theorem gL_splits_X9_count : GoodIn wsL_splits (wsV RL 9 RX9 yX9_count wsX9_count) := goodIn_app (goodIn_of _ (by decide +kernel)) ggL_splits_X9_count
set_option maxRecDepth 200000 in
theorem ggL_splits_X9_verse : GoodIn wsL_splits wsX9_verse := goodIn_r _ [114, 6, 7, 115, 116, 117, 4, 118, 119, 120, 121, 122, 123, 124, 125, 126, 127, 128, 129, 24, 25, 15, 26, 17, 9, 10, 11, 130, 19, 20, 21, 22, 23, 27, 28, 131, 132, 133, 134, 18, 135, 136, 137, 138, 139, 72, 73, 74, 75, 140, 87, 88, 89, 90, 141, 142, 143, 32, 144, 44, 46, 145, 76, 77, 219, 220, 221, 222, 223, 224, 225, 226, 227, 228, 229, 230, 231, 232, 236, 237, 238, 239, 240, 241, 242, 243, 244, 245, 246] rfl (by decide +kernel)
set_option maxRecDepth 20000 in
theorem gL_splits_X9_verse : GoodIn wsL_splits (wsV RL 19 RX9 yX9_verse wsX9_verse) := goodIn_app (goodIn_of _ (by decide +kernel)) ggL_splits_X9_verse
set_option maxRecDepth 200000 in
theorem ggL_splits_X9_beside : GoodIn wsL_splits wsX9_beside := goodIn_r _ [149, 6, 115, 116, 117, 4, 118, 119, 120, 121, 122, 123, 124, 125, 126, 127, 128, 129, 24, 25, 15, 26, 17, 9, 10, 11, 150, 151, 152, 58, 153, 66, 110, 56, 57, 59, 60, 61, 62, 63, 64, 65, 27, 28, 154, 155, 156, 157, 158, 159, 160, 161, 219, 220, 221, 222, 223, 224, 225, 226, 227, 228, 229, 230, 231, 232, 233, 234, 235] rfl (by decide +kernel)
set_option maxRecDepth 20000 in
theorem gL_splits_X9_beside : GoodIn wsL_splits (wsV RL 32 RX9 yX9_beside wsX9_beside) := goodIn_app (goodIn_of _ (by decide +kernel)) ggL_splits_X9_beside
set_option maxRecDepth 200000 in
theorem ggL_splits_X9_splitVerse : GoodIn wsL_splits wsX9_splitVerse := goodIn_r _ [165, 6, 8, 115, 116, 117, 4, 118, 119, 120, 121, 122, 123, 124, 125, 126, 127, 128, 129, 24, 25, 15, 26, 17, 9, 10, 11, 139, 72, 73, 74, 75, 23, 27, 28, 166, 167, 168, 169, 170, 171, 172, 173, 174, 175, 176, 177, 178, 179, 180, 181, 182, 183, 184, 185, 22, 90, 186, 187, 188, 35, 36, 37, 189, 190, 191, 192, 193, 194, 195, 58, 196, 60, 61, 66, 150, 151, 152, 153, 110, 56, 57, 59, 62, 63, 64, 65, 197, 198, 199, 200, 201, 202, 203, 204, 205, 206, 207, 208, 71, 86, 87, 88, 89, 209, 210, 211, 212, 18, 19, 20, 21, 213, 214, 215, 216, 217, 218, 219, 220, 221, 222, 223, 224, 225, 229, 230, 231, 232, 226, 227, 228, 247, 248, 233, 234, 235] rfl (by decide +kernel)
set_option maxRecDepth 20000 in
theorem gL_splits_X9_splitVerse : GoodIn wsL_splits (wsV RL 65 RX9 yX9_splitVerse wsX9_splitVerse) := goodIn_app (goodIn_of _ (by decide +kernel)) ggL_splits_X9_splitVerse
theorem dL_splits_0 : decode cL_splits 0 = .ok (.aload_n 0, 1) := by decide +kernel
theorem dL_splits_1 : decode cL_splits 1 = .ok (.iconst 2, 1) := by decide +kernel
theorem dL_splits_2 : decode cL_splits 2 = .ok (.iload_n 1, 1) := by decide +kernel
theorem dL_splits_3 : decode cL_splits 3 = .ok (.iadd, 1) := by decide +kernel
theorem dL_splits_4 : decode cL_splits 4 = .ok (.invokevirtual 9, 3) := by decide +kernel
theorem dL_splits_7 : decode cL_splits 7 = .ok (.istore 4, 2) := by decide +kernel
theorem dL_splits_9 : decode cL_splits 9 = .ok (.aload_n 0, 1) := by decide +kernel
theorem dL_splits_10 : decode cL_splits 10 = .ok (.iload_n 1, 1) := by decide +kernel
theorem dL_splits_11 : decode cL_splits 11 = .ok (.iload_n 2, 1) := by decide +kernel
theorem dL_splits_12 : decode cL_splits 12 = .ok (.iconst 2, 1) := by decide +kernel
theorem dL_splits_13 : decode cL_splits 13 = .ok (.invokevirtual 19, 3) := by decide +kernel
theorem dL_splits_16 : decode cL_splits 16 = .ok (.istore 5, 2) := by decide +kernel
theorem dL_splits_18 : decode cL_splits 18 = .ok (.aload_n 0, 1) := by decide +kernel
theorem dL_splits_19 : decode cL_splits 19 = .ok (.iload_n 1, 1) := by decide +kernel
theorem dL_splits_20 : decode cL_splits 20 = .ok (.iload_n 2, 1) := by decide +kernel
theorem dL_splits_21 : decode cL_splits 21 = .ok (.iconst 3, 1) := by decide +kernel
theorem dL_splits_22 : decode cL_splits 22 = .ok (.invokevirtual 19, 3) := by decide +kernel
theorem dL_splits_25 : decode cL_splits 25 = .ok (.istore 6, 2) := by decide +kernel
theorem dL_splits_27 : decode cL_splits 27 = .ok (.aload_n 0, 1) := by decide +kernel
theorem dL_splits_28 : decode cL_splits 28 = .ok (.iload_n 1, 1) := by decide +kernel
theorem dL_splits_29 : decode cL_splits 29 = .ok (.iload_n 2, 1) := by decide +kernel
theorem dL_splits_30 : decode cL_splits 30 = .ok (.iconst 0, 1) := by decide +kernel
theorem dL_splits_31 : decode cL_splits 31 = .ok (.invokevirtual 32, 3) := by decide +kernel
theorem dL_splits_34 : decode cL_splits 34 = .ok (.istore 7, 2) := by decide +kernel
theorem dL_splits_36 : decode cL_splits 36 = .ok (.aload_n 0, 1) := by decide +kernel
theorem dL_splits_37 : decode cL_splits 37 = .ok (.iload_n 1, 1) := by decide +kernel
theorem dL_splits_38 : decode cL_splits 38 = .ok (.iload_n 2, 1) := by decide +kernel
theorem dL_splits_39 : decode cL_splits 39 = .ok (.iconst 0, 1) := by decide +kernel
theorem dL_splits_40 : decode cL_splits 40 = .ok (.invokevirtual 19, 3) := by decide +kernel
theorem dL_splits_43 : decode cL_splits 43 = .ok (.istore 8, 2) := by decide +kernel
theorem dL_splits_45 : decode cL_splits 45 = .ok (.iload_n 3, 1) := by decide +kernel
theorem dL_splits_46 : decode cL_splits 46 = .ok (.iload 5, 2) := by decide +kernel
theorem dL_splits_48 : decode cL_splits 48 = .ok (.if_icmp .lt 8, 3) := by decide +kernel
theorem dL_splits_51 : decode cL_splits 51 = .ok (.bipush (-4), 2) := by decide +kernel
theorem dL_splits_53 : decode cL_splits 53 = .ok (.goto 19, 3) := by decide +kernel
theorem dL_splits_56 : decode cL_splits 56 = .ok (.iload 4, 2) := by decide +kernel
theorem dL_splits_58 : decode cL_splits 58 = .ok (.bipush 60, 2) := by decide +kernel
theorem dL_splits_60 : decode cL_splits 60 = .ok (.if_icmp .ne 8, 3) := by decide +kernel
theorem dL_splits_63 : decode cL_splits 63 = .ok (.bipush (-3), 2) := by decide +kernel
theorem dL_splits_65 : decode cL_splits 65 = .ok (.goto 7, 3) := by decide +kernel
theorem dL_splits_68 : decode cL_splits 68 = .ok (.iload 4, 2) := by decide +kernel
theorem dL_splits_70 : decode cL_splits 70 = .ok (.iconst 1, 1) := by decide +kernel
theorem dL_splits_71 : decode cL_splits 71 = .ok (.iadd, 1) := by decide +kernel
theorem dL_splits_72 : decode cL_splits 72 = .ok (.istore 9, 2) := by decide +kernel
theorem dL_splits_74 : decode cL_splits 74 = .ok (.aload_n 0, 1) := by decide +kernel
theorem dL_splits_75 : decode cL_splits 75 = .ok (.iload_n 1, 1) := by decide +kernel
theorem dL_splits_76 : decode cL_splits 76 = .ok (.iload_n 2, 1) := by decide +kernel
theorem dL_splits_77 : decode cL_splits 77 = .ok (.iload_n 3, 1) := by decide +kernel
theorem dL_splits_78 : decode cL_splits 78 = .ok (.invokevirtual 65, 3) := by decide +kernel
theorem dL_splits_81 : decode cL_splits 81 = .ok (.iload 9, 2) := by decide +kernel
theorem dL_splits_83 : decode cL_splits 83 = .ok (.if_icmp .ne 29, 3) := by decide +kernel
theorem dL_splits_86 : decode cL_splits 86 = .ok (.aload_n 0, 1) := by decide +kernel
theorem dL_splits_87 : decode cL_splits 87 = .ok (.iload_n 1, 1) := by decide +kernel
theorem dL_splits_88 : decode cL_splits 88 = .ok (.iload_n 2, 1) := by decide +kernel
theorem dL_splits_89 : decode cL_splits 89 = .ok (.sipush 2000, 3) := by decide +kernel
theorem dL_splits_92 : decode cL_splits 92 = .ok (.invokevirtual 65, 3) := by decide +kernel
theorem dL_splits_95 : decode cL_splits 95 = .ok (.bipush (-2), 2) := by decide +kernel
theorem dL_splits_97 : decode cL_splits 97 = .ok (.if_icmp .ne 15, 3) := by decide +kernel
theorem dL_splits_100 : decode cL_splits 100 = .ok (.aload_n 0, 1) := by decide +kernel
theorem dL_splits_101 : decode cL_splits 101 = .ok (.iload_n 1, 1) := by decide +kernel
theorem dL_splits_102 : decode cL_splits 102 = .ok (.iload_n 2, 1) := by decide +kernel
theorem dL_splits_103 : decode cL_splits 103 = .ok (.iconst 0, 1) := by decide +kernel
theorem dL_splits_104 : decode cL_splits 104 = .ok (.invokevirtual 65, 3) := by decide +kernel
theorem dL_splits_107 : decode cL_splits 107 = .ok (.bipush (-2), 2) := by decide +kernel
theorem dL_splits_109 : decode cL_splits 109 = .ok (.if_icmp .eq 5, 3) := by decide +kernel
theorem dL_splits_112 : decode cL_splits 112 = .ok (.iconst 0, 1) := by decide +kernel
theorem dL_splits_113 : decode cL_splits 113 = .ok (.ireturn, 1) := by decide +kernel
theorem dL_splits_114 : decode cL_splits 114 = .ok (.iload 9, 2) := by decide +kernel
theorem dL_splits_116 : decode cL_splits 116 = .ok (.ifCond .lt 82, 3) := by decide +kernel
theorem dL_splits_119 : decode cL_splits 119 = .ok (.aload_n 0, 1) := by decide +kernel
theorem dL_splits_120 : decode cL_splits 120 = .ok (.iload_n 1, 1) := by decide +kernel
theorem dL_splits_121 : decode cL_splits 121 = .ok (.iload_n 2, 1) := by decide +kernel
theorem dL_splits_122 : decode cL_splits 122 = .ok (.iconst 2, 1) := by decide +kernel
theorem dL_splits_123 : decode cL_splits 123 = .ok (.invokevirtual 19, 3) := by decide +kernel
theorem dL_splits_126 : decode cL_splits 126 = .ok (.iload_n 3, 1) := by decide +kernel
theorem dL_splits_127 : decode cL_splits 127 = .ok (.if_icmp .ne 75, 3) := by decide +kernel
theorem dL_splits_130 : decode cL_splits 130 = .ok (.aload_n 0, 1) := by decide +kernel
theorem dL_splits_131 : decode cL_splits 131 = .ok (.iload_n 1, 1) := by decide +kernel
theorem dL_splits_132 : decode cL_splits 132 = .ok (.iload_n 2, 1) := by decide +kernel
theorem dL_splits_133 : decode cL_splits 133 = .ok (.iconst 1, 1) := by decide +kernel
theorem dL_splits_134 : decode cL_splits 134 = .ok (.iadd, 1) := by decide +kernel
theorem dL_splits_135 : decode cL_splits 135 = .ok (.iconst 2, 1) := by decide +kernel
theorem dL_splits_136 : decode cL_splits 136 = .ok (.invokevirtual 19, 3) := by decide +kernel
theorem dL_splits_139 : decode cL_splits 139 = .ok (.iload 5, 2) := by decide +kernel
theorem dL_splits_141 : decode cL_splits 141 = .ok (.iload_n 3, 1) := by decide +kernel
theorem dL_splits_142 : decode cL_splits 142 = .ok (.isub, 1) := by decide +kernel
theorem dL_splits_143 : decode cL_splits 143 = .ok (.if_icmp .ne 59, 3) := by decide +kernel
theorem dL_splits_146 : decode cL_splits 146 = .ok (.aload_n 0, 1) := by decide +kernel
theorem dL_splits_147 : decode cL_splits 147 = .ok (.iload_n 1, 1) := by decide +kernel
theorem dL_splits_148 : decode cL_splits 148 = .ok (.iload_n 2, 1) := by decide +kernel
theorem dL_splits_149 : decode cL_splits 149 = .ok (.iconst 3, 1) := by decide +kernel
theorem dL_splits_150 : decode cL_splits 150 = .ok (.invokevirtual 19, 3) := by decide +kernel
theorem dL_splits_153 : decode cL_splits 153 = .ok (.iload 6, 2) := by decide +kernel
theorem dL_splits_155 : decode cL_splits 155 = .ok (.if_icmp .ne 47, 3) := by decide +kernel
theorem dL_splits_158 : decode cL_splits 158 = .ok (.aload_n 0, 1) := by decide +kernel
theorem dL_splits_159 : decode cL_splits 159 = .ok (.iload_n 1, 1) := by decide +kernel
theorem dL_splits_160 : decode cL_splits 160 = .ok (.iload_n 2, 1) := by decide +kernel
theorem dL_splits_161 : decode cL_splits 161 = .ok (.iconst 1, 1) := by decide +kernel
theorem dL_splits_162 : decode cL_splits 162 = .ok (.iadd, 1) := by decide +kernel
theorem dL_splits_163 : decode cL_splits 163 = .ok (.iconst 3, 1) := by decide +kernel
theorem dL_splits_164 : decode cL_splits 164 = .ok (.invokevirtual 19, 3) := by decide +kernel
theorem dL_splits_167 : decode cL_splits 167 = .ok (.ifCond .ne 35, 3) := by decide +kernel
theorem dL_splits_170 : decode cL_splits 170 = .ok (.aload_n 0, 1) := by decide +kernel
theorem dL_splits_171 : decode cL_splits 171 = .ok (.iload_n 1, 1) := by decide +kernel
theorem dL_splits_172 : decode cL_splits 172 = .ok (.iload_n 2, 1) := by decide +kernel
theorem dL_splits_173 : decode cL_splits 173 = .ok (.iconst 1, 1) := by decide +kernel
theorem dL_splits_174 : decode cL_splits 174 = .ok (.iadd, 1) := by decide +kernel
theorem dL_splits_175 : decode cL_splits 175 = .ok (.iconst 0, 1) := by decide +kernel
theorem dL_splits_176 : decode cL_splits 176 = .ok (.invokevirtual 32, 3) := by decide +kernel
theorem dL_splits_179 : decode cL_splits 179 = .ok (.iload 7, 2) := by decide +kernel
theorem dL_splits_181 : decode cL_splits 181 = .ok (.if_icmp .ne 21, 3) := by decide +kernel
theorem dL_splits_184 : decode cL_splits 184 = .ok (.aload_n 0, 1) := by decide +kernel
theorem dL_splits_185 : decode cL_splits 185 = .ok (.iload_n 1, 1) := by decide +kernel
theorem dL_splits_186 : decode cL_splits 186 = .ok (.iload_n 2, 1) := by decide +kernel
theorem dL_splits_187 : decode cL_splits 187 = .ok (.iconst 1, 1) := by decide +kernel
theorem dL_splits_188 : decode cL_splits 188 = .ok (.iadd, 1) := by decide +kernel
theorem dL_splits_189 : decode cL_splits 189 = .ok (.iconst 0, 1) := by decide +kernel
theorem dL_splits_190 : decode cL_splits 190 = .ok (.invokevirtual 19, 3) := by decide +kernel
theorem dL_splits_193 : decode cL_splits 193 = .ok (.iload 8, 2) := by decide +kernel
theorem dL_splits_195 : decode cL_splits 195 = .ok (.if_icmp .ne 7, 3) := by decide +kernel
theorem dL_splits_198 : decode cL_splits 198 = .ok (.iconst 1, 1) := by decide +kernel
theorem dL_splits_199 : decode cL_splits 199 = .ok (.goto 4, 3) := by decide +kernel
theorem dL_splits_202 : decode cL_splits 202 = .ok (.iconst 0, 1) := by decide +kernel
theorem dL_splits_203 : decode cL_splits 203 = .ok (.ireturn, 1) := by decide +kernel
set_option maxRecDepth 200000 in
theorem ggL_parts_X9_group : GoodIn wsL_parts wsX9_group := goodIn_r _ [5, 6, 7, 8, 9, 10, 11, 12, 13, 14, 15, 4, 16, 17, 18, 19, 20, 21, 22, 23, 24, 25, 26, 27, 28, 29, 30, 31, 32, 33, 34, 35, 36, 37, 38, 39, 40, 41, 42, 43, 44, 45, 46, 47, 48, 49, 50, 51, 52, 53, 54, 55, 56, 57, 58, 59, 60, 61, 62, 63, 64, 65, 66, 67, 68, 69, 70, 71, 72, 73, 74, 75, 76, 77, 78, 79, 80, 81, 82, 83, 84, 85, 86, 87, 88, 89, 90, 91, 92, 93, 94, 95, 96, 97, 98, 99, 100, 101, 102, 103, 104, 105, 106, 107, 108, 109, 110, 111, 112, 113, 114, 115, 116, 117, 118, 119, 120, 121, 122, 123, 124, 125, 126, 127, 209, 210, 211, 212, 213, 214, 215, 216, 217, 218, 219, 220, 221, 222, 223, 224, 225, 226, 227, 228, 229, 230, 231, 232, 233, 234, 235, 236] rfl (by decide +kernel)
set_option maxRecDepth 20000 in
theorem gL_parts_X9_group : GoodIn wsL_parts (wsV RL 22 RX9 yX9_group wsX9_group) := goodIn_app (goodIn_of _ (by decide +kernel)) ggL_parts_X9_group
set_option maxRecDepth 200000 in
theorem ggL_parts_X9_count : GoodIn wsL_parts wsX9_count := goodIn_r _ [131, 6, 7, 132, 14, 15, 4, 16, 133, 134, 135, 55, 136, 66, 73, 74, 75, 76, 77, 62, 63, 64, 65, 50, 51, 17, 18, 19, 20, 21, 22, 23, 24, 25, 26, 27, 28, 29, 30, 31, 32, 33, 34, 35, 36, 37, 38, 39, 40, 41, 42, 43, 44, 45, 11, 46, 47, 48, 49, 9, 10, 12, 13, 52, 53, 54, 56, 57, 58, 59, 60, 61, 67, 68, 69, 70, 71, 72, 78, 79, 80, 81, 82, 83, 84, 85, 86, 87, 88, 89, 90, 91, 92, 93, 94, 95, 96, 97, 137, 138, 139, 140, 141, 99, 100, 101, 102, 209, 210, 211, 212, 213, 214, 215, 216, 217, 218, 233, 234, 235, 236, 219, 220, 221, 222, 223, 224, 225, 226, 227, 228, 229, 230, 231, 232, 237, 238] rfl (by decide +kernel)
set_option maxRecDepth 20000 in
theorem gL_parts_X9_count : GoodIn wsL_parts (wsV RL 9 RX9 yX9_count wsX9_count) := goodIn_app (goodIn_of _ (by decide +kernel)) ggL_parts_X9_count
set_option maxRecDepth 200000 in
theorem ggL_parts_X9_part : GoodIn wsL_parts wsX9_part := goodIn_r _ [145, 6, 132, 8, 9, 10, 11, 12, 13, 14, 15, 4, 16, 107, 44, 45, 46, 47, 48, 49, 50, 51, 146, 147, 148, 149, 150, 151, 152, 153, 154, 155, 156, 157, 158, 159, 160, 161, 162, 163, 164, 165, 166, 167, 55, 168, 77, 61, 86, 66, 169, 170, 171, 23, 24, 25, 172, 173, 174, 175, 176, 177, 178, 179, 180, 181, 182, 183, 102, 184, 185, 186, 187, 188, 189, 209, 210, 211, 212, 213, 214, 215, 216, 217, 218, 219, 220, 221, 237, 238, 233, 234, 235, 236] rfl (by decide +kernel)
set_option maxRecDepth 20000 in
theorem gL_parts_X9_part : GoodIn wsL_parts (wsV RL 68 RX9 yX9_part wsX9_part) := goodIn_app (goodIn_of _ (by decide +kernel)) ggL_parts_X9_part
set_option maxRecDepth 200000 in
theorem ggL_parts_X9_link : GoodIn wsL_parts wsX9_link := goodIn_r _ [193, 6, 132, 8, 9, 10, 11, 12, 13, 146, 147, 148, 149, 150, 151, 152, 153, 154, 155, 156, 15, 4, 16, 157, 158, 159, 160, 161, 162, 163, 164, 165, 166, 167, 55, 168, 77, 61, 86, 66, 169, 170, 171, 23, 24, 25, 172, 173, 174, 175, 176, 177, 178, 179, 47, 48, 194, 195, 196, 197, 49, 198, 109, 110, 111, 102, 44, 45, 46, 50, 51, 186, 187, 188, 189, 199, 200, 14, 209, 210, 211, 212, 213, 214, 215, 216, 217, 218, 219, 220, 221, 237, 238, 233, 234, 235, 236] rfl (by decide +kernel)
set_option maxRecDepth 20000 in
theorem gL_parts_X9_link : GoodIn wsL_parts (wsV RL 71 RX9 yX9_link wsX9_link) := goodIn_app (goodIn_of _ (by decide +kernel)) ggL_parts_X9_link
set_option maxRecDepth 200000 in
theorem ggL_parts_X9_undo : GoodIn wsL_parts wsX9_undo := goodIn_r _ [204, 132, 6, 205, 206, 207, 149, 208, 151, 152, 157, 158, 159, 160, 161, 162, 163, 164, 165, 166, 167, 55, 168, 77, 61, 86, 66, 169, 4, 170, 171, 23, 24, 25, 172, 173, 174, 175, 176, 177, 178, 11, 179, 47, 48, 13, 209, 210, 211, 212, 213, 214, 215, 237, 238, 216, 217, 218, 233, 234, 235, 236, 219, 220, 221] rfl (by decide +kernel)
set_option maxRecDepth 20000 in
theorem gL_parts_X9_undo : GoodIn wsL_parts (wsV RL 59 RX9 yX9_undo wsX9_undo) := goodIn_app (goodIn_of _ (by decide +kernel)) ggL_parts_X9_undo
theorem dL_parts_0 : decode cL_parts 0 = .ok (.aload_n 0, 1) := by decide +kernel
theorem dL_parts_1 : decode cL_parts 1 = .ok (.iload_n 1, 1) := by decide +kernel
theorem dL_parts_2 : decode cL_parts 2 = .ok (.iconst 2, 1) := by decide +kernel
theorem dL_parts_3 : decode cL_parts 3 = .ok (.invokevirtual 22, 3) := by decide +kernel
theorem dL_parts_6 : decode cL_parts 6 = .ok (.istore 4, 2) := by decide +kernel
theorem dL_parts_8 : decode cL_parts 8 = .ok (.aload_n 0, 1) := by decide +kernel
theorem dL_parts_9 : decode cL_parts 9 = .ok (.iload_n 1, 1) := by decide +kernel
theorem dL_parts_10 : decode cL_parts 10 = .ok (.iconst 4, 1) := by decide +kernel
theorem dL_parts_11 : decode cL_parts 11 = .ok (.invokevirtual 22, 3) := by decide +kernel
theorem dL_parts_14 : decode cL_parts 14 = .ok (.istore 5, 2) := by decide +kernel
theorem dL_parts_16 : decode cL_parts 16 = .ok (.aload_n 0, 1) := by decide +kernel
theorem dL_parts_17 : decode cL_parts 17 = .ok (.iconst 4, 1) := by decide +kernel
theorem dL_parts_18 : decode cL_parts 18 = .ok (.invokevirtual 9, 3) := by decide +kernel
theorem dL_parts_21 : decode cL_parts 21 = .ok (.istore 6, 2) := by decide +kernel
theorem dL_parts_23 : decode cL_parts 23 = .ok (.iload_n 2, 1) := by decide +kernel
theorem dL_parts_24 : decode cL_parts 24 = .ok (.iload 4, 2) := by decide +kernel
theorem dL_parts_26 : decode cL_parts 26 = .ok (.if_icmp .gt 30, 3) := by decide +kernel
theorem dL_parts_29 : decode cL_parts 29 = .ok (.iload_n 3, 1) := by decide +kernel
theorem dL_parts_30 : decode cL_parts 30 = .ok (.iload 5, 2) := by decide +kernel
theorem dL_parts_32 : decode cL_parts 32 = .ok (.if_icmp .gt 24, 3) := by decide +kernel
theorem dL_parts_35 : decode cL_parts 35 = .ok (.iload_n 2, 1) := by decide +kernel
theorem dL_parts_36 : decode cL_parts 36 = .ok (.iload_n 3, 1) := by decide +kernel
theorem dL_parts_37 : decode cL_parts 37 = .ok (.iadd, 1) := by decide +kernel
theorem dL_parts_38 : decode cL_parts 38 = .ok (.ifCond .le 18, 3) := by decide +kernel
theorem dL_parts_41 : decode cL_parts 41 = .ok (.iload_n 2, 1) := by decide +kernel
theorem dL_parts_42 : decode cL_parts 42 = .ok (.iload_n 3, 1) := by decide +kernel
theorem dL_parts_43 : decode cL_parts 43 = .ok (.iadd, 1) := by decide +kernel
theorem dL_parts_44 : decode cL_parts 44 = .ok (.iload 4, 2) := by decide +kernel
theorem dL_parts_46 : decode cL_parts 46 = .ok (.iload 5, 2) := by decide +kernel
theorem dL_parts_48 : decode cL_parts 48 = .ok (.iadd, 1) := by decide +kernel
theorem dL_parts_49 : decode cL_parts 49 = .ok (.if_icmp .ge 7, 3) := by decide +kernel
theorem dL_parts_52 : decode cL_parts 52 = .ok (.iconst 1, 1) := by decide +kernel
theorem dL_parts_53 : decode cL_parts 53 = .ok (.goto 4, 3) := by decide +kernel
theorem dL_parts_56 : decode cL_parts 56 = .ok (.iconst 0, 1) := by decide +kernel
theorem dL_parts_57 : decode cL_parts 57 = .ok (.istore 7, 2) := by decide +kernel
theorem dL_parts_59 : decode cL_parts 59 = .ok (.aload_n 0, 1) := by decide +kernel
theorem dL_parts_60 : decode cL_parts 60 = .ok (.iload_n 1, 1) := by decide +kernel
theorem dL_parts_61 : decode cL_parts 61 = .ok (.iload_n 2, 1) := by decide +kernel
theorem dL_parts_62 : decode cL_parts 62 = .ok (.iload_n 3, 1) := by decide +kernel
theorem dL_parts_63 : decode cL_parts 63 = .ok (.invokevirtual 68, 3) := by decide +kernel
theorem dL_parts_66 : decode cL_parts 66 = .ok (.iload 7, 2) := by decide +kernel
theorem dL_parts_68 : decode cL_parts 68 = .ok (.ifCond .eq 10, 3) := by decide +kernel
theorem dL_parts_71 : decode cL_parts 71 = .ok (.iload 6, 2) := by decide +kernel
theorem dL_parts_73 : decode cL_parts 73 = .ok (.iconst 1, 1) := by decide +kernel
theorem dL_parts_74 : decode cL_parts 74 = .ok (.iadd, 1) := by decide +kernel
theorem dL_parts_75 : decode cL_parts 75 = .ok (.goto 5, 3) := by decide +kernel
theorem dL_parts_78 : decode cL_parts 78 = .ok (.bipush (-4), 2) := by decide +kernel
theorem dL_parts_80 : decode cL_parts 80 = .ok (.if_icmp .ne 31, 3) := by decide +kernel
theorem dL_parts_83 : decode cL_parts 83 = .ok (.aload_n 0, 1) := by decide +kernel
theorem dL_parts_84 : decode cL_parts 84 = .ok (.iload_n 1, 1) := by decide +kernel
theorem dL_parts_85 : decode cL_parts 85 = .ok (.bipush 61, 2) := by decide +kernel
theorem dL_parts_87 : decode cL_parts 87 = .ok (.iconst 0, 1) := by decide +kernel
theorem dL_parts_88 : decode cL_parts 88 = .ok (.invokevirtual 68, 3) := by decide +kernel
theorem dL_parts_91 : decode cL_parts 91 = .ok (.bipush (-2), 2) := by decide +kernel
theorem dL_parts_93 : decode cL_parts 93 = .ok (.if_icmp .ne 18, 3) := by decide +kernel
theorem dL_parts_96 : decode cL_parts 96 = .ok (.aload_n 0, 1) := by decide +kernel
theorem dL_parts_97 : decode cL_parts 97 = .ok (.aload_n 0, 1) := by decide +kernel
theorem dL_parts_98 : decode cL_parts 98 = .ok (.iconst 4, 1) := by decide +kernel
theorem dL_parts_99 : decode cL_parts 99 = .ok (.invokevirtual 9, 3) := by decide +kernel
theorem dL_parts_102 : decode cL_parts 102 = .ok (.iconst 0, 1) := by decide +kernel
theorem dL_parts_103 : decode cL_parts 103 = .ok (.iconst 0, 1) := by decide +kernel
theorem dL_parts_104 : decode cL_parts 104 = .ok (.invokevirtual 68, 3) := by decide +kernel
theorem dL_parts_107 : decode cL_parts 107 = .ok (.iconst (-1), 1) := by decide +kernel
theorem dL_parts_108 : decode cL_parts 108 = .ok (.if_icmp .eq 5, 3) := by decide +kernel
theorem dL_parts_111 : decode cL_parts 111 = .ok (.iconst 0, 1) := by decide +kernel
theorem dL_parts_112 : decode cL_parts 112 = .ok (.ireturn, 1) := by decide +kernel
theorem dL_parts_113 : decode cL_parts 113 = .ok (.iload 7, 2) := by decide +kernel
theorem dL_parts_115 : decode cL_parts 115 = .ok (.ifCond .ne 19, 3) := by decide +kernel
theorem dL_parts_118 : decode cL_parts 118 = .ok (.aload_n 0, 1) := by decide +kernel
theorem dL_parts_119 : decode cL_parts 119 = .ok (.iconst 4, 1) := by decide +kernel
theorem dL_parts_120 : decode cL_parts 120 = .ok (.invokevirtual 9, 3) := by decide +kernel
theorem dL_parts_123 : decode cL_parts 123 = .ok (.iload 6, 2) := by decide +kernel
theorem dL_parts_125 : decode cL_parts 125 = .ok (.if_icmp .ne 7, 3) := by decide +kernel
theorem dL_parts_128 : decode cL_parts 128 = .ok (.iconst 1, 1) := by decide +kernel
theorem dL_parts_129 : decode cL_parts 129 = .ok (.goto 4, 3) := by decide +kernel
theorem dL_parts_132 : decode cL_parts 132 = .ok (.iconst 0, 1) := by decide +kernel
theorem dL_parts_133 : decode cL_parts 133 = .ok (.ireturn, 1) := by decide +kernel
theorem dL_parts_134 : decode cL_parts 134 = .ok (.aload_n 0, 1) := by decide +kernel
theorem dL_parts_135 : decode cL_parts 135 = .ok (.iload_n 1, 1) := by decide +kernel
theorem dL_parts_136 : decode cL_parts 136 = .ok (.iconst 2, 1) := by decide +kernel
theorem dL_parts_137 : decode cL_parts 137 = .ok (.invokevirtual 22, 3) := by decide +kernel
theorem dL_parts_140 : decode cL_parts 140 = .ok (.iload_n 2, 1) := by decide +kernel
theorem dL_parts_141 : decode cL_parts 141 = .ok (.if_icmp .ne 47, 3) := by decide +kernel
theorem dL_parts_144 : decode cL_parts 144 = .ok (.aload_n 0, 1) := by decide +kernel
theorem dL_parts_145 : decode cL_parts 145 = .ok (.iload_n 1, 1) := by decide +kernel
theorem dL_parts_146 : decode cL_parts 146 = .ok (.iconst 4, 1) := by decide +kernel
theorem dL_parts_147 : decode cL_parts 147 = .ok (.invokevirtual 22, 3) := by decide +kernel
theorem dL_parts_150 : decode cL_parts 150 = .ok (.iload_n 3, 1) := by decide +kernel
theorem dL_parts_151 : decode cL_parts 151 = .ok (.if_icmp .ne 37, 3) := by decide +kernel
theorem dL_parts_154 : decode cL_parts 154 = .ok (.aload_n 0, 1) := by decide +kernel
theorem dL_parts_155 : decode cL_parts 155 = .ok (.iload_n 1, 1) := by decide +kernel
theorem dL_parts_156 : decode cL_parts 156 = .ok (.iconst 1, 1) := by decide +kernel
theorem dL_parts_157 : decode cL_parts 157 = .ok (.iadd, 1) := by decide +kernel
theorem dL_parts_158 : decode cL_parts 158 = .ok (.iconst 2, 1) := by decide +kernel
theorem dL_parts_159 : decode cL_parts 159 = .ok (.invokevirtual 22, 3) := by decide +kernel
theorem dL_parts_162 : decode cL_parts 162 = .ok (.iload 4, 2) := by decide +kernel
theorem dL_parts_164 : decode cL_parts 164 = .ok (.iload_n 2, 1) := by decide +kernel
theorem dL_parts_165 : decode cL_parts 165 = .ok (.isub, 1) := by decide +kernel
theorem dL_parts_166 : decode cL_parts 166 = .ok (.if_icmp .ne 22, 3) := by decide +kernel
theorem dL_parts_169 : decode cL_parts 169 = .ok (.aload_n 0, 1) := by decide +kernel
theorem dL_parts_170 : decode cL_parts 170 = .ok (.iload_n 1, 1) := by decide +kernel
theorem dL_parts_171 : decode cL_parts 171 = .ok (.iconst 1, 1) := by decide +kernel
theorem dL_parts_172 : decode cL_parts 172 = .ok (.iadd, 1) := by decide +kernel
theorem dL_parts_173 : decode cL_parts 173 = .ok (.iconst 4, 1) := by decide +kernel
theorem dL_parts_174 : decode cL_parts 174 = .ok (.invokevirtual 22, 3) := by decide +kernel
theorem dL_parts_177 : decode cL_parts 177 = .ok (.iload 5, 2) := by decide +kernel
theorem dL_parts_179 : decode cL_parts 179 = .ok (.iload_n 3, 1) := by decide +kernel
theorem dL_parts_180 : decode cL_parts 180 = .ok (.isub, 1) := by decide +kernel
theorem dL_parts_181 : decode cL_parts 181 = .ok (.if_icmp .ne 7, 3) := by decide +kernel
theorem dL_parts_184 : decode cL_parts 184 = .ok (.iconst 1, 1) := by decide +kernel
theorem dL_parts_185 : decode cL_parts 185 = .ok (.goto 4, 3) := by decide +kernel
theorem dL_parts_188 : decode cL_parts 188 = .ok (.iconst 0, 1) := by decide +kernel
theorem dL_parts_189 : decode cL_parts 189 = .ok (.istore 8, 2) := by decide +kernel
theorem dL_parts_191 : decode cL_parts 191 = .ok (.iload 8, 2) := by decide +kernel
theorem dL_parts_193 : decode cL_parts 193 = .ok (.ifCond .eq 58, 3) := by decide +kernel
theorem dL_parts_196 : decode cL_parts 196 = .ok (.aload_n 0, 1) := by decide +kernel
theorem dL_parts_197 : decode cL_parts 197 = .ok (.iload_n 1, 1) := by decide +kernel
theorem dL_parts_198 : decode cL_parts 198 = .ok (.invokevirtual 71, 3) := by decide +kernel
theorem dL_parts_201 : decode cL_parts 201 = .ok (.iload 6, 2) := by decide +kernel
theorem dL_parts_203 : decode cL_parts 203 = .ok (.if_icmp .ne 48, 3) := by decide +kernel
theorem dL_parts_206 : decode cL_parts 206 = .ok (.aload_n 0, 1) := by decide +kernel
theorem dL_parts_207 : decode cL_parts 207 = .ok (.iload_n 1, 1) := by decide +kernel
theorem dL_parts_208 : decode cL_parts 208 = .ok (.iconst 2, 1) := by decide +kernel
theorem dL_parts_209 : decode cL_parts 209 = .ok (.invokevirtual 22, 3) := by decide +kernel
theorem dL_parts_212 : decode cL_parts 212 = .ok (.iload 4, 2) := by decide +kernel
theorem dL_parts_214 : decode cL_parts 214 = .ok (.if_icmp .ne 37, 3) := by decide +kernel
theorem dL_parts_217 : decode cL_parts 217 = .ok (.aload_n 0, 1) := by decide +kernel
theorem dL_parts_218 : decode cL_parts 218 = .ok (.iload_n 1, 1) := by decide +kernel
theorem dL_parts_219 : decode cL_parts 219 = .ok (.iconst 4, 1) := by decide +kernel
theorem dL_parts_220 : decode cL_parts 220 = .ok (.invokevirtual 22, 3) := by decide +kernel
theorem dL_parts_223 : decode cL_parts 223 = .ok (.iload 5, 2) := by decide +kernel
theorem dL_parts_225 : decode cL_parts 225 = .ok (.if_icmp .ne 26, 3) := by decide +kernel
theorem dL_parts_228 : decode cL_parts 228 = .ok (.aload_n 0, 1) := by decide +kernel
theorem dL_parts_229 : decode cL_parts 229 = .ok (.invokevirtual 59, 3) := by decide +kernel
theorem dL_parts_232 : decode cL_parts 232 = .ok (.ifCond .lt 19, 3) := by decide +kernel
theorem dL_parts_235 : decode cL_parts 235 = .ok (.aload_n 0, 1) := by decide +kernel
theorem dL_parts_236 : decode cL_parts 236 = .ok (.iconst 4, 1) := by decide +kernel
theorem dL_parts_237 : decode cL_parts 237 = .ok (.invokevirtual 9, 3) := by decide +kernel
theorem dL_parts_240 : decode cL_parts 240 = .ok (.iload 6, 2) := by decide +kernel
theorem dL_parts_242 : decode cL_parts 242 = .ok (.iconst 1, 1) := by decide +kernel
theorem dL_parts_243 : decode cL_parts 243 = .ok (.iadd, 1) := by decide +kernel
theorem dL_parts_244 : decode cL_parts 244 = .ok (.if_icmp .ne 7, 3) := by decide +kernel
theorem dL_parts_247 : decode cL_parts 247 = .ok (.iconst 1, 1) := by decide +kernel
theorem dL_parts_248 : decode cL_parts 248 = .ok (.goto 4, 3) := by decide +kernel
theorem dL_parts_251 : decode cL_parts 251 = .ok (.iconst 0, 1) := by decide +kernel
theorem dL_parts_252 : decode cL_parts 252 = .ok (.ireturn, 1) := by decide +kernel
set_option maxRecDepth 200000 in
theorem ggL_turns_X9_count : GoodIn wsL_turns wsX9_count := goodIn_r _ [5, 6, 7, 8, 9, 10, 4, 11, 12, 13, 14, 15, 16, 17, 18, 19, 20, 21, 22, 23, 24, 25, 26, 27, 28, 29, 30, 31, 32, 33, 34, 35, 36, 37, 38, 39, 40, 41, 42, 43, 44, 45, 46, 47, 48, 49, 50, 51, 52, 53, 54, 55, 56, 57, 58, 59, 60, 61, 62, 63, 64, 65, 66, 67, 68, 69, 70, 71, 72, 73, 74, 75, 76, 77, 78, 79, 80, 81, 82, 83, 84, 85, 86, 87, 88, 89, 90, 91, 92, 93, 94, 95, 96, 97, 98, 99, 100, 101, 102, 103, 104, 105, 106, 107, 108, 109, 110, 192, 193, 194, 195, 196, 197, 198, 199, 200, 201, 202, 203, 204, 205, 206, 207, 208, 209, 210, 211, 212, 213, 214, 215, 216, 217, 218, 219, 220, 221] rfl (by decide +kernel)
set_option maxRecDepth 20000 in
theorem gL_turns_X9_count : GoodIn wsL_turns (wsV RL 9 RX9 yX9_count wsX9_count) := goodIn_app (goodIn_of _ (by decide +kernel)) ggL_turns_X9_count
set_option maxRecDepth 200000 in
theorem ggL_turns_X9_exchange : GoodIn wsL_turns wsX9_exchange := goodIn_r _ [114, 8, 6, 115, 116, 117, 118, 119, 120, 121, 122, 123, 124, 125, 10, 4, 11, 126, 127, 128, 129, 130, 131, 132, 133, 134, 135, 136, 15, 137, 22, 75, 90, 17, 138, 139, 140, 35, 36, 37, 141, 142, 143, 144, 145, 146, 147, 58, 148, 60, 61, 66, 149, 150, 151, 152, 153, 154, 155, 156, 157, 158, 159, 160, 110, 56, 57, 59, 62, 63, 64, 65, 27, 28, 192, 193, 194, 195, 196, 197, 198, 199, 200, 201, 220, 221, 202, 203, 204, 205, 206, 207, 208] rfl (by decide +kernel)
set_option maxRecDepth 20000 in
theorem gL_turns_X9_exchange : GoodIn wsL_turns (wsV RL 74 RX9 yX9_exchange wsX9_exchange) := goodIn_app (goodIn_of _ (by decide +kernel)) ggL_turns_X9_exchange
