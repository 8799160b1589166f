theorem dJ9_abs_0f7a4_0 : decode cJ9_abs_0f7a4 0 = .ok (.iload_n 0, 1) := by decide +kernel
theorem dJ9_abs_0f7a4_1 : decode cJ9_abs_0f7a4 1 = .ok (.ifCond .ge 8, 3) := by decide +kernel
theorem dJ9_abs_0f7a4_4 : decode cJ9_abs_0f7a4 4 = .ok (.iload_n 0, 1) := by decide +kernel
theorem dJ9_abs_0f7a4_5 : decode cJ9_abs_0f7a4 5 = .ok (.ineg, 1) := by decide +kernel
theorem dJ9_abs_0f7a4_6 : decode cJ9_abs_0f7a4 6 = .ok (.goto 4, 3) := by decide +kernel
theorem dJ9_abs_0f7a4_9 : decode cJ9_abs_0f7a4 9 = .ok (.iload_n 0, 1) := by decide +kernel
theorem dJ9_abs_0f7a4_10 : decode cJ9_abs_0f7a4 10 = .ok (.ireturn, 1) := by decide +kernel
theorem dJ9_max_7cf53_0 : decode cJ9_max_7cf53 0 = .ok (.iload_n 0, 1) := by decide +kernel
theorem dJ9_max_7cf53_1 : decode cJ9_max_7cf53 1 = .ok (.iload_n 1, 1) := by decide +kernel
theorem dJ9_max_7cf53_2 : decode cJ9_max_7cf53 2 = .ok (.if_icmp .lt 7, 3) := by decide +kernel
theorem dJ9_max_7cf53_5 : decode cJ9_max_7cf53 5 = .ok (.iload_n 0, 1) := by decide +kernel
theorem dJ9_max_7cf53_6 : decode cJ9_max_7cf53 6 = .ok (.goto 4, 3) := by decide +kernel
theorem dJ9_max_7cf53_9 : decode cJ9_max_7cf53 9 = .ok (.iload_n 1, 1) := by decide +kernel
theorem dJ9_max_7cf53_10 : decode cJ9_max_7cf53 10 = .ok (.ireturn, 1) := by decide +kernel
theorem dJ9_min_7cf53_0 : decode cJ9_min_7cf53 0 = .ok (.iload_n 0, 1) := by decide +kernel
theorem dJ9_min_7cf53_1 : decode cJ9_min_7cf53 1 = .ok (.iload_n 1, 1) := by decide +kernel
theorem dJ9_min_7cf53_2 : decode cJ9_min_7cf53 2 = .ok (.if_icmp .gt 7, 3) := by decide +kernel
theorem dJ9_min_7cf53_5 : decode cJ9_min_7cf53 5 = .ok (.iload_n 0, 1) := by decide +kernel
theorem dJ9_min_7cf53_6 : decode cJ9_min_7cf53 6 = .ok (.goto 4, 3) := by decide +kernel
theorem dJ9_min_7cf53_9 : decode cJ9_min_7cf53 9 = .ok (.iload_n 1, 1) := by decide +kernel
theorem dJ9_min_7cf53_10 : decode cJ9_min_7cf53 10 = .ok (.ireturn, 1) := by decide +kernel
theorem dL_cell_0 : decode cL_cell 0 = .ok (.iload_n 1, 1) := by decide +kernel
theorem dL_cell_1 : decode cL_cell 1 = .ok (.aload_n 0, 1) := by decide +kernel
theorem dL_cell_2 : decode cL_cell 2 = .ok (.arraylength, 1) := by decide +kernel
theorem dL_cell_3 : decode cL_cell 3 = .ok (.if_icmp .ge 9, 3) := by decide +kernel
theorem dL_cell_6 : decode cL_cell 6 = .ok (.aload_n 0, 1) := by decide +kernel
theorem dL_cell_7 : decode cL_cell 7 = .ok (.iload_n 1, 1) := by decide +kernel
theorem dL_cell_8 : decode cL_cell 8 = .ok (.iaload, 1) := by decide +kernel
theorem dL_cell_9 : decode cL_cell 9 = .ok (.goto 11, 3) := by decide +kernel
theorem dL_cell_12 : decode cL_cell 12 = .ok (.ldc 7, 2) := by decide +kernel
theorem dL_cell_14 : decode cL_cell 14 = .ok (.iload_n 1, 1) := by decide +kernel
theorem dL_cell_15 : decode cL_cell 15 = .ok (.imul, 1) := by decide +kernel
theorem dL_cell_16 : decode cL_cell 16 = .ok (.sipush 4903, 3) := by decide +kernel
theorem dL_cell_19 : decode cL_cell 19 = .ok (.iadd, 1) := by decide +kernel
theorem dL_cell_20 : decode cL_cell 20 = .ok (.ireturn, 1) := by decide +kernel
theorem dL_low_0 : decode cL_low 0 = .ok (.iload_n 0, 1) := by decide +kernel
theorem dL_low_1 : decode cL_low 1 = .ok (.ldc 8, 2) := by decide +kernel
theorem dL_low_3 : decode cL_low 3 = .ok (.iand, 1) := by decide +kernel
theorem dL_low_4 : decode cL_low 4 = .ok (.iload_n 1, 1) := by decide +kernel
theorem dL_low_5 : decode cL_low 5 = .ok (.irem, 1) := by decide +kernel
theorem dL_low_6 : decode cL_low 6 = .ok (.ireturn, 1) := by decide +kernel
set_option maxRecDepth 200000 in
theorem ggL_books_X9_count : GoodIn wsL_books wsX9_count := goodIn_r _ [5, 6, 7, 8, 9, 10, 4, 11, 12, 13, 14, 15, 16, 17, 18, 19, 20, 21, 22, 23, 24, 25, 26, 27, 28, 29, 30, 31, 32, 33, 34, 35, 36, 37, 38, 39, 40, 41, 42, 43, 44, 45, 46, 47, 48, 49, 50, 51, 52, 53, 54, 55, 56, 57, 58, 59, 60, 61, 62, 63, 64, 65, 66, 67, 68, 69, 70, 71, 72, 73, 74, 75, 76, 77, 78, 79, 80, 81, 82, 83, 84, 85, 86, 87, 88, 89, 90, 91, 92, 93, 94, 95, 96, 97, 98, 99, 100, 101, 102, 103, 104, 105, 106, 107, 108, 109, 110, 159, 160, 161, 162, 163, 164, 165, 166, 167, 168, 169, 170, 171, 172, 173, 174, 175, 176, 177, 178, 179, 180, 181, 182, 183, 184, 185, 186, 187, 188] rfl (by decide +kernel)
set_option maxRecDepth 20000 in
theorem gL_books_X9_count : GoodIn wsL_books (wsV RL 9 RX9 yX9_count wsX9_count) := goodIn_app (goodIn_of _ (by decide +kernel)) ggL_books_X9_count
set_option maxRecDepth 200000 in
theorem ggL_books_X9_chapter : GoodIn wsL_books wsX9_chapter := goodIn_r _ [114, 6, 115, 116, 4, 117, 118, 119, 120, 121, 122, 123, 124, 12, 13, 14, 15, 16, 17, 18, 19, 20, 21, 22, 23, 24, 25, 26, 27, 28, 9, 10, 11, 125, 126, 127, 128, 129, 130, 131, 132, 133, 134, 135, 136, 75, 159, 160, 161, 162, 163, 164, 165, 166, 167, 168, 169, 170, 171, 172] rfl (by decide +kernel)
set_option maxRecDepth 20000 in
theorem gL_books_X9_chapter : GoodIn wsL_books (wsV RL 15 RX9 yX9_chapter wsX9_chapter) := goodIn_app (goodIn_of _ (by decide +kernel)) ggL_books_X9_chapter
set_option maxRecDepth 200000 in
theorem ggL_books_X9_verse : GoodIn wsL_books wsX9_verse := goodIn_r _ [140, 6, 7, 141, 142, 143, 4, 144, 115, 116, 117, 118, 119, 120, 121, 122, 123, 124, 145, 24, 25, 15, 26, 17, 9, 10, 11, 146, 19, 20, 21, 22, 23, 27, 28, 147, 148, 149, 150, 18, 151, 126, 127, 128, 152, 72, 73, 74, 75, 153, 87, 88, 89, 90, 154, 155, 156, 32, 157, 44, 46, 158, 76, 77, 159, 160, 161, 162, 163, 164, 165, 166, 167, 168, 169, 170, 171, 172, 176, 177, 178, 179, 180, 181, 182, 183, 184, 185, 186] rfl (by decide +kernel)
set_option maxRecDepth 20000 in
theorem gL_books_X9_verse : GoodIn wsL_books (wsV RL 19 RX9 yX9_verse wsX9_verse) := goodIn_app (goodIn_of _ (by decide +kernel)) ggL_books_X9_verse
theorem dL_books_0 : decode cL_books 0 = .ok (.iconst 0, 1) := by decide +kernel
theorem dL_books_1 : decode cL_books 1 = .ok (.istore_n 2, 1) := by decide +kernel
theorem dL_books_2 : decode cL_books 2 = .ok (.iload_n 2, 1) := by decide +kernel
theorem dL_books_3 : decode cL_books 3 = .ok (.iconst 2, 1) := by decide +kernel
theorem dL_books_4 : decode cL_books 4 = .ok (.if_icmp .ge 316, 3) := by decide +kernel
theorem dL_books_7 : decode cL_books 7 = .ok (.iconst 0, 1) := by decide +kernel
theorem dL_books_8 : decode cL_books 8 = .ok (.istore_n 3, 1) := by decide +kernel
theorem dL_books_9 : decode cL_books 9 = .ok (.iconst 1, 1) := by decide +kernel
theorem dL_books_10 : decode cL_books 10 = .ok (.istore 4, 2) := by decide +kernel
theorem dL_books_12 : decode cL_books 12 = .ok (.iload 4, 2) := by decide +kernel
theorem dL_books_14 : decode cL_books 14 = .ok (.aload_n 0, 1) := by decide +kernel
theorem dL_books_15 : decode cL_books 15 = .ok (.iload_n 2, 1) := by decide +kernel
theorem dL_books_16 : decode cL_books 16 = .ok (.invokevirtual 9, 3) := by decide +kernel
theorem dL_books_19 : decode cL_books 19 = .ok (.if_icmp .gt 237, 3) := by decide +kernel
theorem dL_books_22 : decode cL_books 22 = .ok (.aload_n 0, 1) := by decide +kernel
theorem dL_books_23 : decode cL_books 23 = .ok (.iload_n 2, 1) := by decide +kernel
theorem dL_books_24 : decode cL_books 24 = .ok (.iload 4, 2) := by decide +kernel
theorem dL_books_26 : decode cL_books 26 = .ok (.iconst 1, 1) := by decide +kernel
theorem dL_books_27 : decode cL_books 27 = .ok (.invokevirtual 15, 3) := by decide +kernel
theorem dL_books_30 : decode cL_books 30 = .ok (.istore 5, 2) := by decide +kernel
theorem dL_books_32 : decode cL_books 32 = .ok (.iconst 0, 1) := by decide +kernel
theorem dL_books_33 : decode cL_books 33 = .ok (.istore 6, 2) := by decide +kernel
theorem dL_books_35 : decode cL_books 35 = .ok (.iload 5, 2) := by decide +kernel
theorem dL_books_37 : decode cL_books 37 = .ok (.iconst 1, 1) := by decide +kernel
theorem dL_books_38 : decode cL_books 38 = .ok (.if_icmp .lt 28, 3) := by decide +kernel
theorem dL_books_41 : decode cL_books 41 = .ok (.aload_n 0, 1) := by decide +kernel
theorem dL_books_42 : decode cL_books 42 = .ok (.iload_n 2, 1) := by decide +kernel
theorem dL_books_43 : decode cL_books 43 = .ok (.iload 4, 2) := by decide +kernel
theorem dL_books_45 : decode cL_books 45 = .ok (.iconst 0, 1) := by decide +kernel
theorem dL_books_46 : decode cL_books 46 = .ok (.invokevirtual 15, 3) := by decide +kernel
theorem dL_books_49 : decode cL_books 49 = .ok (.iload_n 3, 1) := by decide +kernel
theorem dL_books_50 : decode cL_books 50 = .ok (.if_icmp .ne 16, 3) := by decide +kernel
theorem dL_books_53 : decode cL_books 53 = .ok (.aload_n 0, 1) := by decide +kernel
theorem dL_books_54 : decode cL_books 54 = .ok (.iload_n 2, 1) := by decide +kernel
theorem dL_books_55 : decode cL_books 55 = .ok (.iload 4, 2) := by decide +kernel
theorem dL_books_57 : decode cL_books 57 = .ok (.iconst 3, 1) := by decide +kernel
theorem dL_books_58 : decode cL_books 58 = .ok (.invokevirtual 15, 3) := by decide +kernel
theorem dL_books_61 : decode cL_books 61 = .ok (.bipush (-2), 2) := by decide +kernel
theorem dL_books_63 : decode cL_books 63 = .ok (.if_icmp .eq 5, 3) := by decide +kernel
theorem dL_books_66 : decode cL_books 66 = .ok (.iconst 0, 1) := by decide +kernel
theorem dL_books_67 : decode cL_books 67 = .ok (.ireturn, 1) := by decide +kernel
theorem dL_books_68 : decode cL_books 68 = .ok (.iconst 0, 1) := by decide +kernel
theorem dL_books_69 : decode cL_books 69 = .ok (.istore 7, 2) := by decide +kernel
theorem dL_books_71 : decode cL_books 71 = .ok (.iload 7, 2) := by decide +kernel
theorem dL_books_73 : decode cL_books 73 = .ok (.iload 5, 2) := by decide +kernel
theorem dL_books_75 : decode cL_books 75 = .ok (.if_icmp .ge 155, 3) := by decide +kernel
theorem dL_books_78 : decode cL_books 78 = .ok (.aload_n 0, 1) := by decide +kernel
theorem dL_books_79 : decode cL_books 79 = .ok (.iload_n 2, 1) := by decide +kernel
theorem dL_books_80 : decode cL_books 80 = .ok (.iload_n 3, 1) := by decide +kernel
theorem dL_books_81 : decode cL_books 81 = .ok (.iload 7, 2) := by decide +kernel
theorem dL_books_83 : decode cL_books 83 = .ok (.iadd, 1) := by decide +kernel
theorem dL_books_84 : decode cL_books 84 = .ok (.iconst 2, 1) := by decide +kernel
theorem dL_books_85 : decode cL_books 85 = .ok (.invokevirtual 19, 3) := by decide +kernel
theorem dL_books_88 : decode cL_books 88 = .ok (.istore 8, 2) := by decide +kernel
theorem dL_books_90 : decode cL_books 90 = .ok (.aload_n 0, 1) := by decide +kernel
theorem dL_books_91 : decode cL_books 91 = .ok (.iload_n 2, 1) := by decide +kernel
theorem dL_books_92 : decode cL_books 92 = .ok (.iload_n 3, 1) := by decide +kernel
theorem dL_books_93 : decode cL_books 93 = .ok (.iload 7, 2) := by decide +kernel
theorem dL_books_95 : decode cL_books 95 = .ok (.iadd, 1) := by decide +kernel
theorem dL_books_96 : decode cL_books 96 = .ok (.iconst 4, 1) := by decide +kernel
theorem dL_books_97 : decode cL_books 97 = .ok (.invokevirtual 19, 3) := by decide +kernel
theorem dL_books_100 : decode cL_books 100 = .ok (.istore 9, 2) := by decide +kernel
theorem dL_books_102 : decode cL_books 102 = .ok (.iload 6, 2) := by decide +kernel
theorem dL_books_104 : decode cL_books 104 = .ok (.iload 8, 2) := by decide +kernel
theorem dL_books_106 : decode cL_books 106 = .ok (.iadd, 1) := by decide +kernel
theorem dL_books_107 : decode cL_books 107 = .ok (.istore 6, 2) := by decide +kernel
theorem dL_books_109 : decode cL_books 109 = .ok (.aload_n 0, 1) := by decide +kernel
theorem dL_books_110 : decode cL_books 110 = .ok (.iload_n 2, 1) := by decide +kernel
theorem dL_books_111 : decode cL_books 111 = .ok (.iload_n 3, 1) := by decide +kernel
theorem dL_books_112 : decode cL_books 112 = .ok (.iload 7, 2) := by decide +kernel
theorem dL_books_114 : decode cL_books 114 = .ok (.iadd, 1) := by decide +kernel
theorem dL_books_115 : decode cL_books 115 = .ok (.iconst 0, 1) := by decide +kernel
theorem dL_books_116 : decode cL_books 116 = .ok (.invokevirtual 19, 3) := by decide +kernel
theorem dL_books_119 : decode cL_books 119 = .ok (.iload 4, 2) := by decide +kernel
theorem dL_books_121 : decode cL_books 121 = .ok (.if_icmp .ne 101, 3) := by decide +kernel
theorem dL_books_124 : decode cL_books 124 = .ok (.aload_n 0, 1) := by decide +kernel
theorem dL_books_125 : decode cL_books 125 = .ok (.iload_n 2, 1) := by decide +kernel
theorem dL_books_126 : decode cL_books 126 = .ok (.iload_n 3, 1) := by decide +kernel
theorem dL_books_127 : decode cL_books 127 = .ok (.iload 7, 2) := by decide +kernel
theorem dL_books_129 : decode cL_books 129 = .ok (.iadd, 1) := by decide +kernel
theorem dL_books_130 : decode cL_books 130 = .ok (.iconst 1, 1) := by decide +kernel
theorem dL_books_131 : decode cL_books 131 = .ok (.invokevirtual 19, 3) := by decide +kernel
theorem dL_books_134 : decode cL_books 134 = .ok (.iload 7, 2) := by decide +kernel
theorem dL_books_136 : decode cL_books 136 = .ok (.iconst 1, 1) := by decide +kernel
theorem dL_books_137 : decode cL_books 137 = .ok (.iadd, 1) := by decide +kernel
theorem dL_books_138 : decode cL_books 138 = .ok (.if_icmp .ne 84, 3) := by decide +kernel
theorem dL_books_141 : decode cL_books 141 = .ok (.iload 8, 2) := by decide +kernel
theorem dL_books_143 : decode cL_books 143 = .ok (.iconst 1, 1) := by decide +kernel
theorem dL_books_144 : decode cL_books 144 = .ok (.if_icmp .lt 78, 3) := by decide +kernel
theorem dL_books_147 : decode cL_books 147 = .ok (.iload 8, 2) := by decide +kernel
theorem dL_books_149 : decode cL_books 149 = .ok (.sipush 2000, 3) := by decide +kernel
theorem dL_books_152 : decode cL_books 152 = .ok (.if_icmp .gt 70, 3) := by decide +kernel
theorem dL_books_155 : decode cL_books 155 = .ok (.aload_n 0, 1) := by decide +kernel
theorem dL_books_156 : decode cL_books 156 = .ok (.iload_n 2, 1) := by decide +kernel
theorem dL_books_157 : decode cL_books 157 = .ok (.iload_n 3, 1) := by decide +kernel
theorem dL_books_158 : decode cL_books 158 = .ok (.iload 7, 2) := by decide +kernel
theorem dL_books_160 : decode cL_books 160 = .ok (.iadd, 1) := by decide +kernel
theorem dL_books_161 : decode cL_books 161 = .ok (.iconst 3, 1) := by decide +kernel
theorem dL_books_162 : decode cL_books 162 = .ok (.invokevirtual 19, 3) := by decide +kernel
theorem dL_books_165 : decode cL_books 165 = .ok (.ifCond .lt 57, 3) := by decide +kernel
theorem dL_books_168 : decode cL_books 168 = .ok (.aload_n 0, 1) := by decide +kernel
theorem dL_books_169 : decode cL_books 169 = .ok (.iload_n 2, 1) := by decide +kernel
theorem dL_books_170 : decode cL_books 170 = .ok (.iload_n 3, 1) := by decide +kernel
theorem dL_books_171 : decode cL_books 171 = .ok (.iload 7, 2) := by decide +kernel
theorem dL_books_173 : decode cL_books 173 = .ok (.iadd, 1) := by decide +kernel
theorem dL_books_174 : decode cL_books 174 = .ok (.iconst 3, 1) := by decide +kernel
theorem dL_books_175 : decode cL_books 175 = .ok (.invokevirtual 19, 3) := by decide +kernel
theorem dL_books_178 : decode cL_books 178 = .ok (.bipush 10, 2) := by decide +kernel
theorem dL_books_180 : decode cL_books 180 = .ok (.if_icmp .gt 42, 3) := by decide +kernel
theorem dL_books_183 : decode cL_books 183 = .ok (.iload 9, 2) := by decide +kernel
theorem dL_books_185 : decode cL_books 185 = .ok (.aload_n 1, 1) := by decide +kernel
theorem dL_books_186 : decode cL_books 186 = .ok (.iload_n 2, 1) := by decide +kernel
theorem dL_books_187 : decode cL_books 187 = .ok (.iaload, 1) := by decide +kernel
theorem dL_books_188 : decode cL_books 188 = .ok (.imul, 1) := by decide +kernel
theorem dL_books_189 : decode cL_books 189 = .ok (.iload 8, 2) := by decide +kernel
theorem dL_books_191 : decode cL_books 191 = .ok (.if_icmp .lt 31, 3) := by decide +kernel
theorem dL_books_194 : decode cL_books 194 = .ok (.iload 9, 2) := by decide +kernel
theorem dL_books_196 : decode cL_books 196 = .ok (.iconst 1, 1) := by decide +kernel
theorem dL_books_197 : decode cL_books 197 = .ok (.isub, 1) := by decide +kernel
theorem dL_books_198 : decode cL_books 198 = .ok (.aload_n 1, 1) := by decide +kernel
theorem dL_books_199 : decode cL_books 199 = .ok (.iload_n 2, 1) := by decide +kernel
theorem dL_books_200 : decode cL_books 200 = .ok (.iaload, 1) := by decide +kernel
theorem dL_books_201 : decode cL_books 201 = .ok (.imul, 1) := by decide +kernel
theorem dL_books_202 : decode cL_books 202 = .ok (.iload 8, 2) := by decide +kernel
theorem dL_books_204 : decode cL_books 204 = .ok (.if_icmp .ge 18, 3) := by decide +kernel
theorem dL_books_207 : decode cL_books 207 = .ok (.aload_n 0, 1) := by decide +kernel
theorem dL_books_208 : decode cL_books 208 = .ok (.iload_n 2, 1) := by decide +kernel
theorem dL_books_209 : decode cL_books 209 = .ok (.iload_n 3, 1) := by decide +kernel
theorem dL_books_210 : decode cL_books 210 = .ok (.iload 7, 2) := by decide +kernel
theorem dL_books_212 : decode cL_books 212 = .ok (.iadd, 1) := by decide +kernel
theorem dL_books_213 : decode cL_books 213 = .ok (.iconst 5, 1) := by decide +kernel
theorem dL_books_214 : decode cL_books 214 = .ok (.invokevirtual 19, 3) := by decide +kernel
theorem dL_books_217 : decode cL_books 217 = .ok (.bipush (-2), 2) := by decide +kernel
theorem dL_books_219 : decode cL_books 219 = .ok (.if_icmp .eq 5, 3) := by decide +kernel
theorem dL_books_222 : decode cL_books 222 = .ok (.iconst 0, 1) := by decide +kernel
theorem dL_books_223 : decode cL_books 223 = .ok (.ireturn, 1) := by decide +kernel
theorem dL_books_224 : decode cL_books 224 = .ok (.iinc 7 1, 3) := by decide +kernel
theorem dL_books_227 : decode cL_books 227 = .ok (.goto (-156), 3) := by decide +kernel
theorem dL_books_230 : decode cL_books 230 = .ok (.aload_n 0, 1) := by decide +kernel
theorem dL_books_231 : decode cL_books 231 = .ok (.iload_n 2, 1) := by decide +kernel
theorem dL_books_232 : decode cL_books 232 = .ok (.iload 4, 2) := by decide +kernel
theorem dL_books_234 : decode cL_books 234 = .ok (.iconst 2, 1) := by decide +kernel
theorem dL_books_235 : decode cL_books 235 = .ok (.invokevirtual 15, 3) := by decide +kernel
theorem dL_books_238 : decode cL_books 238 = .ok (.iload 6, 2) := by decide +kernel
theorem dL_books_240 : decode cL_books 240 = .ok (.if_icmp .eq 5, 3) := by decide +kernel
theorem dL_books_243 : decode cL_books 243 = .ok (.iconst 0, 1) := by decide +kernel
theorem dL_books_244 : decode cL_books 244 = .ok (.ireturn, 1) := by decide +kernel
theorem dL_books_245 : decode cL_books 245 = .ok (.iload_n 3, 1) := by decide +kernel
theorem dL_books_246 : decode cL_books 246 = .ok (.iload 5, 2) := by decide +kernel
theorem dL_books_248 : decode cL_books 248 = .ok (.iadd, 1) := by decide +kernel
theorem dL_books_249 : decode cL_books 249 = .ok (.istore_n 3, 1) := by decide +kernel
theorem dL_books_250 : decode cL_books 250 = .ok (.iinc 4 1, 3) := by decide +kernel
theorem dL_books_253 : decode cL_books 253 = .ok (.goto (-241), 3) := by decide +kernel
theorem dL_books_256 : decode cL_books 256 = .ok (.aload_n 0, 1) := by decide +kernel
theorem dL_books_257 : decode cL_books 257 = .ok (.iconst 2, 1) := by decide +kernel
theorem dL_books_258 : decode cL_books 258 = .ok (.iload_n 2, 1) := by decide +kernel
theorem dL_books_259 : decode cL_books 259 = .ok (.iadd, 1) := by decide +kernel
theorem dL_books_260 : decode cL_books 260 = .ok (.invokevirtual 9, 3) := by decide +kernel
theorem dL_books_263 : decode cL_books 263 = .ok (.iload_n 3, 1) := by decide +kernel
theorem dL_books_264 : decode cL_books 264 = .ok (.if_icmp .ne 48, 3) := by decide +kernel
theorem dL_books_267 : decode cL_books 267 = .ok (.iload_n 3, 1) := by decide +kernel
theorem dL_books_268 : decode cL_books 268 = .ok (.bipush 60, 2) := by decide +kernel
theorem dL_books_270 : decode cL_books 270 = .ok (.if_icmp .gt 42, 3) := by decide +kernel
theorem dL_books_273 : decode cL_books 273 = .ok (.aload_n 0, 1) := by decide +kernel
theorem dL_books_274 : decode cL_books 274 = .ok (.iload_n 2, 1) := by decide +kernel
theorem dL_books_275 : decode cL_books 275 = .ok (.iload_n 3, 1) := by decide +kernel
theorem dL_books_276 : decode cL_books 276 = .ok (.iconst 0, 1) := by decide +kernel
theorem dL_books_277 : decode cL_books 277 = .ok (.invokevirtual 19, 3) := by decide +kernel
theorem dL_books_280 : decode cL_books 280 = .ok (.iconst (-1), 1) := by decide +kernel
theorem dL_books_281 : decode cL_books 281 = .ok (.if_icmp .ne 31, 3) := by decide +kernel
theorem dL_books_284 : decode cL_books 284 = .ok (.aload_n 0, 1) := by decide +kernel
theorem dL_books_285 : decode cL_books 285 = .ok (.iload_n 2, 1) := by decide +kernel
theorem dL_books_286 : decode cL_books 286 = .ok (.iconst 0, 1) := by decide +kernel
theorem dL_books_287 : decode cL_books 287 = .ok (.iconst 0, 1) := by decide +kernel
theorem dL_books_288 : decode cL_books 288 = .ok (.invokevirtual 15, 3) := by decide +kernel
theorem dL_books_291 : decode cL_books 291 = .ok (.iconst (-1), 1) := by decide +kernel
theorem dL_books_292 : decode cL_books 292 = .ok (.if_icmp .ne 20, 3) := by decide +kernel
theorem dL_books_295 : decode cL_books 295 = .ok (.aload_n 0, 1) := by decide +kernel
theorem dL_books_296 : decode cL_books 296 = .ok (.iload_n 2, 1) := by decide +kernel
theorem dL_books_297 : decode cL_books 297 = .ok (.aload_n 0, 1) := by decide +kernel
theorem dL_books_298 : decode cL_books 298 = .ok (.iload_n 2, 1) := by decide +kernel
theorem dL_books_299 : decode cL_books 299 = .ok (.invokevirtual 9, 3) := by decide +kernel
theorem dL_books_302 : decode cL_books 302 = .ok (.iconst 1, 1) := by decide +kernel
theorem dL_books_303 : decode cL_books 303 = .ok (.iadd, 1) := by decide +kernel
theorem dL_books_304 : decode cL_books 304 = .ok (.iconst 0, 1) := by decide +kernel
theorem dL_books_305 : decode cL_books 305 = .ok (.invokevirtual 15, 3) := by decide +kernel
theorem dL_books_308 : decode cL_books 308 = .ok (.iconst (-1), 1) := by decide +kernel
theorem dL_books_309 : decode cL_books 309 = .ok (.if_icmp .eq 5, 3) := by decide +kernel
theorem dL_books_312 : decode cL_books 312 = .ok (.iconst 0, 1) := by decide +kernel
theorem dL_books_313 : decode cL_books 313 = .ok (.ireturn, 1) := by decide +kernel
theorem dL_books_314 : decode cL_books 314 = .ok (.iinc 2 1, 3) := by decide +kernel
theorem dL_books_317 : decode cL_books 317 = .ok (.goto (-315), 3) := by decide +kernel
theorem dL_books_320 : decode cL_books 320 = .ok (.aload_n 0, 1) := by decide +kernel
theorem dL_books_321 : decode cL_books 321 = .ok (.iconst 2, 1) := by decide +kernel
theorem dL_books_322 : decode cL_books 322 = .ok (.iconst 0, 1) := by decide +kernel
theorem dL_books_323 : decode cL_books 323 = .ok (.iconst 0, 1) := by decide +kernel
theorem dL_books_324 : decode cL_books 324 = .ok (.invokevirtual 19, 3) := by decide +kernel
theorem dL_books_327 : decode cL_books 327 = .ok (.iconst (-1), 1) := by decide +kernel
theorem dL_books_328 : decode cL_books 328 = .ok (.if_icmp .ne 28, 3) := by decide +kernel
theorem dL_books_331 : decode cL_books 331 = .ok (.aload_n 0, 1) := by decide +kernel
theorem dL_books_332 : decode cL_books 332 = .ok (.bipush 12, 2) := by decide +kernel
theorem dL_books_334 : decode cL_books 334 = .ok (.invokevirtual 9, 3) := by decide +kernel
theorem dL_books_337 : decode cL_books 337 = .ok (.bipush (-2), 2) := by decide +kernel
theorem dL_books_339 : decode cL_books 339 = .ok (.if_icmp .ne 17, 3) := by decide +kernel
theorem dL_books_342 : decode cL_books 342 = .ok (.aload_n 0, 1) := by decide +kernel
theorem dL_books_343 : decode cL_books 343 = .ok (.iconst (-1), 1) := by decide +kernel
theorem dL_books_344 : decode cL_books 344 = .ok (.invokevirtual 9, 3) := by decide +kernel
theorem dL_books_347 : decode cL_books 347 = .ok (.bipush (-2), 2) := by decide +kernel
theorem dL_books_349 : decode cL_books 349 = .ok (.if_icmp .ne 7, 3) := by decide +kernel
theorem dL_books_352 : decode cL_books 352 = .ok (.iconst 1, 1) := by decide +kernel
theorem dL_books_353 : decode cL_books 353 = .ok (.goto 4, 3) := by decide +kernel
theorem dL_books_356 : decode cL_books 356 = .ok (.iconst 0, 1) := by decide +kernel
theorem dL_books_357 : decode cL_books 357 = .ok (.ireturn, 1) := by decide +kernel
set_option maxRecDepth 200000 in
theorem ggL_need_X9_verse : GoodIn wsL_need wsX9_verse := goodIn_r _ [5, 6, 7, 8, 9, 10, 4, 11, 12, 13, 14, 15, 16, 17, 18, 19, 20, 21, 22, 23, 24, 25, 26, 27, 28, 29, 30, 31, 32, 33, 34, 35, 36, 37, 38, 39, 40, 41, 42, 43, 44, 45, 46, 47, 48, 49, 50, 51, 52, 53, 54, 55, 56, 57, 58, 59, 60, 61, 62, 63, 64, 65, 66, 67, 68, 69, 70, 71, 72, 73, 74, 75, 76, 77, 78, 79, 80, 81, 82, 83, 84, 85, 86, 87, 88, 89, 90, 91, 92] rfl (by decide +kernel)
set_option maxRecDepth 20000 in
theorem gL_need_X9_verse : GoodIn wsL_need (wsV RL 19 RX9 yX9_verse wsX9_verse) := goodIn_app (goodIn_of _ (by decide +kernel)) ggL_need_X9_verse
theorem dL_need_0 : decode cL_need 0 = .ok (.iconst 0, 1) := by decide +kernel
theorem dL_need_1 : decode cL_need 1 = .ok (.istore 5, 2) := by decide +kernel
theorem dL_need_3 : decode cL_need 3 = .ok (.iload_n 2, 1) := by decide +kernel
theorem dL_need_4 : decode cL_need 4 = .ok (.istore 6, 2) := by decide +kernel
theorem dL_need_6 : decode cL_need 6 = .ok (.iload 6, 2) := by decide +kernel
theorem dL_need_8 : decode cL_need 8 = .ok (.iload_n 2, 1) := by decide +kernel
theorem dL_need_9 : decode cL_need 9 = .ok (.iload_n 3, 1) := by decide +kernel
theorem dL_need_10 : decode cL_need 10 = .ok (.iadd, 1) := by decide +kernel
theorem dL_need_11 : decode cL_need 11 = .ok (.if_icmp .ge 41, 3) := by decide +kernel
theorem dL_need_14 : decode cL_need 14 = .ok (.iload 5, 2) := by decide +kernel
theorem dL_need_16 : decode cL_need 16 = .ok (.aload_n 0, 1) := by decide +kernel
theorem dL_need_17 : decode cL_need 17 = .ok (.iload_n 1, 1) := by decide +kernel
theorem dL_need_18 : decode cL_need 18 = .ok (.iload 6, 2) := by decide +kernel
theorem dL_need_20 : decode cL_need 20 = .ok (.iconst 4, 1) := by decide +kernel
theorem dL_need_21 : decode cL_need 21 = .ok (.invokevirtual 19, 3) := by decide +kernel
theorem dL_need_24 : decode cL_need 24 = .ok (.aload_n 0, 1) := by decide +kernel
theorem dL_need_25 : decode cL_need 25 = .ok (.iload_n 1, 1) := by decide +kernel
theorem dL_need_26 : decode cL_need 26 = .ok (.iload 6, 2) := by decide +kernel
theorem dL_need_28 : decode cL_need 28 = .ok (.iconst 1, 1) := by decide +kernel
theorem dL_need_29 : decode cL_need 29 = .ok (.invokevirtual 19, 3) := by decide +kernel
theorem dL_need_32 : decode cL_need 32 = .ok (.iconst 1, 1) := by decide +kernel
theorem dL_need_33 : decode cL_need 33 = .ok (.if_icmp .ne 8, 3) := by decide +kernel
theorem dL_need_36 : decode cL_need 36 = .ok (.iload 4, 2) := by decide +kernel
theorem dL_need_38 : decode cL_need 38 = .ok (.goto 4, 3) := by decide +kernel
theorem dL_need_41 : decode cL_need 41 = .ok (.iconst 0, 1) := by decide +kernel
theorem dL_need_42 : decode cL_need 42 = .ok (.iadd, 1) := by decide +kernel
theorem dL_need_43 : decode cL_need 43 = .ok (.iadd, 1) := by decide +kernel
theorem dL_need_44 : decode cL_need 44 = .ok (.istore 5, 2) := by decide +kernel
theorem dL_need_46 : decode cL_need 46 = .ok (.iinc 6 1, 3) := by decide +kernel
theorem dL_need_49 : decode cL_need 49 = .ok (.goto (-43), 3) := by decide +kernel
theorem dL_need_52 : decode cL_need 52 = .ok (.iload 5, 2) := by decide +kernel
theorem dL_need_54 : decode cL_need 54 = .ok (.ireturn, 1) := by decide +kernel
set_option maxRecDepth 200000 in
theorem ggL_groups_X9_count : GoodIn wsL_groups wsX9_count := goodIn_r _ [6, 7, 8, 9, 10, 11, 5, 12, 13, 14, 15, 16, 17, 18, 19, 20, 21, 22, 23, 24, 25, 26, 27, 28, 29, 30, 31, 32, 33, 34, 35, 36, 37, 38, 39, 40, 41, 42, 43, 44, 45, 46, 47, 48, 49, 50, 51, 52, 53, 54, 55, 56, 57, 58, 59, 60, 61, 62, 63, 64, 65, 66, 67, 68, 69, 70, 71, 72, 73, 74, 75, 76, 77, 78, 79, 80, 81, 82, 83, 84, 85, 86, 87, 88, 89, 90, 91, 92, 93, 94, 95, 96, 97, 98, 99, 100, 101, 102, 103, 104, 105, 106, 107, 108, 109, 110, 111, 193, 194, 195, 196, 197, 198, 199, 200, 201, 202, 203, 204, 205, 206, 207, 208, 209, 210, 211, 212, 213, 214, 215, 216, 217, 218, 219, 220, 221, 222] rfl (by decide +kernel)
set_option maxRecDepth 20000 in
theorem gL_groups_X9_count : GoodIn wsL_groups (wsV RL 9 RX9 yX9_count wsX9_count) := goodIn_app (goodIn_of _ (by decide +kernel)) ggL_groups_X9_count
set_option maxRecDepth 200000 in
theorem ggL_groups_X9_group : GoodIn wsL_groups wsX9_group := goodIn_r _ [115, 7, 8, 116, 64, 65, 59, 66, 67, 10, 11, 5, 12, 30, 31, 32, 33, 34, 35, 36, 37, 38, 39, 40, 41, 42, 43, 44, 45, 46, 47, 48, 49, 50, 51, 52, 53, 54, 55, 56, 57, 58, 60, 61, 62, 63, 28, 29, 68, 69, 70, 16, 71, 72, 73, 74, 75, 76, 24, 25, 26, 27, 18, 77, 78, 79, 80, 81, 82, 19, 20, 21, 22, 23, 83, 84, 85, 86, 87, 88, 89, 90, 91, 92, 93, 94, 95, 96, 97, 98, 99, 100, 101, 102, 117, 108, 109, 110, 111, 118, 119, 120, 121, 122, 123, 124, 125, 126, 127, 128, 129, 130, 131, 132, 133, 134, 135, 136, 137, 138, 139, 140, 141, 142, 193, 194, 195, 196, 197, 198, 199, 200, 201, 202, 207, 208, 209, 210, 211, 212, 213, 214, 215, 216, 217, 218, 219, 220, 203, 204, 205, 206] rfl (by decide +kernel)
set_option maxRecDepth 20000 in
theorem gL_groups_X9_group : GoodIn wsL_groups (wsV RL 22 RX9 yX9_group wsX9_group) := goodIn_app (goodIn_of _ (by decide +kernel)) ggL_groups_X9_group
set_option maxRecDepth 200000 in
theorem ggL_groups_L_need : GoodIn wsL_groups wsL_need := goodIn_r _ [146, 147, 148, 149, 5, 150, 7, 8, 151, 152, 153, 154, 155, 156, 157, 158, 159, 160, 161, 162, 163, 164, 165, 25, 26, 16, 27, 18, 10, 11, 12, 166, 20, 21, 22, 23, 24, 28, 29, 167, 168, 169, 170, 19, 171, 172, 173, 174, 175, 73, 74, 75, 76, 176, 88, 89, 90, 91, 177, 178, 179, 33, 180, 45, 47, 181, 77, 78, 193, 194, 195, 196, 197, 198, 199, 200, 201, 202, 203, 204, 205, 206, 210, 211, 212, 213, 214, 215, 216, 217, 218, 219, 220] rfl (by decide +kernel)
set_option maxRecDepth 20000 in
theorem gL_groups_L_need : GoodIn wsL_groups (va_wsS RL 26 yL_need wsL_need) := goodIn_app (goodIn_of _ (by decide +kernel)) ggL_groups_L_need
set_option maxRecDepth 200000 in
theorem ggL_groups_X9_verse : GoodIn wsL_groups wsX9_verse := goodIn_r _ [150, 7, 8, 151, 152, 153, 5, 154, 155, 156, 157, 158, 159, 160, 161, 162, 163, 164, 165, 25, 26, 16, 27, 18, 10, 11, 12, 166, 20, 21, 22, 23, 24, 28, 29, 167, 168, 169, 170, 19, 171, 172, 173, 174, 175, 73, 74, 75, 76, 176, 88, 89, 90, 91, 177, 178, 179, 33, 180, 45, 47, 181, 77, 78, 193, 194, 195, 196, 197, 198, 199, 200, 201, 202, 203, 204, 205, 206, 210, 211, 212, 213, 214, 215, 216, 217, 218, 219, 220] rfl (by decide +kernel)
set_option maxRecDepth 20000 in
theorem gL_groups_X9_verse : GoodIn wsL_groups (wsV RL 19 RX9 yX9_verse wsX9_verse) := goodIn_app (goodIn_of _ (by decide +kernel)) ggL_groups_X9_verse
set_option maxRecDepth 200000 in
theorem ggL_groups_X9_beside : GoodIn wsL_groups wsX9_beside := goodIn_r _ [185, 7, 151, 152, 153, 5, 154, 155, 156, 157, 158, 159, 160, 161, 162, 163, 164, 165, 25, 26, 16, 27, 18, 10, 11, 12, 186, 187, 188, 59, 189, 67, 111, 57, 58, 60, 61, 62, 63, 64, 65, 66, 28, 29, 190, 191, 192, 122, 123, 124, 125, 126, 193, 194, 195, 196, 197, 198, 199, 200, 201, 202, 203, 204, 205, 206, 207, 208, 209] rfl (by decide +kernel)
set_option maxRecDepth 20000 in
theorem gL_groups_X9_beside : GoodIn wsL_groups (wsV RL 32 RX9 yX9_beside wsX9_beside) := goodIn_app (goodIn_of _ (by decide +kernel)) ggL_groups_X9_beside
theorem dL_groups_0 : decode cL_groups 0 = .ok (.iconst 0, 1) := by decide +kernel
theorem dL_groups_1 : decode cL_groups 1 = .ok (.istore_n 2, 1) := by decide +kernel
theorem dL_groups_2 : decode cL_groups 2 = .ok (.iconst 0, 1) := by decide +kernel
theorem dL_groups_3 : decode cL_groups 3 = .ok (.istore_n 3, 1) := by decide +kernel
theorem dL_groups_4 : decode cL_groups 4 = .ok (.iconst 0, 1) := by decide +kernel
theorem dL_groups_5 : decode cL_groups 5 = .ok (.istore 4, 2) := by decide +kernel
theorem dL_groups_7 : decode cL_groups 7 = .ok (.iconst 4, 1) := by decide +kernel
theorem dL_groups_8 : decode cL_groups 8 = .ok (.newarray .int, 2) := by decide +kernel
theorem dL_groups_10 : decode cL_groups 10 = .ok (.astore 5, 2) := by decide +kernel
theorem dL_groups_12 : decode cL_groups 12 = .ok (.iconst 0, 1) := by decide +kernel
theorem dL_groups_13 : decode cL_groups 13 = .ok (.istore 6, 2) := by decide +kernel
theorem dL_groups_15 : decode cL_groups 15 = .ok (.iload 6, 2) := by decide +kernel
theorem dL_groups_17 : decode cL_groups 17 = .ok (.aload_n 0, 1) := by decide +kernel
theorem dL_groups_18 : decode cL_groups 18 = .ok (.iconst 4, 1) := by decide +kernel
theorem dL_groups_19 : decode cL_groups 19 = .ok (.invokevirtual 9, 3) := by decide +kernel
theorem dL_groups_22 : decode cL_groups 22 = .ok (.if_icmp .ge 450, 3) := by decide +kernel
theorem dL_groups_25 : decode cL_groups 25 = .ok (.aload_n 0, 1) := by decide +kernel
theorem dL_groups_26 : decode cL_groups 26 = .ok (.iload 6, 2) := by decide +kernel
theorem dL_groups_28 : decode cL_groups 28 = .ok (.iconst 2, 1) := by decide +kernel
theorem dL_groups_29 : decode cL_groups 29 = .ok (.invokevirtual 22, 3) := by decide +kernel
theorem dL_groups_32 : decode cL_groups 32 = .ok (.istore 7, 2) := by decide +kernel
theorem dL_groups_34 : decode cL_groups 34 = .ok (.aload_n 0, 1) := by decide +kernel
theorem dL_groups_35 : decode cL_groups 35 = .ok (.iload 6, 2) := by decide +kernel
theorem dL_groups_37 : decode cL_groups 37 = .ok (.iconst 4, 1) := by decide +kernel
theorem dL_groups_38 : decode cL_groups 38 = .ok (.invokevirtual 22, 3) := by decide +kernel
theorem dL_groups_41 : decode cL_groups 41 = .ok (.istore 8, 2) := by decide +kernel
theorem dL_groups_43 : decode cL_groups 43 = .ok (.iload 8, 2) := by decide +kernel
theorem dL_groups_45 : decode cL_groups 45 = .ok (.ifCond .ne 7, 3) := by decide +kernel
theorem dL_groups_48 : decode cL_groups 48 = .ok (.iconst 1, 1) := by decide +kernel
theorem dL_groups_49 : decode cL_groups 49 = .ok (.goto 29, 3) := by decide +kernel
theorem dL_groups_52 : decode cL_groups 52 = .ok (.iload 7, 2) := by decide +kernel
theorem dL_groups_54 : decode cL_groups 54 = .ok (.ifCond .ne 7, 3) := by decide +kernel
theorem dL_groups_57 : decode cL_groups 57 = .ok (.iconst 2, 1) := by decide +kernel
theorem dL_groups_58 : decode cL_groups 58 = .ok (.goto 20, 3) := by decide +kernel
theorem dL_groups_61 : decode cL_groups 61 = .ok (.iload 7, 2) := by decide +kernel
theorem dL_groups_63 : decode cL_groups 63 = .ok (.iconst 1, 1) := by decide +kernel
theorem dL_groups_64 : decode cL_groups 64 = .ok (.if_icmp .ne 13, 3) := by decide +kernel
theorem dL_groups_67 : decode cL_groups 67 = .ok (.iload 8, 2) := by decide +kernel
theorem dL_groups_69 : decode cL_groups 69 = .ok (.iconst 1, 1) := by decide +kernel
theorem dL_groups_70 : decode cL_groups 70 = .ok (.if_icmp .ne 7, 3) := by decide +kernel
theorem dL_groups_73 : decode cL_groups 73 = .ok (.iconst 0, 1) := by decide +kernel
theorem dL_groups_74 : decode cL_groups 74 = .ok (.goto 4, 3) := by decide +kernel
theorem dL_groups_77 : decode cL_groups 77 = .ok (.iconst 3, 1) := by decide +kernel
theorem dL_groups_78 : decode cL_groups 78 = .ok (.istore 9, 2) := by decide +kernel
theorem dL_groups_80 : decode cL_groups 80 = .ok (.aload_n 0, 1) := by decide +kernel
theorem dL_groups_81 : decode cL_groups 81 = .ok (.iconst 0, 1) := by decide +kernel
theorem dL_groups_82 : decode cL_groups 82 = .ok (.iload_n 2, 1) := by decide +kernel
theorem dL_groups_83 : decode cL_groups 83 = .ok (.iload 7, 2) := by decide +kernel
theorem dL_groups_85 : decode cL_groups 85 = .ok (.iload_n 1, 1) := by decide +kernel
theorem dL_groups_86 : decode cL_groups 86 = .ok (.invokestatic 26, 3) := by decide +kernel
theorem dL_groups_89 : decode cL_groups 89 = .ok (.istore 10, 2) := by decide +kernel
theorem dL_groups_91 : decode cL_groups 91 = .ok (.aload_n 0, 1) := by decide +kernel
theorem dL_groups_92 : decode cL_groups 92 = .ok (.iconst 1, 1) := by decide +kernel
theorem dL_groups_93 : decode cL_groups 93 = .ok (.iload_n 3, 1) := by decide +kernel
theorem dL_groups_94 : decode cL_groups 94 = .ok (.iload 8, 2) := by decide +kernel
theorem dL_groups_96 : decode cL_groups 96 = .ok (.iload_n 1, 1) := by decide +kernel
theorem dL_groups_97 : decode cL_groups 97 = .ok (.invokestatic 26, 3) := by decide +kernel
theorem dL_groups_100 : decode cL_groups 100 = .ok (.istore 11, 2) := by decide +kernel
theorem dL_groups_102 : decode cL_groups 102 = .ok (.iconst 0, 1) := by decide +kernel
theorem dL_groups_103 : decode cL_groups 103 = .ok (.istore 12, 2) := by decide +kernel
theorem dL_groups_105 : decode cL_groups 105 = .ok (.iload_n 2, 1) := by decide +kernel
theorem dL_groups_106 : decode cL_groups 106 = .ok (.istore 13, 2) := by decide +kernel
theorem dL_groups_108 : decode cL_groups 108 = .ok (.iload 13, 2) := by decide +kernel
theorem dL_groups_110 : decode cL_groups 110 = .ok (.iload_n 2, 1) := by decide +kernel
theorem dL_groups_111 : decode cL_groups 111 = .ok (.iload 7, 2) := by decide +kernel
theorem dL_groups_113 : decode cL_groups 113 = .ok (.iadd, 1) := by decide +kernel
theorem dL_groups_114 : decode cL_groups 114 = .ok (.if_icmp .ge 99, 3) := by decide +kernel
theorem dL_groups_117 : decode cL_groups 117 = .ok (.iload 12, 2) := by decide +kernel
theorem dL_groups_119 : decode cL_groups 119 = .ok (.aload_n 0, 1) := by decide +kernel
theorem dL_groups_120 : decode cL_groups 120 = .ok (.iconst 0, 1) := by decide +kernel
theorem dL_groups_121 : decode cL_groups 121 = .ok (.iload 13, 2) := by decide +kernel
theorem dL_groups_123 : decode cL_groups 123 = .ok (.iconst 3, 1) := by decide +kernel
theorem dL_groups_124 : decode cL_groups 124 = .ok (.invokevirtual 19, 3) := by decide +kernel
theorem dL_groups_127 : decode cL_groups 127 = .ok (.iadd, 1) := by decide +kernel
theorem dL_groups_128 : decode cL_groups 128 = .ok (.istore 12, 2) := by decide +kernel
theorem dL_groups_130 : decode cL_groups 130 = .ok (.aload_n 0, 1) := by decide +kernel
theorem dL_groups_131 : decode cL_groups 131 = .ok (.iconst 0, 1) := by decide +kernel
theorem dL_groups_132 : decode cL_groups 132 = .ok (.iload 13, 2) := by decide +kernel
theorem dL_groups_134 : decode cL_groups 134 = .ok (.iconst 0, 1) := by decide +kernel
theorem dL_groups_135 : decode cL_groups 135 = .ok (.invokevirtual 32, 3) := by decide +kernel
theorem dL_groups_138 : decode cL_groups 138 = .ok (.iload 6, 2) := by decide +kernel
theorem dL_groups_140 : decode cL_groups 140 = .ok (.if_icmp .ne 65, 3) := by decide +kernel
theorem dL_groups_143 : decode cL_groups 143 = .ok (.aload_n 0, 1) := by decide +kernel
theorem dL_groups_144 : decode cL_groups 144 = .ok (.iconst 0, 1) := by decide +kernel
theorem dL_groups_145 : decode cL_groups 145 = .ok (.iload 13, 2) := by decide +kernel
theorem dL_groups_147 : decode cL_groups 147 = .ok (.iconst 1, 1) := by decide +kernel
theorem dL_groups_148 : decode cL_groups 148 = .ok (.invokevirtual 32, 3) := by decide +kernel
theorem dL_groups_151 : decode cL_groups 151 = .ok (.iload 8, 2) := by decide +kernel
theorem dL_groups_153 : decode cL_groups 153 = .ok (.ifCond .ne 8, 3) := by decide +kernel
theorem dL_groups_156 : decode cL_groups 156 = .ok (.bipush (-5), 2) := by decide +kernel
theorem dL_groups_158 : decode cL_groups 158 = .ok (.goto 4, 3) := by decide +kernel
theorem dL_groups_161 : decode cL_groups 161 = .ok (.iload_n 3, 1) := by decide +kernel
theorem dL_groups_162 : decode cL_groups 162 = .ok (.if_icmp .ne 43, 3) := by decide +kernel
theorem dL_groups_165 : decode cL_groups 165 = .ok (.aload_n 0, 1) := by decide +kernel
theorem dL_groups_166 : decode cL_groups 166 = .ok (.iconst 0, 1) := by decide +kernel
theorem dL_groups_167 : decode cL_groups 167 = .ok (.iload 13, 2) := by decide +kernel
theorem dL_groups_169 : decode cL_groups 169 = .ok (.iconst 2, 1) := by decide +kernel
theorem dL_groups_170 : decode cL_groups 170 = .ok (.invokevirtual 32, 3) := by decide +kernel
theorem dL_groups_173 : decode cL_groups 173 = .ok (.iload 8, 2) := by decide +kernel
theorem dL_groups_175 : decode cL_groups 175 = .ok (.ifCond .ne 8, 3) := by decide +kernel
theorem dL_groups_178 : decode cL_groups 178 = .ok (.bipush (-5), 2) := by decide +kernel
theorem dL_groups_180 : decode cL_groups 180 = .ok (.goto 9, 3) := by decide +kernel
theorem dL_groups_183 : decode cL_groups 183 = .ok (.iload_n 3, 1) := by decide +kernel
theorem dL_groups_184 : decode cL_groups 184 = .ok (.iload 8, 2) := by decide +kernel
theorem dL_groups_186 : decode cL_groups 186 = .ok (.iadd, 1) := by decide +kernel
theorem dL_groups_187 : decode cL_groups 187 = .ok (.iconst 1, 1) := by decide +kernel
theorem dL_groups_188 : decode cL_groups 188 = .ok (.isub, 1) := by decide +kernel
theorem dL_groups_189 : decode cL_groups 189 = .ok (.if_icmp .ne 16, 3) := by decide +kernel
theorem dL_groups_192 : decode cL_groups 192 = .ok (.aload_n 0, 1) := by decide +kernel
theorem dL_groups_193 : decode cL_groups 193 = .ok (.iconst 0, 1) := by decide +kernel
theorem dL_groups_194 : decode cL_groups 194 = .ok (.iload 13, 2) := by decide +kernel
theorem dL_groups_196 : decode cL_groups 196 = .ok (.iconst 3, 1) := by decide +kernel
theorem dL_groups_197 : decode cL_groups 197 = .ok (.invokevirtual 32, 3) := by decide +kernel
theorem dL_groups_200 : decode cL_groups 200 = .ok (.bipush (-2), 2) := by decide +kernel
theorem dL_groups_202 : decode cL_groups 202 = .ok (.if_icmp .eq 5, 3) := by decide +kernel
theorem dL_groups_205 : decode cL_groups 205 = .ok (.iconst 0, 1) := by decide +kernel
theorem dL_groups_206 : decode cL_groups 206 = .ok (.ireturn, 1) := by decide +kernel
theorem dL_groups_207 : decode cL_groups 207 = .ok (.iinc 13 1, 3) := by decide +kernel
theorem dL_groups_210 : decode cL_groups 210 = .ok (.goto (-102), 3) := by decide +kernel
theorem dL_groups_213 : decode cL_groups 213 = .ok (.iload_n 3, 1) := by decide +kernel
theorem dL_groups_214 : decode cL_groups 214 = .ok (.istore 13, 2) := by decide +kernel
theorem dL_groups_216 : decode cL_groups 216 = .ok (.iload 13, 2) := by decide +kernel
theorem dL_groups_218 : decode cL_groups 218 = .ok (.iload_n 3, 1) := by decide +kernel
theorem dL_groups_219 : decode cL_groups 219 = .ok (.iload 8, 2) := by decide +kernel
theorem dL_groups_221 : decode cL_groups 221 = .ok (.iadd, 1) := by decide +kernel
theorem dL_groups_222 : decode cL_groups 222 = .ok (.if_icmp .ge 86, 3) := by decide +kernel
theorem dL_groups_225 : decode cL_groups 225 = .ok (.iload 12, 2) := by decide +kernel
theorem dL_groups_227 : decode cL_groups 227 = .ok (.aload_n 0, 1) := by decide +kernel
theorem dL_groups_228 : decode cL_groups 228 = .ok (.iconst 1, 1) := by decide +kernel
theorem dL_groups_229 : decode cL_groups 229 = .ok (.iload 13, 2) := by decide +kernel
theorem dL_groups_231 : decode cL_groups 231 = .ok (.iconst 3, 1) := by decide +kernel
theorem dL_groups_232 : decode cL_groups 232 = .ok (.invokevirtual 19, 3) := by decide +kernel
theorem dL_groups_235 : decode cL_groups 235 = .ok (.iadd, 1) := by decide +kernel
theorem dL_groups_236 : decode cL_groups 236 = .ok (.istore 12, 2) := by decide +kernel
theorem dL_groups_238 : decode cL_groups 238 = .ok (.aload_n 0, 1) := by decide +kernel
theorem dL_groups_239 : decode cL_groups 239 = .ok (.iconst 1, 1) := by decide +kernel
theorem dL_groups_240 : decode cL_groups 240 = .ok (.iload 13, 2) := by decide +kernel
theorem dL_groups_242 : decode cL_groups 242 = .ok (.iconst 0, 1) := by decide +kernel
theorem dL_groups_243 : decode cL_groups 243 = .ok (.invokevirtual 32, 3) := by decide +kernel
theorem dL_groups_246 : decode cL_groups 246 = .ok (.iload 6, 2) := by decide +kernel
theorem dL_groups_248 : decode cL_groups 248 = .ok (.if_icmp .ne 52, 3) := by decide +kernel
theorem dL_groups_251 : decode cL_groups 251 = .ok (.aload_n 0, 1) := by decide +kernel
theorem dL_groups_252 : decode cL_groups 252 = .ok (.iconst 1, 1) := by decide +kernel
theorem dL_groups_253 : decode cL_groups 253 = .ok (.iload 13, 2) := by decide +kernel
theorem dL_groups_255 : decode cL_groups 255 = .ok (.iconst 1, 1) := by decide +kernel
theorem dL_groups_256 : decode cL_groups 256 = .ok (.invokevirtual 32, 3) := by decide +kernel
theorem dL_groups_259 : decode cL_groups 259 = .ok (.iload 7, 2) := by decide +kernel
theorem dL_groups_261 : decode cL_groups 261 = .ok (.ifCond .ne 8, 3) := by decide +kernel
theorem dL_groups_264 : decode cL_groups 264 = .ok (.bipush (-5), 2) := by decide +kernel
theorem dL_groups_266 : decode cL_groups 266 = .ok (.goto 4, 3) := by decide +kernel
theorem dL_groups_269 : decode cL_groups 269 = .ok (.iload_n 2, 1) := by decide +kernel
theorem dL_groups_270 : decode cL_groups 270 = .ok (.if_icmp .ne 30, 3) := by decide +kernel
theorem dL_groups_273 : decode cL_groups 273 = .ok (.aload_n 0, 1) := by decide +kernel
theorem dL_groups_274 : decode cL_groups 274 = .ok (.iconst 1, 1) := by decide +kernel
theorem dL_groups_275 : decode cL_groups 275 = .ok (.iload 13, 2) := by decide +kernel
theorem dL_groups_277 : decode cL_groups 277 = .ok (.iconst 2, 1) := by decide +kernel
theorem dL_groups_278 : decode cL_groups 278 = .ok (.invokevirtual 32, 3) := by decide +kernel
theorem dL_groups_281 : decode cL_groups 281 = .ok (.iload 7, 2) := by decide +kernel
theorem dL_groups_283 : decode cL_groups 283 = .ok (.ifCond .ne 8, 3) := by decide +kernel
theorem dL_groups_286 : decode cL_groups 286 = .ok (.bipush (-5), 2) := by decide +kernel
theorem dL_groups_288 : decode cL_groups 288 = .ok (.goto 9, 3) := by decide +kernel
theorem dL_groups_291 : decode cL_groups 291 = .ok (.iload_n 2, 1) := by decide +kernel
theorem dL_groups_292 : decode cL_groups 292 = .ok (.iload 7, 2) := by decide +kernel
theorem dL_groups_294 : decode cL_groups 294 = .ok (.iadd, 1) := by decide +kernel
theorem dL_groups_295 : decode cL_groups 295 = .ok (.iconst 1, 1) := by decide +kernel
theorem dL_groups_296 : decode cL_groups 296 = .ok (.isub, 1) := by decide +kernel
theorem dL_groups_297 : decode cL_groups 297 = .ok (.if_icmp .eq 5, 3) := by decide +kernel
theorem dL_groups_300 : decode cL_groups 300 = .ok (.iconst 0, 1) := by decide +kernel
theorem dL_groups_301 : decode cL_groups 301 = .ok (.ireturn, 1) := by decide +kernel
theorem dL_groups_302 : decode cL_groups 302 = .ok (.iinc 13 1, 3) := by decide +kernel
theorem dL_groups_305 : decode cL_groups 305 = .ok (.goto (-89), 3) := by decide +kernel
theorem dL_groups_308 : decode cL_groups 308 = .ok (.aload 5, 2) := by decide +kernel
theorem dL_groups_310 : decode cL_groups 310 = .ok (.iload 9, 2) := by decide +kernel
theorem dL_groups_312 : decode cL_groups 312 = .ok (.dup2, 1) := by decide +kernel
theorem dL_groups_313 : decode cL_groups 313 = .ok (.iaload, 1) := by decide +kernel
theorem dL_groups_314 : decode cL_groups 314 = .ok (.iconst 1, 1) := by decide +kernel
theorem dL_groups_315 : decode cL_groups 315 = .ok (.iadd, 1) := by decide +kernel
theorem dL_groups_316 : decode cL_groups 316 = .ok (.iastore, 1) := by decide +kernel
theorem dL_groups_317 : decode cL_groups 317 = .ok (.iload 4, 2) := by decide +kernel
theorem dL_groups_319 : decode cL_groups 319 = .ok (.iload 10, 2) := by decide +kernel
theorem dL_groups_321 : decode cL_groups 321 = .ok (.iload 11, 2) := by decide +kernel
theorem dL_groups_323 : decode cL_groups 323 = .ok (.if_icmp .le 11, 3) := by decide +kernel
theorem dL_groups_326 : decode cL_groups 326 = .ok (.iload 10, 2) := by decide +kernel
theorem dL_groups_328 : decode cL_groups 328 = .ok (.iload 11, 2) := by decide +kernel
theorem dL_groups_330 : decode cL_groups 330 = .ok (.isub, 1) := by decide +kernel
theorem dL_groups_331 : decode cL_groups 331 = .ok (.goto 8, 3) := by decide +kernel
theorem dL_groups_334 : decode cL_groups 334 = .ok (.iload 11, 2) := by decide +kernel
theorem dL_groups_336 : decode cL_groups 336 = .ok (.iload 10, 2) := by decide +kernel
theorem dL_groups_338 : decode cL_groups 338 = .ok (.isub, 1) := by decide +kernel
theorem dL_groups_339 : decode cL_groups 339 = .ok (.iadd, 1) := by decide +kernel
theorem dL_groups_340 : decode cL_groups 340 = .ok (.istore 4, 2) := by decide +kernel
theorem dL_groups_342 : decode cL_groups 342 = .ok (.iload 7, 2) := by decide +kernel
theorem dL_groups_344 : decode cL_groups 344 = .ok (.iload 8, 2) := by decide +kernel
theorem dL_groups_346 : decode cL_groups 346 = .ok (.iadd, 1) := by decide +kernel
theorem dL_groups_347 : decode cL_groups 347 = .ok (.ifCond .eq 107, 3) := by decide +kernel
theorem dL_groups_350 : decode cL_groups 350 = .ok (.aload_n 0, 1) := by decide +kernel
theorem dL_groups_351 : decode cL_groups 351 = .ok (.iload 6, 2) := by decide +kernel
theorem dL_groups_353 : decode cL_groups 353 = .ok (.iconst 0, 1) := by decide +kernel
theorem dL_groups_354 : decode cL_groups 354 = .ok (.invokevirtual 22, 3) := by decide +kernel
theorem dL_groups_357 : decode cL_groups 357 = .ok (.iload 9, 2) := by decide +kernel
theorem dL_groups_359 : decode cL_groups 359 = .ok (.if_icmp .ne 95, 3) := by decide +kernel
theorem dL_groups_362 : decode cL_groups 362 = .ok (.aload_n 0, 1) := by decide +kernel
theorem dL_groups_363 : decode cL_groups 363 = .ok (.iload 6, 2) := by decide +kernel
theorem dL_groups_365 : decode cL_groups 365 = .ok (.iconst 1, 1) := by decide +kernel
theorem dL_groups_366 : decode cL_groups 366 = .ok (.invokevirtual 22, 3) := by decide +kernel
theorem dL_groups_369 : decode cL_groups 369 = .ok (.iload 7, 2) := by decide +kernel
theorem dL_groups_371 : decode cL_groups 371 = .ok (.ifCond .ne 8, 3) := by decide +kernel
theorem dL_groups_374 : decode cL_groups 374 = .ok (.bipush (-5), 2) := by decide +kernel
theorem dL_groups_376 : decode cL_groups 376 = .ok (.goto 4, 3) := by decide +kernel
theorem dL_groups_379 : decode cL_groups 379 = .ok (.iload_n 2, 1) := by decide +kernel
theorem dL_groups_380 : decode cL_groups 380 = .ok (.if_icmp .ne 74, 3) := by decide +kernel
theorem dL_groups_383 : decode cL_groups 383 = .ok (.aload_n 0, 1) := by decide +kernel
theorem dL_groups_384 : decode cL_groups 384 = .ok (.iload 6, 2) := by decide +kernel
theorem dL_groups_386 : decode cL_groups 386 = .ok (.iconst 3, 1) := by decide +kernel
theorem dL_groups_387 : decode cL_groups 387 = .ok (.invokevirtual 22, 3) := by decide +kernel
theorem dL_groups_390 : decode cL_groups 390 = .ok (.iload 8, 2) := by decide +kernel
theorem dL_groups_392 : decode cL_groups 392 = .ok (.ifCond .ne 8, 3) := by decide +kernel
theorem dL_groups_395 : decode cL_groups 395 = .ok (.bipush (-5), 2) := by decide +kernel
theorem dL_groups_397 : decode cL_groups 397 = .ok (.goto 4, 3) := by decide +kernel
theorem dL_groups_400 : decode cL_groups 400 = .ok (.iload_n 3, 1) := by decide +kernel
theorem dL_groups_401 : decode cL_groups 401 = .ok (.if_icmp .ne 53, 3) := by decide +kernel
theorem dL_groups_404 : decode cL_groups 404 = .ok (.aload_n 0, 1) := by decide +kernel
theorem dL_groups_405 : decode cL_groups 405 = .ok (.iload 6, 2) := by decide +kernel
theorem dL_groups_407 : decode cL_groups 407 = .ok (.iconst 5, 1) := by decide +kernel
theorem dL_groups_408 : decode cL_groups 408 = .ok (.invokevirtual 22, 3) := by decide +kernel
theorem dL_groups_411 : decode cL_groups 411 = .ok (.iload 10, 2) := by decide +kernel
theorem dL_groups_413 : decode cL_groups 413 = .ok (.iload 11, 2) := by decide +kernel
theorem dL_groups_415 : decode cL_groups 415 = .ok (.if_icmp .le 8, 3) := by decide +kernel
theorem dL_groups_418 : decode cL_groups 418 = .ok (.iload 10, 2) := by decide +kernel
theorem dL_groups_420 : decode cL_groups 420 = .ok (.goto 5, 3) := by decide +kernel
theorem dL_groups_423 : decode cL_groups 423 = .ok (.iload 11, 2) := by decide +kernel
theorem dL_groups_425 : decode cL_groups 425 = .ok (.if_icmp .ne 29, 3) := by decide +kernel
theorem dL_groups_428 : decode cL_groups 428 = .ok (.aload_n 0, 1) := by decide +kernel
theorem dL_groups_429 : decode cL_groups 429 = .ok (.iload 6, 2) := by decide +kernel
theorem dL_groups_431 : decode cL_groups 431 = .ok (.bipush 8, 2) := by decide +kernel
theorem dL_groups_433 : decode cL_groups 433 = .ok (.invokevirtual 22, 3) := by decide +kernel
theorem dL_groups_436 : decode cL_groups 436 = .ok (.iload 12, 2) := by decide +kernel
theorem dL_groups_438 : decode cL_groups 438 = .ok (.if_icmp .ne 16, 3) := by decide +kernel
theorem dL_groups_441 : decode cL_groups 441 = .ok (.aload_n 0, 1) := by decide +kernel
theorem dL_groups_442 : decode cL_groups 442 = .ok (.iload 6, 2) := by decide +kernel
theorem dL_groups_444 : decode cL_groups 444 = .ok (.bipush 9, 2) := by decide +kernel
theorem dL_groups_446 : decode cL_groups 446 = .ok (.invokevirtual 22, 3) := by decide +kernel
theorem dL_groups_449 : decode cL_groups 449 = .ok (.bipush (-2), 2) := by decide +kernel
theorem dL_groups_451 : decode cL_groups 451 = .ok (.if_icmp .eq 5, 3) := by decide +kernel
theorem dL_groups_454 : decode cL_groups 454 = .ok (.iconst 0, 1) := by decide +kernel
theorem dL_groups_455 : decode cL_groups 455 = .ok (.ireturn, 1) := by decide +kernel
theorem dL_groups_456 : decode cL_groups 456 = .ok (.iload_n 2, 1) := by decide +kernel
theorem dL_groups_457 : decode cL_groups 457 = .ok (.iload 7, 2) := by decide +kernel
theorem dL_groups_459 : decode cL_groups 459 = .ok (.iadd, 1) := by decide +kernel
theorem dL_groups_460 : decode cL_groups 460 = .ok (.istore_n 2, 1) := by decide +kernel
theorem dL_groups_461 : decode cL_groups 461 = .ok (.iload_n 3, 1) := by decide +kernel
theorem dL_groups_462 : decode cL_groups 462 = .ok (.iload 8, 2) := by decide +kernel
theorem dL_groups_464 : decode cL_groups 464 = .ok (.iadd, 1) := by decide +kernel
theorem dL_groups_465 : decode cL_groups 465 = .ok (.istore_n 3, 1) := by decide +kernel
theorem dL_groups_466 : decode cL_groups 466 = .ok (.iinc 6 1, 3) := by decide +kernel
theorem dL_groups_469 : decode cL_groups 469 = .ok (.goto (-454), 3) := by decide +kernel
theorem dL_groups_472 : decode cL_groups 472 = .ok (.aload_n 0, 1) := by decide +kernel
theorem dL_groups_473 : decode cL_groups 473 = .ok (.iconst 5, 1) := by decide +kernel
theorem dL_groups_474 : decode cL_groups 474 = .ok (.invokevirtual 9, 3) := by decide +kernel
theorem dL_groups_477 : decode cL_groups 477 = .ok (.aload 5, 2) := by decide +kernel
theorem dL_groups_479 : decode cL_groups 479 = .ok (.iconst 0, 1) := by decide +kernel
theorem dL_groups_480 : decode cL_groups 480 = .ok (.iaload, 1) := by decide +kernel
theorem dL_groups_481 : decode cL_groups 481 = .ok (.if_icmp .ne 57, 3) := by decide +kernel
theorem dL_groups_484 : decode cL_groups 484 = .ok (.aload_n 0, 1) := by decide +kernel
theorem dL_groups_485 : decode cL_groups 485 = .ok (.bipush 6, 2) := by decide +kernel
theorem dL_groups_487 : decode cL_groups 487 = .ok (.invokevirtual 9, 3) := by decide +kernel
theorem dL_groups_490 : decode cL_groups 490 = .ok (.aload 5, 2) := by decide +kernel
theorem dL_groups_492 : decode cL_groups 492 = .ok (.iconst 1, 1) := by decide +kernel
theorem dL_groups_493 : decode cL_groups 493 = .ok (.iaload, 1) := by decide +kernel
theorem dL_groups_494 : decode cL_groups 494 = .ok (.if_icmp .ne 44, 3) := by decide +kernel
theorem dL_groups_497 : decode cL_groups 497 = .ok (.aload_n 0, 1) := by decide +kernel
theorem dL_groups_498 : decode cL_groups 498 = .ok (.bipush 7, 2) := by decide +kernel
theorem dL_groups_500 : decode cL_groups 500 = .ok (.invokevirtual 9, 3) := by decide +kernel
theorem dL_groups_503 : decode cL_groups 503 = .ok (.aload 5, 2) := by decide +kernel
theorem dL_groups_505 : decode cL_groups 505 = .ok (.iconst 2, 1) := by decide +kernel
theorem dL_groups_506 : decode cL_groups 506 = .ok (.iaload, 1) := by decide +kernel
theorem dL_groups_507 : decode cL_groups 507 = .ok (.if_icmp .ne 31, 3) := by decide +kernel
theorem dL_groups_510 : decode cL_groups 510 = .ok (.aload_n 0, 1) := by decide +kernel
theorem dL_groups_511 : decode cL_groups 511 = .ok (.bipush 8, 2) := by decide +kernel
theorem dL_groups_513 : decode cL_groups 513 = .ok (.invokevirtual 9, 3) := by decide +kernel
theorem dL_groups_516 : decode cL_groups 516 = .ok (.aload 5, 2) := by decide +kernel
theorem dL_groups_518 : decode cL_groups 518 = .ok (.iconst 3, 1) := by decide +kernel
theorem dL_groups_519 : decode cL_groups 519 = .ok (.iaload, 1) := by decide +kernel
theorem dL_groups_520 : decode cL_groups 520 = .ok (.if_icmp .ne 18, 3) := by decide +kernel
theorem dL_groups_523 : decode cL_groups 523 = .ok (.aload_n 0, 1) := by decide +kernel
theorem dL_groups_524 : decode cL_groups 524 = .ok (.bipush 10, 2) := by decide +kernel
theorem dL_groups_526 : decode cL_groups 526 = .ok (.invokevirtual 9, 3) := by decide +kernel
theorem dL_groups_529 : decode cL_groups 529 = .ok (.iload 4, 2) := by decide +kernel
theorem dL_groups_531 : decode cL_groups 531 = .ok (.if_icmp .ne 7, 3) := by decide +kernel
theorem dL_groups_534 : decode cL_groups 534 = .ok (.iconst 1, 1) := by decide +kernel
theorem dL_groups_535 : decode cL_groups 535 = .ok (.goto 4, 3) := by decide +kernel
theorem dL_groups_538 : decode cL_groups 538 = .ok (.iconst 0, 1) := by decide +kernel
theorem dL_groups_539 : decode cL_groups 539 = .ok (.istore 6, 2) := by decide +kernel
theorem dL_groups_541 : decode cL_groups 541 = .ok (.iload 6, 2) := by decide +kernel
theorem dL_groups_543 : decode cL_groups 543 = .ok (.ifCond .eq 54, 3) := by decide +kernel
theorem dL_groups_546 : decode cL_groups 546 = .ok (.iload_n 2, 1) := by decide +kernel
theorem dL_groups_547 : decode cL_groups 547 = .ok (.aload_n 0, 1) := by decide +kernel
theorem dL_groups_548 : decode cL_groups 548 = .ok (.iconst 2, 1) := by decide +kernel
theorem dL_groups_549 : decode cL_groups 549 = .ok (.invokevirtual 9, 3) := by decide +kernel
theorem dL_groups_552 : decode cL_groups 552 = .ok (.if_icmp .ne 45, 3) := by decide +kernel
theorem dL_groups_555 : decode cL_groups 555 = .ok (.iload_n 3, 1) := by decide +kernel
theorem dL_groups_556 : decode cL_groups 556 = .ok (.aload_n 0, 1) := by decide +kernel
theorem dL_groups_557 : decode cL_groups 557 = .ok (.iconst 3, 1) := by decide +kernel
theorem dL_groups_558 : decode cL_groups 558 = .ok (.invokevirtual 9, 3) := by decide +kernel
theorem dL_groups_561 : decode cL_groups 561 = .ok (.if_icmp .ne 36, 3) := by decide +kernel
theorem dL_groups_564 : decode cL_groups 564 = .ok (.aload_n 0, 1) := by decide +kernel
theorem dL_groups_565 : decode cL_groups 565 = .ok (.aload_n 0, 1) := by decide +kernel
theorem dL_groups_566 : decode cL_groups 566 = .ok (.iconst 4, 1) := by decide +kernel
theorem dL_groups_567 : decode cL_groups 567 = .ok (.invokevirtual 9, 3) := by decide +kernel
theorem dL_groups_570 : decode cL_groups 570 = .ok (.iconst 0, 1) := by decide +kernel
theorem dL_groups_571 : decode cL_groups 571 = .ok (.invokevirtual 22, 3) := by decide +kernel
theorem dL_groups_574 : decode cL_groups 574 = .ok (.iconst (-1), 1) := by decide +kernel
theorem dL_groups_575 : decode cL_groups 575 = .ok (.if_icmp .ne 22, 3) := by decide +kernel
theorem dL_groups_578 : decode cL_groups 578 = .ok (.aload_n 0, 1) := by decide +kernel
theorem dL_groups_579 : decode cL_groups 579 = .ok (.iconst 0, 1) := by decide +kernel
theorem dL_groups_580 : decode cL_groups 580 = .ok (.aload_n 0, 1) := by decide +kernel
theorem dL_groups_581 : decode cL_groups 581 = .ok (.iconst 2, 1) := by decide +kernel
theorem dL_groups_582 : decode cL_groups 582 = .ok (.invokevirtual 9, 3) := by decide +kernel
theorem dL_groups_585 : decode cL_groups 585 = .ok (.iconst 0, 1) := by decide +kernel
theorem dL_groups_586 : decode cL_groups 586 = .ok (.invokevirtual 32, 3) := by decide +kernel
theorem dL_groups_589 : decode cL_groups 589 = .ok (.iconst (-1), 1) := by decide +kernel
theorem dL_groups_590 : decode cL_groups 590 = .ok (.if_icmp .ne 7, 3) := by decide +kernel
theorem dL_groups_593 : decode cL_groups 593 = .ok (.iconst 1, 1) := by decide +kernel
theorem dL_groups_594 : decode cL_groups 594 = .ok (.goto 4, 3) := by decide +kernel
theorem dL_groups_597 : decode cL_groups 597 = .ok (.iconst 0, 1) := by decide +kernel
theorem dL_groups_598 : decode cL_groups 598 = .ok (.ireturn, 1) := by decide +kernel
set_option maxRecDepth 200000 in
theorem ggL_pages_X9_count : GoodIn wsL_pages wsX9_count := goodIn_r _ [5, 6, 7, 8, 9, 10, 4, 11, 12, 13, 14, 15, 16, 17, 18, 19, 20, 21, 22, 23, 24, 25, 26, 27, 28, 29, 30, 31, 32, 33, 34, 35, 36, 37, 38, 39, 40, 41, 42, 43, 44, 45, 46, 47, 48, 49, 50, 51, 52, 53, 54, 55, 56, 57, 58, 59, 60, 61, 62, 63, 64, 65, 66, 67, 68, 69, 70, 71, 72, 73, 74, 75, 76, 77, 78, 79, 80, 81, 82, 83, 84, 85, 86, 87, 88, 89, 90, 91, 92, 93, 94, 95, 96, 97, 98, 99, 100, 101, 102, 103, 104, 105, 106, 107, 108, 109, 110, 171, 172, 173, 174, 175, 176, 177, 178, 179, 180, 181, 182, 183, 184, 185, 186, 187, 188, 189, 190, 191, 192, 193, 194, 195, 196, 197, 198, 199, 200] rfl (by decide +kernel)
set_option maxRecDepth 20000 in
theorem gL_pages_X9_count : GoodIn wsL_pages (wsV RL 9 RX9 yX9_count wsX9_count) := goodIn_app (goodIn_of _ (by decide +kernel)) ggL_pages_X9_count
set_option maxRecDepth 200000 in
theorem ggL_pages_X9_group : GoodIn wsL_pages wsX9_group := goodIn_r _ [114, 6, 7, 115, 63, 64, 58, 65, 66, 9, 10, 4, 11, 29, 30, 31, 32, 33, 34, 35, 36, 37, 38, 39, 40, 41, 42, 43, 44, 45, 46, 47, 48, 49, 50, 51, 52, 53, 54, 55, 56, 57, 59, 60, 61, 62, 27, 28, 67, 68, 69, 15, 70, 71, 72, 73, 74, 75, 23, 24, 25, 26, 17, 76, 77, 78, 79, 80, 81, 18, 19, 20, 21, 22, 82, 83, 84, 85, 86, 87, 88, 89, 90, 91, 92, 93, 94, 95, 96, 97, 98, 99, 100, 101, 116, 107, 108, 109, 110, 117, 118, 119, 120, 121, 122, 123, 124, 125, 126, 127, 128, 129, 130, 131, 132, 133, 134, 135, 136, 137, 138, 139, 140, 141, 171, 172, 173, 174, 175, 176, 177, 178, 179, 180, 185, 186, 187, 188, 189, 190, 191, 192, 193, 194, 195, 196, 197, 198, 181, 182, 183, 184] rfl (by decide +kernel)
set_option maxRecDepth 20000 in
theorem gL_pages_X9_group : GoodIn wsL_pages (wsV RL 22 RX9 yX9_group wsX9_group) := goodIn_app (goodIn_of _ (by decide +kernel)) ggL_pages_X9_group
