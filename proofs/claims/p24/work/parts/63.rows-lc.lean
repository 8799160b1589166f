set_option maxRecDepth 200000 in
theorem ggL_maps_X9_count : GoodIn wsL_maps wsX9_count := goodIn_r _ [5, 6, 7, 8, 9, 10, 4, 11, 12, 13, 14, 15, 16, 17, 18, 19, 20, 21, 22, 23, 24, 25, 26, 27, 28, 29, 30, 31, 32, 33, 34, 35, 36, 37, 38, 39, 40, 41, 42, 43, 44, 45, 46, 47, 48, 49, 50, 51, 52, 53, 54, 55, 56, 57, 58, 59, 60, 61, 62, 63, 64, 65, 66, 67, 68, 69, 70, 71, 72, 73, 74, 75, 76, 77, 78, 79, 80, 81, 82, 83, 84, 85, 86, 87, 88, 89, 90, 91, 92, 93, 94, 95, 96, 97, 98, 99, 100, 101, 102, 103, 104, 105, 106, 107, 108, 109, 110, 301, 302, 303, 304, 305, 306, 307, 308, 309, 310, 311, 312, 313, 314, 315, 316, 317, 318, 319, 320, 321, 322, 323, 324, 325, 326, 327, 328, 329, 330] rfl (by decide +kernel)
set_option maxRecDepth 20000 in
theorem gL_maps_X9_count : GoodIn wsL_maps (wsV RL 9 RX9 yX9_count wsX9_count) := goodIn_app (goodIn_of _ (by decide +kernel)) ggL_maps_X9_count
set_option maxRecDepth 200000 in
theorem ggL_maps_X9_clearText : GoodIn wsL_maps wsX9_clearText := goodIn_r _ [114, 115, 116, 117, 118, 119, 120, 121, 301, 302, 303, 304, 305, 306, 307, 331, 332, 333, 334, 335, 336] rfl (by decide +kernel)
set_option maxRecDepth 20000 in
theorem gL_maps_X9_clearText : GoodIn wsL_maps (wsV RL 42 RX9 yX9_clearText wsX9_clearText) := goodIn_app (goodIn_of _ (by decide +kernel)) ggL_maps_X9_clearText
set_option maxRecDepth 200000 in
theorem ggL_maps_X9_readMap : GoodIn wsL_maps wsX9_readMap := goodIn_r _ [125, 126, 115, 6, 8, 127, 128, 129, 130, 131, 132, 133, 134, 135, 136, 137, 119, 138, 139, 140, 141, 142, 143, 144, 145, 58, 146, 66, 147, 148, 149, 150, 151, 152, 153, 154, 155, 156, 157, 158, 159, 160, 161, 162, 121, 163, 10, 4, 11, 164, 165, 166, 167, 168, 169, 170, 171, 172, 173, 174, 175, 176, 177, 178, 179, 180, 181, 182, 183, 184, 185, 186, 187, 188, 189, 190, 191, 192, 193, 194, 195, 196, 197, 198, 199, 200, 201, 202, 203, 204, 205, 206, 207, 208, 60, 61, 62, 63, 64, 65, 209, 210, 211, 212, 213, 214, 215, 216, 217, 218, 219, 220, 221, 222, 223, 224, 225, 226, 227, 228, 229, 230, 231, 232, 233, 234, 235, 236, 15, 237, 22, 75, 90, 17, 238, 239, 240, 35, 36, 37, 241, 242, 243, 244, 245, 246, 247, 248, 249, 301, 302, 303, 304, 305, 306, 307, 308, 309, 310, 337, 338, 339, 315, 316, 317, 311, 312, 313, 314, 331, 332, 333, 334, 335, 336, 329, 330] rfl (by decide +kernel)
set_option maxRecDepth 20000 in
theorem gL_maps_X9_readMap : GoodIn wsL_maps (wsV RL 56 RX9 yX9_readMap wsX9_readMap) := goodIn_app (goodIn_of _ (by decide +kernel)) ggL_maps_X9_readMap
set_option maxRecDepth 200000 in
theorem ggL_maps_X9_type : GoodIn wsL_maps wsX9_type := goodIn_r _ [253, 115, 254, 255, 256, 119, 257, 121, 163, 10, 4, 11, 301, 302, 303, 304, 305, 306, 307, 331, 332, 333, 334, 335, 336] rfl (by decide +kernel)
set_option maxRecDepth 20000 in
theorem gL_maps_X9_type : GoodIn wsL_maps (wsV RL 38 RX9 yX9_type wsX9_type) := goodIn_app (goodIn_of _ (by decide +kernel)) ggL_maps_X9_type
set_option maxRecDepth 200000 in
theorem ggL_maps_X9_group : GoodIn wsL_maps wsX9_group := goodIn_r _ [261, 6, 7, 262, 63, 64, 58, 65, 66, 9, 10, 4, 11, 29, 30, 31, 32, 33, 34, 35, 36, 37, 38, 39, 40, 41, 42, 43, 44, 45, 46, 47, 48, 49, 50, 51, 52, 53, 54, 55, 56, 57, 59, 60, 61, 62, 27, 28, 67, 68, 69, 15, 70, 71, 72, 73, 74, 75, 23, 24, 25, 26, 17, 76, 77, 78, 79, 80, 81, 18, 19, 20, 21, 22, 82, 83, 84, 85, 86, 87, 88, 89, 90, 91, 92, 93, 94, 95, 96, 97, 98, 99, 100, 101, 263, 107, 108, 109, 110, 264, 265, 266, 267, 268, 269, 270, 271, 272, 273, 274, 275, 276, 277, 278, 279, 280, 281, 282, 283, 284, 285, 286, 287, 288, 301, 302, 303, 304, 305, 306, 307, 308, 309, 310, 315, 316, 317, 318, 319, 320, 321, 322, 323, 324, 325, 326, 327, 328, 311, 312, 313, 314] rfl (by decide +kernel)
set_option maxRecDepth 20000 in
theorem gL_maps_X9_group : GoodIn wsL_maps (wsV RL 22 RX9 yX9_group wsX9_group) := goodIn_app (goodIn_of _ (by decide +kernel)) ggL_maps_X9_group
set_option maxRecDepth 200000 in
theorem ggL_maps_L_digits : GoodIn wsL_maps wsL_digits := goodIn_r _ [292, 250, 251, 252, 4, 253, 115, 254, 255, 256, 119, 257, 121, 163, 10, 11, 301, 302, 303, 304, 305, 306, 307, 331, 332, 333, 334, 335, 336] rfl (by decide +kernel)
set_option maxRecDepth 20000 in
theorem gL_maps_L_digits : GoodIn wsL_maps (va_wsS RL 52 yL_digits wsL_digits) := goodIn_app (goodIn_of _ (by decide +kernel)) ggL_maps_L_digits
set_option maxRecDepth 200000 in
theorem ggL_maps_X9_undo : GoodIn wsL_maps wsX9_undo := goodIn_r _ [296, 8, 6, 297, 298, 299, 218, 300, 220, 221, 226, 227, 228, 229, 230, 231, 232, 233, 234, 235, 236, 15, 237, 22, 75, 90, 17, 238, 4, 239, 240, 35, 36, 37, 241, 242, 243, 244, 245, 246, 247, 58, 248, 60, 61, 66, 301, 302, 303, 304, 305, 306, 307, 329, 330, 308, 309, 310, 311, 312, 313, 314, 315, 316, 317] rfl (by decide +kernel)
set_option maxRecDepth 20000 in
theorem gL_maps_X9_undo : GoodIn wsL_maps (wsV RL 59 RX9 yX9_undo wsX9_undo) := goodIn_app (goodIn_of _ (by decide +kernel)) ggL_maps_X9_undo
theorem dL_maps_0 : decode cL_maps 0 = .ok (.aload_n 0, 1) := by decide +kernel
theorem dL_maps_1 : decode cL_maps 1 = .ok (.iconst 4, 1) := by decide +kernel
theorem dL_maps_2 : decode cL_maps 2 = .ok (.invokevirtual 9, 3) := by decide +kernel
theorem dL_maps_5 : decode cL_maps 5 = .ok (.istore_n 1, 1) := by decide +kernel
theorem dL_maps_6 : decode cL_maps 6 = .ok (.aload_n 0, 1) := by decide +kernel
theorem dL_maps_7 : decode cL_maps 7 = .ok (.invokevirtual 42, 3) := by decide +kernel
theorem dL_maps_10 : decode cL_maps 10 = .ok (.pop, 1) := by decide +kernel
theorem dL_maps_11 : decode cL_maps 11 = .ok (.aload_n 0, 1) := by decide +kernel
theorem dL_maps_12 : decode cL_maps 12 = .ok (.invokevirtual 56, 3) := by decide +kernel
theorem dL_maps_15 : decode cL_maps 15 = .ok (.bipush (-100), 2) := by decide +kernel
theorem dL_maps_17 : decode cL_maps 17 = .ok (.if_icmp .ne 7, 3) := by decide +kernel
theorem dL_maps_20 : decode cL_maps 20 = .ok (.iconst 1, 1) := by decide +kernel
theorem dL_maps_21 : decode cL_maps 21 = .ok (.goto 4, 3) := by decide +kernel
theorem dL_maps_24 : decode cL_maps 24 = .ok (.iconst 0, 1) := by decide +kernel
theorem dL_maps_25 : decode cL_maps 25 = .ok (.istore_n 2, 1) := by decide +kernel
theorem dL_maps_26 : decode cL_maps 26 = .ok (.iload_n 1, 1) := by decide +kernel
theorem dL_maps_27 : decode cL_maps 27 = .ok (.ifCond .eq 9, 3) := by decide +kernel
theorem dL_maps_30 : decode cL_maps 30 = .ok (.iload_n 1, 1) := by decide +kernel
theorem dL_maps_31 : decode cL_maps 31 = .ok (.bipush 12, 2) := by decide +kernel
theorem dL_maps_33 : decode cL_maps 33 = .ok (.if_icmp .le 5, 3) := by decide +kernel
theorem dL_maps_36 : decode cL_maps 36 = .ok (.iload_n 2, 1) := by decide +kernel
theorem dL_maps_37 : decode cL_maps 37 = .ok (.ireturn, 1) := by decide +kernel
theorem dL_maps_38 : decode cL_maps 38 = .ok (.iconst 0, 1) := by decide +kernel
theorem dL_maps_39 : decode cL_maps 39 = .ok (.istore_n 3, 1) := by decide +kernel
theorem dL_maps_40 : decode cL_maps 40 = .ok (.iconst 0, 1) := by decide +kernel
theorem dL_maps_41 : decode cL_maps 41 = .ok (.istore 4, 2) := by decide +kernel
theorem dL_maps_43 : decode cL_maps 43 = .ok (.iload 4, 2) := by decide +kernel
theorem dL_maps_45 : decode cL_maps 45 = .ok (.iload_n 1, 1) := by decide +kernel
theorem dL_maps_46 : decode cL_maps 46 = .ok (.if_icmp .ge 141, 3) := by decide +kernel
theorem dL_maps_49 : decode cL_maps 49 = .ok (.iload 4, 2) := by decide +kernel
theorem dL_maps_51 : decode cL_maps 51 = .ok (.ifCond .le 10, 3) := by decide +kernel
theorem dL_maps_54 : decode cL_maps 54 = .ok (.aload_n 0, 1) := by decide +kernel
theorem dL_maps_55 : decode cL_maps 55 = .ok (.bipush 44, 2) := by decide +kernel
theorem dL_maps_57 : decode cL_maps 57 = .ok (.invokevirtual 38, 3) := by decide +kernel
theorem dL_maps_60 : decode cL_maps 60 = .ok (.pop, 1) := by decide +kernel
theorem dL_maps_61 : decode cL_maps 61 = .ok (.aload_n 0, 1) := by decide +kernel
theorem dL_maps_62 : decode cL_maps 62 = .ok (.iload 4, 2) := by decide +kernel
theorem dL_maps_64 : decode cL_maps 64 = .ok (.iconst 2, 1) := by decide +kernel
theorem dL_maps_65 : decode cL_maps 65 = .ok (.invokevirtual 22, 3) := by decide +kernel
theorem dL_maps_68 : decode cL_maps 68 = .ok (.istore 5, 2) := by decide +kernel
theorem dL_maps_70 : decode cL_maps 70 = .ok (.aload_n 0, 1) := by decide +kernel
theorem dL_maps_71 : decode cL_maps 71 = .ok (.iload 4, 2) := by decide +kernel
theorem dL_maps_73 : decode cL_maps 73 = .ok (.iconst 4, 1) := by decide +kernel
theorem dL_maps_74 : decode cL_maps 74 = .ok (.invokevirtual 22, 3) := by decide +kernel
theorem dL_maps_77 : decode cL_maps 77 = .ok (.istore 6, 2) := by decide +kernel
theorem dL_maps_79 : decode cL_maps 79 = .ok (.iload 5, 2) := by decide +kernel
theorem dL_maps_81 : decode cL_maps 81 = .ok (.ifCond .le 45, 3) := by decide +kernel
theorem dL_maps_84 : decode cL_maps 84 = .ok (.iload 6, 2) := by decide +kernel
theorem dL_maps_86 : decode cL_maps 86 = .ok (.ifCond .le 40, 3) := by decide +kernel
theorem dL_maps_89 : decode cL_maps 89 = .ok (.aload_n 0, 1) := by decide +kernel
theorem dL_maps_90 : decode cL_maps 90 = .ok (.iload 5, 2) := by decide +kernel
theorem dL_maps_92 : decode cL_maps 92 = .ok (.invokestatic 52, 3) := by decide +kernel
theorem dL_maps_95 : decode cL_maps 95 = .ok (.pop, 1) := by decide +kernel
theorem dL_maps_96 : decode cL_maps 96 = .ok (.aload_n 0, 1) := by decide +kernel
theorem dL_maps_97 : decode cL_maps 97 = .ok (.bipush 43, 2) := by decide +kernel
theorem dL_maps_99 : decode cL_maps 99 = .ok (.invokevirtual 38, 3) := by decide +kernel
theorem dL_maps_102 : decode cL_maps 102 = .ok (.istore_n 3, 1) := by decide +kernel
theorem dL_maps_103 : decode cL_maps 103 = .ok (.aload_n 0, 1) := by decide +kernel
theorem dL_maps_104 : decode cL_maps 104 = .ok (.invokevirtual 56, 3) := by decide +kernel
theorem dL_maps_107 : decode cL_maps 107 = .ok (.bipush (-100), 2) := by decide +kernel
theorem dL_maps_109 : decode cL_maps 109 = .ok (.iload_n 3, 1) := by decide +kernel
theorem dL_maps_110 : decode cL_maps 110 = .ok (.isub, 1) := by decide +kernel
theorem dL_maps_111 : decode cL_maps 111 = .ok (.if_icmp .eq 5, 3) := by decide +kernel
theorem dL_maps_114 : decode cL_maps 114 = .ok (.iconst 0, 1) := by decide +kernel
theorem dL_maps_115 : decode cL_maps 115 = .ok (.ireturn, 1) := by decide +kernel
theorem dL_maps_116 : decode cL_maps 116 = .ok (.aload_n 0, 1) := by decide +kernel
theorem dL_maps_117 : decode cL_maps 117 = .ok (.iload 6, 2) := by decide +kernel
theorem dL_maps_119 : decode cL_maps 119 = .ok (.invokestatic 52, 3) := by decide +kernel
theorem dL_maps_122 : decode cL_maps 122 = .ok (.istore_n 3, 1) := by decide +kernel
theorem dL_maps_123 : decode cL_maps 123 = .ok (.goto 37, 3) := by decide +kernel
theorem dL_maps_126 : decode cL_maps 126 = .ok (.iload 5, 2) := by decide +kernel
theorem dL_maps_128 : decode cL_maps 128 = .ok (.iload 6, 2) := by decide +kernel
theorem dL_maps_130 : decode cL_maps 130 = .ok (.iadd, 1) := by decide +kernel
theorem dL_maps_131 : decode cL_maps 131 = .ok (.iconst 1, 1) := by decide +kernel
theorem dL_maps_132 : decode cL_maps 132 = .ok (.if_icmp .le 5, 3) := by decide +kernel
theorem dL_maps_135 : decode cL_maps 135 = .ok (.iload_n 2, 1) := by decide +kernel
theorem dL_maps_136 : decode cL_maps 136 = .ok (.ireturn, 1) := by decide +kernel
theorem dL_maps_137 : decode cL_maps 137 = .ok (.aload_n 0, 1) := by decide +kernel
theorem dL_maps_138 : decode cL_maps 138 = .ok (.iconst 1, 1) := by decide +kernel
theorem dL_maps_139 : decode cL_maps 139 = .ok (.invokestatic 52, 3) := by decide +kernel
theorem dL_maps_142 : decode cL_maps 142 = .ok (.pop, 1) := by decide +kernel
theorem dL_maps_143 : decode cL_maps 143 = .ok (.aload_n 0, 1) := by decide +kernel
theorem dL_maps_144 : decode cL_maps 144 = .ok (.iload 5, 2) := by decide +kernel
theorem dL_maps_146 : decode cL_maps 146 = .ok (.ifCond .le 8, 3) := by decide +kernel
theorem dL_maps_149 : decode cL_maps 149 = .ok (.bipush 60, 2) := by decide +kernel
theorem dL_maps_151 : decode cL_maps 151 = .ok (.goto 5, 3) := by decide +kernel
theorem dL_maps_154 : decode cL_maps 154 = .ok (.bipush 62, 2) := by decide +kernel
theorem dL_maps_156 : decode cL_maps 156 = .ok (.invokevirtual 38, 3) := by decide +kernel
theorem dL_maps_159 : decode cL_maps 159 = .ok (.istore_n 3, 1) := by decide +kernel
theorem dL_maps_160 : decode cL_maps 160 = .ok (.iload 4, 2) := by decide +kernel
theorem dL_maps_162 : decode cL_maps 162 = .ok (.iload_n 1, 1) := by decide +kernel
theorem dL_maps_163 : decode cL_maps 163 = .ok (.iconst 1, 1) := by decide +kernel
theorem dL_maps_164 : decode cL_maps 164 = .ok (.isub, 1) := by decide +kernel
theorem dL_maps_165 : decode cL_maps 165 = .ok (.if_icmp .ge 16, 3) := by decide +kernel
theorem dL_maps_168 : decode cL_maps 168 = .ok (.aload_n 0, 1) := by decide +kernel
theorem dL_maps_169 : decode cL_maps 169 = .ok (.invokevirtual 56, 3) := by decide +kernel
theorem dL_maps_172 : decode cL_maps 172 = .ok (.bipush (-100), 2) := by decide +kernel
theorem dL_maps_174 : decode cL_maps 174 = .ok (.iload_n 3, 1) := by decide +kernel
theorem dL_maps_175 : decode cL_maps 175 = .ok (.isub, 1) := by decide +kernel
theorem dL_maps_176 : decode cL_maps 176 = .ok (.if_icmp .eq 5, 3) := by decide +kernel
theorem dL_maps_179 : decode cL_maps 179 = .ok (.iconst 0, 1) := by decide +kernel
theorem dL_maps_180 : decode cL_maps 180 = .ok (.ireturn, 1) := by decide +kernel
theorem dL_maps_181 : decode cL_maps 181 = .ok (.iinc 4 1, 3) := by decide +kernel
theorem dL_maps_184 : decode cL_maps 184 = .ok (.goto (-141), 3) := by decide +kernel
theorem dL_maps_187 : decode cL_maps 187 = .ok (.aload_n 0, 1) := by decide +kernel
theorem dL_maps_188 : decode cL_maps 188 = .ok (.bipush 11, 2) := by decide +kernel
theorem dL_maps_190 : decode cL_maps 190 = .ok (.invokevirtual 9, 3) := by decide +kernel
theorem dL_maps_193 : decode cL_maps 193 = .ok (.istore 4, 2) := by decide +kernel
theorem dL_maps_195 : decode cL_maps 195 = .ok (.aload_n 0, 1) := by decide +kernel
theorem dL_maps_196 : decode cL_maps 196 = .ok (.invokevirtual 56, 3) := by decide +kernel
theorem dL_maps_199 : decode cL_maps 199 = .ok (.iload_n 1, 1) := by decide +kernel
theorem dL_maps_200 : decode cL_maps 200 = .ok (.if_icmp .ne 26, 3) := by decide +kernel
theorem dL_maps_203 : decode cL_maps 203 = .ok (.aload_n 0, 1) := by decide +kernel
theorem dL_maps_204 : decode cL_maps 204 = .ok (.bipush 11, 2) := by decide +kernel
theorem dL_maps_206 : decode cL_maps 206 = .ok (.invokevirtual 9, 3) := by decide +kernel
theorem dL_maps_209 : decode cL_maps 209 = .ok (.iload 4, 2) := by decide +kernel
theorem dL_maps_211 : decode cL_maps 211 = .ok (.iconst 5, 1) := by decide +kernel
theorem dL_maps_212 : decode cL_maps 212 = .ok (.if_icmp .ge 10, 3) := by decide +kernel
theorem dL_maps_215 : decode cL_maps 215 = .ok (.iload 4, 2) := by decide +kernel
theorem dL_maps_217 : decode cL_maps 217 = .ok (.iconst 1, 1) := by decide +kernel
theorem dL_maps_218 : decode cL_maps 218 = .ok (.iadd, 1) := by decide +kernel
theorem dL_maps_219 : decode cL_maps 219 = .ok (.goto 4, 3) := by decide +kernel
theorem dL_maps_222 : decode cL_maps 222 = .ok (.iconst 5, 1) := by decide +kernel
theorem dL_maps_223 : decode cL_maps 223 = .ok (.if_icmp .eq 5, 3) := by decide +kernel
theorem dL_maps_226 : decode cL_maps 226 = .ok (.iconst 0, 1) := by decide +kernel
theorem dL_maps_227 : decode cL_maps 227 = .ok (.ireturn, 1) := by decide +kernel
theorem dL_maps_228 : decode cL_maps 228 = .ok (.aload_n 0, 1) := by decide +kernel
theorem dL_maps_229 : decode cL_maps 229 = .ok (.bipush 44, 2) := by decide +kernel
theorem dL_maps_231 : decode cL_maps 231 = .ok (.invokevirtual 38, 3) := by decide +kernel
theorem dL_maps_234 : decode cL_maps 234 = .ok (.pop, 1) := by decide +kernel
theorem dL_maps_235 : decode cL_maps 235 = .ok (.aload_n 0, 1) := by decide +kernel
theorem dL_maps_236 : decode cL_maps 236 = .ok (.bipush 49, 2) := by decide +kernel
theorem dL_maps_238 : decode cL_maps 238 = .ok (.invokevirtual 38, 3) := by decide +kernel
theorem dL_maps_241 : decode cL_maps 241 = .ok (.pop, 1) := by decide +kernel
theorem dL_maps_242 : decode cL_maps 242 = .ok (.aload_n 0, 1) := by decide +kernel
theorem dL_maps_243 : decode cL_maps 243 = .ok (.bipush 61, 2) := by decide +kernel
theorem dL_maps_245 : decode cL_maps 245 = .ok (.invokevirtual 38, 3) := by decide +kernel
theorem dL_maps_248 : decode cL_maps 248 = .ok (.pop, 1) := by decide +kernel
theorem dL_maps_249 : decode cL_maps 249 = .ok (.aload_n 0, 1) := by decide +kernel
theorem dL_maps_250 : decode cL_maps 250 = .ok (.invokevirtual 56, 3) := by decide +kernel
theorem dL_maps_253 : decode cL_maps 253 = .ok (.bipush (-101), 2) := by decide +kernel
theorem dL_maps_255 : decode cL_maps 255 = .ok (.iload_n 3, 1) := by decide +kernel
theorem dL_maps_256 : decode cL_maps 256 = .ok (.isub, 1) := by decide +kernel
theorem dL_maps_257 : decode cL_maps 257 = .ok (.if_icmp .ne 23, 3) := by decide +kernel
theorem dL_maps_260 : decode cL_maps 260 = .ok (.aload_n 0, 1) := by decide +kernel
theorem dL_maps_261 : decode cL_maps 261 = .ok (.invokevirtual 59, 3) := by decide +kernel
theorem dL_maps_264 : decode cL_maps 264 = .ok (.ifCond .lt 16, 3) := by decide +kernel
theorem dL_maps_267 : decode cL_maps 267 = .ok (.aload_n 0, 1) := by decide +kernel
theorem dL_maps_268 : decode cL_maps 268 = .ok (.iconst 4, 1) := by decide +kernel
theorem dL_maps_269 : decode cL_maps 269 = .ok (.invokevirtual 9, 3) := by decide +kernel
theorem dL_maps_272 : decode cL_maps 272 = .ok (.iload_n 1, 1) := by decide +kernel
theorem dL_maps_273 : decode cL_maps 273 = .ok (.if_icmp .ne 7, 3) := by decide +kernel
theorem dL_maps_276 : decode cL_maps 276 = .ok (.iconst 1, 1) := by decide +kernel
theorem dL_maps_277 : decode cL_maps 277 = .ok (.goto 4, 3) := by decide +kernel
theorem dL_maps_280 : decode cL_maps 280 = .ok (.iconst 0, 1) := by decide +kernel
theorem dL_maps_281 : decode cL_maps 281 = .ok (.ireturn, 1) := by decide +kernel
set_option maxRecDepth 200000 in
theorem ggL_joins_X9_count : GoodIn wsL_joins wsX9_count := goodIn_r _ [5, 6, 7, 8, 9, 10, 4, 11, 12, 13, 14, 15, 16, 17, 18, 19, 20, 21, 22, 23, 24, 25, 26, 27, 28, 29, 30, 31, 32, 33, 34, 35, 36, 37, 38, 39, 40, 41, 42, 43, 44, 45, 46, 47, 48, 49, 50, 51, 52, 53, 54, 55, 56, 57, 58, 59, 60, 61, 62, 63, 64, 65, 66, 67, 68, 69, 70, 71, 72, 73, 74, 75, 76, 77, 78, 79, 80, 81, 82, 83, 84, 85, 86, 87, 88, 89, 90, 91, 92, 93, 94, 95, 96, 97, 98, 99, 100, 101, 102, 103, 104, 105, 106, 107, 108, 109, 110, 221, 222, 223, 224, 225, 226, 227, 228, 229, 230, 231, 232, 233, 234, 235, 236, 237, 238, 239, 240, 241, 242, 243, 244, 245, 246, 247, 248, 249, 250] rfl (by decide +kernel)
set_option maxRecDepth 20000 in
theorem gL_joins_X9_count : GoodIn wsL_joins (wsV RL 9 RX9 yX9_count wsX9_count) := goodIn_app (goodIn_of _ (by decide +kernel)) ggL_joins_X9_count
set_option maxRecDepth 200000 in
theorem ggL_joins_X9_beside : GoodIn wsL_joins wsX9_beside := goodIn_r _ [114, 6, 115, 116, 117, 4, 118, 119, 120, 121, 122, 123, 124, 125, 126, 127, 128, 129, 24, 25, 15, 26, 17, 9, 10, 11, 130, 131, 132, 58, 133, 66, 110, 56, 57, 59, 60, 61, 62, 63, 64, 65, 27, 28, 134, 135, 136, 137, 138, 139, 140, 141, 221, 222, 223, 224, 225, 226, 227, 228, 229, 230, 231, 232, 233, 234, 235, 236, 237] rfl (by decide +kernel)
set_option maxRecDepth 20000 in
theorem gL_joins_X9_beside : GoodIn wsL_joins (wsV RL 32 RX9 yX9_beside wsX9_beside) := goodIn_app (goodIn_of _ (by decide +kernel)) ggL_joins_X9_beside
set_option maxRecDepth 200000 in
theorem ggL_joins_X9_verse : GoodIn wsL_joins wsX9_verse := goodIn_r _ [145, 6, 7, 115, 116, 117, 4, 118, 119, 120, 121, 122, 123, 124, 125, 126, 127, 128, 129, 24, 25, 15, 26, 17, 9, 10, 11, 146, 19, 20, 21, 22, 23, 27, 28, 147, 148, 149, 150, 18, 151, 152, 153, 154, 155, 72, 73, 74, 75, 156, 87, 88, 89, 90, 157, 158, 159, 32, 160, 44, 46, 161, 76, 77, 221, 222, 223, 224, 225, 226, 227, 228, 229, 230, 231, 232, 233, 234, 238, 239, 240, 241, 242, 243, 244, 245, 246, 247, 248] rfl (by decide +kernel)
set_option maxRecDepth 20000 in
theorem gL_joins_X9_verse : GoodIn wsL_joins (wsV RL 19 RX9 yX9_verse wsX9_verse) := goodIn_app (goodIn_of _ (by decide +kernel)) ggL_joins_X9_verse
set_option maxRecDepth 200000 in
theorem ggL_joins_X9_joinVerses : GoodIn wsL_joins wsX9_joinVerses := goodIn_r _ [165, 6, 8, 115, 116, 117, 4, 118, 119, 120, 121, 122, 123, 124, 125, 126, 127, 128, 129, 24, 25, 15, 26, 17, 146, 19, 20, 21, 22, 23, 27, 28, 166, 167, 168, 169, 170, 171, 172, 173, 174, 175, 176, 10, 11, 177, 178, 179, 180, 181, 182, 183, 184, 185, 75, 90, 186, 187, 188, 35, 36, 37, 189, 190, 191, 192, 193, 194, 195, 58, 196, 60, 61, 66, 130, 131, 132, 133, 110, 56, 57, 59, 62, 63, 64, 65, 197, 198, 199, 200, 201, 139, 140, 141, 202, 203, 204, 205, 206, 207, 9, 208, 209, 210, 211, 212, 213, 214, 215, 216, 71, 72, 73, 74, 86, 87, 88, 89, 217, 218, 219, 220, 221, 222, 223, 224, 225, 226, 227, 228, 229, 230, 231, 232, 233, 234, 249, 250, 235, 236, 237] rfl (by decide +kernel)
set_option maxRecDepth 20000 in
theorem gL_joins_X9_joinVerses : GoodIn wsL_joins (wsV RL 62 RX9 yX9_joinVerses wsX9_joinVerses) := goodIn_app (goodIn_of _ (by decide +kernel)) ggL_joins_X9_joinVerses
theorem dL_joins_0 : decode cL_joins 0 = .ok (.aload_n 0, 1) := by decide +kernel
theorem dL_joins_1 : decode cL_joins 1 = .ok (.iconst 2, 1) := by decide +kernel
theorem dL_joins_2 : decode cL_joins 2 = .ok (.iload_n 1, 1) := by decide +kernel
theorem dL_joins_3 : decode cL_joins 3 = .ok (.iadd, 1) := by decide +kernel
theorem dL_joins_4 : decode cL_joins 4 = .ok (.invokevirtual 9, 3) := by decide +kernel
theorem dL_joins_7 : decode cL_joins 7 = .ok (.istore_n 3, 1) := by decide +kernel
theorem dL_joins_8 : decode cL_joins 8 = .ok (.aload_n 0, 1) := by decide +kernel
theorem dL_joins_9 : decode cL_joins 9 = .ok (.iconst 4, 1) := by decide +kernel
theorem dL_joins_10 : decode cL_joins 10 = .ok (.invokevirtual 9, 3) := by decide +kernel
theorem dL_joins_13 : decode cL_joins 13 = .ok (.istore 4, 2) := by decide +kernel
theorem dL_joins_15 : decode cL_joins 15 = .ok (.aload_n 0, 1) := by decide +kernel
theorem dL_joins_16 : decode cL_joins 16 = .ok (.iload_n 1, 1) := by decide +kernel
theorem dL_joins_17 : decode cL_joins 17 = .ok (.iload_n 2, 1) := by decide +kernel
theorem dL_joins_18 : decode cL_joins 18 = .ok (.iconst 0, 1) := by decide +kernel
theorem dL_joins_19 : decode cL_joins 19 = .ok (.invokevirtual 32, 3) := by decide +kernel
theorem dL_joins_22 : decode cL_joins 22 = .ok (.istore 5, 2) := by decide +kernel
theorem dL_joins_24 : decode cL_joins 24 = .ok (.iload_n 2, 1) := by decide +kernel
theorem dL_joins_25 : decode cL_joins 25 = .ok (.iload_n 3, 1) := by decide +kernel
theorem dL_joins_26 : decode cL_joins 26 = .ok (.iconst 1, 1) := by decide +kernel
theorem dL_joins_27 : decode cL_joins 27 = .ok (.isub, 1) := by decide +kernel
theorem dL_joins_28 : decode cL_joins 28 = .ok (.if_icmp .eq 22, 3) := by decide +kernel
theorem dL_joins_31 : decode cL_joins 31 = .ok (.aload_n 0, 1) := by decide +kernel
theorem dL_joins_32 : decode cL_joins 32 = .ok (.iload_n 1, 1) := by decide +kernel
theorem dL_joins_33 : decode cL_joins 33 = .ok (.iload_n 2, 1) := by decide +kernel
theorem dL_joins_34 : decode cL_joins 34 = .ok (.iconst 0, 1) := by decide +kernel
theorem dL_joins_35 : decode cL_joins 35 = .ok (.invokevirtual 19, 3) := by decide +kernel
theorem dL_joins_38 : decode cL_joins 38 = .ok (.aload_n 0, 1) := by decide +kernel
theorem dL_joins_39 : decode cL_joins 39 = .ok (.iload_n 1, 1) := by decide +kernel
theorem dL_joins_40 : decode cL_joins 40 = .ok (.iload_n 2, 1) := by decide +kernel
theorem dL_joins_41 : decode cL_joins 41 = .ok (.iconst 1, 1) := by decide +kernel
theorem dL_joins_42 : decode cL_joins 42 = .ok (.iadd, 1) := by decide +kernel
theorem dL_joins_43 : decode cL_joins 43 = .ok (.iconst 0, 1) := by decide +kernel
theorem dL_joins_44 : decode cL_joins 44 = .ok (.invokevirtual 19, 3) := by decide +kernel
theorem dL_joins_47 : decode cL_joins 47 = .ok (.if_icmp .eq 7, 3) := by decide +kernel
theorem dL_joins_50 : decode cL_joins 50 = .ok (.iconst 1, 1) := by decide +kernel
theorem dL_joins_51 : decode cL_joins 51 = .ok (.goto 4, 3) := by decide +kernel
theorem dL_joins_54 : decode cL_joins 54 = .ok (.iconst 0, 1) := by decide +kernel
theorem dL_joins_55 : decode cL_joins 55 = .ok (.istore 6, 2) := by decide +kernel
theorem dL_joins_57 : decode cL_joins 57 = .ok (.iload 6, 2) := by decide +kernel
theorem dL_joins_59 : decode cL_joins 59 = .ok (.ifCond .eq 31, 3) := by decide +kernel
theorem dL_joins_62 : decode cL_joins 62 = .ok (.aload_n 0, 1) := by decide +kernel
theorem dL_joins_63 : decode cL_joins 63 = .ok (.iload_n 1, 1) := by decide +kernel
theorem dL_joins_64 : decode cL_joins 64 = .ok (.iload_n 2, 1) := by decide +kernel
theorem dL_joins_65 : decode cL_joins 65 = .ok (.invokevirtual 62, 3) := by decide +kernel
theorem dL_joins_68 : decode cL_joins 68 = .ok (.bipush (-4), 2) := by decide +kernel
theorem dL_joins_70 : decode cL_joins 70 = .ok (.if_icmp .ne 18, 3) := by decide +kernel
theorem dL_joins_73 : decode cL_joins 73 = .ok (.aload_n 0, 1) := by decide +kernel
theorem dL_joins_74 : decode cL_joins 74 = .ok (.iconst 2, 1) := by decide +kernel
theorem dL_joins_75 : decode cL_joins 75 = .ok (.iload_n 1, 1) := by decide +kernel
theorem dL_joins_76 : decode cL_joins 76 = .ok (.iadd, 1) := by decide +kernel
theorem dL_joins_77 : decode cL_joins 77 = .ok (.invokevirtual 9, 3) := by decide +kernel
theorem dL_joins_80 : decode cL_joins 80 = .ok (.iload_n 3, 1) := by decide +kernel
theorem dL_joins_81 : decode cL_joins 81 = .ok (.if_icmp .ne 7, 3) := by decide +kernel
theorem dL_joins_84 : decode cL_joins 84 = .ok (.iconst 1, 1) := by decide +kernel
theorem dL_joins_85 : decode cL_joins 85 = .ok (.goto 4, 3) := by decide +kernel
theorem dL_joins_88 : decode cL_joins 88 = .ok (.iconst 0, 1) := by decide +kernel
theorem dL_joins_89 : decode cL_joins 89 = .ok (.ireturn, 1) := by decide +kernel
theorem dL_joins_90 : decode cL_joins 90 = .ok (.aload_n 0, 1) := by decide +kernel
theorem dL_joins_91 : decode cL_joins 91 = .ok (.iload_n 1, 1) := by decide +kernel
theorem dL_joins_92 : decode cL_joins 92 = .ok (.iload_n 2, 1) := by decide +kernel
theorem dL_joins_93 : decode cL_joins 93 = .ok (.iconst 1, 1) := by decide +kernel
theorem dL_joins_94 : decode cL_joins 94 = .ok (.iadd, 1) := by decide +kernel
theorem dL_joins_95 : decode cL_joins 95 = .ok (.iconst 0, 1) := by decide +kernel
theorem dL_joins_96 : decode cL_joins 96 = .ok (.invokevirtual 32, 3) := by decide +kernel
theorem dL_joins_99 : decode cL_joins 99 = .ok (.istore 7, 2) := by decide +kernel
theorem dL_joins_101 : decode cL_joins 101 = .ok (.aload_n 0, 1) := by decide +kernel
theorem dL_joins_102 : decode cL_joins 102 = .ok (.iload_n 1, 1) := by decide +kernel
theorem dL_joins_103 : decode cL_joins 103 = .ok (.iload_n 2, 1) := by decide +kernel
theorem dL_joins_104 : decode cL_joins 104 = .ok (.iconst 2, 1) := by decide +kernel
theorem dL_joins_105 : decode cL_joins 105 = .ok (.invokevirtual 19, 3) := by decide +kernel
theorem dL_joins_108 : decode cL_joins 108 = .ok (.aload_n 0, 1) := by decide +kernel
theorem dL_joins_109 : decode cL_joins 109 = .ok (.iload_n 1, 1) := by decide +kernel
theorem dL_joins_110 : decode cL_joins 110 = .ok (.iload_n 2, 1) := by decide +kernel
theorem dL_joins_111 : decode cL_joins 111 = .ok (.iconst 1, 1) := by decide +kernel
theorem dL_joins_112 : decode cL_joins 112 = .ok (.iadd, 1) := by decide +kernel
theorem dL_joins_113 : decode cL_joins 113 = .ok (.iconst 2, 1) := by decide +kernel
theorem dL_joins_114 : decode cL_joins 114 = .ok (.invokevirtual 19, 3) := by decide +kernel
theorem dL_joins_117 : decode cL_joins 117 = .ok (.iadd, 1) := by decide +kernel
theorem dL_joins_118 : decode cL_joins 118 = .ok (.istore 8, 2) := by decide +kernel
theorem dL_joins_120 : decode cL_joins 120 = .ok (.aload_n 0, 1) := by decide +kernel
theorem dL_joins_121 : decode cL_joins 121 = .ok (.iload_n 1, 1) := by decide +kernel
theorem dL_joins_122 : decode cL_joins 122 = .ok (.iload_n 2, 1) := by decide +kernel
theorem dL_joins_123 : decode cL_joins 123 = .ok (.iconst 3, 1) := by decide +kernel
theorem dL_joins_124 : decode cL_joins 124 = .ok (.invokevirtual 19, 3) := by decide +kernel
theorem dL_joins_127 : decode cL_joins 127 = .ok (.aload_n 0, 1) := by decide +kernel
theorem dL_joins_128 : decode cL_joins 128 = .ok (.iload_n 1, 1) := by decide +kernel
theorem dL_joins_129 : decode cL_joins 129 = .ok (.iload_n 2, 1) := by decide +kernel
theorem dL_joins_130 : decode cL_joins 130 = .ok (.iconst 1, 1) := by decide +kernel
theorem dL_joins_131 : decode cL_joins 131 = .ok (.iadd, 1) := by decide +kernel
theorem dL_joins_132 : decode cL_joins 132 = .ok (.iconst 3, 1) := by decide +kernel
theorem dL_joins_133 : decode cL_joins 133 = .ok (.invokevirtual 19, 3) := by decide +kernel
theorem dL_joins_136 : decode cL_joins 136 = .ok (.iadd, 1) := by decide +kernel
theorem dL_joins_137 : decode cL_joins 137 = .ok (.istore 9, 2) := by decide +kernel
theorem dL_joins_139 : decode cL_joins 139 = .ok (.aload_n 0, 1) := by decide +kernel
theorem dL_joins_140 : decode cL_joins 140 = .ok (.iload_n 1, 1) := by decide +kernel
theorem dL_joins_141 : decode cL_joins 141 = .ok (.iload_n 2, 1) := by decide +kernel
theorem dL_joins_142 : decode cL_joins 142 = .ok (.invokevirtual 62, 3) := by decide +kernel
theorem dL_joins_145 : decode cL_joins 145 = .ok (.iload_n 3, 1) := by decide +kernel
theorem dL_joins_146 : decode cL_joins 146 = .ok (.iconst 1, 1) := by decide +kernel
theorem dL_joins_147 : decode cL_joins 147 = .ok (.isub, 1) := by decide +kernel
theorem dL_joins_148 : decode cL_joins 148 = .ok (.if_icmp .ne 85, 3) := by decide +kernel
theorem dL_joins_151 : decode cL_joins 151 = .ok (.aload_n 0, 1) := by decide +kernel
theorem dL_joins_152 : decode cL_joins 152 = .ok (.iconst 4, 1) := by decide +kernel
theorem dL_joins_153 : decode cL_joins 153 = .ok (.invokevirtual 9, 3) := by decide +kernel
theorem dL_joins_156 : decode cL_joins 156 = .ok (.iload 4, 2) := by decide +kernel
theorem dL_joins_158 : decode cL_joins 158 = .ok (.iload 7, 2) := by decide +kernel
theorem dL_joins_160 : decode cL_joins 160 = .ok (.iload 5, 2) := by decide +kernel
theorem dL_joins_162 : decode cL_joins 162 = .ok (.isub, 1) := by decide +kernel
theorem dL_joins_163 : decode cL_joins 163 = .ok (.isub, 1) := by decide +kernel
theorem dL_joins_164 : decode cL_joins 164 = .ok (.if_icmp .ne 69, 3) := by decide +kernel
theorem dL_joins_167 : decode cL_joins 167 = .ok (.aload_n 0, 1) := by decide +kernel
theorem dL_joins_168 : decode cL_joins 168 = .ok (.iload_n 1, 1) := by decide +kernel
theorem dL_joins_169 : decode cL_joins 169 = .ok (.iload_n 2, 1) := by decide +kernel
theorem dL_joins_170 : decode cL_joins 170 = .ok (.iconst 0, 1) := by decide +kernel
theorem dL_joins_171 : decode cL_joins 171 = .ok (.invokevirtual 32, 3) := by decide +kernel
theorem dL_joins_174 : decode cL_joins 174 = .ok (.iload 5, 2) := by decide +kernel
theorem dL_joins_176 : decode cL_joins 176 = .ok (.if_icmp .ne 57, 3) := by decide +kernel
theorem dL_joins_179 : decode cL_joins 179 = .ok (.aload_n 0, 1) := by decide +kernel
theorem dL_joins_180 : decode cL_joins 180 = .ok (.iload_n 1, 1) := by decide +kernel
theorem dL_joins_181 : decode cL_joins 181 = .ok (.iload_n 2, 1) := by decide +kernel
theorem dL_joins_182 : decode cL_joins 182 = .ok (.iconst 2, 1) := by decide +kernel
theorem dL_joins_183 : decode cL_joins 183 = .ok (.invokevirtual 19, 3) := by decide +kernel
theorem dL_joins_186 : decode cL_joins 186 = .ok (.iload 8, 2) := by decide +kernel
theorem dL_joins_188 : decode cL_joins 188 = .ok (.sipush 2000, 3) := by decide +kernel
theorem dL_joins_191 : decode cL_joins 191 = .ok (.if_icmp .le 9, 3) := by decide +kernel
theorem dL_joins_194 : decode cL_joins 194 = .ok (.sipush 2000, 3) := by decide +kernel
theorem dL_joins_197 : decode cL_joins 197 = .ok (.goto 5, 3) := by decide +kernel
theorem dL_joins_200 : decode cL_joins 200 = .ok (.iload 8, 2) := by decide +kernel
theorem dL_joins_202 : decode cL_joins 202 = .ok (.if_icmp .ne 31, 3) := by decide +kernel
theorem dL_joins_205 : decode cL_joins 205 = .ok (.aload_n 0, 1) := by decide +kernel
theorem dL_joins_206 : decode cL_joins 206 = .ok (.iload_n 1, 1) := by decide +kernel
theorem dL_joins_207 : decode cL_joins 207 = .ok (.iload_n 2, 1) := by decide +kernel
theorem dL_joins_208 : decode cL_joins 208 = .ok (.iconst 3, 1) := by decide +kernel
theorem dL_joins_209 : decode cL_joins 209 = .ok (.invokevirtual 19, 3) := by decide +kernel
theorem dL_joins_212 : decode cL_joins 212 = .ok (.iload 9, 2) := by decide +kernel
theorem dL_joins_214 : decode cL_joins 214 = .ok (.bipush 10, 2) := by decide +kernel
theorem dL_joins_216 : decode cL_joins 216 = .ok (.if_icmp .le 8, 3) := by decide +kernel
theorem dL_joins_219 : decode cL_joins 219 = .ok (.bipush 10, 2) := by decide +kernel
theorem dL_joins_221 : decode cL_joins 221 = .ok (.goto 5, 3) := by decide +kernel
theorem dL_joins_224 : decode cL_joins 224 = .ok (.iload 9, 2) := by decide +kernel
theorem dL_joins_226 : decode cL_joins 226 = .ok (.if_icmp .ne 7, 3) := by decide +kernel
theorem dL_joins_229 : decode cL_joins 229 = .ok (.iconst 1, 1) := by decide +kernel
theorem dL_joins_230 : decode cL_joins 230 = .ok (.goto 4, 3) := by decide +kernel
theorem dL_joins_233 : decode cL_joins 233 = .ok (.iconst 0, 1) := by decide +kernel
theorem dL_joins_234 : decode cL_joins 234 = .ok (.ireturn, 1) := by decide +kernel
