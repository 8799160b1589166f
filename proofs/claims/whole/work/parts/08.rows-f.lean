set_option maxRecDepth 20000 in
theorem ggX10_readItem_X10_number : GoodIn wsX10_readItem wsX10_number := goodIn_r _ [10, 3, 11, 1, 2, 12, 13, 14, 9, 15, 16, 28, 29, 30, 31, 32, 33, 34, 35, 36, 37, 38, 39, 40, 41, 42, 43, 44, 45, 46, 47, 48, 49, 50] (by decide +kernel) (by decide +kernel)
set_option maxRecDepth 20000 in
theorem gX10_readItem_X10_number : GoodIn wsX10_readItem (wsV RX10 126 RX10 yX10_number wsX10_number) := goodIn_app (goodIn_of _ (by decide +kernel)) ggX10_readItem_X10_number
set_option maxRecDepth 20000 in
theorem ggX10_readItem_X10_isAt : GoodIn wsX10_readItem wsX10_isAt := goodIn_r _ [15, 3, 16, 2, 28, 29, 30, 31, 32, 33, 34, 35, 36, 37, 38, 39, 40, 41, 42, 43, 44, 45, 46, 47, 48, 49, 50] (by decide +kernel) (by decide +kernel)
set_option maxRecDepth 20000 in
theorem gX10_readItem_X10_isAt : GoodIn wsX10_readItem (wsV RX10 113 RX10 yX10_isAt wsX10_isAt) := goodIn_app (goodIn_of _ (by decide +kernel)) ggX10_readItem_X10_isAt
set_option maxRecDepth 20000 in
theorem ggX10_readItem_X10_needs : GoodIn wsX10_readItem wsX10_needs := goodIn_r _ [20, 1, 11, 3, 28, 29, 30, 31, 32, 33, 34, 35, 36, 37, 38, 39, 40, 41, 42, 43, 44, 45, 46, 47, 48, 49, 50] (by decide +kernel) (by decide +kernel)
set_option maxRecDepth 20000 in
theorem gX10_readItem_X10_needs : GoodIn wsX10_readItem (wsV RX10 129 RX10 yX10_needs wsX10_needs) := goodIn_app (goodIn_of _ (by decide +kernel)) ggX10_readItem_X10_needs
set_option maxRecDepth 20000 in
theorem ggX10_readItem_X10_put : GoodIn wsX10_readItem wsX10_put := goodIn_r _ [24, 25, 26, 27, 4, 5, 28, 29, 30, 31, 32, 33, 34, 35, 36, 37, 38, 39, 40, 41, 42, 43, 44, 45, 46, 47, 48, 49, 50] (by decide +kernel) (by decide +kernel)
set_option maxRecDepth 20000 in
theorem gX10_readItem_X10_put : GoodIn wsX10_readItem (wsV RX10 133 RX10 yX10_put wsX10_put) := goodIn_app (goodIn_of _ (by decide +kernel)) ggX10_readItem_X10_put
theorem dX10_readItem_0 : decode cX10_readItem 0 = .ok (.aload_n 0, 1) := by decide +kernel
theorem dX10_readItem_1 : decode cX10_readItem 1 = .ok (.invokevirtual 126, 3) := by decide +kernel
theorem dX10_readItem_4 : decode cX10_readItem 4 = .ok (.istore_n 1, 1) := by decide +kernel
theorem dX10_readItem_5 : decode cX10_readItem 5 = .ok (.aload_n 0, 1) := by decide +kernel
theorem dX10_readItem_6 : decode cX10_readItem 6 = .ok (.getfield 109, 3) := by decide +kernel
theorem dX10_readItem_9 : decode cX10_readItem 9 = .ok (.ifCond .eq 51, 3) := by decide +kernel
theorem dX10_readItem_12 : decode cX10_readItem 12 = .ok (.aload_n 0, 1) := by decide +kernel
theorem dX10_readItem_13 : decode cX10_readItem 13 = .ok (.bipush 61, 2) := by decide +kernel
theorem dX10_readItem_15 : decode cX10_readItem 15 = .ok (.bipush 61, 2) := by decide +kernel
theorem dX10_readItem_17 : decode cX10_readItem 17 = .ok (.invokevirtual 113, 3) := by decide +kernel
theorem dX10_readItem_20 : decode cX10_readItem 20 = .ok (.ifCond .ne 36, 3) := by decide +kernel
theorem dX10_readItem_23 : decode cX10_readItem 23 = .ok (.aload_n 0, 1) := by decide +kernel
theorem dX10_readItem_24 : decode cX10_readItem 24 = .ok (.bipush 60, 2) := by decide +kernel
theorem dX10_readItem_26 : decode cX10_readItem 26 = .ok (.bipush 60, 2) := by decide +kernel
theorem dX10_readItem_28 : decode cX10_readItem 28 = .ok (.invokevirtual 113, 3) := by decide +kernel
theorem dX10_readItem_31 : decode cX10_readItem 31 = .ok (.ifCond .ne 25, 3) := by decide +kernel
theorem dX10_readItem_34 : decode cX10_readItem 34 = .ok (.aload_n 0, 1) := by decide +kernel
theorem dX10_readItem_35 : decode cX10_readItem 35 = .ok (.bipush 62, 2) := by decide +kernel
theorem dX10_readItem_37 : decode cX10_readItem 37 = .ok (.bipush 62, 2) := by decide +kernel
theorem dX10_readItem_39 : decode cX10_readItem 39 = .ok (.invokevirtual 113, 3) := by decide +kernel
theorem dX10_readItem_42 : decode cX10_readItem 42 = .ok (.ifCond .ne 14, 3) := by decide +kernel
theorem dX10_readItem_45 : decode cX10_readItem 45 = .ok (.aload_n 0, 1) := by decide +kernel
theorem dX10_readItem_46 : decode cX10_readItem 46 = .ok (.bipush 43, 2) := by decide +kernel
theorem dX10_readItem_48 : decode cX10_readItem 48 = .ok (.bipush 43, 2) := by decide +kernel
theorem dX10_readItem_50 : decode cX10_readItem 50 = .ok (.invokevirtual 113, 3) := by decide +kernel
theorem dX10_readItem_53 : decode cX10_readItem 53 = .ok (.ifCond .eq 7, 3) := by decide +kernel
theorem dX10_readItem_56 : decode cX10_readItem 56 = .ok (.iconst 1, 1) := by decide +kernel
theorem dX10_readItem_57 : decode cX10_readItem 57 = .ok (.goto 4, 3) := by decide +kernel
theorem dX10_readItem_60 : decode cX10_readItem 60 = .ok (.iconst 0, 1) := by decide +kernel
theorem dX10_readItem_61 : decode cX10_readItem 61 = .ok (.istore_n 2, 1) := by decide +kernel
theorem dX10_readItem_62 : decode cX10_readItem 62 = .ok (.iload_n 2, 1) := by decide +kernel
theorem dX10_readItem_63 : decode cX10_readItem 63 = .ok (.ifCond .eq 15, 3) := by decide +kernel
theorem dX10_readItem_66 : decode cX10_readItem 66 = .ok (.aload_n 0, 1) := by decide +kernel
theorem dX10_readItem_67 : decode cX10_readItem 67 = .ok (.getfield 16, 3) := by decide +kernel
theorem dX10_readItem_70 : decode cX10_readItem 70 = .ok (.aload_n 0, 1) := by decide +kernel
theorem dX10_readItem_71 : decode cX10_readItem 71 = .ok (.getfield 103, 3) := by decide +kernel
theorem dX10_readItem_74 : decode cX10_readItem 74 = .ok (.caload, 1) := by decide +kernel
theorem dX10_readItem_75 : decode cX10_readItem 75 = .ok (.goto 5, 3) := by decide +kernel
theorem dX10_readItem_78 : decode cX10_readItem 78 = .ok (.bipush 32, 2) := by decide +kernel
theorem dX10_readItem_80 : decode cX10_readItem 80 = .ok (.istore_n 3, 1) := by decide +kernel
theorem dX10_readItem_81 : decode cX10_readItem 81 = .ok (.iload_n 2, 1) := by decide +kernel
theorem dX10_readItem_82 : decode cX10_readItem 82 = .ok (.ifCond .ne 9, 3) := by decide +kernel
theorem dX10_readItem_85 : decode cX10_readItem 85 = .ok (.aload_n 0, 1) := by decide +kernel
theorem dX10_readItem_86 : decode cX10_readItem 86 = .ok (.iconst 0, 1) := by decide +kernel
theorem dX10_readItem_87 : decode cX10_readItem 87 = .ok (.putfield 109, 3) := by decide +kernel
theorem dX10_readItem_90 : decode cX10_readItem 90 = .ok (.return_, 1) := by decide +kernel
theorem dX10_readItem_91 : decode cX10_readItem 91 = .ok (.aload_n 0, 1) := by decide +kernel
theorem dX10_readItem_92 : decode cX10_readItem 92 = .ok (.dup, 1) := by decide +kernel
theorem dX10_readItem_93 : decode cX10_readItem 93 = .ok (.getfield 103, 3) := by decide +kernel
theorem dX10_readItem_96 : decode cX10_readItem 96 = .ok (.iconst 1, 1) := by decide +kernel
theorem dX10_readItem_97 : decode cX10_readItem 97 = .ok (.iadd, 1) := by decide +kernel
theorem dX10_readItem_98 : decode cX10_readItem 98 = .ok (.putfield 103, 3) := by decide +kernel
theorem dX10_readItem_101 : decode cX10_readItem 101 = .ok (.aload_n 0, 1) := by decide +kernel
theorem dX10_readItem_102 : decode cX10_readItem 102 = .ok (.iload_n 3, 1) := by decide +kernel
theorem dX10_readItem_103 : decode cX10_readItem 103 = .ok (.bipush 62, 2) := by decide +kernel
theorem dX10_readItem_105 : decode cX10_readItem 105 = .ok (.if_icmp .eq 11, 3) := by decide +kernel
theorem dX10_readItem_108 : decode cX10_readItem 108 = .ok (.iload_n 1, 1) := by decide +kernel
theorem dX10_readItem_109 : decode cX10_readItem 109 = .ok (.aload_n 0, 1) := by decide +kernel
theorem dX10_readItem_110 : decode cX10_readItem 110 = .ok (.getfield 120, 3) := by decide +kernel
theorem dX10_readItem_113 : decode cX10_readItem 113 = .ok (.if_icmp .gt 27, 3) := by decide +kernel
theorem dX10_readItem_116 : decode cX10_readItem 116 = .ok (.iload_n 3, 1) := by decide +kernel
theorem dX10_readItem_117 : decode cX10_readItem 117 = .ok (.bipush 62, 2) := by decide +kernel
theorem dX10_readItem_119 : decode cX10_readItem 119 = .ok (.if_icmp .eq 9, 3) := by decide +kernel
theorem dX10_readItem_122 : decode cX10_readItem 122 = .ok (.iload_n 3, 1) := by decide +kernel
theorem dX10_readItem_123 : decode cX10_readItem 123 = .ok (.bipush 61, 2) := by decide +kernel
theorem dX10_readItem_125 : decode cX10_readItem 125 = .ok (.if_icmp .ne 11, 3) := by decide +kernel
theorem dX10_readItem_128 : decode cX10_readItem 128 = .ok (.iload_n 1, 1) := by decide +kernel
theorem dX10_readItem_129 : decode cX10_readItem 129 = .ok (.aload_n 0, 1) := by decide +kernel
theorem dX10_readItem_130 : decode cX10_readItem 130 = .ok (.getfield 123, 3) := by decide +kernel
theorem dX10_readItem_133 : decode cX10_readItem 133 = .ok (.if_icmp .gt 7, 3) := by decide +kernel
theorem dX10_readItem_136 : decode cX10_readItem 136 = .ok (.iconst 1, 1) := by decide +kernel
theorem dX10_readItem_137 : decode cX10_readItem 137 = .ok (.goto 4, 3) := by decide +kernel
theorem dX10_readItem_140 : decode cX10_readItem 140 = .ok (.iconst 0, 1) := by decide +kernel
theorem dX10_readItem_141 : decode cX10_readItem 141 = .ok (.invokevirtual 129, 3) := by decide +kernel
theorem dX10_readItem_144 : decode cX10_readItem 144 = .ok (.aload_n 0, 1) := by decide +kernel
theorem dX10_readItem_145 : decode cX10_readItem 145 = .ok (.getfield 109, 3) := by decide +kernel
theorem dX10_readItem_148 : decode cX10_readItem 148 = .ok (.ifCond .eq 48, 3) := by decide +kernel
theorem dX10_readItem_151 : decode cX10_readItem 151 = .ok (.iload_n 3, 1) := by decide +kernel
theorem dX10_readItem_152 : decode cX10_readItem 152 = .ok (.bipush 43, 2) := by decide +kernel
theorem dX10_readItem_154 : decode cX10_readItem 154 = .ok (.if_icmp .ne 42, 3) := by decide +kernel
theorem dX10_readItem_157 : decode cX10_readItem 157 = .ok (.aload_n 0, 1) := by decide +kernel
theorem dX10_readItem_158 : decode cX10_readItem 158 = .ok (.invokevirtual 126, 3) := by decide +kernel
theorem dX10_readItem_161 : decode cX10_readItem 161 = .ok (.istore 4, 2) := by decide +kernel
theorem dX10_readItem_163 : decode cX10_readItem 163 = .ok (.aload_n 0, 1) := by decide +kernel
theorem dX10_readItem_164 : decode cX10_readItem 164 = .ok (.iload 4, 2) := by decide +kernel
theorem dX10_readItem_166 : decode cX10_readItem 166 = .ok (.aload_n 0, 1) := by decide +kernel
theorem dX10_readItem_167 : decode cX10_readItem 167 = .ok (.getfield 123, 3) := by decide +kernel
theorem dX10_readItem_170 : decode cX10_readItem 170 = .ok (.if_icmp .gt 7, 3) := by decide +kernel
theorem dX10_readItem_173 : decode cX10_readItem 173 = .ok (.iconst 1, 1) := by decide +kernel
theorem dX10_readItem_174 : decode cX10_readItem 174 = .ok (.goto 4, 3) := by decide +kernel
theorem dX10_readItem_177 : decode cX10_readItem 177 = .ok (.iconst 0, 1) := by decide +kernel
theorem dX10_readItem_178 : decode cX10_readItem 178 = .ok (.invokevirtual 129, 3) := by decide +kernel
theorem dX10_readItem_181 : decode cX10_readItem 181 = .ok (.aload_n 0, 1) := by decide +kernel
theorem dX10_readItem_182 : decode cX10_readItem 182 = .ok (.getfield 109, 3) := by decide +kernel
theorem dX10_readItem_185 : decode cX10_readItem 185 = .ok (.ifCond .eq 10, 3) := by decide +kernel
theorem dX10_readItem_188 : decode cX10_readItem 188 = .ok (.aload_n 0, 1) := by decide +kernel
theorem dX10_readItem_189 : decode cX10_readItem 189 = .ok (.iload_n 1, 1) := by decide +kernel
theorem dX10_readItem_190 : decode cX10_readItem 190 = .ok (.iload 4, 2) := by decide +kernel
theorem dX10_readItem_192 : decode cX10_readItem 192 = .ok (.invokevirtual 133, 3) := by decide +kernel
theorem dX10_readItem_195 : decode cX10_readItem 195 = .ok (.return_, 1) := by decide +kernel
theorem dX10_readItem_196 : decode cX10_readItem 196 = .ok (.iconst 0, 1) := by decide +kernel
theorem dX10_readItem_197 : decode cX10_readItem 197 = .ok (.istore 4, 2) := by decide +kernel
theorem dX10_readItem_199 : decode cX10_readItem 199 = .ok (.iload 4, 2) := by decide +kernel
theorem dX10_readItem_201 : decode cX10_readItem 201 = .ok (.iload_n 1, 1) := by decide +kernel
theorem dX10_readItem_202 : decode cX10_readItem 202 = .ok (.if_icmp .ge 42, 3) := by decide +kernel
theorem dX10_readItem_205 : decode cX10_readItem 205 = .ok (.aload_n 0, 1) := by decide +kernel
theorem dX10_readItem_206 : decode cX10_readItem 206 = .ok (.getfield 109, 3) := by decide +kernel
theorem dX10_readItem_209 : decode cX10_readItem 209 = .ok (.ifCond .eq 35, 3) := by decide +kernel
theorem dX10_readItem_212 : decode cX10_readItem 212 = .ok (.aload_n 0, 1) := by decide +kernel
theorem dX10_readItem_213 : decode cX10_readItem 213 = .ok (.iload_n 3, 1) := by decide +kernel
theorem dX10_readItem_214 : decode cX10_readItem 214 = .ok (.bipush 62, 2) := by decide +kernel
theorem dX10_readItem_216 : decode cX10_readItem 216 = .ok (.if_icmp .ne 7, 3) := by decide +kernel
theorem dX10_readItem_219 : decode cX10_readItem 219 = .ok (.iconst 0, 1) := by decide +kernel
theorem dX10_readItem_220 : decode cX10_readItem 220 = .ok (.goto 4, 3) := by decide +kernel
theorem dX10_readItem_223 : decode cX10_readItem 223 = .ok (.iconst 1, 1) := by decide +kernel
theorem dX10_readItem_224 : decode cX10_readItem 224 = .ok (.iload_n 3, 1) := by decide +kernel
theorem dX10_readItem_225 : decode cX10_readItem 225 = .ok (.bipush 60, 2) := by decide +kernel
theorem dX10_readItem_227 : decode cX10_readItem 227 = .ok (.if_icmp .ne 7, 3) := by decide +kernel
theorem dX10_readItem_230 : decode cX10_readItem 230 = .ok (.iconst 0, 1) := by decide +kernel
theorem dX10_readItem_231 : decode cX10_readItem 231 = .ok (.goto 4, 3) := by decide +kernel
theorem dX10_readItem_234 : decode cX10_readItem 234 = .ok (.iconst 1, 1) := by decide +kernel
theorem dX10_readItem_235 : decode cX10_readItem 235 = .ok (.invokevirtual 133, 3) := by decide +kernel
theorem dX10_readItem_238 : decode cX10_readItem 238 = .ok (.iinc 4 1, 3) := by decide +kernel
theorem dX10_readItem_241 : decode cX10_readItem 241 = .ok (.goto (-42), 3) := by decide +kernel
theorem dX10_readItem_244 : decode cX10_readItem 244 = .ok (.return_, 1) := by decide +kernel
set_option maxRecDepth 20000 in
theorem ggX10_readMap_X10_size : GoodIn wsX10_readMap wsX10_size := goodIn_r _ [14, 7, 51, 52, 53, 54, 55, 56, 57, 58, 59, 60, 61, 62, 63, 64, 65, 66, 67, 68, 69, 70, 71, 72, 73] (by decide +kernel) (by decide +kernel)
set_option maxRecDepth 20000 in
theorem gX10_readMap_X10_size : GoodIn wsX10_readMap (wsV RX10 56 RX10 yX10_size wsX10_size) := goodIn_app (goodIn_of _ (by decide +kernel)) ggX10_readMap_X10_size
set_option maxRecDepth 20000 in
theorem ggX10_readMap_X10_readItem : GoodIn wsX10_readMap wsX10_readItem := goodIn_r _ [18, 2, 19, 1, 4, 5, 20, 21, 22, 13, 23, 24, 25, 26, 27, 28, 6, 29, 30, 31, 32, 33, 34, 35, 36, 8, 3, 9, 51, 52, 53, 54, 55, 56, 57, 58, 59, 60, 61, 62, 63, 64, 65, 66, 67, 68, 69, 70, 71, 72, 73] (by decide +kernel) (by decide +kernel)
set_option maxRecDepth 20000 in
theorem gX10_readMap_X10_readItem : GoodIn wsX10_readMap (wsV RX10 136 RX10 yX10_readItem wsX10_readItem) := goodIn_app (goodIn_of _ (by decide +kernel)) ggX10_readMap_X10_readItem
set_option maxRecDepth 20000 in
theorem ggX10_readMap_X10_isAt : GoodIn wsX10_readMap wsX10_isAt := goodIn_r _ [28, 1, 6, 19, 51, 52, 53, 54, 55, 56, 57, 58, 59, 60, 61, 62, 63, 64, 65, 66, 67, 68, 69, 70, 71, 72, 73] (by decide +kernel) (by decide +kernel)
set_option maxRecDepth 20000 in
theorem gX10_readMap_X10_isAt : GoodIn wsX10_readMap (wsV RX10 113 RX10 yX10_isAt wsX10_isAt) := goodIn_app (goodIn_of _ (by decide +kernel)) ggX10_readMap_X10_isAt
set_option maxRecDepth 20000 in
theorem ggX10_readMap_X10_record : GoodIn wsX10_readMap wsX10_record := goodIn_r _ [40, 41, 42, 7, 51, 52, 53, 54, 55, 56, 57, 58, 59, 60, 61, 62, 63, 64, 65, 66, 67, 68, 69, 70, 71, 72, 73] (by decide +kernel) (by decide +kernel)
set_option maxRecDepth 20000 in
theorem gX10_readMap_X10_record : GoodIn wsX10_readMap (wsV RX10 67 RX10 yX10_record wsX10_record) := goodIn_app (goodIn_of _ (by decide +kernel)) ggX10_readMap_X10_record
set_option maxRecDepth 20000 in
theorem ggX10_readMap_X10_addGroup : GoodIn wsX10_readMap wsX10_addGroup := goodIn_r _ [46, 7, 47, 48, 49, 13, 50, 51, 52, 53, 54, 55, 56, 57, 58, 59, 60, 61, 62, 63, 64, 65, 66, 67, 68, 69, 70, 71, 72, 73] (by decide +kernel) (by decide +kernel)
set_option maxRecDepth 20000 in
theorem gX10_readMap_X10_addGroup : GoodIn wsX10_readMap (wsV RX10 70 RX10 yX10_addGroup wsX10_addGroup) := goodIn_app (goodIn_of _ (by decide +kernel)) ggX10_readMap_X10_addGroup
set_option maxRecDepth 20000 in
theorem ggX10_readMap_X10_groups : GoodIn wsX10_readMap wsX10_groups := goodIn_r _ [50, 7, 51, 52, 53, 54, 55, 56, 57, 58, 59, 60, 61, 62, 63, 64, 65, 66, 67, 68, 69, 70, 71, 72, 73] (by decide +kernel) (by decide +kernel)
set_option maxRecDepth 20000 in
theorem gX10_readMap_X10_groups : GoodIn wsX10_readMap (wsV RX10 60 RX10 yX10_groups wsX10_groups) := goodIn_app (goodIn_of _ (by decide +kernel)) ggX10_readMap_X10_groups
theorem dX10_readMap_0 : decode cX10_readMap 0 = .ok (.aload_n 0, 1) := by decide +kernel
theorem dX10_readMap_1 : decode cX10_readMap 1 = .ok (.iconst 0, 1) := by decide +kernel
theorem dX10_readMap_2 : decode cX10_readMap 2 = .ok (.putfield 103, 3) := by decide +kernel
theorem dX10_readMap_5 : decode cX10_readMap 5 = .ok (.aload_n 0, 1) := by decide +kernel
theorem dX10_readMap_6 : decode cX10_readMap 6 = .ok (.iconst 1, 1) := by decide +kernel
theorem dX10_readMap_7 : decode cX10_readMap 7 = .ok (.putfield 109, 3) := by decide +kernel
theorem dX10_readMap_10 : decode cX10_readMap 10 = .ok (.aload_n 0, 1) := by decide +kernel
theorem dX10_readMap_11 : decode cX10_readMap 11 = .ok (.iconst 0, 1) := by decide +kernel
theorem dX10_readMap_12 : decode cX10_readMap 12 = .ok (.putfield 117, 3) := by decide +kernel
theorem dX10_readMap_15 : decode cX10_readMap 15 = .ok (.aload_n 0, 1) := by decide +kernel
theorem dX10_readMap_16 : decode cX10_readMap 16 = .ok (.aload_n 0, 1) := by decide +kernel
theorem dX10_readMap_17 : decode cX10_readMap 17 = .ok (.iconst 0, 1) := by decide +kernel
theorem dX10_readMap_18 : decode cX10_readMap 18 = .ok (.invokevirtual 56, 3) := by decide +kernel
theorem dX10_readMap_21 : decode cX10_readMap 21 = .ok (.putfield 120, 3) := by decide +kernel
theorem dX10_readMap_24 : decode cX10_readMap 24 = .ok (.aload_n 0, 1) := by decide +kernel
theorem dX10_readMap_25 : decode cX10_readMap 25 = .ok (.aload_n 0, 1) := by decide +kernel
theorem dX10_readMap_26 : decode cX10_readMap 26 = .ok (.iconst 1, 1) := by decide +kernel
theorem dX10_readMap_27 : decode cX10_readMap 27 = .ok (.invokevirtual 56, 3) := by decide +kernel
theorem dX10_readMap_30 : decode cX10_readMap 30 = .ok (.putfield 123, 3) := by decide +kernel
theorem dX10_readMap_33 : decode cX10_readMap 33 = .ok (.aload_n 0, 1) := by decide +kernel
theorem dX10_readMap_34 : decode cX10_readMap 34 = .ok (.invokevirtual 136, 3) := by decide +kernel
theorem dX10_readMap_37 : decode cX10_readMap 37 = .ok (.aload_n 0, 1) := by decide +kernel
theorem dX10_readMap_38 : decode cX10_readMap 38 = .ok (.getfield 109, 3) := by decide +kernel
theorem dX10_readMap_41 : decode cX10_readMap 41 = .ok (.ifCond .eq 31, 3) := by decide +kernel
theorem dX10_readMap_44 : decode cX10_readMap 44 = .ok (.aload_n 0, 1) := by decide +kernel
theorem dX10_readMap_45 : decode cX10_readMap 45 = .ok (.bipush 44, 2) := by decide +kernel
theorem dX10_readMap_47 : decode cX10_readMap 47 = .ok (.bipush 44, 2) := by decide +kernel
theorem dX10_readMap_49 : decode cX10_readMap 49 = .ok (.invokevirtual 113, 3) := by decide +kernel
theorem dX10_readMap_52 : decode cX10_readMap 52 = .ok (.ifCond .eq 20, 3) := by decide +kernel
theorem dX10_readMap_55 : decode cX10_readMap 55 = .ok (.aload_n 0, 1) := by decide +kernel
theorem dX10_readMap_56 : decode cX10_readMap 56 = .ok (.dup, 1) := by decide +kernel
theorem dX10_readMap_57 : decode cX10_readMap 57 = .ok (.getfield 103, 3) := by decide +kernel
theorem dX10_readMap_60 : decode cX10_readMap 60 = .ok (.iconst 1, 1) := by decide +kernel
theorem dX10_readMap_61 : decode cX10_readMap 61 = .ok (.iadd, 1) := by decide +kernel
theorem dX10_readMap_62 : decode cX10_readMap 62 = .ok (.putfield 103, 3) := by decide +kernel
theorem dX10_readMap_65 : decode cX10_readMap 65 = .ok (.aload_n 0, 1) := by decide +kernel
theorem dX10_readMap_66 : decode cX10_readMap 66 = .ok (.invokevirtual 136, 3) := by decide +kernel
theorem dX10_readMap_69 : decode cX10_readMap 69 = .ok (.goto (-32), 3) := by decide +kernel
theorem dX10_readMap_72 : decode cX10_readMap 72 = .ok (.aload_n 0, 1) := by decide +kernel
theorem dX10_readMap_73 : decode cX10_readMap 73 = .ok (.getfield 109, 3) := by decide +kernel
theorem dX10_readMap_76 : decode cX10_readMap 76 = .ok (.ifCond .eq 26, 3) := by decide +kernel
theorem dX10_readMap_79 : decode cX10_readMap 79 = .ok (.aload_n 0, 1) := by decide +kernel
theorem dX10_readMap_80 : decode cX10_readMap 80 = .ok (.getfield 103, 3) := by decide +kernel
theorem dX10_readMap_83 : decode cX10_readMap 83 = .ok (.aload_n 0, 1) := by decide +kernel
theorem dX10_readMap_84 : decode cX10_readMap 84 = .ok (.getfield 100, 3) := by decide +kernel
theorem dX10_readMap_87 : decode cX10_readMap 87 = .ok (.if_icmp .lt 15, 3) := by decide +kernel
theorem dX10_readMap_90 : decode cX10_readMap 90 = .ok (.aload_n 0, 1) := by decide +kernel
theorem dX10_readMap_91 : decode cX10_readMap 91 = .ok (.getfield 120, 3) := by decide +kernel
theorem dX10_readMap_94 : decode cX10_readMap 94 = .ok (.aload_n 0, 1) := by decide +kernel
theorem dX10_readMap_95 : decode cX10_readMap 95 = .ok (.getfield 123, 3) := by decide +kernel
theorem dX10_readMap_98 : decode cX10_readMap 98 = .ok (.iadd, 1) := by decide +kernel
theorem dX10_readMap_99 : decode cX10_readMap 99 = .ok (.ifCond .le 11, 3) := by decide +kernel
theorem dX10_readMap_102 : decode cX10_readMap 102 = .ok (.bipush (-100), 2) := by decide +kernel
theorem dX10_readMap_104 : decode cX10_readMap 104 = .ok (.aload_n 0, 1) := by decide +kernel
theorem dX10_readMap_105 : decode cX10_readMap 105 = .ok (.getfield 103, 3) := by decide +kernel
theorem dX10_readMap_108 : decode cX10_readMap 108 = .ok (.isub, 1) := by decide +kernel
theorem dX10_readMap_109 : decode cX10_readMap 109 = .ok (.ireturn, 1) := by decide +kernel
theorem dX10_readMap_110 : decode cX10_readMap 110 = .ok (.aload_n 0, 1) := by decide +kernel
theorem dX10_readMap_111 : decode cX10_readMap 111 = .ok (.invokevirtual 67, 3) := by decide +kernel
theorem dX10_readMap_114 : decode cX10_readMap 114 = .ok (.aload_n 0, 1) := by decide +kernel
theorem dX10_readMap_115 : decode cX10_readMap 115 = .ok (.getfield 7, 3) := by decide +kernel
theorem dX10_readMap_118 : decode cX10_readMap 118 = .ok (.sipush 364, 3) := by decide +kernel
theorem dX10_readMap_121 : decode cX10_readMap 121 = .ok (.iconst 0, 1) := by decide +kernel
theorem dX10_readMap_122 : decode cX10_readMap 122 = .ok (.iastore, 1) := by decide +kernel
theorem dX10_readMap_123 : decode cX10_readMap 123 = .ok (.iconst 0, 1) := by decide +kernel
theorem dX10_readMap_124 : decode cX10_readMap 124 = .ok (.istore_n 1, 1) := by decide +kernel
theorem dX10_readMap_125 : decode cX10_readMap 125 = .ok (.iload_n 1, 1) := by decide +kernel
theorem dX10_readMap_126 : decode cX10_readMap 126 = .ok (.aload_n 0, 1) := by decide +kernel
theorem dX10_readMap_127 : decode cX10_readMap 127 = .ok (.getfield 117, 3) := by decide +kernel
theorem dX10_readMap_130 : decode cX10_readMap 130 = .ok (.if_icmp .ge 25, 3) := by decide +kernel
theorem dX10_readMap_133 : decode cX10_readMap 133 = .ok (.aload_n 0, 1) := by decide +kernel
theorem dX10_readMap_134 : decode cX10_readMap 134 = .ok (.aload_n 0, 1) := by decide +kernel
theorem dX10_readMap_135 : decode cX10_readMap 135 = .ok (.getfield 20, 3) := by decide +kernel
theorem dX10_readMap_138 : decode cX10_readMap 138 = .ok (.iload_n 1, 1) := by decide +kernel
theorem dX10_readMap_139 : decode cX10_readMap 139 = .ok (.iaload, 1) := by decide +kernel
theorem dX10_readMap_140 : decode cX10_readMap 140 = .ok (.aload_n 0, 1) := by decide +kernel
theorem dX10_readMap_141 : decode cX10_readMap 141 = .ok (.getfield 23, 3) := by decide +kernel
theorem dX10_readMap_144 : decode cX10_readMap 144 = .ok (.iload_n 1, 1) := by decide +kernel
theorem dX10_readMap_145 : decode cX10_readMap 145 = .ok (.iaload, 1) := by decide +kernel
theorem dX10_readMap_146 : decode cX10_readMap 146 = .ok (.invokevirtual 70, 3) := by decide +kernel
theorem dX10_readMap_149 : decode cX10_readMap 149 = .ok (.iinc 1 1, 3) := by decide +kernel
theorem dX10_readMap_152 : decode cX10_readMap 152 = .ok (.goto (-27), 3) := by decide +kernel
theorem dX10_readMap_155 : decode cX10_readMap 155 = .ok (.aload_n 0, 1) := by decide +kernel
theorem dX10_readMap_156 : decode cX10_readMap 156 = .ok (.invokevirtual 60, 3) := by decide +kernel
theorem dX10_readMap_159 : decode cX10_readMap 159 = .ok (.ireturn, 1) := by decide +kernel
set_option maxRecDepth 20000 in
theorem ggX10_firstOf_X10_chapterOf : GoodIn wsX10_firstOf wsX10_chapterOf := goodIn_r _ [5, 6, 7, 8, 9, 10, 11, 12, 13, 14, 15, 16, 17, 18, 19, 20, 21, 22, 23, 24, 25, 26, 27, 28, 29] (by decide +kernel) (by decide +kernel)
set_option maxRecDepth 20000 in
theorem gX10_firstOf_X10_chapterOf : GoodIn wsX10_firstOf (wsV RX10 82 RX10 yX10_chapterOf wsX10_chapterOf) := goodIn_app (goodIn_of _ (by decide +kernel)) ggX10_firstOf_X10_chapterOf
theorem dX10_firstOf_0 : decode cX10_firstOf 0 = .ok (.iconst 0, 1) := by decide +kernel
theorem dX10_firstOf_1 : decode cX10_firstOf 1 = .ok (.istore_n 3, 1) := by decide +kernel
theorem dX10_firstOf_2 : decode cX10_firstOf 2 = .ok (.aload_n 0, 1) := by decide +kernel
theorem dX10_firstOf_3 : decode cX10_firstOf 3 = .ok (.iload_n 1, 1) := by decide +kernel
theorem dX10_firstOf_4 : decode cX10_firstOf 4 = .ok (.iload_n 3, 1) := by decide +kernel
theorem dX10_firstOf_5 : decode cX10_firstOf 5 = .ok (.invokevirtual 82, 3) := by decide +kernel
theorem dX10_firstOf_8 : decode cX10_firstOf 8 = .ok (.iload_n 2, 1) := by decide +kernel
theorem dX10_firstOf_9 : decode cX10_firstOf 9 = .ok (.if_icmp .eq 9, 3) := by decide +kernel
theorem dX10_firstOf_12 : decode cX10_firstOf 12 = .ok (.iinc 3 1, 3) := by decide +kernel
theorem dX10_firstOf_15 : decode cX10_firstOf 15 = .ok (.goto (-13), 3) := by decide +kernel
theorem dX10_firstOf_18 : decode cX10_firstOf 18 = .ok (.iload_n 3, 1) := by decide +kernel
theorem dX10_firstOf_19 : decode cX10_firstOf 19 = .ok (.ireturn, 1) := by decide +kernel
set_option maxRecDepth 20000 in
theorem ggX10_versesOf_X10_size : GoodIn wsX10_versesOf wsX10_size := goodIn_r _ [5, 6, 11, 12, 13, 14, 15, 16, 17, 18, 19, 20, 21, 22, 23, 24, 25, 26, 27, 28, 29, 30, 31, 32, 33] (by decide +kernel) (by decide +kernel)
set_option maxRecDepth 20000 in
theorem gX10_versesOf_X10_size : GoodIn wsX10_versesOf (wsV RX10 56 RX10 yX10_size wsX10_size) := goodIn_app (goodIn_of _ (by decide +kernel)) ggX10_versesOf_X10_size
set_option maxRecDepth 20000 in
theorem ggX10_versesOf_X10_chapterOf : GoodIn wsX10_versesOf wsX10_chapterOf := goodIn_r _ [10, 6, 11, 12, 13, 14, 15, 16, 17, 18, 19, 20, 21, 22, 23, 24, 25, 26, 27, 28, 29, 30, 31, 32, 33] (by decide +kernel) (by decide +kernel)
set_option maxRecDepth 20000 in
theorem gX10_versesOf_X10_chapterOf : GoodIn wsX10_versesOf (wsV RX10 82 RX10 yX10_chapterOf wsX10_chapterOf) := goodIn_app (goodIn_of _ (by decide +kernel)) ggX10_versesOf_X10_chapterOf
theorem dX10_versesOf_0 : decode cX10_versesOf 0 = .ok (.iconst 0, 1) := by decide +kernel
theorem dX10_versesOf_1 : decode cX10_versesOf 1 = .ok (.istore_n 3, 1) := by decide +kernel
theorem dX10_versesOf_2 : decode cX10_versesOf 2 = .ok (.iconst 0, 1) := by decide +kernel
theorem dX10_versesOf_3 : decode cX10_versesOf 3 = .ok (.istore 4, 2) := by decide +kernel
theorem dX10_versesOf_5 : decode cX10_versesOf 5 = .ok (.iload 4, 2) := by decide +kernel
theorem dX10_versesOf_7 : decode cX10_versesOf 7 = .ok (.aload_n 0, 1) := by decide +kernel
theorem dX10_versesOf_8 : decode cX10_versesOf 8 = .ok (.iload_n 1, 1) := by decide +kernel
theorem dX10_versesOf_9 : decode cX10_versesOf 9 = .ok (.invokevirtual 56, 3) := by decide +kernel
theorem dX10_versesOf_12 : decode cX10_versesOf 12 = .ok (.if_icmp .ge 28, 3) := by decide +kernel
theorem dX10_versesOf_15 : decode cX10_versesOf 15 = .ok (.iload_n 3, 1) := by decide +kernel
theorem dX10_versesOf_16 : decode cX10_versesOf 16 = .ok (.aload_n 0, 1) := by decide +kernel
theorem dX10_versesOf_17 : decode cX10_versesOf 17 = .ok (.iload_n 1, 1) := by decide +kernel
theorem dX10_versesOf_18 : decode cX10_versesOf 18 = .ok (.iload 4, 2) := by decide +kernel
theorem dX10_versesOf_20 : decode cX10_versesOf 20 = .ok (.invokevirtual 82, 3) := by decide +kernel
theorem dX10_versesOf_23 : decode cX10_versesOf 23 = .ok (.iload_n 2, 1) := by decide +kernel
theorem dX10_versesOf_24 : decode cX10_versesOf 24 = .ok (.if_icmp .ne 7, 3) := by decide +kernel
theorem dX10_versesOf_27 : decode cX10_versesOf 27 = .ok (.iconst 1, 1) := by decide +kernel
theorem dX10_versesOf_28 : decode cX10_versesOf 28 = .ok (.goto 4, 3) := by decide +kernel
theorem dX10_versesOf_31 : decode cX10_versesOf 31 = .ok (.iconst 0, 1) := by decide +kernel
theorem dX10_versesOf_32 : decode cX10_versesOf 32 = .ok (.iadd, 1) := by decide +kernel
theorem dX10_versesOf_33 : decode cX10_versesOf 33 = .ok (.istore_n 3, 1) := by decide +kernel
theorem dX10_versesOf_34 : decode cX10_versesOf 34 = .ok (.iinc 4 1, 3) := by decide +kernel
theorem dX10_versesOf_37 : decode cX10_versesOf 37 = .ok (.goto (-32), 3) := by decide +kernel
theorem dX10_versesOf_40 : decode cX10_versesOf 40 = .ok (.iload_n 3, 1) := by decide +kernel
theorem dX10_versesOf_41 : decode cX10_versesOf 41 = .ok (.ireturn, 1) := by decide +kernel
set_option maxRecDepth 20000 in
theorem ggX10_readReference_X10_number : GoodIn wsX10_readReference wsX10_number := goodIn_r _ [11, 1, 12, 2, 13, 14, 15, 16, 10, 17, 6, 45, 46, 47, 48, 49, 50, 51, 52, 53, 54, 55, 56, 57, 58, 59, 60, 61, 62, 63, 64, 65, 66, 67] (by decide +kernel) (by decide +kernel)
set_option maxRecDepth 20000 in
theorem gX10_readReference_X10_number : GoodIn wsX10_readReference (wsV RX10 126 RX10 yX10_number wsX10_number) := goodIn_app (goodIn_of _ (by decide +kernel)) ggX10_readReference_X10_number
set_option maxRecDepth 20000 in
theorem ggX10_readReference_X10_needs : GoodIn wsX10_readReference wsX10_needs := goodIn_r _ [21, 2, 12, 1, 45, 46, 47, 48, 49, 50, 51, 52, 53, 54, 55, 56, 57, 58, 59, 60, 61, 62, 63, 64, 65, 66, 67] (by decide +kernel) (by decide +kernel)
set_option maxRecDepth 20000 in
theorem gX10_readReference_X10_needs : GoodIn wsX10_readReference (wsV RX10 129 RX10 yX10_needs wsX10_needs) := goodIn_app (goodIn_of _ (by decide +kernel)) ggX10_readReference_X10_needs
set_option maxRecDepth 20000 in
theorem ggX10_readReference_X10_sign : GoodIn wsX10_readReference wsX10_sign := goodIn_r _ [25, 2, 1, 14, 15, 16, 10, 17, 6, 13, 45, 46, 47, 48, 49, 50, 51, 52, 53, 54, 55, 56, 57, 58, 59, 60, 61, 62, 63, 64, 65, 66, 67] (by decide +kernel) (by decide +kernel)
set_option maxRecDepth 20000 in
theorem gX10_readReference_X10_sign : GoodIn wsX10_readReference (wsV RX10 139 RX10 yX10_sign wsX10_sign) := goodIn_app (goodIn_of _ (by decide +kernel)) ggX10_readReference_X10_sign
set_option maxRecDepth 20000 in
theorem ggX10_readReference_X10_versesOf : GoodIn wsX10_readReference wsX10_versesOf := goodIn_r _ [29, 30, 31, 32, 10, 33, 3, 34, 35, 36, 37, 45, 46, 47, 48, 49, 50, 51, 52, 53, 54, 55, 56, 57, 58, 59, 60, 61, 62, 63, 64, 65, 66, 67] (by decide +kernel) (by decide +kernel)
set_option maxRecDepth 20000 in
theorem gX10_readReference_X10_versesOf : GoodIn wsX10_readReference (wsV RX10 143 RX10 yX10_versesOf wsX10_versesOf) := goodIn_app (goodIn_of _ (by decide +kernel)) ggX10_readReference_X10_versesOf
set_option maxRecDepth 20000 in
theorem ggX10_readReference_X10_firstOf : GoodIn wsX10_readReference wsX10_firstOf := goodIn_r _ [41, 34, 35, 36, 10, 37, 3, 45, 46, 47, 48, 49, 50, 51, 52, 53, 54, 55, 56, 57, 58, 59, 60, 61, 62, 63, 64, 65, 66, 67] (by decide +kernel) (by decide +kernel)
set_option maxRecDepth 20000 in
theorem gX10_readReference_X10_firstOf : GoodIn wsX10_readReference (wsV RX10 146 RX10 yX10_firstOf wsX10_firstOf) := goodIn_app (goodIn_of _ (by decide +kernel)) ggX10_readReference_X10_firstOf
set_option maxRecDepth 20000 in
theorem ggX10_readReference_X10_isAt : GoodIn wsX10_readReference wsX10_isAt := goodIn_r _ [17, 1, 6, 13, 45, 46, 47, 48, 49, 50, 51, 52, 53, 54, 55, 56, 57, 58, 59, 60, 61, 62, 63, 64, 65, 66, 67] (by decide +kernel) (by decide +kernel)
set_option maxRecDepth 20000 in
theorem gX10_readReference_X10_isAt : GoodIn wsX10_readReference (wsV RX10 113 RX10 yX10_isAt wsX10_isAt) := goodIn_app (goodIn_of _ (by decide +kernel)) ggX10_readReference_X10_isAt
set_option maxRecDepth 20000 in
theorem ggX10_readReference_X10_in : GoodIn wsX10_readReference wsX10_in := goodIn_r _ [44] (by decide +kernel) (by decide +kernel)
set_option maxRecDepth 20000 in
theorem gX10_readReference_X10_in : GoodIn wsX10_readReference (va_wsS RX10 48 yX10_in wsX10_in) := goodIn_app (goodIn_of _ (by decide +kernel)) ggX10_readReference_X10_in
theorem dX10_readReference_0 : decode cX10_readReference 0 = .ok (.aload_n 0, 1) := by decide +kernel
theorem dX10_readReference_1 : decode cX10_readReference 1 = .ok (.iconst 0, 1) := by decide +kernel
theorem dX10_readReference_2 : decode cX10_readReference 2 = .ok (.putfield 103, 3) := by decide +kernel
theorem dX10_readReference_5 : decode cX10_readReference 5 = .ok (.aload_n 0, 1) := by decide +kernel
theorem dX10_readReference_6 : decode cX10_readReference 6 = .ok (.iconst 1, 1) := by decide +kernel
theorem dX10_readReference_7 : decode cX10_readReference 7 = .ok (.putfield 109, 3) := by decide +kernel
theorem dX10_readReference_10 : decode cX10_readReference 10 = .ok (.aload_n 0, 1) := by decide +kernel
theorem dX10_readReference_11 : decode cX10_readReference 11 = .ok (.invokevirtual 126, 3) := by decide +kernel
theorem dX10_readReference_14 : decode cX10_readReference 14 = .ok (.istore_n 2, 1) := by decide +kernel
theorem dX10_readReference_15 : decode cX10_readReference 15 = .ok (.aload_n 0, 1) := by decide +kernel
theorem dX10_readReference_16 : decode cX10_readReference 16 = .ok (.iload_n 2, 1) := by decide +kernel
theorem dX10_readReference_17 : decode cX10_readReference 17 = .ok (.aload_n 0, 1) := by decide +kernel
theorem dX10_readReference_18 : decode cX10_readReference 18 = .ok (.getfield 7, 3) := by decide +kernel
theorem dX10_readReference_21 : decode cX10_readReference 21 = .ok (.sipush 362, 3) := by decide +kernel
theorem dX10_readReference_24 : decode cX10_readReference 24 = .ok (.iload_n 1, 1) := by decide +kernel
theorem dX10_readReference_25 : decode cX10_readReference 25 = .ok (.iadd, 1) := by decide +kernel
theorem dX10_readReference_26 : decode cX10_readReference 26 = .ok (.iaload, 1) := by decide +kernel
theorem dX10_readReference_27 : decode cX10_readReference 27 = .ok (.if_icmp .gt 7, 3) := by decide +kernel
theorem dX10_readReference_30 : decode cX10_readReference 30 = .ok (.iconst 1, 1) := by decide +kernel
theorem dX10_readReference_31 : decode cX10_readReference 31 = .ok (.goto 4, 3) := by decide +kernel
theorem dX10_readReference_34 : decode cX10_readReference 34 = .ok (.iconst 0, 1) := by decide +kernel
theorem dX10_readReference_35 : decode cX10_readReference 35 = .ok (.invokevirtual 129, 3) := by decide +kernel
theorem dX10_readReference_38 : decode cX10_readReference 38 = .ok (.aload_n 0, 1) := by decide +kernel
theorem dX10_readReference_39 : decode cX10_readReference 39 = .ok (.bipush 58, 2) := by decide +kernel
theorem dX10_readReference_41 : decode cX10_readReference 41 = .ok (.invokevirtual 139, 3) := by decide +kernel
theorem dX10_readReference_44 : decode cX10_readReference 44 = .ok (.aload_n 0, 1) := by decide +kernel
theorem dX10_readReference_45 : decode cX10_readReference 45 = .ok (.invokevirtual 126, 3) := by decide +kernel
theorem dX10_readReference_48 : decode cX10_readReference 48 = .ok (.istore_n 3, 1) := by decide +kernel
theorem dX10_readReference_49 : decode cX10_readReference 49 = .ok (.aload_n 0, 1) := by decide +kernel
theorem dX10_readReference_50 : decode cX10_readReference 50 = .ok (.aload_n 0, 1) := by decide +kernel
theorem dX10_readReference_51 : decode cX10_readReference 51 = .ok (.getfield 109, 3) := by decide +kernel
theorem dX10_readReference_54 : decode cX10_readReference 54 = .ok (.ifCond .eq 17, 3) := by decide +kernel
theorem dX10_readReference_57 : decode cX10_readReference 57 = .ok (.iload_n 3, 1) := by decide +kernel
theorem dX10_readReference_58 : decode cX10_readReference 58 = .ok (.aload_n 0, 1) := by decide +kernel
theorem dX10_readReference_59 : decode cX10_readReference 59 = .ok (.iload_n 1, 1) := by decide +kernel
theorem dX10_readReference_60 : decode cX10_readReference 60 = .ok (.iload_n 2, 1) := by decide +kernel
theorem dX10_readReference_61 : decode cX10_readReference 61 = .ok (.invokevirtual 143, 3) := by decide +kernel
theorem dX10_readReference_64 : decode cX10_readReference 64 = .ok (.if_icmp .gt 7, 3) := by decide +kernel
theorem dX10_readReference_67 : decode cX10_readReference 67 = .ok (.iconst 1, 1) := by decide +kernel
theorem dX10_readReference_68 : decode cX10_readReference 68 = .ok (.goto 4, 3) := by decide +kernel
theorem dX10_readReference_71 : decode cX10_readReference 71 = .ok (.iconst 0, 1) := by decide +kernel
theorem dX10_readReference_72 : decode cX10_readReference 72 = .ok (.invokevirtual 129, 3) := by decide +kernel
theorem dX10_readReference_75 : decode cX10_readReference 75 = .ok (.aload_n 0, 1) := by decide +kernel
theorem dX10_readReference_76 : decode cX10_readReference 76 = .ok (.aload_n 0, 1) := by decide +kernel
theorem dX10_readReference_77 : decode cX10_readReference 77 = .ok (.getfield 109, 3) := by decide +kernel
theorem dX10_readReference_80 : decode cX10_readReference 80 = .ok (.ifCond .eq 16, 3) := by decide +kernel
theorem dX10_readReference_83 : decode cX10_readReference 83 = .ok (.aload_n 0, 1) := by decide +kernel
theorem dX10_readReference_84 : decode cX10_readReference 84 = .ok (.iload_n 1, 1) := by decide +kernel
theorem dX10_readReference_85 : decode cX10_readReference 85 = .ok (.iload_n 2, 1) := by decide +kernel
theorem dX10_readReference_86 : decode cX10_readReference 86 = .ok (.invokevirtual 146, 3) := by decide +kernel
theorem dX10_readReference_89 : decode cX10_readReference 89 = .ok (.iload_n 3, 1) := by decide +kernel
theorem dX10_readReference_90 : decode cX10_readReference 90 = .ok (.iadd, 1) := by decide +kernel
theorem dX10_readReference_91 : decode cX10_readReference 91 = .ok (.iconst 1, 1) := by decide +kernel
theorem dX10_readReference_92 : decode cX10_readReference 92 = .ok (.isub, 1) := by decide +kernel
theorem dX10_readReference_93 : decode cX10_readReference 93 = .ok (.goto 5, 3) := by decide +kernel
theorem dX10_readReference_96 : decode cX10_readReference 96 = .ok (.bipush (-5), 2) := by decide +kernel
theorem dX10_readReference_98 : decode cX10_readReference 98 = .ok (.putfield 149, 3) := by decide +kernel
theorem dX10_readReference_101 : decode cX10_readReference 101 = .ok (.aload_n 0, 1) := by decide +kernel
theorem dX10_readReference_102 : decode cX10_readReference 102 = .ok (.aload_n 0, 1) := by decide +kernel
theorem dX10_readReference_103 : decode cX10_readReference 103 = .ok (.getfield 149, 3) := by decide +kernel
theorem dX10_readReference_106 : decode cX10_readReference 106 = .ok (.putfield 152, 3) := by decide +kernel
theorem dX10_readReference_109 : decode cX10_readReference 109 = .ok (.aload_n 0, 1) := by decide +kernel
theorem dX10_readReference_110 : decode cX10_readReference 110 = .ok (.getfield 109, 3) := by decide +kernel
theorem dX10_readReference_113 : decode cX10_readReference 113 = .ok (.ifCond .eq 14, 3) := by decide +kernel
theorem dX10_readReference_116 : decode cX10_readReference 116 = .ok (.aload_n 0, 1) := by decide +kernel
theorem dX10_readReference_117 : decode cX10_readReference 117 = .ok (.getfield 103, 3) := by decide +kernel
theorem dX10_readReference_120 : decode cX10_readReference 120 = .ok (.aload_n 0, 1) := by decide +kernel
theorem dX10_readReference_121 : decode cX10_readReference 121 = .ok (.getfield 100, 3) := by decide +kernel
theorem dX10_readReference_124 : decode cX10_readReference 124 = .ok (.if_icmp .ne 4, 3) := by decide +kernel
theorem dX10_readReference_127 : decode cX10_readReference 127 = .ok (.return_, 1) := by decide +kernel
theorem dX10_readReference_128 : decode cX10_readReference 128 = .ok (.aload_n 0, 1) := by decide +kernel
theorem dX10_readReference_129 : decode cX10_readReference 129 = .ok (.bipush 45, 2) := by decide +kernel
theorem dX10_readReference_131 : decode cX10_readReference 131 = .ok (.invokevirtual 139, 3) := by decide +kernel
theorem dX10_readReference_134 : decode cX10_readReference 134 = .ok (.aload_n 0, 1) := by decide +kernel
theorem dX10_readReference_135 : decode cX10_readReference 135 = .ok (.invokevirtual 126, 3) := by decide +kernel
theorem dX10_readReference_138 : decode cX10_readReference 138 = .ok (.istore 4, 2) := by decide +kernel
theorem dX10_readReference_140 : decode cX10_readReference 140 = .ok (.aload_n 0, 1) := by decide +kernel
theorem dX10_readReference_141 : decode cX10_readReference 141 = .ok (.getfield 109, 3) := by decide +kernel
theorem dX10_readReference_144 : decode cX10_readReference 144 = .ok (.ifCond .eq 117, 3) := by decide +kernel
theorem dX10_readReference_147 : decode cX10_readReference 147 = .ok (.aload_n 0, 1) := by decide +kernel
theorem dX10_readReference_148 : decode cX10_readReference 148 = .ok (.bipush 58, 2) := by decide +kernel
theorem dX10_readReference_150 : decode cX10_readReference 150 = .ok (.bipush 58, 2) := by decide +kernel
theorem dX10_readReference_152 : decode cX10_readReference 152 = .ok (.invokevirtual 113, 3) := by decide +kernel
theorem dX10_readReference_155 : decode cX10_readReference 155 = .ok (.ifCond .eq 106, 3) := by decide +kernel
theorem dX10_readReference_158 : decode cX10_readReference 158 = .ok (.aload_n 0, 1) := by decide +kernel
theorem dX10_readReference_159 : decode cX10_readReference 159 = .ok (.iload 4, 2) := by decide +kernel
theorem dX10_readReference_161 : decode cX10_readReference 161 = .ok (.iload_n 2, 1) := by decide +kernel
theorem dX10_readReference_162 : decode cX10_readReference 162 = .ok (.aload_n 0, 1) := by decide +kernel
theorem dX10_readReference_163 : decode cX10_readReference 163 = .ok (.getfield 7, 3) := by decide +kernel
theorem dX10_readReference_166 : decode cX10_readReference 166 = .ok (.sipush 362, 3) := by decide +kernel
theorem dX10_readReference_169 : decode cX10_readReference 169 = .ok (.iload_n 1, 1) := by decide +kernel
theorem dX10_readReference_170 : decode cX10_readReference 170 = .ok (.iadd, 1) := by decide +kernel
theorem dX10_readReference_171 : decode cX10_readReference 171 = .ok (.iaload, 1) := by decide +kernel
theorem dX10_readReference_172 : decode cX10_readReference 172 = .ok (.invokestatic 48, 3) := by decide +kernel
theorem dX10_readReference_175 : decode cX10_readReference 175 = .ok (.invokevirtual 129, 3) := by decide +kernel
theorem dX10_readReference_178 : decode cX10_readReference 178 = .ok (.aload_n 0, 1) := by decide +kernel
theorem dX10_readReference_179 : decode cX10_readReference 179 = .ok (.bipush 58, 2) := by decide +kernel
theorem dX10_readReference_181 : decode cX10_readReference 181 = .ok (.invokevirtual 139, 3) := by decide +kernel
theorem dX10_readReference_184 : decode cX10_readReference 184 = .ok (.aload_n 0, 1) := by decide +kernel
theorem dX10_readReference_185 : decode cX10_readReference 185 = .ok (.invokevirtual 126, 3) := by decide +kernel
theorem dX10_readReference_188 : decode cX10_readReference 188 = .ok (.istore 5, 2) := by decide +kernel
theorem dX10_readReference_190 : decode cX10_readReference 190 = .ok (.aload_n 0, 1) := by decide +kernel
theorem dX10_readReference_191 : decode cX10_readReference 191 = .ok (.aload_n 0, 1) := by decide +kernel
theorem dX10_readReference_192 : decode cX10_readReference 192 = .ok (.getfield 109, 3) := by decide +kernel
theorem dX10_readReference_195 : decode cX10_readReference 195 = .ok (.ifCond .eq 31, 3) := by decide +kernel
theorem dX10_readReference_198 : decode cX10_readReference 198 = .ok (.iload 5, 2) := by decide +kernel
theorem dX10_readReference_200 : decode cX10_readReference 200 = .ok (.aload_n 0, 1) := by decide +kernel
theorem dX10_readReference_201 : decode cX10_readReference 201 = .ok (.iload_n 1, 1) := by decide +kernel
theorem dX10_readReference_202 : decode cX10_readReference 202 = .ok (.iload 4, 2) := by decide +kernel
theorem dX10_readReference_204 : decode cX10_readReference 204 = .ok (.invokevirtual 143, 3) := by decide +kernel
theorem dX10_readReference_207 : decode cX10_readReference 207 = .ok (.if_icmp .gt 19, 3) := by decide +kernel
theorem dX10_readReference_210 : decode cX10_readReference 210 = .ok (.iload 4, 2) := by decide +kernel
theorem dX10_readReference_212 : decode cX10_readReference 212 = .ok (.iload_n 2, 1) := by decide +kernel
theorem dX10_readReference_213 : decode cX10_readReference 213 = .ok (.if_icmp .gt 9, 3) := by decide +kernel
theorem dX10_readReference_216 : decode cX10_readReference 216 = .ok (.iload 5, 2) := by decide +kernel
theorem dX10_readReference_218 : decode cX10_readReference 218 = .ok (.iload_n 3, 1) := by decide +kernel
theorem dX10_readReference_219 : decode cX10_readReference 219 = .ok (.if_icmp .lt 7, 3) := by decide +kernel
theorem dX10_readReference_222 : decode cX10_readReference 222 = .ok (.iconst 1, 1) := by decide +kernel
theorem dX10_readReference_223 : decode cX10_readReference 223 = .ok (.goto 4, 3) := by decide +kernel
theorem dX10_readReference_226 : decode cX10_readReference 226 = .ok (.iconst 0, 1) := by decide +kernel
theorem dX10_readReference_227 : decode cX10_readReference 227 = .ok (.invokevirtual 129, 3) := by decide +kernel
theorem dX10_readReference_230 : decode cX10_readReference 230 = .ok (.aload_n 0, 1) := by decide +kernel
theorem dX10_readReference_231 : decode cX10_readReference 231 = .ok (.aload_n 0, 1) := by decide +kernel
theorem dX10_readReference_232 : decode cX10_readReference 232 = .ok (.getfield 109, 3) := by decide +kernel
theorem dX10_readReference_235 : decode cX10_readReference 235 = .ok (.ifCond .eq 18, 3) := by decide +kernel
theorem dX10_readReference_238 : decode cX10_readReference 238 = .ok (.aload_n 0, 1) := by decide +kernel
theorem dX10_readReference_239 : decode cX10_readReference 239 = .ok (.iload_n 1, 1) := by decide +kernel
theorem dX10_readReference_240 : decode cX10_readReference 240 = .ok (.iload 4, 2) := by decide +kernel
theorem dX10_readReference_242 : decode cX10_readReference 242 = .ok (.invokevirtual 146, 3) := by decide +kernel
theorem dX10_readReference_245 : decode cX10_readReference 245 = .ok (.iload 5, 2) := by decide +kernel
theorem dX10_readReference_247 : decode cX10_readReference 247 = .ok (.iadd, 1) := by decide +kernel
theorem dX10_readReference_248 : decode cX10_readReference 248 = .ok (.iconst 1, 1) := by decide +kernel
theorem dX10_readReference_249 : decode cX10_readReference 249 = .ok (.isub, 1) := by decide +kernel
theorem dX10_readReference_250 : decode cX10_readReference 250 = .ok (.goto 5, 3) := by decide +kernel
theorem dX10_readReference_253 : decode cX10_readReference 253 = .ok (.bipush (-5), 2) := by decide +kernel
theorem dX10_readReference_255 : decode cX10_readReference 255 = .ok (.putfield 152, 3) := by decide +kernel
theorem dX10_readReference_258 : decode cX10_readReference 258 = .ok (.goto 61, 3) := by decide +kernel
theorem dX10_readReference_261 : decode cX10_readReference 261 = .ok (.aload_n 0, 1) := by decide +kernel
theorem dX10_readReference_262 : decode cX10_readReference 262 = .ok (.aload_n 0, 1) := by decide +kernel
theorem dX10_readReference_263 : decode cX10_readReference 263 = .ok (.getfield 109, 3) := by decide +kernel
theorem dX10_readReference_266 : decode cX10_readReference 266 = .ok (.ifCond .eq 22, 3) := by decide +kernel
theorem dX10_readReference_269 : decode cX10_readReference 269 = .ok (.iload 4, 2) := by decide +kernel
theorem dX10_readReference_271 : decode cX10_readReference 271 = .ok (.iload_n 3, 1) := by decide +kernel
theorem dX10_readReference_272 : decode cX10_readReference 272 = .ok (.aload_n 0, 1) := by decide +kernel
theorem dX10_readReference_273 : decode cX10_readReference 273 = .ok (.iload_n 1, 1) := by decide +kernel
theorem dX10_readReference_274 : decode cX10_readReference 274 = .ok (.iload_n 2, 1) := by decide +kernel
theorem dX10_readReference_275 : decode cX10_readReference 275 = .ok (.invokevirtual 143, 3) := by decide +kernel
theorem dX10_readReference_278 : decode cX10_readReference 278 = .ok (.invokestatic 48, 3) := by decide +kernel
theorem dX10_readReference_281 : decode cX10_readReference 281 = .ok (.ifCond .eq 7, 3) := by decide +kernel
theorem dX10_readReference_284 : decode cX10_readReference 284 = .ok (.iconst 1, 1) := by decide +kernel
theorem dX10_readReference_285 : decode cX10_readReference 285 = .ok (.goto 4, 3) := by decide +kernel
theorem dX10_readReference_288 : decode cX10_readReference 288 = .ok (.iconst 0, 1) := by decide +kernel
theorem dX10_readReference_289 : decode cX10_readReference 289 = .ok (.invokevirtual 129, 3) := by decide +kernel
theorem dX10_readReference_292 : decode cX10_readReference 292 = .ok (.aload_n 0, 1) := by decide +kernel
theorem dX10_readReference_293 : decode cX10_readReference 293 = .ok (.aload_n 0, 1) := by decide +kernel
theorem dX10_readReference_294 : decode cX10_readReference 294 = .ok (.getfield 109, 3) := by decide +kernel
theorem dX10_readReference_297 : decode cX10_readReference 297 = .ok (.ifCond .eq 17, 3) := by decide +kernel
theorem dX10_readReference_300 : decode cX10_readReference 300 = .ok (.aload_n 0, 1) := by decide +kernel
theorem dX10_readReference_301 : decode cX10_readReference 301 = .ok (.iload_n 1, 1) := by decide +kernel
theorem dX10_readReference_302 : decode cX10_readReference 302 = .ok (.iload_n 2, 1) := by decide +kernel
theorem dX10_readReference_303 : decode cX10_readReference 303 = .ok (.invokevirtual 146, 3) := by decide +kernel
theorem dX10_readReference_306 : decode cX10_readReference 306 = .ok (.iload 4, 2) := by decide +kernel
theorem dX10_readReference_308 : decode cX10_readReference 308 = .ok (.iadd, 1) := by decide +kernel
theorem dX10_readReference_309 : decode cX10_readReference 309 = .ok (.iconst 1, 1) := by decide +kernel
theorem dX10_readReference_310 : decode cX10_readReference 310 = .ok (.isub, 1) := by decide +kernel
theorem dX10_readReference_311 : decode cX10_readReference 311 = .ok (.goto 5, 3) := by decide +kernel
theorem dX10_readReference_314 : decode cX10_readReference 314 = .ok (.bipush (-5), 2) := by decide +kernel
theorem dX10_readReference_316 : decode cX10_readReference 316 = .ok (.putfield 152, 3) := by decide +kernel
theorem dX10_readReference_319 : decode cX10_readReference 319 = .ok (.aload_n 0, 1) := by decide +kernel
theorem dX10_readReference_320 : decode cX10_readReference 320 = .ok (.aload_n 0, 1) := by decide +kernel
theorem dX10_readReference_321 : decode cX10_readReference 321 = .ok (.getfield 109, 3) := by decide +kernel
theorem dX10_readReference_324 : decode cX10_readReference 324 = .ok (.ifCond .eq 18, 3) := by decide +kernel
theorem dX10_readReference_327 : decode cX10_readReference 327 = .ok (.aload_n 0, 1) := by decide +kernel
theorem dX10_readReference_328 : decode cX10_readReference 328 = .ok (.getfield 103, 3) := by decide +kernel
theorem dX10_readReference_331 : decode cX10_readReference 331 = .ok (.aload_n 0, 1) := by decide +kernel
theorem dX10_readReference_332 : decode cX10_readReference 332 = .ok (.getfield 100, 3) := by decide +kernel
theorem dX10_readReference_335 : decode cX10_readReference 335 = .ok (.if_icmp .ne 7, 3) := by decide +kernel
theorem dX10_readReference_338 : decode cX10_readReference 338 = .ok (.iconst 1, 1) := by decide +kernel
theorem dX10_readReference_339 : decode cX10_readReference 339 = .ok (.goto 4, 3) := by decide +kernel
theorem dX10_readReference_342 : decode cX10_readReference 342 = .ok (.iconst 0, 1) := by decide +kernel
theorem dX10_readReference_343 : decode cX10_readReference 343 = .ok (.putfield 109, 3) := by decide +kernel
theorem dX10_readReference_346 : decode cX10_readReference 346 = .ok (.return_, 1) := by decide +kernel
set_option maxRecDepth 20000 in
theorem ggX10_refer_X10_noBook : GoodIn wsX10_refer wsX10_noBook := goodIn_r _ [8, 9, 10, 7, 11] (by decide +kernel) (by decide +kernel)
set_option maxRecDepth 20000 in
theorem gX10_refer_X10_noBook : GoodIn wsX10_refer (va_wsS RX10 52 yX10_noBook wsX10_noBook) := goodIn_app (goodIn_of _ (by decide +kernel)) ggX10_refer_X10_noBook
set_option maxRecDepth 20000 in
theorem ggX10_refer_X10_in : GoodIn wsX10_refer wsX10_in := goodIn_r _ [11] (by decide +kernel) (by decide +kernel)
set_option maxRecDepth 20000 in
theorem gX10_refer_X10_in : GoodIn wsX10_refer (va_wsS RX10 48 yX10_in wsX10_in) := goodIn_app (goodIn_of _ (by decide +kernel)) ggX10_refer_X10_in
set_option maxRecDepth 20000 in
theorem ggX10_refer_X10_readReference : GoodIn wsX10_refer wsX10_readReference := goodIn_r _ [15, 2, 1, 16, 3, 4, 17, 18, 19, 20, 7, 21, 22, 23, 24, 25, 26, 27, 28, 29, 30, 31, 32, 33, 34, 35, 36, 37, 38, 39, 40, 41, 42, 43, 44, 45, 46, 47, 48, 49, 50, 51, 9, 10, 11, 64, 65, 66, 67, 68, 69, 70, 71, 72, 73, 74, 75, 76, 77, 78, 79, 80, 81, 82, 83, 84, 85, 86] (by decide +kernel) (by decide +kernel)
set_option maxRecDepth 20000 in
theorem gX10_refer_X10_readReference : GoodIn wsX10_refer (wsV RX10 155 RX10 yX10_readReference wsX10_readReference) := goodIn_app (goodIn_of _ (by decide +kernel)) ggX10_refer_X10_readReference
set_option maxRecDepth 20000 in
theorem ggX10_refer_X10_groups : GoodIn wsX10_refer wsX10_groups := goodIn_r _ [55, 16, 64, 65, 66, 67, 68, 69, 70, 71, 72, 73, 74, 75, 76, 77, 78, 79, 80, 81, 82, 83, 84, 85, 86] (by decide +kernel) (by decide +kernel)
set_option maxRecDepth 20000 in
theorem gX10_refer_X10_groups : GoodIn wsX10_refer (wsV RX10 60 RX10 yX10_groups wsX10_groups) := goodIn_app (goodIn_of _ (by decide +kernel)) ggX10_refer_X10_groups
set_option maxRecDepth 20000 in
theorem ggX10_refer_X10_firstIn : GoodIn wsX10_refer wsX10_firstIn := goodIn_r _ [59, 60, 61, 62, 7, 63, 16, 64, 65, 66, 67, 68, 69, 70, 71, 72, 73, 74, 75, 76, 77, 78, 79, 80, 81, 82, 83, 84, 85, 86] (by decide +kernel) (by decide +kernel)
set_option maxRecDepth 20000 in
theorem gX10_refer_X10_firstIn : GoodIn wsX10_refer (wsV RX10 159 RX10 yX10_firstIn wsX10_firstIn) := goodIn_app (goodIn_of _ (by decide +kernel)) ggX10_refer_X10_firstIn
set_option maxRecDepth 20000 in
theorem ggX10_refer_X10_has : GoodIn wsX10_refer wsX10_has := goodIn_r _ [63, 16, 64, 65, 66, 67, 68, 69, 70, 71, 72, 73, 74, 75, 76, 77, 78, 79, 80, 81, 82, 83, 84, 85, 86] (by decide +kernel) (by decide +kernel)
set_option maxRecDepth 20000 in
theorem gX10_refer_X10_has : GoodIn wsX10_refer (wsV RX10 78 RX10 yX10_has wsX10_has) := goodIn_app (goodIn_of _ (by decide +kernel)) ggX10_refer_X10_has
theorem dX10_refer_0 : decode cX10_refer 0 = .ok (.iload_n 1, 1) := by decide +kernel
theorem dX10_refer_1 : decode cX10_refer 1 = .ok (.invokestatic 52, 3) := by decide +kernel
theorem dX10_refer_4 : decode cX10_refer 4 = .ok (.ifCond .eq 5, 3) := by decide +kernel
theorem dX10_refer_7 : decode cX10_refer 7 = .ok (.iconst (-1), 1) := by decide +kernel
theorem dX10_refer_8 : decode cX10_refer 8 = .ok (.ireturn, 1) := by decide +kernel
theorem dX10_refer_9 : decode cX10_refer 9 = .ok (.iload_n 2, 1) := by decide +kernel
theorem dX10_refer_10 : decode cX10_refer 10 = .ok (.iconst 0, 1) := by decide +kernel
theorem dX10_refer_11 : decode cX10_refer 11 = .ok (.bipush 6, 2) := by decide +kernel
theorem dX10_refer_13 : decode cX10_refer 13 = .ok (.invokestatic 48, 3) := by decide +kernel
theorem dX10_refer_16 : decode cX10_refer 16 = .ok (.ifCond .ne 6, 3) := by decide +kernel
theorem dX10_refer_19 : decode cX10_refer 19 = .ok (.bipush (-2), 2) := by decide +kernel
theorem dX10_refer_21 : decode cX10_refer 21 = .ok (.ireturn, 1) := by decide +kernel
theorem dX10_refer_22 : decode cX10_refer 22 = .ok (.aload_n 0, 1) := by decide +kernel
theorem dX10_refer_23 : decode cX10_refer 23 = .ok (.iload_n 1, 1) := by decide +kernel
theorem dX10_refer_24 : decode cX10_refer 24 = .ok (.invokevirtual 155, 3) := by decide +kernel
theorem dX10_refer_27 : decode cX10_refer 27 = .ok (.aload_n 0, 1) := by decide +kernel
theorem dX10_refer_28 : decode cX10_refer 28 = .ok (.getfield 109, 3) := by decide +kernel
theorem dX10_refer_31 : decode cX10_refer 31 = .ok (.ifCond .ne 11, 3) := by decide +kernel
theorem dX10_refer_34 : decode cX10_refer 34 = .ok (.bipush (-100), 2) := by decide +kernel
theorem dX10_refer_36 : decode cX10_refer 36 = .ok (.aload_n 0, 1) := by decide +kernel
theorem dX10_refer_37 : decode cX10_refer 37 = .ok (.getfield 103, 3) := by decide +kernel
theorem dX10_refer_40 : decode cX10_refer 40 = .ok (.isub, 1) := by decide +kernel
theorem dX10_refer_41 : decode cX10_refer 41 = .ok (.ireturn, 1) := by decide +kernel
theorem dX10_refer_42 : decode cX10_refer 42 = .ok (.iload_n 2, 1) := by decide +kernel
theorem dX10_refer_43 : decode cX10_refer 43 = .ok (.iconst 2, 1) := by decide +kernel
theorem dX10_refer_44 : decode cX10_refer 44 = .ok (.if_icmp .ge 19, 3) := by decide +kernel
theorem dX10_refer_47 : decode cX10_refer 47 = .ok (.iload_n 2, 1) := by decide +kernel
theorem dX10_refer_48 : decode cX10_refer 48 = .ok (.ifCond .ne 10, 3) := by decide +kernel
theorem dX10_refer_51 : decode cX10_refer 51 = .ok (.aload_n 0, 1) := by decide +kernel
theorem dX10_refer_52 : decode cX10_refer 52 = .ok (.getfield 149, 3) := by decide +kernel
theorem dX10_refer_55 : decode cX10_refer 55 = .ok (.goto 7, 3) := by decide +kernel
theorem dX10_refer_58 : decode cX10_refer 58 = .ok (.aload_n 0, 1) := by decide +kernel
theorem dX10_refer_59 : decode cX10_refer 59 = .ok (.getfield 152, 3) := by decide +kernel
theorem dX10_refer_62 : decode cX10_refer 62 = .ok (.ireturn, 1) := by decide +kernel
theorem dX10_refer_63 : decode cX10_refer 63 = .ok (.bipush (-5), 2) := by decide +kernel
theorem dX10_refer_65 : decode cX10_refer 65 = .ok (.istore_n 3, 1) := by decide +kernel
theorem dX10_refer_66 : decode cX10_refer 66 = .ok (.bipush (-5), 2) := by decide +kernel
theorem dX10_refer_68 : decode cX10_refer 68 = .ok (.istore 4, 2) := by decide +kernel
theorem dX10_refer_70 : decode cX10_refer 70 = .ok (.iconst 0, 1) := by decide +kernel
theorem dX10_refer_71 : decode cX10_refer 71 = .ok (.istore 5, 2) := by decide +kernel
theorem dX10_refer_73 : decode cX10_refer 73 = .ok (.iconst 0, 1) := by decide +kernel
theorem dX10_refer_74 : decode cX10_refer 74 = .ok (.istore 6, 2) := by decide +kernel
theorem dX10_refer_76 : decode cX10_refer 76 = .ok (.iconst 0, 1) := by decide +kernel
theorem dX10_refer_77 : decode cX10_refer 77 = .ok (.istore 7, 2) := by decide +kernel
theorem dX10_refer_79 : decode cX10_refer 79 = .ok (.iconst 0, 1) := by decide +kernel
theorem dX10_refer_80 : decode cX10_refer 80 = .ok (.istore 8, 2) := by decide +kernel
theorem dX10_refer_82 : decode cX10_refer 82 = .ok (.iload 8, 2) := by decide +kernel
theorem dX10_refer_84 : decode cX10_refer 84 = .ok (.aload_n 0, 1) := by decide +kernel
theorem dX10_refer_85 : decode cX10_refer 85 = .ok (.invokevirtual 60, 3) := by decide +kernel
theorem dX10_refer_88 : decode cX10_refer 88 = .ok (.if_icmp .ge 165, 3) := by decide +kernel
theorem dX10_refer_91 : decode cX10_refer 91 = .ok (.aload_n 0, 1) := by decide +kernel
theorem dX10_refer_92 : decode cX10_refer 92 = .ok (.iload 8, 2) := by decide +kernel
theorem dX10_refer_94 : decode cX10_refer 94 = .ok (.iload_n 1, 1) := by decide +kernel
theorem dX10_refer_95 : decode cX10_refer 95 = .ok (.invokevirtual 159, 3) := by decide +kernel
theorem dX10_refer_98 : decode cX10_refer 98 = .ok (.istore 9, 2) := by decide +kernel
theorem dX10_refer_100 : decode cX10_refer 100 = .ok (.aload_n 0, 1) := by decide +kernel
theorem dX10_refer_101 : decode cX10_refer 101 = .ok (.iload 8, 2) := by decide +kernel
theorem dX10_refer_103 : decode cX10_refer 103 = .ok (.iload_n 1, 1) := by decide +kernel
theorem dX10_refer_104 : decode cX10_refer 104 = .ok (.invokevirtual 78, 3) := by decide +kernel
theorem dX10_refer_107 : decode cX10_refer 107 = .ok (.ifCond .le 33, 3) := by decide +kernel
theorem dX10_refer_110 : decode cX10_refer 110 = .ok (.iload 9, 2) := by decide +kernel
theorem dX10_refer_112 : decode cX10_refer 112 = .ok (.aload_n 0, 1) := by decide +kernel
theorem dX10_refer_113 : decode cX10_refer 113 = .ok (.getfield 152, 3) := by decide +kernel
theorem dX10_refer_116 : decode cX10_refer 116 = .ok (.if_icmp .gt 24, 3) := by decide +kernel
theorem dX10_refer_119 : decode cX10_refer 119 = .ok (.iload 9, 2) := by decide +kernel
theorem dX10_refer_121 : decode cX10_refer 121 = .ok (.aload_n 0, 1) := by decide +kernel
theorem dX10_refer_122 : decode cX10_refer 122 = .ok (.iload 8, 2) := by decide +kernel
theorem dX10_refer_124 : decode cX10_refer 124 = .ok (.iload_n 1, 1) := by decide +kernel
theorem dX10_refer_125 : decode cX10_refer 125 = .ok (.invokevirtual 78, 3) := by decide +kernel
theorem dX10_refer_128 : decode cX10_refer 128 = .ok (.iadd, 1) := by decide +kernel
theorem dX10_refer_129 : decode cX10_refer 129 = .ok (.aload_n 0, 1) := by decide +kernel
theorem dX10_refer_130 : decode cX10_refer 130 = .ok (.getfield 149, 3) := by decide +kernel
theorem dX10_refer_133 : decode cX10_refer 133 = .ok (.if_icmp .le 7, 3) := by decide +kernel
theorem dX10_refer_136 : decode cX10_refer 136 = .ok (.iconst 1, 1) := by decide +kernel
theorem dX10_refer_137 : decode cX10_refer 137 = .ok (.goto 4, 3) := by decide +kernel
theorem dX10_refer_140 : decode cX10_refer 140 = .ok (.iconst 0, 1) := by decide +kernel
theorem dX10_refer_141 : decode cX10_refer 141 = .ok (.istore 10, 2) := by decide +kernel
theorem dX10_refer_143 : decode cX10_refer 143 = .ok (.iload 10, 2) := by decide +kernel
theorem dX10_refer_145 : decode cX10_refer 145 = .ok (.ifCond .eq 102, 3) := by decide +kernel
theorem dX10_refer_148 : decode cX10_refer 148 = .ok (.iinc 5 1, 3) := by decide +kernel
theorem dX10_refer_151 : decode cX10_refer 151 = .ok (.iload 7, 2) := by decide +kernel
theorem dX10_refer_153 : decode cX10_refer 153 = .ok (.aload_n 0, 1) := by decide +kernel
theorem dX10_refer_154 : decode cX10_refer 154 = .ok (.iload 8, 2) := by decide +kernel
theorem dX10_refer_156 : decode cX10_refer 156 = .ok (.iload_n 1, 1) := by decide +kernel
theorem dX10_refer_157 : decode cX10_refer 157 = .ok (.invokevirtual 78, 3) := by decide +kernel
theorem dX10_refer_160 : decode cX10_refer 160 = .ok (.iadd, 1) := by decide +kernel
theorem dX10_refer_161 : decode cX10_refer 161 = .ok (.istore 7, 2) := by decide +kernel
theorem dX10_refer_163 : decode cX10_refer 163 = .ok (.iload 6, 2) := by decide +kernel
theorem dX10_refer_165 : decode cX10_refer 165 = .ok (.aload_n 0, 1) := by decide +kernel
theorem dX10_refer_166 : decode cX10_refer 166 = .ok (.iload 8, 2) := by decide +kernel
theorem dX10_refer_168 : decode cX10_refer 168 = .ok (.iconst 1, 1) := by decide +kernel
theorem dX10_refer_169 : decode cX10_refer 169 = .ok (.iload_n 1, 1) := by decide +kernel
theorem dX10_refer_170 : decode cX10_refer 170 = .ok (.isub, 1) := by decide +kernel
theorem dX10_refer_171 : decode cX10_refer 171 = .ok (.invokevirtual 78, 3) := by decide +kernel
theorem dX10_refer_174 : decode cX10_refer 174 = .ok (.iadd, 1) := by decide +kernel
theorem dX10_refer_175 : decode cX10_refer 175 = .ok (.istore 6, 2) := by decide +kernel
theorem dX10_refer_177 : decode cX10_refer 177 = .ok (.iload_n 3, 1) := by decide +kernel
theorem dX10_refer_178 : decode cX10_refer 178 = .ok (.ifCond .ge 27, 3) := by decide +kernel
theorem dX10_refer_181 : decode cX10_refer 181 = .ok (.aload_n 0, 1) := by decide +kernel
theorem dX10_refer_182 : decode cX10_refer 182 = .ok (.iload 8, 2) := by decide +kernel
theorem dX10_refer_184 : decode cX10_refer 184 = .ok (.iconst 1, 1) := by decide +kernel
theorem dX10_refer_185 : decode cX10_refer 185 = .ok (.iload_n 1, 1) := by decide +kernel
theorem dX10_refer_186 : decode cX10_refer 186 = .ok (.isub, 1) := by decide +kernel
theorem dX10_refer_187 : decode cX10_refer 187 = .ok (.invokevirtual 78, 3) := by decide +kernel
theorem dX10_refer_190 : decode cX10_refer 190 = .ok (.ifCond .le 15, 3) := by decide +kernel
theorem dX10_refer_193 : decode cX10_refer 193 = .ok (.aload_n 0, 1) := by decide +kernel
theorem dX10_refer_194 : decode cX10_refer 194 = .ok (.iload 8, 2) := by decide +kernel
theorem dX10_refer_196 : decode cX10_refer 196 = .ok (.iconst 1, 1) := by decide +kernel
theorem dX10_refer_197 : decode cX10_refer 197 = .ok (.iload_n 1, 1) := by decide +kernel
theorem dX10_refer_198 : decode cX10_refer 198 = .ok (.isub, 1) := by decide +kernel
theorem dX10_refer_199 : decode cX10_refer 199 = .ok (.invokevirtual 159, 3) := by decide +kernel
theorem dX10_refer_202 : decode cX10_refer 202 = .ok (.goto 4, 3) := by decide +kernel
theorem dX10_refer_205 : decode cX10_refer 205 = .ok (.iload_n 3, 1) := by decide +kernel
theorem dX10_refer_206 : decode cX10_refer 206 = .ok (.istore_n 3, 1) := by decide +kernel
theorem dX10_refer_207 : decode cX10_refer 207 = .ok (.aload_n 0, 1) := by decide +kernel
theorem dX10_refer_208 : decode cX10_refer 208 = .ok (.iload 8, 2) := by decide +kernel
theorem dX10_refer_210 : decode cX10_refer 210 = .ok (.iconst 1, 1) := by decide +kernel
theorem dX10_refer_211 : decode cX10_refer 211 = .ok (.iload_n 1, 1) := by decide +kernel
theorem dX10_refer_212 : decode cX10_refer 212 = .ok (.isub, 1) := by decide +kernel
theorem dX10_refer_213 : decode cX10_refer 213 = .ok (.invokevirtual 78, 3) := by decide +kernel
theorem dX10_refer_216 : decode cX10_refer 216 = .ok (.ifCond .le 27, 3) := by decide +kernel
theorem dX10_refer_219 : decode cX10_refer 219 = .ok (.aload_n 0, 1) := by decide +kernel
theorem dX10_refer_220 : decode cX10_refer 220 = .ok (.iload 8, 2) := by decide +kernel
theorem dX10_refer_222 : decode cX10_refer 222 = .ok (.iconst 1, 1) := by decide +kernel
theorem dX10_refer_223 : decode cX10_refer 223 = .ok (.iload_n 1, 1) := by decide +kernel
theorem dX10_refer_224 : decode cX10_refer 224 = .ok (.isub, 1) := by decide +kernel
theorem dX10_refer_225 : decode cX10_refer 225 = .ok (.invokevirtual 159, 3) := by decide +kernel
theorem dX10_refer_228 : decode cX10_refer 228 = .ok (.aload_n 0, 1) := by decide +kernel
theorem dX10_refer_229 : decode cX10_refer 229 = .ok (.iload 8, 2) := by decide +kernel
theorem dX10_refer_231 : decode cX10_refer 231 = .ok (.iconst 1, 1) := by decide +kernel
theorem dX10_refer_232 : decode cX10_refer 232 = .ok (.iload_n 1, 1) := by decide +kernel
theorem dX10_refer_233 : decode cX10_refer 233 = .ok (.isub, 1) := by decide +kernel
theorem dX10_refer_234 : decode cX10_refer 234 = .ok (.invokevirtual 78, 3) := by decide +kernel
theorem dX10_refer_237 : decode cX10_refer 237 = .ok (.iadd, 1) := by decide +kernel
theorem dX10_refer_238 : decode cX10_refer 238 = .ok (.iconst 1, 1) := by decide +kernel
theorem dX10_refer_239 : decode cX10_refer 239 = .ok (.isub, 1) := by decide +kernel
theorem dX10_refer_240 : decode cX10_refer 240 = .ok (.goto 5, 3) := by decide +kernel
theorem dX10_refer_243 : decode cX10_refer 243 = .ok (.iload 4, 2) := by decide +kernel
theorem dX10_refer_245 : decode cX10_refer 245 = .ok (.istore 4, 2) := by decide +kernel
theorem dX10_refer_247 : decode cX10_refer 247 = .ok (.iinc 8 1, 3) := by decide +kernel
theorem dX10_refer_250 : decode cX10_refer 250 = .ok (.goto (-168), 3) := by decide +kernel
theorem dX10_refer_253 : decode cX10_refer 253 = .ok (.iload 7, 2) := by decide +kernel
theorem dX10_refer_255 : decode cX10_refer 255 = .ok (.aload_n 0, 1) := by decide +kernel
theorem dX10_refer_256 : decode cX10_refer 256 = .ok (.getfield 152, 3) := by decide +kernel
theorem dX10_refer_259 : decode cX10_refer 259 = .ok (.aload_n 0, 1) := by decide +kernel
theorem dX10_refer_260 : decode cX10_refer 260 = .ok (.getfield 149, 3) := by decide +kernel
theorem dX10_refer_263 : decode cX10_refer 263 = .ok (.isub, 1) := by decide +kernel
theorem dX10_refer_264 : decode cX10_refer 264 = .ok (.iconst 1, 1) := by decide +kernel
theorem dX10_refer_265 : decode cX10_refer 265 = .ok (.iadd, 1) := by decide +kernel
theorem dX10_refer_266 : decode cX10_refer 266 = .ok (.if_icmp .ne 7, 3) := by decide +kernel
theorem dX10_refer_269 : decode cX10_refer 269 = .ok (.iconst 1, 1) := by decide +kernel
theorem dX10_refer_270 : decode cX10_refer 270 = .ok (.goto 4, 3) := by decide +kernel
theorem dX10_refer_273 : decode cX10_refer 273 = .ok (.iconst 0, 1) := by decide +kernel
theorem dX10_refer_274 : decode cX10_refer 274 = .ok (.istore 8, 2) := by decide +kernel
theorem dX10_refer_276 : decode cX10_refer 276 = .ok (.iload_n 2, 1) := by decide +kernel
theorem dX10_refer_277 : decode cX10_refer 277 = .ok (.iconst 2, 1) := by decide +kernel
theorem dX10_refer_278 : decode cX10_refer 278 = .ok (.if_icmp .ne 7, 3) := by decide +kernel
theorem dX10_refer_281 : decode cX10_refer 281 = .ok (.iload_n 3, 1) := by decide +kernel
theorem dX10_refer_282 : decode cX10_refer 282 = .ok (.goto 43, 3) := by decide +kernel
theorem dX10_refer_285 : decode cX10_refer 285 = .ok (.iload_n 2, 1) := by decide +kernel
theorem dX10_refer_286 : decode cX10_refer 286 = .ok (.iconst 3, 1) := by decide +kernel
theorem dX10_refer_287 : decode cX10_refer 287 = .ok (.if_icmp .ne 8, 3) := by decide +kernel
theorem dX10_refer_290 : decode cX10_refer 290 = .ok (.iload 4, 2) := by decide +kernel
theorem dX10_refer_292 : decode cX10_refer 292 = .ok (.goto 33, 3) := by decide +kernel
theorem dX10_refer_295 : decode cX10_refer 295 = .ok (.iload_n 2, 1) := by decide +kernel
theorem dX10_refer_296 : decode cX10_refer 296 = .ok (.iconst 4, 1) := by decide +kernel
theorem dX10_refer_297 : decode cX10_refer 297 = .ok (.if_icmp .ne 8, 3) := by decide +kernel
theorem dX10_refer_300 : decode cX10_refer 300 = .ok (.iload 5, 2) := by decide +kernel
theorem dX10_refer_302 : decode cX10_refer 302 = .ok (.goto 23, 3) := by decide +kernel
theorem dX10_refer_305 : decode cX10_refer 305 = .ok (.iload_n 2, 1) := by decide +kernel
theorem dX10_refer_306 : decode cX10_refer 306 = .ok (.iconst 5, 1) := by decide +kernel
theorem dX10_refer_307 : decode cX10_refer 307 = .ok (.if_icmp .ne 8, 3) := by decide +kernel
theorem dX10_refer_310 : decode cX10_refer 310 = .ok (.iload 6, 2) := by decide +kernel
theorem dX10_refer_312 : decode cX10_refer 312 = .ok (.goto 13, 3) := by decide +kernel
theorem dX10_refer_315 : decode cX10_refer 315 = .ok (.iload 8, 2) := by decide +kernel
theorem dX10_refer_317 : decode cX10_refer 317 = .ok (.ifCond .eq 7, 3) := by decide +kernel
theorem dX10_refer_320 : decode cX10_refer 320 = .ok (.iconst 1, 1) := by decide +kernel
theorem dX10_refer_321 : decode cX10_refer 321 = .ok (.goto 4, 3) := by decide +kernel
theorem dX10_refer_324 : decode cX10_refer 324 = .ok (.iconst 0, 1) := by decide +kernel
theorem dX10_refer_325 : decode cX10_refer 325 = .ok (.ireturn, 1) := by decide +kernel
set_option maxRecDepth 20000 in
theorem ggX10_beside_X10_noVerse : GoodIn wsX10_beside wsX10_noVerse := goodIn_r _ [5, 6, 7, 4, 8, 9, 10, 11, 12, 13, 14, 15, 16, 29, 30, 31, 32, 33, 34, 35, 36, 37, 38, 39, 40, 41, 42, 43, 44, 45, 46, 47, 48, 49, 50, 51] (by decide +kernel) (by decide +kernel)
set_option maxRecDepth 20000 in
theorem gX10_beside_X10_noVerse : GoodIn wsX10_beside (wsV RX10 74 RX10 yX10_noVerse wsX10_noVerse) := goodIn_app (goodIn_of _ (by decide +kernel)) ggX10_beside_X10_noVerse
set_option maxRecDepth 20000 in
theorem ggX10_beside_X10_in : GoodIn wsX10_beside wsX10_in := goodIn_r _ [11] (by decide +kernel) (by decide +kernel)
set_option maxRecDepth 20000 in
theorem gX10_beside_X10_in : GoodIn wsX10_beside (va_wsS RX10 48 yX10_in wsX10_in) := goodIn_app (goodIn_of _ (by decide +kernel)) ggX10_beside_X10_in
set_option maxRecDepth 20000 in
theorem ggX10_beside_X10_groupOf : GoodIn wsX10_beside wsX10_groupOf := goodIn_r _ [20, 21, 22, 23, 4, 24, 16, 29, 30, 31, 32, 33, 34, 35, 36, 37, 38, 39, 40, 41, 42, 43, 44, 45, 46, 47, 48, 49, 50, 51] (by decide +kernel) (by decide +kernel)
set_option maxRecDepth 20000 in
theorem gX10_beside_X10_groupOf : GoodIn wsX10_beside (wsV RX10 85 RX10 yX10_groupOf wsX10_groupOf) := goodIn_app (goodIn_of _ (by decide +kernel)) ggX10_beside_X10_groupOf
set_option maxRecDepth 20000 in
theorem ggX10_beside_X10_has : GoodIn wsX10_beside wsX10_has := goodIn_r _ [24, 16, 29, 30, 31, 32, 33, 34, 35, 36, 37, 38, 39, 40, 41, 42, 43, 44, 45, 46, 47, 48, 49, 50, 51] (by decide +kernel) (by decide +kernel)
set_option maxRecDepth 20000 in
theorem gX10_beside_X10_has : GoodIn wsX10_beside (wsV RX10 78 RX10 yX10_has wsX10_has) := goodIn_app (goodIn_of _ (by decide +kernel)) ggX10_beside_X10_has
set_option maxRecDepth 20000 in
theorem ggX10_beside_X10_firstIn : GoodIn wsX10_beside wsX10_firstIn := goodIn_r _ [28, 21, 22, 23, 4, 24, 16, 29, 30, 31, 32, 33, 34, 35, 36, 37, 38, 39, 40, 41, 42, 43, 44, 45, 46, 47, 48, 49, 50, 51] (by decide +kernel) (by decide +kernel)
set_option maxRecDepth 20000 in
theorem gX10_beside_X10_firstIn : GoodIn wsX10_beside (wsV RX10 159 RX10 yX10_firstIn wsX10_firstIn) := goodIn_app (goodIn_of _ (by decide +kernel)) ggX10_beside_X10_firstIn
theorem dX10_beside_0 : decode cX10_beside 0 = .ok (.aload_n 0, 1) := by decide +kernel
theorem dX10_beside_1 : decode cX10_beside 1 = .ok (.iload_n 1, 1) := by decide +kernel
theorem dX10_beside_2 : decode cX10_beside 2 = .ok (.iload_n 2, 1) := by decide +kernel
theorem dX10_beside_3 : decode cX10_beside 3 = .ok (.invokevirtual 74, 3) := by decide +kernel
theorem dX10_beside_6 : decode cX10_beside 6 = .ok (.ifCond .eq 5, 3) := by decide +kernel
theorem dX10_beside_9 : decode cX10_beside 9 = .ok (.iconst (-1), 1) := by decide +kernel
theorem dX10_beside_10 : decode cX10_beside 10 = .ok (.ireturn, 1) := by decide +kernel
theorem dX10_beside_11 : decode cX10_beside 11 = .ok (.iload_n 3, 1) := by decide +kernel
theorem dX10_beside_12 : decode cX10_beside 12 = .ok (.iconst 0, 1) := by decide +kernel
theorem dX10_beside_13 : decode cX10_beside 13 = .ok (.iconst 2, 1) := by decide +kernel
theorem dX10_beside_14 : decode cX10_beside 14 = .ok (.invokestatic 48, 3) := by decide +kernel
theorem dX10_beside_17 : decode cX10_beside 17 = .ok (.ifCond .ne 6, 3) := by decide +kernel
theorem dX10_beside_20 : decode cX10_beside 20 = .ok (.bipush (-2), 2) := by decide +kernel
theorem dX10_beside_22 : decode cX10_beside 22 = .ok (.ireturn, 1) := by decide +kernel
theorem dX10_beside_23 : decode cX10_beside 23 = .ok (.aload_n 0, 1) := by decide +kernel
theorem dX10_beside_24 : decode cX10_beside 24 = .ok (.iload_n 1, 1) := by decide +kernel
theorem dX10_beside_25 : decode cX10_beside 25 = .ok (.iload_n 2, 1) := by decide +kernel
theorem dX10_beside_26 : decode cX10_beside 26 = .ok (.invokevirtual 85, 3) := by decide +kernel
theorem dX10_beside_29 : decode cX10_beside 29 = .ok (.istore 4, 2) := by decide +kernel
theorem dX10_beside_31 : decode cX10_beside 31 = .ok (.aload_n 0, 1) := by decide +kernel
theorem dX10_beside_32 : decode cX10_beside 32 = .ok (.iload 4, 2) := by decide +kernel
theorem dX10_beside_34 : decode cX10_beside 34 = .ok (.iconst 1, 1) := by decide +kernel
theorem dX10_beside_35 : decode cX10_beside 35 = .ok (.iload_n 1, 1) := by decide +kernel
theorem dX10_beside_36 : decode cX10_beside 36 = .ok (.isub, 1) := by decide +kernel
theorem dX10_beside_37 : decode cX10_beside 37 = .ok (.invokevirtual 78, 3) := by decide +kernel
theorem dX10_beside_40 : decode cX10_beside 40 = .ok (.istore 5, 2) := by decide +kernel
theorem dX10_beside_42 : decode cX10_beside 42 = .ok (.iload_n 3, 1) := by decide +kernel
theorem dX10_beside_43 : decode cX10_beside 43 = .ok (.ifCond .ne 8, 3) := by decide +kernel
theorem dX10_beside_46 : decode cX10_beside 46 = .ok (.iload 4, 2) := by decide +kernel
theorem dX10_beside_48 : decode cX10_beside 48 = .ok (.goto 36, 3) := by decide +kernel
theorem dX10_beside_51 : decode cX10_beside 51 = .ok (.iload 5, 2) := by decide +kernel
theorem dX10_beside_53 : decode cX10_beside 53 = .ok (.ifCond .ne 8, 3) := by decide +kernel
theorem dX10_beside_56 : decode cX10_beside 56 = .ok (.bipush (-5), 2) := by decide +kernel
theorem dX10_beside_58 : decode cX10_beside 58 = .ok (.goto 26, 3) := by decide +kernel
theorem dX10_beside_61 : decode cX10_beside 61 = .ok (.aload_n 0, 1) := by decide +kernel
theorem dX10_beside_62 : decode cX10_beside 62 = .ok (.iload 4, 2) := by decide +kernel
theorem dX10_beside_64 : decode cX10_beside 64 = .ok (.iconst 1, 1) := by decide +kernel
theorem dX10_beside_65 : decode cX10_beside 65 = .ok (.iload_n 1, 1) := by decide +kernel
theorem dX10_beside_66 : decode cX10_beside 66 = .ok (.isub, 1) := by decide +kernel
theorem dX10_beside_67 : decode cX10_beside 67 = .ok (.invokevirtual 159, 3) := by decide +kernel
theorem dX10_beside_70 : decode cX10_beside 70 = .ok (.iload_n 3, 1) := by decide +kernel
theorem dX10_beside_71 : decode cX10_beside 71 = .ok (.iconst 1, 1) := by decide +kernel
theorem dX10_beside_72 : decode cX10_beside 72 = .ok (.if_icmp .ne 7, 3) := by decide +kernel
theorem dX10_beside_75 : decode cX10_beside 75 = .ok (.iconst 0, 1) := by decide +kernel
theorem dX10_beside_76 : decode cX10_beside 76 = .ok (.goto 7, 3) := by decide +kernel
theorem dX10_beside_79 : decode cX10_beside 79 = .ok (.iload 5, 2) := by decide +kernel
theorem dX10_beside_81 : decode cX10_beside 81 = .ok (.iconst 1, 1) := by decide +kernel
theorem dX10_beside_82 : decode cX10_beside 82 = .ok (.isub, 1) := by decide +kernel
theorem dX10_beside_83 : decode cX10_beside 83 = .ok (.iadd, 1) := by decide +kernel
theorem dX10_beside_84 : decode cX10_beside 84 = .ok (.ireturn, 1) := by decide +kernel
theorem dX10_width_0 : decode cX10_width 0 = .ok (.aload_n 0, 1) := by decide +kernel
theorem dX10_width_1 : decode cX10_width 1 = .ok (.getfield 26, 3) := by decide +kernel
theorem dX10_width_4 : decode cX10_width 4 = .ok (.iload_n 1, 1) := by decide +kernel
theorem dX10_width_5 : decode cX10_width 5 = .ok (.iaload, 1) := by decide +kernel
theorem dX10_width_6 : decode cX10_width 6 = .ok (.ifCond .ne 8, 3) := by decide +kernel
theorem dX10_width_9 : decode cX10_width 9 = .ok (.bipush 40, 2) := by decide +kernel
theorem dX10_width_11 : decode cX10_width 11 = .ok (.goto 9, 3) := by decide +kernel
theorem dX10_width_14 : decode cX10_width 14 = .ok (.aload_n 0, 1) := by decide +kernel
theorem dX10_width_15 : decode cX10_width 15 = .ok (.getfield 26, 3) := by decide +kernel
theorem dX10_width_18 : decode cX10_width 18 = .ok (.iload_n 1, 1) := by decide +kernel
theorem dX10_width_19 : decode cX10_width 19 = .ok (.iaload, 1) := by decide +kernel
theorem dX10_width_20 : decode cX10_width 20 = .ok (.ireturn, 1) := by decide +kernel
set_option maxRecDepth 20000 in
theorem ggX10_setWidth_X10_noBook : GoodIn wsX10_setWidth wsX10_noBook := goodIn_r _ [5, 6, 7, 4, 8] (by decide +kernel) (by decide +kernel)
set_option maxRecDepth 20000 in
theorem gX10_setWidth_X10_noBook : GoodIn wsX10_setWidth (va_wsS RX10 52 yX10_noBook wsX10_noBook) := goodIn_app (goodIn_of _ (by decide +kernel)) ggX10_setWidth_X10_noBook
set_option maxRecDepth 20000 in
theorem ggX10_setWidth_X10_in : GoodIn wsX10_setWidth wsX10_in := goodIn_r _ [8] (by decide +kernel) (by decide +kernel)
set_option maxRecDepth 20000 in
theorem gX10_setWidth_X10_in : GoodIn wsX10_setWidth (va_wsS RX10 48 yX10_in wsX10_in) := goodIn_app (goodIn_of _ (by decide +kernel)) ggX10_setWidth_X10_in
set_option maxRecDepth 20000 in
theorem ggX10_setWidth_X10_width : GoodIn wsX10_setWidth wsX10_width := goodIn_r _ [12, 1, 13, 14, 15, 16, 17, 18, 19, 20, 21, 22, 23, 24, 25, 26, 27, 28, 29, 30, 31, 32, 33, 34, 35] (by decide +kernel) (by decide +kernel)
set_option maxRecDepth 20000 in
theorem gX10_setWidth_X10_width : GoodIn wsX10_setWidth (wsV RX10 162 RX10 yX10_width wsX10_width) := goodIn_app (goodIn_of _ (by decide +kernel)) ggX10_setWidth_X10_width
theorem dX10_setWidth_0 : decode cX10_setWidth 0 = .ok (.iload_n 1, 1) := by decide +kernel
theorem dX10_setWidth_1 : decode cX10_setWidth 1 = .ok (.invokestatic 52, 3) := by decide +kernel
theorem dX10_setWidth_4 : decode cX10_setWidth 4 = .ok (.ifCond .eq 5, 3) := by decide +kernel
theorem dX10_setWidth_7 : decode cX10_setWidth 7 = .ok (.iconst (-1), 1) := by decide +kernel
theorem dX10_setWidth_8 : decode cX10_setWidth 8 = .ok (.ireturn, 1) := by decide +kernel
theorem dX10_setWidth_9 : decode cX10_setWidth 9 = .ok (.iload_n 2, 1) := by decide +kernel
theorem dX10_setWidth_10 : decode cX10_setWidth 10 = .ok (.bipush 10, 2) := by decide +kernel
theorem dX10_setWidth_12 : decode cX10_setWidth 12 = .ok (.sipush 200, 3) := by decide +kernel
theorem dX10_setWidth_15 : decode cX10_setWidth 15 = .ok (.invokestatic 48, 3) := by decide +kernel
theorem dX10_setWidth_18 : decode cX10_setWidth 18 = .ok (.ifCond .ne 6, 3) := by decide +kernel
theorem dX10_setWidth_21 : decode cX10_setWidth 21 = .ok (.bipush (-2), 2) := by decide +kernel
theorem dX10_setWidth_23 : decode cX10_setWidth 23 = .ok (.ireturn, 1) := by decide +kernel
theorem dX10_setWidth_24 : decode cX10_setWidth 24 = .ok (.aload_n 0, 1) := by decide +kernel
theorem dX10_setWidth_25 : decode cX10_setWidth 25 = .ok (.iload_n 1, 1) := by decide +kernel
theorem dX10_setWidth_26 : decode cX10_setWidth 26 = .ok (.invokevirtual 162, 3) := by decide +kernel
theorem dX10_setWidth_29 : decode cX10_setWidth 29 = .ok (.istore_n 3, 1) := by decide +kernel
theorem dX10_setWidth_30 : decode cX10_setWidth 30 = .ok (.aload_n 0, 1) := by decide +kernel
theorem dX10_setWidth_31 : decode cX10_setWidth 31 = .ok (.getfield 26, 3) := by decide +kernel
theorem dX10_setWidth_34 : decode cX10_setWidth 34 = .ok (.iload_n 1, 1) := by decide +kernel
theorem dX10_setWidth_35 : decode cX10_setWidth 35 = .ok (.iload_n 2, 1) := by decide +kernel
theorem dX10_setWidth_36 : decode cX10_setWidth 36 = .ok (.iastore, 1) := by decide +kernel
theorem dX10_setWidth_37 : decode cX10_setWidth 37 = .ok (.iload_n 3, 1) := by decide +kernel
theorem dX10_setWidth_38 : decode cX10_setWidth 38 = .ok (.ireturn, 1) := by decide +kernel
set_option maxRecDepth 20000 in
theorem ggX10_setHeights_X10_in : GoodIn wsX10_setHeights wsX10_in := goodIn_r _ [6] (by decide +kernel) (by decide +kernel)
set_option maxRecDepth 20000 in
theorem gX10_setHeights_X10_in : GoodIn wsX10_setHeights (va_wsS RX10 48 yX10_in wsX10_in) := goodIn_app (goodIn_of _ (by decide +kernel)) ggX10_setHeights_X10_in
theorem dX10_setHeights_0 : decode cX10_setHeights 0 = .ok (.iload_n 1, 1) := by decide +kernel
theorem dX10_setHeights_1 : decode cX10_setHeights 1 = .ok (.iconst 5, 1) := by decide +kernel
theorem dX10_setHeights_2 : decode cX10_setHeights 2 = .ok (.sipush 200, 3) := by decide +kernel
theorem dX10_setHeights_5 : decode cX10_setHeights 5 = .ok (.invokestatic 48, 3) := by decide +kernel
theorem dX10_setHeights_8 : decode cX10_setHeights 8 = .ok (.ifCond .eq 12, 3) := by decide +kernel
theorem dX10_setHeights_11 : decode cX10_setHeights 11 = .ok (.iload_n 2, 1) := by decide +kernel
theorem dX10_setHeights_12 : decode cX10_setHeights 12 = .ok (.iconst 0, 1) := by decide +kernel
theorem dX10_setHeights_13 : decode cX10_setHeights 13 = .ok (.iconst 5, 1) := by decide +kernel
theorem dX10_setHeights_14 : decode cX10_setHeights 14 = .ok (.invokestatic 48, 3) := by decide +kernel
theorem dX10_setHeights_17 : decode cX10_setHeights 17 = .ok (.ifCond .ne 6, 3) := by decide +kernel
theorem dX10_setHeights_20 : decode cX10_setHeights 20 = .ok (.bipush (-2), 2) := by decide +kernel
theorem dX10_setHeights_22 : decode cX10_setHeights 22 = .ok (.ireturn, 1) := by decide +kernel
theorem dX10_setHeights_23 : decode cX10_setHeights 23 = .ok (.aload_n 0, 1) := by decide +kernel
theorem dX10_setHeights_24 : decode cX10_setHeights 24 = .ok (.getfield 29, 3) := by decide +kernel
theorem dX10_setHeights_27 : decode cX10_setHeights 27 = .ok (.istore_n 3, 1) := by decide +kernel
theorem dX10_setHeights_28 : decode cX10_setHeights 28 = .ok (.aload_n 0, 1) := by decide +kernel
theorem dX10_setHeights_29 : decode cX10_setHeights 29 = .ok (.iload_n 1, 1) := by decide +kernel
theorem dX10_setHeights_30 : decode cX10_setHeights 30 = .ok (.putfield 29, 3) := by decide +kernel
theorem dX10_setHeights_33 : decode cX10_setHeights 33 = .ok (.aload_n 0, 1) := by decide +kernel
theorem dX10_setHeights_34 : decode cX10_setHeights 34 = .ok (.iload_n 2, 1) := by decide +kernel
theorem dX10_setHeights_35 : decode cX10_setHeights 35 = .ok (.putfield 33, 3) := by decide +kernel
theorem dX10_setHeights_38 : decode cX10_setHeights 38 = .ok (.iload_n 3, 1) := by decide +kernel
theorem dX10_setHeights_39 : decode cX10_setHeights 39 = .ok (.ireturn, 1) := by decide +kernel
set_option maxRecDepth 20000 in
theorem ggX10_linesOf_X10_width : GoodIn wsX10_linesOf wsX10_width := goodIn_r _ [6, 7, 8, 9, 10, 11, 12, 13, 14, 15, 16, 17, 18, 19, 20, 21, 22, 23, 24, 25, 26, 27, 28, 29, 30] (by decide +kernel) (by decide +kernel)
set_option maxRecDepth 20000 in
theorem gX10_linesOf_X10_width : GoodIn wsX10_linesOf (wsV RX10 162 RX10 yX10_width wsX10_width) := goodIn_app (goodIn_of _ (by decide +kernel)) ggX10_linesOf_X10_width
theorem dX10_linesOf_0 : decode cX10_linesOf 0 = .ok (.aload_n 0, 1) := by decide +kernel
theorem dX10_linesOf_1 : decode cX10_linesOf 1 = .ok (.getfield 7, 3) := by decide +kernel
theorem dX10_linesOf_4 : decode cX10_linesOf 4 = .ok (.bipush 60, 2) := by decide +kernel
theorem dX10_linesOf_6 : decode cX10_linesOf 6 = .ok (.iload_n 1, 1) := by decide +kernel
theorem dX10_linesOf_7 : decode cX10_linesOf 7 = .ok (.imul, 1) := by decide +kernel
theorem dX10_linesOf_8 : decode cX10_linesOf 8 = .ok (.iload_n 2, 1) := by decide +kernel
theorem dX10_linesOf_9 : decode cX10_linesOf 9 = .ok (.iadd, 1) := by decide +kernel
theorem dX10_linesOf_10 : decode cX10_linesOf 10 = .ok (.iaload, 1) := by decide +kernel
theorem dX10_linesOf_11 : decode cX10_linesOf 11 = .ok (.aload_n 0, 1) := by decide +kernel
theorem dX10_linesOf_12 : decode cX10_linesOf 12 = .ok (.iload_n 1, 1) := by decide +kernel
theorem dX10_linesOf_13 : decode cX10_linesOf 13 = .ok (.invokevirtual 162, 3) := by decide +kernel
theorem dX10_linesOf_16 : decode cX10_linesOf 16 = .ok (.iadd, 1) := by decide +kernel
theorem dX10_linesOf_17 : decode cX10_linesOf 17 = .ok (.iconst 1, 1) := by decide +kernel
theorem dX10_linesOf_18 : decode cX10_linesOf 18 = .ok (.isub, 1) := by decide +kernel
theorem dX10_linesOf_19 : decode cX10_linesOf 19 = .ok (.aload_n 0, 1) := by decide +kernel
theorem dX10_linesOf_20 : decode cX10_linesOf 20 = .ok (.iload_n 1, 1) := by decide +kernel
theorem dX10_linesOf_21 : decode cX10_linesOf 21 = .ok (.invokevirtual 162, 3) := by decide +kernel
theorem dX10_linesOf_24 : decode cX10_linesOf 24 = .ok (.idiv, 1) := by decide +kernel
theorem dX10_linesOf_25 : decode cX10_linesOf 25 = .ok (.ireturn, 1) := by decide +kernel
set_option maxRecDepth 20000 in
theorem ggX10_needed_X10_firstIn : GoodIn wsX10_needed wsX10_firstIn := goodIn_r _ [6, 7, 8, 9, 5, 10, 11, 25, 26, 27, 28, 29, 30, 31, 32, 33, 34, 35, 36, 37, 38, 39, 40, 41, 42, 43, 44, 45, 46, 47] (by decide +kernel) (by decide +kernel)
set_option maxRecDepth 20000 in
theorem gX10_needed_X10_firstIn : GoodIn wsX10_needed (wsV RX10 159 RX10 yX10_firstIn wsX10_firstIn) := goodIn_app (goodIn_of _ (by decide +kernel)) ggX10_needed_X10_firstIn
set_option maxRecDepth 20000 in
theorem ggX10_needed_X10_has : GoodIn wsX10_needed wsX10_has := goodIn_r _ [10, 11, 25, 26, 27, 28, 29, 30, 31, 32, 33, 34, 35, 36, 37, 38, 39, 40, 41, 42, 43, 44, 45, 46, 47] (by decide +kernel) (by decide +kernel)
set_option maxRecDepth 20000 in
theorem gX10_needed_X10_has : GoodIn wsX10_needed (wsV RX10 78 RX10 yX10_has wsX10_has) := goodIn_app (goodIn_of _ (by decide +kernel)) ggX10_needed_X10_has
set_option maxRecDepth 20000 in
theorem ggX10_needed_X10_chapterOf : GoodIn wsX10_needed wsX10_chapterOf := goodIn_r _ [15, 11, 25, 26, 27, 28, 29, 30, 31, 32, 33, 34, 35, 36, 37, 38, 39, 40, 41, 42, 43, 44, 45, 46, 47] (by decide +kernel) (by decide +kernel)
set_option maxRecDepth 20000 in
theorem gX10_needed_X10_chapterOf : GoodIn wsX10_needed (wsV RX10 82 RX10 yX10_chapterOf wsX10_chapterOf) := goodIn_app (goodIn_of _ (by decide +kernel)) ggX10_needed_X10_chapterOf
set_option maxRecDepth 20000 in
theorem ggX10_needed_X10_linesOf : GoodIn wsX10_needed wsX10_linesOf := goodIn_r _ [19, 11, 20, 21, 22, 5, 23, 24, 25, 26, 27, 28, 29, 30, 31, 32, 33, 34, 35, 36, 37, 38, 39, 40, 41, 42, 43, 44, 45, 46, 47] (by decide +kernel) (by decide +kernel)
set_option maxRecDepth 20000 in
theorem gX10_needed_X10_linesOf : GoodIn wsX10_needed (wsV RX10 165 RX10 yX10_linesOf wsX10_linesOf) := goodIn_app (goodIn_of _ (by decide +kernel)) ggX10_needed_X10_linesOf
theorem dX10_needed_0 : decode cX10_needed 0 = .ok (.aload_n 0, 1) := by decide +kernel
theorem dX10_needed_1 : decode cX10_needed 1 = .ok (.iload_n 1, 1) := by decide +kernel
theorem dX10_needed_2 : decode cX10_needed 2 = .ok (.iload_n 2, 1) := by decide +kernel
theorem dX10_needed_3 : decode cX10_needed 3 = .ok (.invokevirtual 159, 3) := by decide +kernel
theorem dX10_needed_6 : decode cX10_needed 6 = .ok (.istore_n 3, 1) := by decide +kernel
theorem dX10_needed_7 : decode cX10_needed 7 = .ok (.iconst 0, 1) := by decide +kernel
theorem dX10_needed_8 : decode cX10_needed 8 = .ok (.istore 4, 2) := by decide +kernel
theorem dX10_needed_10 : decode cX10_needed 10 = .ok (.iload_n 3, 1) := by decide +kernel
theorem dX10_needed_11 : decode cX10_needed 11 = .ok (.istore 5, 2) := by decide +kernel
theorem dX10_needed_13 : decode cX10_needed 13 = .ok (.iload 5, 2) := by decide +kernel
theorem dX10_needed_15 : decode cX10_needed 15 = .ok (.iload_n 3, 1) := by decide +kernel
theorem dX10_needed_16 : decode cX10_needed 16 = .ok (.aload_n 0, 1) := by decide +kernel
theorem dX10_needed_17 : decode cX10_needed 17 = .ok (.iload_n 1, 1) := by decide +kernel
theorem dX10_needed_18 : decode cX10_needed 18 = .ok (.iload_n 2, 1) := by decide +kernel
theorem dX10_needed_19 : decode cX10_needed 19 = .ok (.invokevirtual 78, 3) := by decide +kernel
theorem dX10_needed_22 : decode cX10_needed 22 = .ok (.iadd, 1) := by decide +kernel
theorem dX10_needed_23 : decode cX10_needed 23 = .ok (.if_icmp .ge 66, 3) := by decide +kernel
theorem dX10_needed_26 : decode cX10_needed 26 = .ok (.iload 5, 2) := by decide +kernel
theorem dX10_needed_28 : decode cX10_needed 28 = .ok (.ifCond .eq 22, 3) := by decide +kernel
theorem dX10_needed_31 : decode cX10_needed 31 = .ok (.aload_n 0, 1) := by decide +kernel
theorem dX10_needed_32 : decode cX10_needed 32 = .ok (.iload_n 2, 1) := by decide +kernel
theorem dX10_needed_33 : decode cX10_needed 33 = .ok (.iload 5, 2) := by decide +kernel
theorem dX10_needed_35 : decode cX10_needed 35 = .ok (.invokevirtual 82, 3) := by decide +kernel
theorem dX10_needed_38 : decode cX10_needed 38 = .ok (.aload_n 0, 1) := by decide +kernel
theorem dX10_needed_39 : decode cX10_needed 39 = .ok (.iload_n 2, 1) := by decide +kernel
theorem dX10_needed_40 : decode cX10_needed 40 = .ok (.iload 5, 2) := by decide +kernel
theorem dX10_needed_42 : decode cX10_needed 42 = .ok (.iconst 1, 1) := by decide +kernel
theorem dX10_needed_43 : decode cX10_needed 43 = .ok (.isub, 1) := by decide +kernel
theorem dX10_needed_44 : decode cX10_needed 44 = .ok (.invokevirtual 82, 3) := by decide +kernel
theorem dX10_needed_47 : decode cX10_needed 47 = .ok (.if_icmp .eq 7, 3) := by decide +kernel
theorem dX10_needed_50 : decode cX10_needed 50 = .ok (.iconst 1, 1) := by decide +kernel
theorem dX10_needed_51 : decode cX10_needed 51 = .ok (.goto 4, 3) := by decide +kernel
theorem dX10_needed_54 : decode cX10_needed 54 = .ok (.iconst 0, 1) := by decide +kernel
theorem dX10_needed_55 : decode cX10_needed 55 = .ok (.istore 6, 2) := by decide +kernel
theorem dX10_needed_57 : decode cX10_needed 57 = .ok (.iload 4, 2) := by decide +kernel
theorem dX10_needed_59 : decode cX10_needed 59 = .ok (.aload_n 0, 1) := by decide +kernel
theorem dX10_needed_60 : decode cX10_needed 60 = .ok (.iload_n 2, 1) := by decide +kernel
theorem dX10_needed_61 : decode cX10_needed 61 = .ok (.iload 5, 2) := by decide +kernel
theorem dX10_needed_63 : decode cX10_needed 63 = .ok (.invokevirtual 165, 3) := by decide +kernel
theorem dX10_needed_66 : decode cX10_needed 66 = .ok (.iload 6, 2) := by decide +kernel
theorem dX10_needed_68 : decode cX10_needed 68 = .ok (.ifCond .eq 10, 3) := by decide +kernel
theorem dX10_needed_71 : decode cX10_needed 71 = .ok (.aload_n 0, 1) := by decide +kernel
theorem dX10_needed_72 : decode cX10_needed 72 = .ok (.getfield 33, 3) := by decide +kernel
theorem dX10_needed_75 : decode cX10_needed 75 = .ok (.goto 4, 3) := by decide +kernel
theorem dX10_needed_78 : decode cX10_needed 78 = .ok (.iconst 0, 1) := by decide +kernel
theorem dX10_needed_79 : decode cX10_needed 79 = .ok (.iadd, 1) := by decide +kernel
theorem dX10_needed_80 : decode cX10_needed 80 = .ok (.iadd, 1) := by decide +kernel
theorem dX10_needed_81 : decode cX10_needed 81 = .ok (.istore 4, 2) := by decide +kernel
theorem dX10_needed_83 : decode cX10_needed 83 = .ok (.iinc 5 1, 3) := by decide +kernel
theorem dX10_needed_86 : decode cX10_needed 86 = .ok (.goto (-73), 3) := by decide +kernel
theorem dX10_needed_89 : decode cX10_needed 89 = .ok (.iload 4, 2) := by decide +kernel
theorem dX10_needed_91 : decode cX10_needed 91 = .ok (.ireturn, 1) := by decide +kernel
set_option maxRecDepth 20000 in
theorem ggX10_heightOf_X10_needed : GoodIn wsX10_heightOf wsX10_needed := goodIn_r _ [5, 6, 7, 8, 9, 4, 10, 11, 12, 13, 14, 15, 16, 17, 18, 19, 20, 21, 22, 23, 24, 25, 26, 27, 28, 29, 30, 31, 32, 33, 34, 35, 36, 37, 38, 39, 40, 41, 42, 43, 44, 45, 46, 47, 48, 49, 50, 51] (by decide +kernel) (by decide +kernel)
set_option maxRecDepth 20000 in
theorem gX10_heightOf_X10_needed : GoodIn wsX10_heightOf (wsV RX10 168 RX10 yX10_needed wsX10_needed) := goodIn_app (goodIn_of _ (by decide +kernel)) ggX10_heightOf_X10_needed
theorem dX10_heightOf_0 : decode cX10_heightOf 0 = .ok (.aload_n 0, 1) := by decide +kernel
theorem dX10_heightOf_1 : decode cX10_heightOf 1 = .ok (.iload_n 1, 1) := by decide +kernel
theorem dX10_heightOf_2 : decode cX10_heightOf 2 = .ok (.iconst 0, 1) := by decide +kernel
theorem dX10_heightOf_3 : decode cX10_heightOf 3 = .ok (.invokevirtual 168, 3) := by decide +kernel
theorem dX10_heightOf_6 : decode cX10_heightOf 6 = .ok (.istore_n 2, 1) := by decide +kernel
theorem dX10_heightOf_7 : decode cX10_heightOf 7 = .ok (.aload_n 0, 1) := by decide +kernel
theorem dX10_heightOf_8 : decode cX10_heightOf 8 = .ok (.iload_n 1, 1) := by decide +kernel
theorem dX10_heightOf_9 : decode cX10_heightOf 9 = .ok (.iconst 1, 1) := by decide +kernel
theorem dX10_heightOf_10 : decode cX10_heightOf 10 = .ok (.invokevirtual 168, 3) := by decide +kernel
theorem dX10_heightOf_13 : decode cX10_heightOf 13 = .ok (.istore_n 3, 1) := by decide +kernel
theorem dX10_heightOf_14 : decode cX10_heightOf 14 = .ok (.iload_n 2, 1) := by decide +kernel
theorem dX10_heightOf_15 : decode cX10_heightOf 15 = .ok (.iload_n 3, 1) := by decide +kernel
theorem dX10_heightOf_16 : decode cX10_heightOf 16 = .ok (.if_icmp .le 7, 3) := by decide +kernel
theorem dX10_heightOf_19 : decode cX10_heightOf 19 = .ok (.iload_n 2, 1) := by decide +kernel
theorem dX10_heightOf_20 : decode cX10_heightOf 20 = .ok (.goto 4, 3) := by decide +kernel
theorem dX10_heightOf_23 : decode cX10_heightOf 23 = .ok (.iload_n 3, 1) := by decide +kernel
theorem dX10_heightOf_24 : decode cX10_heightOf 24 = .ok (.ireturn, 1) := by decide +kernel
set_option maxRecDepth 20000 in
theorem ggX10_notesOf_X10_firstIn : GoodIn wsX10_notesOf wsX10_firstIn := goodIn_r _ [6, 7, 8, 9, 5, 10, 1, 11, 12, 13, 14, 15, 16, 17, 18, 19, 20, 21, 22, 23, 24, 25, 26, 27, 28, 29, 30, 31, 32, 33] (by decide +kernel) (by decide +kernel)
set_option maxRecDepth 20000 in
theorem gX10_notesOf_X10_firstIn : GoodIn wsX10_notesOf (wsV RX10 159 RX10 yX10_firstIn wsX10_firstIn) := goodIn_app (goodIn_of _ (by decide +kernel)) ggX10_notesOf_X10_firstIn
set_option maxRecDepth 20000 in
theorem ggX10_notesOf_X10_has : GoodIn wsX10_notesOf wsX10_has := goodIn_r _ [10, 1, 11, 12, 13, 14, 15, 16, 17, 18, 19, 20, 21, 22, 23, 24, 25, 26, 27, 28, 29, 30, 31, 32, 33] (by decide +kernel) (by decide +kernel)
set_option maxRecDepth 20000 in
theorem gX10_notesOf_X10_has : GoodIn wsX10_notesOf (wsV RX10 78 RX10 yX10_has wsX10_has) := goodIn_app (goodIn_of _ (by decide +kernel)) ggX10_notesOf_X10_has
theorem dX10_notesOf_0 : decode cX10_notesOf 0 = .ok (.iconst 0, 1) := by decide +kernel
theorem dX10_notesOf_1 : decode cX10_notesOf 1 = .ok (.istore_n 2, 1) := by decide +kernel
theorem dX10_notesOf_2 : decode cX10_notesOf 2 = .ok (.iconst 0, 1) := by decide +kernel
theorem dX10_notesOf_3 : decode cX10_notesOf 3 = .ok (.istore_n 3, 1) := by decide +kernel
theorem dX10_notesOf_4 : decode cX10_notesOf 4 = .ok (.iload_n 3, 1) := by decide +kernel
theorem dX10_notesOf_5 : decode cX10_notesOf 5 = .ok (.iconst 2, 1) := by decide +kernel
theorem dX10_notesOf_6 : decode cX10_notesOf 6 = .ok (.if_icmp .ge 59, 3) := by decide +kernel
theorem dX10_notesOf_9 : decode cX10_notesOf 9 = .ok (.aload_n 0, 1) := by decide +kernel
theorem dX10_notesOf_10 : decode cX10_notesOf 10 = .ok (.iload_n 1, 1) := by decide +kernel
theorem dX10_notesOf_11 : decode cX10_notesOf 11 = .ok (.iload_n 3, 1) := by decide +kernel
theorem dX10_notesOf_12 : decode cX10_notesOf 12 = .ok (.invokevirtual 159, 3) := by decide +kernel
theorem dX10_notesOf_15 : decode cX10_notesOf 15 = .ok (.istore 4, 2) := by decide +kernel
theorem dX10_notesOf_17 : decode cX10_notesOf 17 = .ok (.iload 4, 2) := by decide +kernel
theorem dX10_notesOf_19 : decode cX10_notesOf 19 = .ok (.istore 5, 2) := by decide +kernel
theorem dX10_notesOf_21 : decode cX10_notesOf 21 = .ok (.iload 5, 2) := by decide +kernel
theorem dX10_notesOf_23 : decode cX10_notesOf 23 = .ok (.iload 4, 2) := by decide +kernel
theorem dX10_notesOf_25 : decode cX10_notesOf 25 = .ok (.aload_n 0, 1) := by decide +kernel
theorem dX10_notesOf_26 : decode cX10_notesOf 26 = .ok (.iload_n 1, 1) := by decide +kernel
theorem dX10_notesOf_27 : decode cX10_notesOf 27 = .ok (.iload_n 3, 1) := by decide +kernel
theorem dX10_notesOf_28 : decode cX10_notesOf 28 = .ok (.invokevirtual 78, 3) := by decide +kernel
theorem dX10_notesOf_31 : decode cX10_notesOf 31 = .ok (.iadd, 1) := by decide +kernel
theorem dX10_notesOf_32 : decode cX10_notesOf 32 = .ok (.if_icmp .ge 27, 3) := by decide +kernel
theorem dX10_notesOf_35 : decode cX10_notesOf 35 = .ok (.iload_n 2, 1) := by decide +kernel
theorem dX10_notesOf_36 : decode cX10_notesOf 36 = .ok (.aload_n 0, 1) := by decide +kernel
theorem dX10_notesOf_37 : decode cX10_notesOf 37 = .ok (.getfield 7, 3) := by decide +kernel
theorem dX10_notesOf_40 : decode cX10_notesOf 40 = .ok (.bipush 120, 2) := by decide +kernel
theorem dX10_notesOf_42 : decode cX10_notesOf 42 = .ok (.bipush 60, 2) := by decide +kernel
theorem dX10_notesOf_44 : decode cX10_notesOf 44 = .ok (.iload_n 3, 1) := by decide +kernel
theorem dX10_notesOf_45 : decode cX10_notesOf 45 = .ok (.imul, 1) := by decide +kernel
theorem dX10_notesOf_46 : decode cX10_notesOf 46 = .ok (.iadd, 1) := by decide +kernel
theorem dX10_notesOf_47 : decode cX10_notesOf 47 = .ok (.iload 5, 2) := by decide +kernel
theorem dX10_notesOf_49 : decode cX10_notesOf 49 = .ok (.iadd, 1) := by decide +kernel
theorem dX10_notesOf_50 : decode cX10_notesOf 50 = .ok (.iaload, 1) := by decide +kernel
theorem dX10_notesOf_51 : decode cX10_notesOf 51 = .ok (.iadd, 1) := by decide +kernel
theorem dX10_notesOf_52 : decode cX10_notesOf 52 = .ok (.istore_n 2, 1) := by decide +kernel
theorem dX10_notesOf_53 : decode cX10_notesOf 53 = .ok (.iinc 5 1, 3) := by decide +kernel
theorem dX10_notesOf_56 : decode cX10_notesOf 56 = .ok (.goto (-35), 3) := by decide +kernel
theorem dX10_notesOf_59 : decode cX10_notesOf 59 = .ok (.iinc 3 1, 3) := by decide +kernel
theorem dX10_notesOf_62 : decode cX10_notesOf 62 = .ok (.goto (-58), 3) := by decide +kernel
theorem dX10_notesOf_65 : decode cX10_notesOf 65 = .ok (.iload_n 2, 1) := by decide +kernel
theorem dX10_notesOf_66 : decode cX10_notesOf 66 = .ok (.ireturn, 1) := by decide +kernel
theorem dX10_withLine_0 : decode cX10_withLine 0 = .ok (.iload_n 0, 1) := by decide +kernel
theorem dX10_withLine_1 : decode cX10_withLine 1 = .ok (.ifCond .le 9, 3) := by decide +kernel
theorem dX10_withLine_4 : decode cX10_withLine 4 = .ok (.iload_n 0, 1) := by decide +kernel
theorem dX10_withLine_5 : decode cX10_withLine 5 = .ok (.iconst 1, 1) := by decide +kernel
theorem dX10_withLine_6 : decode cX10_withLine 6 = .ok (.iadd, 1) := by decide +kernel
theorem dX10_withLine_7 : decode cX10_withLine 7 = .ok (.goto 4, 3) := by decide +kernel
theorem dX10_withLine_10 : decode cX10_withLine 10 = .ok (.iconst 0, 1) := by decide +kernel
theorem dX10_withLine_11 : decode cX10_withLine 11 = .ok (.ireturn, 1) := by decide +kernel
set_option maxRecDepth 20000 in
theorem ggX10_layPages_X10_groups : GoodIn wsX10_layPages wsX10_groups := goodIn_r _ [11, 12, 50, 51, 52, 53, 54, 55, 56, 57, 58, 59, 60, 61, 62, 63, 64, 65, 66, 67, 68, 69, 70, 71, 72] (by decide +kernel) (by decide +kernel)
set_option maxRecDepth 20000 in
theorem gX10_layPages_X10_groups : GoodIn wsX10_layPages (wsV RX10 60 RX10 yX10_groups wsX10_groups) := goodIn_app (goodIn_of _ (by decide +kernel)) ggX10_layPages_X10_groups
set_option maxRecDepth 20000 in
theorem ggX10_layPages_X10_heightOf : GoodIn wsX10_layPages wsX10_heightOf := goodIn_r _ [16, 17, 18, 19, 10, 20, 21, 22, 23, 24, 25, 26, 27, 28, 29, 12, 30, 31, 32, 33, 34, 35, 36, 37, 38, 39, 40, 41, 42, 50, 51, 52, 53, 54, 55, 56, 57, 58, 59, 60, 61, 62, 63, 64, 65, 66, 67, 68, 69, 70, 71, 72] (by decide +kernel) (by decide +kernel)
set_option maxRecDepth 20000 in
theorem gX10_layPages_X10_heightOf : GoodIn wsX10_layPages (wsV RX10 174 RX10 yX10_heightOf wsX10_heightOf) := goodIn_app (goodIn_of _ (by decide +kernel)) ggX10_layPages_X10_heightOf
set_option maxRecDepth 20000 in
theorem ggX10_layPages_X10_notesOf : GoodIn wsX10_layPages wsX10_notesOf := goodIn_r _ [46, 12, 22, 23, 24, 10, 25, 26, 27, 28, 29, 50, 51, 52, 53, 54, 55, 56, 57, 58, 59, 60, 61, 62, 63, 64, 65, 66, 67, 68, 69, 70, 71, 72] (by decide +kernel) (by decide +kernel)
set_option maxRecDepth 20000 in
theorem gX10_layPages_X10_notesOf : GoodIn wsX10_layPages (wsV RX10 177 RX10 yX10_notesOf wsX10_notesOf) := goodIn_app (goodIn_of _ (by decide +kernel)) ggX10_layPages_X10_notesOf
set_option maxRecDepth 20000 in
theorem ggX10_layPages_X10_withLine : GoodIn wsX10_layPages wsX10_withLine := goodIn_r _ [49] (by decide +kernel) (by decide +kernel)
set_option maxRecDepth 20000 in
theorem gX10_layPages_X10_withLine : GoodIn wsX10_layPages (va_wsS RX10 180 yX10_withLine wsX10_withLine) := goodIn_app (goodIn_of _ (by decide +kernel)) ggX10_layPages_X10_withLine
theorem dX10_layPages_0 : decode cX10_layPages 0 = .ok (.aload_n 0, 1) := by decide +kernel
theorem dX10_layPages_1 : decode cX10_layPages 1 = .ok (.iconst 0, 1) := by decide +kernel
theorem dX10_layPages_2 : decode cX10_layPages 2 = .ok (.putfield 171, 3) := by decide +kernel
theorem dX10_layPages_5 : decode cX10_layPages 5 = .ok (.iconst 0, 1) := by decide +kernel
theorem dX10_layPages_6 : decode cX10_layPages 6 = .ok (.istore_n 1, 1) := by decide +kernel
theorem dX10_layPages_7 : decode cX10_layPages 7 = .ok (.iload_n 1, 1) := by decide +kernel
theorem dX10_layPages_8 : decode cX10_layPages 8 = .ok (.aload_n 0, 1) := by decide +kernel
theorem dX10_layPages_9 : decode cX10_layPages 9 = .ok (.invokevirtual 60, 3) := by decide +kernel
theorem dX10_layPages_12 : decode cX10_layPages 12 = .ok (.if_icmp .ge 140, 3) := by decide +kernel
theorem dX10_layPages_15 : decode cX10_layPages 15 = .ok (.aload_n 0, 1) := by decide +kernel
theorem dX10_layPages_16 : decode cX10_layPages 16 = .ok (.iload_n 1, 1) := by decide +kernel
theorem dX10_layPages_17 : decode cX10_layPages 17 = .ok (.invokevirtual 174, 3) := by decide +kernel
theorem dX10_layPages_20 : decode cX10_layPages 20 = .ok (.istore_n 2, 1) := by decide +kernel
theorem dX10_layPages_21 : decode cX10_layPages 21 = .ok (.aload_n 0, 1) := by decide +kernel
theorem dX10_layPages_22 : decode cX10_layPages 22 = .ok (.iload_n 1, 1) := by decide +kernel
theorem dX10_layPages_23 : decode cX10_layPages 23 = .ok (.invokevirtual 177, 3) := by decide +kernel
theorem dX10_layPages_26 : decode cX10_layPages 26 = .ok (.istore_n 3, 1) := by decide +kernel
theorem dX10_layPages_27 : decode cX10_layPages 27 = .ok (.aload_n 0, 1) := by decide +kernel
theorem dX10_layPages_28 : decode cX10_layPages 28 = .ok (.getfield 171, 3) := by decide +kernel
theorem dX10_layPages_31 : decode cX10_layPages 31 = .ok (.iconst 1, 1) := by decide +kernel
theorem dX10_layPages_32 : decode cX10_layPages 32 = .ok (.isub, 1) := by decide +kernel
theorem dX10_layPages_33 : decode cX10_layPages 33 = .ok (.istore 4, 2) := by decide +kernel
theorem dX10_layPages_35 : decode cX10_layPages 35 = .ok (.aload_n 0, 1) := by decide +kernel
theorem dX10_layPages_36 : decode cX10_layPages 36 = .ok (.getfield 171, 3) := by decide +kernel
theorem dX10_layPages_39 : decode cX10_layPages 39 = .ok (.ifCond .eq 32, 3) := by decide +kernel
theorem dX10_layPages_42 : decode cX10_layPages 42 = .ok (.aload_n 0, 1) := by decide +kernel
theorem dX10_layPages_43 : decode cX10_layPages 43 = .ok (.getfield 42, 3) := by decide +kernel
theorem dX10_layPages_46 : decode cX10_layPages 46 = .ok (.iload 4, 2) := by decide +kernel
theorem dX10_layPages_48 : decode cX10_layPages 48 = .ok (.iaload, 1) := by decide +kernel
theorem dX10_layPages_49 : decode cX10_layPages 49 = .ok (.iload_n 2, 1) := by decide +kernel
theorem dX10_layPages_50 : decode cX10_layPages 50 = .ok (.iadd, 1) := by decide +kernel
theorem dX10_layPages_51 : decode cX10_layPages 51 = .ok (.aload_n 0, 1) := by decide +kernel
theorem dX10_layPages_52 : decode cX10_layPages 52 = .ok (.getfield 45, 3) := by decide +kernel
theorem dX10_layPages_55 : decode cX10_layPages 55 = .ok (.iload 4, 2) := by decide +kernel
theorem dX10_layPages_57 : decode cX10_layPages 57 = .ok (.iaload, 1) := by decide +kernel
theorem dX10_layPages_58 : decode cX10_layPages 58 = .ok (.iload_n 3, 1) := by decide +kernel
theorem dX10_layPages_59 : decode cX10_layPages 59 = .ok (.iadd, 1) := by decide +kernel
theorem dX10_layPages_60 : decode cX10_layPages 60 = .ok (.invokestatic 180, 3) := by decide +kernel
theorem dX10_layPages_63 : decode cX10_layPages 63 = .ok (.iadd, 1) := by decide +kernel
theorem dX10_layPages_64 : decode cX10_layPages 64 = .ok (.aload_n 0, 1) := by decide +kernel
theorem dX10_layPages_65 : decode cX10_layPages 65 = .ok (.getfield 29, 3) := by decide +kernel
theorem dX10_layPages_68 : decode cX10_layPages 68 = .ok (.if_icmp .le 35, 3) := by decide +kernel
theorem dX10_layPages_71 : decode cX10_layPages 71 = .ok (.aload_n 0, 1) := by decide +kernel
theorem dX10_layPages_72 : decode cX10_layPages 72 = .ok (.getfield 171, 3) := by decide +kernel
theorem dX10_layPages_75 : decode cX10_layPages 75 = .ok (.istore 4, 2) := by decide +kernel
theorem dX10_layPages_77 : decode cX10_layPages 77 = .ok (.aload_n 0, 1) := by decide +kernel
theorem dX10_layPages_78 : decode cX10_layPages 78 = .ok (.getfield 42, 3) := by decide +kernel
theorem dX10_layPages_81 : decode cX10_layPages 81 = .ok (.iload 4, 2) := by decide +kernel
theorem dX10_layPages_83 : decode cX10_layPages 83 = .ok (.iconst 0, 1) := by decide +kernel
theorem dX10_layPages_84 : decode cX10_layPages 84 = .ok (.iastore, 1) := by decide +kernel
theorem dX10_layPages_85 : decode cX10_layPages 85 = .ok (.aload_n 0, 1) := by decide +kernel
theorem dX10_layPages_86 : decode cX10_layPages 86 = .ok (.getfield 45, 3) := by decide +kernel
theorem dX10_layPages_89 : decode cX10_layPages 89 = .ok (.iload 4, 2) := by decide +kernel
theorem dX10_layPages_91 : decode cX10_layPages 91 = .ok (.iconst 0, 1) := by decide +kernel
theorem dX10_layPages_92 : decode cX10_layPages 92 = .ok (.iastore, 1) := by decide +kernel
theorem dX10_layPages_93 : decode cX10_layPages 93 = .ok (.aload_n 0, 1) := by decide +kernel
theorem dX10_layPages_94 : decode cX10_layPages 94 = .ok (.dup, 1) := by decide +kernel
theorem dX10_layPages_95 : decode cX10_layPages 95 = .ok (.getfield 171, 3) := by decide +kernel
theorem dX10_layPages_98 : decode cX10_layPages 98 = .ok (.iconst 1, 1) := by decide +kernel
theorem dX10_layPages_99 : decode cX10_layPages 99 = .ok (.iadd, 1) := by decide +kernel
theorem dX10_layPages_100 : decode cX10_layPages 100 = .ok (.putfield 171, 3) := by decide +kernel
theorem dX10_layPages_103 : decode cX10_layPages 103 = .ok (.aload_n 0, 1) := by decide +kernel
theorem dX10_layPages_104 : decode cX10_layPages 104 = .ok (.getfield 36, 3) := by decide +kernel
theorem dX10_layPages_107 : decode cX10_layPages 107 = .ok (.iload_n 1, 1) := by decide +kernel
theorem dX10_layPages_108 : decode cX10_layPages 108 = .ok (.iload 4, 2) := by decide +kernel
theorem dX10_layPages_110 : decode cX10_layPages 110 = .ok (.iastore, 1) := by decide +kernel
theorem dX10_layPages_111 : decode cX10_layPages 111 = .ok (.aload_n 0, 1) := by decide +kernel
theorem dX10_layPages_112 : decode cX10_layPages 112 = .ok (.getfield 39, 3) := by decide +kernel
theorem dX10_layPages_115 : decode cX10_layPages 115 = .ok (.iload_n 1, 1) := by decide +kernel
theorem dX10_layPages_116 : decode cX10_layPages 116 = .ok (.aload_n 0, 1) := by decide +kernel
theorem dX10_layPages_117 : decode cX10_layPages 117 = .ok (.getfield 42, 3) := by decide +kernel
theorem dX10_layPages_120 : decode cX10_layPages 120 = .ok (.iload 4, 2) := by decide +kernel
theorem dX10_layPages_122 : decode cX10_layPages 122 = .ok (.iaload, 1) := by decide +kernel
theorem dX10_layPages_123 : decode cX10_layPages 123 = .ok (.iastore, 1) := by decide +kernel
theorem dX10_layPages_124 : decode cX10_layPages 124 = .ok (.aload_n 0, 1) := by decide +kernel
theorem dX10_layPages_125 : decode cX10_layPages 125 = .ok (.getfield 42, 3) := by decide +kernel
theorem dX10_layPages_128 : decode cX10_layPages 128 = .ok (.iload 4, 2) := by decide +kernel
theorem dX10_layPages_130 : decode cX10_layPages 130 = .ok (.dup2, 1) := by decide +kernel
theorem dX10_layPages_131 : decode cX10_layPages 131 = .ok (.iaload, 1) := by decide +kernel
theorem dX10_layPages_132 : decode cX10_layPages 132 = .ok (.iload_n 2, 1) := by decide +kernel
theorem dX10_layPages_133 : decode cX10_layPages 133 = .ok (.iadd, 1) := by decide +kernel
theorem dX10_layPages_134 : decode cX10_layPages 134 = .ok (.iastore, 1) := by decide +kernel
theorem dX10_layPages_135 : decode cX10_layPages 135 = .ok (.aload_n 0, 1) := by decide +kernel
theorem dX10_layPages_136 : decode cX10_layPages 136 = .ok (.getfield 45, 3) := by decide +kernel
theorem dX10_layPages_139 : decode cX10_layPages 139 = .ok (.iload 4, 2) := by decide +kernel
theorem dX10_layPages_141 : decode cX10_layPages 141 = .ok (.dup2, 1) := by decide +kernel
theorem dX10_layPages_142 : decode cX10_layPages 142 = .ok (.iaload, 1) := by decide +kernel
theorem dX10_layPages_143 : decode cX10_layPages 143 = .ok (.iload_n 3, 1) := by decide +kernel
theorem dX10_layPages_144 : decode cX10_layPages 144 = .ok (.iadd, 1) := by decide +kernel
theorem dX10_layPages_145 : decode cX10_layPages 145 = .ok (.iastore, 1) := by decide +kernel
theorem dX10_layPages_146 : decode cX10_layPages 146 = .ok (.iinc 1 1, 3) := by decide +kernel
theorem dX10_layPages_149 : decode cX10_layPages 149 = .ok (.goto (-142), 3) := by decide +kernel
theorem dX10_layPages_152 : decode cX10_layPages 152 = .ok (.return_, 1) := by decide +kernel
set_option maxRecDepth 20000 in
theorem ggX10_page_X10_in : GoodIn wsX10_page wsX10_in := goodIn_r _ [9] (by decide +kernel) (by decide +kernel)
set_option maxRecDepth 20000 in
theorem gX10_page_X10_in : GoodIn wsX10_page (va_wsS RX10 48 yX10_in wsX10_in) := goodIn_app (goodIn_of _ (by decide +kernel)) ggX10_page_X10_in
set_option maxRecDepth 20000 in
theorem ggX10_page_X10_layPages : GoodIn wsX10_page wsX10_layPages := goodIn_r _ [13, 1, 4, 3, 5, 2, 14, 15, 16, 17, 8, 18, 19, 20, 21, 22, 23, 24, 25, 26, 27, 28, 29, 30, 31, 32, 33, 34, 35, 36, 37, 38, 39, 40, 41, 42, 43, 44, 45, 46, 47, 48, 49, 50, 51, 52, 53, 54, 55, 56, 57, 58, 59, 60, 61, 62, 63, 64, 65, 66, 67, 68, 69, 70, 71, 72, 73, 74, 75, 76, 77, 78, 79] (by decide +kernel) (by decide +kernel)
set_option maxRecDepth 20000 in
theorem gX10_page_X10_layPages : GoodIn wsX10_page (wsV RX10 183 RX10 yX10_layPages wsX10_layPages) := goodIn_app (goodIn_of _ (by decide +kernel)) ggX10_page_X10_layPages
set_option maxRecDepth 20000 in
theorem ggX10_page_X10_groups : GoodIn wsX10_page wsX10_groups := goodIn_r _ [18, 19, 57, 58, 59, 60, 61, 62, 63, 64, 65, 66, 67, 68, 69, 70, 71, 72, 73, 74, 75, 76, 77, 78, 79] (by decide +kernel) (by decide +kernel)
set_option maxRecDepth 20000 in
theorem gX10_page_X10_groups : GoodIn wsX10_page (wsV RX10 60 RX10 yX10_groups wsX10_groups) := goodIn_app (goodIn_of _ (by decide +kernel)) ggX10_page_X10_groups
set_option maxRecDepth 20000 in
theorem ggX10_page_X10_withLine : GoodIn wsX10_page wsX10_withLine := goodIn_r _ [56] (by decide +kernel) (by decide +kernel)
set_option maxRecDepth 20000 in
theorem gX10_page_X10_withLine : GoodIn wsX10_page (va_wsS RX10 180 yX10_withLine wsX10_withLine) := goodIn_app (goodIn_of _ (by decide +kernel)) ggX10_page_X10_withLine
theorem dX10_page_0 : decode cX10_page 0 = .ok (.iload_n 1, 1) := by decide +kernel
theorem dX10_page_1 : decode cX10_page 1 = .ok (.ifCond .lt 12, 3) := by decide +kernel
theorem dX10_page_4 : decode cX10_page 4 = .ok (.iload_n 2, 1) := by decide +kernel
theorem dX10_page_5 : decode cX10_page 5 = .ok (.iconst 0, 1) := by decide +kernel
theorem dX10_page_6 : decode cX10_page 6 = .ok (.iconst 4, 1) := by decide +kernel
theorem dX10_page_7 : decode cX10_page 7 = .ok (.invokestatic 48, 3) := by decide +kernel
theorem dX10_page_10 : decode cX10_page 10 = .ok (.ifCond .ne 6, 3) := by decide +kernel
theorem dX10_page_13 : decode cX10_page 13 = .ok (.bipush (-2), 2) := by decide +kernel
theorem dX10_page_15 : decode cX10_page 15 = .ok (.ireturn, 1) := by decide +kernel
theorem dX10_page_16 : decode cX10_page 16 = .ok (.aload_n 0, 1) := by decide +kernel
theorem dX10_page_17 : decode cX10_page 17 = .ok (.invokevirtual 183, 3) := by decide +kernel
theorem dX10_page_20 : decode cX10_page 20 = .ok (.iload_n 1, 1) := by decide +kernel
theorem dX10_page_21 : decode cX10_page 21 = .ok (.aload_n 0, 1) := by decide +kernel
theorem dX10_page_22 : decode cX10_page 22 = .ok (.getfield 171, 3) := by decide +kernel
theorem dX10_page_25 : decode cX10_page 25 = .ok (.if_icmp .lt 6, 3) := by decide +kernel
theorem dX10_page_28 : decode cX10_page 28 = .ok (.bipush (-5), 2) := by decide +kernel
theorem dX10_page_30 : decode cX10_page 30 = .ok (.ireturn, 1) := by decide +kernel
theorem dX10_page_31 : decode cX10_page 31 = .ok (.bipush (-5), 2) := by decide +kernel
theorem dX10_page_33 : decode cX10_page 33 = .ok (.istore_n 3, 1) := by decide +kernel
theorem dX10_page_34 : decode cX10_page 34 = .ok (.bipush (-5), 2) := by decide +kernel
theorem dX10_page_36 : decode cX10_page 36 = .ok (.istore 4, 2) := by decide +kernel
theorem dX10_page_38 : decode cX10_page 38 = .ok (.iconst 0, 1) := by decide +kernel
theorem dX10_page_39 : decode cX10_page 39 = .ok (.istore 5, 2) := by decide +kernel
theorem dX10_page_41 : decode cX10_page 41 = .ok (.iload 5, 2) := by decide +kernel
theorem dX10_page_43 : decode cX10_page 43 = .ok (.aload_n 0, 1) := by decide +kernel
theorem dX10_page_44 : decode cX10_page 44 = .ok (.invokevirtual 60, 3) := by decide +kernel
theorem dX10_page_47 : decode cX10_page 47 = .ok (.if_icmp .ge 51, 3) := by decide +kernel
theorem dX10_page_50 : decode cX10_page 50 = .ok (.aload_n 0, 1) := by decide +kernel
theorem dX10_page_51 : decode cX10_page 51 = .ok (.getfield 36, 3) := by decide +kernel
theorem dX10_page_54 : decode cX10_page 54 = .ok (.iload 5, 2) := by decide +kernel
theorem dX10_page_56 : decode cX10_page 56 = .ok (.iaload, 1) := by decide +kernel
theorem dX10_page_57 : decode cX10_page 57 = .ok (.iload_n 1, 1) := by decide +kernel
theorem dX10_page_58 : decode cX10_page 58 = .ok (.if_icmp .ne 12, 3) := by decide +kernel
theorem dX10_page_61 : decode cX10_page 61 = .ok (.iload_n 3, 1) := by decide +kernel
theorem dX10_page_62 : decode cX10_page 62 = .ok (.ifCond .ge 8, 3) := by decide +kernel
theorem dX10_page_65 : decode cX10_page 65 = .ok (.iload 5, 2) := by decide +kernel
theorem dX10_page_67 : decode cX10_page 67 = .ok (.goto 4, 3) := by decide +kernel
theorem dX10_page_70 : decode cX10_page 70 = .ok (.iload_n 3, 1) := by decide +kernel
theorem dX10_page_71 : decode cX10_page 71 = .ok (.istore_n 3, 1) := by decide +kernel
theorem dX10_page_72 : decode cX10_page 72 = .ok (.aload_n 0, 1) := by decide +kernel
theorem dX10_page_73 : decode cX10_page 73 = .ok (.getfield 36, 3) := by decide +kernel
theorem dX10_page_76 : decode cX10_page 76 = .ok (.iload 5, 2) := by decide +kernel
theorem dX10_page_78 : decode cX10_page 78 = .ok (.iaload, 1) := by decide +kernel
theorem dX10_page_79 : decode cX10_page 79 = .ok (.iload_n 1, 1) := by decide +kernel
theorem dX10_page_80 : decode cX10_page 80 = .ok (.if_icmp .ne 8, 3) := by decide +kernel
theorem dX10_page_83 : decode cX10_page 83 = .ok (.iload 5, 2) := by decide +kernel
theorem dX10_page_85 : decode cX10_page 85 = .ok (.goto 5, 3) := by decide +kernel
theorem dX10_page_88 : decode cX10_page 88 = .ok (.iload 4, 2) := by decide +kernel
theorem dX10_page_90 : decode cX10_page 90 = .ok (.istore 4, 2) := by decide +kernel
theorem dX10_page_92 : decode cX10_page 92 = .ok (.iinc 5 1, 3) := by decide +kernel
theorem dX10_page_95 : decode cX10_page 95 = .ok (.goto (-54), 3) := by decide +kernel
theorem dX10_page_98 : decode cX10_page 98 = .ok (.aload_n 0, 1) := by decide +kernel
theorem dX10_page_99 : decode cX10_page 99 = .ok (.getfield 45, 3) := by decide +kernel
theorem dX10_page_102 : decode cX10_page 102 = .ok (.iload_n 1, 1) := by decide +kernel
theorem dX10_page_103 : decode cX10_page 103 = .ok (.iaload, 1) := by decide +kernel
theorem dX10_page_104 : decode cX10_page 104 = .ok (.invokestatic 180, 3) := by decide +kernel
theorem dX10_page_107 : decode cX10_page 107 = .ok (.istore 5, 2) := by decide +kernel
theorem dX10_page_109 : decode cX10_page 109 = .ok (.iload_n 2, 1) := by decide +kernel
theorem dX10_page_110 : decode cX10_page 110 = .ok (.ifCond .ne 7, 3) := by decide +kernel
theorem dX10_page_113 : decode cX10_page 113 = .ok (.iload_n 3, 1) := by decide +kernel
theorem dX10_page_114 : decode cX10_page 114 = .ok (.goto 58, 3) := by decide +kernel
theorem dX10_page_117 : decode cX10_page 117 = .ok (.iload_n 2, 1) := by decide +kernel
theorem dX10_page_118 : decode cX10_page 118 = .ok (.iconst 1, 1) := by decide +kernel
theorem dX10_page_119 : decode cX10_page 119 = .ok (.if_icmp .ne 8, 3) := by decide +kernel
theorem dX10_page_122 : decode cX10_page 122 = .ok (.iload 4, 2) := by decide +kernel
theorem dX10_page_124 : decode cX10_page 124 = .ok (.goto 48, 3) := by decide +kernel
theorem dX10_page_127 : decode cX10_page 127 = .ok (.iload_n 2, 1) := by decide +kernel
theorem dX10_page_128 : decode cX10_page 128 = .ok (.iconst 2, 1) := by decide +kernel
theorem dX10_page_129 : decode cX10_page 129 = .ok (.if_icmp .ne 12, 3) := by decide +kernel
theorem dX10_page_132 : decode cX10_page 132 = .ok (.aload_n 0, 1) := by decide +kernel
theorem dX10_page_133 : decode cX10_page 133 = .ok (.getfield 42, 3) := by decide +kernel
theorem dX10_page_136 : decode cX10_page 136 = .ok (.iload_n 1, 1) := by decide +kernel
theorem dX10_page_137 : decode cX10_page 137 = .ok (.iaload, 1) := by decide +kernel
theorem dX10_page_138 : decode cX10_page 138 = .ok (.goto 34, 3) := by decide +kernel
theorem dX10_page_141 : decode cX10_page 141 = .ok (.iload_n 2, 1) := by decide +kernel
theorem dX10_page_142 : decode cX10_page 142 = .ok (.iconst 3, 1) := by decide +kernel
theorem dX10_page_143 : decode cX10_page 143 = .ok (.if_icmp .ne 8, 3) := by decide +kernel
theorem dX10_page_146 : decode cX10_page 146 = .ok (.iload 5, 2) := by decide +kernel
theorem dX10_page_148 : decode cX10_page 148 = .ok (.goto 24, 3) := by decide +kernel
theorem dX10_page_151 : decode cX10_page 151 = .ok (.aload_n 0, 1) := by decide +kernel
theorem dX10_page_152 : decode cX10_page 152 = .ok (.getfield 42, 3) := by decide +kernel
theorem dX10_page_155 : decode cX10_page 155 = .ok (.iload_n 1, 1) := by decide +kernel
theorem dX10_page_156 : decode cX10_page 156 = .ok (.iaload, 1) := by decide +kernel
theorem dX10_page_157 : decode cX10_page 157 = .ok (.iload 5, 2) := by decide +kernel
theorem dX10_page_159 : decode cX10_page 159 = .ok (.iadd, 1) := by decide +kernel
theorem dX10_page_160 : decode cX10_page 160 = .ok (.aload_n 0, 1) := by decide +kernel
theorem dX10_page_161 : decode cX10_page 161 = .ok (.getfield 29, 3) := by decide +kernel
theorem dX10_page_164 : decode cX10_page 164 = .ok (.if_icmp .le 7, 3) := by decide +kernel
theorem dX10_page_167 : decode cX10_page 167 = .ok (.iconst 1, 1) := by decide +kernel
theorem dX10_page_168 : decode cX10_page 168 = .ok (.goto 4, 3) := by decide +kernel
theorem dX10_page_171 : decode cX10_page 171 = .ok (.iconst 0, 1) := by decide +kernel
theorem dX10_page_172 : decode cX10_page 172 = .ok (.ireturn, 1) := by decide +kernel
set_option maxRecDepth 20000 in
theorem ggX10_chapter_X10_noBook : GoodIn wsX10_chapter wsX10_noBook := goodIn_r _ [5, 6, 7, 4, 8] (by decide +kernel) (by decide +kernel)
set_option maxRecDepth 20000 in
theorem gX10_chapter_X10_noBook : GoodIn wsX10_chapter (va_wsS RX10 52 yX10_noBook wsX10_noBook) := goodIn_app (goodIn_of _ (by decide +kernel)) ggX10_chapter_X10_noBook
set_option maxRecDepth 20000 in
theorem ggX10_chapter_X10_in : GoodIn wsX10_chapter wsX10_in := goodIn_r _ [8] (by decide +kernel) (by decide +kernel)
set_option maxRecDepth 20000 in
theorem gX10_chapter_X10_in : GoodIn wsX10_chapter (va_wsS RX10 48 yX10_in wsX10_in) := goodIn_app (goodIn_of _ (by decide +kernel)) ggX10_chapter_X10_in
set_option maxRecDepth 20000 in
theorem ggX10_chapter_X10_size : GoodIn wsX10_chapter wsX10_size := goodIn_r _ [12, 1, 25, 26, 27, 28, 29, 30, 31, 32, 33, 34, 35, 36, 37, 38, 39, 40, 41, 42, 43, 44, 45, 46, 47] (by decide +kernel) (by decide +kernel)
set_option maxRecDepth 20000 in
theorem gX10_chapter_X10_size : GoodIn wsX10_chapter (wsV RX10 56 RX10 yX10_size wsX10_size) := goodIn_app (goodIn_of _ (by decide +kernel)) ggX10_chapter_X10_size
set_option maxRecDepth 20000 in
theorem ggX10_chapter_X10_chapterOf : GoodIn wsX10_chapter wsX10_chapterOf := goodIn_r _ [16, 1, 25, 26, 27, 28, 29, 30, 31, 32, 33, 34, 35, 36, 37, 38, 39, 40, 41, 42, 43, 44, 45, 46, 47] (by decide +kernel) (by decide +kernel)
set_option maxRecDepth 20000 in
theorem gX10_chapter_X10_chapterOf : GoodIn wsX10_chapter (wsV RX10 82 RX10 yX10_chapterOf wsX10_chapterOf) := goodIn_app (goodIn_of _ (by decide +kernel)) ggX10_chapter_X10_chapterOf
set_option maxRecDepth 20000 in
theorem ggX10_chapter_X10_firstOf : GoodIn wsX10_chapter wsX10_firstOf := goodIn_r _ [20, 13, 14, 15, 4, 16, 1, 25, 26, 27, 28, 29, 30, 31, 32, 33, 34, 35, 36, 37, 38, 39, 40, 41, 42, 43, 44, 45, 46, 47] (by decide +kernel) (by decide +kernel)
set_option maxRecDepth 20000 in
theorem gX10_chapter_X10_firstOf : GoodIn wsX10_chapter (wsV RX10 146 RX10 yX10_firstOf wsX10_firstOf) := goodIn_app (goodIn_of _ (by decide +kernel)) ggX10_chapter_X10_firstOf
set_option maxRecDepth 20000 in
theorem ggX10_chapter_X10_versesOf : GoodIn wsX10_chapter wsX10_versesOf := goodIn_r _ [24, 9, 10, 11, 4, 12, 1, 13, 14, 15, 16, 25, 26, 27, 28, 29, 30, 31, 32, 33, 34, 35, 36, 37, 38, 39, 40, 41, 42, 43, 44, 45, 46, 47] (by decide +kernel) (by decide +kernel)
set_option maxRecDepth 20000 in
theorem gX10_chapter_X10_versesOf : GoodIn wsX10_chapter (wsV RX10 143 RX10 yX10_versesOf wsX10_versesOf) := goodIn_app (goodIn_of _ (by decide +kernel)) ggX10_chapter_X10_versesOf
theorem dX10_chapter_0 : decode cX10_chapter 0 = .ok (.iload_n 1, 1) := by decide +kernel
theorem dX10_chapter_1 : decode cX10_chapter 1 = .ok (.invokestatic 52, 3) := by decide +kernel
theorem dX10_chapter_4 : decode cX10_chapter 4 = .ok (.ifCond .ne 21, 3) := by decide +kernel
theorem dX10_chapter_7 : decode cX10_chapter 7 = .ok (.iload_n 2, 1) := by decide +kernel
theorem dX10_chapter_8 : decode cX10_chapter 8 = .ok (.iconst 1, 1) := by decide +kernel
theorem dX10_chapter_9 : decode cX10_chapter 9 = .ok (.aload_n 0, 1) := by decide +kernel
theorem dX10_chapter_10 : decode cX10_chapter 10 = .ok (.getfield 7, 3) := by decide +kernel
theorem dX10_chapter_13 : decode cX10_chapter 13 = .ok (.sipush 362, 3) := by decide +kernel
theorem dX10_chapter_16 : decode cX10_chapter 16 = .ok (.iload_n 1, 1) := by decide +kernel
theorem dX10_chapter_17 : decode cX10_chapter 17 = .ok (.iadd, 1) := by decide +kernel
theorem dX10_chapter_18 : decode cX10_chapter 18 = .ok (.iaload, 1) := by decide +kernel
theorem dX10_chapter_19 : decode cX10_chapter 19 = .ok (.invokestatic 48, 3) := by decide +kernel
theorem dX10_chapter_22 : decode cX10_chapter 22 = .ok (.ifCond .ne 5, 3) := by decide +kernel
theorem dX10_chapter_25 : decode cX10_chapter 25 = .ok (.iconst (-1), 1) := by decide +kernel
theorem dX10_chapter_26 : decode cX10_chapter 26 = .ok (.ireturn, 1) := by decide +kernel
theorem dX10_chapter_27 : decode cX10_chapter 27 = .ok (.iconst 0, 1) := by decide +kernel
theorem dX10_chapter_28 : decode cX10_chapter 28 = .ok (.istore 4, 2) := by decide +kernel
theorem dX10_chapter_30 : decode cX10_chapter 30 = .ok (.iconst 0, 1) := by decide +kernel
theorem dX10_chapter_31 : decode cX10_chapter 31 = .ok (.istore 5, 2) := by decide +kernel
theorem dX10_chapter_33 : decode cX10_chapter 33 = .ok (.iload 5, 2) := by decide +kernel
theorem dX10_chapter_35 : decode cX10_chapter 35 = .ok (.aload_n 0, 1) := by decide +kernel
theorem dX10_chapter_36 : decode cX10_chapter 36 = .ok (.iload_n 1, 1) := by decide +kernel
theorem dX10_chapter_37 : decode cX10_chapter 37 = .ok (.invokevirtual 56, 3) := by decide +kernel
theorem dX10_chapter_40 : decode cX10_chapter 40 = .ok (.if_icmp .ge 41, 3) := by decide +kernel
theorem dX10_chapter_43 : decode cX10_chapter 43 = .ok (.iload 4, 2) := by decide +kernel
theorem dX10_chapter_45 : decode cX10_chapter 45 = .ok (.aload_n 0, 1) := by decide +kernel
theorem dX10_chapter_46 : decode cX10_chapter 46 = .ok (.iload_n 1, 1) := by decide +kernel
theorem dX10_chapter_47 : decode cX10_chapter 47 = .ok (.iload 5, 2) := by decide +kernel
theorem dX10_chapter_49 : decode cX10_chapter 49 = .ok (.invokevirtual 82, 3) := by decide +kernel
theorem dX10_chapter_52 : decode cX10_chapter 52 = .ok (.iload_n 2, 1) := by decide +kernel
theorem dX10_chapter_53 : decode cX10_chapter 53 = .ok (.if_icmp .ne 18, 3) := by decide +kernel
theorem dX10_chapter_56 : decode cX10_chapter 56 = .ok (.aload_n 0, 1) := by decide +kernel
theorem dX10_chapter_57 : decode cX10_chapter 57 = .ok (.getfield 7, 3) := by decide +kernel
theorem dX10_chapter_60 : decode cX10_chapter 60 = .ok (.bipush 60, 2) := by decide +kernel
theorem dX10_chapter_62 : decode cX10_chapter 62 = .ok (.iload_n 1, 1) := by decide +kernel
theorem dX10_chapter_63 : decode cX10_chapter 63 = .ok (.imul, 1) := by decide +kernel
theorem dX10_chapter_64 : decode cX10_chapter 64 = .ok (.iload 5, 2) := by decide +kernel
theorem dX10_chapter_66 : decode cX10_chapter 66 = .ok (.iadd, 1) := by decide +kernel
theorem dX10_chapter_67 : decode cX10_chapter 67 = .ok (.iaload, 1) := by decide +kernel
theorem dX10_chapter_68 : decode cX10_chapter 68 = .ok (.goto 4, 3) := by decide +kernel
theorem dX10_chapter_71 : decode cX10_chapter 71 = .ok (.iconst 0, 1) := by decide +kernel
theorem dX10_chapter_72 : decode cX10_chapter 72 = .ok (.iadd, 1) := by decide +kernel
theorem dX10_chapter_73 : decode cX10_chapter 73 = .ok (.istore 4, 2) := by decide +kernel
theorem dX10_chapter_75 : decode cX10_chapter 75 = .ok (.iinc 5 1, 3) := by decide +kernel
theorem dX10_chapter_78 : decode cX10_chapter 78 = .ok (.goto (-45), 3) := by decide +kernel
theorem dX10_chapter_81 : decode cX10_chapter 81 = .ok (.iload_n 3, 1) := by decide +kernel
theorem dX10_chapter_82 : decode cX10_chapter 82 = .ok (.tableswitch 43 0 2 #[26, 33, 40], 26) := by decide +kernel
theorem dX10_chapter_108 : decode cX10_chapter 108 = .ok (.aload_n 0, 1) := by decide +kernel
theorem dX10_chapter_109 : decode cX10_chapter 109 = .ok (.iload_n 1, 1) := by decide +kernel
theorem dX10_chapter_110 : decode cX10_chapter 110 = .ok (.iload_n 2, 1) := by decide +kernel
theorem dX10_chapter_111 : decode cX10_chapter 111 = .ok (.invokevirtual 146, 3) := by decide +kernel
theorem dX10_chapter_114 : decode cX10_chapter 114 = .ok (.ireturn, 1) := by decide +kernel
theorem dX10_chapter_115 : decode cX10_chapter 115 = .ok (.aload_n 0, 1) := by decide +kernel
theorem dX10_chapter_116 : decode cX10_chapter 116 = .ok (.iload_n 1, 1) := by decide +kernel
theorem dX10_chapter_117 : decode cX10_chapter 117 = .ok (.iload_n 2, 1) := by decide +kernel
theorem dX10_chapter_118 : decode cX10_chapter 118 = .ok (.invokevirtual 143, 3) := by decide +kernel
theorem dX10_chapter_121 : decode cX10_chapter 121 = .ok (.ireturn, 1) := by decide +kernel
theorem dX10_chapter_122 : decode cX10_chapter 122 = .ok (.iload 4, 2) := by decide +kernel
theorem dX10_chapter_124 : decode cX10_chapter 124 = .ok (.ireturn, 1) := by decide +kernel
theorem dX10_chapter_125 : decode cX10_chapter 125 = .ok (.bipush (-2), 2) := by decide +kernel
theorem dX10_chapter_127 : decode cX10_chapter 127 = .ok (.ireturn, 1) := by decide +kernel
set_option maxRecDepth 20000 in
theorem ggX10_verse_X10_noVerse : GoodIn wsX10_verse wsX10_noVerse := goodIn_r _ [6, 7, 8, 5, 9, 10, 11, 12, 13, 14, 15, 16, 1, 34, 35, 36, 37, 38, 39, 40, 41, 42, 43, 44, 45, 46, 47, 48, 49, 50, 51, 52, 53, 54, 55, 56] (by decide +kernel) (by decide +kernel)
set_option maxRecDepth 20000 in
theorem gX10_verse_X10_noVerse : GoodIn wsX10_verse (wsV RX10 74 RX10 yX10_noVerse wsX10_noVerse) := goodIn_app (goodIn_of _ (by decide +kernel)) ggX10_verse_X10_noVerse
set_option maxRecDepth 20000 in
theorem ggX10_verse_X10_chapterOf : GoodIn wsX10_verse wsX10_chapterOf := goodIn_r _ [20, 1, 34, 35, 36, 37, 38, 39, 40, 41, 42, 43, 44, 45, 46, 47, 48, 49, 50, 51, 52, 53, 54, 55, 56] (by decide +kernel) (by decide +kernel)
set_option maxRecDepth 20000 in
theorem gX10_verse_X10_chapterOf : GoodIn wsX10_verse (wsV RX10 82 RX10 yX10_chapterOf wsX10_chapterOf) := goodIn_app (goodIn_of _ (by decide +kernel)) ggX10_verse_X10_chapterOf
set_option maxRecDepth 20000 in
theorem ggX10_verse_X10_firstOf : GoodIn wsX10_verse wsX10_firstOf := goodIn_r _ [24, 17, 18, 19, 5, 20, 1, 34, 35, 36, 37, 38, 39, 40, 41, 42, 43, 44, 45, 46, 47, 48, 49, 50, 51, 52, 53, 54, 55, 56] (by decide +kernel) (by decide +kernel)
set_option maxRecDepth 20000 in
theorem gX10_verse_X10_firstOf : GoodIn wsX10_verse (wsV RX10 146 RX10 yX10_firstOf wsX10_firstOf) := goodIn_app (goodIn_of _ (by decide +kernel)) ggX10_verse_X10_firstOf
set_option maxRecDepth 20000 in
theorem ggX10_verse_X10_linesOf : GoodIn wsX10_verse wsX10_linesOf := goodIn_r _ [28, 1, 29, 30, 31, 5, 32, 33, 34, 35, 36, 37, 38, 39, 40, 41, 42, 43, 44, 45, 46, 47, 48, 49, 50, 51, 52, 53, 54, 55, 56] (by decide +kernel) (by decide +kernel)
set_option maxRecDepth 20000 in
theorem gX10_verse_X10_linesOf : GoodIn wsX10_verse (wsV RX10 165 RX10 yX10_linesOf wsX10_linesOf) := goodIn_app (goodIn_of _ (by decide +kernel)) ggX10_verse_X10_linesOf
theorem dX10_verse_0 : decode cX10_verse 0 = .ok (.aload_n 0, 1) := by decide +kernel
theorem dX10_verse_1 : decode cX10_verse 1 = .ok (.iload_n 1, 1) := by decide +kernel
theorem dX10_verse_2 : decode cX10_verse 2 = .ok (.iload_n 2, 1) := by decide +kernel
theorem dX10_verse_3 : decode cX10_verse 3 = .ok (.invokevirtual 74, 3) := by decide +kernel
theorem dX10_verse_6 : decode cX10_verse 6 = .ok (.ifCond .eq 5, 3) := by decide +kernel
theorem dX10_verse_9 : decode cX10_verse 9 = .ok (.iconst (-1), 1) := by decide +kernel
theorem dX10_verse_10 : decode cX10_verse 10 = .ok (.ireturn, 1) := by decide +kernel
theorem dX10_verse_11 : decode cX10_verse 11 = .ok (.bipush 60, 2) := by decide +kernel
theorem dX10_verse_13 : decode cX10_verse 13 = .ok (.iload_n 1, 1) := by decide +kernel
theorem dX10_verse_14 : decode cX10_verse 14 = .ok (.imul, 1) := by decide +kernel
theorem dX10_verse_15 : decode cX10_verse 15 = .ok (.iload_n 2, 1) := by decide +kernel
theorem dX10_verse_16 : decode cX10_verse 16 = .ok (.iadd, 1) := by decide +kernel
theorem dX10_verse_17 : decode cX10_verse 17 = .ok (.istore 4, 2) := by decide +kernel
theorem dX10_verse_19 : decode cX10_verse 19 = .ok (.iload_n 3, 1) := by decide +kernel
theorem dX10_verse_20 : decode cX10_verse 20 = .ok (.tableswitch 85 0 4 #[36, 43, 59, 67, 78], 36) := by decide +kernel
theorem dX10_verse_56 : decode cX10_verse 56 = .ok (.aload_n 0, 1) := by decide +kernel
theorem dX10_verse_57 : decode cX10_verse 57 = .ok (.iload_n 1, 1) := by decide +kernel
theorem dX10_verse_58 : decode cX10_verse 58 = .ok (.iload_n 2, 1) := by decide +kernel
theorem dX10_verse_59 : decode cX10_verse 59 = .ok (.invokevirtual 82, 3) := by decide +kernel
theorem dX10_verse_62 : decode cX10_verse 62 = .ok (.ireturn, 1) := by decide +kernel
theorem dX10_verse_63 : decode cX10_verse 63 = .ok (.iload_n 2, 1) := by decide +kernel
theorem dX10_verse_64 : decode cX10_verse 64 = .ok (.aload_n 0, 1) := by decide +kernel
theorem dX10_verse_65 : decode cX10_verse 65 = .ok (.iload_n 1, 1) := by decide +kernel
theorem dX10_verse_66 : decode cX10_verse 66 = .ok (.aload_n 0, 1) := by decide +kernel
theorem dX10_verse_67 : decode cX10_verse 67 = .ok (.iload_n 1, 1) := by decide +kernel
theorem dX10_verse_68 : decode cX10_verse 68 = .ok (.iload_n 2, 1) := by decide +kernel
theorem dX10_verse_69 : decode cX10_verse 69 = .ok (.invokevirtual 82, 3) := by decide +kernel
theorem dX10_verse_72 : decode cX10_verse 72 = .ok (.invokevirtual 146, 3) := by decide +kernel
theorem dX10_verse_75 : decode cX10_verse 75 = .ok (.isub, 1) := by decide +kernel
theorem dX10_verse_76 : decode cX10_verse 76 = .ok (.iconst 1, 1) := by decide +kernel
theorem dX10_verse_77 : decode cX10_verse 77 = .ok (.iadd, 1) := by decide +kernel
theorem dX10_verse_78 : decode cX10_verse 78 = .ok (.ireturn, 1) := by decide +kernel
theorem dX10_verse_79 : decode cX10_verse 79 = .ok (.aload_n 0, 1) := by decide +kernel
theorem dX10_verse_80 : decode cX10_verse 80 = .ok (.getfield 7, 3) := by decide +kernel
theorem dX10_verse_83 : decode cX10_verse 83 = .ok (.iload 4, 2) := by decide +kernel
theorem dX10_verse_85 : decode cX10_verse 85 = .ok (.iaload, 1) := by decide +kernel
theorem dX10_verse_86 : decode cX10_verse 86 = .ok (.ireturn, 1) := by decide +kernel
theorem dX10_verse_87 : decode cX10_verse 87 = .ok (.aload_n 0, 1) := by decide +kernel
theorem dX10_verse_88 : decode cX10_verse 88 = .ok (.getfield 7, 3) := by decide +kernel
theorem dX10_verse_91 : decode cX10_verse 91 = .ok (.bipush 120, 2) := by decide +kernel
theorem dX10_verse_93 : decode cX10_verse 93 = .ok (.iload 4, 2) := by decide +kernel
theorem dX10_verse_95 : decode cX10_verse 95 = .ok (.iadd, 1) := by decide +kernel
theorem dX10_verse_96 : decode cX10_verse 96 = .ok (.iaload, 1) := by decide +kernel
theorem dX10_verse_97 : decode cX10_verse 97 = .ok (.ireturn, 1) := by decide +kernel
theorem dX10_verse_98 : decode cX10_verse 98 = .ok (.aload_n 0, 1) := by decide +kernel
theorem dX10_verse_99 : decode cX10_verse 99 = .ok (.iload_n 1, 1) := by decide +kernel
theorem dX10_verse_100 : decode cX10_verse 100 = .ok (.iload_n 2, 1) := by decide +kernel
theorem dX10_verse_101 : decode cX10_verse 101 = .ok (.invokevirtual 165, 3) := by decide +kernel
theorem dX10_verse_104 : decode cX10_verse 104 = .ok (.ireturn, 1) := by decide +kernel
theorem dX10_verse_105 : decode cX10_verse 105 = .ok (.bipush (-2), 2) := by decide +kernel
theorem dX10_verse_107 : decode cX10_verse 107 = .ok (.ireturn, 1) := by decide +kernel
set_option maxRecDepth 20000 in
theorem ggX10_kind_X10_has : GoodIn wsX10_kind wsX10_has := goodIn_r _ [5, 6, 7, 8, 9, 10, 11, 12, 13, 14, 15, 16, 17, 18, 19, 20, 21, 22, 23, 24, 25, 26, 27, 28, 29] (by decide +kernel) (by decide +kernel)
set_option maxRecDepth 20000 in
theorem gX10_kind_X10_has : GoodIn wsX10_kind (wsV RX10 78 RX10 yX10_has wsX10_has) := goodIn_app (goodIn_of _ (by decide +kernel)) ggX10_kind_X10_has
theorem dX10_kind_0 : decode cX10_kind 0 = .ok (.aload_n 0, 1) := by decide +kernel
theorem dX10_kind_1 : decode cX10_kind 1 = .ok (.iload_n 1, 1) := by decide +kernel
theorem dX10_kind_2 : decode cX10_kind 2 = .ok (.iconst 0, 1) := by decide +kernel
theorem dX10_kind_3 : decode cX10_kind 3 = .ok (.invokevirtual 78, 3) := by decide +kernel
theorem dX10_kind_6 : decode cX10_kind 6 = .ok (.istore_n 2, 1) := by decide +kernel
theorem dX10_kind_7 : decode cX10_kind 7 = .ok (.aload_n 0, 1) := by decide +kernel
theorem dX10_kind_8 : decode cX10_kind 8 = .ok (.iload_n 1, 1) := by decide +kernel
theorem dX10_kind_9 : decode cX10_kind 9 = .ok (.iconst 1, 1) := by decide +kernel
theorem dX10_kind_10 : decode cX10_kind 10 = .ok (.invokevirtual 78, 3) := by decide +kernel
theorem dX10_kind_13 : decode cX10_kind 13 = .ok (.istore_n 3, 1) := by decide +kernel
theorem dX10_kind_14 : decode cX10_kind 14 = .ok (.iload_n 3, 1) := by decide +kernel
theorem dX10_kind_15 : decode cX10_kind 15 = .ok (.ifCond .ne 7, 3) := by decide +kernel
theorem dX10_kind_18 : decode cX10_kind 18 = .ok (.iconst 1, 1) := by decide +kernel
theorem dX10_kind_19 : decode cX10_kind 19 = .ok (.goto 26, 3) := by decide +kernel
theorem dX10_kind_22 : decode cX10_kind 22 = .ok (.iload_n 2, 1) := by decide +kernel
theorem dX10_kind_23 : decode cX10_kind 23 = .ok (.ifCond .ne 7, 3) := by decide +kernel
theorem dX10_kind_26 : decode cX10_kind 26 = .ok (.iconst 2, 1) := by decide +kernel
theorem dX10_kind_27 : decode cX10_kind 27 = .ok (.goto 18, 3) := by decide +kernel
theorem dX10_kind_30 : decode cX10_kind 30 = .ok (.iload_n 2, 1) := by decide +kernel
theorem dX10_kind_31 : decode cX10_kind 31 = .ok (.iconst 1, 1) := by decide +kernel
theorem dX10_kind_32 : decode cX10_kind 32 = .ok (.if_icmp .ne 12, 3) := by decide +kernel
theorem dX10_kind_35 : decode cX10_kind 35 = .ok (.iload_n 3, 1) := by decide +kernel
theorem dX10_kind_36 : decode cX10_kind 36 = .ok (.iconst 1, 1) := by decide +kernel
theorem dX10_kind_37 : decode cX10_kind 37 = .ok (.if_icmp .ne 7, 3) := by decide +kernel
theorem dX10_kind_40 : decode cX10_kind 40 = .ok (.iconst 0, 1) := by decide +kernel
theorem dX10_kind_41 : decode cX10_kind 41 = .ok (.goto 4, 3) := by decide +kernel
theorem dX10_kind_44 : decode cX10_kind 44 = .ok (.iconst 3, 1) := by decide +kernel
theorem dX10_kind_45 : decode cX10_kind 45 = .ok (.ireturn, 1) := by decide +kernel
set_option maxRecDepth 20000 in
theorem ggX10_group_X10_noGroup : GoodIn wsX10_group wsX10_noGroup := goodIn_r _ [7, 8, 9, 10, 6, 11, 12, 13, 14, 15, 65, 66, 67, 68, 69, 70, 71, 72, 73, 74, 75, 76, 77, 78, 79, 80, 81, 82, 83, 84, 85, 86, 87] (by decide +kernel) (by decide +kernel)
set_option maxRecDepth 20000 in
theorem gX10_group_X10_noGroup : GoodIn wsX10_group (wsV RX10 94 RX10 yX10_noGroup wsX10_noGroup) := goodIn_app (goodIn_of _ (by decide +kernel)) ggX10_group_X10_noGroup
set_option maxRecDepth 20000 in
theorem ggX10_group_X10_layPages : GoodIn wsX10_group wsX10_layPages := goodIn_r _ [19, 20, 21, 22, 23, 1, 2, 8, 9, 10, 6, 11, 12, 24, 25, 26, 27, 28, 29, 30, 31, 32, 33, 34, 35, 36, 37, 38, 39, 40, 41, 42, 43, 44, 45, 46, 47, 48, 49, 50, 51, 52, 53, 54, 55, 56, 57, 58, 59, 60, 65, 66, 67, 68, 69, 70, 71, 72, 73, 74, 75, 76, 77, 78, 79, 80, 81, 82, 83, 84, 85, 86, 87] (by decide +kernel) (by decide +kernel)
set_option maxRecDepth 20000 in
theorem gX10_group_X10_layPages : GoodIn wsX10_group (wsV RX10 183 RX10 yX10_layPages wsX10_layPages) := goodIn_app (goodIn_of _ (by decide +kernel)) ggX10_group_X10_layPages
set_option maxRecDepth 20000 in
theorem ggX10_group_X10_kind : GoodIn wsX10_group wsX10_kind := goodIn_r _ [64, 37, 38, 39, 6, 40, 12, 65, 66, 67, 68, 69, 70, 71, 72, 73, 74, 75, 76, 77, 78, 79, 80, 81, 82, 83, 84, 85, 86, 87] (by decide +kernel) (by decide +kernel)
set_option maxRecDepth 20000 in
theorem gX10_group_X10_kind : GoodIn wsX10_group (wsV RX10 186 RX10 yX10_kind wsX10_kind) := goodIn_app (goodIn_of _ (by decide +kernel)) ggX10_group_X10_kind
set_option maxRecDepth 20000 in
theorem ggX10_group_X10_has : GoodIn wsX10_group wsX10_has := goodIn_r _ [40, 12, 65, 66, 67, 68, 69, 70, 71, 72, 73, 74, 75, 76, 77, 78, 79, 80, 81, 82, 83, 84, 85, 86, 87] (by decide +kernel) (by decide +kernel)
set_option maxRecDepth 20000 in
theorem gX10_group_X10_has : GoodIn wsX10_group (wsV RX10 78 RX10 yX10_has wsX10_has) := goodIn_app (goodIn_of _ (by decide +kernel)) ggX10_group_X10_has
set_option maxRecDepth 20000 in
theorem ggX10_group_X10_firstIn : GoodIn wsX10_group wsX10_firstIn := goodIn_r _ [36, 37, 38, 39, 6, 40, 12, 65, 66, 67, 68, 69, 70, 71, 72, 73, 74, 75, 76, 77, 78, 79, 80, 81, 82, 83, 84, 85, 86, 87] (by decide +kernel) (by decide +kernel)
set_option maxRecDepth 20000 in
theorem gX10_group_X10_firstIn : GoodIn wsX10_group (wsV RX10 159 RX10 yX10_firstIn wsX10_firstIn) := goodIn_app (goodIn_of _ (by decide +kernel)) ggX10_group_X10_firstIn
set_option maxRecDepth 20000 in
theorem ggX10_group_X10_heightOf : GoodIn wsX10_group wsX10_heightOf := goodIn_r _ [27, 28, 29, 30, 6, 31, 32, 33, 34, 35, 36, 37, 38, 39, 40, 12, 41, 42, 43, 44, 45, 46, 47, 48, 49, 50, 51, 52, 53, 65, 66, 67, 68, 69, 70, 71, 72, 73, 74, 75, 76, 77, 78, 79, 80, 81, 82, 83, 84, 85, 86, 87] (by decide +kernel) (by decide +kernel)
set_option maxRecDepth 20000 in
theorem gX10_group_X10_heightOf : GoodIn wsX10_group (wsV RX10 174 RX10 yX10_heightOf wsX10_heightOf) := goodIn_app (goodIn_of _ (by decide +kernel)) ggX10_group_X10_heightOf
set_option maxRecDepth 20000 in
theorem ggX10_group_X10_notesOf : GoodIn wsX10_group wsX10_notesOf := goodIn_r _ [57, 12, 33, 34, 35, 6, 36, 37, 38, 39, 40, 65, 66, 67, 68, 69, 70, 71, 72, 73, 74, 75, 76, 77, 78, 79, 80, 81, 82, 83, 84, 85, 86, 87] (by decide +kernel) (by decide +kernel)
set_option maxRecDepth 20000 in
theorem gX10_group_X10_notesOf : GoodIn wsX10_group (wsV RX10 177 RX10 yX10_notesOf wsX10_notesOf) := goodIn_app (goodIn_of _ (by decide +kernel)) ggX10_group_X10_notesOf
theorem dX10_group_0 : decode cX10_group 0 = .ok (.aload_n 0, 1) := by decide +kernel
theorem dX10_group_1 : decode cX10_group 1 = .ok (.iload_n 1, 1) := by decide +kernel
theorem dX10_group_2 : decode cX10_group 2 = .ok (.invokevirtual 94, 3) := by decide +kernel
theorem dX10_group_5 : decode cX10_group 5 = .ok (.ifCond .eq 5, 3) := by decide +kernel
theorem dX10_group_8 : decode cX10_group 8 = .ok (.iconst (-1), 1) := by decide +kernel
theorem dX10_group_9 : decode cX10_group 9 = .ok (.ireturn, 1) := by decide +kernel
theorem dX10_group_10 : decode cX10_group 10 = .ok (.aload_n 0, 1) := by decide +kernel
theorem dX10_group_11 : decode cX10_group 11 = .ok (.invokevirtual 183, 3) := by decide +kernel
theorem dX10_group_14 : decode cX10_group 14 = .ok (.iload_n 2, 1) := by decide +kernel
theorem dX10_group_15 : decode cX10_group 15 = .ok (.tableswitch 137 0 8 #[49, 55, 76, 83, 104, 111, 117, 124, 131], 49) := by decide +kernel
theorem dX10_group_64 : decode cX10_group 64 = .ok (.aload_n 0, 1) := by decide +kernel
theorem dX10_group_65 : decode cX10_group 65 = .ok (.iload_n 1, 1) := by decide +kernel
theorem dX10_group_66 : decode cX10_group 66 = .ok (.invokevirtual 186, 3) := by decide +kernel
theorem dX10_group_69 : decode cX10_group 69 = .ok (.ireturn, 1) := by decide +kernel
theorem dX10_group_70 : decode cX10_group 70 = .ok (.aload_n 0, 1) := by decide +kernel
theorem dX10_group_71 : decode cX10_group 71 = .ok (.iload_n 1, 1) := by decide +kernel
theorem dX10_group_72 : decode cX10_group 72 = .ok (.iconst 0, 1) := by decide +kernel
theorem dX10_group_73 : decode cX10_group 73 = .ok (.invokevirtual 78, 3) := by decide +kernel
theorem dX10_group_76 : decode cX10_group 76 = .ok (.ifCond .ne 8, 3) := by decide +kernel
theorem dX10_group_79 : decode cX10_group 79 = .ok (.bipush (-5), 2) := by decide +kernel
theorem dX10_group_81 : decode cX10_group 81 = .ok (.goto 9, 3) := by decide +kernel
theorem dX10_group_84 : decode cX10_group 84 = .ok (.aload_n 0, 1) := by decide +kernel
theorem dX10_group_85 : decode cX10_group 85 = .ok (.iload_n 1, 1) := by decide +kernel
theorem dX10_group_86 : decode cX10_group 86 = .ok (.iconst 0, 1) := by decide +kernel
theorem dX10_group_87 : decode cX10_group 87 = .ok (.invokevirtual 159, 3) := by decide +kernel
theorem dX10_group_90 : decode cX10_group 90 = .ok (.ireturn, 1) := by decide +kernel
theorem dX10_group_91 : decode cX10_group 91 = .ok (.aload_n 0, 1) := by decide +kernel
theorem dX10_group_92 : decode cX10_group 92 = .ok (.iload_n 1, 1) := by decide +kernel
theorem dX10_group_93 : decode cX10_group 93 = .ok (.iconst 0, 1) := by decide +kernel
theorem dX10_group_94 : decode cX10_group 94 = .ok (.invokevirtual 78, 3) := by decide +kernel
theorem dX10_group_97 : decode cX10_group 97 = .ok (.ireturn, 1) := by decide +kernel
theorem dX10_group_98 : decode cX10_group 98 = .ok (.aload_n 0, 1) := by decide +kernel
theorem dX10_group_99 : decode cX10_group 99 = .ok (.iload_n 1, 1) := by decide +kernel
theorem dX10_group_100 : decode cX10_group 100 = .ok (.iconst 1, 1) := by decide +kernel
theorem dX10_group_101 : decode cX10_group 101 = .ok (.invokevirtual 78, 3) := by decide +kernel
theorem dX10_group_104 : decode cX10_group 104 = .ok (.ifCond .ne 8, 3) := by decide +kernel
theorem dX10_group_107 : decode cX10_group 107 = .ok (.bipush (-5), 2) := by decide +kernel
theorem dX10_group_109 : decode cX10_group 109 = .ok (.goto 9, 3) := by decide +kernel
theorem dX10_group_112 : decode cX10_group 112 = .ok (.aload_n 0, 1) := by decide +kernel
theorem dX10_group_113 : decode cX10_group 113 = .ok (.iload_n 1, 1) := by decide +kernel
theorem dX10_group_114 : decode cX10_group 114 = .ok (.iconst 1, 1) := by decide +kernel
theorem dX10_group_115 : decode cX10_group 115 = .ok (.invokevirtual 159, 3) := by decide +kernel
theorem dX10_group_118 : decode cX10_group 118 = .ok (.ireturn, 1) := by decide +kernel
theorem dX10_group_119 : decode cX10_group 119 = .ok (.aload_n 0, 1) := by decide +kernel
theorem dX10_group_120 : decode cX10_group 120 = .ok (.iload_n 1, 1) := by decide +kernel
theorem dX10_group_121 : decode cX10_group 121 = .ok (.iconst 1, 1) := by decide +kernel
theorem dX10_group_122 : decode cX10_group 122 = .ok (.invokevirtual 78, 3) := by decide +kernel
theorem dX10_group_125 : decode cX10_group 125 = .ok (.ireturn, 1) := by decide +kernel
theorem dX10_group_126 : decode cX10_group 126 = .ok (.aload_n 0, 1) := by decide +kernel
theorem dX10_group_127 : decode cX10_group 127 = .ok (.iload_n 1, 1) := by decide +kernel
theorem dX10_group_128 : decode cX10_group 128 = .ok (.invokevirtual 174, 3) := by decide +kernel
theorem dX10_group_131 : decode cX10_group 131 = .ok (.ireturn, 1) := by decide +kernel
theorem dX10_group_132 : decode cX10_group 132 = .ok (.aload_n 0, 1) := by decide +kernel
theorem dX10_group_133 : decode cX10_group 133 = .ok (.getfield 36, 3) := by decide +kernel
theorem dX10_group_136 : decode cX10_group 136 = .ok (.iload_n 1, 1) := by decide +kernel
theorem dX10_group_137 : decode cX10_group 137 = .ok (.iaload, 1) := by decide +kernel
theorem dX10_group_138 : decode cX10_group 138 = .ok (.ireturn, 1) := by decide +kernel
theorem dX10_group_139 : decode cX10_group 139 = .ok (.aload_n 0, 1) := by decide +kernel
theorem dX10_group_140 : decode cX10_group 140 = .ok (.getfield 39, 3) := by decide +kernel
theorem dX10_group_143 : decode cX10_group 143 = .ok (.iload_n 1, 1) := by decide +kernel
theorem dX10_group_144 : decode cX10_group 144 = .ok (.iaload, 1) := by decide +kernel
theorem dX10_group_145 : decode cX10_group 145 = .ok (.ireturn, 1) := by decide +kernel
theorem dX10_group_146 : decode cX10_group 146 = .ok (.aload_n 0, 1) := by decide +kernel
theorem dX10_group_147 : decode cX10_group 147 = .ok (.iload_n 1, 1) := by decide +kernel
theorem dX10_group_148 : decode cX10_group 148 = .ok (.invokevirtual 177, 3) := by decide +kernel
theorem dX10_group_151 : decode cX10_group 151 = .ok (.ireturn, 1) := by decide +kernel
theorem dX10_group_152 : decode cX10_group 152 = .ok (.bipush (-2), 2) := by decide +kernel
theorem dX10_group_154 : decode cX10_group 154 = .ok (.ireturn, 1) := by decide +kernel
set_option maxRecDepth 20000 in
theorem ggX10_ofKind_X10_groups : GoodIn wsX10_ofKind wsX10_groups := goodIn_r _ [5, 6, 15, 16, 17, 18, 19, 20, 21, 22, 23, 24, 25, 26, 27, 28, 29, 30, 31, 32, 33, 34, 35, 36, 37] (by decide +kernel) (by decide +kernel)
set_option maxRecDepth 20000 in
theorem gX10_ofKind_X10_groups : GoodIn wsX10_ofKind (wsV RX10 60 RX10 yX10_groups wsX10_groups) := goodIn_app (goodIn_of _ (by decide +kernel)) ggX10_ofKind_X10_groups
set_option maxRecDepth 20000 in
theorem ggX10_ofKind_X10_kind : GoodIn wsX10_ofKind wsX10_kind := goodIn_r _ [10, 11, 12, 13, 4, 14, 6, 15, 16, 17, 18, 19, 20, 21, 22, 23, 24, 25, 26, 27, 28, 29, 30, 31, 32, 33, 34, 35, 36, 37] (by decide +kernel) (by decide +kernel)
set_option maxRecDepth 20000 in
theorem gX10_ofKind_X10_kind : GoodIn wsX10_ofKind (wsV RX10 186 RX10 yX10_kind wsX10_kind) := goodIn_app (goodIn_of _ (by decide +kernel)) ggX10_ofKind_X10_kind
theorem dX10_ofKind_0 : decode cX10_ofKind 0 = .ok (.iconst 0, 1) := by decide +kernel
theorem dX10_ofKind_1 : decode cX10_ofKind 1 = .ok (.istore_n 2, 1) := by decide +kernel
theorem dX10_ofKind_2 : decode cX10_ofKind 2 = .ok (.iconst 0, 1) := by decide +kernel
theorem dX10_ofKind_3 : decode cX10_ofKind 3 = .ok (.istore_n 3, 1) := by decide +kernel
theorem dX10_ofKind_4 : decode cX10_ofKind 4 = .ok (.iload_n 3, 1) := by decide +kernel
theorem dX10_ofKind_5 : decode cX10_ofKind 5 = .ok (.aload_n 0, 1) := by decide +kernel
theorem dX10_ofKind_6 : decode cX10_ofKind 6 = .ok (.invokevirtual 60, 3) := by decide +kernel
theorem dX10_ofKind_9 : decode cX10_ofKind 9 = .ok (.if_icmp .ge 26, 3) := by decide +kernel
theorem dX10_ofKind_12 : decode cX10_ofKind 12 = .ok (.iload_n 2, 1) := by decide +kernel
theorem dX10_ofKind_13 : decode cX10_ofKind 13 = .ok (.aload_n 0, 1) := by decide +kernel
theorem dX10_ofKind_14 : decode cX10_ofKind 14 = .ok (.iload_n 3, 1) := by decide +kernel
theorem dX10_ofKind_15 : decode cX10_ofKind 15 = .ok (.invokevirtual 186, 3) := by decide +kernel
theorem dX10_ofKind_18 : decode cX10_ofKind 18 = .ok (.iload_n 1, 1) := by decide +kernel
theorem dX10_ofKind_19 : decode cX10_ofKind 19 = .ok (.if_icmp .ne 7, 3) := by decide +kernel
theorem dX10_ofKind_22 : decode cX10_ofKind 22 = .ok (.iconst 1, 1) := by decide +kernel
theorem dX10_ofKind_23 : decode cX10_ofKind 23 = .ok (.goto 4, 3) := by decide +kernel
theorem dX10_ofKind_26 : decode cX10_ofKind 26 = .ok (.iconst 0, 1) := by decide +kernel
theorem dX10_ofKind_27 : decode cX10_ofKind 27 = .ok (.iadd, 1) := by decide +kernel
theorem dX10_ofKind_28 : decode cX10_ofKind 28 = .ok (.istore_n 2, 1) := by decide +kernel
theorem dX10_ofKind_29 : decode cX10_ofKind 29 = .ok (.iinc 3 1, 3) := by decide +kernel
theorem dX10_ofKind_32 : decode cX10_ofKind 32 = .ok (.goto (-28), 3) := by decide +kernel
theorem dX10_ofKind_35 : decode cX10_ofKind 35 = .ok (.iload_n 2, 1) := by decide +kernel
theorem dX10_ofKind_36 : decode cX10_ofKind 36 = .ok (.ireturn, 1) := by decide +kernel
set_option maxRecDepth 20000 in
theorem ggX10_empty_X10_groups : GoodIn wsX10_empty wsX10_groups := goodIn_r _ [5, 6, 33, 34, 35, 36, 37, 38, 39, 40, 41, 42, 43, 44, 45, 46, 47, 48, 49, 50, 51, 52, 53, 54, 55] (by decide +kernel) (by decide +kernel)
set_option maxRecDepth 20000 in
theorem gX10_empty_X10_groups : GoodIn wsX10_empty (wsV RX10 60 RX10 yX10_groups wsX10_groups) := goodIn_app (goodIn_of _ (by decide +kernel)) ggX10_empty_X10_groups
set_option maxRecDepth 20000 in
theorem ggX10_empty_X10_needed : GoodIn wsX10_empty wsX10_needed := goodIn_r _ [10, 11, 12, 13, 14, 4, 15, 16, 17, 18, 19, 6, 20, 21, 22, 23, 24, 25, 26, 27, 28, 29, 30, 31, 32, 33, 34, 35, 36, 37, 38, 39, 40, 41, 42, 43, 44, 45, 46, 47, 48, 49, 50, 51, 52, 53, 54, 55] (by decide +kernel) (by decide +kernel)
set_option maxRecDepth 20000 in
theorem gX10_empty_X10_needed : GoodIn wsX10_empty (wsV RX10 168 RX10 yX10_needed wsX10_needed) := goodIn_app (goodIn_of _ (by decide +kernel)) ggX10_empty_X10_needed
theorem dX10_empty_0 : decode cX10_empty 0 = .ok (.iconst 0, 1) := by decide +kernel
theorem dX10_empty_1 : decode cX10_empty 1 = .ok (.istore_n 1, 1) := by decide +kernel
theorem dX10_empty_2 : decode cX10_empty 2 = .ok (.iconst 0, 1) := by decide +kernel
theorem dX10_empty_3 : decode cX10_empty 3 = .ok (.istore_n 2, 1) := by decide +kernel
theorem dX10_empty_4 : decode cX10_empty 4 = .ok (.iload_n 2, 1) := by decide +kernel
theorem dX10_empty_5 : decode cX10_empty 5 = .ok (.aload_n 0, 1) := by decide +kernel
theorem dX10_empty_6 : decode cX10_empty 6 = .ok (.invokevirtual 60, 3) := by decide +kernel
theorem dX10_empty_9 : decode cX10_empty 9 = .ok (.if_icmp .ge 36, 3) := by decide +kernel
theorem dX10_empty_12 : decode cX10_empty 12 = .ok (.aload_n 0, 1) := by decide +kernel
theorem dX10_empty_13 : decode cX10_empty 13 = .ok (.iload_n 2, 1) := by decide +kernel
theorem dX10_empty_14 : decode cX10_empty 14 = .ok (.iconst 0, 1) := by decide +kernel
theorem dX10_empty_15 : decode cX10_empty 15 = .ok (.invokevirtual 168, 3) := by decide +kernel
theorem dX10_empty_18 : decode cX10_empty 18 = .ok (.aload_n 0, 1) := by decide +kernel
theorem dX10_empty_19 : decode cX10_empty 19 = .ok (.iload_n 2, 1) := by decide +kernel
theorem dX10_empty_20 : decode cX10_empty 20 = .ok (.iconst 1, 1) := by decide +kernel
theorem dX10_empty_21 : decode cX10_empty 21 = .ok (.invokevirtual 168, 3) := by decide +kernel
theorem dX10_empty_24 : decode cX10_empty 24 = .ok (.isub, 1) := by decide +kernel
theorem dX10_empty_25 : decode cX10_empty 25 = .ok (.istore_n 3, 1) := by decide +kernel
theorem dX10_empty_26 : decode cX10_empty 26 = .ok (.iload_n 1, 1) := by decide +kernel
theorem dX10_empty_27 : decode cX10_empty 27 = .ok (.iload_n 3, 1) := by decide +kernel
theorem dX10_empty_28 : decode cX10_empty 28 = .ok (.ifCond .ge 8, 3) := by decide +kernel
theorem dX10_empty_31 : decode cX10_empty 31 = .ok (.iload_n 3, 1) := by decide +kernel
theorem dX10_empty_32 : decode cX10_empty 32 = .ok (.ineg, 1) := by decide +kernel
theorem dX10_empty_33 : decode cX10_empty 33 = .ok (.goto 4, 3) := by decide +kernel
theorem dX10_empty_36 : decode cX10_empty 36 = .ok (.iload_n 3, 1) := by decide +kernel
theorem dX10_empty_37 : decode cX10_empty 37 = .ok (.iadd, 1) := by decide +kernel
theorem dX10_empty_38 : decode cX10_empty 38 = .ok (.istore_n 1, 1) := by decide +kernel
theorem dX10_empty_39 : decode cX10_empty 39 = .ok (.iinc 2 1, 3) := by decide +kernel
theorem dX10_empty_42 : decode cX10_empty 42 = .ok (.goto (-38), 3) := by decide +kernel
theorem dX10_empty_45 : decode cX10_empty 45 = .ok (.iload_n 1, 1) := by decide +kernel
theorem dX10_empty_46 : decode cX10_empty 46 = .ok (.ireturn, 1) := by decide +kernel
set_option maxRecDepth 20000 in
theorem ggX10_count_X10_in : GoodIn wsX10_count wsX10_in := goodIn_r _ [7] (by decide +kernel) (by decide +kernel)
set_option maxRecDepth 20000 in
theorem gX10_count_X10_in : GoodIn wsX10_count (va_wsS RX10 48 yX10_in wsX10_in) := goodIn_app (goodIn_of _ (by decide +kernel)) ggX10_count_X10_in
set_option maxRecDepth 20000 in
theorem ggX10_count_X10_layPages : GoodIn wsX10_count wsX10_layPages := goodIn_r _ [11, 2, 12, 13, 14, 15, 16, 17, 18, 19, 6, 20, 1, 21, 22, 23, 24, 25, 26, 27, 28, 29, 30, 31, 32, 33, 34, 35, 36, 37, 38, 39, 40, 41, 42, 43, 44, 45, 46, 47, 48, 49, 50, 51, 52, 53, 54, 55, 56, 57, 70, 71, 72, 73, 74, 75, 76, 77, 78, 79, 80, 81, 82, 83, 84, 85, 86, 87, 88, 89, 90, 91, 92] (by decide +kernel) (by decide +kernel)
set_option maxRecDepth 20000 in
theorem gX10_count_X10_layPages : GoodIn wsX10_count (wsV RX10 183 RX10 yX10_layPages wsX10_layPages) := goodIn_app (goodIn_of _ (by decide +kernel)) ggX10_count_X10_layPages
set_option maxRecDepth 20000 in
theorem ggX10_count_X10_groups : GoodIn wsX10_count wsX10_groups := goodIn_r _ [20, 1, 70, 71, 72, 73, 74, 75, 76, 77, 78, 79, 80, 81, 82, 83, 84, 85, 86, 87, 88, 89, 90, 91, 92] (by decide +kernel) (by decide +kernel)
set_option maxRecDepth 20000 in
theorem gX10_count_X10_groups : GoodIn wsX10_count (wsV RX10 60 RX10 yX10_groups wsX10_groups) := goodIn_app (goodIn_of _ (by decide +kernel)) ggX10_count_X10_groups
set_option maxRecDepth 20000 in
theorem ggX10_count_X10_ofKind : GoodIn wsX10_count wsX10_ofKind := goodIn_r _ [61, 17, 18, 19, 6, 20, 1, 62, 63, 64, 65, 34, 35, 36, 37, 70, 71, 72, 73, 74, 75, 76, 77, 78, 79, 80, 81, 82, 83, 84, 85, 86, 87, 88, 89, 90, 91, 92] (by decide +kernel) (by decide +kernel)
set_option maxRecDepth 20000 in
theorem gX10_count_X10_ofKind : GoodIn wsX10_count (wsV RX10 189 RX10 yX10_ofKind wsX10_ofKind) := goodIn_app (goodIn_of _ (by decide +kernel)) ggX10_count_X10_ofKind
set_option maxRecDepth 20000 in
theorem ggX10_count_X10_empty : GoodIn wsX10_count wsX10_empty := goodIn_r _ [69, 17, 18, 19, 6, 20, 1, 25, 26, 27, 28, 29, 30, 31, 32, 33, 34, 35, 36, 37, 38, 39, 40, 41, 42, 43, 44, 45, 46, 47, 48, 49, 50, 70, 71, 72, 73, 74, 75, 76, 77, 78, 79, 80, 81, 82, 83, 84, 85, 86, 87, 88, 89, 90, 91, 92] (by decide +kernel) (by decide +kernel)
set_option maxRecDepth 20000 in
theorem gX10_count_X10_empty : GoodIn wsX10_count (wsV RX10 192 RX10 yX10_empty wsX10_empty) := goodIn_app (goodIn_of _ (by decide +kernel)) ggX10_count_X10_empty
theorem dX10_count_0 : decode cX10_count 0 = .ok (.iload_n 1, 1) := by decide +kernel
theorem dX10_count_1 : decode cX10_count 1 = .ok (.iconst 0, 1) := by decide +kernel
theorem dX10_count_2 : decode cX10_count 2 = .ok (.bipush 11, 2) := by decide +kernel
theorem dX10_count_4 : decode cX10_count 4 = .ok (.invokestatic 48, 3) := by decide +kernel
theorem dX10_count_7 : decode cX10_count 7 = .ok (.ifCond .ne 6, 3) := by decide +kernel
theorem dX10_count_10 : decode cX10_count 10 = .ok (.bipush (-2), 2) := by decide +kernel
theorem dX10_count_12 : decode cX10_count 12 = .ok (.ireturn, 1) := by decide +kernel
theorem dX10_count_13 : decode cX10_count 13 = .ok (.aload_n 0, 1) := by decide +kernel
theorem dX10_count_14 : decode cX10_count 14 = .ok (.invokevirtual 183, 3) := by decide +kernel
theorem dX10_count_17 : decode cX10_count 17 = .ok (.iload_n 1, 1) := by decide +kernel
theorem dX10_count_18 : decode cX10_count 18 = .ok (.iconst 2, 1) := by decide +kernel
theorem dX10_count_19 : decode cX10_count 19 = .ok (.if_icmp .ge 16, 3) := by decide +kernel
theorem dX10_count_22 : decode cX10_count 22 = .ok (.aload_n 0, 1) := by decide +kernel
theorem dX10_count_23 : decode cX10_count 23 = .ok (.getfield 7, 3) := by decide +kernel
theorem dX10_count_26 : decode cX10_count 26 = .ok (.sipush 362, 3) := by decide +kernel
theorem dX10_count_29 : decode cX10_count 29 = .ok (.iload_n 1, 1) := by decide +kernel
theorem dX10_count_30 : decode cX10_count 30 = .ok (.iadd, 1) := by decide +kernel
theorem dX10_count_31 : decode cX10_count 31 = .ok (.iaload, 1) := by decide +kernel
theorem dX10_count_32 : decode cX10_count 32 = .ok (.goto 81, 3) := by decide +kernel
theorem dX10_count_35 : decode cX10_count 35 = .ok (.iload_n 1, 1) := by decide +kernel
theorem dX10_count_36 : decode cX10_count 36 = .ok (.iconst 4, 1) := by decide +kernel
theorem dX10_count_37 : decode cX10_count 37 = .ok (.if_icmp .ge 18, 3) := by decide +kernel
theorem dX10_count_40 : decode cX10_count 40 = .ok (.aload_n 0, 1) := by decide +kernel
theorem dX10_count_41 : decode cX10_count 41 = .ok (.getfield 7, 3) := by decide +kernel
theorem dX10_count_44 : decode cX10_count 44 = .ok (.sipush 360, 3) := by decide +kernel
theorem dX10_count_47 : decode cX10_count 47 = .ok (.iload_n 1, 1) := by decide +kernel
theorem dX10_count_48 : decode cX10_count 48 = .ok (.iadd, 1) := by decide +kernel
theorem dX10_count_49 : decode cX10_count 49 = .ok (.iconst 2, 1) := by decide +kernel
theorem dX10_count_50 : decode cX10_count 50 = .ok (.isub, 1) := by decide +kernel
theorem dX10_count_51 : decode cX10_count 51 = .ok (.iaload, 1) := by decide +kernel
theorem dX10_count_52 : decode cX10_count 52 = .ok (.goto 61, 3) := by decide +kernel
theorem dX10_count_55 : decode cX10_count 55 = .ok (.iload_n 1, 1) := by decide +kernel
theorem dX10_count_56 : decode cX10_count 56 = .ok (.iconst 4, 1) := by decide +kernel
theorem dX10_count_57 : decode cX10_count 57 = .ok (.if_icmp .ne 10, 3) := by decide +kernel
theorem dX10_count_60 : decode cX10_count 60 = .ok (.aload_n 0, 1) := by decide +kernel
theorem dX10_count_61 : decode cX10_count 61 = .ok (.invokevirtual 60, 3) := by decide +kernel
theorem dX10_count_64 : decode cX10_count 64 = .ok (.goto 49, 3) := by decide +kernel
theorem dX10_count_67 : decode cX10_count 67 = .ok (.iload_n 1, 1) := by decide +kernel
theorem dX10_count_68 : decode cX10_count 68 = .ok (.bipush 9, 2) := by decide +kernel
theorem dX10_count_70 : decode cX10_count 70 = .ok (.if_icmp .ge 13, 3) := by decide +kernel
theorem dX10_count_73 : decode cX10_count 73 = .ok (.aload_n 0, 1) := by decide +kernel
theorem dX10_count_74 : decode cX10_count 74 = .ok (.iload_n 1, 1) := by decide +kernel
theorem dX10_count_75 : decode cX10_count 75 = .ok (.iconst 5, 1) := by decide +kernel
theorem dX10_count_76 : decode cX10_count 76 = .ok (.isub, 1) := by decide +kernel
theorem dX10_count_77 : decode cX10_count 77 = .ok (.invokevirtual 189, 3) := by decide +kernel
theorem dX10_count_80 : decode cX10_count 80 = .ok (.goto 33, 3) := by decide +kernel
theorem dX10_count_83 : decode cX10_count 83 = .ok (.iload_n 1, 1) := by decide +kernel
theorem dX10_count_84 : decode cX10_count 84 = .ok (.bipush 9, 2) := by decide +kernel
theorem dX10_count_86 : decode cX10_count 86 = .ok (.if_icmp .ne 10, 3) := by decide +kernel
theorem dX10_count_89 : decode cX10_count 89 = .ok (.aload_n 0, 1) := by decide +kernel
theorem dX10_count_90 : decode cX10_count 90 = .ok (.getfield 171, 3) := by decide +kernel
theorem dX10_count_93 : decode cX10_count 93 = .ok (.goto 20, 3) := by decide +kernel
theorem dX10_count_96 : decode cX10_count 96 = .ok (.iload_n 1, 1) := by decide +kernel
theorem dX10_count_97 : decode cX10_count 97 = .ok (.bipush 10, 2) := by decide +kernel
theorem dX10_count_99 : decode cX10_count 99 = .ok (.if_icmp .ne 10, 3) := by decide +kernel
theorem dX10_count_102 : decode cX10_count 102 = .ok (.aload_n 0, 1) := by decide +kernel
theorem dX10_count_103 : decode cX10_count 103 = .ok (.invokevirtual 192, 3) := by decide +kernel
theorem dX10_count_106 : decode cX10_count 106 = .ok (.goto 7, 3) := by decide +kernel
theorem dX10_count_109 : decode cX10_count 109 = .ok (.aload_n 0, 1) := by decide +kernel
theorem dX10_count_110 : decode cX10_count 110 = .ok (.getfield 64, 3) := by decide +kernel
theorem dX10_count_113 : decode cX10_count 113 = .ok (.ireturn, 1) := by decide +kernel
