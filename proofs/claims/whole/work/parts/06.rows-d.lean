theorem dX10_splitVerse_10 : decode cX10_splitVerse 10 = .ok (.ireturn, 1) := by decide +kernel
theorem dX10_splitVerse_11 : decode cX10_splitVerse 11 = .ok (.iload_n 3, 1) := by decide +kernel
theorem dX10_splitVerse_12 : decode cX10_splitVerse 12 = .ok (.iconst 1, 1) := by decide +kernel
theorem dX10_splitVerse_13 : decode cX10_splitVerse 13 = .ok (.sipush 1999, 3) := by decide +kernel
theorem dX10_splitVerse_16 : decode cX10_splitVerse 16 = .ok (.invokestatic 48, 3) := by decide +kernel
theorem dX10_splitVerse_19 : decode cX10_splitVerse 19 = .ok (.ifCond .ne 6, 3) := by decide +kernel
theorem dX10_splitVerse_22 : decode cX10_splitVerse 22 = .ok (.bipush (-2), 2) := by decide +kernel
theorem dX10_splitVerse_24 : decode cX10_splitVerse 24 = .ok (.ireturn, 1) := by decide +kernel
theorem dX10_splitVerse_25 : decode cX10_splitVerse 25 = .ok (.bipush 60, 2) := by decide +kernel
theorem dX10_splitVerse_27 : decode cX10_splitVerse 27 = .ok (.iload_n 1, 1) := by decide +kernel
theorem dX10_splitVerse_28 : decode cX10_splitVerse 28 = .ok (.imul, 1) := by decide +kernel
theorem dX10_splitVerse_29 : decode cX10_splitVerse 29 = .ok (.iload_n 2, 1) := by decide +kernel
theorem dX10_splitVerse_30 : decode cX10_splitVerse 30 = .ok (.iadd, 1) := by decide +kernel
theorem dX10_splitVerse_31 : decode cX10_splitVerse 31 = .ok (.istore 4, 2) := by decide +kernel
theorem dX10_splitVerse_33 : decode cX10_splitVerse 33 = .ok (.iload_n 3, 1) := by decide +kernel
theorem dX10_splitVerse_34 : decode cX10_splitVerse 34 = .ok (.aload_n 0, 1) := by decide +kernel
theorem dX10_splitVerse_35 : decode cX10_splitVerse 35 = .ok (.getfield 7, 3) := by decide +kernel
theorem dX10_splitVerse_38 : decode cX10_splitVerse 38 = .ok (.iload 4, 2) := by decide +kernel
theorem dX10_splitVerse_40 : decode cX10_splitVerse 40 = .ok (.iaload, 1) := by decide +kernel
theorem dX10_splitVerse_41 : decode cX10_splitVerse 41 = .ok (.if_icmp .lt 6, 3) := by decide +kernel
theorem dX10_splitVerse_44 : decode cX10_splitVerse 44 = .ok (.bipush (-4), 2) := by decide +kernel
theorem dX10_splitVerse_46 : decode cX10_splitVerse 46 = .ok (.ireturn, 1) := by decide +kernel
theorem dX10_splitVerse_47 : decode cX10_splitVerse 47 = .ok (.aload_n 0, 1) := by decide +kernel
theorem dX10_splitVerse_48 : decode cX10_splitVerse 48 = .ok (.iload_n 1, 1) := by decide +kernel
theorem dX10_splitVerse_49 : decode cX10_splitVerse 49 = .ok (.invokevirtual 56, 3) := by decide +kernel
theorem dX10_splitVerse_52 : decode cX10_splitVerse 52 = .ok (.bipush 60, 2) := by decide +kernel
theorem dX10_splitVerse_54 : decode cX10_splitVerse 54 = .ok (.if_icmp .ne 6, 3) := by decide +kernel
theorem dX10_splitVerse_57 : decode cX10_splitVerse 57 = .ok (.bipush (-3), 2) := by decide +kernel
theorem dX10_splitVerse_59 : decode cX10_splitVerse 59 = .ok (.ireturn, 1) := by decide +kernel
theorem dX10_splitVerse_60 : decode cX10_splitVerse 60 = .ok (.aload_n 0, 1) := by decide +kernel
theorem dX10_splitVerse_61 : decode cX10_splitVerse 61 = .ok (.invokevirtual 67, 3) := by decide +kernel
theorem dX10_splitVerse_64 : decode cX10_splitVerse 64 = .ok (.aload_n 0, 1) := by decide +kernel
theorem dX10_splitVerse_65 : decode cX10_splitVerse 65 = .ok (.iload_n 1, 1) := by decide +kernel
theorem dX10_splitVerse_66 : decode cX10_splitVerse 66 = .ok (.iload_n 2, 1) := by decide +kernel
theorem dX10_splitVerse_67 : decode cX10_splitVerse 67 = .ok (.invokevirtual 85, 3) := by decide +kernel
theorem dX10_splitVerse_70 : decode cX10_splitVerse 70 = .ok (.istore 5, 2) := by decide +kernel
theorem dX10_splitVerse_72 : decode cX10_splitVerse 72 = .ok (.aload_n 0, 1) := by decide +kernel
theorem dX10_splitVerse_73 : decode cX10_splitVerse 73 = .ok (.iload_n 1, 1) := by decide +kernel
theorem dX10_splitVerse_74 : decode cX10_splitVerse 74 = .ok (.invokevirtual 56, 3) := by decide +kernel
theorem dX10_splitVerse_77 : decode cX10_splitVerse 77 = .ok (.istore 6, 2) := by decide +kernel
theorem dX10_splitVerse_79 : decode cX10_splitVerse 79 = .ok (.iload 6, 2) := by decide +kernel
theorem dX10_splitVerse_81 : decode cX10_splitVerse 81 = .ok (.iload_n 2, 1) := by decide +kernel
theorem dX10_splitVerse_82 : decode cX10_splitVerse 82 = .ok (.if_icmp .le 29, 3) := by decide +kernel
theorem dX10_splitVerse_85 : decode cX10_splitVerse 85 = .ok (.aload_n 0, 1) := by decide +kernel
theorem dX10_splitVerse_86 : decode cX10_splitVerse 86 = .ok (.bipush 60, 2) := by decide +kernel
theorem dX10_splitVerse_88 : decode cX10_splitVerse 88 = .ok (.iload_n 1, 1) := by decide +kernel
theorem dX10_splitVerse_89 : decode cX10_splitVerse 89 = .ok (.imul, 1) := by decide +kernel
theorem dX10_splitVerse_90 : decode cX10_splitVerse 90 = .ok (.iload 6, 2) := by decide +kernel
theorem dX10_splitVerse_92 : decode cX10_splitVerse 92 = .ok (.iadd, 1) := by decide +kernel
theorem dX10_splitVerse_93 : decode cX10_splitVerse 93 = .ok (.iconst 1, 1) := by decide +kernel
theorem dX10_splitVerse_94 : decode cX10_splitVerse 94 = .ok (.isub, 1) := by decide +kernel
theorem dX10_splitVerse_95 : decode cX10_splitVerse 95 = .ok (.bipush 60, 2) := by decide +kernel
theorem dX10_splitVerse_97 : decode cX10_splitVerse 97 = .ok (.iload_n 1, 1) := by decide +kernel
theorem dX10_splitVerse_98 : decode cX10_splitVerse 98 = .ok (.imul, 1) := by decide +kernel
theorem dX10_splitVerse_99 : decode cX10_splitVerse 99 = .ok (.iload 6, 2) := by decide +kernel
theorem dX10_splitVerse_101 : decode cX10_splitVerse 101 = .ok (.iadd, 1) := by decide +kernel
theorem dX10_splitVerse_102 : decode cX10_splitVerse 102 = .ok (.invokevirtual 91, 3) := by decide +kernel
theorem dX10_splitVerse_105 : decode cX10_splitVerse 105 = .ok (.iinc 6 (-1), 3) := by decide +kernel
theorem dX10_splitVerse_108 : decode cX10_splitVerse 108 = .ok (.goto (-29), 3) := by decide +kernel
theorem dX10_splitVerse_111 : decode cX10_splitVerse 111 = .ok (.aload_n 0, 1) := by decide +kernel
theorem dX10_splitVerse_112 : decode cX10_splitVerse 112 = .ok (.getfield 7, 3) := by decide +kernel
theorem dX10_splitVerse_115 : decode cX10_splitVerse 115 = .ok (.iload 4, 2) := by decide +kernel
theorem dX10_splitVerse_117 : decode cX10_splitVerse 117 = .ok (.iconst 1, 1) := by decide +kernel
theorem dX10_splitVerse_118 : decode cX10_splitVerse 118 = .ok (.iadd, 1) := by decide +kernel
theorem dX10_splitVerse_119 : decode cX10_splitVerse 119 = .ok (.aload_n 0, 1) := by decide +kernel
theorem dX10_splitVerse_120 : decode cX10_splitVerse 120 = .ok (.getfield 7, 3) := by decide +kernel
theorem dX10_splitVerse_123 : decode cX10_splitVerse 123 = .ok (.iload 4, 2) := by decide +kernel
theorem dX10_splitVerse_125 : decode cX10_splitVerse 125 = .ok (.iaload, 1) := by decide +kernel
theorem dX10_splitVerse_126 : decode cX10_splitVerse 126 = .ok (.iload_n 3, 1) := by decide +kernel
theorem dX10_splitVerse_127 : decode cX10_splitVerse 127 = .ok (.isub, 1) := by decide +kernel
theorem dX10_splitVerse_128 : decode cX10_splitVerse 128 = .ok (.iastore, 1) := by decide +kernel
theorem dX10_splitVerse_129 : decode cX10_splitVerse 129 = .ok (.aload_n 0, 1) := by decide +kernel
theorem dX10_splitVerse_130 : decode cX10_splitVerse 130 = .ok (.getfield 7, 3) := by decide +kernel
theorem dX10_splitVerse_133 : decode cX10_splitVerse 133 = .ok (.bipush 120, 2) := by decide +kernel
theorem dX10_splitVerse_135 : decode cX10_splitVerse 135 = .ok (.iload 4, 2) := by decide +kernel
theorem dX10_splitVerse_137 : decode cX10_splitVerse 137 = .ok (.iadd, 1) := by decide +kernel
theorem dX10_splitVerse_138 : decode cX10_splitVerse 138 = .ok (.iconst 1, 1) := by decide +kernel
theorem dX10_splitVerse_139 : decode cX10_splitVerse 139 = .ok (.iadd, 1) := by decide +kernel
theorem dX10_splitVerse_140 : decode cX10_splitVerse 140 = .ok (.iconst 0, 1) := by decide +kernel
theorem dX10_splitVerse_141 : decode cX10_splitVerse 141 = .ok (.iastore, 1) := by decide +kernel
theorem dX10_splitVerse_142 : decode cX10_splitVerse 142 = .ok (.aload_n 0, 1) := by decide +kernel
theorem dX10_splitVerse_143 : decode cX10_splitVerse 143 = .ok (.getfield 7, 3) := by decide +kernel
theorem dX10_splitVerse_146 : decode cX10_splitVerse 146 = .ok (.iload 4, 2) := by decide +kernel
theorem dX10_splitVerse_148 : decode cX10_splitVerse 148 = .ok (.iload_n 3, 1) := by decide +kernel
theorem dX10_splitVerse_149 : decode cX10_splitVerse 149 = .ok (.iastore, 1) := by decide +kernel
theorem dX10_splitVerse_150 : decode cX10_splitVerse 150 = .ok (.aload_n 0, 1) := by decide +kernel
theorem dX10_splitVerse_151 : decode cX10_splitVerse 151 = .ok (.getfield 7, 3) := by decide +kernel
theorem dX10_splitVerse_154 : decode cX10_splitVerse 154 = .ok (.iload_n 1, 1) := by decide +kernel
theorem dX10_splitVerse_155 : decode cX10_splitVerse 155 = .ok (.ifCond .ne 9, 3) := by decide +kernel
theorem dX10_splitVerse_158 : decode cX10_splitVerse 158 = .ok (.sipush 365, 3) := by decide +kernel
theorem dX10_splitVerse_161 : decode cX10_splitVerse 161 = .ok (.goto 6, 3) := by decide +kernel
theorem dX10_splitVerse_164 : decode cX10_splitVerse 164 = .ok (.sipush 485, 3) := by decide +kernel
theorem dX10_splitVerse_167 : decode cX10_splitVerse 167 = .ok (.iload 5, 2) := by decide +kernel
theorem dX10_splitVerse_169 : decode cX10_splitVerse 169 = .ok (.iadd, 1) := by decide +kernel
theorem dX10_splitVerse_170 : decode cX10_splitVerse 170 = .ok (.dup2, 1) := by decide +kernel
theorem dX10_splitVerse_171 : decode cX10_splitVerse 171 = .ok (.iaload, 1) := by decide +kernel
theorem dX10_splitVerse_172 : decode cX10_splitVerse 172 = .ok (.iconst 1, 1) := by decide +kernel
theorem dX10_splitVerse_173 : decode cX10_splitVerse 173 = .ok (.iadd, 1) := by decide +kernel
theorem dX10_splitVerse_174 : decode cX10_splitVerse 174 = .ok (.iastore, 1) := by decide +kernel
theorem dX10_splitVerse_175 : decode cX10_splitVerse 175 = .ok (.aload_n 0, 1) := by decide +kernel
theorem dX10_splitVerse_176 : decode cX10_splitVerse 176 = .ok (.getfield 7, 3) := by decide +kernel
theorem dX10_splitVerse_179 : decode cX10_splitVerse 179 = .ok (.sipush 360, 3) := by decide +kernel
theorem dX10_splitVerse_182 : decode cX10_splitVerse 182 = .ok (.iload_n 1, 1) := by decide +kernel
theorem dX10_splitVerse_183 : decode cX10_splitVerse 183 = .ok (.iadd, 1) := by decide +kernel
theorem dX10_splitVerse_184 : decode cX10_splitVerse 184 = .ok (.dup2, 1) := by decide +kernel
theorem dX10_splitVerse_185 : decode cX10_splitVerse 185 = .ok (.iaload, 1) := by decide +kernel
theorem dX10_splitVerse_186 : decode cX10_splitVerse 186 = .ok (.iconst 1, 1) := by decide +kernel
theorem dX10_splitVerse_187 : decode cX10_splitVerse 187 = .ok (.iadd, 1) := by decide +kernel
theorem dX10_splitVerse_188 : decode cX10_splitVerse 188 = .ok (.iastore, 1) := by decide +kernel
theorem dX10_splitVerse_189 : decode cX10_splitVerse 189 = .ok (.aload_n 0, 1) := by decide +kernel
theorem dX10_splitVerse_190 : decode cX10_splitVerse 190 = .ok (.iload_n 1, 1) := by decide +kernel
theorem dX10_splitVerse_191 : decode cX10_splitVerse 191 = .ok (.invokevirtual 56, 3) := by decide +kernel
theorem dX10_splitVerse_194 : decode cX10_splitVerse 194 = .ok (.ireturn, 1) := by decide +kernel
set_option maxRecDepth 20000 in
theorem ggX10_link_X10_noGroup : GoodIn wsX10_link wsX10_noGroup := goodIn_r _ [5, 6, 7, 8, 4, 9, 10, 11, 12, 13, 24, 25, 26, 27, 28, 29, 30, 31, 32, 33, 34, 35, 36, 37, 38, 39, 40, 41, 42, 43, 44, 45, 46] (by decide +kernel) (by decide +kernel)
set_option maxRecDepth 20000 in
theorem gX10_link_X10_noGroup : GoodIn wsX10_link (wsV RX10 94 RX10 yX10_noGroup wsX10_noGroup) := goodIn_app (goodIn_of _ (by decide +kernel)) ggX10_link_X10_noGroup
set_option maxRecDepth 20000 in
theorem ggX10_link_X10_groups : GoodIn wsX10_link wsX10_groups := goodIn_r _ [9, 10, 24, 25, 26, 27, 28, 29, 30, 31, 32, 33, 34, 35, 36, 37, 38, 39, 40, 41, 42, 43, 44, 45, 46] (by decide +kernel) (by decide +kernel)
set_option maxRecDepth 20000 in
theorem gX10_link_X10_groups : GoodIn wsX10_link (wsV RX10 60 RX10 yX10_groups wsX10_groups) := goodIn_app (goodIn_of _ (by decide +kernel)) ggX10_link_X10_groups
set_option maxRecDepth 20000 in
theorem ggX10_link_X10_record : GoodIn wsX10_link wsX10_record := goodIn_r _ [17, 18, 19, 10, 24, 25, 26, 27, 28, 29, 30, 31, 32, 33, 34, 35, 36, 37, 38, 39, 40, 41, 42, 43, 44, 45, 46] (by decide +kernel) (by decide +kernel)
set_option maxRecDepth 20000 in
theorem gX10_link_X10_record : GoodIn wsX10_link (wsV RX10 67 RX10 yX10_record wsX10_record) := goodIn_app (goodIn_of _ (by decide +kernel)) ggX10_link_X10_record
set_option maxRecDepth 20000 in
theorem ggX10_link_X10_joinGroups : GoodIn wsX10_link wsX10_joinGroups := goodIn_r _ [23, 10, 6, 7, 8, 4, 9, 24, 25, 26, 27, 28, 29, 30, 31, 32, 33, 34, 35, 36, 37, 38, 39, 40, 41, 42, 43, 44, 45, 46] (by decide +kernel) (by decide +kernel)
set_option maxRecDepth 20000 in
theorem gX10_link_X10_joinGroups : GoodIn wsX10_link (wsV RX10 88 RX10 yX10_joinGroups wsX10_joinGroups) := goodIn_app (goodIn_of _ (by decide +kernel)) ggX10_link_X10_joinGroups
theorem dX10_link_0 : decode cX10_link 0 = .ok (.aload_n 0, 1) := by decide +kernel
theorem dX10_link_1 : decode cX10_link 1 = .ok (.iload_n 1, 1) := by decide +kernel
theorem dX10_link_2 : decode cX10_link 2 = .ok (.invokevirtual 94, 3) := by decide +kernel
theorem dX10_link_5 : decode cX10_link 5 = .ok (.ifCond .eq 5, 3) := by decide +kernel
theorem dX10_link_8 : decode cX10_link 8 = .ok (.iconst (-1), 1) := by decide +kernel
theorem dX10_link_9 : decode cX10_link 9 = .ok (.ireturn, 1) := by decide +kernel
theorem dX10_link_10 : decode cX10_link 10 = .ok (.iload_n 1, 1) := by decide +kernel
theorem dX10_link_11 : decode cX10_link 11 = .ok (.iconst 1, 1) := by decide +kernel
theorem dX10_link_12 : decode cX10_link 12 = .ok (.iadd, 1) := by decide +kernel
theorem dX10_link_13 : decode cX10_link 13 = .ok (.aload_n 0, 1) := by decide +kernel
theorem dX10_link_14 : decode cX10_link 14 = .ok (.invokevirtual 60, 3) := by decide +kernel
theorem dX10_link_17 : decode cX10_link 17 = .ok (.if_icmp .ne 6, 3) := by decide +kernel
theorem dX10_link_20 : decode cX10_link 20 = .ok (.bipush (-4), 2) := by decide +kernel
theorem dX10_link_22 : decode cX10_link 22 = .ok (.ireturn, 1) := by decide +kernel
theorem dX10_link_23 : decode cX10_link 23 = .ok (.aload_n 0, 1) := by decide +kernel
theorem dX10_link_24 : decode cX10_link 24 = .ok (.invokevirtual 67, 3) := by decide +kernel
theorem dX10_link_27 : decode cX10_link 27 = .ok (.aload_n 0, 1) := by decide +kernel
theorem dX10_link_28 : decode cX10_link 28 = .ok (.iload_n 1, 1) := by decide +kernel
theorem dX10_link_29 : decode cX10_link 29 = .ok (.iload_n 1, 1) := by decide +kernel
theorem dX10_link_30 : decode cX10_link 30 = .ok (.iconst 1, 1) := by decide +kernel
theorem dX10_link_31 : decode cX10_link 31 = .ok (.iadd, 1) := by decide +kernel
theorem dX10_link_32 : decode cX10_link 32 = .ok (.invokevirtual 88, 3) := by decide +kernel
theorem dX10_link_35 : decode cX10_link 35 = .ok (.aload_n 0, 1) := by decide +kernel
theorem dX10_link_36 : decode cX10_link 36 = .ok (.invokevirtual 60, 3) := by decide +kernel
theorem dX10_link_39 : decode cX10_link 39 = .ok (.ireturn, 1) := by decide +kernel
set_option maxRecDepth 20000 in
theorem ggX10_part_X10_noGroup : GoodIn wsX10_part wsX10_noGroup := goodIn_r _ [6, 7, 8, 9, 5, 10, 1, 11, 12, 13, 24, 25, 26, 27, 28, 29, 30, 31, 32, 33, 34, 35, 36, 37, 38, 39, 40, 41, 42, 43, 44, 45, 46] (by decide +kernel) (by decide +kernel)
set_option maxRecDepth 20000 in
theorem gX10_part_X10_noGroup : GoodIn wsX10_part (wsV RX10 94 RX10 yX10_noGroup wsX10_noGroup) := goodIn_app (goodIn_of _ (by decide +kernel)) ggX10_part_X10_noGroup
set_option maxRecDepth 20000 in
theorem ggX10_part_X10_in : GoodIn wsX10_part wsX10_in := goodIn_r _ [13] (by decide +kernel) (by decide +kernel)
set_option maxRecDepth 20000 in
theorem gX10_part_X10_in : GoodIn wsX10_part (va_wsS RX10 48 yX10_in wsX10_in) := goodIn_app (goodIn_of _ (by decide +kernel)) ggX10_part_X10_in
set_option maxRecDepth 20000 in
theorem ggX10_part_X10_has : GoodIn wsX10_part wsX10_has := goodIn_r _ [17, 1, 24, 25, 26, 27, 28, 29, 30, 31, 32, 33, 34, 35, 36, 37, 38, 39, 40, 41, 42, 43, 44, 45, 46] (by decide +kernel) (by decide +kernel)
set_option maxRecDepth 20000 in
theorem gX10_part_X10_has : GoodIn wsX10_part (wsV RX10 78 RX10 yX10_has wsX10_has) := goodIn_app (goodIn_of _ (by decide +kernel)) ggX10_part_X10_has
set_option maxRecDepth 20000 in
theorem ggX10_part_X10_record : GoodIn wsX10_part wsX10_record := goodIn_r _ [21, 22, 23, 1, 24, 25, 26, 27, 28, 29, 30, 31, 32, 33, 34, 35, 36, 37, 38, 39, 40, 41, 42, 43, 44, 45, 46] (by decide +kernel) (by decide +kernel)
set_option maxRecDepth 20000 in
theorem gX10_part_X10_record : GoodIn wsX10_part (wsV RX10 67 RX10 yX10_record wsX10_record) := goodIn_app (goodIn_of _ (by decide +kernel)) ggX10_part_X10_record
set_option maxRecDepth 20000 in
theorem ggX10_part_X10_groups : GoodIn wsX10_part wsX10_groups := goodIn_r _ [10, 1, 24, 25, 26, 27, 28, 29, 30, 31, 32, 33, 34, 35, 36, 37, 38, 39, 40, 41, 42, 43, 44, 45, 46] (by decide +kernel) (by decide +kernel)
set_option maxRecDepth 20000 in
theorem gX10_part_X10_groups : GoodIn wsX10_part (wsV RX10 60 RX10 yX10_groups wsX10_groups) := goodIn_app (goodIn_of _ (by decide +kernel)) ggX10_part_X10_groups
theorem dX10_part_0 : decode cX10_part 0 = .ok (.aload_n 0, 1) := by decide +kernel
theorem dX10_part_1 : decode cX10_part 1 = .ok (.iload_n 1, 1) := by decide +kernel
theorem dX10_part_2 : decode cX10_part 2 = .ok (.invokevirtual 94, 3) := by decide +kernel
theorem dX10_part_5 : decode cX10_part 5 = .ok (.ifCond .eq 5, 3) := by decide +kernel
theorem dX10_part_8 : decode cX10_part 8 = .ok (.iconst (-1), 1) := by decide +kernel
theorem dX10_part_9 : decode cX10_part 9 = .ok (.ireturn, 1) := by decide +kernel
theorem dX10_part_10 : decode cX10_part 10 = .ok (.iload_n 2, 1) := by decide +kernel
theorem dX10_part_11 : decode cX10_part 11 = .ok (.iconst 0, 1) := by decide +kernel
theorem dX10_part_12 : decode cX10_part 12 = .ok (.bipush 60, 2) := by decide +kernel
theorem dX10_part_14 : decode cX10_part 14 = .ok (.invokestatic 48, 3) := by decide +kernel
theorem dX10_part_17 : decode cX10_part 17 = .ok (.ifCond .eq 13, 3) := by decide +kernel
theorem dX10_part_20 : decode cX10_part 20 = .ok (.iload_n 3, 1) := by decide +kernel
theorem dX10_part_21 : decode cX10_part 21 = .ok (.iconst 0, 1) := by decide +kernel
theorem dX10_part_22 : decode cX10_part 22 = .ok (.bipush 60, 2) := by decide +kernel
theorem dX10_part_24 : decode cX10_part 24 = .ok (.invokestatic 48, 3) := by decide +kernel
theorem dX10_part_27 : decode cX10_part 27 = .ok (.ifCond .ne 6, 3) := by decide +kernel
theorem dX10_part_30 : decode cX10_part 30 = .ok (.bipush (-2), 2) := by decide +kernel
theorem dX10_part_32 : decode cX10_part 32 = .ok (.ireturn, 1) := by decide +kernel
theorem dX10_part_33 : decode cX10_part 33 = .ok (.aload_n 0, 1) := by decide +kernel
theorem dX10_part_34 : decode cX10_part 34 = .ok (.iload_n 1, 1) := by decide +kernel
theorem dX10_part_35 : decode cX10_part 35 = .ok (.iconst 0, 1) := by decide +kernel
theorem dX10_part_36 : decode cX10_part 36 = .ok (.invokevirtual 78, 3) := by decide +kernel
theorem dX10_part_39 : decode cX10_part 39 = .ok (.iload_n 2, 1) := by decide +kernel
theorem dX10_part_40 : decode cX10_part 40 = .ok (.isub, 1) := by decide +kernel
theorem dX10_part_41 : decode cX10_part 41 = .ok (.istore 4, 2) := by decide +kernel
theorem dX10_part_43 : decode cX10_part 43 = .ok (.aload_n 0, 1) := by decide +kernel
theorem dX10_part_44 : decode cX10_part 44 = .ok (.iload_n 1, 1) := by decide +kernel
theorem dX10_part_45 : decode cX10_part 45 = .ok (.iconst 1, 1) := by decide +kernel
theorem dX10_part_46 : decode cX10_part 46 = .ok (.invokevirtual 78, 3) := by decide +kernel
theorem dX10_part_49 : decode cX10_part 49 = .ok (.iload_n 3, 1) := by decide +kernel
theorem dX10_part_50 : decode cX10_part 50 = .ok (.isub, 1) := by decide +kernel
theorem dX10_part_51 : decode cX10_part 51 = .ok (.istore 5, 2) := by decide +kernel
theorem dX10_part_53 : decode cX10_part 53 = .ok (.iload 4, 2) := by decide +kernel
theorem dX10_part_55 : decode cX10_part 55 = .ok (.ifCond .lt 22, 3) := by decide +kernel
theorem dX10_part_58 : decode cX10_part 58 = .ok (.iload 5, 2) := by decide +kernel
theorem dX10_part_60 : decode cX10_part 60 = .ok (.ifCond .lt 17, 3) := by decide +kernel
theorem dX10_part_63 : decode cX10_part 63 = .ok (.iload_n 2, 1) := by decide +kernel
theorem dX10_part_64 : decode cX10_part 64 = .ok (.iload_n 3, 1) := by decide +kernel
theorem dX10_part_65 : decode cX10_part 65 = .ok (.iadd, 1) := by decide +kernel
theorem dX10_part_66 : decode cX10_part 66 = .ok (.ifCond .eq 11, 3) := by decide +kernel
theorem dX10_part_69 : decode cX10_part 69 = .ok (.iload 4, 2) := by decide +kernel
theorem dX10_part_71 : decode cX10_part 71 = .ok (.iload 5, 2) := by decide +kernel
theorem dX10_part_73 : decode cX10_part 73 = .ok (.iadd, 1) := by decide +kernel
theorem dX10_part_74 : decode cX10_part 74 = .ok (.ifCond .ne 6, 3) := by decide +kernel
theorem dX10_part_77 : decode cX10_part 77 = .ok (.bipush (-4), 2) := by decide +kernel
theorem dX10_part_79 : decode cX10_part 79 = .ok (.ireturn, 1) := by decide +kernel
theorem dX10_part_80 : decode cX10_part 80 = .ok (.aload_n 0, 1) := by decide +kernel
theorem dX10_part_81 : decode cX10_part 81 = .ok (.invokevirtual 67, 3) := by decide +kernel
theorem dX10_part_84 : decode cX10_part 84 = .ok (.aload_n 0, 1) := by decide +kernel
theorem dX10_part_85 : decode cX10_part 85 = .ok (.invokevirtual 60, 3) := by decide +kernel
theorem dX10_part_88 : decode cX10_part 88 = .ok (.istore 6, 2) := by decide +kernel
theorem dX10_part_90 : decode cX10_part 90 = .ok (.iload 6, 2) := by decide +kernel
theorem dX10_part_92 : decode cX10_part 92 = .ok (.iload_n 1, 1) := by decide +kernel
theorem dX10_part_93 : decode cX10_part 93 = .ok (.iconst 1, 1) := by decide +kernel
theorem dX10_part_94 : decode cX10_part 94 = .ok (.iadd, 1) := by decide +kernel
theorem dX10_part_95 : decode cX10_part 95 = .ok (.if_icmp .le 57, 3) := by decide +kernel
theorem dX10_part_98 : decode cX10_part 98 = .ok (.aload_n 0, 1) := by decide +kernel
theorem dX10_part_99 : decode cX10_part 99 = .ok (.getfield 7, 3) := by decide +kernel
theorem dX10_part_102 : decode cX10_part 102 = .ok (.sipush 365, 3) := by decide +kernel
theorem dX10_part_105 : decode cX10_part 105 = .ok (.iload 6, 2) := by decide +kernel
theorem dX10_part_107 : decode cX10_part 107 = .ok (.iadd, 1) := by decide +kernel
theorem dX10_part_108 : decode cX10_part 108 = .ok (.aload_n 0, 1) := by decide +kernel
theorem dX10_part_109 : decode cX10_part 109 = .ok (.getfield 7, 3) := by decide +kernel
theorem dX10_part_112 : decode cX10_part 112 = .ok (.sipush 365, 3) := by decide +kernel
theorem dX10_part_115 : decode cX10_part 115 = .ok (.iload 6, 2) := by decide +kernel
theorem dX10_part_117 : decode cX10_part 117 = .ok (.iadd, 1) := by decide +kernel
theorem dX10_part_118 : decode cX10_part 118 = .ok (.iconst 1, 1) := by decide +kernel
theorem dX10_part_119 : decode cX10_part 119 = .ok (.isub, 1) := by decide +kernel
theorem dX10_part_120 : decode cX10_part 120 = .ok (.iaload, 1) := by decide +kernel
theorem dX10_part_121 : decode cX10_part 121 = .ok (.iastore, 1) := by decide +kernel
theorem dX10_part_122 : decode cX10_part 122 = .ok (.aload_n 0, 1) := by decide +kernel
theorem dX10_part_123 : decode cX10_part 123 = .ok (.getfield 7, 3) := by decide +kernel
theorem dX10_part_126 : decode cX10_part 126 = .ok (.sipush 485, 3) := by decide +kernel
theorem dX10_part_129 : decode cX10_part 129 = .ok (.iload 6, 2) := by decide +kernel
theorem dX10_part_131 : decode cX10_part 131 = .ok (.iadd, 1) := by decide +kernel
theorem dX10_part_132 : decode cX10_part 132 = .ok (.aload_n 0, 1) := by decide +kernel
theorem dX10_part_133 : decode cX10_part 133 = .ok (.getfield 7, 3) := by decide +kernel
theorem dX10_part_136 : decode cX10_part 136 = .ok (.sipush 485, 3) := by decide +kernel
theorem dX10_part_139 : decode cX10_part 139 = .ok (.iload 6, 2) := by decide +kernel
theorem dX10_part_141 : decode cX10_part 141 = .ok (.iadd, 1) := by decide +kernel
theorem dX10_part_142 : decode cX10_part 142 = .ok (.iconst 1, 1) := by decide +kernel
theorem dX10_part_143 : decode cX10_part 143 = .ok (.isub, 1) := by decide +kernel
theorem dX10_part_144 : decode cX10_part 144 = .ok (.iaload, 1) := by decide +kernel
theorem dX10_part_145 : decode cX10_part 145 = .ok (.iastore, 1) := by decide +kernel
theorem dX10_part_146 : decode cX10_part 146 = .ok (.iinc 6 (-1), 3) := by decide +kernel
theorem dX10_part_149 : decode cX10_part 149 = .ok (.goto (-59), 3) := by decide +kernel
theorem dX10_part_152 : decode cX10_part 152 = .ok (.aload_n 0, 1) := by decide +kernel
theorem dX10_part_153 : decode cX10_part 153 = .ok (.getfield 7, 3) := by decide +kernel
theorem dX10_part_156 : decode cX10_part 156 = .ok (.sipush 364, 3) := by decide +kernel
theorem dX10_part_159 : decode cX10_part 159 = .ok (.dup2, 1) := by decide +kernel
theorem dX10_part_160 : decode cX10_part 160 = .ok (.iaload, 1) := by decide +kernel
theorem dX10_part_161 : decode cX10_part 161 = .ok (.iconst 1, 1) := by decide +kernel
theorem dX10_part_162 : decode cX10_part 162 = .ok (.iadd, 1) := by decide +kernel
theorem dX10_part_163 : decode cX10_part 163 = .ok (.iastore, 1) := by decide +kernel
theorem dX10_part_164 : decode cX10_part 164 = .ok (.aload_n 0, 1) := by decide +kernel
theorem dX10_part_165 : decode cX10_part 165 = .ok (.getfield 7, 3) := by decide +kernel
theorem dX10_part_168 : decode cX10_part 168 = .ok (.sipush 365, 3) := by decide +kernel
theorem dX10_part_171 : decode cX10_part 171 = .ok (.iload_n 1, 1) := by decide +kernel
theorem dX10_part_172 : decode cX10_part 172 = .ok (.iadd, 1) := by decide +kernel
theorem dX10_part_173 : decode cX10_part 173 = .ok (.iload_n 2, 1) := by decide +kernel
theorem dX10_part_174 : decode cX10_part 174 = .ok (.iastore, 1) := by decide +kernel
theorem dX10_part_175 : decode cX10_part 175 = .ok (.aload_n 0, 1) := by decide +kernel
theorem dX10_part_176 : decode cX10_part 176 = .ok (.getfield 7, 3) := by decide +kernel
theorem dX10_part_179 : decode cX10_part 179 = .ok (.sipush 485, 3) := by decide +kernel
theorem dX10_part_182 : decode cX10_part 182 = .ok (.iload_n 1, 1) := by decide +kernel
theorem dX10_part_183 : decode cX10_part 183 = .ok (.iadd, 1) := by decide +kernel
theorem dX10_part_184 : decode cX10_part 184 = .ok (.iload_n 3, 1) := by decide +kernel
theorem dX10_part_185 : decode cX10_part 185 = .ok (.iastore, 1) := by decide +kernel
theorem dX10_part_186 : decode cX10_part 186 = .ok (.aload_n 0, 1) := by decide +kernel
theorem dX10_part_187 : decode cX10_part 187 = .ok (.getfield 7, 3) := by decide +kernel
theorem dX10_part_190 : decode cX10_part 190 = .ok (.sipush 365, 3) := by decide +kernel
theorem dX10_part_193 : decode cX10_part 193 = .ok (.iload_n 1, 1) := by decide +kernel
theorem dX10_part_194 : decode cX10_part 194 = .ok (.iadd, 1) := by decide +kernel
theorem dX10_part_195 : decode cX10_part 195 = .ok (.iconst 1, 1) := by decide +kernel
theorem dX10_part_196 : decode cX10_part 196 = .ok (.iadd, 1) := by decide +kernel
theorem dX10_part_197 : decode cX10_part 197 = .ok (.iload 4, 2) := by decide +kernel
theorem dX10_part_199 : decode cX10_part 199 = .ok (.iastore, 1) := by decide +kernel
theorem dX10_part_200 : decode cX10_part 200 = .ok (.aload_n 0, 1) := by decide +kernel
theorem dX10_part_201 : decode cX10_part 201 = .ok (.getfield 7, 3) := by decide +kernel
theorem dX10_part_204 : decode cX10_part 204 = .ok (.sipush 485, 3) := by decide +kernel
theorem dX10_part_207 : decode cX10_part 207 = .ok (.iload_n 1, 1) := by decide +kernel
theorem dX10_part_208 : decode cX10_part 208 = .ok (.iadd, 1) := by decide +kernel
theorem dX10_part_209 : decode cX10_part 209 = .ok (.iconst 1, 1) := by decide +kernel
theorem dX10_part_210 : decode cX10_part 210 = .ok (.iadd, 1) := by decide +kernel
theorem dX10_part_211 : decode cX10_part 211 = .ok (.iload 5, 2) := by decide +kernel
theorem dX10_part_213 : decode cX10_part 213 = .ok (.iastore, 1) := by decide +kernel
theorem dX10_part_214 : decode cX10_part 214 = .ok (.aload_n 0, 1) := by decide +kernel
theorem dX10_part_215 : decode cX10_part 215 = .ok (.invokevirtual 60, 3) := by decide +kernel
theorem dX10_part_218 : decode cX10_part 218 = .ok (.ireturn, 1) := by decide +kernel
set_option maxRecDepth 20000 in
theorem ggX10_pairAll_X10_record : GoodIn wsX10_pairAll wsX10_record := goodIn_r _ [6, 7, 8, 1, 21, 22, 23, 24, 25, 26, 27, 28, 29, 30, 31, 32, 33, 34, 35, 36, 37, 38, 39, 40, 41, 42, 43] (by decide +kernel) (by decide +kernel)
set_option maxRecDepth 20000 in
theorem gX10_pairAll_X10_record : GoodIn wsX10_pairAll (wsV RX10 67 RX10 yX10_record wsX10_record) := goodIn_app (goodIn_of _ (by decide +kernel)) ggX10_pairAll_X10_record
set_option maxRecDepth 20000 in
theorem ggX10_pairAll_X10_size : GoodIn wsX10_pairAll wsX10_size := goodIn_r _ [12, 1, 21, 22, 23, 24, 25, 26, 27, 28, 29, 30, 31, 32, 33, 34, 35, 36, 37, 38, 39, 40, 41, 42, 43] (by decide +kernel) (by decide +kernel)
set_option maxRecDepth 20000 in
theorem gX10_pairAll_X10_size : GoodIn wsX10_pairAll (wsV RX10 56 RX10 yX10_size wsX10_size) := goodIn_app (goodIn_of _ (by decide +kernel)) ggX10_pairAll_X10_size
set_option maxRecDepth 20000 in
theorem ggX10_pairAll_X10_addGroup : GoodIn wsX10_pairAll wsX10_addGroup := goodIn_r _ [16, 1, 17, 18, 19, 5, 20, 21, 22, 23, 24, 25, 26, 27, 28, 29, 30, 31, 32, 33, 34, 35, 36, 37, 38, 39, 40, 41, 42, 43] (by decide +kernel) (by decide +kernel)
set_option maxRecDepth 20000 in
theorem gX10_pairAll_X10_addGroup : GoodIn wsX10_pairAll (wsV RX10 70 RX10 yX10_addGroup wsX10_addGroup) := goodIn_app (goodIn_of _ (by decide +kernel)) ggX10_pairAll_X10_addGroup
set_option maxRecDepth 20000 in
theorem ggX10_pairAll_X10_groups : GoodIn wsX10_pairAll wsX10_groups := goodIn_r _ [20, 1, 21, 22, 23, 24, 25, 26, 27, 28, 29, 30, 31, 32, 33, 34, 35, 36, 37, 38, 39, 40, 41, 42, 43] (by decide +kernel) (by decide +kernel)
set_option maxRecDepth 20000 in
theorem gX10_pairAll_X10_groups : GoodIn wsX10_pairAll (wsV RX10 60 RX10 yX10_groups wsX10_groups) := goodIn_app (goodIn_of _ (by decide +kernel)) ggX10_pairAll_X10_groups
theorem dX10_pairAll_0 : decode cX10_pairAll 0 = .ok (.aload_n 0, 1) := by decide +kernel
theorem dX10_pairAll_1 : decode cX10_pairAll 1 = .ok (.invokevirtual 67, 3) := by decide +kernel
theorem dX10_pairAll_4 : decode cX10_pairAll 4 = .ok (.aload_n 0, 1) := by decide +kernel
theorem dX10_pairAll_5 : decode cX10_pairAll 5 = .ok (.getfield 7, 3) := by decide +kernel
theorem dX10_pairAll_8 : decode cX10_pairAll 8 = .ok (.sipush 364, 3) := by decide +kernel
theorem dX10_pairAll_11 : decode cX10_pairAll 11 = .ok (.iconst 0, 1) := by decide +kernel
theorem dX10_pairAll_12 : decode cX10_pairAll 12 = .ok (.iastore, 1) := by decide +kernel
theorem dX10_pairAll_13 : decode cX10_pairAll 13 = .ok (.aload_n 0, 1) := by decide +kernel
theorem dX10_pairAll_14 : decode cX10_pairAll 14 = .ok (.iconst 0, 1) := by decide +kernel
theorem dX10_pairAll_15 : decode cX10_pairAll 15 = .ok (.invokevirtual 56, 3) := by decide +kernel
theorem dX10_pairAll_18 : decode cX10_pairAll 18 = .ok (.aload_n 0, 1) := by decide +kernel
theorem dX10_pairAll_19 : decode cX10_pairAll 19 = .ok (.iconst 1, 1) := by decide +kernel
theorem dX10_pairAll_20 : decode cX10_pairAll 20 = .ok (.invokevirtual 56, 3) := by decide +kernel
theorem dX10_pairAll_23 : decode cX10_pairAll 23 = .ok (.if_icmp .ge 11, 3) := by decide +kernel
theorem dX10_pairAll_26 : decode cX10_pairAll 26 = .ok (.aload_n 0, 1) := by decide +kernel
theorem dX10_pairAll_27 : decode cX10_pairAll 27 = .ok (.iconst 0, 1) := by decide +kernel
theorem dX10_pairAll_28 : decode cX10_pairAll 28 = .ok (.invokevirtual 56, 3) := by decide +kernel
theorem dX10_pairAll_31 : decode cX10_pairAll 31 = .ok (.goto 8, 3) := by decide +kernel
theorem dX10_pairAll_34 : decode cX10_pairAll 34 = .ok (.aload_n 0, 1) := by decide +kernel
theorem dX10_pairAll_35 : decode cX10_pairAll 35 = .ok (.iconst 1, 1) := by decide +kernel
theorem dX10_pairAll_36 : decode cX10_pairAll 36 = .ok (.invokevirtual 56, 3) := by decide +kernel
theorem dX10_pairAll_39 : decode cX10_pairAll 39 = .ok (.istore_n 1, 1) := by decide +kernel
theorem dX10_pairAll_40 : decode cX10_pairAll 40 = .ok (.iconst 0, 1) := by decide +kernel
theorem dX10_pairAll_41 : decode cX10_pairAll 41 = .ok (.istore_n 2, 1) := by decide +kernel
theorem dX10_pairAll_42 : decode cX10_pairAll 42 = .ok (.iload_n 2, 1) := by decide +kernel
theorem dX10_pairAll_43 : decode cX10_pairAll 43 = .ok (.iload_n 1, 1) := by decide +kernel
theorem dX10_pairAll_44 : decode cX10_pairAll 44 = .ok (.if_icmp .ge 15, 3) := by decide +kernel
theorem dX10_pairAll_47 : decode cX10_pairAll 47 = .ok (.aload_n 0, 1) := by decide +kernel
theorem dX10_pairAll_48 : decode cX10_pairAll 48 = .ok (.iconst 1, 1) := by decide +kernel
theorem dX10_pairAll_49 : decode cX10_pairAll 49 = .ok (.iconst 1, 1) := by decide +kernel
theorem dX10_pairAll_50 : decode cX10_pairAll 50 = .ok (.invokevirtual 70, 3) := by decide +kernel
theorem dX10_pairAll_53 : decode cX10_pairAll 53 = .ok (.iinc 2 1, 3) := by decide +kernel
theorem dX10_pairAll_56 : decode cX10_pairAll 56 = .ok (.goto (-14), 3) := by decide +kernel
theorem dX10_pairAll_59 : decode cX10_pairAll 59 = .ok (.iload_n 1, 1) := by decide +kernel
theorem dX10_pairAll_60 : decode cX10_pairAll 60 = .ok (.istore_n 2, 1) := by decide +kernel
theorem dX10_pairAll_61 : decode cX10_pairAll 61 = .ok (.iload_n 2, 1) := by decide +kernel
theorem dX10_pairAll_62 : decode cX10_pairAll 62 = .ok (.aload_n 0, 1) := by decide +kernel
theorem dX10_pairAll_63 : decode cX10_pairAll 63 = .ok (.iconst 0, 1) := by decide +kernel
theorem dX10_pairAll_64 : decode cX10_pairAll 64 = .ok (.invokevirtual 56, 3) := by decide +kernel
theorem dX10_pairAll_67 : decode cX10_pairAll 67 = .ok (.if_icmp .lt 12, 3) := by decide +kernel
theorem dX10_pairAll_70 : decode cX10_pairAll 70 = .ok (.iload_n 2, 1) := by decide +kernel
theorem dX10_pairAll_71 : decode cX10_pairAll 71 = .ok (.aload_n 0, 1) := by decide +kernel
theorem dX10_pairAll_72 : decode cX10_pairAll 72 = .ok (.iconst 1, 1) := by decide +kernel
theorem dX10_pairAll_73 : decode cX10_pairAll 73 = .ok (.invokevirtual 56, 3) := by decide +kernel
theorem dX10_pairAll_76 : decode cX10_pairAll 76 = .ok (.if_icmp .ge 41, 3) := by decide +kernel
theorem dX10_pairAll_79 : decode cX10_pairAll 79 = .ok (.aload_n 0, 1) := by decide +kernel
theorem dX10_pairAll_80 : decode cX10_pairAll 80 = .ok (.iload_n 2, 1) := by decide +kernel
theorem dX10_pairAll_81 : decode cX10_pairAll 81 = .ok (.aload_n 0, 1) := by decide +kernel
theorem dX10_pairAll_82 : decode cX10_pairAll 82 = .ok (.iconst 0, 1) := by decide +kernel
theorem dX10_pairAll_83 : decode cX10_pairAll 83 = .ok (.invokevirtual 56, 3) := by decide +kernel
theorem dX10_pairAll_86 : decode cX10_pairAll 86 = .ok (.if_icmp .ge 7, 3) := by decide +kernel
theorem dX10_pairAll_89 : decode cX10_pairAll 89 = .ok (.iconst 1, 1) := by decide +kernel
theorem dX10_pairAll_90 : decode cX10_pairAll 90 = .ok (.goto 4, 3) := by decide +kernel
theorem dX10_pairAll_93 : decode cX10_pairAll 93 = .ok (.iconst 0, 1) := by decide +kernel
theorem dX10_pairAll_94 : decode cX10_pairAll 94 = .ok (.iload_n 2, 1) := by decide +kernel
theorem dX10_pairAll_95 : decode cX10_pairAll 95 = .ok (.aload_n 0, 1) := by decide +kernel
theorem dX10_pairAll_96 : decode cX10_pairAll 96 = .ok (.iconst 1, 1) := by decide +kernel
theorem dX10_pairAll_97 : decode cX10_pairAll 97 = .ok (.invokevirtual 56, 3) := by decide +kernel
theorem dX10_pairAll_100 : decode cX10_pairAll 100 = .ok (.if_icmp .ge 7, 3) := by decide +kernel
theorem dX10_pairAll_103 : decode cX10_pairAll 103 = .ok (.iconst 1, 1) := by decide +kernel
theorem dX10_pairAll_104 : decode cX10_pairAll 104 = .ok (.goto 4, 3) := by decide +kernel
theorem dX10_pairAll_107 : decode cX10_pairAll 107 = .ok (.iconst 0, 1) := by decide +kernel
theorem dX10_pairAll_108 : decode cX10_pairAll 108 = .ok (.invokevirtual 70, 3) := by decide +kernel
theorem dX10_pairAll_111 : decode cX10_pairAll 111 = .ok (.iinc 2 1, 3) := by decide +kernel
theorem dX10_pairAll_114 : decode cX10_pairAll 114 = .ok (.goto (-53), 3) := by decide +kernel
theorem dX10_pairAll_117 : decode cX10_pairAll 117 = .ok (.aload_n 0, 1) := by decide +kernel
theorem dX10_pairAll_118 : decode cX10_pairAll 118 = .ok (.invokevirtual 60, 3) := by decide +kernel
theorem dX10_pairAll_121 : decode cX10_pairAll 121 = .ok (.ireturn, 1) := by decide +kernel
theorem dX10_swap_0 : decode cX10_swap 0 = .ok (.aload_n 0, 1) := by decide +kernel
theorem dX10_swap_1 : decode cX10_swap 1 = .ok (.getfield 7, 3) := by decide +kernel
theorem dX10_swap_4 : decode cX10_swap 4 = .ok (.iload_n 1, 1) := by decide +kernel
theorem dX10_swap_5 : decode cX10_swap 5 = .ok (.iaload, 1) := by decide +kernel
theorem dX10_swap_6 : decode cX10_swap 6 = .ok (.istore_n 3, 1) := by decide +kernel
theorem dX10_swap_7 : decode cX10_swap 7 = .ok (.aload_n 0, 1) := by decide +kernel
theorem dX10_swap_8 : decode cX10_swap 8 = .ok (.getfield 7, 3) := by decide +kernel
theorem dX10_swap_11 : decode cX10_swap 11 = .ok (.iload_n 1, 1) := by decide +kernel
theorem dX10_swap_12 : decode cX10_swap 12 = .ok (.aload_n 0, 1) := by decide +kernel
theorem dX10_swap_13 : decode cX10_swap 13 = .ok (.getfield 7, 3) := by decide +kernel
theorem dX10_swap_16 : decode cX10_swap 16 = .ok (.iload_n 2, 1) := by decide +kernel
theorem dX10_swap_17 : decode cX10_swap 17 = .ok (.iaload, 1) := by decide +kernel
theorem dX10_swap_18 : decode cX10_swap 18 = .ok (.iastore, 1) := by decide +kernel
theorem dX10_swap_19 : decode cX10_swap 19 = .ok (.aload_n 0, 1) := by decide +kernel
theorem dX10_swap_20 : decode cX10_swap 20 = .ok (.getfield 7, 3) := by decide +kernel
theorem dX10_swap_23 : decode cX10_swap 23 = .ok (.iload_n 2, 1) := by decide +kernel
theorem dX10_swap_24 : decode cX10_swap 24 = .ok (.iload_n 3, 1) := by decide +kernel
theorem dX10_swap_25 : decode cX10_swap 25 = .ok (.iastore, 1) := by decide +kernel
theorem dX10_swap_26 : decode cX10_swap 26 = .ok (.return_, 1) := by decide +kernel
set_option maxRecDepth 20000 in
theorem ggX10_exchange_X10_record : GoodIn wsX10_exchange wsX10_record := goodIn_r _ [5, 6, 7, 8, 21, 22, 23, 24, 25, 26, 27, 28, 29, 30, 31, 32, 33, 34, 35, 36, 37, 38, 39, 40, 41, 42, 43] (by decide +kernel) (by decide +kernel)
set_option maxRecDepth 20000 in
theorem gX10_exchange_X10_record : GoodIn wsX10_exchange (wsV RX10 67 RX10 yX10_record wsX10_record) := goodIn_app (goodIn_of _ (by decide +kernel)) ggX10_exchange_X10_record
set_option maxRecDepth 20000 in
theorem ggX10_exchange_X10_swap : GoodIn wsX10_exchange wsX10_swap := goodIn_r _ [12, 8, 21, 22, 23, 24, 25, 26, 27, 28, 29, 30, 31, 32, 33, 34, 35, 36, 37, 38, 39, 40, 41, 42, 43] (by decide +kernel) (by decide +kernel)
set_option maxRecDepth 20000 in
theorem gX10_exchange_X10_swap : GoodIn wsX10_exchange (wsV RX10 97 RX10 yX10_swap wsX10_swap) := goodIn_app (goodIn_of _ (by decide +kernel)) ggX10_exchange_X10_swap
set_option maxRecDepth 20000 in
theorem ggX10_exchange_X10_groups : GoodIn wsX10_exchange wsX10_groups := goodIn_r _ [16, 8, 21, 22, 23, 24, 25, 26, 27, 28, 29, 30, 31, 32, 33, 34, 35, 36, 37, 38, 39, 40, 41, 42, 43] (by decide +kernel) (by decide +kernel)
set_option maxRecDepth 20000 in
theorem gX10_exchange_X10_groups : GoodIn wsX10_exchange (wsV RX10 60 RX10 yX10_groups wsX10_groups) := goodIn_app (goodIn_of _ (by decide +kernel)) ggX10_exchange_X10_groups
set_option maxRecDepth 20000 in
theorem ggX10_exchange_X10_has : GoodIn wsX10_exchange wsX10_has := goodIn_r _ [20, 8, 21, 22, 23, 24, 25, 26, 27, 28, 29, 30, 31, 32, 33, 34, 35, 36, 37, 38, 39, 40, 41, 42, 43] (by decide +kernel) (by decide +kernel)
set_option maxRecDepth 20000 in
theorem gX10_exchange_X10_has : GoodIn wsX10_exchange (wsV RX10 78 RX10 yX10_has wsX10_has) := goodIn_app (goodIn_of _ (by decide +kernel)) ggX10_exchange_X10_has
theorem dX10_exchange_0 : decode cX10_exchange 0 = .ok (.aload_n 0, 1) := by decide +kernel
theorem dX10_exchange_1 : decode cX10_exchange 1 = .ok (.invokevirtual 67, 3) := by decide +kernel
theorem dX10_exchange_4 : decode cX10_exchange 4 = .ok (.iconst 0, 1) := by decide +kernel
theorem dX10_exchange_5 : decode cX10_exchange 5 = .ok (.istore_n 1, 1) := by decide +kernel
theorem dX10_exchange_6 : decode cX10_exchange 6 = .ok (.iload_n 1, 1) := by decide +kernel
theorem dX10_exchange_7 : decode cX10_exchange 7 = .ok (.bipush 60, 2) := by decide +kernel
theorem dX10_exchange_9 : decode cX10_exchange 9 = .ok (.if_icmp .ge 45, 3) := by decide +kernel
theorem dX10_exchange_12 : decode cX10_exchange 12 = .ok (.aload_n 0, 1) := by decide +kernel
theorem dX10_exchange_13 : decode cX10_exchange 13 = .ok (.iload_n 1, 1) := by decide +kernel
theorem dX10_exchange_14 : decode cX10_exchange 14 = .ok (.bipush 60, 2) := by decide +kernel
theorem dX10_exchange_16 : decode cX10_exchange 16 = .ok (.iload_n 1, 1) := by decide +kernel
theorem dX10_exchange_17 : decode cX10_exchange 17 = .ok (.iadd, 1) := by decide +kernel
theorem dX10_exchange_18 : decode cX10_exchange 18 = .ok (.invokevirtual 97, 3) := by decide +kernel
theorem dX10_exchange_21 : decode cX10_exchange 21 = .ok (.aload_n 0, 1) := by decide +kernel
theorem dX10_exchange_22 : decode cX10_exchange 22 = .ok (.bipush 120, 2) := by decide +kernel
theorem dX10_exchange_24 : decode cX10_exchange 24 = .ok (.iload_n 1, 1) := by decide +kernel
theorem dX10_exchange_25 : decode cX10_exchange 25 = .ok (.iadd, 1) := by decide +kernel
theorem dX10_exchange_26 : decode cX10_exchange 26 = .ok (.sipush 180, 3) := by decide +kernel
theorem dX10_exchange_29 : decode cX10_exchange 29 = .ok (.iload_n 1, 1) := by decide +kernel
theorem dX10_exchange_30 : decode cX10_exchange 30 = .ok (.iadd, 1) := by decide +kernel
theorem dX10_exchange_31 : decode cX10_exchange 31 = .ok (.invokevirtual 97, 3) := by decide +kernel
theorem dX10_exchange_34 : decode cX10_exchange 34 = .ok (.aload_n 0, 1) := by decide +kernel
theorem dX10_exchange_35 : decode cX10_exchange 35 = .ok (.sipush 240, 3) := by decide +kernel
theorem dX10_exchange_38 : decode cX10_exchange 38 = .ok (.iload_n 1, 1) := by decide +kernel
theorem dX10_exchange_39 : decode cX10_exchange 39 = .ok (.iadd, 1) := by decide +kernel
theorem dX10_exchange_40 : decode cX10_exchange 40 = .ok (.sipush 300, 3) := by decide +kernel
theorem dX10_exchange_43 : decode cX10_exchange 43 = .ok (.iload_n 1, 1) := by decide +kernel
theorem dX10_exchange_44 : decode cX10_exchange 44 = .ok (.iadd, 1) := by decide +kernel
theorem dX10_exchange_45 : decode cX10_exchange 45 = .ok (.invokevirtual 97, 3) := by decide +kernel
theorem dX10_exchange_48 : decode cX10_exchange 48 = .ok (.iinc 1 1, 3) := by decide +kernel
theorem dX10_exchange_51 : decode cX10_exchange 51 = .ok (.goto (-45), 3) := by decide +kernel
theorem dX10_exchange_54 : decode cX10_exchange 54 = .ok (.aload_n 0, 1) := by decide +kernel
theorem dX10_exchange_55 : decode cX10_exchange 55 = .ok (.sipush 360, 3) := by decide +kernel
theorem dX10_exchange_58 : decode cX10_exchange 58 = .ok (.sipush 361, 3) := by decide +kernel
theorem dX10_exchange_61 : decode cX10_exchange 61 = .ok (.invokevirtual 97, 3) := by decide +kernel
theorem dX10_exchange_64 : decode cX10_exchange 64 = .ok (.aload_n 0, 1) := by decide +kernel
theorem dX10_exchange_65 : decode cX10_exchange 65 = .ok (.sipush 362, 3) := by decide +kernel
theorem dX10_exchange_68 : decode cX10_exchange 68 = .ok (.sipush 363, 3) := by decide +kernel
theorem dX10_exchange_71 : decode cX10_exchange 71 = .ok (.invokevirtual 97, 3) := by decide +kernel
theorem dX10_exchange_74 : decode cX10_exchange 74 = .ok (.iconst 0, 1) := by decide +kernel
theorem dX10_exchange_75 : decode cX10_exchange 75 = .ok (.istore_n 1, 1) := by decide +kernel
theorem dX10_exchange_76 : decode cX10_exchange 76 = .ok (.iconst 0, 1) := by decide +kernel
theorem dX10_exchange_77 : decode cX10_exchange 77 = .ok (.istore_n 2, 1) := by decide +kernel
theorem dX10_exchange_78 : decode cX10_exchange 78 = .ok (.iload_n 2, 1) := by decide +kernel
theorem dX10_exchange_79 : decode cX10_exchange 79 = .ok (.aload_n 0, 1) := by decide +kernel
theorem dX10_exchange_80 : decode cX10_exchange 80 = .ok (.invokevirtual 60, 3) := by decide +kernel
theorem dX10_exchange_83 : decode cX10_exchange 83 = .ok (.if_icmp .ge 46, 3) := by decide +kernel
theorem dX10_exchange_86 : decode cX10_exchange 86 = .ok (.aload_n 0, 1) := by decide +kernel
theorem dX10_exchange_87 : decode cX10_exchange 87 = .ok (.sipush 365, 3) := by decide +kernel
theorem dX10_exchange_90 : decode cX10_exchange 90 = .ok (.iload_n 2, 1) := by decide +kernel
theorem dX10_exchange_91 : decode cX10_exchange 91 = .ok (.iadd, 1) := by decide +kernel
theorem dX10_exchange_92 : decode cX10_exchange 92 = .ok (.sipush 485, 3) := by decide +kernel
theorem dX10_exchange_95 : decode cX10_exchange 95 = .ok (.iload_n 2, 1) := by decide +kernel
theorem dX10_exchange_96 : decode cX10_exchange 96 = .ok (.iadd, 1) := by decide +kernel
theorem dX10_exchange_97 : decode cX10_exchange 97 = .ok (.invokevirtual 97, 3) := by decide +kernel
theorem dX10_exchange_100 : decode cX10_exchange 100 = .ok (.iload_n 1, 1) := by decide +kernel
theorem dX10_exchange_101 : decode cX10_exchange 101 = .ok (.aload_n 0, 1) := by decide +kernel
theorem dX10_exchange_102 : decode cX10_exchange 102 = .ok (.iload_n 2, 1) := by decide +kernel
theorem dX10_exchange_103 : decode cX10_exchange 103 = .ok (.iconst 0, 1) := by decide +kernel
theorem dX10_exchange_104 : decode cX10_exchange 104 = .ok (.invokevirtual 78, 3) := by decide +kernel
theorem dX10_exchange_107 : decode cX10_exchange 107 = .ok (.aload_n 0, 1) := by decide +kernel
theorem dX10_exchange_108 : decode cX10_exchange 108 = .ok (.iload_n 2, 1) := by decide +kernel
theorem dX10_exchange_109 : decode cX10_exchange 109 = .ok (.iconst 1, 1) := by decide +kernel
theorem dX10_exchange_110 : decode cX10_exchange 110 = .ok (.invokevirtual 78, 3) := by decide +kernel
theorem dX10_exchange_113 : decode cX10_exchange 113 = .ok (.if_icmp .ne 7, 3) := by decide +kernel
theorem dX10_exchange_116 : decode cX10_exchange 116 = .ok (.iconst 1, 1) := by decide +kernel
theorem dX10_exchange_117 : decode cX10_exchange 117 = .ok (.goto 4, 3) := by decide +kernel
theorem dX10_exchange_120 : decode cX10_exchange 120 = .ok (.iconst 0, 1) := by decide +kernel
theorem dX10_exchange_121 : decode cX10_exchange 121 = .ok (.iadd, 1) := by decide +kernel
theorem dX10_exchange_122 : decode cX10_exchange 122 = .ok (.istore_n 1, 1) := by decide +kernel
theorem dX10_exchange_123 : decode cX10_exchange 123 = .ok (.iinc 2 1, 3) := by decide +kernel
theorem dX10_exchange_126 : decode cX10_exchange 126 = .ok (.goto (-48), 3) := by decide +kernel
theorem dX10_exchange_129 : decode cX10_exchange 129 = .ok (.iload_n 1, 1) := by decide +kernel
theorem dX10_exchange_130 : decode cX10_exchange 130 = .ok (.ireturn, 1) := by decide +kernel
theorem dX10_type_0 : decode cX10_type 0 = .ok (.aload_n 0, 1) := by decide +kernel
theorem dX10_type_1 : decode cX10_type 1 = .ok (.getfield 100, 3) := by decide +kernel
theorem dX10_type_4 : decode cX10_type 4 = .ok (.bipush 80, 2) := by decide +kernel
theorem dX10_type_6 : decode cX10_type 6 = .ok (.if_icmp .ne 6, 3) := by decide +kernel
theorem dX10_type_9 : decode cX10_type 9 = .ok (.bipush (-3), 2) := by decide +kernel
theorem dX10_type_11 : decode cX10_type 11 = .ok (.ireturn, 1) := by decide +kernel
theorem dX10_type_12 : decode cX10_type 12 = .ok (.aload_n 0, 1) := by decide +kernel
theorem dX10_type_13 : decode cX10_type 13 = .ok (.getfield 16, 3) := by decide +kernel
theorem dX10_type_16 : decode cX10_type 16 = .ok (.aload_n 0, 1) := by decide +kernel
theorem dX10_type_17 : decode cX10_type 17 = .ok (.getfield 100, 3) := by decide +kernel
theorem dX10_type_20 : decode cX10_type 20 = .ok (.iload_n 1, 1) := by decide +kernel
theorem dX10_type_21 : decode cX10_type 21 = .ok (.castore, 1) := by decide +kernel
theorem dX10_type_22 : decode cX10_type 22 = .ok (.aload_n 0, 1) := by decide +kernel
theorem dX10_type_23 : decode cX10_type 23 = .ok (.dup, 1) := by decide +kernel
theorem dX10_type_24 : decode cX10_type 24 = .ok (.getfield 100, 3) := by decide +kernel
theorem dX10_type_27 : decode cX10_type 27 = .ok (.iconst 1, 1) := by decide +kernel
theorem dX10_type_28 : decode cX10_type 28 = .ok (.iadd, 1) := by decide +kernel
theorem dX10_type_29 : decode cX10_type 29 = .ok (.putfield 100, 3) := by decide +kernel
theorem dX10_type_32 : decode cX10_type 32 = .ok (.aload_n 0, 1) := by decide +kernel
theorem dX10_type_33 : decode cX10_type 33 = .ok (.getfield 100, 3) := by decide +kernel
theorem dX10_type_36 : decode cX10_type 36 = .ok (.ireturn, 1) := by decide +kernel
theorem dX10_clearText_0 : decode cX10_clearText 0 = .ok (.aload_n 0, 1) := by decide +kernel
theorem dX10_clearText_1 : decode cX10_clearText 1 = .ok (.getfield 100, 3) := by decide +kernel
theorem dX10_clearText_4 : decode cX10_clearText 4 = .ok (.istore_n 1, 1) := by decide +kernel
theorem dX10_clearText_5 : decode cX10_clearText 5 = .ok (.aload_n 0, 1) := by decide +kernel
theorem dX10_clearText_6 : decode cX10_clearText 6 = .ok (.iconst 0, 1) := by decide +kernel
theorem dX10_clearText_7 : decode cX10_clearText 7 = .ok (.putfield 100, 3) := by decide +kernel
theorem dX10_clearText_10 : decode cX10_clearText 10 = .ok (.iload_n 1, 1) := by decide +kernel
theorem dX10_clearText_11 : decode cX10_clearText 11 = .ok (.ireturn, 1) := by decide +kernel
theorem dX10_isAt_0 : decode cX10_isAt 0 = .ok (.aload_n 0, 1) := by decide +kernel
theorem dX10_isAt_1 : decode cX10_isAt 1 = .ok (.getfield 103, 3) := by decide +kernel
theorem dX10_isAt_4 : decode cX10_isAt 4 = .ok (.aload_n 0, 1) := by decide +kernel
theorem dX10_isAt_5 : decode cX10_isAt 5 = .ok (.getfield 100, 3) := by decide +kernel
theorem dX10_isAt_8 : decode cX10_isAt 8 = .ok (.if_icmp .ge 33, 3) := by decide +kernel
theorem dX10_isAt_11 : decode cX10_isAt 11 = .ok (.aload_n 0, 1) := by decide +kernel
theorem dX10_isAt_12 : decode cX10_isAt 12 = .ok (.getfield 16, 3) := by decide +kernel
theorem dX10_isAt_15 : decode cX10_isAt 15 = .ok (.aload_n 0, 1) := by decide +kernel
theorem dX10_isAt_16 : decode cX10_isAt 16 = .ok (.getfield 103, 3) := by decide +kernel
theorem dX10_isAt_19 : decode cX10_isAt 19 = .ok (.caload, 1) := by decide +kernel
theorem dX10_isAt_20 : decode cX10_isAt 20 = .ok (.iload_n 1, 1) := by decide +kernel
theorem dX10_isAt_21 : decode cX10_isAt 21 = .ok (.if_icmp .lt 20, 3) := by decide +kernel
theorem dX10_isAt_24 : decode cX10_isAt 24 = .ok (.aload_n 0, 1) := by decide +kernel
theorem dX10_isAt_25 : decode cX10_isAt 25 = .ok (.getfield 16, 3) := by decide +kernel
theorem dX10_isAt_28 : decode cX10_isAt 28 = .ok (.aload_n 0, 1) := by decide +kernel
theorem dX10_isAt_29 : decode cX10_isAt 29 = .ok (.getfield 103, 3) := by decide +kernel
theorem dX10_isAt_32 : decode cX10_isAt 32 = .ok (.caload, 1) := by decide +kernel
theorem dX10_isAt_33 : decode cX10_isAt 33 = .ok (.iload_n 2, 1) := by decide +kernel
theorem dX10_isAt_34 : decode cX10_isAt 34 = .ok (.if_icmp .gt 7, 3) := by decide +kernel
theorem dX10_isAt_37 : decode cX10_isAt 37 = .ok (.iconst 1, 1) := by decide +kernel
theorem dX10_isAt_38 : decode cX10_isAt 38 = .ok (.goto 4, 3) := by decide +kernel
theorem dX10_isAt_41 : decode cX10_isAt 41 = .ok (.iconst 0, 1) := by decide +kernel
theorem dX10_isAt_42 : decode cX10_isAt 42 = .ok (.ireturn, 1) := by decide +kernel
set_option maxRecDepth 20000 in
theorem ggX10_number_X10_isAt : GoodIn wsX10_number wsX10_isAt := goodIn_r _ [9, 1, 10, 4, 11, 12, 13, 14, 15, 16, 17, 18, 19, 20, 21, 22, 23, 24, 25, 26, 27, 28, 29, 30, 31, 32, 33] (by decide +kernel) (by decide +kernel)
set_option maxRecDepth 20000 in
theorem gX10_number_X10_isAt : GoodIn wsX10_number (wsV RX10 113 RX10 yX10_isAt wsX10_isAt) := goodIn_app (goodIn_of _ (by decide +kernel)) ggX10_number_X10_isAt
theorem dX10_number_0 : decode cX10_number 0 = .ok (.aload_n 0, 1) := by decide +kernel
theorem dX10_number_1 : decode cX10_number 1 = .ok (.aload_n 0, 1) := by decide +kernel
theorem dX10_number_2 : decode cX10_number 2 = .ok (.getfield 103, 3) := by decide +kernel
theorem dX10_number_5 : decode cX10_number 5 = .ok (.putfield 106, 3) := by decide +kernel
theorem dX10_number_8 : decode cX10_number 8 = .ok (.iconst 0, 1) := by decide +kernel
theorem dX10_number_9 : decode cX10_number 9 = .ok (.istore_n 1, 1) := by decide +kernel
theorem dX10_number_10 : decode cX10_number 10 = .ok (.aload_n 0, 1) := by decide +kernel
theorem dX10_number_11 : decode cX10_number 11 = .ok (.getfield 109, 3) := by decide +kernel
theorem dX10_number_14 : decode cX10_number 14 = .ok (.ifCond .eq 74, 3) := by decide +kernel
theorem dX10_number_17 : decode cX10_number 17 = .ok (.aload_n 0, 1) := by decide +kernel
theorem dX10_number_18 : decode cX10_number 18 = .ok (.getfield 103, 3) := by decide +kernel
theorem dX10_number_21 : decode cX10_number 21 = .ok (.aload_n 0, 1) := by decide +kernel
theorem dX10_number_22 : decode cX10_number 22 = .ok (.getfield 106, 3) := by decide +kernel
theorem dX10_number_25 : decode cX10_number 25 = .ok (.iconst 2, 1) := by decide +kernel
theorem dX10_number_26 : decode cX10_number 26 = .ok (.iadd, 1) := by decide +kernel
theorem dX10_number_27 : decode cX10_number 27 = .ok (.if_icmp .ge 61, 3) := by decide +kernel
theorem dX10_number_30 : decode cX10_number 30 = .ok (.aload_n 0, 1) := by decide +kernel
theorem dX10_number_31 : decode cX10_number 31 = .ok (.aload_n 0, 1) := by decide +kernel
theorem dX10_number_32 : decode cX10_number 32 = .ok (.getfield 103, 3) := by decide +kernel
theorem dX10_number_35 : decode cX10_number 35 = .ok (.aload_n 0, 1) := by decide +kernel
theorem dX10_number_36 : decode cX10_number 36 = .ok (.getfield 106, 3) := by decide +kernel
theorem dX10_number_39 : decode cX10_number 39 = .ok (.if_icmp .ne 8, 3) := by decide +kernel
theorem dX10_number_42 : decode cX10_number 42 = .ok (.bipush 49, 2) := by decide +kernel
theorem dX10_number_44 : decode cX10_number 44 = .ok (.goto 5, 3) := by decide +kernel
theorem dX10_number_47 : decode cX10_number 47 = .ok (.bipush 48, 2) := by decide +kernel
theorem dX10_number_49 : decode cX10_number 49 = .ok (.bipush 57, 2) := by decide +kernel
theorem dX10_number_51 : decode cX10_number 51 = .ok (.invokevirtual 113, 3) := by decide +kernel
theorem dX10_number_54 : decode cX10_number 54 = .ok (.ifCond .eq 34, 3) := by decide +kernel
theorem dX10_number_57 : decode cX10_number 57 = .ok (.bipush 10, 2) := by decide +kernel
theorem dX10_number_59 : decode cX10_number 59 = .ok (.iload_n 1, 1) := by decide +kernel
theorem dX10_number_60 : decode cX10_number 60 = .ok (.imul, 1) := by decide +kernel
theorem dX10_number_61 : decode cX10_number 61 = .ok (.aload_n 0, 1) := by decide +kernel
theorem dX10_number_62 : decode cX10_number 62 = .ok (.getfield 16, 3) := by decide +kernel
theorem dX10_number_65 : decode cX10_number 65 = .ok (.aload_n 0, 1) := by decide +kernel
theorem dX10_number_66 : decode cX10_number 66 = .ok (.getfield 103, 3) := by decide +kernel
theorem dX10_number_69 : decode cX10_number 69 = .ok (.caload, 1) := by decide +kernel
theorem dX10_number_70 : decode cX10_number 70 = .ok (.iadd, 1) := by decide +kernel
theorem dX10_number_71 : decode cX10_number 71 = .ok (.bipush 48, 2) := by decide +kernel
theorem dX10_number_73 : decode cX10_number 73 = .ok (.isub, 1) := by decide +kernel
theorem dX10_number_74 : decode cX10_number 74 = .ok (.istore_n 1, 1) := by decide +kernel
theorem dX10_number_75 : decode cX10_number 75 = .ok (.aload_n 0, 1) := by decide +kernel
theorem dX10_number_76 : decode cX10_number 76 = .ok (.dup, 1) := by decide +kernel
theorem dX10_number_77 : decode cX10_number 77 = .ok (.getfield 103, 3) := by decide +kernel
theorem dX10_number_80 : decode cX10_number 80 = .ok (.iconst 1, 1) := by decide +kernel
theorem dX10_number_81 : decode cX10_number 81 = .ok (.iadd, 1) := by decide +kernel
theorem dX10_number_82 : decode cX10_number 82 = .ok (.putfield 103, 3) := by decide +kernel
theorem dX10_number_85 : decode cX10_number 85 = .ok (.goto (-75), 3) := by decide +kernel
theorem dX10_number_88 : decode cX10_number 88 = .ok (.aload_n 0, 1) := by decide +kernel
theorem dX10_number_89 : decode cX10_number 89 = .ok (.aload_n 0, 1) := by decide +kernel
theorem dX10_number_90 : decode cX10_number 90 = .ok (.getfield 109, 3) := by decide +kernel
theorem dX10_number_93 : decode cX10_number 93 = .ok (.ifCond .eq 29, 3) := by decide +kernel
theorem dX10_number_96 : decode cX10_number 96 = .ok (.aload_n 0, 1) := by decide +kernel
theorem dX10_number_97 : decode cX10_number 97 = .ok (.getfield 103, 3) := by decide +kernel
theorem dX10_number_100 : decode cX10_number 100 = .ok (.aload_n 0, 1) := by decide +kernel
theorem dX10_number_101 : decode cX10_number 101 = .ok (.getfield 106, 3) := by decide +kernel
theorem dX10_number_104 : decode cX10_number 104 = .ok (.if_icmp .le 18, 3) := by decide +kernel
theorem dX10_number_107 : decode cX10_number 107 = .ok (.aload_n 0, 1) := by decide +kernel
theorem dX10_number_108 : decode cX10_number 108 = .ok (.bipush 48, 2) := by decide +kernel
theorem dX10_number_110 : decode cX10_number 110 = .ok (.bipush 57, 2) := by decide +kernel
theorem dX10_number_112 : decode cX10_number 112 = .ok (.invokevirtual 113, 3) := by decide +kernel
theorem dX10_number_115 : decode cX10_number 115 = .ok (.ifCond .ne 7, 3) := by decide +kernel
theorem dX10_number_118 : decode cX10_number 118 = .ok (.iconst 1, 1) := by decide +kernel
theorem dX10_number_119 : decode cX10_number 119 = .ok (.goto 4, 3) := by decide +kernel
theorem dX10_number_122 : decode cX10_number 122 = .ok (.iconst 0, 1) := by decide +kernel
theorem dX10_number_123 : decode cX10_number 123 = .ok (.putfield 109, 3) := by decide +kernel
theorem dX10_number_126 : decode cX10_number 126 = .ok (.iload_n 1, 1) := by decide +kernel
theorem dX10_number_127 : decode cX10_number 127 = .ok (.ireturn, 1) := by decide +kernel
theorem dX10_needs_0 : decode cX10_needs 0 = .ok (.aload_n 0, 1) := by decide +kernel
theorem dX10_needs_1 : decode cX10_needs 1 = .ok (.getfield 109, 3) := by decide +kernel
theorem dX10_needs_4 : decode cX10_needs 4 = .ok (.ifCond .eq 20, 3) := by decide +kernel
theorem dX10_needs_7 : decode cX10_needs 7 = .ok (.iload_n 1, 1) := by decide +kernel
theorem dX10_needs_8 : decode cX10_needs 8 = .ok (.ifCond .ne 16, 3) := by decide +kernel
theorem dX10_needs_11 : decode cX10_needs 11 = .ok (.aload_n 0, 1) := by decide +kernel
theorem dX10_needs_12 : decode cX10_needs 12 = .ok (.iconst 0, 1) := by decide +kernel
theorem dX10_needs_13 : decode cX10_needs 13 = .ok (.putfield 109, 3) := by decide +kernel
theorem dX10_needs_16 : decode cX10_needs 16 = .ok (.aload_n 0, 1) := by decide +kernel
theorem dX10_needs_17 : decode cX10_needs 17 = .ok (.aload_n 0, 1) := by decide +kernel
theorem dX10_needs_18 : decode cX10_needs 18 = .ok (.getfield 106, 3) := by decide +kernel
theorem dX10_needs_21 : decode cX10_needs 21 = .ok (.putfield 103, 3) := by decide +kernel
theorem dX10_needs_24 : decode cX10_needs 24 = .ok (.return_, 1) := by decide +kernel
set_option maxRecDepth 20000 in
theorem ggX10_sign_X10_isAt : GoodIn wsX10_sign wsX10_isAt := goodIn_r _ [7, 2, 8, 9, 10, 11, 12, 13, 14, 15, 16, 17, 18, 19, 20, 21, 22, 23, 24, 25, 26, 27, 28, 29, 30, 31, 32] (by decide +kernel) (by decide +kernel)
set_option maxRecDepth 20000 in
theorem gX10_sign_X10_isAt : GoodIn wsX10_sign (wsV RX10 113 RX10 yX10_isAt wsX10_isAt) := goodIn_app (goodIn_of _ (by decide +kernel)) ggX10_sign_X10_isAt
theorem dX10_sign_0 : decode cX10_sign 0 = .ok (.aload_n 0, 1) := by decide +kernel
theorem dX10_sign_1 : decode cX10_sign 1 = .ok (.getfield 109, 3) := by decide +kernel
theorem dX10_sign_4 : decode cX10_sign 4 = .ok (.ifCond .eq 25, 3) := by decide +kernel
theorem dX10_sign_7 : decode cX10_sign 7 = .ok (.aload_n 0, 1) := by decide +kernel
theorem dX10_sign_8 : decode cX10_sign 8 = .ok (.iload_n 1, 1) := by decide +kernel
theorem dX10_sign_9 : decode cX10_sign 9 = .ok (.iload_n 1, 1) := by decide +kernel
theorem dX10_sign_10 : decode cX10_sign 10 = .ok (.invokevirtual 113, 3) := by decide +kernel
theorem dX10_sign_13 : decode cX10_sign 13 = .ok (.ifCond .eq 16, 3) := by decide +kernel
theorem dX10_sign_16 : decode cX10_sign 16 = .ok (.aload_n 0, 1) := by decide +kernel
theorem dX10_sign_17 : decode cX10_sign 17 = .ok (.dup, 1) := by decide +kernel
theorem dX10_sign_18 : decode cX10_sign 18 = .ok (.getfield 103, 3) := by decide +kernel
theorem dX10_sign_21 : decode cX10_sign 21 = .ok (.iconst 1, 1) := by decide +kernel
theorem dX10_sign_22 : decode cX10_sign 22 = .ok (.iadd, 1) := by decide +kernel
theorem dX10_sign_23 : decode cX10_sign 23 = .ok (.putfield 103, 3) := by decide +kernel
theorem dX10_sign_26 : decode cX10_sign 26 = .ok (.goto 8, 3) := by decide +kernel
theorem dX10_sign_29 : decode cX10_sign 29 = .ok (.aload_n 0, 1) := by decide +kernel
theorem dX10_sign_30 : decode cX10_sign 30 = .ok (.iconst 0, 1) := by decide +kernel
theorem dX10_sign_31 : decode cX10_sign 31 = .ok (.putfield 109, 3) := by decide +kernel
theorem dX10_sign_34 : decode cX10_sign 34 = .ok (.return_, 1) := by decide +kernel
theorem dX10_put_0 : decode cX10_put 0 = .ok (.aload_n 0, 1) := by decide +kernel
theorem dX10_put_1 : decode cX10_put 1 = .ok (.getfield 20, 3) := by decide +kernel
theorem dX10_put_4 : decode cX10_put 4 = .ok (.aload_n 0, 1) := by decide +kernel
theorem dX10_put_5 : decode cX10_put 5 = .ok (.getfield 117, 3) := by decide +kernel
theorem dX10_put_8 : decode cX10_put 8 = .ok (.iload_n 1, 1) := by decide +kernel
theorem dX10_put_9 : decode cX10_put 9 = .ok (.iastore, 1) := by decide +kernel
theorem dX10_put_10 : decode cX10_put 10 = .ok (.aload_n 0, 1) := by decide +kernel
theorem dX10_put_11 : decode cX10_put 11 = .ok (.getfield 23, 3) := by decide +kernel
theorem dX10_put_14 : decode cX10_put 14 = .ok (.aload_n 0, 1) := by decide +kernel
theorem dX10_put_15 : decode cX10_put 15 = .ok (.getfield 117, 3) := by decide +kernel
theorem dX10_put_18 : decode cX10_put 18 = .ok (.iload_n 2, 1) := by decide +kernel
theorem dX10_put_19 : decode cX10_put 19 = .ok (.iastore, 1) := by decide +kernel
theorem dX10_put_20 : decode cX10_put 20 = .ok (.aload_n 0, 1) := by decide +kernel
theorem dX10_put_21 : decode cX10_put 21 = .ok (.dup, 1) := by decide +kernel
theorem dX10_put_22 : decode cX10_put 22 = .ok (.getfield 117, 3) := by decide +kernel
theorem dX10_put_25 : decode cX10_put 25 = .ok (.iconst 1, 1) := by decide +kernel
theorem dX10_put_26 : decode cX10_put 26 = .ok (.iadd, 1) := by decide +kernel
theorem dX10_put_27 : decode cX10_put 27 = .ok (.putfield 117, 3) := by decide +kernel
theorem dX10_put_30 : decode cX10_put 30 = .ok (.aload_n 0, 1) := by decide +kernel
theorem dX10_put_31 : decode cX10_put 31 = .ok (.dup, 1) := by decide +kernel
theorem dX10_put_32 : decode cX10_put 32 = .ok (.getfield 120, 3) := by decide +kernel
theorem dX10_put_35 : decode cX10_put 35 = .ok (.iload_n 1, 1) := by decide +kernel
theorem dX10_put_36 : decode cX10_put 36 = .ok (.isub, 1) := by decide +kernel
theorem dX10_put_37 : decode cX10_put 37 = .ok (.putfield 120, 3) := by decide +kernel
theorem dX10_put_40 : decode cX10_put 40 = .ok (.aload_n 0, 1) := by decide +kernel
theorem dX10_put_41 : decode cX10_put 41 = .ok (.dup, 1) := by decide +kernel
theorem dX10_put_42 : decode cX10_put 42 = .ok (.getfield 123, 3) := by decide +kernel
theorem dX10_put_45 : decode cX10_put 45 = .ok (.iload_n 2, 1) := by decide +kernel
theorem dX10_put_46 : decode cX10_put 46 = .ok (.isub, 1) := by decide +kernel
theorem dX10_put_47 : decode cX10_put 47 = .ok (.putfield 123, 3) := by decide +kernel
theorem dX10_put_50 : decode cX10_put 50 = .ok (.return_, 1) := by decide +kernel
set_option maxRecDepth 20000 in
theorem ggX10_readItem_X10_number : GoodIn wsX10_readItem wsX10_number := goodIn_r _ [10, 3, 11, 1, 2, 12, 13, 14, 9, 15, 16, 28, 29, 30, 31, 32, 33, 34, 35, 36, 37, 38, 39, 40, 41, 42, 43, 44, 45, 46, 47, 48, 49, 50] (by decide +kernel) (by decide +kernel)
set_option maxRecDepth 20000 in
theorem gX10_readItem_X10_number : GoodIn wsX10_readItem (wsV RX10 126 RX10 yX10_number wsX10_number) := goodIn_app (goodIn_of _ (by decide +kernel)) ggX10_readItem_X10_number
set_option maxRecDepth 20000 in
theorem ggX10_readItem_X10_isAt : GoodIn wsX10_readItem wsX10_isAt := goodIn_r _ [15, 3, 16, 2, 28, 29, 30, 31, 32, 33, 34, 35, 36, 37, 38, 39, 40, 41, 42, 43, 44, 45, 46, 47, 48, 49, 50] (by decide +kernel) (by decide +kernel)
set_option maxRecDepth 20000 in
theorem gX10_readItem_X10_isAt : GoodIn wsX10_readItem (wsV RX10 113 RX10 yX10_isAt wsX10_isAt) := goodIn_app (goodIn_of _ (by decide +kernel)) ggX10_readItem_X10_isAt
set_option maxRecDepth 20000 in
theorem ggX10_readItem_X10_needs : GoodIn wsX10_readItem wsX10_needs := goodIn_r _ [20, 1, 11, 3, 28, 29, 30, 31, 32, 33, 34, 35, 36, 37, 38, 39, 40, 41, 42, 43, 44, 45, 46, 47, 48, 49, 50] (by decide +kernel) (by decide +kernel)
set_option maxRecDepth 20000 in
theorem gX10_readItem_X10_needs : GoodIn wsX10_readItem (wsV RX10 129 RX10 yX10_needs wsX10_needs) := goodIn_app (goodIn_of _ (by decide +kernel)) ggX10_readItem_X10_needs
set_option maxRecDepth 20000 in
theorem ggX10_readItem_X10_put : GoodIn wsX10_readItem wsX10_put := goodIn_r _ [24, 25, 26, 27, 4, 5, 28, 29, 30, 31, 32, 33, 34, 35, 36, 37, 38, 39, 40, 41, 42, 43, 44, 45, 46, 47, 48, 49, 50] (by decide +kernel) (by decide +kernel)
set_option maxRecDepth 20000 in
theorem gX10_readItem_X10_put : GoodIn wsX10_readItem (wsV RX10 133 RX10 yX10_put wsX10_put) := goodIn_app (goodIn_of _ (by decide +kernel)) ggX10_readItem_X10_put
theorem dX10_readItem_0 : decode cX10_readItem 0 = .ok (.aload_n 0, 1) := by decide +kernel
theorem dX10_readItem_1 : decode cX10_readItem 1 = .ok (.invokevirtual 126, 3) := by decide +kernel
theorem dX10_readItem_4 : decode cX10_readItem 4 = .ok (.istore_n 1, 1) := by decide +kernel
theorem dX10_readItem_5 : decode cX10_readItem 5 = .ok (.aload_n 0, 1) := by decide +kernel
theorem dX10_readItem_6 : decode cX10_readItem 6 = .ok (.getfield 109, 3) := by decide +kernel
theorem dX10_readItem_9 : decode cX10_readItem 9 = .ok (.ifCond .eq 51, 3) := by decide +kernel
theorem dX10_readItem_12 : decode cX10_readItem 12 = .ok (.aload_n 0, 1) := by decide +kernel
theorem dX10_readItem_13 : decode cX10_readItem 13 = .ok (.bipush 61, 2) := by decide +kernel
theorem dX10_readItem_15 : decode cX10_readItem 15 = .ok (.bipush 61, 2) := by decide +kernel
theorem dX10_readItem_17 : decode cX10_readItem 17 = .ok (.invokevirtual 113, 3) := by decide +kernel
theorem dX10_readItem_20 : decode cX10_readItem 20 = .ok (.ifCond .ne 36, 3) := by decide +kernel
theorem dX10_readItem_23 : decode cX10_readItem 23 = .ok (.aload_n 0, 1) := by decide +kernel
theorem dX10_readItem_24 : decode cX10_readItem 24 = .ok (.bipush 60, 2) := by decide +kernel
theorem dX10_readItem_26 : decode cX10_readItem 26 = .ok (.bipush 60, 2) := by decide +kernel
theorem dX10_readItem_28 : decode cX10_readItem 28 = .ok (.invokevirtual 113, 3) := by decide +kernel
theorem dX10_readItem_31 : decode cX10_readItem 31 = .ok (.ifCond .ne 25, 3) := by decide +kernel
theorem dX10_readItem_34 : decode cX10_readItem 34 = .ok (.aload_n 0, 1) := by decide +kernel
theorem dX10_readItem_35 : decode cX10_readItem 35 = .ok (.bipush 62, 2) := by decide +kernel
theorem dX10_readItem_37 : decode cX10_readItem 37 = .ok (.bipush 62, 2) := by decide +kernel
theorem dX10_readItem_39 : decode cX10_readItem 39 = .ok (.invokevirtual 113, 3) := by decide +kernel
theorem dX10_readItem_42 : decode cX10_readItem 42 = .ok (.ifCond .ne 14, 3) := by decide +kernel
theorem dX10_readItem_45 : decode cX10_readItem 45 = .ok (.aload_n 0, 1) := by decide +kernel
theorem dX10_readItem_46 : decode cX10_readItem 46 = .ok (.bipush 43, 2) := by decide +kernel
theorem dX10_readItem_48 : decode cX10_readItem 48 = .ok (.bipush 43, 2) := by decide +kernel
theorem dX10_readItem_50 : decode cX10_readItem 50 = .ok (.invokevirtual 113, 3) := by decide +kernel
theorem dX10_readItem_53 : decode cX10_readItem 53 = .ok (.ifCond .eq 7, 3) := by decide +kernel
theorem dX10_readItem_56 : decode cX10_readItem 56 = .ok (.iconst 1, 1) := by decide +kernel
theorem dX10_readItem_57 : decode cX10_readItem 57 = .ok (.goto 4, 3) := by decide +kernel
theorem dX10_readItem_60 : decode cX10_readItem 60 = .ok (.iconst 0, 1) := by decide +kernel
theorem dX10_readItem_61 : decode cX10_readItem 61 = .ok (.istore_n 2, 1) := by decide +kernel
theorem dX10_readItem_62 : decode cX10_readItem 62 = .ok (.iload_n 2, 1) := by decide +kernel
theorem dX10_readItem_63 : decode cX10_readItem 63 = .ok (.ifCond .eq 15, 3) := by decide +kernel
theorem dX10_readItem_66 : decode cX10_readItem 66 = .ok (.aload_n 0, 1) := by decide +kernel
theorem dX10_readItem_67 : decode cX10_readItem 67 = .ok (.getfield 16, 3) := by decide +kernel
theorem dX10_readItem_70 : decode cX10_readItem 70 = .ok (.aload_n 0, 1) := by decide +kernel
theorem dX10_readItem_71 : decode cX10_readItem 71 = .ok (.getfield 103, 3) := by decide +kernel
theorem dX10_readItem_74 : decode cX10_readItem 74 = .ok (.caload, 1) := by decide +kernel
theorem dX10_readItem_75 : decode cX10_readItem 75 = .ok (.goto 5, 3) := by decide +kernel
theorem dX10_readItem_78 : decode cX10_readItem 78 = .ok (.bipush 32, 2) := by decide +kernel
theorem dX10_readItem_80 : decode cX10_readItem 80 = .ok (.istore_n 3, 1) := by decide +kernel
theorem dX10_readItem_81 : decode cX10_readItem 81 = .ok (.iload_n 2, 1) := by decide +kernel
theorem dX10_readItem_82 : decode cX10_readItem 82 = .ok (.ifCond .ne 9, 3) := by decide +kernel
theorem dX10_readItem_85 : decode cX10_readItem 85 = .ok (.aload_n 0, 1) := by decide +kernel
theorem dX10_readItem_86 : decode cX10_readItem 86 = .ok (.iconst 0, 1) := by decide +kernel
theorem dX10_readItem_87 : decode cX10_readItem 87 = .ok (.putfield 109, 3) := by decide +kernel
theorem dX10_readItem_90 : decode cX10_readItem 90 = .ok (.return_, 1) := by decide +kernel
theorem dX10_readItem_91 : decode cX10_readItem 91 = .ok (.aload_n 0, 1) := by decide +kernel
theorem dX10_readItem_92 : decode cX10_readItem 92 = .ok (.dup, 1) := by decide +kernel
theorem dX10_readItem_93 : decode cX10_readItem 93 = .ok (.getfield 103, 3) := by decide +kernel
theorem dX10_readItem_96 : decode cX10_readItem 96 = .ok (.iconst 1, 1) := by decide +kernel
theorem dX10_readItem_97 : decode cX10_readItem 97 = .ok (.iadd, 1) := by decide +kernel
theorem dX10_readItem_98 : decode cX10_readItem 98 = .ok (.putfield 103, 3) := by decide +kernel
theorem dX10_readItem_101 : decode cX10_readItem 101 = .ok (.aload_n 0, 1) := by decide +kernel
theorem dX10_readItem_102 : decode cX10_readItem 102 = .ok (.iload_n 3, 1) := by decide +kernel
theorem dX10_readItem_103 : decode cX10_readItem 103 = .ok (.bipush 62, 2) := by decide +kernel
theorem dX10_readItem_105 : decode cX10_readItem 105 = .ok (.if_icmp .eq 11, 3) := by decide +kernel
theorem dX10_readItem_108 : decode cX10_readItem 108 = .ok (.iload_n 1, 1) := by decide +kernel
theorem dX10_readItem_109 : decode cX10_readItem 109 = .ok (.aload_n 0, 1) := by decide +kernel
theorem dX10_readItem_110 : decode cX10_readItem 110 = .ok (.getfield 120, 3) := by decide +kernel
theorem dX10_readItem_113 : decode cX10_readItem 113 = .ok (.if_icmp .gt 27, 3) := by decide +kernel
theorem dX10_readItem_116 : decode cX10_readItem 116 = .ok (.iload_n 3, 1) := by decide +kernel
theorem dX10_readItem_117 : decode cX10_readItem 117 = .ok (.bipush 62, 2) := by decide +kernel
theorem dX10_readItem_119 : decode cX10_readItem 119 = .ok (.if_icmp .eq 9, 3) := by decide +kernel
theorem dX10_readItem_122 : decode cX10_readItem 122 = .ok (.iload_n 3, 1) := by decide +kernel
theorem dX10_readItem_123 : decode cX10_readItem 123 = .ok (.bipush 61, 2) := by decide +kernel
theorem dX10_readItem_125 : decode cX10_readItem 125 = .ok (.if_icmp .ne 11, 3) := by decide +kernel
theorem dX10_readItem_128 : decode cX10_readItem 128 = .ok (.iload_n 1, 1) := by decide +kernel
theorem dX10_readItem_129 : decode cX10_readItem 129 = .ok (.aload_n 0, 1) := by decide +kernel
theorem dX10_readItem_130 : decode cX10_readItem 130 = .ok (.getfield 123, 3) := by decide +kernel
theorem dX10_readItem_133 : decode cX10_readItem 133 = .ok (.if_icmp .gt 7, 3) := by decide +kernel
theorem dX10_readItem_136 : decode cX10_readItem 136 = .ok (.iconst 1, 1) := by decide +kernel
theorem dX10_readItem_137 : decode cX10_readItem 137 = .ok (.goto 4, 3) := by decide +kernel
theorem dX10_readItem_140 : decode cX10_readItem 140 = .ok (.iconst 0, 1) := by decide +kernel
theorem dX10_readItem_141 : decode cX10_readItem 141 = .ok (.invokevirtual 129, 3) := by decide +kernel
theorem dX10_readItem_144 : decode cX10_readItem 144 = .ok (.aload_n 0, 1) := by decide +kernel
theorem dX10_readItem_145 : decode cX10_readItem 145 = .ok (.getfield 109, 3) := by decide +kernel
theorem dX10_readItem_148 : decode cX10_readItem 148 = .ok (.ifCond .eq 48, 3) := by decide +kernel
theorem dX10_readItem_151 : decode cX10_readItem 151 = .ok (.iload_n 3, 1) := by decide +kernel
theorem dX10_readItem_152 : decode cX10_readItem 152 = .ok (.bipush 43, 2) := by decide +kernel
theorem dX10_readItem_154 : decode cX10_readItem 154 = .ok (.if_icmp .ne 42, 3) := by decide +kernel
theorem dX10_readItem_157 : decode cX10_readItem 157 = .ok (.aload_n 0, 1) := by decide +kernel
theorem dX10_readItem_158 : decode cX10_readItem 158 = .ok (.invokevirtual 126, 3) := by decide +kernel
theorem dX10_readItem_161 : decode cX10_readItem 161 = .ok (.istore 4, 2) := by decide +kernel
theorem dX10_readItem_163 : decode cX10_readItem 163 = .ok (.aload_n 0, 1) := by decide +kernel
theorem dX10_readItem_164 : decode cX10_readItem 164 = .ok (.iload 4, 2) := by decide +kernel
theorem dX10_readItem_166 : decode cX10_readItem 166 = .ok (.aload_n 0, 1) := by decide +kernel
theorem dX10_readItem_167 : decode cX10_readItem 167 = .ok (.getfield 123, 3) := by decide +kernel
theorem dX10_readItem_170 : decode cX10_readItem 170 = .ok (.if_icmp .gt 7, 3) := by decide +kernel
theorem dX10_readItem_173 : decode cX10_readItem 173 = .ok (.iconst 1, 1) := by decide +kernel
theorem dX10_readItem_174 : decode cX10_readItem 174 = .ok (.goto 4, 3) := by decide +kernel
theorem dX10_readItem_177 : decode cX10_readItem 177 = .ok (.iconst 0, 1) := by decide +kernel
theorem dX10_readItem_178 : decode cX10_readItem 178 = .ok (.invokevirtual 129, 3) := by decide +kernel
theorem dX10_readItem_181 : decode cX10_readItem 181 = .ok (.aload_n 0, 1) := by decide +kernel
theorem dX10_readItem_182 : decode cX10_readItem 182 = .ok (.getfield 109, 3) := by decide +kernel
theorem dX10_readItem_185 : decode cX10_readItem 185 = .ok (.ifCond .eq 10, 3) := by decide +kernel
theorem dX10_readItem_188 : decode cX10_readItem 188 = .ok (.aload_n 0, 1) := by decide +kernel
theorem dX10_readItem_189 : decode cX10_readItem 189 = .ok (.iload_n 1, 1) := by decide +kernel
theorem dX10_readItem_190 : decode cX10_readItem 190 = .ok (.iload 4, 2) := by decide +kernel
theorem dX10_readItem_192 : decode cX10_readItem 192 = .ok (.invokevirtual 133, 3) := by decide +kernel
theorem dX10_readItem_195 : decode cX10_readItem 195 = .ok (.return_, 1) := by decide +kernel
theorem dX10_readItem_196 : decode cX10_readItem 196 = .ok (.iconst 0, 1) := by decide +kernel
theorem dX10_readItem_197 : decode cX10_readItem 197 = .ok (.istore 4, 2) := by decide +kernel
theorem dX10_readItem_199 : decode cX10_readItem 199 = .ok (.iload 4, 2) := by decide +kernel
theorem dX10_readItem_201 : decode cX10_readItem 201 = .ok (.iload_n 1, 1) := by decide +kernel
theorem dX10_readItem_202 : decode cX10_readItem 202 = .ok (.if_icmp .ge 42, 3) := by decide +kernel
theorem dX10_readItem_205 : decode cX10_readItem 205 = .ok (.aload_n 0, 1) := by decide +kernel
theorem dX10_readItem_206 : decode cX10_readItem 206 = .ok (.getfield 109, 3) := by decide +kernel
theorem dX10_readItem_209 : decode cX10_readItem 209 = .ok (.ifCond .eq 35, 3) := by decide +kernel
theorem dX10_readItem_212 : decode cX10_readItem 212 = .ok (.aload_n 0, 1) := by decide +kernel
theorem dX10_readItem_213 : decode cX10_readItem 213 = .ok (.iload_n 3, 1) := by decide +kernel
theorem dX10_readItem_214 : decode cX10_readItem 214 = .ok (.bipush 62, 2) := by decide +kernel
theorem dX10_readItem_216 : decode cX10_readItem 216 = .ok (.if_icmp .ne 7, 3) := by decide +kernel
theorem dX10_readItem_219 : decode cX10_readItem 219 = .ok (.iconst 0, 1) := by decide +kernel
theorem dX10_readItem_220 : decode cX10_readItem 220 = .ok (.goto 4, 3) := by decide +kernel
theorem dX10_readItem_223 : decode cX10_readItem 223 = .ok (.iconst 1, 1) := by decide +kernel
theorem dX10_readItem_224 : decode cX10_readItem 224 = .ok (.iload_n 3, 1) := by decide +kernel
theorem dX10_readItem_225 : decode cX10_readItem 225 = .ok (.bipush 60, 2) := by decide +kernel
theorem dX10_readItem_227 : decode cX10_readItem 227 = .ok (.if_icmp .ne 7, 3) := by decide +kernel
theorem dX10_readItem_230 : decode cX10_readItem 230 = .ok (.iconst 0, 1) := by decide +kernel
theorem dX10_readItem_231 : decode cX10_readItem 231 = .ok (.goto 4, 3) := by decide +kernel
theorem dX10_readItem_234 : decode cX10_readItem 234 = .ok (.iconst 1, 1) := by decide +kernel
theorem dX10_readItem_235 : decode cX10_readItem 235 = .ok (.invokevirtual 133, 3) := by decide +kernel
theorem dX10_readItem_238 : decode cX10_readItem 238 = .ok (.iinc 4 1, 3) := by decide +kernel
theorem dX10_readItem_241 : decode cX10_readItem 241 = .ok (.goto (-42), 3) := by decide +kernel
theorem dX10_readItem_244 : decode cX10_readItem 244 = .ok (.return_, 1) := by decide +kernel
set_option maxRecDepth 20000 in
theorem ggX10_readMap_X10_size : GoodIn wsX10_readMap wsX10_size := goodIn_r _ [14, 7, 51, 52, 53, 54, 55, 56, 57, 58, 59, 60, 61, 62, 63, 64, 65, 66, 67, 68, 69, 70, 71, 72, 73] (by decide +kernel) (by decide +kernel)
set_option maxRecDepth 20000 in
theorem gX10_readMap_X10_size : GoodIn wsX10_readMap (wsV RX10 56 RX10 yX10_size wsX10_size) := goodIn_app (goodIn_of _ (by decide +kernel)) ggX10_readMap_X10_size
set_option maxRecDepth 20000 in
theorem ggX10_readMap_X10_readItem : GoodIn wsX10_readMap wsX10_readItem := goodIn_r _ [18, 2, 19, 1, 4, 5, 20, 21, 22, 13, 23, 24, 25, 26, 27, 28, 6, 29, 30, 31, 32, 33, 34, 35, 36, 8, 3, 9, 51, 52, 53, 54, 55, 56, 57, 58, 59, 60, 61, 62, 63, 64, 65, 66, 67, 68, 69, 70, 71, 72, 73] (by decide +kernel) (by decide +kernel)
set_option maxRecDepth 20000 in
theorem gX10_readMap_X10_readItem : GoodIn wsX10_readMap (wsV RX10 136 RX10 yX10_readItem wsX10_readItem) := goodIn_app (goodIn_of _ (by decide +kernel)) ggX10_readMap_X10_readItem
set_option maxRecDepth 20000 in
theorem ggX10_readMap_X10_isAt : GoodIn wsX10_readMap wsX10_isAt := goodIn_r _ [28, 1, 6, 19, 51, 52, 53, 54, 55, 56, 57, 58, 59, 60, 61, 62, 63, 64, 65, 66, 67, 68, 69, 70, 71, 72, 73] (by decide +kernel) (by decide +kernel)
set_option maxRecDepth 20000 in
theorem gX10_readMap_X10_isAt : GoodIn wsX10_readMap (wsV RX10 113 RX10 yX10_isAt wsX10_isAt) := goodIn_app (goodIn_of _ (by decide +kernel)) ggX10_readMap_X10_isAt
set_option maxRecDepth 20000 in
theorem ggX10_readMap_X10_record : GoodIn wsX10_readMap wsX10_record := goodIn_r _ [40, 41, 42, 7, 51, 52, 53, 54, 55, 56, 57, 58, 59, 60, 61, 62, 63, 64, 65, 66, 67, 68, 69, 70, 71, 72, 73] (by decide +kernel) (by decide +kernel)
set_option maxRecDepth 20000 in
theorem gX10_readMap_X10_record : GoodIn wsX10_readMap (wsV RX10 67 RX10 yX10_record wsX10_record) := goodIn_app (goodIn_of _ (by decide +kernel)) ggX10_readMap_X10_record
set_option maxRecDepth 20000 in
theorem ggX10_readMap_X10_addGroup : GoodIn wsX10_readMap wsX10_addGroup := goodIn_r _ [46, 7, 47, 48, 49, 13, 50, 51, 52, 53, 54, 55, 56, 57, 58, 59, 60, 61, 62, 63, 64, 65, 66, 67, 68, 69, 70, 71, 72, 73] (by decide +kernel) (by decide +kernel)
set_option maxRecDepth 20000 in
theorem gX10_readMap_X10_addGroup : GoodIn wsX10_readMap (wsV RX10 70 RX10 yX10_addGroup wsX10_addGroup) := goodIn_app (goodIn_of _ (by decide +kernel)) ggX10_readMap_X10_addGroup
set_option maxRecDepth 20000 in
theorem ggX10_readMap_X10_groups : GoodIn wsX10_readMap wsX10_groups := goodIn_r _ [50, 7, 51, 52, 53, 54, 55, 56, 57, 58, 59, 60, 61, 62, 63, 64, 65, 66, 67, 68, 69, 70, 71, 72, 73] (by decide +kernel) (by decide +kernel)
set_option maxRecDepth 20000 in
theorem gX10_readMap_X10_groups : GoodIn wsX10_readMap (wsV RX10 60 RX10 yX10_groups wsX10_groups) := goodIn_app (goodIn_of _ (by decide +kernel)) ggX10_readMap_X10_groups
theorem dX10_readMap_0 : decode cX10_readMap 0 = .ok (.aload_n 0, 1) := by decide +kernel
theorem dX10_readMap_1 : decode cX10_readMap 1 = .ok (.iconst 0, 1) := by decide +kernel
theorem dX10_readMap_2 : decode cX10_readMap 2 = .ok (.putfield 103, 3) := by decide +kernel
theorem dX10_readMap_5 : decode cX10_readMap 5 = .ok (.aload_n 0, 1) := by decide +kernel
theorem dX10_readMap_6 : decode cX10_readMap 6 = .ok (.iconst 1, 1) := by decide +kernel
theorem dX10_readMap_7 : decode cX10_readMap 7 = .ok (.putfield 109, 3) := by decide +kernel
theorem dX10_readMap_10 : decode cX10_readMap 10 = .ok (.aload_n 0, 1) := by decide +kernel
theorem dX10_readMap_11 : decode cX10_readMap 11 = .ok (.iconst 0, 1) := by decide +kernel
theorem dX10_readMap_12 : decode cX10_readMap 12 = .ok (.putfield 117, 3) := by decide +kernel
theorem dX10_readMap_15 : decode cX10_readMap 15 = .ok (.aload_n 0, 1) := by decide +kernel
theorem dX10_readMap_16 : decode cX10_readMap 16 = .ok (.aload_n 0, 1) := by decide +kernel
theorem dX10_readMap_17 : decode cX10_readMap 17 = .ok (.iconst 0, 1) := by decide +kernel
theorem dX10_readMap_18 : decode cX10_readMap 18 = .ok (.invokevirtual 56, 3) := by decide +kernel
theorem dX10_readMap_21 : decode cX10_readMap 21 = .ok (.putfield 120, 3) := by decide +kernel
theorem dX10_readMap_24 : decode cX10_readMap 24 = .ok (.aload_n 0, 1) := by decide +kernel
theorem dX10_readMap_25 : decode cX10_readMap 25 = .ok (.aload_n 0, 1) := by decide +kernel
theorem dX10_readMap_26 : decode cX10_readMap 26 = .ok (.iconst 1, 1) := by decide +kernel
theorem dX10_readMap_27 : decode cX10_readMap 27 = .ok (.invokevirtual 56, 3) := by decide +kernel
theorem dX10_readMap_30 : decode cX10_readMap 30 = .ok (.putfield 123, 3) := by decide +kernel
theorem dX10_readMap_33 : decode cX10_readMap 33 = .ok (.aload_n 0, 1) := by decide +kernel
theorem dX10_readMap_34 : decode cX10_readMap 34 = .ok (.invokevirtual 136, 3) := by decide +kernel
theorem dX10_readMap_37 : decode cX10_readMap 37 = .ok (.aload_n 0, 1) := by decide +kernel
theorem dX10_readMap_38 : decode cX10_readMap 38 = .ok (.getfield 109, 3) := by decide +kernel
theorem dX10_readMap_41 : decode cX10_readMap 41 = .ok (.ifCond .eq 31, 3) := by decide +kernel
theorem dX10_readMap_44 : decode cX10_readMap 44 = .ok (.aload_n 0, 1) := by decide +kernel
theorem dX10_readMap_45 : decode cX10_readMap 45 = .ok (.bipush 44, 2) := by decide +kernel
theorem dX10_readMap_47 : decode cX10_readMap 47 = .ok (.bipush 44, 2) := by decide +kernel
theorem dX10_readMap_49 : decode cX10_readMap 49 = .ok (.invokevirtual 113, 3) := by decide +kernel
theorem dX10_readMap_52 : decode cX10_readMap 52 = .ok (.ifCond .eq 20, 3) := by decide +kernel
theorem dX10_readMap_55 : decode cX10_readMap 55 = .ok (.aload_n 0, 1) := by decide +kernel
theorem dX10_readMap_56 : decode cX10_readMap 56 = .ok (.dup, 1) := by decide +kernel
theorem dX10_readMap_57 : decode cX10_readMap 57 = .ok (.getfield 103, 3) := by decide +kernel
theorem dX10_readMap_60 : decode cX10_readMap 60 = .ok (.iconst 1, 1) := by decide +kernel
theorem dX10_readMap_61 : decode cX10_readMap 61 = .ok (.iadd, 1) := by decide +kernel
theorem dX10_readMap_62 : decode cX10_readMap 62 = .ok (.putfield 103, 3) := by decide +kernel
theorem dX10_readMap_65 : decode cX10_readMap 65 = .ok (.aload_n 0, 1) := by decide +kernel
theorem dX10_readMap_66 : decode cX10_readMap 66 = .ok (.invokevirtual 136, 3) := by decide +kernel
theorem dX10_readMap_69 : decode cX10_readMap 69 = .ok (.goto (-32), 3) := by decide +kernel
theorem dX10_readMap_72 : decode cX10_readMap 72 = .ok (.aload_n 0, 1) := by decide +kernel
theorem dX10_readMap_73 : decode cX10_readMap 73 = .ok (.getfield 109, 3) := by decide +kernel
theorem dX10_readMap_76 : decode cX10_readMap 76 = .ok (.ifCond .eq 26, 3) := by decide +kernel
theorem dX10_readMap_79 : decode cX10_readMap 79 = .ok (.aload_n 0, 1) := by decide +kernel
theorem dX10_readMap_80 : decode cX10_readMap 80 = .ok (.getfield 103, 3) := by decide +kernel
theorem dX10_readMap_83 : decode cX10_readMap 83 = .ok (.aload_n 0, 1) := by decide +kernel
theorem dX10_readMap_84 : decode cX10_readMap 84 = .ok (.getfield 100, 3) := by decide +kernel
theorem dX10_readMap_87 : decode cX10_readMap 87 = .ok (.if_icmp .lt 15, 3) := by decide +kernel
theorem dX10_readMap_90 : decode cX10_readMap 90 = .ok (.aload_n 0, 1) := by decide +kernel
theorem dX10_readMap_91 : decode cX10_readMap 91 = .ok (.getfield 120, 3) := by decide +kernel
theorem dX10_readMap_94 : decode cX10_readMap 94 = .ok (.aload_n 0, 1) := by decide +kernel
theorem dX10_readMap_95 : decode cX10_readMap 95 = .ok (.getfield 123, 3) := by decide +kernel
theorem dX10_readMap_98 : decode cX10_readMap 98 = .ok (.iadd, 1) := by decide +kernel
theorem dX10_readMap_99 : decode cX10_readMap 99 = .ok (.ifCond .le 11, 3) := by decide +kernel
theorem dX10_readMap_102 : decode cX10_readMap 102 = .ok (.bipush (-100), 2) := by decide +kernel
theorem dX10_readMap_104 : decode cX10_readMap 104 = .ok (.aload_n 0, 1) := by decide +kernel
theorem dX10_readMap_105 : decode cX10_readMap 105 = .ok (.getfield 103, 3) := by decide +kernel
theorem dX10_readMap_108 : decode cX10_readMap 108 = .ok (.isub, 1) := by decide +kernel
theorem dX10_readMap_109 : decode cX10_readMap 109 = .ok (.ireturn, 1) := by decide +kernel
theorem dX10_readMap_110 : decode cX10_readMap 110 = .ok (.aload_n 0, 1) := by decide +kernel
theorem dX10_readMap_111 : decode cX10_readMap 111 = .ok (.invokevirtual 67, 3) := by decide +kernel
theorem dX10_readMap_114 : decode cX10_readMap 114 = .ok (.aload_n 0, 1) := by decide +kernel
theorem dX10_readMap_115 : decode cX10_readMap 115 = .ok (.getfield 7, 3) := by decide +kernel
theorem dX10_readMap_118 : decode cX10_readMap 118 = .ok (.sipush 364, 3) := by decide +kernel
theorem dX10_readMap_121 : decode cX10_readMap 121 = .ok (.iconst 0, 1) := by decide +kernel
theorem dX10_readMap_122 : decode cX10_readMap 122 = .ok (.iastore, 1) := by decide +kernel
theorem dX10_readMap_123 : decode cX10_readMap 123 = .ok (.iconst 0, 1) := by decide +kernel
theorem dX10_readMap_124 : decode cX10_readMap 124 = .ok (.istore_n 1, 1) := by decide +kernel
theorem dX10_readMap_125 : decode cX10_readMap 125 = .ok (.iload_n 1, 1) := by decide +kernel
theorem dX10_readMap_126 : decode cX10_readMap 126 = .ok (.aload_n 0, 1) := by decide +kernel
theorem dX10_readMap_127 : decode cX10_readMap 127 = .ok (.getfield 117, 3) := by decide +kernel
theorem dX10_readMap_130 : decode cX10_readMap 130 = .ok (.if_icmp .ge 25, 3) := by decide +kernel
theorem dX10_readMap_133 : decode cX10_readMap 133 = .ok (.aload_n 0, 1) := by decide +kernel
theorem dX10_readMap_134 : decode cX10_readMap 134 = .ok (.aload_n 0, 1) := by decide +kernel
theorem dX10_readMap_135 : decode cX10_readMap 135 = .ok (.getfield 20, 3) := by decide +kernel
theorem dX10_readMap_138 : decode cX10_readMap 138 = .ok (.iload_n 1, 1) := by decide +kernel
theorem dX10_readMap_139 : decode cX10_readMap 139 = .ok (.iaload, 1) := by decide +kernel
theorem dX10_readMap_140 : decode cX10_readMap 140 = .ok (.aload_n 0, 1) := by decide +kernel
theorem dX10_readMap_141 : decode cX10_readMap 141 = .ok (.getfield 23, 3) := by decide +kernel
theorem dX10_readMap_144 : decode cX10_readMap 144 = .ok (.iload_n 1, 1) := by decide +kernel
theorem dX10_readMap_145 : decode cX10_readMap 145 = .ok (.iaload, 1) := by decide +kernel
theorem dX10_readMap_146 : decode cX10_readMap 146 = .ok (.invokevirtual 70, 3) := by decide +kernel
theorem dX10_readMap_149 : decode cX10_readMap 149 = .ok (.iinc 1 1, 3) := by decide +kernel
theorem dX10_readMap_152 : decode cX10_readMap 152 = .ok (.goto (-27), 3) := by decide +kernel
theorem dX10_readMap_155 : decode cX10_readMap 155 = .ok (.aload_n 0, 1) := by decide +kernel
theorem dX10_readMap_156 : decode cX10_readMap 156 = .ok (.invokevirtual 60, 3) := by decide +kernel
theorem dX10_readMap_159 : decode cX10_readMap 159 = .ok (.ireturn, 1) := by decide +kernel
set_option maxRecDepth 20000 in
theorem ggX10_firstOf_X10_chapterOf : GoodIn wsX10_firstOf wsX10_chapterOf := goodIn_r _ [5, 6, 7, 8, 9, 10, 11, 12, 13, 14, 15, 16, 17, 18, 19, 20, 21, 22, 23, 24, 25, 26, 27, 28, 29] (by decide +kernel) (by decide +kernel)
set_option maxRecDepth 20000 in
theorem gX10_firstOf_X10_chapterOf : GoodIn wsX10_firstOf (wsV RX10 82 RX10 yX10_chapterOf wsX10_chapterOf) := goodIn_app (goodIn_of _ (by decide +kernel)) ggX10_firstOf_X10_chapterOf
theorem dX10_firstOf_0 : decode cX10_firstOf 0 = .ok (.iconst 0, 1) := by decide +kernel
theorem dX10_firstOf_1 : decode cX10_firstOf 1 = .ok (.istore_n 3, 1) := by decide +kernel
theorem dX10_firstOf_2 : decode cX10_firstOf 2 = .ok (.aload_n 0, 1) := by decide +kernel
theorem dX10_firstOf_3 : decode cX10_firstOf 3 = .ok (.iload_n 1, 1) := by decide +kernel
theorem dX10_firstOf_4 : decode cX10_firstOf 4 = .ok (.iload_n 3, 1) := by decide +kernel
theorem dX10_firstOf_5 : decode cX10_firstOf 5 = .ok (.invokevirtual 82, 3) := by decide +kernel
theorem dX10_firstOf_8 : decode cX10_firstOf 8 = .ok (.iload_n 2, 1) := by decide +kernel
theorem dX10_firstOf_9 : decode cX10_firstOf 9 = .ok (.if_icmp .eq 9, 3) := by decide +kernel
theorem dX10_firstOf_12 : decode cX10_firstOf 12 = .ok (.iinc 3 1, 3) := by decide +kernel
theorem dX10_firstOf_15 : decode cX10_firstOf 15 = .ok (.goto (-13), 3) := by decide +kernel
theorem dX10_firstOf_18 : decode cX10_firstOf 18 = .ok (.iload_n 3, 1) := by decide +kernel
theorem dX10_firstOf_19 : decode cX10_firstOf 19 = .ok (.ireturn, 1) := by decide +kernel
set_option maxRecDepth 20000 in
theorem ggX10_versesOf_X10_size : GoodIn wsX10_versesOf wsX10_size := goodIn_r _ [5, 6, 11, 12, 13, 14, 15, 16, 17, 18, 19, 20, 21, 22, 23, 24, 25, 26, 27, 28, 29, 30, 31, 32, 33] (by decide +kernel) (by decide +kernel)
set_option maxRecDepth 20000 in
theorem gX10_versesOf_X10_size : GoodIn wsX10_versesOf (wsV RX10 56 RX10 yX10_size wsX10_size) := goodIn_app (goodIn_of _ (by decide +kernel)) ggX10_versesOf_X10_size
set_option maxRecDepth 20000 in
theorem ggX10_versesOf_X10_chapterOf : GoodIn wsX10_versesOf wsX10_chapterOf := goodIn_r _ [10, 6, 11, 12, 13, 14, 15, 16, 17, 18, 19, 20, 21, 22, 23, 24, 25, 26, 27, 28, 29, 30, 31, 32, 33] (by decide +kernel) (by decide +kernel)
set_option maxRecDepth 20000 in
theorem gX10_versesOf_X10_chapterOf : GoodIn wsX10_versesOf (wsV RX10 82 RX10 yX10_chapterOf wsX10_chapterOf) := goodIn_app (goodIn_of _ (by decide +kernel)) ggX10_versesOf_X10_chapterOf
theorem dX10_versesOf_0 : decode cX10_versesOf 0 = .ok (.iconst 0, 1) := by decide +kernel
theorem dX10_versesOf_1 : decode cX10_versesOf 1 = .ok (.istore_n 3, 1) := by decide +kernel
theorem dX10_versesOf_2 : decode cX10_versesOf 2 = .ok (.iconst 0, 1) := by decide +kernel
theorem dX10_versesOf_3 : decode cX10_versesOf 3 = .ok (.istore 4, 2) := by decide +kernel
theorem dX10_versesOf_5 : decode cX10_versesOf 5 = .ok (.iload 4, 2) := by decide +kernel
theorem dX10_versesOf_7 : decode cX10_versesOf 7 = .ok (.aload_n 0, 1) := by decide +kernel
theorem dX10_versesOf_8 : decode cX10_versesOf 8 = .ok (.iload_n 1, 1) := by decide +kernel
theorem dX10_versesOf_9 : decode cX10_versesOf 9 = .ok (.invokevirtual 56, 3) := by decide +kernel
theorem dX10_versesOf_12 : decode cX10_versesOf 12 = .ok (.if_icmp .ge 28, 3) := by decide +kernel
theorem dX10_versesOf_15 : decode cX10_versesOf 15 = .ok (.iload_n 3, 1) := by decide +kernel
theorem dX10_versesOf_16 : decode cX10_versesOf 16 = .ok (.aload_n 0, 1) := by decide +kernel
theorem dX10_versesOf_17 : decode cX10_versesOf 17 = .ok (.iload_n 1, 1) := by decide +kernel
theorem dX10_versesOf_18 : decode cX10_versesOf 18 = .ok (.iload 4, 2) := by decide +kernel
theorem dX10_versesOf_20 : decode cX10_versesOf 20 = .ok (.invokevirtual 82, 3) := by decide +kernel
theorem dX10_versesOf_23 : decode cX10_versesOf 23 = .ok (.iload_n 2, 1) := by decide +kernel
theorem dX10_versesOf_24 : decode cX10_versesOf 24 = .ok (.if_icmp .ne 7, 3) := by decide +kernel
theorem dX10_versesOf_27 : decode cX10_versesOf 27 = .ok (.iconst 1, 1) := by decide +kernel
theorem dX10_versesOf_28 : decode cX10_versesOf 28 = .ok (.goto 4, 3) := by decide +kernel
theorem dX10_versesOf_31 : decode cX10_versesOf 31 = .ok (.iconst 0, 1) := by decide +kernel
theorem dX10_versesOf_32 : decode cX10_versesOf 32 = .ok (.iadd, 1) := by decide +kernel
theorem dX10_versesOf_33 : decode cX10_versesOf 33 = .ok (.istore_n 3, 1) := by decide +kernel
theorem dX10_versesOf_34 : decode cX10_versesOf 34 = .ok (.iinc 4 1, 3) := by decide +kernel
theorem dX10_versesOf_37 : decode cX10_versesOf 37 = .ok (.goto (-32), 3) := by decide +kernel
theorem dX10_versesOf_40 : decode cX10_versesOf 40 = .ok (.iload_n 3, 1) := by decide +kernel
theorem dX10_versesOf_41 : decode cX10_versesOf 41 = .ok (.ireturn, 1) := by decide +kernel
set_option maxRecDepth 20000 in
theorem ggX10_readReference_X10_number : GoodIn wsX10_readReference wsX10_number := goodIn_r _ [11, 1, 12, 2, 13, 14, 15, 16, 10, 17, 6, 45, 46, 47, 48, 49, 50, 51, 52, 53, 54, 55, 56, 57, 58, 59, 60, 61, 62, 63, 64, 65, 66, 67] (by decide +kernel) (by decide +kernel)
set_option maxRecDepth 20000 in
theorem gX10_readReference_X10_number : GoodIn wsX10_readReference (wsV RX10 126 RX10 yX10_number wsX10_number) := goodIn_app (goodIn_of _ (by decide +kernel)) ggX10_readReference_X10_number
set_option maxRecDepth 20000 in
theorem ggX10_readReference_X10_needs : GoodIn wsX10_readReference wsX10_needs := goodIn_r _ [21, 2, 12, 1, 45, 46, 47, 48, 49, 50, 51, 52, 53, 54, 55, 56, 57, 58, 59, 60, 61, 62, 63, 64, 65, 66, 67] (by decide +kernel) (by decide +kernel)
set_option maxRecDepth 20000 in
theorem gX10_readReference_X10_needs : GoodIn wsX10_readReference (wsV RX10 129 RX10 yX10_needs wsX10_needs) := goodIn_app (goodIn_of _ (by decide +kernel)) ggX10_readReference_X10_needs
set_option maxRecDepth 20000 in
theorem ggX10_readReference_X10_sign : GoodIn wsX10_readReference wsX10_sign := goodIn_r _ [25, 2, 1, 14, 15, 16, 10, 17, 6, 13, 45, 46, 47, 48, 49, 50, 51, 52, 53, 54, 55, 56, 57, 58, 59, 60, 61, 62, 63, 64, 65, 66, 67] (by decide +kernel) (by decide +kernel)
set_option maxRecDepth 20000 in
theorem gX10_readReference_X10_sign : GoodIn wsX10_readReference (wsV RX10 139 RX10 yX10_sign wsX10_sign) := goodIn_app (goodIn_of _ (by decide +kernel)) ggX10_readReference_X10_sign
set_option maxRecDepth 20000 in
theorem ggX10_readReference_X10_versesOf : GoodIn wsX10_readReference wsX10_versesOf := goodIn_r _ [29, 30, 31, 32, 10, 33, 3, 34, 35, 36, 37, 45, 46, 47, 48, 49, 50, 51, 52, 53, 54, 55, 56, 57, 58, 59, 60, 61, 62, 63, 64, 65, 66, 67] (by decide +kernel) (by decide +kernel)
set_option maxRecDepth 20000 in
theorem gX10_readReference_X10_versesOf : GoodIn wsX10_readReference (wsV RX10 143 RX10 yX10_versesOf wsX10_versesOf) := goodIn_app (goodIn_of _ (by decide +kernel)) ggX10_readReference_X10_versesOf
set_option maxRecDepth 20000 in
theorem ggX10_readReference_X10_firstOf : GoodIn wsX10_readReference wsX10_firstOf := goodIn_r _ [41, 34, 35, 36, 10, 37, 3, 45, 46, 47, 48, 49, 50, 51, 52, 53, 54, 55, 56, 57, 58, 59, 60, 61, 62, 63, 64, 65, 66, 67] (by decide +kernel) (by decide +kernel)
set_option maxRecDepth 20000 in
theorem gX10_readReference_X10_firstOf : GoodIn wsX10_readReference (wsV RX10 146 RX10 yX10_firstOf wsX10_firstOf) := goodIn_app (goodIn_of _ (by decide +kernel)) ggX10_readReference_X10_firstOf
set_option maxRecDepth 20000 in
theorem ggX10_readReference_X10_isAt : GoodIn wsX10_readReference wsX10_isAt := goodIn_r _ [17, 1, 6, 13, 45, 46, 47, 48, 49, 50, 51, 52, 53, 54, 55, 56, 57, 58, 59, 60, 61, 62, 63, 64, 65, 66, 67] (by decide +kernel) (by decide +kernel)
set_option maxRecDepth 20000 in
theorem gX10_readReference_X10_isAt : GoodIn wsX10_readReference (wsV RX10 113 RX10 yX10_isAt wsX10_isAt) := goodIn_app (goodIn_of _ (by decide +kernel)) ggX10_readReference_X10_isAt
set_option maxRecDepth 20000 in
theorem ggX10_readReference_X10_in : GoodIn wsX10_readReference wsX10_in := goodIn_r _ [44] (by decide +kernel) (by decide +kernel)
set_option maxRecDepth 20000 in
theorem gX10_readReference_X10_in : GoodIn wsX10_readReference (va_wsS RX10 48 yX10_in wsX10_in) := goodIn_app (goodIn_of _ (by decide +kernel)) ggX10_readReference_X10_in
theorem dX10_readReference_0 : decode cX10_readReference 0 = .ok (.aload_n 0, 1) := by decide +kernel
theorem dX10_readReference_1 : decode cX10_readReference 1 = .ok (.iconst 0, 1) := by decide +kernel
theorem dX10_readReference_2 : decode cX10_readReference 2 = .ok (.putfield 103, 3) := by decide +kernel
theorem dX10_readReference_5 : decode cX10_readReference 5 = .ok (.aload_n 0, 1) := by decide +kernel
theorem dX10_readReference_6 : decode cX10_readReference 6 = .ok (.iconst 1, 1) := by decide +kernel
theorem dX10_readReference_7 : decode cX10_readReference 7 = .ok (.putfield 109, 3) := by decide +kernel
theorem dX10_readReference_10 : decode cX10_readReference 10 = .ok (.aload_n 0, 1) := by decide +kernel
theorem dX10_readReference_11 : decode cX10_readReference 11 = .ok (.invokevirtual 126, 3) := by decide +kernel
theorem dX10_readReference_14 : decode cX10_readReference 14 = .ok (.istore_n 2, 1) := by decide +kernel
theorem dX10_readReference_15 : decode cX10_readReference 15 = .ok (.aload_n 0, 1) := by decide +kernel
theorem dX10_readReference_16 : decode cX10_readReference 16 = .ok (.iload_n 2, 1) := by decide +kernel
theorem dX10_readReference_17 : decode cX10_readReference 17 = .ok (.aload_n 0, 1) := by decide +kernel
theorem dX10_readReference_18 : decode cX10_readReference 18 = .ok (.getfield 7, 3) := by decide +kernel
theorem dX10_readReference_21 : decode cX10_readReference 21 = .ok (.sipush 362, 3) := by decide +kernel
theorem dX10_readReference_24 : decode cX10_readReference 24 = .ok (.iload_n 1, 1) := by decide +kernel
theorem dX10_readReference_25 : decode cX10_readReference 25 = .ok (.iadd, 1) := by decide +kernel
theorem dX10_readReference_26 : decode cX10_readReference 26 = .ok (.iaload, 1) := by decide +kernel
theorem dX10_readReference_27 : decode cX10_readReference 27 = .ok (.if_icmp .gt 7, 3) := by decide +kernel
theorem dX10_readReference_30 : decode cX10_readReference 30 = .ok (.iconst 1, 1) := by decide +kernel
theorem dX10_readReference_31 : decode cX10_readReference 31 = .ok (.goto 4, 3) := by decide +kernel
theorem dX10_readReference_34 : decode cX10_readReference 34 = .ok (.iconst 0, 1) := by decide +kernel
theorem dX10_readReference_35 : decode cX10_readReference 35 = .ok (.invokevirtual 129, 3) := by decide +kernel
theorem dX10_readReference_38 : decode cX10_readReference 38 = .ok (.aload_n 0, 1) := by decide +kernel
theorem dX10_readReference_39 : decode cX10_readReference 39 = .ok (.bipush 58, 2) := by decide +kernel
theorem dX10_readReference_41 : decode cX10_readReference 41 = .ok (.invokevirtual 139, 3) := by decide +kernel
theorem dX10_readReference_44 : decode cX10_readReference 44 = .ok (.aload_n 0, 1) := by decide +kernel
theorem dX10_readReference_45 : decode cX10_readReference 45 = .ok (.invokevirtual 126, 3) := by decide +kernel
theorem dX10_readReference_48 : decode cX10_readReference 48 = .ok (.istore_n 3, 1) := by decide +kernel
theorem dX10_readReference_49 : decode cX10_readReference 49 = .ok (.aload_n 0, 1) := by decide +kernel
theorem dX10_readReference_50 : decode cX10_readReference 50 = .ok (.aload_n 0, 1) := by decide +kernel
theorem dX10_readReference_51 : decode cX10_readReference 51 = .ok (.getfield 109, 3) := by decide +kernel
theorem dX10_readReference_54 : decode cX10_readReference 54 = .ok (.ifCond .eq 17, 3) := by decide +kernel
theorem dX10_readReference_57 : decode cX10_readReference 57 = .ok (.iload_n 3, 1) := by decide +kernel
theorem dX10_readReference_58 : decode cX10_readReference 58 = .ok (.aload_n 0, 1) := by decide +kernel
theorem dX10_readReference_59 : decode cX10_readReference 59 = .ok (.iload_n 1, 1) := by decide +kernel
theorem dX10_readReference_60 : decode cX10_readReference 60 = .ok (.iload_n 2, 1) := by decide +kernel
theorem dX10_readReference_61 : decode cX10_readReference 61 = .ok (.invokevirtual 143, 3) := by decide +kernel
theorem dX10_readReference_64 : decode cX10_readReference 64 = .ok (.if_icmp .gt 7, 3) := by decide +kernel
theorem dX10_readReference_67 : decode cX10_readReference 67 = .ok (.iconst 1, 1) := by decide +kernel
theorem dX10_readReference_68 : decode cX10_readReference 68 = .ok (.goto 4, 3) := by decide +kernel
theorem dX10_readReference_71 : decode cX10_readReference 71 = .ok (.iconst 0, 1) := by decide +kernel
theorem dX10_readReference_72 : decode cX10_readReference 72 = .ok (.invokevirtual 129, 3) := by decide +kernel
theorem dX10_readReference_75 : decode cX10_readReference 75 = .ok (.aload_n 0, 1) := by decide +kernel
theorem dX10_readReference_76 : decode cX10_readReference 76 = .ok (.aload_n 0, 1) := by decide +kernel
theorem dX10_readReference_77 : decode cX10_readReference 77 = .ok (.getfield 109, 3) := by decide +kernel
theorem dX10_readReference_80 : decode cX10_readReference 80 = .ok (.ifCond .eq 16, 3) := by decide +kernel
theorem dX10_readReference_83 : decode cX10_readReference 83 = .ok (.aload_n 0, 1) := by decide +kernel
theorem dX10_readReference_84 : decode cX10_readReference 84 = .ok (.iload_n 1, 1) := by decide +kernel
theorem dX10_readReference_85 : decode cX10_readReference 85 = .ok (.iload_n 2, 1) := by decide +kernel
theorem dX10_readReference_86 : decode cX10_readReference 86 = .ok (.invokevirtual 146, 3) := by decide +kernel
theorem dX10_readReference_89 : decode cX10_readReference 89 = .ok (.iload_n 3, 1) := by decide +kernel
theorem dX10_readReference_90 : decode cX10_readReference 90 = .ok (.iadd, 1) := by decide +kernel
theorem dX10_readReference_91 : decode cX10_readReference 91 = .ok (.iconst 1, 1) := by decide +kernel
theorem dX10_readReference_92 : decode cX10_readReference 92 = .ok (.isub, 1) := by decide +kernel
theorem dX10_readReference_93 : decode cX10_readReference 93 = .ok (.goto 5, 3) := by decide +kernel
theorem dX10_readReference_96 : decode cX10_readReference 96 = .ok (.bipush (-5), 2) := by decide +kernel
theorem dX10_readReference_98 : decode cX10_readReference 98 = .ok (.putfield 149, 3) := by decide +kernel
theorem dX10_readReference_101 : decode cX10_readReference 101 = .ok (.aload_n 0, 1) := by decide +kernel
theorem dX10_readReference_102 : decode cX10_readReference 102 = .ok (.aload_n 0, 1) := by decide +kernel
theorem dX10_readReference_103 : decode cX10_readReference 103 = .ok (.getfield 149, 3) := by decide +kernel
theorem dX10_readReference_106 : decode cX10_readReference 106 = .ok (.putfield 152, 3) := by decide +kernel
theorem dX10_readReference_109 : decode cX10_readReference 109 = .ok (.aload_n 0, 1) := by decide +kernel
theorem dX10_readReference_110 : decode cX10_readReference 110 = .ok (.getfield 109, 3) := by decide +kernel
theorem dX10_readReference_113 : decode cX10_readReference 113 = .ok (.ifCond .eq 14, 3) := by decide +kernel
theorem dX10_readReference_116 : decode cX10_readReference 116 = .ok (.aload_n 0, 1) := by decide +kernel
theorem dX10_readReference_117 : decode cX10_readReference 117 = .ok (.getfield 103, 3) := by decide +kernel
theorem dX10_readReference_120 : decode cX10_readReference 120 = .ok (.aload_n 0, 1) := by decide +kernel
theorem dX10_readReference_121 : decode cX10_readReference 121 = .ok (.getfield 100, 3) := by decide +kernel
theorem dX10_readReference_124 : decode cX10_readReference 124 = .ok (.if_icmp .ne 4, 3) := by decide +kernel
theorem dX10_readReference_127 : decode cX10_readReference 127 = .ok (.return_, 1) := by decide +kernel
theorem dX10_readReference_128 : decode cX10_readReference 128 = .ok (.aload_n 0, 1) := by decide +kernel
theorem dX10_readReference_129 : decode cX10_readReference 129 = .ok (.bipush 45, 2) := by decide +kernel
theorem dX10_readReference_131 : decode cX10_readReference 131 = .ok (.invokevirtual 139, 3) := by decide +kernel
theorem dX10_readReference_134 : decode cX10_readReference 134 = .ok (.aload_n 0, 1) := by decide +kernel
theorem dX10_readReference_135 : decode cX10_readReference 135 = .ok (.invokevirtual 126, 3) := by decide +kernel
theorem dX10_readReference_138 : decode cX10_readReference 138 = .ok (.istore 4, 2) := by decide +kernel
theorem dX10_readReference_140 : decode cX10_readReference 140 = .ok (.aload_n 0, 1) := by decide +kernel
theorem dX10_readReference_141 : decode cX10_readReference 141 = .ok (.getfield 109, 3) := by decide +kernel
theorem dX10_readReference_144 : decode cX10_readReference 144 = .ok (.ifCond .eq 117, 3) := by decide +kernel
theorem dX10_readReference_147 : decode cX10_readReference 147 = .ok (.aload_n 0, 1) := by decide +kernel
theorem dX10_readReference_148 : decode cX10_readReference 148 = .ok (.bipush 58, 2) := by decide +kernel
theorem dX10_readReference_150 : decode cX10_readReference 150 = .ok (.bipush 58, 2) := by decide +kernel
theorem dX10_readReference_152 : decode cX10_readReference 152 = .ok (.invokevirtual 113, 3) := by decide +kernel
theorem dX10_readReference_155 : decode cX10_readReference 155 = .ok (.ifCond .eq 106, 3) := by decide +kernel
theorem dX10_readReference_158 : decode cX10_readReference 158 = .ok (.aload_n 0, 1) := by decide +kernel
theorem dX10_readReference_159 : decode cX10_readReference 159 = .ok (.iload 4, 2) := by decide +kernel
theorem dX10_readReference_161 : decode cX10_readReference 161 = .ok (.iload_n 2, 1) := by decide +kernel
theorem dX10_readReference_162 : decode cX10_readReference 162 = .ok (.aload_n 0, 1) := by decide +kernel
theorem dX10_readReference_163 : decode cX10_readReference 163 = .ok (.getfield 7, 3) := by decide +kernel
theorem dX10_readReference_166 : decode cX10_readReference 166 = .ok (.sipush 362, 3) := by decide +kernel
theorem dX10_readReference_169 : decode cX10_readReference 169 = .ok (.iload_n 1, 1) := by decide +kernel
theorem dX10_readReference_170 : decode cX10_readReference 170 = .ok (.iadd, 1) := by decide +kernel
theorem dX10_readReference_171 : decode cX10_readReference 171 = .ok (.iaload, 1) := by decide +kernel
theorem dX10_readReference_172 : decode cX10_readReference 172 = .ok (.invokestatic 48, 3) := by decide +kernel
theorem dX10_readReference_175 : decode cX10_readReference 175 = .ok (.invokevirtual 129, 3) := by decide +kernel
theorem dX10_readReference_178 : decode cX10_readReference 178 = .ok (.aload_n 0, 1) := by decide +kernel
theorem dX10_readReference_179 : decode cX10_readReference 179 = .ok (.bipush 58, 2) := by decide +kernel
theorem dX10_readReference_181 : decode cX10_readReference 181 = .ok (.invokevirtual 139, 3) := by decide +kernel
theorem dX10_readReference_184 : decode cX10_readReference 184 = .ok (.aload_n 0, 1) := by decide +kernel
theorem dX10_readReference_185 : decode cX10_readReference 185 = .ok (.invokevirtual 126, 3) := by decide +kernel
theorem dX10_readReference_188 : decode cX10_readReference 188 = .ok (.istore 5, 2) := by decide +kernel
theorem dX10_readReference_190 : decode cX10_readReference 190 = .ok (.aload_n 0, 1) := by decide +kernel
theorem dX10_readReference_191 : decode cX10_readReference 191 = .ok (.aload_n 0, 1) := by decide +kernel
theorem dX10_readReference_192 : decode cX10_readReference 192 = .ok (.getfield 109, 3) := by decide +kernel
theorem dX10_readReference_195 : decode cX10_readReference 195 = .ok (.ifCond .eq 31, 3) := by decide +kernel
theorem dX10_readReference_198 : decode cX10_readReference 198 = .ok (.iload 5, 2) := by decide +kernel
theorem dX10_readReference_200 : decode cX10_readReference 200 = .ok (.aload_n 0, 1) := by decide +kernel
theorem dX10_readReference_201 : decode cX10_readReference 201 = .ok (.iload_n 1, 1) := by decide +kernel
theorem dX10_readReference_202 : decode cX10_readReference 202 = .ok (.iload 4, 2) := by decide +kernel
theorem dX10_readReference_204 : decode cX10_readReference 204 = .ok (.invokevirtual 143, 3) := by decide +kernel
theorem dX10_readReference_207 : decode cX10_readReference 207 = .ok (.if_icmp .gt 19, 3) := by decide +kernel
theorem dX10_readReference_210 : decode cX10_readReference 210 = .ok (.iload 4, 2) := by decide +kernel
theorem dX10_readReference_212 : decode cX10_readReference 212 = .ok (.iload_n 2, 1) := by decide +kernel
theorem dX10_readReference_213 : decode cX10_readReference 213 = .ok (.if_icmp .gt 9, 3) := by decide +kernel
theorem dX10_readReference_216 : decode cX10_readReference 216 = .ok (.iload 5, 2) := by decide +kernel
theorem dX10_readReference_218 : decode cX10_readReference 218 = .ok (.iload_n 3, 1) := by decide +kernel
theorem dX10_readReference_219 : decode cX10_readReference 219 = .ok (.if_icmp .lt 7, 3) := by decide +kernel
theorem dX10_readReference_222 : decode cX10_readReference 222 = .ok (.iconst 1, 1) := by decide +kernel
theorem dX10_readReference_223 : decode cX10_readReference 223 = .ok (.goto 4, 3) := by decide +kernel
theorem dX10_readReference_226 : decode cX10_readReference 226 = .ok (.iconst 0, 1) := by decide +kernel
theorem dX10_readReference_227 : decode cX10_readReference 227 = .ok (.invokevirtual 129, 3) := by decide +kernel
theorem dX10_readReference_230 : decode cX10_readReference 230 = .ok (.aload_n 0, 1) := by decide +kernel
theorem dX10_readReference_231 : decode cX10_readReference 231 = .ok (.aload_n 0, 1) := by decide +kernel
theorem dX10_readReference_232 : decode cX10_readReference 232 = .ok (.getfield 109, 3) := by decide +kernel
theorem dX10_readReference_235 : decode cX10_readReference 235 = .ok (.ifCond .eq 18, 3) := by decide +kernel
theorem dX10_readReference_238 : decode cX10_readReference 238 = .ok (.aload_n 0, 1) := by decide +kernel
theorem dX10_readReference_239 : decode cX10_readReference 239 = .ok (.iload_n 1, 1) := by decide +kernel
theorem dX10_readReference_240 : decode cX10_readReference 240 = .ok (.iload 4, 2) := by decide +kernel
theorem dX10_readReference_242 : decode cX10_readReference 242 = .ok (.invokevirtual 146, 3) := by decide +kernel
theorem dX10_readReference_245 : decode cX10_readReference 245 = .ok (.iload 5, 2) := by decide +kernel
theorem dX10_readReference_247 : decode cX10_readReference 247 = .ok (.iadd, 1) := by decide +kernel
theorem dX10_readReference_248 : decode cX10_readReference 248 = .ok (.iconst 1, 1) := by decide +kernel
theorem dX10_readReference_249 : decode cX10_readReference 249 = .ok (.isub, 1) := by decide +kernel
theorem dX10_readReference_250 : decode cX10_readReference 250 = .ok (.goto 5, 3) := by decide +kernel
theorem dX10_readReference_253 : decode cX10_readReference 253 = .ok (.bipush (-5), 2) := by decide +kernel
theorem dX10_readReference_255 : decode cX10_readReference 255 = .ok (.putfield 152, 3) := by decide +kernel
theorem dX10_readReference_258 : decode cX10_readReference 258 = .ok (.goto 61, 3) := by decide +kernel
theorem dX10_readReference_261 : decode cX10_readReference 261 = .ok (.aload_n 0, 1) := by decide +kernel
theorem dX10_readReference_262 : decode cX10_readReference 262 = .ok (.aload_n 0, 1) := by decide +kernel
theorem dX10_readReference_263 : decode cX10_readReference 263 = .ok (.getfield 109, 3) := by decide +kernel
theorem dX10_readReference_266 : decode cX10_readReference 266 = .ok (.ifCond .eq 22, 3) := by decide +kernel
theorem dX10_readReference_269 : decode cX10_readReference 269 = .ok (.iload 4, 2) := by decide +kernel
theorem dX10_readReference_271 : decode cX10_readReference 271 = .ok (.iload_n 3, 1) := by decide +kernel
theorem dX10_readReference_272 : decode cX10_readReference 272 = .ok (.aload_n 0, 1) := by decide +kernel
theorem dX10_readReference_273 : decode cX10_readReference 273 = .ok (.iload_n 1, 1) := by decide +kernel
theorem dX10_readReference_274 : decode cX10_readReference 274 = .ok (.iload_n 2, 1) := by decide +kernel
theorem dX10_readReference_275 : decode cX10_readReference 275 = .ok (.invokevirtual 143, 3) := by decide +kernel
theorem dX10_readReference_278 : decode cX10_readReference 278 = .ok (.invokestatic 48, 3) := by decide +kernel
theorem dX10_readReference_281 : decode cX10_readReference 281 = .ok (.ifCond .eq 7, 3) := by decide +kernel
theorem dX10_readReference_284 : decode cX10_readReference 284 = .ok (.iconst 1, 1) := by decide +kernel
theorem dX10_readReference_285 : decode cX10_readReference 285 = .ok (.goto 4, 3) := by decide +kernel
theorem dX10_readReference_288 : decode cX10_readReference 288 = .ok (.iconst 0, 1) := by decide +kernel
theorem dX10_readReference_289 : decode cX10_readReference 289 = .ok (.invokevirtual 129, 3) := by decide +kernel
theorem dX10_readReference_292 : decode cX10_readReference 292 = .ok (.aload_n 0, 1) := by decide +kernel
theorem dX10_readReference_293 : decode cX10_readReference 293 = .ok (.aload_n 0, 1) := by decide +kernel
theorem dX10_readReference_294 : decode cX10_readReference 294 = .ok (.getfield 109, 3) := by decide +kernel
theorem dX10_readReference_297 : decode cX10_readReference 297 = .ok (.ifCond .eq 17, 3) := by decide +kernel
theorem dX10_readReference_300 : decode cX10_readReference 300 = .ok (.aload_n 0, 1) := by decide +kernel
theorem dX10_readReference_301 : decode cX10_readReference 301 = .ok (.iload_n 1, 1) := by decide +kernel
theorem dX10_readReference_302 : decode cX10_readReference 302 = .ok (.iload_n 2, 1) := by decide +kernel
theorem dX10_readReference_303 : decode cX10_readReference 303 = .ok (.invokevirtual 146, 3) := by decide +kernel
theorem dX10_readReference_306 : decode cX10_readReference 306 = .ok (.iload 4, 2) := by decide +kernel
theorem dX10_readReference_308 : decode cX10_readReference 308 = .ok (.iadd, 1) := by decide +kernel
theorem dX10_readReference_309 : decode cX10_readReference 309 = .ok (.iconst 1, 1) := by decide +kernel
theorem dX10_readReference_310 : decode cX10_readReference 310 = .ok (.isub, 1) := by decide +kernel
theorem dX10_readReference_311 : decode cX10_readReference 311 = .ok (.goto 5, 3) := by decide +kernel
theorem dX10_readReference_314 : decode cX10_readReference 314 = .ok (.bipush (-5), 2) := by decide +kernel
theorem dX10_readReference_316 : decode cX10_readReference 316 = .ok (.putfield 152, 3) := by decide +kernel
theorem dX10_readReference_319 : decode cX10_readReference 319 = .ok (.aload_n 0, 1) := by decide +kernel
theorem dX10_readReference_320 : decode cX10_readReference 320 = .ok (.aload_n 0, 1) := by decide +kernel
theorem dX10_readReference_321 : decode cX10_readReference 321 = .ok (.getfield 109, 3) := by decide +kernel
theorem dX10_readReference_324 : decode cX10_readReference 324 = .ok (.ifCond .eq 18, 3) := by decide +kernel
theorem dX10_readReference_327 : decode cX10_readReference 327 = .ok (.aload_n 0, 1) := by decide +kernel
theorem dX10_readReference_328 : decode cX10_readReference 328 = .ok (.getfield 103, 3) := by decide +kernel
theorem dX10_readReference_331 : decode cX10_readReference 331 = .ok (.aload_n 0, 1) := by decide +kernel
theorem dX10_readReference_332 : decode cX10_readReference 332 = .ok (.getfield 100, 3) := by decide +kernel
theorem dX10_readReference_335 : decode cX10_readReference 335 = .ok (.if_icmp .ne 7, 3) := by decide +kernel
theorem dX10_readReference_338 : decode cX10_readReference 338 = .ok (.iconst 1, 1) := by decide +kernel
theorem dX10_readReference_339 : decode cX10_readReference 339 = .ok (.goto 4, 3) := by decide +kernel
theorem dX10_readReference_342 : decode cX10_readReference 342 = .ok (.iconst 0, 1) := by decide +kernel
theorem dX10_readReference_343 : decode cX10_readReference 343 = .ok (.putfield 109, 3) := by decide +kernel
theorem dX10_readReference_346 : decode cX10_readReference 346 = .ok (.return_, 1) := by decide +kernel
set_option maxRecDepth 20000 in
theorem ggX10_refer_X10_noBook : GoodIn wsX10_refer wsX10_noBook := goodIn_r _ [8, 9, 10, 7, 11] (by decide +kernel) (by decide +kernel)
set_option maxRecDepth 20000 in
theorem gX10_refer_X10_noBook : GoodIn wsX10_refer (va_wsS RX10 52 yX10_noBook wsX10_noBook) := goodIn_app (goodIn_of _ (by decide +kernel)) ggX10_refer_X10_noBook
set_option maxRecDepth 20000 in
theorem ggX10_refer_X10_in : GoodIn wsX10_refer wsX10_in := goodIn_r _ [11] (by decide +kernel) (by decide +kernel)
set_option maxRecDepth 20000 in
theorem gX10_refer_X10_in : GoodIn wsX10_refer (va_wsS RX10 48 yX10_in wsX10_in) := goodIn_app (goodIn_of _ (by decide +kernel)) ggX10_refer_X10_in
set_option maxRecDepth 20000 in
theorem ggX10_refer_X10_readReference : GoodIn wsX10_refer wsX10_readReference := goodIn_r _ [15, 2, 1, 16, 3, 4, 17, 18, 19, 20, 7, 21, 22, 23, 24, 25, 26, 27, 28, 29, 30, 31, 32, 33, 34, 35, 36, 37, 38, 39, 40, 41, 42, 43, 44, 45, 46, 47, 48, 49, 50, 51, 9, 10, 11, 64, 65, 66, 67, 68, 69, 70, 71, 72, 73, 74, 75, 76, 77, 78, 79, 80, 81, 82, 83, 84, 85, 86] (by decide +kernel) (by decide +kernel)
set_option maxRecDepth 20000 in
theorem gX10_refer_X10_readReference : GoodIn wsX10_refer (wsV RX10 155 RX10 yX10_readReference wsX10_readReference) := goodIn_app (goodIn_of _ (by decide +kernel)) ggX10_refer_X10_readReference
set_option maxRecDepth 20000 in
theorem ggX10_refer_X10_groups : GoodIn wsX10_refer wsX10_groups := goodIn_r _ [55, 16, 64, 65, 66, 67, 68, 69, 70, 71, 72, 73, 74, 75, 76, 77, 78, 79, 80, 81, 82, 83, 84, 85, 86] (by decide +kernel) (by decide +kernel)
set_option maxRecDepth 20000 in
theorem gX10_refer_X10_groups : GoodIn wsX10_refer (wsV RX10 60 RX10 yX10_groups wsX10_groups) := goodIn_app (goodIn_of _ (by decide +kernel)) ggX10_refer_X10_groups
set_option maxRecDepth 20000 in
theorem ggX10_refer_X10_firstIn : GoodIn wsX10_refer wsX10_firstIn := goodIn_r _ [59, 60, 61, 62, 7, 63, 16, 64, 65, 66, 67, 68, 69, 70, 71, 72, 73, 74, 75, 76, 77, 78, 79, 80, 81, 82, 83, 84, 85, 86] (by decide +kernel) (by decide +kernel)
set_option maxRecDepth 20000 in
theorem gX10_refer_X10_firstIn : GoodIn wsX10_refer (wsV RX10 159 RX10 yX10_firstIn wsX10_firstIn) := goodIn_app (goodIn_of _ (by decide +kernel)) ggX10_refer_X10_firstIn
set_option maxRecDepth 20000 in
theorem ggX10_refer_X10_has : GoodIn wsX10_refer wsX10_has := goodIn_r _ [63, 16, 64, 65, 66, 67, 68, 69, 70, 71, 72, 73, 74, 75, 76, 77, 78, 79, 80, 81, 82, 83, 84, 85, 86] (by decide +kernel) (by decide +kernel)
set_option maxRecDepth 20000 in
theorem gX10_refer_X10_has : GoodIn wsX10_refer (wsV RX10 78 RX10 yX10_has wsX10_has) := goodIn_app (goodIn_of _ (by decide +kernel)) ggX10_refer_X10_has
theorem dX10_refer_0 : decode cX10_refer 0 = .ok (.iload_n 1, 1) := by decide +kernel
theorem dX10_refer_1 : decode cX10_refer 1 = .ok (.invokestatic 52, 3) := by decide +kernel
theorem dX10_refer_4 : decode cX10_refer 4 = .ok (.ifCond .eq 5, 3) := by decide +kernel
theorem dX10_refer_7 : decode cX10_refer 7 = .ok (.iconst (-1), 1) := by decide +kernel
theorem dX10_refer_8 : decode cX10_refer 8 = .ok (.ireturn, 1) := by decide +kernel
theorem dX10_refer_9 : decode cX10_refer 9 = .ok (.iload_n 2, 1) := by decide +kernel
theorem dX10_refer_10 : decode cX10_refer 10 = .ok (.iconst 0, 1) := by decide +kernel
theorem dX10_refer_11 : decode cX10_refer 11 = .ok (.bipush 6, 2) := by decide +kernel
theorem dX10_refer_13 : decode cX10_refer 13 = .ok (.invokestatic 48, 3) := by decide +kernel
theorem dX10_refer_16 : decode cX10_refer 16 = .ok (.ifCond .ne 6, 3) := by decide +kernel
theorem dX10_refer_19 : decode cX10_refer 19 = .ok (.bipush (-2), 2) := by decide +kernel
theorem dX10_refer_21 : decode cX10_refer 21 = .ok (.ireturn, 1) := by decide +kernel
theorem dX10_refer_22 : decode cX10_refer 22 = .ok (.aload_n 0, 1) := by decide +kernel
theorem dX10_refer_23 : decode cX10_refer 23 = .ok (.iload_n 1, 1) := by decide +kernel
theorem dX10_refer_24 : decode cX10_refer 24 = .ok (.invokevirtual 155, 3) := by decide +kernel
theorem dX10_refer_27 : decode cX10_refer 27 = .ok (.aload_n 0, 1) := by decide +kernel
theorem dX10_refer_28 : decode cX10_refer 28 = .ok (.getfield 109, 3) := by decide +kernel
theorem dX10_refer_31 : decode cX10_refer 31 = .ok (.ifCond .ne 11, 3) := by decide +kernel
theorem dX10_refer_34 : decode cX10_refer 34 = .ok (.bipush (-100), 2) := by decide +kernel
theorem dX10_refer_36 : decode cX10_refer 36 = .ok (.aload_n 0, 1) := by decide +kernel
theorem dX10_refer_37 : decode cX10_refer 37 = .ok (.getfield 103, 3) := by decide +kernel
theorem dX10_refer_40 : decode cX10_refer 40 = .ok (.isub, 1) := by decide +kernel
theorem dX10_refer_41 : decode cX10_refer 41 = .ok (.ireturn, 1) := by decide +kernel
theorem dX10_refer_42 : decode cX10_refer 42 = .ok (.iload_n 2, 1) := by decide +kernel
theorem dX10_refer_43 : decode cX10_refer 43 = .ok (.iconst 2, 1) := by decide +kernel
theorem dX10_refer_44 : decode cX10_refer 44 = .ok (.if_icmp .ge 19, 3) := by decide +kernel
theorem dX10_refer_47 : decode cX10_refer 47 = .ok (.iload_n 2, 1) := by decide +kernel
theorem dX10_refer_48 : decode cX10_refer 48 = .ok (.ifCond .ne 10, 3) := by decide +kernel
theorem dX10_refer_51 : decode cX10_refer 51 = .ok (.aload_n 0, 1) := by decide +kernel
theorem dX10_refer_52 : decode cX10_refer 52 = .ok (.getfield 149, 3) := by decide +kernel
theorem dX10_refer_55 : decode cX10_refer 55 = .ok (.goto 7, 3) := by decide +kernel
theorem dX10_refer_58 : decode cX10_refer 58 = .ok (.aload_n 0, 1) := by decide +kernel
theorem dX10_refer_59 : decode cX10_refer 59 = .ok (.getfield 152, 3) := by decide +kernel
theorem dX10_refer_62 : decode cX10_refer 62 = .ok (.ireturn, 1) := by decide +kernel
theorem dX10_refer_63 : decode cX10_refer 63 = .ok (.bipush (-5), 2) := by decide +kernel
theorem dX10_refer_65 : decode cX10_refer 65 = .ok (.istore_n 3, 1) := by decide +kernel
theorem dX10_refer_66 : decode cX10_refer 66 = .ok (.bipush (-5), 2) := by decide +kernel
theorem dX10_refer_68 : decode cX10_refer 68 = .ok (.istore 4, 2) := by decide +kernel
theorem dX10_refer_70 : decode cX10_refer 70 = .ok (.iconst 0, 1) := by decide +kernel
theorem dX10_refer_71 : decode cX10_refer 71 = .ok (.istore 5, 2) := by decide +kernel
theorem dX10_refer_73 : decode cX10_refer 73 = .ok (.iconst 0, 1) := by decide +kernel
theorem dX10_refer_74 : decode cX10_refer 74 = .ok (.istore 6, 2) := by decide +kernel
theorem dX10_refer_76 : decode cX10_refer 76 = .ok (.iconst 0, 1) := by decide +kernel
theorem dX10_refer_77 : decode cX10_refer 77 = .ok (.istore 7, 2) := by decide +kernel
theorem dX10_refer_79 : decode cX10_refer 79 = .ok (.iconst 0, 1) := by decide +kernel
theorem dX10_refer_80 : decode cX10_refer 80 = .ok (.istore 8, 2) := by decide +kernel
theorem dX10_refer_82 : decode cX10_refer 82 = .ok (.iload 8, 2) := by decide +kernel
theorem dX10_refer_84 : decode cX10_refer 84 = .ok (.aload_n 0, 1) := by decide +kernel
theorem dX10_refer_85 : decode cX10_refer 85 = .ok (.invokevirtual 60, 3) := by decide +kernel
theorem dX10_refer_88 : decode cX10_refer 88 = .ok (.if_icmp .ge 165, 3) := by decide +kernel
theorem dX10_refer_91 : decode cX10_refer 91 = .ok (.aload_n 0, 1) := by decide +kernel
theorem dX10_refer_92 : decode cX10_refer 92 = .ok (.iload 8, 2) := by decide +kernel
theorem dX10_refer_94 : decode cX10_refer 94 = .ok (.iload_n 1, 1) := by decide +kernel
theorem dX10_refer_95 : decode cX10_refer 95 = .ok (.invokevirtual 159, 3) := by decide +kernel
theorem dX10_refer_98 : decode cX10_refer 98 = .ok (.istore 9, 2) := by decide +kernel
theorem dX10_refer_100 : decode cX10_refer 100 = .ok (.aload_n 0, 1) := by decide +kernel
theorem dX10_refer_101 : decode cX10_refer 101 = .ok (.iload 8, 2) := by decide +kernel
theorem dX10_refer_103 : decode cX10_refer 103 = .ok (.iload_n 1, 1) := by decide +kernel
theorem dX10_refer_104 : decode cX10_refer 104 = .ok (.invokevirtual 78, 3) := by decide +kernel
theorem dX10_refer_107 : decode cX10_refer 107 = .ok (.ifCond .le 33, 3) := by decide +kernel
theorem dX10_refer_110 : decode cX10_refer 110 = .ok (.iload 9, 2) := by decide +kernel
theorem dX10_refer_112 : decode cX10_refer 112 = .ok (.aload_n 0, 1) := by decide +kernel
theorem dX10_refer_113 : decode cX10_refer 113 = .ok (.getfield 152, 3) := by decide +kernel
theorem dX10_refer_116 : decode cX10_refer 116 = .ok (.if_icmp .gt 24, 3) := by decide +kernel
theorem dX10_refer_119 : decode cX10_refer 119 = .ok (.iload 9, 2) := by decide +kernel
theorem dX10_refer_121 : decode cX10_refer 121 = .ok (.aload_n 0, 1) := by decide +kernel
theorem dX10_refer_122 : decode cX10_refer 122 = .ok (.iload 8, 2) := by decide +kernel
theorem dX10_refer_124 : decode cX10_refer 124 = .ok (.iload_n 1, 1) := by decide +kernel
theorem dX10_refer_125 : decode cX10_refer 125 = .ok (.invokevirtual 78, 3) := by decide +kernel
theorem dX10_refer_128 : decode cX10_refer 128 = .ok (.iadd, 1) := by decide +kernel
theorem dX10_refer_129 : decode cX10_refer 129 = .ok (.aload_n 0, 1) := by decide +kernel
theorem dX10_refer_130 : decode cX10_refer 130 = .ok (.getfield 149, 3) := by decide +kernel
theorem dX10_refer_133 : decode cX10_refer 133 = .ok (.if_icmp .le 7, 3) := by decide +kernel
theorem dX10_refer_136 : decode cX10_refer 136 = .ok (.iconst 1, 1) := by decide +kernel
theorem dX10_refer_137 : decode cX10_refer 137 = .ok (.goto 4, 3) := by decide +kernel
theorem dX10_refer_140 : decode cX10_refer 140 = .ok (.iconst 0, 1) := by decide +kernel
theorem dX10_refer_141 : decode cX10_refer 141 = .ok (.istore 10, 2) := by decide +kernel
theorem dX10_refer_143 : decode cX10_refer 143 = .ok (.iload 10, 2) := by decide +kernel
theorem dX10_refer_145 : decode cX10_refer 145 = .ok (.ifCond .eq 102, 3) := by decide +kernel
theorem dX10_refer_148 : decode cX10_refer 148 = .ok (.iinc 5 1, 3) := by decide +kernel
theorem dX10_refer_151 : decode cX10_refer 151 = .ok (.iload 7, 2) := by decide +kernel
theorem dX10_refer_153 : decode cX10_refer 153 = .ok (.aload_n 0, 1) := by decide +kernel
theorem dX10_refer_154 : decode cX10_refer 154 = .ok (.iload 8, 2) := by decide +kernel
theorem dX10_refer_156 : decode cX10_refer 156 = .ok (.iload_n 1, 1) := by decide +kernel
theorem dX10_refer_157 : decode cX10_refer 157 = .ok (.invokevirtual 78, 3) := by decide +kernel
theorem dX10_refer_160 : decode cX10_refer 160 = .ok (.iadd, 1) := by decide +kernel
theorem dX10_refer_161 : decode cX10_refer 161 = .ok (.istore 7, 2) := by decide +kernel
theorem dX10_refer_163 : decode cX10_refer 163 = .ok (.iload 6, 2) := by decide +kernel
theorem dX10_refer_165 : decode cX10_refer 165 = .ok (.aload_n 0, 1) := by decide +kernel
theorem dX10_refer_166 : decode cX10_refer 166 = .ok (.iload 8, 2) := by decide +kernel
theorem dX10_refer_168 : decode cX10_refer 168 = .ok (.iconst 1, 1) := by decide +kernel
theorem dX10_refer_169 : decode cX10_refer 169 = .ok (.iload_n 1, 1) := by decide +kernel
theorem dX10_refer_170 : decode cX10_refer 170 = .ok (.isub, 1) := by decide +kernel
theorem dX10_refer_171 : decode cX10_refer 171 = .ok (.invokevirtual 78, 3) := by decide +kernel
theorem dX10_refer_174 : decode cX10_refer 174 = .ok (.iadd, 1) := by decide +kernel
theorem dX10_refer_175 : decode cX10_refer 175 = .ok (.istore 6, 2) := by decide +kernel
theorem dX10_refer_177 : decode cX10_refer 177 = .ok (.iload_n 3, 1) := by decide +kernel
theorem dX10_refer_178 : decode cX10_refer 178 = .ok (.ifCond .ge 27, 3) := by decide +kernel
theorem dX10_refer_181 : decode cX10_refer 181 = .ok (.aload_n 0, 1) := by decide +kernel
theorem dX10_refer_182 : decode cX10_refer 182 = .ok (.iload 8, 2) := by decide +kernel
theorem dX10_refer_184 : decode cX10_refer 184 = .ok (.iconst 1, 1) := by decide +kernel
theorem dX10_refer_185 : decode cX10_refer 185 = .ok (.iload_n 1, 1) := by decide +kernel
theorem dX10_refer_186 : decode cX10_refer 186 = .ok (.isub, 1) := by decide +kernel
theorem dX10_refer_187 : decode cX10_refer 187 = .ok (.invokevirtual 78, 3) := by decide +kernel
theorem dX10_refer_190 : decode cX10_refer 190 = .ok (.ifCond .le 15, 3) := by decide +kernel
theorem dX10_refer_193 : decode cX10_refer 193 = .ok (.aload_n 0, 1) := by decide +kernel
theorem dX10_refer_194 : decode cX10_refer 194 = .ok (.iload 8, 2) := by decide +kernel
theorem dX10_refer_196 : decode cX10_refer 196 = .ok (.iconst 1, 1) := by decide +kernel
theorem dX10_refer_197 : decode cX10_refer 197 = .ok (.iload_n 1, 1) := by decide +kernel
theorem dX10_refer_198 : decode cX10_refer 198 = .ok (.isub, 1) := by decide +kernel
theorem dX10_refer_199 : decode cX10_refer 199 = .ok (.invokevirtual 159, 3) := by decide +kernel
theorem dX10_refer_202 : decode cX10_refer 202 = .ok (.goto 4, 3) := by decide +kernel
theorem dX10_refer_205 : decode cX10_refer 205 = .ok (.iload_n 3, 1) := by decide +kernel
theorem dX10_refer_206 : decode cX10_refer 206 = .ok (.istore_n 3, 1) := by decide +kernel
theorem dX10_refer_207 : decode cX10_refer 207 = .ok (.aload_n 0, 1) := by decide +kernel
theorem dX10_refer_208 : decode cX10_refer 208 = .ok (.iload 8, 2) := by decide +kernel
theorem dX10_refer_210 : decode cX10_refer 210 = .ok (.iconst 1, 1) := by decide +kernel
theorem dX10_refer_211 : decode cX10_refer 211 = .ok (.iload_n 1, 1) := by decide +kernel
theorem dX10_refer_212 : decode cX10_refer 212 = .ok (.isub, 1) := by decide +kernel
theorem dX10_refer_213 : decode cX10_refer 213 = .ok (.invokevirtual 78, 3) := by decide +kernel
theorem dX10_refer_216 : decode cX10_refer 216 = .ok (.ifCond .le 27, 3) := by decide +kernel
theorem dX10_refer_219 : decode cX10_refer 219 = .ok (.aload_n 0, 1) := by decide +kernel
theorem dX10_refer_220 : decode cX10_refer 220 = .ok (.iload 8, 2) := by decide +kernel
theorem dX10_refer_222 : decode cX10_refer 222 = .ok (.iconst 1, 1) := by decide +kernel
theorem dX10_refer_223 : decode cX10_refer 223 = .ok (.iload_n 1, 1) := by decide +kernel
theorem dX10_refer_224 : decode cX10_refer 224 = .ok (.isub, 1) := by decide +kernel
theorem dX10_refer_225 : decode cX10_refer 225 = .ok (.invokevirtual 159, 3) := by decide +kernel
theorem dX10_refer_228 : decode cX10_refer 228 = .ok (.aload_n 0, 1) := by decide +kernel
theorem dX10_refer_229 : decode cX10_refer 229 = .ok (.iload 8, 2) := by decide +kernel
theorem dX10_refer_231 : decode cX10_refer 231 = .ok (.iconst 1, 1) := by decide +kernel
theorem dX10_refer_232 : decode cX10_refer 232 = .ok (.iload_n 1, 1) := by decide +kernel
theorem dX10_refer_233 : decode cX10_refer 233 = .ok (.isub, 1) := by decide +kernel
theorem dX10_refer_234 : decode cX10_refer 234 = .ok (.invokevirtual 78, 3) := by decide +kernel
theorem dX10_refer_237 : decode cX10_refer 237 = .ok (.iadd, 1) := by decide +kernel
theorem dX10_refer_238 : decode cX10_refer 238 = .ok (.iconst 1, 1) := by decide +kernel
theorem dX10_refer_239 : decode cX10_refer 239 = .ok (.isub, 1) := by decide +kernel
theorem dX10_refer_240 : decode cX10_refer 240 = .ok (.goto 5, 3) := by decide +kernel
theorem dX10_refer_243 : decode cX10_refer 243 = .ok (.iload 4, 2) := by decide +kernel
theorem dX10_refer_245 : decode cX10_refer 245 = .ok (.istore 4, 2) := by decide +kernel
theorem dX10_refer_247 : decode cX10_refer 247 = .ok (.iinc 8 1, 3) := by decide +kernel
theorem dX10_refer_250 : decode cX10_refer 250 = .ok (.goto (-168), 3) := by decide +kernel
theorem dX10_refer_253 : decode cX10_refer 253 = .ok (.iload 7, 2) := by decide +kernel
theorem dX10_refer_255 : decode cX10_refer 255 = .ok (.aload_n 0, 1) := by decide +kernel
theorem dX10_refer_256 : decode cX10_refer 256 = .ok (.getfield 152, 3) := by decide +kernel
theorem dX10_refer_259 : decode cX10_refer 259 = .ok (.aload_n 0, 1) := by decide +kernel
theorem dX10_refer_260 : decode cX10_refer 260 = .ok (.getfield 149, 3) := by decide +kernel
theorem dX10_refer_263 : decode cX10_refer 263 = .ok (.isub, 1) := by decide +kernel
theorem dX10_refer_264 : decode cX10_refer 264 = .ok (.iconst 1, 1) := by decide +kernel
theorem dX10_refer_265 : decode cX10_refer 265 = .ok (.iadd, 1) := by decide +kernel
theorem dX10_refer_266 : decode cX10_refer 266 = .ok (.if_icmp .ne 7, 3) := by decide +kernel
theorem dX10_refer_269 : decode cX10_refer 269 = .ok (.iconst 1, 1) := by decide +kernel
theorem dX10_refer_270 : decode cX10_refer 270 = .ok (.goto 4, 3) := by decide +kernel
theorem dX10_refer_273 : decode cX10_refer 273 = .ok (.iconst 0, 1) := by decide +kernel
theorem dX10_refer_274 : decode cX10_refer 274 = .ok (.istore 8, 2) := by decide +kernel
theorem dX10_refer_276 : decode cX10_refer 276 = .ok (.iload_n 2, 1) := by decide +kernel
theorem dX10_refer_277 : decode cX10_refer 277 = .ok (.iconst 2, 1) := by decide +kernel
theorem dX10_refer_278 : decode cX10_refer 278 = .ok (.if_icmp .ne 7, 3) := by decide +kernel
theorem dX10_refer_281 : decode cX10_refer 281 = .ok (.iload_n 3, 1) := by decide +kernel
theorem dX10_refer_282 : decode cX10_refer 282 = .ok (.goto 43, 3) := by decide +kernel
theorem dX10_refer_285 : decode cX10_refer 285 = .ok (.iload_n 2, 1) := by decide +kernel
theorem dX10_refer_286 : decode cX10_refer 286 = .ok (.iconst 3, 1) := by decide +kernel
theorem dX10_refer_287 : decode cX10_refer 287 = .ok (.if_icmp .ne 8, 3) := by decide +kernel
theorem dX10_refer_290 : decode cX10_refer 290 = .ok (.iload 4, 2) := by decide +kernel
theorem dX10_refer_292 : decode cX10_refer 292 = .ok (.goto 33, 3) := by decide +kernel
theorem dX10_refer_295 : decode cX10_refer 295 = .ok (.iload_n 2, 1) := by decide +kernel
theorem dX10_refer_296 : decode cX10_refer 296 = .ok (.iconst 4, 1) := by decide +kernel
theorem dX10_refer_297 : decode cX10_refer 297 = .ok (.if_icmp .ne 8, 3) := by decide +kernel
theorem dX10_refer_300 : decode cX10_refer 300 = .ok (.iload 5, 2) := by decide +kernel
theorem dX10_refer_302 : decode cX10_refer 302 = .ok (.goto 23, 3) := by decide +kernel
theorem dX10_refer_305 : decode cX10_refer 305 = .ok (.iload_n 2, 1) := by decide +kernel
theorem dX10_refer_306 : decode cX10_refer 306 = .ok (.iconst 5, 1) := by decide +kernel
theorem dX10_refer_307 : decode cX10_refer 307 = .ok (.if_icmp .ne 8, 3) := by decide +kernel
theorem dX10_refer_310 : decode cX10_refer 310 = .ok (.iload 6, 2) := by decide +kernel
theorem dX10_refer_312 : decode cX10_refer 312 = .ok (.goto 13, 3) := by decide +kernel
theorem dX10_refer_315 : decode cX10_refer 315 = .ok (.iload 8, 2) := by decide +kernel
theorem dX10_refer_317 : decode cX10_refer 317 = .ok (.ifCond .eq 7, 3) := by decide +kernel
theorem dX10_refer_320 : decode cX10_refer 320 = .ok (.iconst 1, 1) := by decide +kernel
theorem dX10_refer_321 : decode cX10_refer 321 = .ok (.goto 4, 3) := by decide +kernel
theorem dX10_refer_324 : decode cX10_refer 324 = .ok (.iconst 0, 1) := by decide +kernel
theorem dX10_refer_325 : decode cX10_refer 325 = .ok (.ireturn, 1) := by decide +kernel
set_option maxRecDepth 20000 in
theorem ggX10_beside_X10_noVerse : GoodIn wsX10_beside wsX10_noVerse := goodIn_r _ [5, 6, 7, 4, 8, 9, 10, 11, 12, 13, 14, 15, 16, 29, 30, 31, 32, 33, 34, 35, 36, 37, 38, 39, 40, 41, 42, 43, 44, 45, 46, 47, 48, 49, 50, 51] (by decide +kernel) (by decide +kernel)
set_option maxRecDepth 20000 in
theorem gX10_beside_X10_noVerse : GoodIn wsX10_beside (wsV RX10 74 RX10 yX10_noVerse wsX10_noVerse) := goodIn_app (goodIn_of _ (by decide +kernel)) ggX10_beside_X10_noVerse
set_option maxRecDepth 20000 in
theorem ggX10_beside_X10_in : GoodIn wsX10_beside wsX10_in := goodIn_r _ [11] (by decide +kernel) (by decide +kernel)
set_option maxRecDepth 20000 in
theorem gX10_beside_X10_in : GoodIn wsX10_beside (va_wsS RX10 48 yX10_in wsX10_in) := goodIn_app (goodIn_of _ (by decide +kernel)) ggX10_beside_X10_in
set_option maxRecDepth 20000 in
theorem ggX10_beside_X10_groupOf : GoodIn wsX10_beside wsX10_groupOf := goodIn_r _ [20, 21, 22, 23, 4, 24, 16, 29, 30, 31, 32, 33, 34, 35, 36, 37, 38, 39, 40, 41, 42, 43, 44, 45, 46, 47, 48, 49, 50, 51] (by decide +kernel) (by decide +kernel)
set_option maxRecDepth 20000 in
theorem gX10_beside_X10_groupOf : GoodIn wsX10_beside (wsV RX10 85 RX10 yX10_groupOf wsX10_groupOf) := goodIn_app (goodIn_of _ (by decide +kernel)) ggX10_beside_X10_groupOf
set_option maxRecDepth 20000 in
theorem ggX10_beside_X10_has : GoodIn wsX10_beside wsX10_has := goodIn_r _ [24, 16, 29, 30, 31, 32, 33, 34, 35, 36, 37, 38, 39, 40, 41, 42, 43, 44, 45, 46, 47, 48, 49, 50, 51] (by decide +kernel) (by decide +kernel)
set_option maxRecDepth 20000 in
theorem gX10_beside_X10_has : GoodIn wsX10_beside (wsV RX10 78 RX10 yX10_has wsX10_has) := goodIn_app (goodIn_of _ (by decide +kernel)) ggX10_beside_X10_has
set_option maxRecDepth 20000 in
theorem ggX10_beside_X10_firstIn : GoodIn wsX10_beside wsX10_firstIn := goodIn_r _ [28, 21, 22, 23, 4, 24, 16, 29, 30, 31, 32, 33, 34, 35, 36, 37, 38, 39, 40, 41, 42, 43, 44, 45, 46, 47, 48, 49, 50, 51] (by decide +kernel) (by decide +kernel)
set_option maxRecDepth 20000 in
theorem gX10_beside_X10_firstIn : GoodIn wsX10_beside (wsV RX10 159 RX10 yX10_firstIn wsX10_firstIn) := goodIn_app (goodIn_of _ (by decide +kernel)) ggX10_beside_X10_firstIn
theorem dX10_beside_0 : decode cX10_beside 0 = .ok (.aload_n 0, 1) := by decide +kernel
theorem dX10_beside_1 : decode cX10_beside 1 = .ok (.iload_n 1, 1) := by decide +kernel
theorem dX10_beside_2 : decode cX10_beside 2 = .ok (.iload_n 2, 1) := by decide +kernel
theorem dX10_beside_3 : decode cX10_beside 3 = .ok (.invokevirtual 74, 3) := by decide +kernel
theorem dX10_beside_6 : decode cX10_beside 6 = .ok (.ifCond .eq 5, 3) := by decide +kernel
theorem dX10_beside_9 : decode cX10_beside 9 = .ok (.iconst (-1), 1) := by decide +kernel
theorem dX10_beside_10 : decode cX10_beside 10 = .ok (.ireturn, 1) := by decide +kernel
theorem dX10_beside_11 : decode cX10_beside 11 = .ok (.iload_n 3, 1) := by decide +kernel
theorem dX10_beside_12 : decode cX10_beside 12 = .ok (.iconst 0, 1) := by decide +kernel
theorem dX10_beside_13 : decode cX10_beside 13 = .ok (.iconst 2, 1) := by decide +kernel
theorem dX10_beside_14 : decode cX10_beside 14 = .ok (.invokestatic 48, 3) := by decide +kernel
theorem dX10_beside_17 : decode cX10_beside 17 = .ok (.ifCond .ne 6, 3) := by decide +kernel
theorem dX10_beside_20 : decode cX10_beside 20 = .ok (.bipush (-2), 2) := by decide +kernel
theorem dX10_beside_22 : decode cX10_beside 22 = .ok (.ireturn, 1) := by decide +kernel
theorem dX10_beside_23 : decode cX10_beside 23 = .ok (.aload_n 0, 1) := by decide +kernel
theorem dX10_beside_24 : decode cX10_beside 24 = .ok (.iload_n 1, 1) := by decide +kernel
theorem dX10_beside_25 : decode cX10_beside 25 = .ok (.iload_n 2, 1) := by decide +kernel
theorem dX10_beside_26 : decode cX10_beside 26 = .ok (.invokevirtual 85, 3) := by decide +kernel
theorem dX10_beside_29 : decode cX10_beside 29 = .ok (.istore 4, 2) := by decide +kernel
theorem dX10_beside_31 : decode cX10_beside 31 = .ok (.aload_n 0, 1) := by decide +kernel
theorem dX10_beside_32 : decode cX10_beside 32 = .ok (.iload 4, 2) := by decide +kernel
theorem dX10_beside_34 : decode cX10_beside 34 = .ok (.iconst 1, 1) := by decide +kernel
theorem dX10_beside_35 : decode cX10_beside 35 = .ok (.iload_n 1, 1) := by decide +kernel
theorem dX10_beside_36 : decode cX10_beside 36 = .ok (.isub, 1) := by decide +kernel
theorem dX10_beside_37 : decode cX10_beside 37 = .ok (.invokevirtual 78, 3) := by decide +kernel
theorem dX10_beside_40 : decode cX10_beside 40 = .ok (.istore 5, 2) := by decide +kernel
theorem dX10_beside_42 : decode cX10_beside 42 = .ok (.iload_n 3, 1) := by decide +kernel
theorem dX10_beside_43 : decode cX10_beside 43 = .ok (.ifCond .ne 8, 3) := by decide +kernel
theorem dX10_beside_46 : decode cX10_beside 46 = .ok (.iload 4, 2) := by decide +kernel
theorem dX10_beside_48 : decode cX10_beside 48 = .ok (.goto 36, 3) := by decide +kernel
theorem dX10_beside_51 : decode cX10_beside 51 = .ok (.iload 5, 2) := by decide +kernel
theorem dX10_beside_53 : decode cX10_beside 53 = .ok (.ifCond .ne 8, 3) := by decide +kernel
theorem dX10_beside_56 : decode cX10_beside 56 = .ok (.bipush (-5), 2) := by decide +kernel
theorem dX10_beside_58 : decode cX10_beside 58 = .ok (.goto 26, 3) := by decide +kernel
theorem dX10_beside_61 : decode cX10_beside 61 = .ok (.aload_n 0, 1) := by decide +kernel
theorem dX10_beside_62 : decode cX10_beside 62 = .ok (.iload 4, 2) := by decide +kernel
theorem dX10_beside_64 : decode cX10_beside 64 = .ok (.iconst 1, 1) := by decide +kernel
theorem dX10_beside_65 : decode cX10_beside 65 = .ok (.iload_n 1, 1) := by decide +kernel
theorem dX10_beside_66 : decode cX10_beside 66 = .ok (.isub, 1) := by decide +kernel
theorem dX10_beside_67 : decode cX10_beside 67 = .ok (.invokevirtual 159, 3) := by decide +kernel
theorem dX10_beside_70 : decode cX10_beside 70 = .ok (.iload_n 3, 1) := by decide +kernel
theorem dX10_beside_71 : decode cX10_beside 71 = .ok (.iconst 1, 1) := by decide +kernel
theorem dX10_beside_72 : decode cX10_beside 72 = .ok (.if_icmp .ne 7, 3) := by decide +kernel
theorem dX10_beside_75 : decode cX10_beside 75 = .ok (.iconst 0, 1) := by decide +kernel
theorem dX10_beside_76 : decode cX10_beside 76 = .ok (.goto 7, 3) := by decide +kernel
theorem dX10_beside_79 : decode cX10_beside 79 = .ok (.iload 5, 2) := by decide +kernel
theorem dX10_beside_81 : decode cX10_beside 81 = .ok (.iconst 1, 1) := by decide +kernel
theorem dX10_beside_82 : decode cX10_beside 82 = .ok (.isub, 1) := by decide +kernel
theorem dX10_beside_83 : decode cX10_beside 83 = .ok (.iadd, 1) := by decide +kernel
theorem dX10_beside_84 : decode cX10_beside 84 = .ok (.ireturn, 1) := by decide +kernel
theorem dX10_width_0 : decode cX10_width 0 = .ok (.aload_n 0, 1) := by decide +kernel
theorem dX10_width_1 : decode cX10_width 1 = .ok (.getfield 26, 3) := by decide +kernel
theorem dX10_width_4 : decode cX10_width 4 = .ok (.iload_n 1, 1) := by decide +kernel
theorem dX10_width_5 : decode cX10_width 5 = .ok (.iaload, 1) := by decide +kernel
theorem dX10_width_6 : decode cX10_width 6 = .ok (.ifCond .ne 8, 3) := by decide +kernel
theorem dX10_width_9 : decode cX10_width 9 = .ok (.bipush 40, 2) := by decide +kernel
theorem dX10_width_11 : decode cX10_width 11 = .ok (.goto 9, 3) := by decide +kernel
theorem dX10_width_14 : decode cX10_width 14 = .ok (.aload_n 0, 1) := by decide +kernel
theorem dX10_width_15 : decode cX10_width 15 = .ok (.getfield 26, 3) := by decide +kernel
theorem dX10_width_18 : decode cX10_width 18 = .ok (.iload_n 1, 1) := by decide +kernel
theorem dX10_width_19 : decode cX10_width 19 = .ok (.iaload, 1) := by decide +kernel
theorem dX10_width_20 : decode cX10_width 20 = .ok (.ireturn, 1) := by decide +kernel
set_option maxRecDepth 20000 in
theorem ggX10_setWidth_X10_noBook : GoodIn wsX10_setWidth wsX10_noBook := goodIn_r _ [5, 6, 7, 4, 8] (by decide +kernel) (by decide +kernel)
set_option maxRecDepth 20000 in
theorem gX10_setWidth_X10_noBook : GoodIn wsX10_setWidth (va_wsS RX10 52 yX10_noBook wsX10_noBook) := goodIn_app (goodIn_of _ (by decide +kernel)) ggX10_setWidth_X10_noBook
set_option maxRecDepth 20000 in
theorem ggX10_setWidth_X10_in : GoodIn wsX10_setWidth wsX10_in := goodIn_r _ [8] (by decide +kernel) (by decide +kernel)
set_option maxRecDepth 20000 in
theorem gX10_setWidth_X10_in : GoodIn wsX10_setWidth (va_wsS RX10 48 yX10_in wsX10_in) := goodIn_app (goodIn_of _ (by decide +kernel)) ggX10_setWidth_X10_in
set_option maxRecDepth 20000 in
theorem ggX10_setWidth_X10_width : GoodIn wsX10_setWidth wsX10_width := goodIn_r _ [12, 1, 13, 14, 15, 16, 17, 18, 19, 20, 21, 22, 23, 24, 25, 26, 27, 28, 29, 30, 31, 32, 33, 34, 35] (by decide +kernel) (by decide +kernel)
set_option maxRecDepth 20000 in
theorem gX10_setWidth_X10_width : GoodIn wsX10_setWidth (wsV RX10 162 RX10 yX10_width wsX10_width) := goodIn_app (goodIn_of _ (by decide +kernel)) ggX10_setWidth_X10_width
theorem dX10_setWidth_0 : decode cX10_setWidth 0 = .ok (.iload_n 1, 1) := by decide +kernel
theorem dX10_setWidth_1 : decode cX10_setWidth 1 = .ok (.invokestatic 52, 3) := by decide +kernel
theorem dX10_setWidth_4 : decode cX10_setWidth 4 = .ok (.ifCond .eq 5, 3) := by decide +kernel
theorem dX10_setWidth_7 : decode cX10_setWidth 7 = .ok (.iconst (-1), 1) := by decide +kernel
theorem dX10_setWidth_8 : decode cX10_setWidth 8 = .ok (.ireturn, 1) := by decide +kernel
theorem dX10_setWidth_9 : decode cX10_setWidth 9 = .ok (.iload_n 2, 1) := by decide +kernel
theorem dX10_setWidth_10 : decode cX10_setWidth 10 = .ok (.bipush 10, 2) := by decide +kernel
theorem dX10_setWidth_12 : decode cX10_setWidth 12 = .ok (.sipush 200, 3) := by decide +kernel
theorem dX10_setWidth_15 : decode cX10_setWidth 15 = .ok (.invokestatic 48, 3) := by decide +kernel
theorem dX10_setWidth_18 : decode cX10_setWidth 18 = .ok (.ifCond .ne 6, 3) := by decide +kernel
theorem dX10_setWidth_21 : decode cX10_setWidth 21 = .ok (.bipush (-2), 2) := by decide +kernel
theorem dX10_setWidth_23 : decode cX10_setWidth 23 = .ok (.ireturn, 1) := by decide +kernel
theorem dX10_setWidth_24 : decode cX10_setWidth 24 = .ok (.aload_n 0, 1) := by decide +kernel
theorem dX10_setWidth_25 : decode cX10_setWidth 25 = .ok (.iload_n 1, 1) := by decide +kernel
theorem dX10_setWidth_26 : decode cX10_setWidth 26 = .ok (.invokevirtual 162, 3) := by decide +kernel
theorem dX10_setWidth_29 : decode cX10_setWidth 29 = .ok (.istore_n 3, 1) := by decide +kernel
theorem dX10_setWidth_30 : decode cX10_setWidth 30 = .ok (.aload_n 0, 1) := by decide +kernel
theorem dX10_setWidth_31 : decode cX10_setWidth 31 = .ok (.getfield 26, 3) := by decide +kernel
theorem dX10_setWidth_34 : decode cX10_setWidth 34 = .ok (.iload_n 1, 1) := by decide +kernel
theorem dX10_setWidth_35 : decode cX10_setWidth 35 = .ok (.iload_n 2, 1) := by decide +kernel
theorem dX10_setWidth_36 : decode cX10_setWidth 36 = .ok (.iastore, 1) := by decide +kernel
theorem dX10_setWidth_37 : decode cX10_setWidth 37 = .ok (.iload_n 3, 1) := by decide +kernel
theorem dX10_setWidth_38 : decode cX10_setWidth 38 = .ok (.ireturn, 1) := by decide +kernel
set_option maxRecDepth 20000 in
theorem ggX10_setHeights_X10_in : GoodIn wsX10_setHeights wsX10_in := goodIn_r _ [6] (by decide +kernel) (by decide +kernel)
set_option maxRecDepth 20000 in
theorem gX10_setHeights_X10_in : GoodIn wsX10_setHeights (va_wsS RX10 48 yX10_in wsX10_in) := goodIn_app (goodIn_of _ (by decide +kernel)) ggX10_setHeights_X10_in
theorem dX10_setHeights_0 : decode cX10_setHeights 0 = .ok (.iload_n 1, 1) := by decide +kernel
theorem dX10_setHeights_1 : decode cX10_setHeights 1 = .ok (.iconst 5, 1) := by decide +kernel
theorem dX10_setHeights_2 : decode cX10_setHeights 2 = .ok (.sipush 200, 3) := by decide +kernel
theorem dX10_setHeights_5 : decode cX10_setHeights 5 = .ok (.invokestatic 48, 3) := by decide +kernel
theorem dX10_setHeights_8 : decode cX10_setHeights 8 = .ok (.ifCond .eq 12, 3) := by decide +kernel
theorem dX10_setHeights_11 : decode cX10_setHeights 11 = .ok (.iload_n 2, 1) := by decide +kernel
theorem dX10_setHeights_12 : decode cX10_setHeights 12 = .ok (.iconst 0, 1) := by decide +kernel
theorem dX10_setHeights_13 : decode cX10_setHeights 13 = .ok (.iconst 5, 1) := by decide +kernel
theorem dX10_setHeights_14 : decode cX10_setHeights 14 = .ok (.invokestatic 48, 3) := by decide +kernel
theorem dX10_setHeights_17 : decode cX10_setHeights 17 = .ok (.ifCond .ne 6, 3) := by decide +kernel
theorem dX10_setHeights_20 : decode cX10_setHeights 20 = .ok (.bipush (-2), 2) := by decide +kernel
theorem dX10_setHeights_22 : decode cX10_setHeights 22 = .ok (.ireturn, 1) := by decide +kernel
theorem dX10_setHeights_23 : decode cX10_setHeights 23 = .ok (.aload_n 0, 1) := by decide +kernel
theorem dX10_setHeights_24 : decode cX10_setHeights 24 = .ok (.getfield 29, 3) := by decide +kernel
theorem dX10_setHeights_27 : decode cX10_setHeights 27 = .ok (.istore_n 3, 1) := by decide +kernel
theorem dX10_setHeights_28 : decode cX10_setHeights 28 = .ok (.aload_n 0, 1) := by decide +kernel
theorem dX10_setHeights_29 : decode cX10_setHeights 29 = .ok (.iload_n 1, 1) := by decide +kernel
theorem dX10_setHeights_30 : decode cX10_setHeights 30 = .ok (.putfield 29, 3) := by decide +kernel
theorem dX10_setHeights_33 : decode cX10_setHeights 33 = .ok (.aload_n 0, 1) := by decide +kernel
theorem dX10_setHeights_34 : decode cX10_setHeights 34 = .ok (.iload_n 2, 1) := by decide +kernel
theorem dX10_setHeights_35 : decode cX10_setHeights 35 = .ok (.putfield 33, 3) := by decide +kernel
theorem dX10_setHeights_38 : decode cX10_setHeights 38 = .ok (.iload_n 3, 1) := by decide +kernel
theorem dX10_setHeights_39 : decode cX10_setHeights 39 = .ok (.ireturn, 1) := by decide +kernel
set_option maxRecDepth 20000 in
theorem ggX10_linesOf_X10_width : GoodIn wsX10_linesOf wsX10_width := goodIn_r _ [6, 7, 8, 9, 10, 11, 12, 13, 14, 15, 16, 17, 18, 19, 20, 21, 22, 23, 24, 25, 26, 27, 28, 29, 30] (by decide +kernel) (by decide +kernel)
set_option maxRecDepth 20000 in
theorem gX10_linesOf_X10_width : GoodIn wsX10_linesOf (wsV RX10 162 RX10 yX10_width wsX10_width) := goodIn_app (goodIn_of _ (by decide +kernel)) ggX10_linesOf_X10_width
theorem dX10_linesOf_0 : decode cX10_linesOf 0 = .ok (.aload_n 0, 1) := by decide +kernel
theorem dX10_linesOf_1 : decode cX10_linesOf 1 = .ok (.getfield 7, 3) := by decide +kernel
theorem dX10_linesOf_4 : decode cX10_linesOf 4 = .ok (.bipush 60, 2) := by decide +kernel
theorem dX10_linesOf_6 : decode cX10_linesOf 6 = .ok (.iload_n 1, 1) := by decide +kernel
theorem dX10_linesOf_7 : decode cX10_linesOf 7 = .ok (.imul, 1) := by decide +kernel
theorem dX10_linesOf_8 : decode cX10_linesOf 8 = .ok (.iload_n 2, 1) := by decide +kernel
theorem dX10_linesOf_9 : decode cX10_linesOf 9 = .ok (.iadd, 1) := by decide +kernel
theorem dX10_linesOf_10 : decode cX10_linesOf 10 = .ok (.iaload, 1) := by decide +kernel
theorem dX10_linesOf_11 : decode cX10_linesOf 11 = .ok (.aload_n 0, 1) := by decide +kernel
theorem dX10_linesOf_12 : decode cX10_linesOf 12 = .ok (.iload_n 1, 1) := by decide +kernel
theorem dX10_linesOf_13 : decode cX10_linesOf 13 = .ok (.invokevirtual 162, 3) := by decide +kernel
theorem dX10_linesOf_16 : decode cX10_linesOf 16 = .ok (.iadd, 1) := by decide +kernel
theorem dX10_linesOf_17 : decode cX10_linesOf 17 = .ok (.iconst 1, 1) := by decide +kernel
theorem dX10_linesOf_18 : decode cX10_linesOf 18 = .ok (.isub, 1) := by decide +kernel
theorem dX10_linesOf_19 : decode cX10_linesOf 19 = .ok (.aload_n 0, 1) := by decide +kernel
theorem dX10_linesOf_20 : decode cX10_linesOf 20 = .ok (.iload_n 1, 1) := by decide +kernel
theorem dX10_linesOf_21 : decode cX10_linesOf 21 = .ok (.invokevirtual 162, 3) := by decide +kernel
theorem dX10_linesOf_24 : decode cX10_linesOf 24 = .ok (.idiv, 1) := by decide +kernel
theorem dX10_linesOf_25 : decode cX10_linesOf 25 = .ok (.ireturn, 1) := by decide +kernel
set_option maxRecDepth 20000 in
theorem ggX10_needed_X10_firstIn : GoodIn wsX10_needed wsX10_firstIn := goodIn_r _ [6, 7, 8, 9, 5, 10, 11, 25, 26, 27, 28, 29, 30, 31, 32, 33, 34, 35, 36, 37, 38, 39, 40, 41, 42, 43, 44, 45, 46, 47] (by decide +kernel) (by decide +kernel)
set_option maxRecDepth 20000 in
theorem gX10_needed_X10_firstIn : GoodIn wsX10_needed (wsV RX10 159 RX10 yX10_firstIn wsX10_firstIn) := goodIn_app (goodIn_of _ (by decide +kernel)) ggX10_needed_X10_firstIn
set_option maxRecDepth 20000 in
theorem ggX10_needed_X10_has : GoodIn wsX10_needed wsX10_has := goodIn_r _ [10, 11, 25, 26, 27, 28, 29, 30, 31, 32, 33, 34, 35, 36, 37, 38, 39, 40, 41, 42, 43, 44, 45, 46, 47] (by decide +kernel) (by decide +kernel)
set_option maxRecDepth 20000 in
theorem gX10_needed_X10_has : GoodIn wsX10_needed (wsV RX10 78 RX10 yX10_has wsX10_has) := goodIn_app (goodIn_of _ (by decide +kernel)) ggX10_needed_X10_has
set_option maxRecDepth 20000 in
theorem ggX10_needed_X10_chapterOf : GoodIn wsX10_needed wsX10_chapterOf := goodIn_r _ [15, 11, 25, 26, 27, 28, 29, 30, 31, 32, 33, 34, 35, 36, 37, 38, 39, 40, 41, 42, 43, 44, 45, 46, 47] (by decide +kernel) (by decide +kernel)
set_option maxRecDepth 20000 in
theorem gX10_needed_X10_chapterOf : GoodIn wsX10_needed (wsV RX10 82 RX10 yX10_chapterOf wsX10_chapterOf) := goodIn_app (goodIn_of _ (by decide +kernel)) ggX10_needed_X10_chapterOf
set_option maxRecDepth 20000 in
theorem ggX10_needed_X10_linesOf : GoodIn wsX10_needed wsX10_linesOf := goodIn_r _ [19, 11, 20, 21, 22, 5, 23, 24, 25, 26, 27, 28, 29, 30, 31, 32, 33, 34, 35, 36, 37, 38, 39, 40, 41, 42, 43, 44, 45, 46, 47] (by decide +kernel) (by decide +kernel)
set_option maxRecDepth 20000 in
theorem gX10_needed_X10_linesOf : GoodIn wsX10_needed (wsV RX10 165 RX10 yX10_linesOf wsX10_linesOf) := goodIn_app (goodIn_of _ (by decide +kernel)) ggX10_needed_X10_linesOf
theorem dX10_needed_0 : decode cX10_needed 0 = .ok (.aload_n 0, 1) := by decide +kernel
theorem dX10_needed_1 : decode cX10_needed 1 = .ok (.iload_n 1, 1) := by decide +kernel
theorem dX10_needed_2 : decode cX10_needed 2 = .ok (.iload_n 2, 1) := by decide +kernel
theorem dX10_needed_3 : decode cX10_needed 3 = .ok (.invokevirtual 159, 3) := by decide +kernel
theorem dX10_needed_6 : decode cX10_needed 6 = .ok (.istore_n 3, 1) := by decide +kernel
theorem dX10_needed_7 : decode cX10_needed 7 = .ok (.iconst 0, 1) := by decide +kernel
theorem dX10_needed_8 : decode cX10_needed 8 = .ok (.istore 4, 2) := by decide +kernel
theorem dX10_needed_10 : decode cX10_needed 10 = .ok (.iload_n 3, 1) := by decide +kernel
theorem dX10_needed_11 : decode cX10_needed 11 = .ok (.istore 5, 2) := by decide +kernel
theorem dX10_needed_13 : decode cX10_needed 13 = .ok (.iload 5, 2) := by decide +kernel
theorem dX10_needed_15 : decode cX10_needed 15 = .ok (.iload_n 3, 1) := by decide +kernel
theorem dX10_needed_16 : decode cX10_needed 16 = .ok (.aload_n 0, 1) := by decide +kernel
theorem dX10_needed_17 : decode cX10_needed 17 = .ok (.iload_n 1, 1) := by decide +kernel
theorem dX10_needed_18 : decode cX10_needed 18 = .ok (.iload_n 2, 1) := by decide +kernel
theorem dX10_needed_19 : decode cX10_needed 19 = .ok (.invokevirtual 78, 3) := by decide +kernel
theorem dX10_needed_22 : decode cX10_needed 22 = .ok (.iadd, 1) := by decide +kernel
theorem dX10_needed_23 : decode cX10_needed 23 = .ok (.if_icmp .ge 66, 3) := by decide +kernel
theorem dX10_needed_26 : decode cX10_needed 26 = .ok (.iload 5, 2) := by decide +kernel
theorem dX10_needed_28 : decode cX10_needed 28 = .ok (.ifCond .eq 22, 3) := by decide +kernel
theorem dX10_needed_31 : decode cX10_needed 31 = .ok (.aload_n 0, 1) := by decide +kernel
theorem dX10_needed_32 : decode cX10_needed 32 = .ok (.iload_n 2, 1) := by decide +kernel
theorem dX10_needed_33 : decode cX10_needed 33 = .ok (.iload 5, 2) := by decide +kernel
